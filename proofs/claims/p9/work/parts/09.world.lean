theorem k_8 : Cond.selects RX5 yX5_isSilent yX5_isSilent ∈ tb := mt 8 (by decide +kernel) rfl
theorem k_9 : Cond.selects RX5 yX5_askedBy yX5_askedBy ∈ tb := mt 9 (by decide +kernel) rfl
theorem k_10 : Cond.selects RX5 yX5_canAsk yX5_canAsk ∈ tb := mt 10 (by decide +kernel) rfl
theorem k_59 : Cond.initialized RX5 ∈ tb := mt 59 (by decide +kernel) rfl
theorem k_122 : Cond.fieldLink RX5 71 "TwiceOnce$Program" "words" "[I" ∈ tb := mt 122 (by decide +kernel) rfl
theorem k_126 : Cond.fieldLink RX5 74 "TwiceOnce$Program" "targets" "[I" ∈ tb := mt 126 (by decide +kernel) rfl
theorem k_133 : Cond.fieldLink RX5 68 "TwiceOnce$Program" "size" "I" ∈ tb := mt 133 (by decide +kernel) rfl
theorem k_145 : Cond.fieldLink RX5 64 "TwiceOnce$Service" "program" "LTwiceOnce$Program;" ∈ tb := mt 145 (by decide +kernel) rfl
theorem k_151 : Cond.fieldLink RX5 133 "TwiceOnce$Service" "counter" "I" ∈ tb := mt 151 (by decide +kernel) rfl
theorem k_154 : Cond.fieldLink RX5 52 "TwiceOnce$Service" "mends" "I" ∈ tb := mt 154 (by decide +kernel) rfl
theorem k_156 : Cond.fieldLink RX5 49 "TwiceOnce$Service" "holdTicks" "I" ∈ tb := mt 156 (by decide +kernel) rfl
theorem k_199 : Cond.fieldLink RX5 11 "TwiceOnce$World" "services" "[LTwiceOnce$Service;" ∈ tb := mt 199 (by decide +kernel) rfl
theorem k_205 : Cond.fieldLink RX5 21 "TwiceOnce$World" "ticks" "I" ∈ tb := mt 205 (by decide +kernel) rfl
theorem k_207 : Cond.fieldLink RX5 24 "TwiceOnce$World" "done" "[I" ∈ tb := mt 207 (by decide +kernel) rfl
theorem k_210 : Cond.fieldLink RX5 28 "TwiceOnce$World" "doneInAll" "I" ∈ tb := mt 210 (by decide +kernel) rfl
theorem k_245 : Cond.fieldLink RX5 58 "TwiceOnce$CallList" "services" "[I" ∈ tb := mt 245 (by decide +kernel) rfl
theorem k_255 : Cond.fieldLink RX5 55 "TwiceOnce$CallList" "size" "I" ∈ tb := mt 255 (by decide +kernel) rfl
theorem k_466 : Cond.methodLink RX5 81 yX5_isSilent ∈ tb := mt 466 (by decide +kernel) rfl
theorem k_468 : Cond.instanceMethod yX5_isSilent ∈ tb := mt 468 (by decide +kernel) rfl
set_option maxRecDepth 20000 in
theorem k_469 : Cond.code yX5_isSilent cX5_isSilent 5 (some .boolean) ∈ tb := mt 469 rfl rfl
theorem k_470 : Cond.methodLink RX5 60 yX5_askedBy ∈ tb := mt 470 (by decide +kernel) rfl
theorem k_472 : Cond.instanceMethod yX5_askedBy ∈ tb := mt 472 (by decide +kernel) rfl
set_option maxRecDepth 20000 in
theorem k_473 : Cond.code yX5_askedBy cX5_askedBy 5 (some .int) ∈ tb := mt 473 rfl rfl
theorem k_474 : Cond.methodLink RX5 77 yX5_canAsk ∈ tb := mt 474 (by decide +kernel) rfl
theorem k_476 : Cond.instanceMethod yX5_canAsk ∈ tb := mt 476 (by decide +kernel) rfl
set_option maxRecDepth 20000 in
theorem k_477 : Cond.code yX5_canAsk cX5_canAsk 3 (some .boolean) ∈ tb := mt 477 rfl rfl
theorem k_586 : Cond.methodLink RX5 42 yX3_copyFrom ∈ tb := mt 586 (by decide +kernel) rfl
theorem k_587 : Cond.instanceMethod yX3_copyFrom ∈ tb := mt 587 (by decide +kernel) rfl
theorem k_588 : Cond.selects RX3 yX3_copyFrom yX3_copyFrom ∈ tb := mt 588 (by decide +kernel) rfl
set_option maxRecDepth 20000 in
theorem k_589 : Cond.code yX3_copyFrom cX3_copyFrom 2 none ∈ tb := mt 589 rfl rfl
theorem k_607 : Cond.methodLink RX5 129 yX3_hasSameStore ∈ tb := mt 607 (by decide +kernel) rfl
theorem k_608 : Cond.instanceMethod yX3_hasSameStore ∈ tb := mt 608 (by decide +kernel) rfl
theorem k_609 : Cond.selects RX3 yX3_hasSameStore yX3_hasSameStore ∈ tb := mt 609 (by decide +kernel) rfl
set_option maxRecDepth 20000 in
theorem k_610 : Cond.code yX3_hasSameStore cX3_hasSameStore 3 (some .boolean) ∈ tb := mt 610 rfl rfl
theorem k_731 : Cond.methodLink RX5 46 yX3_makeFresh ∈ tb := mt 731 (by decide +kernel) rfl
theorem k_732 : Cond.instanceMethod yX3_makeFresh ∈ tb := mt 732 (by decide +kernel) rfl
theorem k_733 : Cond.selects RX3 yX3_makeFresh yX3_makeFresh ∈ tb := mt 733 (by decide +kernel) rfl
set_option maxRecDepth 20000 in
theorem k_734 : Cond.code yX3_makeFresh cX3_makeFresh 2 none ∈ tb := mt 734 rfl rfl
theorem dX3_copyFrom_0 : decode cX3_copyFrom 0 = .ok (.aload_n 0, 1) := by decide +kernel
theorem dX3_copyFrom_1 : decode cX3_copyFrom 1 = .ok (.aload_n 1, 1) := by decide +kernel
theorem dX3_copyFrom_2 : decode cX3_copyFrom 2 = .ok (.getfield 12, 3) := by decide +kernel
theorem dX3_copyFrom_5 : decode cX3_copyFrom 5 = .ok (.putfield 12, 3) := by decide +kernel
theorem dX3_copyFrom_8 : decode cX3_copyFrom 8 = .ok (.aload_n 1, 1) := by decide +kernel
theorem dX3_copyFrom_9 : decode cX3_copyFrom 9 = .ok (.getfield 18, 3) := by decide +kernel
theorem dX3_copyFrom_12 : decode cX3_copyFrom 12 = .ok (.iconst 0, 1) := by decide +kernel
theorem dX3_copyFrom_13 : decode cX3_copyFrom 13 = .ok (.aload_n 0, 1) := by decide +kernel
theorem dX3_copyFrom_14 : decode cX3_copyFrom 14 = .ok (.getfield 18, 3) := by decide +kernel
theorem dX3_copyFrom_17 : decode cX3_copyFrom 17 = .ok (.iconst 0, 1) := by decide +kernel
theorem dX3_copyFrom_18 : decode cX3_copyFrom 18 = .ok (.iconst 4, 1) := by decide +kernel
theorem dX3_copyFrom_19 : decode cX3_copyFrom 19 = .ok (.invokestatic 63, 3) := by decide +kernel
theorem dX3_copyFrom_22 : decode cX3_copyFrom 22 = .ok (.aload_n 0, 1) := by decide +kernel
theorem dX3_copyFrom_23 : decode cX3_copyFrom 23 = .ok (.aload_n 1, 1) := by decide +kernel
theorem dX3_copyFrom_24 : decode cX3_copyFrom 24 = .ok (.getfield 22, 3) := by decide +kernel
theorem dX3_copyFrom_27 : decode cX3_copyFrom 27 = .ok (.putfield 22, 3) := by decide +kernel
theorem dX3_copyFrom_30 : decode cX3_copyFrom 30 = .ok (.aload_n 0, 1) := by decide +kernel
theorem dX3_copyFrom_31 : decode cX3_copyFrom 31 = .ok (.aload_n 1, 1) := by decide +kernel
theorem dX3_copyFrom_32 : decode cX3_copyFrom 32 = .ok (.getfield 26, 3) := by decide +kernel
theorem dX3_copyFrom_35 : decode cX3_copyFrom 35 = .ok (.putfield 26, 3) := by decide +kernel
theorem dX3_copyFrom_38 : decode cX3_copyFrom 38 = .ok (.aload_n 0, 1) := by decide +kernel
theorem dX3_copyFrom_39 : decode cX3_copyFrom 39 = .ok (.aload_n 1, 1) := by decide +kernel
theorem dX3_copyFrom_40 : decode cX3_copyFrom 40 = .ok (.getfield 29, 3) := by decide +kernel
theorem dX3_copyFrom_43 : decode cX3_copyFrom 43 = .ok (.putfield 29, 3) := by decide +kernel
theorem dX3_copyFrom_46 : decode cX3_copyFrom 46 = .ok (.aload_n 0, 1) := by decide +kernel
theorem dX3_copyFrom_47 : decode cX3_copyFrom 47 = .ok (.aload_n 1, 1) := by decide +kernel
theorem dX3_copyFrom_48 : decode cX3_copyFrom 48 = .ok (.getfield 32, 3) := by decide +kernel
theorem dX3_copyFrom_51 : decode cX3_copyFrom 51 = .ok (.putfield 32, 3) := by decide +kernel
theorem dX3_copyFrom_54 : decode cX3_copyFrom 54 = .ok (.aload_n 1, 1) := by decide +kernel
theorem dX3_copyFrom_55 : decode cX3_copyFrom 55 = .ok (.getfield 35, 3) := by decide +kernel
theorem dX3_copyFrom_58 : decode cX3_copyFrom 58 = .ok (.iconst 0, 1) := by decide +kernel
theorem dX3_copyFrom_59 : decode cX3_copyFrom 59 = .ok (.aload_n 0, 1) := by decide +kernel
theorem dX3_copyFrom_60 : decode cX3_copyFrom 60 = .ok (.getfield 35, 3) := by decide +kernel
theorem dX3_copyFrom_63 : decode cX3_copyFrom 63 = .ok (.iconst 0, 1) := by decide +kernel
theorem dX3_copyFrom_64 : decode cX3_copyFrom 64 = .ok (.aload_n 0, 1) := by decide +kernel
theorem dX3_copyFrom_65 : decode cX3_copyFrom 65 = .ok (.getfield 32, 3) := by decide +kernel
theorem dX3_copyFrom_68 : decode cX3_copyFrom 68 = .ok (.invokestatic 63, 3) := by decide +kernel
theorem dX3_copyFrom_71 : decode cX3_copyFrom 71 = .ok (.aload_n 1, 1) := by decide +kernel
theorem dX3_copyFrom_72 : decode cX3_copyFrom 72 = .ok (.getfield 38, 3) := by decide +kernel
theorem dX3_copyFrom_75 : decode cX3_copyFrom 75 = .ok (.iconst 0, 1) := by decide +kernel
theorem dX3_copyFrom_76 : decode cX3_copyFrom 76 = .ok (.aload_n 0, 1) := by decide +kernel
theorem dX3_copyFrom_77 : decode cX3_copyFrom 77 = .ok (.getfield 38, 3) := by decide +kernel
theorem dX3_copyFrom_80 : decode cX3_copyFrom 80 = .ok (.iconst 0, 1) := by decide +kernel
theorem dX3_copyFrom_81 : decode cX3_copyFrom 81 = .ok (.aload_n 0, 1) := by decide +kernel
theorem dX3_copyFrom_82 : decode cX3_copyFrom 82 = .ok (.getfield 32, 3) := by decide +kernel
theorem dX3_copyFrom_85 : decode cX3_copyFrom 85 = .ok (.invokestatic 63, 3) := by decide +kernel
theorem dX3_copyFrom_88 : decode cX3_copyFrom 88 = .ok (.aload_n 1, 1) := by decide +kernel
theorem dX3_copyFrom_89 : decode cX3_copyFrom 89 = .ok (.getfield 41, 3) := by decide +kernel
theorem dX3_copyFrom_92 : decode cX3_copyFrom 92 = .ok (.iconst 0, 1) := by decide +kernel
theorem dX3_copyFrom_93 : decode cX3_copyFrom 93 = .ok (.aload_n 0, 1) := by decide +kernel
theorem dX3_copyFrom_94 : decode cX3_copyFrom 94 = .ok (.getfield 41, 3) := by decide +kernel
theorem dX3_copyFrom_97 : decode cX3_copyFrom 97 = .ok (.iconst 0, 1) := by decide +kernel
theorem dX3_copyFrom_98 : decode cX3_copyFrom 98 = .ok (.aload_n 0, 1) := by decide +kernel
theorem dX3_copyFrom_99 : decode cX3_copyFrom 99 = .ok (.getfield 32, 3) := by decide +kernel
theorem dX3_copyFrom_102 : decode cX3_copyFrom 102 = .ok (.invokestatic 63, 3) := by decide +kernel
theorem dX3_copyFrom_105 : decode cX3_copyFrom 105 = .ok (.aload_n 1, 1) := by decide +kernel
theorem dX3_copyFrom_106 : decode cX3_copyFrom 106 = .ok (.getfield 44, 3) := by decide +kernel
theorem dX3_copyFrom_109 : decode cX3_copyFrom 109 = .ok (.iconst 0, 1) := by decide +kernel
theorem dX3_copyFrom_110 : decode cX3_copyFrom 110 = .ok (.aload_n 0, 1) := by decide +kernel
theorem dX3_copyFrom_111 : decode cX3_copyFrom 111 = .ok (.getfield 44, 3) := by decide +kernel
theorem dX3_copyFrom_114 : decode cX3_copyFrom 114 = .ok (.iconst 0, 1) := by decide +kernel
theorem dX3_copyFrom_115 : decode cX3_copyFrom 115 = .ok (.aload_n 0, 1) := by decide +kernel
theorem dX3_copyFrom_116 : decode cX3_copyFrom 116 = .ok (.getfield 32, 3) := by decide +kernel
theorem dX3_copyFrom_119 : decode cX3_copyFrom 119 = .ok (.invokestatic 63, 3) := by decide +kernel
theorem dX3_copyFrom_122 : decode cX3_copyFrom 122 = .ok (.aload_n 0, 1) := by decide +kernel
theorem dX3_copyFrom_123 : decode cX3_copyFrom 123 = .ok (.aload_n 1, 1) := by decide +kernel
theorem dX3_copyFrom_124 : decode cX3_copyFrom 124 = .ok (.getfield 47, 3) := by decide +kernel
theorem dX3_copyFrom_127 : decode cX3_copyFrom 127 = .ok (.putfield 47, 3) := by decide +kernel
theorem dX3_copyFrom_130 : decode cX3_copyFrom 130 = .ok (.aload_n 0, 1) := by decide +kernel
theorem dX3_copyFrom_131 : decode cX3_copyFrom 131 = .ok (.aload_n 1, 1) := by decide +kernel
theorem dX3_copyFrom_132 : decode cX3_copyFrom 132 = .ok (.getfield 50, 3) := by decide +kernel
theorem dX3_copyFrom_135 : decode cX3_copyFrom 135 = .ok (.putfield 50, 3) := by decide +kernel
theorem dX3_copyFrom_138 : decode cX3_copyFrom 138 = .ok (.aload_n 1, 1) := by decide +kernel
theorem dX3_copyFrom_139 : decode cX3_copyFrom 139 = .ok (.getfield 53, 3) := by decide +kernel
theorem dX3_copyFrom_142 : decode cX3_copyFrom 142 = .ok (.iconst 0, 1) := by decide +kernel
theorem dX3_copyFrom_143 : decode cX3_copyFrom 143 = .ok (.aload_n 0, 1) := by decide +kernel
theorem dX3_copyFrom_144 : decode cX3_copyFrom 144 = .ok (.getfield 53, 3) := by decide +kernel
theorem dX3_copyFrom_147 : decode cX3_copyFrom 147 = .ok (.iconst 0, 1) := by decide +kernel
theorem dX3_copyFrom_148 : decode cX3_copyFrom 148 = .ok (.bipush 8, 2) := by decide +kernel
theorem dX3_copyFrom_150 : decode cX3_copyFrom 150 = .ok (.invokestatic 63, 3) := by decide +kernel
theorem dX3_copyFrom_153 : decode cX3_copyFrom 153 = .ok (.return_, 1) := by decide +kernel
theorem dX3_hasSameStore_2 : decode cX3_hasSameStore 2 = .ok (.iload_n 2, 1) := by decide +kernel
theorem dX3_hasSameStore_3 : decode cX3_hasSameStore 3 = .ok (.iconst 4, 1) := by decide +kernel
theorem dX3_hasSameStore_4 : decode cX3_hasSameStore 4 = .ok (.if_icmp .ge 26, 3) := by decide +kernel
theorem dX3_hasSameStore_30 : decode cX3_hasSameStore 30 = .ok (.iconst 1, 1) := by decide +kernel
theorem dX3_hasSameStore_31 : decode cX3_hasSameStore 31 = .ok (.ireturn, 1) := by decide +kernel
theorem dX3_hasSameStore_7 : decode cX3_hasSameStore 7 = .ok (.aload_n 0, 1) := by decide +kernel
theorem dX3_hasSameStore_8 : decode cX3_hasSameStore 8 = .ok (.getfield 18, 3) := by decide +kernel
theorem dX3_hasSameStore_11 : decode cX3_hasSameStore 11 = .ok (.iload_n 2, 1) := by decide +kernel
theorem dX3_hasSameStore_12 : decode cX3_hasSameStore 12 = .ok (.iaload, 1) := by decide +kernel
theorem dX3_hasSameStore_13 : decode cX3_hasSameStore 13 = .ok (.aload_n 1, 1) := by decide +kernel
theorem dX3_hasSameStore_14 : decode cX3_hasSameStore 14 = .ok (.getfield 18, 3) := by decide +kernel
theorem dX3_hasSameStore_17 : decode cX3_hasSameStore 17 = .ok (.iload_n 2, 1) := by decide +kernel
theorem dX3_hasSameStore_18 : decode cX3_hasSameStore 18 = .ok (.iaload, 1) := by decide +kernel
theorem dX3_hasSameStore_19 : decode cX3_hasSameStore 19 = .ok (.if_icmp .eq 5, 3) := by decide +kernel
theorem dX3_hasSameStore_24 : decode cX3_hasSameStore 24 = .ok (.iinc 2 1, 3) := by decide +kernel
theorem dX3_hasSameStore_27 : decode cX3_hasSameStore 27 = .ok (.goto (-25), 3) := by decide +kernel
theorem dX3_hasSameStore_22 : decode cX3_hasSameStore 22 = .ok (.iconst 0, 1) := by decide +kernel
theorem dX3_hasSameStore_23 : decode cX3_hasSameStore 23 = .ok (.ireturn, 1) := by decide +kernel
theorem dX3_hasSameStore_0 : decode cX3_hasSameStore 0 = .ok (.iconst 0, 1) := by decide +kernel
theorem dX3_hasSameStore_1 : decode cX3_hasSameStore 1 = .ok (.istore_n 2, 1) := by decide +kernel
theorem dX5_copyFrom_23 : decode cX5_copyFrom 23 = .ok (.iload_n 2, 1) := by decide +kernel
theorem dX5_copyFrom_24 : decode cX5_copyFrom 24 = .ok (.aload_n 0, 1) := by decide +kernel
theorem dX5_copyFrom_25 : decode cX5_copyFrom 25 = .ok (.getfield 17, 3) := by decide +kernel
theorem dX5_copyFrom_28 : decode cX5_copyFrom 28 = .ok (.if_icmp .ge 24, 3) := by decide +kernel
theorem dX5_copyFrom_52 : decode cX5_copyFrom 52 = .ok (.return_, 1) := by decide +kernel
theorem dX5_copyFrom_31 : decode cX5_copyFrom 31 = .ok (.aload_n 0, 1) := by decide +kernel
theorem dX5_copyFrom_32 : decode cX5_copyFrom 32 = .ok (.getfield 11, 3) := by decide +kernel
theorem dX5_copyFrom_35 : decode cX5_copyFrom 35 = .ok (.iload_n 2, 1) := by decide +kernel
theorem dX5_copyFrom_36 : decode cX5_copyFrom 36 = .ok (.aaload, 1) := by decide +kernel
theorem dX5_copyFrom_37 : decode cX5_copyFrom 37 = .ok (.aload_n 1, 1) := by decide +kernel
theorem dX5_copyFrom_38 : decode cX5_copyFrom 38 = .ok (.getfield 11, 3) := by decide +kernel
theorem dX5_copyFrom_41 : decode cX5_copyFrom 41 = .ok (.iload_n 2, 1) := by decide +kernel
theorem dX5_copyFrom_42 : decode cX5_copyFrom 42 = .ok (.aaload, 1) := by decide +kernel
theorem dX5_copyFrom_43 : decode cX5_copyFrom 43 = .ok (.invokevirtual 42, 3) := by decide +kernel
theorem dX5_copyFrom_46 : decode cX5_copyFrom 46 = .ok (.iinc 2 1, 3) := by decide +kernel
theorem dX5_copyFrom_49 : decode cX5_copyFrom 49 = .ok (.goto (-26), 3) := by decide +kernel
theorem dX5_copyFrom_0 : decode cX5_copyFrom 0 = .ok (.aload_n 0, 1) := by decide +kernel
theorem dX5_copyFrom_1 : decode cX5_copyFrom 1 = .ok (.aload_n 1, 1) := by decide +kernel
theorem dX5_copyFrom_2 : decode cX5_copyFrom 2 = .ok (.getfield 17, 3) := by decide +kernel
theorem dX5_copyFrom_5 : decode cX5_copyFrom 5 = .ok (.putfield 17, 3) := by decide +kernel
theorem dX5_copyFrom_8 : decode cX5_copyFrom 8 = .ok (.aload_n 0, 1) := by decide +kernel
theorem dX5_copyFrom_9 : decode cX5_copyFrom 9 = .ok (.aload_n 1, 1) := by decide +kernel
theorem dX5_copyFrom_10 : decode cX5_copyFrom 10 = .ok (.getfield 21, 3) := by decide +kernel
theorem dX5_copyFrom_13 : decode cX5_copyFrom 13 = .ok (.putfield 21, 3) := by decide +kernel
theorem dX5_copyFrom_16 : decode cX5_copyFrom 16 = .ok (.aload_n 0, 1) := by decide +kernel
theorem dX5_copyFrom_17 : decode cX5_copyFrom 17 = .ok (.iconst 0, 1) := by decide +kernel
theorem dX5_copyFrom_18 : decode cX5_copyFrom 18 = .ok (.putfield 28, 3) := by decide +kernel
theorem dX5_copyFrom_21 : decode cX5_copyFrom 21 = .ok (.iconst 0, 1) := by decide +kernel
theorem dX5_copyFrom_22 : decode cX5_copyFrom 22 = .ok (.istore_n 2, 1) := by decide +kernel
theorem dX5_makeFresh_12 : decode cX5_makeFresh 12 = .ok (.iload_n 1, 1) := by decide +kernel
theorem dX5_makeFresh_13 : decode cX5_makeFresh 13 = .ok (.aload_n 0, 1) := by decide +kernel
theorem dX5_makeFresh_14 : decode cX5_makeFresh 14 = .ok (.getfield 17, 3) := by decide +kernel
theorem dX5_makeFresh_17 : decode cX5_makeFresh 17 = .ok (.if_icmp .ge 18, 3) := by decide +kernel
theorem dX5_makeFresh_35 : decode cX5_makeFresh 35 = .ok (.return_, 1) := by decide +kernel
theorem dX5_makeFresh_20 : decode cX5_makeFresh 20 = .ok (.aload_n 0, 1) := by decide +kernel
theorem dX5_makeFresh_21 : decode cX5_makeFresh 21 = .ok (.getfield 11, 3) := by decide +kernel
theorem dX5_makeFresh_24 : decode cX5_makeFresh 24 = .ok (.iload_n 1, 1) := by decide +kernel
theorem dX5_makeFresh_25 : decode cX5_makeFresh 25 = .ok (.aaload, 1) := by decide +kernel
theorem dX5_makeFresh_26 : decode cX5_makeFresh 26 = .ok (.invokevirtual 46, 3) := by decide +kernel
theorem dX5_makeFresh_29 : decode cX5_makeFresh 29 = .ok (.iinc 1 1, 3) := by decide +kernel
theorem dX5_makeFresh_32 : decode cX5_makeFresh 32 = .ok (.goto (-20), 3) := by decide +kernel
theorem dX5_makeFresh_0 : decode cX5_makeFresh 0 = .ok (.aload_n 0, 1) := by decide +kernel
theorem dX5_makeFresh_1 : decode cX5_makeFresh 1 = .ok (.iconst 0, 1) := by decide +kernel
theorem dX5_makeFresh_2 : decode cX5_makeFresh 2 = .ok (.putfield 21, 3) := by decide +kernel
theorem dX5_makeFresh_5 : decode cX5_makeFresh 5 = .ok (.aload_n 0, 1) := by decide +kernel
theorem dX5_makeFresh_6 : decode cX5_makeFresh 6 = .ok (.iconst 0, 1) := by decide +kernel
theorem dX5_makeFresh_7 : decode cX5_makeFresh 7 = .ok (.putfield 28, 3) := by decide +kernel
theorem dX5_makeFresh_10 : decode cX5_makeFresh 10 = .ok (.iconst 0, 1) := by decide +kernel
theorem dX5_makeFresh_11 : decode cX5_makeFresh 11 = .ok (.istore_n 1, 1) := by decide +kernel
theorem dX5_holdAll_2 : decode cX5_holdAll 2 = .ok (.iload_n 2, 1) := by decide +kernel
theorem dX5_holdAll_3 : decode cX5_holdAll 3 = .ok (.aload_n 0, 1) := by decide +kernel
theorem dX5_holdAll_4 : decode cX5_holdAll 4 = .ok (.getfield 17, 3) := by decide +kernel
theorem dX5_holdAll_7 : decode cX5_holdAll 7 = .ok (.if_icmp .ge 19, 3) := by decide +kernel
theorem dX5_holdAll_26 : decode cX5_holdAll 26 = .ok (.return_, 1) := by decide +kernel
theorem dX5_holdAll_10 : decode cX5_holdAll 10 = .ok (.aload_n 0, 1) := by decide +kernel
theorem dX5_holdAll_11 : decode cX5_holdAll 11 = .ok (.getfield 11, 3) := by decide +kernel
theorem dX5_holdAll_14 : decode cX5_holdAll 14 = .ok (.iload_n 2, 1) := by decide +kernel
theorem dX5_holdAll_15 : decode cX5_holdAll 15 = .ok (.aaload, 1) := by decide +kernel
theorem dX5_holdAll_16 : decode cX5_holdAll 16 = .ok (.iload_n 1, 1) := by decide +kernel
theorem dX5_holdAll_17 : decode cX5_holdAll 17 = .ok (.putfield 49, 3) := by decide +kernel
theorem dX5_holdAll_20 : decode cX5_holdAll 20 = .ok (.iinc 2 1, 3) := by decide +kernel
theorem dX5_holdAll_23 : decode cX5_holdAll 23 = .ok (.goto (-21), 3) := by decide +kernel
theorem dX5_holdAll_0 : decode cX5_holdAll 0 = .ok (.iconst 0, 1) := by decide +kernel
theorem dX5_holdAll_1 : decode cX5_holdAll 1 = .ok (.istore_n 2, 1) := by decide +kernel
theorem dX5_addMends_2 : decode cX5_addMends 2 = .ok (.iload_n 2, 1) := by decide +kernel
theorem dX5_addMends_3 : decode cX5_addMends 3 = .ok (.aload_n 0, 1) := by decide +kernel
theorem dX5_addMends_4 : decode cX5_addMends 4 = .ok (.getfield 17, 3) := by decide +kernel
theorem dX5_addMends_7 : decode cX5_addMends 7 = .ok (.if_icmp .ge 31, 3) := by decide +kernel
theorem dX5_addMends_38 : decode cX5_addMends 38 = .ok (.return_, 1) := by decide +kernel
theorem dX5_addMends_10 : decode cX5_addMends 10 = .ok (.aload_n 0, 1) := by decide +kernel
theorem dX5_addMends_11 : decode cX5_addMends 11 = .ok (.getfield 11, 3) := by decide +kernel
theorem dX5_addMends_14 : decode cX5_addMends 14 = .ok (.iload_n 2, 1) := by decide +kernel
theorem dX5_addMends_15 : decode cX5_addMends 15 = .ok (.aaload, 1) := by decide +kernel
theorem dX5_addMends_16 : decode cX5_addMends 16 = .ok (.dup, 1) := by decide +kernel
theorem dX5_addMends_17 : decode cX5_addMends 17 = .ok (.getfield 52, 3) := by decide +kernel
theorem dX5_addMends_20 : decode cX5_addMends 20 = .ok (.iload_n 1, 1) := by decide +kernel
theorem dX5_addMends_21 : decode cX5_addMends 21 = .ok (.iconst 4, 1) := by decide +kernel
theorem dX5_addMends_22 : decode cX5_addMends 22 = .ok (.iload_n 2, 1) := by decide +kernel
theorem dX5_addMends_23 : decode cX5_addMends 23 = .ok (.imul, 1) := by decide +kernel
theorem dX5_addMends_24 : decode cX5_addMends 24 = .ok (.ishr, 1) := by decide +kernel
theorem dX5_addMends_25 : decode cX5_addMends 25 = .ok (.bipush 15, 2) := by decide +kernel
theorem dX5_addMends_27 : decode cX5_addMends 27 = .ok (.iand, 1) := by decide +kernel
theorem dX5_addMends_28 : decode cX5_addMends 28 = .ok (.ior, 1) := by decide +kernel
theorem dX5_addMends_29 : decode cX5_addMends 29 = .ok (.putfield 52, 3) := by decide +kernel
theorem dX5_addMends_32 : decode cX5_addMends 32 = .ok (.iinc 2 1, 3) := by decide +kernel
theorem dX5_addMends_35 : decode cX5_addMends 35 = .ok (.goto (-33), 3) := by decide +kernel
theorem dX5_addMends_0 : decode cX5_addMends 0 = .ok (.iconst 0, 1) := by decide +kernel
theorem dX5_addMends_1 : decode cX5_addMends 1 = .ok (.istore_n 2, 1) := by decide +kernel
theorem dX5_hasSameStores_2 : decode cX5_hasSameStores 2 = .ok (.iload_n 2, 1) := by decide +kernel
theorem dX5_hasSameStores_3 : decode cX5_hasSameStores 3 = .ok (.aload_n 0, 1) := by decide +kernel
theorem dX5_hasSameStores_4 : decode cX5_hasSameStores 4 = .ok (.getfield 17, 3) := by decide +kernel
theorem dX5_hasSameStores_7 : decode cX5_hasSameStores 7 = .ok (.if_icmp .ge 29, 3) := by decide +kernel
theorem dX5_hasSameStores_36 : decode cX5_hasSameStores 36 = .ok (.iconst 1, 1) := by decide +kernel
theorem dX5_hasSameStores_37 : decode cX5_hasSameStores 37 = .ok (.ireturn, 1) := by decide +kernel
theorem dX5_hasSameStores_10 : decode cX5_hasSameStores 10 = .ok (.aload_n 0, 1) := by decide +kernel
theorem dX5_hasSameStores_11 : decode cX5_hasSameStores 11 = .ok (.getfield 11, 3) := by decide +kernel
theorem dX5_hasSameStores_14 : decode cX5_hasSameStores 14 = .ok (.iload_n 2, 1) := by decide +kernel
theorem dX5_hasSameStores_15 : decode cX5_hasSameStores 15 = .ok (.aaload, 1) := by decide +kernel
theorem dX5_hasSameStores_16 : decode cX5_hasSameStores 16 = .ok (.aload_n 1, 1) := by decide +kernel
theorem dX5_hasSameStores_17 : decode cX5_hasSameStores 17 = .ok (.getfield 11, 3) := by decide +kernel
theorem dX5_hasSameStores_20 : decode cX5_hasSameStores 20 = .ok (.iload_n 2, 1) := by decide +kernel
theorem dX5_hasSameStores_21 : decode cX5_hasSameStores 21 = .ok (.aaload, 1) := by decide +kernel
theorem dX5_hasSameStores_22 : decode cX5_hasSameStores 22 = .ok (.invokevirtual 129, 3) := by decide +kernel
theorem dX5_hasSameStores_25 : decode cX5_hasSameStores 25 = .ok (.ifCond .ne 5, 3) := by decide +kernel
theorem dX5_hasSameStores_30 : decode cX5_hasSameStores 30 = .ok (.iinc 2 1, 3) := by decide +kernel
theorem dX5_hasSameStores_33 : decode cX5_hasSameStores 33 = .ok (.goto (-31), 3) := by decide +kernel
theorem dX5_hasSameStores_28 : decode cX5_hasSameStores 28 = .ok (.iconst 0, 1) := by decide +kernel
theorem dX5_hasSameStores_29 : decode cX5_hasSameStores 29 = .ok (.ireturn, 1) := by decide +kernel
theorem dX5_hasSameStores_0 : decode cX5_hasSameStores 0 = .ok (.iconst 0, 1) := by decide +kernel
theorem dX5_hasSameStores_1 : decode cX5_hasSameStores 1 = .ok (.istore_n 2, 1) := by decide +kernel
theorem dX5_hasSameCounts_2 : decode cX5_hasSameCounts 2 = .ok (.iload_n 2, 1) := by decide +kernel
theorem dX5_hasSameCounts_3 : decode cX5_hasSameCounts 3 = .ok (.aload_n 0, 1) := by decide +kernel
theorem dX5_hasSameCounts_4 : decode cX5_hasSameCounts 4 = .ok (.getfield 17, 3) := by decide +kernel
theorem dX5_hasSameCounts_7 : decode cX5_hasSameCounts 7 = .ok (.if_icmp .ge 32, 3) := by decide +kernel
theorem dX5_hasSameCounts_39 : decode cX5_hasSameCounts 39 = .ok (.iconst 1, 1) := by decide +kernel
theorem dX5_hasSameCounts_40 : decode cX5_hasSameCounts 40 = .ok (.ireturn, 1) := by decide +kernel
theorem dX5_hasSameCounts_10 : decode cX5_hasSameCounts 10 = .ok (.aload_n 0, 1) := by decide +kernel
theorem dX5_hasSameCounts_11 : decode cX5_hasSameCounts 11 = .ok (.getfield 11, 3) := by decide +kernel
theorem dX5_hasSameCounts_14 : decode cX5_hasSameCounts 14 = .ok (.iload_n 2, 1) := by decide +kernel
theorem dX5_hasSameCounts_15 : decode cX5_hasSameCounts 15 = .ok (.aaload, 1) := by decide +kernel
theorem dX5_hasSameCounts_16 : decode cX5_hasSameCounts 16 = .ok (.getfield 133, 3) := by decide +kernel
theorem dX5_hasSameCounts_19 : decode cX5_hasSameCounts 19 = .ok (.aload_n 1, 1) := by decide +kernel
theorem dX5_hasSameCounts_20 : decode cX5_hasSameCounts 20 = .ok (.getfield 11, 3) := by decide +kernel
theorem dX5_hasSameCounts_23 : decode cX5_hasSameCounts 23 = .ok (.iload_n 2, 1) := by decide +kernel
theorem dX5_hasSameCounts_24 : decode cX5_hasSameCounts 24 = .ok (.aaload, 1) := by decide +kernel
theorem dX5_hasSameCounts_25 : decode cX5_hasSameCounts 25 = .ok (.getfield 133, 3) := by decide +kernel
theorem dX5_hasSameCounts_28 : decode cX5_hasSameCounts 28 = .ok (.if_icmp .eq 5, 3) := by decide +kernel
theorem dX5_hasSameCounts_33 : decode cX5_hasSameCounts 33 = .ok (.iinc 2 1, 3) := by decide +kernel
theorem dX5_hasSameCounts_36 : decode cX5_hasSameCounts 36 = .ok (.goto (-34), 3) := by decide +kernel
theorem dX5_hasSameCounts_31 : decode cX5_hasSameCounts 31 = .ok (.iconst 0, 1) := by decide +kernel
theorem dX5_hasSameCounts_32 : decode cX5_hasSameCounts 32 = .ok (.ireturn, 1) := by decide +kernel
theorem dX5_hasSameCounts_0 : decode cX5_hasSameCounts 0 = .ok (.iconst 0, 1) := by decide +kernel
theorem dX5_hasSameCounts_1 : decode cX5_hasSameCounts 1 = .ok (.istore_n 2, 1) := by decide +kernel
theorem dX5_didTheSame_15 : decode cX5_didTheSame 15 = .ok (.iload_n 2, 1) := by decide +kernel
theorem dX5_didTheSame_16 : decode cX5_didTheSame 16 = .ok (.aload_n 0, 1) := by decide +kernel
theorem dX5_didTheSame_17 : decode cX5_didTheSame 17 = .ok (.getfield 28, 3) := by decide +kernel
theorem dX5_didTheSame_20 : decode cX5_didTheSame 20 = .ok (.if_icmp .ge 33, 3) := by decide +kernel
theorem dX5_didTheSame_53 : decode cX5_didTheSame 53 = .ok (.iconst 1, 1) := by decide +kernel
theorem dX5_didTheSame_54 : decode cX5_didTheSame 54 = .ok (.ireturn, 1) := by decide +kernel
theorem dX5_didTheSame_23 : decode cX5_didTheSame 23 = .ok (.iload_n 2, 1) := by decide +kernel
theorem dX5_didTheSame_24 : decode cX5_didTheSame 24 = .ok (.sipush 512, 3) := by decide +kernel
theorem dX5_didTheSame_27 : decode cX5_didTheSame 27 = .ok (.if_icmp .ge 26, 3) := by decide +kernel
theorem dX5_didTheSame_30 : decode cX5_didTheSame 30 = .ok (.aload_n 0, 1) := by decide +kernel
theorem dX5_didTheSame_31 : decode cX5_didTheSame 31 = .ok (.getfield 24, 3) := by decide +kernel
theorem dX5_didTheSame_34 : decode cX5_didTheSame 34 = .ok (.iload_n 2, 1) := by decide +kernel
theorem dX5_didTheSame_35 : decode cX5_didTheSame 35 = .ok (.iaload, 1) := by decide +kernel
theorem dX5_didTheSame_36 : decode cX5_didTheSame 36 = .ok (.aload_n 1, 1) := by decide +kernel
theorem dX5_didTheSame_37 : decode cX5_didTheSame 37 = .ok (.getfield 24, 3) := by decide +kernel
theorem dX5_didTheSame_40 : decode cX5_didTheSame 40 = .ok (.iload_n 2, 1) := by decide +kernel
theorem dX5_didTheSame_41 : decode cX5_didTheSame 41 = .ok (.iaload, 1) := by decide +kernel
theorem dX5_didTheSame_42 : decode cX5_didTheSame 42 = .ok (.if_icmp .eq 5, 3) := by decide +kernel
theorem dX5_didTheSame_47 : decode cX5_didTheSame 47 = .ok (.iinc 2 1, 3) := by decide +kernel
theorem dX5_didTheSame_50 : decode cX5_didTheSame 50 = .ok (.goto (-35), 3) := by decide +kernel
theorem dX5_didTheSame_45 : decode cX5_didTheSame 45 = .ok (.iconst 0, 1) := by decide +kernel
theorem dX5_didTheSame_46 : decode cX5_didTheSame 46 = .ok (.ireturn, 1) := by decide +kernel
theorem dX5_didTheSame_0 : decode cX5_didTheSame 0 = .ok (.aload_n 0, 1) := by decide +kernel
theorem dX5_didTheSame_1 : decode cX5_didTheSame 1 = .ok (.getfield 28, 3) := by decide +kernel
theorem dX5_didTheSame_4 : decode cX5_didTheSame 4 = .ok (.aload_n 1, 1) := by decide +kernel
theorem dX5_didTheSame_5 : decode cX5_didTheSame 5 = .ok (.getfield 28, 3) := by decide +kernel
theorem dX5_didTheSame_8 : decode cX5_didTheSame 8 = .ok (.if_icmp .eq 5, 3) := by decide +kernel
theorem dX5_didTheSame_13 : decode cX5_didTheSame 13 = .ok (.iconst 0, 1) := by decide +kernel
theorem dX5_didTheSame_14 : decode cX5_didTheSame 14 = .ok (.istore_n 2, 1) := by decide +kernel
theorem dX5_didTheSame_11 : decode cX5_didTheSame 11 = .ok (.iconst 0, 1) := by decide +kernel
theorem dX5_didTheSame_12 : decode cX5_didTheSame 12 = .ok (.ireturn, 1) := by decide +kernel
theorem dX5_askedBy_15 : decode cX5_askedBy 15 = .ok (.iload 4, 2) := by decide +kernel
theorem dX5_askedBy_17 : decode cX5_askedBy 17 = .ok (.aload_n 2, 1) := by decide +kernel
theorem dX5_askedBy_18 : decode cX5_askedBy 18 = .ok (.getfield 68, 3) := by decide +kernel
theorem dX5_askedBy_21 : decode cX5_askedBy 21 = .ok (.if_icmp .ge 47, 3) := by decide +kernel
theorem dX5_askedBy_68 : decode cX5_askedBy 68 = .ok (.iload_n 3, 1) := by decide +kernel
theorem dX5_askedBy_69 : decode cX5_askedBy 69 = .ok (.ireturn, 1) := by decide +kernel
theorem dX5_askedBy_24 : decode cX5_askedBy 24 = .ok (.aload_n 2, 1) := by decide +kernel
theorem dX5_askedBy_25 : decode cX5_askedBy 25 = .ok (.getfield 71, 3) := by decide +kernel
theorem dX5_askedBy_28 : decode cX5_askedBy 28 = .ok (.iload 4, 2) := by decide +kernel
theorem dX5_askedBy_30 : decode cX5_askedBy 30 = .ok (.iaload, 1) := by decide +kernel
theorem dX5_askedBy_31 : decode cX5_askedBy 31 = .ok (.iconst 5, 1) := by decide +kernel
theorem dX5_askedBy_32 : decode cX5_askedBy 32 = .ok (.if_icmp .ne 30, 3) := by decide +kernel
theorem dX5_askedBy_62 : decode cX5_askedBy 62 = .ok (.iinc 4 1, 3) := by decide +kernel
theorem dX5_askedBy_65 : decode cX5_askedBy 65 = .ok (.goto (-50), 3) := by decide +kernel
theorem dX5_askedBy_35 : decode cX5_askedBy 35 = .ok (.aload_n 0, 1) := by decide +kernel
theorem dX5_askedBy_36 : decode cX5_askedBy 36 = .ok (.iload_n 1, 1) := by decide +kernel
theorem dX5_askedBy_37 : decode cX5_askedBy 37 = .ok (.aload_n 2, 1) := by decide +kernel
theorem dX5_askedBy_38 : decode cX5_askedBy 38 = .ok (.getfield 74, 3) := by decide +kernel
theorem dX5_askedBy_41 : decode cX5_askedBy 41 = .ok (.iload 4, 2) := by decide +kernel
theorem dX5_askedBy_43 : decode cX5_askedBy 43 = .ok (.iaload, 1) := by decide +kernel
theorem dX5_askedBy_44 : decode cX5_askedBy 44 = .ok (.invokevirtual 77, 3) := by decide +kernel
theorem dX5_askedBy_47 : decode cX5_askedBy 47 = .ok (.ifCond .eq 15, 3) := by decide +kernel
theorem dX5_askedBy_50 : decode cX5_askedBy 50 = .ok (.iload_n 3, 1) := by decide +kernel
theorem dX5_askedBy_51 : decode cX5_askedBy 51 = .ok (.iconst 1, 1) := by decide +kernel
theorem dX5_askedBy_52 : decode cX5_askedBy 52 = .ok (.aload_n 2, 1) := by decide +kernel
theorem dX5_askedBy_53 : decode cX5_askedBy 53 = .ok (.getfield 74, 3) := by decide +kernel
theorem dX5_askedBy_56 : decode cX5_askedBy 56 = .ok (.iload 4, 2) := by decide +kernel
theorem dX5_askedBy_58 : decode cX5_askedBy 58 = .ok (.iaload, 1) := by decide +kernel
theorem dX5_askedBy_59 : decode cX5_askedBy 59 = .ok (.ishl, 1) := by decide +kernel
theorem dX5_askedBy_60 : decode cX5_askedBy 60 = .ok (.ior, 1) := by decide +kernel
theorem dX5_askedBy_61 : decode cX5_askedBy 61 = .ok (.istore_n 3, 1) := by decide +kernel
theorem dX5_askedBy_0 : decode cX5_askedBy 0 = .ok (.aload_n 0, 1) := by decide +kernel
theorem dX5_askedBy_1 : decode cX5_askedBy 1 = .ok (.getfield 11, 3) := by decide +kernel
theorem dX5_askedBy_4 : decode cX5_askedBy 4 = .ok (.iload_n 1, 1) := by decide +kernel
theorem dX5_askedBy_5 : decode cX5_askedBy 5 = .ok (.aaload, 1) := by decide +kernel
theorem dX5_askedBy_6 : decode cX5_askedBy 6 = .ok (.getfield 64, 3) := by decide +kernel
theorem dX5_askedBy_9 : decode cX5_askedBy 9 = .ok (.astore_n 2, 1) := by decide +kernel
theorem dX5_askedBy_10 : decode cX5_askedBy 10 = .ok (.iconst 0, 1) := by decide +kernel
theorem dX5_askedBy_11 : decode cX5_askedBy 11 = .ok (.istore_n 3, 1) := by decide +kernel
theorem dX5_askedBy_12 : decode cX5_askedBy 12 = .ok (.iconst 0, 1) := by decide +kernel
theorem dX5_askedBy_13 : decode cX5_askedBy 13 = .ok (.istore 4, 2) := by decide +kernel
theorem dX5_isSilent_12 : decode cX5_isSilent 12 = .ok (.iload_n 3, 1) := by decide +kernel
theorem dX5_isSilent_13 : decode cX5_isSilent 13 = .ok (.aload_n 2, 1) := by decide +kernel
theorem dX5_isSilent_14 : decode cX5_isSilent 14 = .ok (.getfield 68, 3) := by decide +kernel
theorem dX5_isSilent_17 : decode cX5_isSilent 17 = .ok (.if_icmp .ge 38, 3) := by decide +kernel
theorem dX5_isSilent_55 : decode cX5_isSilent 55 = .ok (.iconst 1, 1) := by decide +kernel
theorem dX5_isSilent_56 : decode cX5_isSilent 56 = .ok (.ireturn, 1) := by decide +kernel
theorem dX5_isSilent_20 : decode cX5_isSilent 20 = .ok (.aload_n 2, 1) := by decide +kernel
theorem dX5_isSilent_21 : decode cX5_isSilent 21 = .ok (.getfield 71, 3) := by decide +kernel
theorem dX5_isSilent_24 : decode cX5_isSilent 24 = .ok (.iload_n 3, 1) := by decide +kernel
theorem dX5_isSilent_25 : decode cX5_isSilent 25 = .ok (.iaload, 1) := by decide +kernel
theorem dX5_isSilent_26 : decode cX5_isSilent 26 = .ok (.istore 4, 2) := by decide +kernel
theorem dX5_isSilent_28 : decode cX5_isSilent 28 = .ok (.iload 4, 2) := by decide +kernel
theorem dX5_isSilent_30 : decode cX5_isSilent 30 = .ok (.iconst 4, 1) := by decide +kernel
theorem dX5_isSilent_31 : decode cX5_isSilent 31 = .ok (.if_icmp .eq 18, 3) := by decide +kernel
theorem dX5_isSilent_49 : decode cX5_isSilent 49 = .ok (.iinc 3 1, 3) := by decide +kernel
theorem dX5_isSilent_52 : decode cX5_isSilent 52 = .ok (.goto (-40), 3) := by decide +kernel
theorem dX5_isSilent_34 : decode cX5_isSilent 34 = .ok (.iload 4, 2) := by decide +kernel
theorem dX5_isSilent_36 : decode cX5_isSilent 36 = .ok (.iconst 5, 1) := by decide +kernel
theorem dX5_isSilent_37 : decode cX5_isSilent 37 = .ok (.if_icmp .eq 12, 3) := by decide +kernel
theorem dX5_isSilent_40 : decode cX5_isSilent 40 = .ok (.iload 4, 2) := by decide +kernel
theorem dX5_isSilent_42 : decode cX5_isSilent 42 = .ok (.bipush 7, 2) := by decide +kernel
theorem dX5_isSilent_44 : decode cX5_isSilent 44 = .ok (.if_icmp .eq 5, 3) := by decide +kernel
theorem dX5_isSilent_47 : decode cX5_isSilent 47 = .ok (.iconst 0, 1) := by decide +kernel
theorem dX5_isSilent_48 : decode cX5_isSilent 48 = .ok (.ireturn, 1) := by decide +kernel
theorem dX5_isSilent_0 : decode cX5_isSilent 0 = .ok (.aload_n 0, 1) := by decide +kernel
theorem dX5_isSilent_1 : decode cX5_isSilent 1 = .ok (.getfield 11, 3) := by decide +kernel
theorem dX5_isSilent_4 : decode cX5_isSilent 4 = .ok (.iload_n 1, 1) := by decide +kernel
theorem dX5_isSilent_5 : decode cX5_isSilent 5 = .ok (.aaload, 1) := by decide +kernel
theorem dX5_isSilent_6 : decode cX5_isSilent 6 = .ok (.getfield 64, 3) := by decide +kernel
theorem dX5_isSilent_9 : decode cX5_isSilent 9 = .ok (.astore_n 2, 1) := by decide +kernel
theorem dX5_isSilent_10 : decode cX5_isSilent 10 = .ok (.iconst 0, 1) := by decide +kernel
theorem dX5_isSilent_11 : decode cX5_isSilent 11 = .ok (.istore_n 3, 1) := by decide +kernel
theorem dX5_isReader_9 : decode cX5_isReader 9 = .ok (.iload_n 3, 1) := by decide +kernel
theorem dX5_isReader_10 : decode cX5_isReader 10 = .ok (.iload_n 1, 1) := by decide +kernel
theorem dX5_isReader_11 : decode cX5_isReader 11 = .ok (.if_icmp .lt 35, 3) := by decide +kernel
theorem dX5_isReader_46 : decode cX5_isReader 46 = .ok (.iload_n 2, 1) := by decide +kernel
theorem dX5_isReader_47 : decode cX5_isReader 47 = .ok (.iload_n 1, 1) := by decide +kernel
theorem dX5_isReader_48 : decode cX5_isReader 48 = .ok (.ishr, 1) := by decide +kernel
theorem dX5_isReader_49 : decode cX5_isReader 49 = .ok (.iconst 1, 1) := by decide +kernel
theorem dX5_isReader_50 : decode cX5_isReader 50 = .ok (.iand, 1) := by decide +kernel
theorem dX5_isReader_51 : decode cX5_isReader 51 = .ok (.iconst 1, 1) := by decide +kernel
theorem dX5_isReader_52 : decode cX5_isReader 52 = .ok (.if_icmp .ne 7, 3) := by decide +kernel
theorem dX5_isReader_59 : decode cX5_isReader 59 = .ok (.iconst 0, 1) := by decide +kernel
theorem dX5_isReader_60 : decode cX5_isReader 60 = .ok (.ireturn, 1) := by decide +kernel
theorem dX5_isReader_55 : decode cX5_isReader 55 = .ok (.iconst 1, 1) := by decide +kernel
theorem dX5_isReader_56 : decode cX5_isReader 56 = .ok (.goto 4, 3) := by decide +kernel
theorem dX5_isReader_14 : decode cX5_isReader 14 = .ok (.aload_n 0, 1) := by decide +kernel
theorem dX5_isReader_15 : decode cX5_isReader 15 = .ok (.iload_n 3, 1) := by decide +kernel
theorem dX5_isReader_16 : decode cX5_isReader 16 = .ok (.invokevirtual 81, 3) := by decide +kernel
theorem dX5_isReader_19 : decode cX5_isReader 19 = .ok (.ifCond .eq 21, 3) := by decide +kernel
theorem dX5_isReader_22 : decode cX5_isReader 22 = .ok (.aload_n 0, 1) := by decide +kernel
theorem dX5_isReader_23 : decode cX5_isReader 23 = .ok (.iload_n 3, 1) := by decide +kernel
theorem dX5_isReader_24 : decode cX5_isReader 24 = .ok (.invokevirtual 60, 3) := by decide +kernel
theorem dX5_isReader_27 : decode cX5_isReader 27 = .ok (.iload_n 2, 1) := by decide +kernel
theorem dX5_isReader_28 : decode cX5_isReader 28 = .ok (.iconst (-1), 1) := by decide +kernel
theorem dX5_isReader_29 : decode cX5_isReader 29 = .ok (.ixor, 1) := by decide +kernel
theorem dX5_isReader_30 : decode cX5_isReader 30 = .ok (.iand, 1) := by decide +kernel
theorem dX5_isReader_31 : decode cX5_isReader 31 = .ok (.ifCond .ne 9, 3) := by decide +kernel
theorem dX5_isReader_40 : decode cX5_isReader 40 = .ok (.iinc 3 (-1), 3) := by decide +kernel
theorem dX5_isReader_43 : decode cX5_isReader 43 = .ok (.goto (-34), 3) := by decide +kernel
theorem dX5_isReader_34 : decode cX5_isReader 34 = .ok (.iload_n 2, 1) := by decide +kernel
theorem dX5_isReader_35 : decode cX5_isReader 35 = .ok (.iconst 1, 1) := by decide +kernel
theorem dX5_isReader_36 : decode cX5_isReader 36 = .ok (.iload_n 3, 1) := by decide +kernel
theorem dX5_isReader_37 : decode cX5_isReader 37 = .ok (.ishl, 1) := by decide +kernel
theorem dX5_isReader_38 : decode cX5_isReader 38 = .ok (.ior, 1) := by decide +kernel
theorem dX5_isReader_39 : decode cX5_isReader 39 = .ok (.istore_n 2, 1) := by decide +kernel
theorem dX5_isReader_0 : decode cX5_isReader 0 = .ok (.iconst 0, 1) := by decide +kernel
theorem dX5_isReader_1 : decode cX5_isReader 1 = .ok (.istore_n 2, 1) := by decide +kernel
theorem dX5_isReader_2 : decode cX5_isReader 2 = .ok (.aload_n 0, 1) := by decide +kernel
theorem dX5_isReader_3 : decode cX5_isReader 3 = .ok (.getfield 17, 3) := by decide +kernel
theorem dX5_isReader_6 : decode cX5_isReader 6 = .ok (.iconst 1, 1) := by decide +kernel
theorem dX5_isReader_7 : decode cX5_isReader 7 = .ok (.isub, 1) := by decide +kernel
theorem dX5_isReader_8 : decode cX5_isReader 8 = .ok (.istore_n 3, 1) := by decide +kernel
theorem dX5_reachOf_31 : decode cX5_reachOf 31 = .ok (.iload_n 3, 1) := by decide +kernel
theorem dX5_reachOf_32 : decode cX5_reachOf 32 = .ok (.aload_n 0, 1) := by decide +kernel
theorem dX5_reachOf_33 : decode cX5_reachOf 33 = .ok (.getfield 17, 3) := by decide +kernel
theorem dX5_reachOf_36 : decode cX5_reachOf 36 = .ok (.if_icmp .ge 26, 3) := by decide +kernel
theorem dX5_reachOf_62 : decode cX5_reachOf 62 = .ok (.iload_n 2, 1) := by decide +kernel
theorem dX5_reachOf_63 : decode cX5_reachOf 63 = .ok (.ireturn, 1) := by decide +kernel
theorem dX5_reachOf_39 : decode cX5_reachOf 39 = .ok (.iload_n 2, 1) := by decide +kernel
theorem dX5_reachOf_40 : decode cX5_reachOf 40 = .ok (.iload_n 3, 1) := by decide +kernel
theorem dX5_reachOf_41 : decode cX5_reachOf 41 = .ok (.ishr, 1) := by decide +kernel
theorem dX5_reachOf_42 : decode cX5_reachOf 42 = .ok (.iconst 1, 1) := by decide +kernel
theorem dX5_reachOf_43 : decode cX5_reachOf 43 = .ok (.iand, 1) := by decide +kernel
theorem dX5_reachOf_44 : decode cX5_reachOf 44 = .ok (.iconst 1, 1) := by decide +kernel
theorem dX5_reachOf_45 : decode cX5_reachOf 45 = .ok (.if_icmp .ne 11, 3) := by decide +kernel
theorem dX5_reachOf_56 : decode cX5_reachOf 56 = .ok (.iinc 3 1, 3) := by decide +kernel
theorem dX5_reachOf_59 : decode cX5_reachOf 59 = .ok (.goto (-28), 3) := by decide +kernel
theorem dX5_reachOf_48 : decode cX5_reachOf 48 = .ok (.iload_n 2, 1) := by decide +kernel
theorem dX5_reachOf_49 : decode cX5_reachOf 49 = .ok (.aload_n 0, 1) := by decide +kernel
theorem dX5_reachOf_50 : decode cX5_reachOf 50 = .ok (.iload_n 3, 1) := by decide +kernel
theorem dX5_reachOf_51 : decode cX5_reachOf 51 = .ok (.invokevirtual 60, 3) := by decide +kernel
theorem dX5_reachOf_54 : decode cX5_reachOf 54 = .ok (.ior, 1) := by decide +kernel
theorem dX5_reachOf_55 : decode cX5_reachOf 55 = .ok (.istore_n 2, 1) := by decide +kernel
theorem dX5_reachOf_4 : decode cX5_reachOf 4 = .ok (.iload_n 3, 1) := by decide +kernel
theorem dX5_reachOf_5 : decode cX5_reachOf 5 = .ok (.aload_n 1, 1) := by decide +kernel
theorem dX5_reachOf_6 : decode cX5_reachOf 6 = .ok (.getfield 55, 3) := by decide +kernel
theorem dX5_reachOf_9 : decode cX5_reachOf 9 = .ok (.if_icmp .ge 20, 3) := by decide +kernel
theorem dX5_reachOf_29 : decode cX5_reachOf 29 = .ok (.iconst 0, 1) := by decide +kernel
theorem dX5_reachOf_30 : decode cX5_reachOf 30 = .ok (.istore_n 3, 1) := by decide +kernel
theorem dX5_reachOf_12 : decode cX5_reachOf 12 = .ok (.iload_n 2, 1) := by decide +kernel
theorem dX5_reachOf_13 : decode cX5_reachOf 13 = .ok (.iconst 1, 1) := by decide +kernel
theorem dX5_reachOf_14 : decode cX5_reachOf 14 = .ok (.aload_n 1, 1) := by decide +kernel
theorem dX5_reachOf_15 : decode cX5_reachOf 15 = .ok (.getfield 58, 3) := by decide +kernel
theorem dX5_reachOf_18 : decode cX5_reachOf 18 = .ok (.iload_n 3, 1) := by decide +kernel
theorem dX5_reachOf_19 : decode cX5_reachOf 19 = .ok (.iaload, 1) := by decide +kernel
theorem dX5_reachOf_20 : decode cX5_reachOf 20 = .ok (.ishl, 1) := by decide +kernel
theorem dX5_reachOf_21 : decode cX5_reachOf 21 = .ok (.ior, 1) := by decide +kernel
theorem dX5_reachOf_22 : decode cX5_reachOf 22 = .ok (.istore_n 2, 1) := by decide +kernel
theorem dX5_reachOf_23 : decode cX5_reachOf 23 = .ok (.iinc 3 1, 3) := by decide +kernel
theorem dX5_reachOf_26 : decode cX5_reachOf 26 = .ok (.goto (-22), 3) := by decide +kernel
theorem dX5_reachOf_0 : decode cX5_reachOf 0 = .ok (.iconst 0, 1) := by decide +kernel
theorem dX5_reachOf_1 : decode cX5_reachOf 1 = .ok (.istore_n 2, 1) := by decide +kernel
theorem dX5_reachOf_2 : decode cX5_reachOf 2 = .ok (.iconst 0, 1) := by decide +kernel
theorem dX5_reachOf_3 : decode cX5_reachOf 3 = .ok (.istore_n 3, 1) := by decide +kernel
abbrev md_s_copyFrom : Nat → Nat → Bool := mdf [(4, 0), (4, 2), (4, 3), (4, 4), (4, 5), (4, 10), (4, 11), (50, 99)]
set_option maxHeartbeats 4000000 in
set_option maxRecDepth 100000 in
theorem s_copyFrom (l : Launch) (D : va_G) (cI cZ cS cR : ClassId) (N0 : NT) (g : GS) (hI : Inv g) (h : Nat) (o : Nat) (r_h : g.1 h = 4) (r_o : g.1 o = 4) : Ty l D cI cZ cS cR N0 yX3_copyFrom cX3_copyFrom 2 none 0 0 0 [.ref h, .ref o] g (fun v g' => v = none ∧ Inv g' ∧ Ex g g' ∧ Sm md_s_copyFrom g g') := by
  refine t_enter (by decide) (Nat.le_of_ble_eq_true rfl) ?_
  intro p e s m args below meth c ls H locs hB hr hin hl hT
  have hx := hB.1
  have hb := hB.2.1
  have hl : lv_has ls 2 [(0, .ref h), (1, .ref o)] := hl
  have hE : Ex g g := Ex.rf
  have hM : Sm md_s_copyFrom g g := Sm.rf
  refine lv_aload_n hx hb dX3_copyFrom_0 rfl (lv_at hl 0 rfl) ?_
  refine lv_aload_n hx hb dX3_copyFrom_1 rfl (lv_at hl 1 rfl) ?_
  obtain ⟨v_1, e_v_1, r_v_1⟩ := f_4_0 hI r_o
  refine t_get (ci := 3) (v := .ref v_1) hB hT (ro_ci r_o rfl) rfl 0 (by decide) k_143 e_v_1 dX3_copyFrom_2 ?_
  refine t_put0 (ci := 3) (v := .ref v_1) hB hT (ro_ci r_h rfl) (ro_n0 r_h (by decide)) rfl 0 (by decide) k_143 (Or.inl rfl) rfl rfl dX3_copyFrom_5 (fun H locs hT => ?_)
  have hI : Inv (sF g h 0 (.ref v_1)) := hI.sF (p_4_0 r_h (⟨_, rfl, r_v_1⟩))
  have hM : Sm md_s_copyFrom g (sF g h 0 (.ref v_1)) := hM.tr hE (Sm_sF (by rw [r_h]; rfl))
  have hE : Ex g (sF g h 0 (.ref v_1)) := hE
  refine lv_aload_n hx hb dX3_copyFrom_8 rfl (lv_at hl 1 rfl) ?_
  obtain ⟨v_2, e_v_2, r_v_2, n_v_2⟩ := f_4_1 hI r_o
  refine t_get (ci := 3) (v := .ref v_2) hB hT (ro_ci r_o rfl) rfl 1 (by decide) k_146 e_v_2 dX3_copyFrom_9 ?_
  refine lv_iconst (v := 0) hx hb dX3_copyFrom_12 (by decide) ?_
  refine lv_aload_n hx hb dX3_copyFrom_13 rfl (lv_at hl 0 rfl) ?_
  obtain ⟨v_3, e_v_3, r_v_3, n_v_3⟩ := f_4_1 hI r_h
  refine t_get (ci := 3) (v := .ref v_3) hB hT (ro_ci r_h rfl) rfl 1 (by decide) k_146 e_v_3 dX3_copyFrom_14 ?_
  refine lv_iconst (v := 0) hx hb dX3_copyFrom_17 (by decide) ?_
  refine lv_iconst (v := 4) hx hb dX3_copyFrom_18 (by decide) ?_
  refine t_copy (n0 := 4) (n1 := 4) hB hT k_525 k_496 k_495 k_70 hl.1 r_v_2 r_v_3 (by decide) n_v_2 n_v_3 (by have q0 : (0 : Int32).toInt = 0 := (by decide); have q1 : (4 : Int32).toInt = 4 := (by decide); omega) (by have q0 : (0 : Int32).toInt = 0 := (by decide); have q1 : (4 : Int32).toInt = 4 := (by decide); omega) (by have q0 : (0 : Int32).toInt = 0 := (by decide); have q1 : (4 : Int32).toInt = 4 := (by decide); omega) (by have q0 : (0 : Int32).toInt = 0 := (by decide); have q1 : (4 : Int32).toInt = 4 := (by decide); omega) (by have q0 : (0 : Int32).toInt = 0 := (by decide); have q1 : (4 : Int32).toInt = 4 := (by decide); omega) (Nat.le_of_ble_eq_true rfl) (Nat.le_of_ble_eq_true rfl) dX3_copyFrom_19 hI (fun H locs cf_4 ecf_4 hT hI => ?_)
  have hM : Sm md_s_copyFrom g (sV (sF g h 0 (.ref v_1)) v_3 cf_4) := hM.tr hE (Sm_sV (by rw [r_v_3]; rfl))
  have hE : Ex g (sV (sF g h 0 (.ref v_1)) v_3 cf_4) := hE
  refine lv_aload_n hx hb dX3_copyFrom_22 rfl (lv_at hl 0 rfl) ?_
  refine lv_aload_n hx hb dX3_copyFrom_23 rfl (lv_at hl 1 rfl) ?_
  obtain ⟨v_5, e_v_5⟩ := f_4_2 hI r_o
  refine t_get (ci := 3) (v := .int v_5) hB hT (ro_ci r_o rfl) rfl 2 (by decide) k_149 e_v_5 dX3_copyFrom_24 ?_
  refine t_put0 (ci := 3) (v := .int v_5) hB hT (ro_ci r_h rfl) (ro_n0 r_h (by decide)) rfl 2 (by decide) k_149 (Or.inl rfl) rfl rfl dX3_copyFrom_27 (fun H locs hT => ?_)
  have hI : Inv (sF (sV (sF g h 0 (.ref v_1)) v_3 cf_4) h 2 (.int v_5)) := hI.sF (p_4_2 r_h (⟨_, rfl⟩))
  have hM : Sm md_s_copyFrom g (sF (sV (sF g h 0 (.ref v_1)) v_3 cf_4) h 2 (.int v_5)) := hM.tr hE (Sm_sF (by rw [r_h]; rfl))
  have hE : Ex g (sF (sV (sF g h 0 (.ref v_1)) v_3 cf_4) h 2 (.int v_5)) := hE
  refine lv_aload_n hx hb dX3_copyFrom_30 rfl (lv_at hl 0 rfl) ?_
  refine lv_aload_n hx hb dX3_copyFrom_31 rfl (lv_at hl 1 rfl) ?_
  obtain ⟨v_6, e_v_6⟩ := f_4_3 hI r_o
  refine t_get (ci := 3) (v := .int v_6) hB hT (ro_ci r_o rfl) rfl 3 (by decide) k_152 e_v_6 dX3_copyFrom_32 ?_
  refine t_put0 (ci := 3) (v := .int v_6) hB hT (ro_ci r_h rfl) (ro_n0 r_h (by decide)) rfl 3 (by decide) k_152 (Or.inl rfl) rfl rfl dX3_copyFrom_35 (fun H locs hT => ?_)
  have hI : Inv (sF (sF (sV (sF g h 0 (.ref v_1)) v_3 cf_4) h 2 (.int v_5)) h 3 (.int v_6)) := hI.sF (p_4_3 r_h (⟨_, rfl⟩))
  have hM : Sm md_s_copyFrom g (sF (sF (sV (sF g h 0 (.ref v_1)) v_3 cf_4) h 2 (.int v_5)) h 3 (.int v_6)) := hM.tr hE (Sm_sF (by rw [r_h]; rfl))
  have hE : Ex g (sF (sF (sV (sF g h 0 (.ref v_1)) v_3 cf_4) h 2 (.int v_5)) h 3 (.int v_6)) := hE
  refine lv_aload_n hx hb dX3_copyFrom_38 rfl (lv_at hl 0 rfl) ?_
  refine lv_aload_n hx hb dX3_copyFrom_39 rfl (lv_at hl 1 rfl) ?_
  obtain ⟨v_7, e_v_7⟩ := f_4_4 hI r_o
  refine t_get (ci := 3) (v := .int v_7) hB hT (ro_ci r_o rfl) rfl 4 (by decide) k_155 e_v_7 dX3_copyFrom_40 ?_
  refine t_put0 (ci := 3) (v := .int v_7) hB hT (ro_ci r_h rfl) (ro_n0 r_h (by decide)) rfl 4 (by decide) k_155 (Or.inl rfl) rfl rfl dX3_copyFrom_43 (fun H locs hT => ?_)
  have hI : Inv (sF (sF (sF (sV (sF g h 0 (.ref v_1)) v_3 cf_4) h 2 (.int v_5)) h 3 (.int v_6)) h 4 (.int v_7)) := hI.sF (p_4_4 r_h (⟨_, rfl⟩))
  have hM : Sm md_s_copyFrom g (sF (sF (sF (sV (sF g h 0 (.ref v_1)) v_3 cf_4) h 2 (.int v_5)) h 3 (.int v_6)) h 4 (.int v_7)) := hM.tr hE (Sm_sF (by rw [r_h]; rfl))
  have hE : Ex g (sF (sF (sF (sV (sF g h 0 (.ref v_1)) v_3 cf_4) h 2 (.int v_5)) h 3 (.int v_6)) h 4 (.int v_7)) := hE
  refine lv_aload_n hx hb dX3_copyFrom_46 rfl (lv_at hl 0 rfl) ?_
  refine lv_aload_n hx hb dX3_copyFrom_47 rfl (lv_at hl 1 rfl) ?_
  obtain ⟨v_8, e_v_8, l_v_8, u_v_8⟩ := f_4_5 hI r_o
  refine t_get (ci := 3) (v := .int v_8) hB hT (ro_ci r_o rfl) rfl 5 (by decide) k_158 e_v_8 dX3_copyFrom_48 ?_
  refine t_put0 (ci := 3) (v := .int v_8) hB hT (ro_ci r_h rfl) (ro_n0 r_h (by decide)) rfl 5 (by decide) k_158 (Or.inl rfl) rfl rfl dX3_copyFrom_51 (fun H locs hT => ?_)
  have hI : Inv (sF (sF (sF (sF (sV (sF g h 0 (.ref v_1)) v_3 cf_4) h 2 (.int v_5)) h 3 (.int v_6)) h 4 (.int v_7)) h 5 (.int v_8)) := hI.sF (p_4_5 r_h (⟨_, rfl, by omega, by omega⟩))
  have hM : Sm md_s_copyFrom g (sF (sF (sF (sF (sV (sF g h 0 (.ref v_1)) v_3 cf_4) h 2 (.int v_5)) h 3 (.int v_6)) h 4 (.int v_7)) h 5 (.int v_8)) := hM.tr hE (Sm_sF (by rw [r_h]; rfl))
  have hE : Ex g (sF (sF (sF (sF (sV (sF g h 0 (.ref v_1)) v_3 cf_4) h 2 (.int v_5)) h 3 (.int v_6)) h 4 (.int v_7)) h 5 (.int v_8)) := hE
  refine lv_aload_n hx hb dX3_copyFrom_54 rfl (lv_at hl 1 rfl) ?_
  obtain ⟨v_9, e_v_9, r_v_9, n_v_9⟩ := f_4_6 hI r_o
  refine t_get (ci := 3) (v := .ref v_9) hB hT (ro_ci r_o rfl) rfl 6 (by decide) k_159 e_v_9 dX3_copyFrom_55 ?_
  refine lv_iconst (v := 0) hx hb dX3_copyFrom_58 (by decide) ?_
  refine lv_aload_n hx hb dX3_copyFrom_59 rfl (lv_at hl 0 rfl) ?_
  obtain ⟨v_10, e_v_10, r_v_10, n_v_10⟩ := f_4_6 hI r_h
  refine t_get (ci := 3) (v := .ref v_10) hB hT (ro_ci r_h rfl) rfl 6 (by decide) k_159 e_v_10 dX3_copyFrom_60 ?_
  refine lv_iconst (v := 0) hx hb dX3_copyFrom_63 (by decide) ?_
  refine lv_aload_n hx hb dX3_copyFrom_64 rfl (lv_at hl 0 rfl) ?_
  refine t_get (ci := 3) (v := .int v_8) hB hT (ro_ci r_h rfl) rfl 5 (by decide) k_158 sF_eq dX3_copyFrom_65 ?_
  refine t_copy (n0 := 16) (n1 := 16) hB hT k_525 k_496 k_495 k_70 hl.1 r_v_9 r_v_10 (by decide) n_v_9 n_v_10 (by have q0 : (0 : Int32).toInt = 0 := (by decide); omega) (by have q0 : (0 : Int32).toInt = 0 := (by decide); omega) (by have q0 : (0 : Int32).toInt = 0 := (by decide); omega) (by have q0 : (0 : Int32).toInt = 0 := (by decide); omega) (by have q0 : (0 : Int32).toInt = 0 := (by decide); omega) (Nat.le_of_ble_eq_true rfl) (Nat.le_of_ble_eq_true rfl) dX3_copyFrom_68 hI (fun H locs cf_11 ecf_11 hT hI => ?_)
  have hM : Sm md_s_copyFrom g (sV (sF (sF (sF (sF (sV (sF g h 0 (.ref v_1)) v_3 cf_4) h 2 (.int v_5)) h 3 (.int v_6)) h 4 (.int v_7)) h 5 (.int v_8)) v_10 cf_11) := hM.tr hE (Sm_sV (by rw [r_v_10]; rfl))
  have hE : Ex g (sV (sF (sF (sF (sF (sV (sF g h 0 (.ref v_1)) v_3 cf_4) h 2 (.int v_5)) h 3 (.int v_6)) h 4 (.int v_7)) h 5 (.int v_8)) v_10 cf_11) := hE
  refine lv_aload_n hx hb dX3_copyFrom_71 rfl (lv_at hl 1 rfl) ?_
  obtain ⟨v_12, e_v_12, r_v_12, n_v_12⟩ := f_4_7 hI r_o
  refine t_get (ci := 3) (v := .ref v_12) hB hT (ro_ci r_o rfl) rfl 7 (by decide) k_160 e_v_12 dX3_copyFrom_72 ?_
  refine lv_iconst (v := 0) hx hb dX3_copyFrom_75 (by decide) ?_
  refine lv_aload_n hx hb dX3_copyFrom_76 rfl (lv_at hl 0 rfl) ?_
  obtain ⟨v_13, e_v_13, r_v_13, n_v_13⟩ := f_4_7 hI r_h
  refine t_get (ci := 3) (v := .ref v_13) hB hT (ro_ci r_h rfl) rfl 7 (by decide) k_160 e_v_13 dX3_copyFrom_77 ?_
  refine lv_iconst (v := 0) hx hb dX3_copyFrom_80 (by decide) ?_
  refine lv_aload_n hx hb dX3_copyFrom_81 rfl (lv_at hl 0 rfl) ?_
  refine t_get (ci := 3) (v := .int v_8) hB hT (ro_ci r_h rfl) rfl 5 (by decide) k_158 sF_eq dX3_copyFrom_82 ?_
  refine t_copy (n0 := 16) (n1 := 16) hB hT k_525 k_496 k_495 k_70 hl.1 r_v_12 r_v_13 (by decide) n_v_12 n_v_13 (by have q0 : (0 : Int32).toInt = 0 := (by decide); omega) (by have q0 : (0 : Int32).toInt = 0 := (by decide); omega) (by have q0 : (0 : Int32).toInt = 0 := (by decide); omega) (by have q0 : (0 : Int32).toInt = 0 := (by decide); omega) (by have q0 : (0 : Int32).toInt = 0 := (by decide); omega) (Nat.le_of_ble_eq_true rfl) (Nat.le_of_ble_eq_true rfl) dX3_copyFrom_85 hI (fun H locs cf_14 ecf_14 hT hI => ?_)
  have hM : Sm md_s_copyFrom g (sV (sV (sF (sF (sF (sF (sV (sF g h 0 (.ref v_1)) v_3 cf_4) h 2 (.int v_5)) h 3 (.int v_6)) h 4 (.int v_7)) h 5 (.int v_8)) v_10 cf_11) v_13 cf_14) := hM.tr hE (Sm_sV (by rw [r_v_13]; rfl))
  have hE : Ex g (sV (sV (sF (sF (sF (sF (sV (sF g h 0 (.ref v_1)) v_3 cf_4) h 2 (.int v_5)) h 3 (.int v_6)) h 4 (.int v_7)) h 5 (.int v_8)) v_10 cf_11) v_13 cf_14) := hE
  have r_15 : (sV (sV (sF (sF (sF (sF (sV (sF g h 0 (.ref v_1)) v_3 cf_4) h 2 (.int v_5)) h 3 (.int v_6)) h 4 (.int v_7)) h 5 (.int v_8)) v_10 cf_11) v_13 cf_14).1 h = 4 := r_h
  have r_16 : (sV (sV (sF (sF (sF (sF (sV (sF g h 0 (.ref v_1)) v_3 cf_4) h 2 (.int v_5)) h 3 (.int v_6)) h 4 (.int v_7)) h 5 (.int v_8)) v_10 cf_11) v_13 cf_14).1 o = 4 := r_o
  have r_17 : (sV (sV (sF (sF (sF (sF (sV (sF g h 0 (.ref v_1)) v_3 cf_4) h 2 (.int v_5)) h 3 (.int v_6)) h 4 (.int v_7)) h 5 (.int v_8)) v_10 cf_11) v_13 cf_14).1 v_1 = 3 := r_v_1
  have r_18 : (sV (sV (sF (sF (sF (sF (sV (sF g h 0 (.ref v_1)) v_3 cf_4) h 2 (.int v_5)) h 3 (.int v_6)) h 4 (.int v_7)) h 5 (.int v_8)) v_10 cf_11) v_13 cf_14).1 v_2 = 50 := r_v_2
  have r_19 : (sV (sV (sF (sF (sF (sF (sV (sF g h 0 (.ref v_1)) v_3 cf_4) h 2 (.int v_5)) h 3 (.int v_6)) h 4 (.int v_7)) h 5 (.int v_8)) v_10 cf_11) v_13 cf_14).1 v_3 = 50 := r_v_3
  have r_20 : (sV (sV (sF (sF (sF (sF (sV (sF g h 0 (.ref v_1)) v_3 cf_4) h 2 (.int v_5)) h 3 (.int v_6)) h 4 (.int v_7)) h 5 (.int v_8)) v_10 cf_11) v_13 cf_14).1 v_9 = 50 := r_v_9
  have r_21 : (sV (sV (sF (sF (sF (sF (sV (sF g h 0 (.ref v_1)) v_3 cf_4) h 2 (.int v_5)) h 3 (.int v_6)) h 4 (.int v_7)) h 5 (.int v_8)) v_10 cf_11) v_13 cf_14).1 v_10 = 50 := r_v_10
  have r_22 : (sV (sV (sF (sF (sF (sF (sV (sF g h 0 (.ref v_1)) v_3 cf_4) h 2 (.int v_5)) h 3 (.int v_6)) h 4 (.int v_7)) h 5 (.int v_8)) v_10 cf_11) v_13 cf_14).1 v_12 = 50 := r_v_12
  have r_23 : (sV (sV (sF (sF (sF (sF (sV (sF g h 0 (.ref v_1)) v_3 cf_4) h 2 (.int v_5)) h 3 (.int v_6)) h 4 (.int v_7)) h 5 (.int v_8)) v_10 cf_11) v_13 cf_14).1 v_13 = 50 := r_v_13
  have n_24 : (sV (sV (sF (sF (sF (sF (sV (sF g h 0 (.ref v_1)) v_3 cf_4) h 2 (.int v_5)) h 3 (.int v_6)) h 4 (.int v_7)) h 5 (.int v_8)) v_10 cf_11) v_13 cf_14).2.2.1 v_2 = 4 := n_v_2
  have n_25 : (sV (sV (sF (sF (sF (sF (sV (sF g h 0 (.ref v_1)) v_3 cf_4) h 2 (.int v_5)) h 3 (.int v_6)) h 4 (.int v_7)) h 5 (.int v_8)) v_10 cf_11) v_13 cf_14).2.2.1 v_3 = 4 := n_v_3
  have n_26 : (sV (sV (sF (sF (sF (sF (sV (sF g h 0 (.ref v_1)) v_3 cf_4) h 2 (.int v_5)) h 3 (.int v_6)) h 4 (.int v_7)) h 5 (.int v_8)) v_10 cf_11) v_13 cf_14).2.2.1 v_9 = 16 := n_v_9
  have n_27 : (sV (sV (sF (sF (sF (sF (sV (sF g h 0 (.ref v_1)) v_3 cf_4) h 2 (.int v_5)) h 3 (.int v_6)) h 4 (.int v_7)) h 5 (.int v_8)) v_10 cf_11) v_13 cf_14).2.2.1 v_10 = 16 := n_v_10
  have n_28 : (sV (sV (sF (sF (sF (sF (sV (sF g h 0 (.ref v_1)) v_3 cf_4) h 2 (.int v_5)) h 3 (.int v_6)) h 4 (.int v_7)) h 5 (.int v_8)) v_10 cf_11) v_13 cf_14).2.2.1 v_12 = 16 := n_v_12
  have n_29 : (sV (sV (sF (sF (sF (sF (sV (sF g h 0 (.ref v_1)) v_3 cf_4) h 2 (.int v_5)) h 3 (.int v_6)) h 4 (.int v_7)) h 5 (.int v_8)) v_10 cf_11) v_13 cf_14).2.2.1 v_13 = 16 := n_v_13
  have kn_30 : (sV (sV (sF (sF (sF (sF (sV (sF g h 0 (.ref v_1)) v_3 cf_4) h 2 (.int v_5)) h 3 (.int v_6)) h 4 (.int v_7)) h 5 (.int v_8)) v_10 cf_11) v_13 cf_14).2.1 h 0 = .ref v_1 := (sF_k (sF_k (sF_k (sF_k sF_eq (by decide)) (by decide)) (by decide)) (by decide))
  have kn_31 : (sV (sV (sF (sF (sF (sF (sV (sF g h 0 (.ref v_1)) v_3 cf_4) h 2 (.int v_5)) h 3 (.int v_6)) h 4 (.int v_7)) h 5 (.int v_8)) v_10 cf_11) v_13 cf_14).2.1 o 1 = .ref v_2 := (sF_k (sF_k (sF_k (sF_k e_v_2 (by decide)) (by decide)) (by decide)) (by decide))
  have kn_32 : (sV (sV (sF (sF (sF (sF (sV (sF g h 0 (.ref v_1)) v_3 cf_4) h 2 (.int v_5)) h 3 (.int v_6)) h 4 (.int v_7)) h 5 (.int v_8)) v_10 cf_11) v_13 cf_14).2.1 h 1 = .ref v_3 := (sF_k (sF_k (sF_k (sF_k e_v_3 (by decide)) (by decide)) (by decide)) (by decide))
  have kn_33 : (sV (sV (sF (sF (sF (sF (sV (sF g h 0 (.ref v_1)) v_3 cf_4) h 2 (.int v_5)) h 3 (.int v_6)) h 4 (.int v_7)) h 5 (.int v_8)) v_10 cf_11) v_13 cf_14).2.1 h 2 = .int v_5 := (sF_k (sF_k (sF_k sF_eq (by decide)) (by decide)) (by decide))
  have kn_34 : (sV (sV (sF (sF (sF (sF (sV (sF g h 0 (.ref v_1)) v_3 cf_4) h 2 (.int v_5)) h 3 (.int v_6)) h 4 (.int v_7)) h 5 (.int v_8)) v_10 cf_11) v_13 cf_14).2.1 h 3 = .int v_6 := (sF_k (sF_k sF_eq (by decide)) (by decide))
  have kn_35 : (sV (sV (sF (sF (sF (sF (sV (sF g h 0 (.ref v_1)) v_3 cf_4) h 2 (.int v_5)) h 3 (.int v_6)) h 4 (.int v_7)) h 5 (.int v_8)) v_10 cf_11) v_13 cf_14).2.1 h 4 = .int v_7 := (sF_k sF_eq (by decide))
  have kn_36 : (sV (sV (sF (sF (sF (sF (sV (sF g h 0 (.ref v_1)) v_3 cf_4) h 2 (.int v_5)) h 3 (.int v_6)) h 4 (.int v_7)) h 5 (.int v_8)) v_10 cf_11) v_13 cf_14).2.1 h 5 = .int v_8 := sF_eq
  have kn_37 : (sV (sV (sF (sF (sF (sF (sV (sF g h 0 (.ref v_1)) v_3 cf_4) h 2 (.int v_5)) h 3 (.int v_6)) h 4 (.int v_7)) h 5 (.int v_8)) v_10 cf_11) v_13 cf_14).2.1 o 6 = .ref v_9 := e_v_9
  have kn_38 : (sV (sV (sF (sF (sF (sF (sV (sF g h 0 (.ref v_1)) v_3 cf_4) h 2 (.int v_5)) h 3 (.int v_6)) h 4 (.int v_7)) h 5 (.int v_8)) v_10 cf_11) v_13 cf_14).2.1 h 6 = .ref v_10 := e_v_10
  have kn_39 : (sV (sV (sF (sF (sF (sF (sV (sF g h 0 (.ref v_1)) v_3 cf_4) h 2 (.int v_5)) h 3 (.int v_6)) h 4 (.int v_7)) h 5 (.int v_8)) v_10 cf_11) v_13 cf_14).2.1 o 7 = .ref v_12 := e_v_12
  have kn_40 : (sV (sV (sF (sF (sF (sF (sV (sF g h 0 (.ref v_1)) v_3 cf_4) h 2 (.int v_5)) h 3 (.int v_6)) h 4 (.int v_7)) h 5 (.int v_8)) v_10 cf_11) v_13 cf_14).2.1 h 7 = .ref v_13 := e_v_13
  generalize (sV (sV (sF (sF (sF (sF (sV (sF g h 0 (.ref v_1)) v_3 cf_4) h 2 (.int v_5)) h 3 (.int v_6)) h 4 (.int v_7)) h 5 (.int v_8)) v_10 cf_11) v_13 cf_14) = g_41 at hT hI hM hE r_15 r_16 r_17 r_18 r_19 r_20 r_21 r_22 r_23 n_24 n_25 n_26 n_27 n_28 n_29 kn_30 kn_31 kn_32 kn_33 kn_34 kn_35 kn_36 kn_37 kn_38 kn_39 kn_40
  refine lv_aload_n hx hb dX3_copyFrom_88 rfl (lv_at hl 1 rfl) ?_
  obtain ⟨v_42, e_v_42, r_v_42, n_v_42⟩ := f_4_8 hI r_16
  refine t_get (ci := 3) (v := .ref v_42) hB hT (ro_ci r_16 rfl) rfl 8 (by decide) k_161 e_v_42 dX3_copyFrom_89 ?_
  refine lv_iconst (v := 0) hx hb dX3_copyFrom_92 (by decide) ?_
  refine lv_aload_n hx hb dX3_copyFrom_93 rfl (lv_at hl 0 rfl) ?_
  obtain ⟨v_43, e_v_43, r_v_43, n_v_43⟩ := f_4_8 hI r_15
  refine t_get (ci := 3) (v := .ref v_43) hB hT (ro_ci r_15 rfl) rfl 8 (by decide) k_161 e_v_43 dX3_copyFrom_94 ?_
  refine lv_iconst (v := 0) hx hb dX3_copyFrom_97 (by decide) ?_
  refine lv_aload_n hx hb dX3_copyFrom_98 rfl (lv_at hl 0 rfl) ?_
  refine t_get (ci := 3) (v := .int v_8) hB hT (ro_ci r_15 rfl) rfl 5 (by decide) k_158 kn_36 dX3_copyFrom_99 ?_
  refine t_copy (n0 := 16) (n1 := 16) hB hT k_525 k_496 k_495 k_70 hl.1 r_v_42 r_v_43 (by decide) n_v_42 n_v_43 (by have q0 : (0 : Int32).toInt = 0 := (by decide); omega) (by have q0 : (0 : Int32).toInt = 0 := (by decide); omega) (by have q0 : (0 : Int32).toInt = 0 := (by decide); omega) (by have q0 : (0 : Int32).toInt = 0 := (by decide); omega) (by have q0 : (0 : Int32).toInt = 0 := (by decide); omega) (Nat.le_of_ble_eq_true rfl) (Nat.le_of_ble_eq_true rfl) dX3_copyFrom_102 hI (fun H locs cf_44 ecf_44 hT hI => ?_)
  have hM : Sm md_s_copyFrom g (sV g_41 v_43 cf_44) := hM.tr hE (Sm_sV (by rw [r_v_43]; rfl))
  have hE : Ex g (sV g_41 v_43 cf_44) := hE
  refine lv_aload_n hx hb dX3_copyFrom_105 rfl (lv_at hl 1 rfl) ?_
  obtain ⟨v_45, e_v_45, r_v_45, n_v_45⟩ := f_4_9 hI r_16
  refine t_get (ci := 3) (v := .ref v_45) hB hT (ro_ci r_16 rfl) rfl 9 (by decide) k_162 e_v_45 dX3_copyFrom_106 ?_
  refine lv_iconst (v := 0) hx hb dX3_copyFrom_109 (by decide) ?_
  refine lv_aload_n hx hb dX3_copyFrom_110 rfl (lv_at hl 0 rfl) ?_
  obtain ⟨v_46, e_v_46, r_v_46, n_v_46⟩ := f_4_9 hI r_15
  refine t_get (ci := 3) (v := .ref v_46) hB hT (ro_ci r_15 rfl) rfl 9 (by decide) k_162 e_v_46 dX3_copyFrom_111 ?_
  refine lv_iconst (v := 0) hx hb dX3_copyFrom_114 (by decide) ?_
  refine lv_aload_n hx hb dX3_copyFrom_115 rfl (lv_at hl 0 rfl) ?_
  refine t_get (ci := 3) (v := .int v_8) hB hT (ro_ci r_15 rfl) rfl 5 (by decide) k_158 kn_36 dX3_copyFrom_116 ?_
  refine t_copy (n0 := 16) (n1 := 16) hB hT k_525 k_496 k_495 k_70 hl.1 r_v_45 r_v_46 (by decide) n_v_45 n_v_46 (by have q0 : (0 : Int32).toInt = 0 := (by decide); omega) (by have q0 : (0 : Int32).toInt = 0 := (by decide); omega) (by have q0 : (0 : Int32).toInt = 0 := (by decide); omega) (by have q0 : (0 : Int32).toInt = 0 := (by decide); omega) (by have q0 : (0 : Int32).toInt = 0 := (by decide); omega) (Nat.le_of_ble_eq_true rfl) (Nat.le_of_ble_eq_true rfl) dX3_copyFrom_119 hI (fun H locs cf_47 ecf_47 hT hI => ?_)
  have hM : Sm md_s_copyFrom g (sV (sV g_41 v_43 cf_44) v_46 cf_47) := hM.tr hE (Sm_sV (by rw [r_v_46]; rfl))
  have hE : Ex g (sV (sV g_41 v_43 cf_44) v_46 cf_47) := hE
  refine lv_aload_n hx hb dX3_copyFrom_122 rfl (lv_at hl 0 rfl) ?_
  refine lv_aload_n hx hb dX3_copyFrom_123 rfl (lv_at hl 1 rfl) ?_
  obtain ⟨v_48, e_v_48⟩ := f_4_10 hI r_16
  refine t_get (ci := 3) (v := .int v_48) hB hT (ro_ci r_16 rfl) rfl 10 (by decide) k_163 e_v_48 dX3_copyFrom_124 ?_
  refine t_put0 (ci := 3) (v := .int v_48) hB hT (ro_ci r_15 rfl) (ro_n0 r_15 (by decide)) rfl 10 (by decide) k_163 (Or.inl rfl) rfl rfl dX3_copyFrom_127 (fun H locs hT => ?_)
  have hI : Inv (sF (sV (sV g_41 v_43 cf_44) v_46 cf_47) h 10 (.int v_48)) := hI.sF (p_4_10 r_15 (⟨_, rfl⟩))
  have hM : Sm md_s_copyFrom g (sF (sV (sV g_41 v_43 cf_44) v_46 cf_47) h 10 (.int v_48)) := hM.tr hE (Sm_sF (by rw [r_15]; rfl))
  have hE : Ex g (sF (sV (sV g_41 v_43 cf_44) v_46 cf_47) h 10 (.int v_48)) := hE
  refine lv_aload_n hx hb dX3_copyFrom_130 rfl (lv_at hl 0 rfl) ?_
  refine lv_aload_n hx hb dX3_copyFrom_131 rfl (lv_at hl 1 rfl) ?_
  obtain ⟨v_49, e_v_49⟩ := f_4_11 hI r_16
  refine t_get (ci := 3) (v := .int v_49) hB hT (ro_ci r_16 rfl) rfl 11 (by decide) k_164 e_v_49 dX3_copyFrom_132 ?_
  refine t_put0 (ci := 3) (v := .int v_49) hB hT (ro_ci r_15 rfl) (ro_n0 r_15 (by decide)) rfl 11 (by decide) k_164 (Or.inl rfl) rfl rfl dX3_copyFrom_135 (fun H locs hT => ?_)
  have hI : Inv (sF (sF (sV (sV g_41 v_43 cf_44) v_46 cf_47) h 10 (.int v_48)) h 11 (.int v_49)) := hI.sF (p_4_11 r_15 (⟨_, rfl⟩))
  have hM : Sm md_s_copyFrom g (sF (sF (sV (sV g_41 v_43 cf_44) v_46 cf_47) h 10 (.int v_48)) h 11 (.int v_49)) := hM.tr hE (Sm_sF (by rw [r_15]; rfl))
  have hE : Ex g (sF (sF (sV (sV g_41 v_43 cf_44) v_46 cf_47) h 10 (.int v_48)) h 11 (.int v_49)) := hE
  refine lv_aload_n hx hb dX3_copyFrom_138 rfl (lv_at hl 1 rfl) ?_
  obtain ⟨v_50, e_v_50, r_v_50, n_v_50⟩ := f_4_12 hI r_16
  refine t_get (ci := 3) (v := .ref v_50) hB hT (ro_ci r_16 rfl) rfl 12 (by decide) k_165 e_v_50 dX3_copyFrom_139 ?_
  refine lv_iconst (v := 0) hx hb dX3_copyFrom_142 (by decide) ?_
  refine lv_aload_n hx hb dX3_copyFrom_143 rfl (lv_at hl 0 rfl) ?_
  obtain ⟨v_51, e_v_51, r_v_51, n_v_51⟩ := f_4_12 hI r_15
  refine t_get (ci := 3) (v := .ref v_51) hB hT (ro_ci r_15 rfl) rfl 12 (by decide) k_165 e_v_51 dX3_copyFrom_144 ?_
  refine lv_iconst (v := 0) hx hb dX3_copyFrom_147 (by decide) ?_
  refine lv_bipush (v := 8) hx hb dX3_copyFrom_148 (by decide) ?_
  refine t_copy (n0 := 8) (n1 := 8) hB hT k_525 k_496 k_495 k_70 hl.1 r_v_50 r_v_51 (by decide) n_v_50 n_v_51 (by have q0 : (0 : Int32).toInt = 0 := (by decide); have q1 : (8 : Int32).toInt = 8 := (by decide); omega) (by have q0 : (0 : Int32).toInt = 0 := (by decide); have q1 : (8 : Int32).toInt = 8 := (by decide); omega) (by have q0 : (0 : Int32).toInt = 0 := (by decide); have q1 : (8 : Int32).toInt = 8 := (by decide); omega) (by have q0 : (0 : Int32).toInt = 0 := (by decide); have q1 : (8 : Int32).toInt = 8 := (by decide); omega) (by have q0 : (0 : Int32).toInt = 0 := (by decide); have q1 : (8 : Int32).toInt = 8 := (by decide); omega) (Nat.le_of_ble_eq_true rfl) (Nat.le_of_ble_eq_true rfl) dX3_copyFrom_150 hI (fun H locs cf_52 ecf_52 hT hI => ?_)
  have hM : Sm md_s_copyFrom g (sV (sF (sF (sV (sV g_41 v_43 cf_44) v_46 cf_47) h 10 (.int v_48)) h 11 (.int v_49)) v_51 cf_52) := hM.tr hE (Sm_sV (by rw [r_v_51]; rfl))
  have hE : Ex g (sV (sF (sF (sV (sV g_41 v_43 cf_44) v_46 cf_47) h 10 (.int v_48)) h 11 (.int v_49)) v_51 cf_52) := hE
  exact t_vret hB hr hT (Nat.le_of_ble_eq_true rfl) (Nat.le_of_ble_eq_true rfl) dX3_copyFrom_153 ⟨rfl, hI, hE, hM⟩
abbrev md_n_copyFrom : Nat → Nat → Bool := mdf [(4, 0), (4, 2), (4, 3), (4, 4), (4, 5), (4, 10), (4, 11), (50, 99)]
set_option maxHeartbeats 4000000 in
set_option maxRecDepth 100000 in
theorem n_copyFrom (l : Launch) (D : va_G) (cI cZ cS cR : ClassId) (N0 : NT) (g : GS) (hI : Inv g) (h : Nat) (o : Nat) (r_h : g.1 h = 4) (r_o : g.1 o = 10) : Ty l D cI cZ cS cR N0 yX3_copyFrom cX3_copyFrom 2 none 0 0 0 [.ref h, .ref o] g (fun v g' => v = none ∧ Inv g' ∧ Ex g g' ∧ Sm md_n_copyFrom g g') := by
  refine t_enter (by decide) (Nat.le_of_ble_eq_true rfl) ?_
  intro p e s m args below meth c ls H locs hB hr hin hl hT
  have hx := hB.1
  have hb := hB.2.1
  have hl : lv_has ls 2 [(0, .ref h), (1, .ref o)] := hl
  have hE : Ex g g := Ex.rf
  have hM : Sm md_n_copyFrom g g := Sm.rf
  refine lv_aload_n hx hb dX3_copyFrom_0 rfl (lv_at hl 0 rfl) ?_
  refine lv_aload_n hx hb dX3_copyFrom_1 rfl (lv_at hl 1 rfl) ?_
  obtain ⟨v_1, e_v_1, r_v_1⟩ := f_10_0 hI r_o
  refine t_get (ci := 3) (v := .ref v_1) hB hT (ro_ci r_o rfl) rfl 0 (by decide) k_143 e_v_1 dX3_copyFrom_2 ?_
  refine t_put0 (ci := 3) (v := .ref v_1) hB hT (ro_ci r_h rfl) (ro_n0 r_h (by decide)) rfl 0 (by decide) k_143 (Or.inl rfl) rfl rfl dX3_copyFrom_5 (fun H locs hT => ?_)
  have hI : Inv (sF g h 0 (.ref v_1)) := hI.sF (p_4_0 r_h (⟨_, rfl, r_v_1⟩))
  have hM : Sm md_n_copyFrom g (sF g h 0 (.ref v_1)) := hM.tr hE (Sm_sF (by rw [r_h]; rfl))
  have hE : Ex g (sF g h 0 (.ref v_1)) := hE
  refine lv_aload_n hx hb dX3_copyFrom_8 rfl (lv_at hl 1 rfl) ?_
  obtain ⟨v_2, e_v_2, r_v_2, n_v_2⟩ := f_10_1 hI r_o
  refine t_get (ci := 3) (v := .ref v_2) hB hT (ro_ci r_o rfl) rfl 1 (by decide) k_146 e_v_2 dX3_copyFrom_9 ?_
  refine lv_iconst (v := 0) hx hb dX3_copyFrom_12 (by decide) ?_
  refine lv_aload_n hx hb dX3_copyFrom_13 rfl (lv_at hl 0 rfl) ?_
  obtain ⟨v_3, e_v_3, r_v_3, n_v_3⟩ := f_4_1 hI r_h
  refine t_get (ci := 3) (v := .ref v_3) hB hT (ro_ci r_h rfl) rfl 1 (by decide) k_146 e_v_3 dX3_copyFrom_14 ?_
  refine lv_iconst (v := 0) hx hb dX3_copyFrom_17 (by decide) ?_
  refine lv_iconst (v := 4) hx hb dX3_copyFrom_18 (by decide) ?_
  refine t_copy (n0 := 4) (n1 := 4) hB hT k_525 k_496 k_495 k_70 hl.1 r_v_2 r_v_3 (by decide) n_v_2 n_v_3 (by have q0 : (0 : Int32).toInt = 0 := (by decide); have q1 : (4 : Int32).toInt = 4 := (by decide); omega) (by have q0 : (0 : Int32).toInt = 0 := (by decide); have q1 : (4 : Int32).toInt = 4 := (by decide); omega) (by have q0 : (0 : Int32).toInt = 0 := (by decide); have q1 : (4 : Int32).toInt = 4 := (by decide); omega) (by have q0 : (0 : Int32).toInt = 0 := (by decide); have q1 : (4 : Int32).toInt = 4 := (by decide); omega) (by have q0 : (0 : Int32).toInt = 0 := (by decide); have q1 : (4 : Int32).toInt = 4 := (by decide); omega) (Nat.le_of_ble_eq_true rfl) (Nat.le_of_ble_eq_true rfl) dX3_copyFrom_19 hI (fun H locs cf_4 ecf_4 hT hI => ?_)
  have hM : Sm md_n_copyFrom g (sV (sF g h 0 (.ref v_1)) v_3 cf_4) := hM.tr hE (Sm_sV (by rw [r_v_3]; rfl))
  have hE : Ex g (sV (sF g h 0 (.ref v_1)) v_3 cf_4) := hE
  refine lv_aload_n hx hb dX3_copyFrom_22 rfl (lv_at hl 0 rfl) ?_
  refine lv_aload_n hx hb dX3_copyFrom_23 rfl (lv_at hl 1 rfl) ?_
  obtain ⟨v_5, e_v_5⟩ := f_10_2 hI r_o
  refine t_get (ci := 3) (v := .int v_5) hB hT (ro_ci r_o rfl) rfl 2 (by decide) k_149 e_v_5 dX3_copyFrom_24 ?_
  refine t_put0 (ci := 3) (v := .int v_5) hB hT (ro_ci r_h rfl) (ro_n0 r_h (by decide)) rfl 2 (by decide) k_149 (Or.inl rfl) rfl rfl dX3_copyFrom_27 (fun H locs hT => ?_)
  have hI : Inv (sF (sV (sF g h 0 (.ref v_1)) v_3 cf_4) h 2 (.int v_5)) := hI.sF (p_4_2 r_h (⟨_, rfl⟩))
  have hM : Sm md_n_copyFrom g (sF (sV (sF g h 0 (.ref v_1)) v_3 cf_4) h 2 (.int v_5)) := hM.tr hE (Sm_sF (by rw [r_h]; rfl))
  have hE : Ex g (sF (sV (sF g h 0 (.ref v_1)) v_3 cf_4) h 2 (.int v_5)) := hE
  refine lv_aload_n hx hb dX3_copyFrom_30 rfl (lv_at hl 0 rfl) ?_
  refine lv_aload_n hx hb dX3_copyFrom_31 rfl (lv_at hl 1 rfl) ?_
  obtain ⟨v_6, e_v_6⟩ := f_10_3 hI r_o
  refine t_get (ci := 3) (v := .int v_6) hB hT (ro_ci r_o rfl) rfl 3 (by decide) k_152 e_v_6 dX3_copyFrom_32 ?_
  refine t_put0 (ci := 3) (v := .int v_6) hB hT (ro_ci r_h rfl) (ro_n0 r_h (by decide)) rfl 3 (by decide) k_152 (Or.inl rfl) rfl rfl dX3_copyFrom_35 (fun H locs hT => ?_)
  have hI : Inv (sF (sF (sV (sF g h 0 (.ref v_1)) v_3 cf_4) h 2 (.int v_5)) h 3 (.int v_6)) := hI.sF (p_4_3 r_h (⟨_, rfl⟩))
  have hM : Sm md_n_copyFrom g (sF (sF (sV (sF g h 0 (.ref v_1)) v_3 cf_4) h 2 (.int v_5)) h 3 (.int v_6)) := hM.tr hE (Sm_sF (by rw [r_h]; rfl))
  have hE : Ex g (sF (sF (sV (sF g h 0 (.ref v_1)) v_3 cf_4) h 2 (.int v_5)) h 3 (.int v_6)) := hE
  refine lv_aload_n hx hb dX3_copyFrom_38 rfl (lv_at hl 0 rfl) ?_
  refine lv_aload_n hx hb dX3_copyFrom_39 rfl (lv_at hl 1 rfl) ?_
  obtain ⟨v_7, e_v_7⟩ := f_10_4 hI r_o
  refine t_get (ci := 3) (v := .int v_7) hB hT (ro_ci r_o rfl) rfl 4 (by decide) k_155 e_v_7 dX3_copyFrom_40 ?_
  refine t_put0 (ci := 3) (v := .int v_7) hB hT (ro_ci r_h rfl) (ro_n0 r_h (by decide)) rfl 4 (by decide) k_155 (Or.inl rfl) rfl rfl dX3_copyFrom_43 (fun H locs hT => ?_)
  have hI : Inv (sF (sF (sF (sV (sF g h 0 (.ref v_1)) v_3 cf_4) h 2 (.int v_5)) h 3 (.int v_6)) h 4 (.int v_7)) := hI.sF (p_4_4 r_h (⟨_, rfl⟩))
  have hM : Sm md_n_copyFrom g (sF (sF (sF (sV (sF g h 0 (.ref v_1)) v_3 cf_4) h 2 (.int v_5)) h 3 (.int v_6)) h 4 (.int v_7)) := hM.tr hE (Sm_sF (by rw [r_h]; rfl))
  have hE : Ex g (sF (sF (sF (sV (sF g h 0 (.ref v_1)) v_3 cf_4) h 2 (.int v_5)) h 3 (.int v_6)) h 4 (.int v_7)) := hE
  refine lv_aload_n hx hb dX3_copyFrom_46 rfl (lv_at hl 0 rfl) ?_
  refine lv_aload_n hx hb dX3_copyFrom_47 rfl (lv_at hl 1 rfl) ?_
  obtain ⟨v_8, e_v_8, l_v_8, u_v_8⟩ := f_10_5 hI r_o
  refine t_get (ci := 3) (v := .int v_8) hB hT (ro_ci r_o rfl) rfl 5 (by decide) k_158 e_v_8 dX3_copyFrom_48 ?_
  refine t_put0 (ci := 3) (v := .int v_8) hB hT (ro_ci r_h rfl) (ro_n0 r_h (by decide)) rfl 5 (by decide) k_158 (Or.inl rfl) rfl rfl dX3_copyFrom_51 (fun H locs hT => ?_)
  have hI : Inv (sF (sF (sF (sF (sV (sF g h 0 (.ref v_1)) v_3 cf_4) h 2 (.int v_5)) h 3 (.int v_6)) h 4 (.int v_7)) h 5 (.int v_8)) := hI.sF (p_4_5 r_h (⟨_, rfl, by omega, by omega⟩))
  have hM : Sm md_n_copyFrom g (sF (sF (sF (sF (sV (sF g h 0 (.ref v_1)) v_3 cf_4) h 2 (.int v_5)) h 3 (.int v_6)) h 4 (.int v_7)) h 5 (.int v_8)) := hM.tr hE (Sm_sF (by rw [r_h]; rfl))
  have hE : Ex g (sF (sF (sF (sF (sV (sF g h 0 (.ref v_1)) v_3 cf_4) h 2 (.int v_5)) h 3 (.int v_6)) h 4 (.int v_7)) h 5 (.int v_8)) := hE
  refine lv_aload_n hx hb dX3_copyFrom_54 rfl (lv_at hl 1 rfl) ?_
  obtain ⟨v_9, e_v_9, r_v_9, n_v_9⟩ := f_10_6 hI r_o
  refine t_get (ci := 3) (v := .ref v_9) hB hT (ro_ci r_o rfl) rfl 6 (by decide) k_159 e_v_9 dX3_copyFrom_55 ?_
  refine lv_iconst (v := 0) hx hb dX3_copyFrom_58 (by decide) ?_
  refine lv_aload_n hx hb dX3_copyFrom_59 rfl (lv_at hl 0 rfl) ?_
  obtain ⟨v_10, e_v_10, r_v_10, n_v_10⟩ := f_4_6 hI r_h
  refine t_get (ci := 3) (v := .ref v_10) hB hT (ro_ci r_h rfl) rfl 6 (by decide) k_159 e_v_10 dX3_copyFrom_60 ?_
  refine lv_iconst (v := 0) hx hb dX3_copyFrom_63 (by decide) ?_
  refine lv_aload_n hx hb dX3_copyFrom_64 rfl (lv_at hl 0 rfl) ?_
  refine t_get (ci := 3) (v := .int v_8) hB hT (ro_ci r_h rfl) rfl 5 (by decide) k_158 sF_eq dX3_copyFrom_65 ?_
  refine t_copy (n0 := 16) (n1 := 16) hB hT k_525 k_496 k_495 k_70 hl.1 r_v_9 r_v_10 (by decide) n_v_9 n_v_10 (by have q0 : (0 : Int32).toInt = 0 := (by decide); omega) (by have q0 : (0 : Int32).toInt = 0 := (by decide); omega) (by have q0 : (0 : Int32).toInt = 0 := (by decide); omega) (by have q0 : (0 : Int32).toInt = 0 := (by decide); omega) (by have q0 : (0 : Int32).toInt = 0 := (by decide); omega) (Nat.le_of_ble_eq_true rfl) (Nat.le_of_ble_eq_true rfl) dX3_copyFrom_68 hI (fun H locs cf_11 ecf_11 hT hI => ?_)
  have hM : Sm md_n_copyFrom g (sV (sF (sF (sF (sF (sV (sF g h 0 (.ref v_1)) v_3 cf_4) h 2 (.int v_5)) h 3 (.int v_6)) h 4 (.int v_7)) h 5 (.int v_8)) v_10 cf_11) := hM.tr hE (Sm_sV (by rw [r_v_10]; rfl))
  have hE : Ex g (sV (sF (sF (sF (sF (sV (sF g h 0 (.ref v_1)) v_3 cf_4) h 2 (.int v_5)) h 3 (.int v_6)) h 4 (.int v_7)) h 5 (.int v_8)) v_10 cf_11) := hE
  refine lv_aload_n hx hb dX3_copyFrom_71 rfl (lv_at hl 1 rfl) ?_
  obtain ⟨v_12, e_v_12, r_v_12, n_v_12⟩ := f_10_7 hI r_o
  refine t_get (ci := 3) (v := .ref v_12) hB hT (ro_ci r_o rfl) rfl 7 (by decide) k_160 e_v_12 dX3_copyFrom_72 ?_
  refine lv_iconst (v := 0) hx hb dX3_copyFrom_75 (by decide) ?_
  refine lv_aload_n hx hb dX3_copyFrom_76 rfl (lv_at hl 0 rfl) ?_
  obtain ⟨v_13, e_v_13, r_v_13, n_v_13⟩ := f_4_7 hI r_h
  refine t_get (ci := 3) (v := .ref v_13) hB hT (ro_ci r_h rfl) rfl 7 (by decide) k_160 e_v_13 dX3_copyFrom_77 ?_
  refine lv_iconst (v := 0) hx hb dX3_copyFrom_80 (by decide) ?_
  refine lv_aload_n hx hb dX3_copyFrom_81 rfl (lv_at hl 0 rfl) ?_
  refine t_get (ci := 3) (v := .int v_8) hB hT (ro_ci r_h rfl) rfl 5 (by decide) k_158 sF_eq dX3_copyFrom_82 ?_
  refine t_copy (n0 := 16) (n1 := 16) hB hT k_525 k_496 k_495 k_70 hl.1 r_v_12 r_v_13 (by decide) n_v_12 n_v_13 (by have q0 : (0 : Int32).toInt = 0 := (by decide); omega) (by have q0 : (0 : Int32).toInt = 0 := (by decide); omega) (by have q0 : (0 : Int32).toInt = 0 := (by decide); omega) (by have q0 : (0 : Int32).toInt = 0 := (by decide); omega) (by have q0 : (0 : Int32).toInt = 0 := (by decide); omega) (Nat.le_of_ble_eq_true rfl) (Nat.le_of_ble_eq_true rfl) dX3_copyFrom_85 hI (fun H locs cf_14 ecf_14 hT hI => ?_)
  have hM : Sm md_n_copyFrom g (sV (sV (sF (sF (sF (sF (sV (sF g h 0 (.ref v_1)) v_3 cf_4) h 2 (.int v_5)) h 3 (.int v_6)) h 4 (.int v_7)) h 5 (.int v_8)) v_10 cf_11) v_13 cf_14) := hM.tr hE (Sm_sV (by rw [r_v_13]; rfl))
  have hE : Ex g (sV (sV (sF (sF (sF (sF (sV (sF g h 0 (.ref v_1)) v_3 cf_4) h 2 (.int v_5)) h 3 (.int v_6)) h 4 (.int v_7)) h 5 (.int v_8)) v_10 cf_11) v_13 cf_14) := hE
  have r_15 : (sV (sV (sF (sF (sF (sF (sV (sF g h 0 (.ref v_1)) v_3 cf_4) h 2 (.int v_5)) h 3 (.int v_6)) h 4 (.int v_7)) h 5 (.int v_8)) v_10 cf_11) v_13 cf_14).1 h = 4 := r_h
  have r_16 : (sV (sV (sF (sF (sF (sF (sV (sF g h 0 (.ref v_1)) v_3 cf_4) h 2 (.int v_5)) h 3 (.int v_6)) h 4 (.int v_7)) h 5 (.int v_8)) v_10 cf_11) v_13 cf_14).1 o = 10 := r_o
  have r_17 : (sV (sV (sF (sF (sF (sF (sV (sF g h 0 (.ref v_1)) v_3 cf_4) h 2 (.int v_5)) h 3 (.int v_6)) h 4 (.int v_7)) h 5 (.int v_8)) v_10 cf_11) v_13 cf_14).1 v_1 = 3 := r_v_1
  have r_18 : (sV (sV (sF (sF (sF (sF (sV (sF g h 0 (.ref v_1)) v_3 cf_4) h 2 (.int v_5)) h 3 (.int v_6)) h 4 (.int v_7)) h 5 (.int v_8)) v_10 cf_11) v_13 cf_14).1 v_2 = 50 := r_v_2
  have r_19 : (sV (sV (sF (sF (sF (sF (sV (sF g h 0 (.ref v_1)) v_3 cf_4) h 2 (.int v_5)) h 3 (.int v_6)) h 4 (.int v_7)) h 5 (.int v_8)) v_10 cf_11) v_13 cf_14).1 v_3 = 50 := r_v_3
  have r_20 : (sV (sV (sF (sF (sF (sF (sV (sF g h 0 (.ref v_1)) v_3 cf_4) h 2 (.int v_5)) h 3 (.int v_6)) h 4 (.int v_7)) h 5 (.int v_8)) v_10 cf_11) v_13 cf_14).1 v_9 = 50 := r_v_9
  have r_21 : (sV (sV (sF (sF (sF (sF (sV (sF g h 0 (.ref v_1)) v_3 cf_4) h 2 (.int v_5)) h 3 (.int v_6)) h 4 (.int v_7)) h 5 (.int v_8)) v_10 cf_11) v_13 cf_14).1 v_10 = 50 := r_v_10
  have r_22 : (sV (sV (sF (sF (sF (sF (sV (sF g h 0 (.ref v_1)) v_3 cf_4) h 2 (.int v_5)) h 3 (.int v_6)) h 4 (.int v_7)) h 5 (.int v_8)) v_10 cf_11) v_13 cf_14).1 v_12 = 50 := r_v_12
  have r_23 : (sV (sV (sF (sF (sF (sF (sV (sF g h 0 (.ref v_1)) v_3 cf_4) h 2 (.int v_5)) h 3 (.int v_6)) h 4 (.int v_7)) h 5 (.int v_8)) v_10 cf_11) v_13 cf_14).1 v_13 = 50 := r_v_13
  have n_24 : (sV (sV (sF (sF (sF (sF (sV (sF g h 0 (.ref v_1)) v_3 cf_4) h 2 (.int v_5)) h 3 (.int v_6)) h 4 (.int v_7)) h 5 (.int v_8)) v_10 cf_11) v_13 cf_14).2.2.1 v_2 = 4 := n_v_2
  have n_25 : (sV (sV (sF (sF (sF (sF (sV (sF g h 0 (.ref v_1)) v_3 cf_4) h 2 (.int v_5)) h 3 (.int v_6)) h 4 (.int v_7)) h 5 (.int v_8)) v_10 cf_11) v_13 cf_14).2.2.1 v_3 = 4 := n_v_3
  have n_26 : (sV (sV (sF (sF (sF (sF (sV (sF g h 0 (.ref v_1)) v_3 cf_4) h 2 (.int v_5)) h 3 (.int v_6)) h 4 (.int v_7)) h 5 (.int v_8)) v_10 cf_11) v_13 cf_14).2.2.1 v_9 = 16 := n_v_9
  have n_27 : (sV (sV (sF (sF (sF (sF (sV (sF g h 0 (.ref v_1)) v_3 cf_4) h 2 (.int v_5)) h 3 (.int v_6)) h 4 (.int v_7)) h 5 (.int v_8)) v_10 cf_11) v_13 cf_14).2.2.1 v_10 = 16 := n_v_10
  have n_28 : (sV (sV (sF (sF (sF (sF (sV (sF g h 0 (.ref v_1)) v_3 cf_4) h 2 (.int v_5)) h 3 (.int v_6)) h 4 (.int v_7)) h 5 (.int v_8)) v_10 cf_11) v_13 cf_14).2.2.1 v_12 = 16 := n_v_12
  have n_29 : (sV (sV (sF (sF (sF (sF (sV (sF g h 0 (.ref v_1)) v_3 cf_4) h 2 (.int v_5)) h 3 (.int v_6)) h 4 (.int v_7)) h 5 (.int v_8)) v_10 cf_11) v_13 cf_14).2.2.1 v_13 = 16 := n_v_13
  have kn_30 : (sV (sV (sF (sF (sF (sF (sV (sF g h 0 (.ref v_1)) v_3 cf_4) h 2 (.int v_5)) h 3 (.int v_6)) h 4 (.int v_7)) h 5 (.int v_8)) v_10 cf_11) v_13 cf_14).2.1 o 0 = .ref v_1 := (sF_k (sF_k (sF_k (sF_k (sF_a e_v_1 (ro_ne r_o r_h (by decide))) (by decide)) (by decide)) (by decide)) (by decide))
  have kn_31 : (sV (sV (sF (sF (sF (sF (sV (sF g h 0 (.ref v_1)) v_3 cf_4) h 2 (.int v_5)) h 3 (.int v_6)) h 4 (.int v_7)) h 5 (.int v_8)) v_10 cf_11) v_13 cf_14).2.1 h 0 = .ref v_1 := (sF_k (sF_k (sF_k (sF_k sF_eq (by decide)) (by decide)) (by decide)) (by decide))
  have kn_32 : (sV (sV (sF (sF (sF (sF (sV (sF g h 0 (.ref v_1)) v_3 cf_4) h 2 (.int v_5)) h 3 (.int v_6)) h 4 (.int v_7)) h 5 (.int v_8)) v_10 cf_11) v_13 cf_14).2.1 o 1 = .ref v_2 := (sF_k (sF_k (sF_k (sF_k e_v_2 (by decide)) (by decide)) (by decide)) (by decide))
  have kn_33 : (sV (sV (sF (sF (sF (sF (sV (sF g h 0 (.ref v_1)) v_3 cf_4) h 2 (.int v_5)) h 3 (.int v_6)) h 4 (.int v_7)) h 5 (.int v_8)) v_10 cf_11) v_13 cf_14).2.1 h 1 = .ref v_3 := (sF_k (sF_k (sF_k (sF_k e_v_3 (by decide)) (by decide)) (by decide)) (by decide))
  have kn_34 : (sV (sV (sF (sF (sF (sF (sV (sF g h 0 (.ref v_1)) v_3 cf_4) h 2 (.int v_5)) h 3 (.int v_6)) h 4 (.int v_7)) h 5 (.int v_8)) v_10 cf_11) v_13 cf_14).2.1 o 2 = .int v_5 := (sF_k (sF_k (sF_k (sF_a e_v_5 (ro_ne r_o r_h (by decide))) (by decide)) (by decide)) (by decide))
  have kn_35 : (sV (sV (sF (sF (sF (sF (sV (sF g h 0 (.ref v_1)) v_3 cf_4) h 2 (.int v_5)) h 3 (.int v_6)) h 4 (.int v_7)) h 5 (.int v_8)) v_10 cf_11) v_13 cf_14).2.1 h 2 = .int v_5 := (sF_k (sF_k (sF_k sF_eq (by decide)) (by decide)) (by decide))
  have kn_36 : (sV (sV (sF (sF (sF (sF (sV (sF g h 0 (.ref v_1)) v_3 cf_4) h 2 (.int v_5)) h 3 (.int v_6)) h 4 (.int v_7)) h 5 (.int v_8)) v_10 cf_11) v_13 cf_14).2.1 o 3 = .int v_6 := (sF_k (sF_k (sF_a e_v_6 (ro_ne r_o r_h (by decide))) (by decide)) (by decide))
  have kn_37 : (sV (sV (sF (sF (sF (sF (sV (sF g h 0 (.ref v_1)) v_3 cf_4) h 2 (.int v_5)) h 3 (.int v_6)) h 4 (.int v_7)) h 5 (.int v_8)) v_10 cf_11) v_13 cf_14).2.1 h 3 = .int v_6 := (sF_k (sF_k sF_eq (by decide)) (by decide))
  have kn_38 : (sV (sV (sF (sF (sF (sF (sV (sF g h 0 (.ref v_1)) v_3 cf_4) h 2 (.int v_5)) h 3 (.int v_6)) h 4 (.int v_7)) h 5 (.int v_8)) v_10 cf_11) v_13 cf_14).2.1 o 4 = .int v_7 := (sF_k (sF_a e_v_7 (ro_ne r_o r_h (by decide))) (by decide))
  have kn_39 : (sV (sV (sF (sF (sF (sF (sV (sF g h 0 (.ref v_1)) v_3 cf_4) h 2 (.int v_5)) h 3 (.int v_6)) h 4 (.int v_7)) h 5 (.int v_8)) v_10 cf_11) v_13 cf_14).2.1 h 4 = .int v_7 := (sF_k sF_eq (by decide))
  have kn_40 : (sV (sV (sF (sF (sF (sF (sV (sF g h 0 (.ref v_1)) v_3 cf_4) h 2 (.int v_5)) h 3 (.int v_6)) h 4 (.int v_7)) h 5 (.int v_8)) v_10 cf_11) v_13 cf_14).2.1 o 5 = .int v_8 := (sF_a e_v_8 (ro_ne r_o r_h (by decide)))
  have kn_41 : (sV (sV (sF (sF (sF (sF (sV (sF g h 0 (.ref v_1)) v_3 cf_4) h 2 (.int v_5)) h 3 (.int v_6)) h 4 (.int v_7)) h 5 (.int v_8)) v_10 cf_11) v_13 cf_14).2.1 h 5 = .int v_8 := sF_eq
  have kn_42 : (sV (sV (sF (sF (sF (sF (sV (sF g h 0 (.ref v_1)) v_3 cf_4) h 2 (.int v_5)) h 3 (.int v_6)) h 4 (.int v_7)) h 5 (.int v_8)) v_10 cf_11) v_13 cf_14).2.1 o 6 = .ref v_9 := e_v_9
  have kn_43 : (sV (sV (sF (sF (sF (sF (sV (sF g h 0 (.ref v_1)) v_3 cf_4) h 2 (.int v_5)) h 3 (.int v_6)) h 4 (.int v_7)) h 5 (.int v_8)) v_10 cf_11) v_13 cf_14).2.1 h 6 = .ref v_10 := e_v_10
  have kn_44 : (sV (sV (sF (sF (sF (sF (sV (sF g h 0 (.ref v_1)) v_3 cf_4) h 2 (.int v_5)) h 3 (.int v_6)) h 4 (.int v_7)) h 5 (.int v_8)) v_10 cf_11) v_13 cf_14).2.1 o 7 = .ref v_12 := e_v_12
  have kn_45 : (sV (sV (sF (sF (sF (sF (sV (sF g h 0 (.ref v_1)) v_3 cf_4) h 2 (.int v_5)) h 3 (.int v_6)) h 4 (.int v_7)) h 5 (.int v_8)) v_10 cf_11) v_13 cf_14).2.1 h 7 = .ref v_13 := e_v_13
  generalize (sV (sV (sF (sF (sF (sF (sV (sF g h 0 (.ref v_1)) v_3 cf_4) h 2 (.int v_5)) h 3 (.int v_6)) h 4 (.int v_7)) h 5 (.int v_8)) v_10 cf_11) v_13 cf_14) = g_46 at hT hI hM hE r_15 r_16 r_17 r_18 r_19 r_20 r_21 r_22 r_23 n_24 n_25 n_26 n_27 n_28 n_29 kn_30 kn_31 kn_32 kn_33 kn_34 kn_35 kn_36 kn_37 kn_38 kn_39 kn_40 kn_41 kn_42 kn_43 kn_44 kn_45
  refine lv_aload_n hx hb dX3_copyFrom_88 rfl (lv_at hl 1 rfl) ?_
  obtain ⟨v_47, e_v_47, r_v_47, n_v_47⟩ := f_10_8 hI r_16
  refine t_get (ci := 3) (v := .ref v_47) hB hT (ro_ci r_16 rfl) rfl 8 (by decide) k_161 e_v_47 dX3_copyFrom_89 ?_
  refine lv_iconst (v := 0) hx hb dX3_copyFrom_92 (by decide) ?_
  refine lv_aload_n hx hb dX3_copyFrom_93 rfl (lv_at hl 0 rfl) ?_
  obtain ⟨v_48, e_v_48, r_v_48, n_v_48⟩ := f_4_8 hI r_15
  refine t_get (ci := 3) (v := .ref v_48) hB hT (ro_ci r_15 rfl) rfl 8 (by decide) k_161 e_v_48 dX3_copyFrom_94 ?_
  refine lv_iconst (v := 0) hx hb dX3_copyFrom_97 (by decide) ?_
  refine lv_aload_n hx hb dX3_copyFrom_98 rfl (lv_at hl 0 rfl) ?_
  refine t_get (ci := 3) (v := .int v_8) hB hT (ro_ci r_15 rfl) rfl 5 (by decide) k_158 kn_41 dX3_copyFrom_99 ?_
  refine t_copy (n0 := 16) (n1 := 16) hB hT k_525 k_496 k_495 k_70 hl.1 r_v_47 r_v_48 (by decide) n_v_47 n_v_48 (by have q0 : (0 : Int32).toInt = 0 := (by decide); omega) (by have q0 : (0 : Int32).toInt = 0 := (by decide); omega) (by have q0 : (0 : Int32).toInt = 0 := (by decide); omega) (by have q0 : (0 : Int32).toInt = 0 := (by decide); omega) (by have q0 : (0 : Int32).toInt = 0 := (by decide); omega) (Nat.le_of_ble_eq_true rfl) (Nat.le_of_ble_eq_true rfl) dX3_copyFrom_102 hI (fun H locs cf_49 ecf_49 hT hI => ?_)
  have hM : Sm md_n_copyFrom g (sV g_46 v_48 cf_49) := hM.tr hE (Sm_sV (by rw [r_v_48]; rfl))
  have hE : Ex g (sV g_46 v_48 cf_49) := hE
  refine lv_aload_n hx hb dX3_copyFrom_105 rfl (lv_at hl 1 rfl) ?_
  obtain ⟨v_50, e_v_50, r_v_50, n_v_50⟩ := f_10_9 hI r_16
  refine t_get (ci := 3) (v := .ref v_50) hB hT (ro_ci r_16 rfl) rfl 9 (by decide) k_162 e_v_50 dX3_copyFrom_106 ?_
  refine lv_iconst (v := 0) hx hb dX3_copyFrom_109 (by decide) ?_
  refine lv_aload_n hx hb dX3_copyFrom_110 rfl (lv_at hl 0 rfl) ?_
  obtain ⟨v_51, e_v_51, r_v_51, n_v_51⟩ := f_4_9 hI r_15
  refine t_get (ci := 3) (v := .ref v_51) hB hT (ro_ci r_15 rfl) rfl 9 (by decide) k_162 e_v_51 dX3_copyFrom_111 ?_
  refine lv_iconst (v := 0) hx hb dX3_copyFrom_114 (by decide) ?_
  refine lv_aload_n hx hb dX3_copyFrom_115 rfl (lv_at hl 0 rfl) ?_
  refine t_get (ci := 3) (v := .int v_8) hB hT (ro_ci r_15 rfl) rfl 5 (by decide) k_158 kn_41 dX3_copyFrom_116 ?_
  refine t_copy (n0 := 16) (n1 := 16) hB hT k_525 k_496 k_495 k_70 hl.1 r_v_50 r_v_51 (by decide) n_v_50 n_v_51 (by have q0 : (0 : Int32).toInt = 0 := (by decide); omega) (by have q0 : (0 : Int32).toInt = 0 := (by decide); omega) (by have q0 : (0 : Int32).toInt = 0 := (by decide); omega) (by have q0 : (0 : Int32).toInt = 0 := (by decide); omega) (by have q0 : (0 : Int32).toInt = 0 := (by decide); omega) (Nat.le_of_ble_eq_true rfl) (Nat.le_of_ble_eq_true rfl) dX3_copyFrom_119 hI (fun H locs cf_52 ecf_52 hT hI => ?_)
  have hM : Sm md_n_copyFrom g (sV (sV g_46 v_48 cf_49) v_51 cf_52) := hM.tr hE (Sm_sV (by rw [r_v_51]; rfl))
  have hE : Ex g (sV (sV g_46 v_48 cf_49) v_51 cf_52) := hE
  refine lv_aload_n hx hb dX3_copyFrom_122 rfl (lv_at hl 0 rfl) ?_
  refine lv_aload_n hx hb dX3_copyFrom_123 rfl (lv_at hl 1 rfl) ?_
  obtain ⟨v_53, e_v_53⟩ := f_10_10 hI r_16
  refine t_get (ci := 3) (v := .int v_53) hB hT (ro_ci r_16 rfl) rfl 10 (by decide) k_163 e_v_53 dX3_copyFrom_124 ?_
  refine t_put0 (ci := 3) (v := .int v_53) hB hT (ro_ci r_15 rfl) (ro_n0 r_15 (by decide)) rfl 10 (by decide) k_163 (Or.inl rfl) rfl rfl dX3_copyFrom_127 (fun H locs hT => ?_)
  have hI : Inv (sF (sV (sV g_46 v_48 cf_49) v_51 cf_52) h 10 (.int v_53)) := hI.sF (p_4_10 r_15 (⟨_, rfl⟩))
  have hM : Sm md_n_copyFrom g (sF (sV (sV g_46 v_48 cf_49) v_51 cf_52) h 10 (.int v_53)) := hM.tr hE (Sm_sF (by rw [r_15]; rfl))
  have hE : Ex g (sF (sV (sV g_46 v_48 cf_49) v_51 cf_52) h 10 (.int v_53)) := hE
  refine lv_aload_n hx hb dX3_copyFrom_130 rfl (lv_at hl 0 rfl) ?_
  refine lv_aload_n hx hb dX3_copyFrom_131 rfl (lv_at hl 1 rfl) ?_
  obtain ⟨v_54, e_v_54⟩ := f_10_11 hI r_16
  refine t_get (ci := 3) (v := .int v_54) hB hT (ro_ci r_16 rfl) rfl 11 (by decide) k_164 e_v_54 dX3_copyFrom_132 ?_
  refine t_put0 (ci := 3) (v := .int v_54) hB hT (ro_ci r_15 rfl) (ro_n0 r_15 (by decide)) rfl 11 (by decide) k_164 (Or.inl rfl) rfl rfl dX3_copyFrom_135 (fun H locs hT => ?_)
  have hI : Inv (sF (sF (sV (sV g_46 v_48 cf_49) v_51 cf_52) h 10 (.int v_53)) h 11 (.int v_54)) := hI.sF (p_4_11 r_15 (⟨_, rfl⟩))
  have hM : Sm md_n_copyFrom g (sF (sF (sV (sV g_46 v_48 cf_49) v_51 cf_52) h 10 (.int v_53)) h 11 (.int v_54)) := hM.tr hE (Sm_sF (by rw [r_15]; rfl))
  have hE : Ex g (sF (sF (sV (sV g_46 v_48 cf_49) v_51 cf_52) h 10 (.int v_53)) h 11 (.int v_54)) := hE
  refine lv_aload_n hx hb dX3_copyFrom_138 rfl (lv_at hl 1 rfl) ?_
  obtain ⟨v_55, e_v_55, r_v_55, n_v_55⟩ := f_10_12 hI r_16
  refine t_get (ci := 3) (v := .ref v_55) hB hT (ro_ci r_16 rfl) rfl 12 (by decide) k_165 e_v_55 dX3_copyFrom_139 ?_
  refine lv_iconst (v := 0) hx hb dX3_copyFrom_142 (by decide) ?_
  refine lv_aload_n hx hb dX3_copyFrom_143 rfl (lv_at hl 0 rfl) ?_
  obtain ⟨v_56, e_v_56, r_v_56, n_v_56⟩ := f_4_12 hI r_15
  refine t_get (ci := 3) (v := .ref v_56) hB hT (ro_ci r_15 rfl) rfl 12 (by decide) k_165 e_v_56 dX3_copyFrom_144 ?_
  refine lv_iconst (v := 0) hx hb dX3_copyFrom_147 (by decide) ?_
  refine lv_bipush (v := 8) hx hb dX3_copyFrom_148 (by decide) ?_
  refine t_copy (n0 := 8) (n1 := 8) hB hT k_525 k_496 k_495 k_70 hl.1 r_v_55 r_v_56 (by decide) n_v_55 n_v_56 (by have q0 : (0 : Int32).toInt = 0 := (by decide); have q1 : (8 : Int32).toInt = 8 := (by decide); omega) (by have q0 : (0 : Int32).toInt = 0 := (by decide); have q1 : (8 : Int32).toInt = 8 := (by decide); omega) (by have q0 : (0 : Int32).toInt = 0 := (by decide); have q1 : (8 : Int32).toInt = 8 := (by decide); omega) (by have q0 : (0 : Int32).toInt = 0 := (by decide); have q1 : (8 : Int32).toInt = 8 := (by decide); omega) (by have q0 : (0 : Int32).toInt = 0 := (by decide); have q1 : (8 : Int32).toInt = 8 := (by decide); omega) (Nat.le_of_ble_eq_true rfl) (Nat.le_of_ble_eq_true rfl) dX3_copyFrom_150 hI (fun H locs cf_57 ecf_57 hT hI => ?_)
  have hM : Sm md_n_copyFrom g (sV (sF (sF (sV (sV g_46 v_48 cf_49) v_51 cf_52) h 10 (.int v_53)) h 11 (.int v_54)) v_56 cf_57) := hM.tr hE (Sm_sV (by rw [r_v_56]; rfl))
  have hE : Ex g (sV (sF (sF (sV (sV g_46 v_48 cf_49) v_51 cf_52) h 10 (.int v_53)) h 11 (.int v_54)) v_56 cf_57) := hE
  exact t_vret hB hr hT (Nat.le_of_ble_eq_true rfl) (Nat.le_of_ble_eq_true rfl) dX3_copyFrom_153 ⟨rfl, hI, hE, hM⟩
abbrev md_s_sameStore : Nat → Nat → Bool := mdf []
set_option maxHeartbeats 4000000 in
set_option maxRecDepth 100000 in
theorem lt_s_sameStore_a (l : Launch) (D : va_G) (cI cZ cS cR : ClassId) (N0 : NT) (g : GS) (h : Nat) (o : Nat) (r_h : g.1 h = 4) (r_o : g.1 o = 4) {p : Program} {e : Env} {s : State} {m : MethodId} {args : Array Value} {below : List Frame} {meth : Method} {c : Code} (hB : Tz p s m meth c args cX3_hasSameStore 3 RX3 D cI cZ cS cR N0) (hr : meth.sig.returnType = (some .boolean))    : ∀ (kf : Nat) (i : Int32)  (H : Heap) (locs : List Loc) (ls : Array Slot), Tv D cI cZ cS cR N0 s.heap H locs g → Inv g → Ex g g → Sm md_s_sameStore g g → 0 ≤ i.toInt → i.toInt ≤ 4 → (4 ≤ i.toInt + kf) → lv_has ls 3 [(2, .int i), (0, .ref h), (1, .ref o)] → W p l e (rmx 0 0 0) s m args below meth c H locs 0 0 (MQ below (tQ D cI cZ cS cR N0 (fun v g' => ∃ (r : Int32), v = some (.int r) ∧ g' = g ∧ (r = 1 ∨ r = 0))) args s 0 0 (fun q => N0.1 ≤ q)) (F0 m 2 ls []) := by
  have hx := hB.1
  have hb := hB.2.1
  intro kf
  induction kf using Nat.strongRecOn with
  | ind kf ih =>
    intro i H locs ls hT hI hE hM l_i u_i hk hl
    have r_1 : g.1 h = 4 := Ex.r hE r_h (by decide)
    have r_2 : g.1 o = 4 := Ex.r hE r_o (by decide)
    refine lv_iload_n hx hb dX3_hasSameStore_2 rfl (lv_at hl 0 rfl) ?_
    refine lv_iconst (v := 4) hx hb dX3_hasSameStore_3 (by decide) ?_
    refine lv_icmp_ge (tgt := 30) hx hb dX3_hasSameStore_4 (by decide) (fun c_3 => ?_) (fun c_3 => ?_)
    · have c_3' : 4 ≤ i.toInt := i_le c_3 (by decide) rfl
      refine lv_iconst (v := 1) hx hb dX3_hasSameStore_30 (by decide) ?_
      exact t_zret hB hr rfl hT (Nat.le_of_ble_eq_true rfl) (Nat.le_of_ble_eq_true rfl) dX3_hasSameStore_31 ⟨1, rfl, rfl, (Or.inl rfl)⟩
    · have c_3' : i.toInt < 4 := i_nle c_3 (by decide) rfl
      refine lv_aload_n hx hb dX3_hasSameStore_7 rfl (lv_at hl 1 rfl) ?_
      obtain ⟨v_4, e_v_4, r_v_4, n_v_4⟩ := f_4_1 hI r_1
      refine t_get (ci := 3) (v := .ref v_4) hB hT (ro_ci r_1 rfl) rfl 1 (by decide) k_146 e_v_4 dX3_hasSameStore_8 ?_
      refine lv_iload_n hx hb dX3_hasSameStore_11 rfl (lv_at hl 0 rfl) ?_
      have i_u_5 : vp_in i 4 := (i_in (n := 4) rfl (by omega) (by omega))
      refine t_iald hB hT (ro_in r_v_4 (by decide)) n_v_4 i_u_5 rfl dX3_hasSameStore_12 ?_
      refine lv_topi (fun u_5 e_u_5 => ?_)
      refine lv_aload_n hx hb dX3_hasSameStore_13 rfl (lv_at hl 2 rfl) ?_
      obtain ⟨v_6, e_v_6, r_v_6, n_v_6⟩ := f_4_1 hI r_2
      refine t_get (ci := 3) (v := .ref v_6) hB hT (ro_ci r_2 rfl) rfl 1 (by decide) k_146 e_v_6 dX3_hasSameStore_14 ?_
      refine lv_iload_n hx hb dX3_hasSameStore_17 rfl (lv_at hl 0 rfl) ?_
      have i_u_7 : vp_in i 4 := (i_in (n := 4) rfl (by omega) (by omega))
      refine t_iald hB hT (ro_in r_v_6 (by decide)) n_v_6 i_u_7 rfl dX3_hasSameStore_18 ?_
      refine lv_topi (fun u_7 e_u_7 => ?_)
      refine lv_icmp_eq (tgt := 24) hx hb dX3_hasSameStore_19 (by decide) (fun c_8 => ?_) (fun c_8 => ?_)
      · have c_8' : u_5.toInt = u_7.toInt := i_eq c_8 rfl rfl
        obtain ⟨z_9, ez_9⟩ : ∃ z : Int32, z = i + 1 := ⟨_, rfl⟩
        have e_z_9 : z_9.toInt = i.toInt + 1 := i_add ez_9 rfl (by decide) (by omega) (by omega)
        refine lv_iinc (v := z_9) (lv' := [(2, .int z_9), (0, .ref h), (1, .ref o)]) hx hb dX3_hasSameStore_24 hl (k := 0) rfl (by rw [ez_9]; rfl) (by decide) rfl (fun ls hl => ?_)
        refine lv_goto (tgt := 2) hx hb dX3_hasSameStore_27 (by decide) ?_
        exact ih (kf - 1) (by omega) z_9 H locs ls hT hI hE hM (by omega) (by omega) (by have e0_ : (0 : Int32).toInt = 0 := (by decide); omega) (lv_sub hl [0, 1, 2] rfl)
      · have c_8' : u_5.toInt ≠ u_7.toInt := i_ne c_8 rfl rfl
        refine lv_iconst (v := 0) hx hb dX3_hasSameStore_22 (by decide) ?_
        exact t_zret hB hr rfl hT (Nat.le_of_ble_eq_true rfl) (Nat.le_of_ble_eq_true rfl) dX3_hasSameStore_23 ⟨0, rfl, rfl, (Or.inr rfl)⟩
set_option maxHeartbeats 4000000 in
set_option maxRecDepth 100000 in
theorem s_sameStore (l : Launch) (D : va_G) (cI cZ cS cR : ClassId) (N0 : NT) (g : GS) (hI : Inv g) (h : Nat) (o : Nat) (r_h : g.1 h = 4) (r_o : g.1 o = 4) : Ty l D cI cZ cS cR N0 yX3_hasSameStore cX3_hasSameStore 3 (some .boolean) 0 0 0 [.ref h, .ref o] g (fun v g' => ∃ (r : Int32), v = some (.int r) ∧ g' = g ∧ (r = 1 ∨ r = 0)) := by
  refine t_enter (by decide) (Nat.le_of_ble_eq_true rfl) ?_
  intro p e s m args below meth c ls H locs hB hr hin hl hT
  have hx := hB.1
  have hb := hB.2.1
  have hl : lv_has ls 3 [(0, .ref h), (1, .ref o)] := hl
  have hE : Ex g g := Ex.rf
  have hM : Sm md_s_sameStore g g := Sm.rf
  refine lv_iconst (v := 0) hx hb dX3_hasSameStore_0 (by decide) ?_
  refine lv_istore_n (lv' := [(2, .int 0), (0, .ref h), (1, .ref o)]) hx hb dX3_hasSameStore_1 rfl hl (by decide) rfl (fun ls hl => ?_)
  exact lt_s_sameStore_a l D cI cZ cS cR N0 g h o r_h r_o hB hr   4 (0 : Int32) H locs ls hT hI hE hM (by decide) (by decide) (by have e0_ : (0 : Int32).toInt = 0 := (by decide); omega) (lv_sub hl [0, 1, 2] rfl)
abbrev md_s_wcopy : Nat → Nat → Bool := mdf [(4, 0), (4, 2), (4, 3), (4, 4), (4, 5), (4, 10), (4, 11), (6, 1), (6, 2), (6, 4), (50, 99)]
theorem mdle_s_wcopy_s_copyFrom {r k : Nat} (h : md_s_wcopy r k = false) : md_s_copyFrom r k = false := mdf_le (by decide +kernel) h
set_option maxHeartbeats 4000000 in
set_option maxRecDepth 100000 in
theorem lt_s_wcopy_a (l : Launch) (D : va_G) (cI cZ cS cR : ClassId) (N0 : NT) (g : GS) (h : Nat) (o : Nat) (r_h : g.1 h = 6) (r_o : g.1 o = 6) {p : Program} {e : Env} {s : State} {m : MethodId} {args : Array Value} {below : List Frame} {meth : Method} {c : Code} (hB : Tz p s m meth c args cX5_copyFrom 3 RX5 D cI cZ cS cR N0) (hr : meth.sig.returnType = none)    : ∀ (kf : Nat) (g1 : GS) (i : Int32)  (H : Heap) (locs : List Loc) (ls : Array Slot), Tv D cI cZ cS cR N0 s.heap H locs g1 → Inv g1 → Ex g g1 → Sm md_s_wcopy g g1 → 0 ≤ i.toInt → i.toInt ≤ 6 → (6 ≤ i.toInt + kf) → lv_has ls 3 [(2, .int i), (0, .ref h), (1, .ref o)] → W p l e (rmx 1 0 0) s m args below meth c H locs 0 0 (MQ below (tQ D cI cZ cS cR N0 (fun v g' => v = none ∧ Inv g' ∧ Ex g g' ∧ Sm md_s_wcopy g g')) args s 0 0 (fun q => N0.1 ≤ q)) (F0 m 23 ls []) := by
  have hx := hB.1
  have hb := hB.2.1
  intro kf
  induction kf using Nat.strongRecOn with
  | ind kf ih =>
    intro g1 i H locs ls hT hI hE hM l_i u_i hk hl
    have r_1 : g1.1 h = 6 := Ex.r hE r_h (by decide)
    have r_2 : g1.1 o = 6 := Ex.r hE r_o (by decide)
    refine lv_iload_n hx hb dX5_copyFrom_23 rfl (lv_at hl 0 rfl) ?_
    refine lv_aload_n hx hb dX5_copyFrom_24 rfl (lv_at hl 1 rfl) ?_
    obtain ⟨v_3, e_v_3, l_v_3, u_v_3⟩ := f_6_1 hI r_1
    refine t_get (ci := 5) (v := .int v_3) hB hT (ro_ci r_1 rfl) rfl 1 (by decide) k_202 e_v_3 dX5_copyFrom_25 ?_
    refine lv_icmp_ge (tgt := 52) hx hb dX5_copyFrom_28 (by decide) (fun c_4 => ?_) (fun c_4 => ?_)
    · have c_4' : v_3.toInt ≤ i.toInt := i_le c_4 rfl rfl
      exact t_vret hB hr hT (Nat.le_of_ble_eq_true rfl) (Nat.le_of_ble_eq_true rfl) dX5_copyFrom_52 ⟨rfl, hI, hE, hM⟩
    · have c_4' : i.toInt < v_3.toInt := i_nle c_4 rfl rfl
      refine lv_aload_n hx hb dX5_copyFrom_31 rfl (lv_at hl 1 rfl) ?_
      obtain ⟨v_5, e_v_5, r_v_5, n_v_5⟩ := f_6_0 hI r_1
      refine t_get (ci := 5) (v := .ref v_5) hB hT (ro_ci r_1 rfl) rfl 0 (by decide) k_199 e_v_5 dX5_copyFrom_32 ?_
      refine lv_iload_n hx hb dX5_copyFrom_35 rfl (lv_at hl 0 rfl) ?_
      have i_q_6 : vp_in i 6 := (i_in (n := 6) rfl (by omega) (by omega))
      obtain ⟨q_6, e_q_6, r_q_6⟩ := hI.q r_v_5 n_v_5 (i_cl i_q_6)
      refine t_aald hB hT (Or.inl r_v_5) n_v_5 i_q_6 e_q_6 dX5_copyFrom_36 ?_
      refine lv_aload_n hx hb dX5_copyFrom_37 rfl (lv_at hl 2 rfl) ?_
      obtain ⟨v_7, e_v_7, r_v_7, n_v_7⟩ := f_6_0 hI r_2
      refine t_get (ci := 5) (v := .ref v_7) hB hT (ro_ci r_2 rfl) rfl 0 (by decide) k_199 e_v_7 dX5_copyFrom_38 ?_
      refine lv_iload_n hx hb dX5_copyFrom_41 rfl (lv_at hl 0 rfl) ?_
      have i_q_8 : vp_in i 6 := (i_in (n := 6) rfl (by omega) (by omega))
      obtain ⟨q_8, e_q_8, r_q_8⟩ := hI.q r_v_7 n_v_7 (i_cl i_q_8)
      refine t_aald hB hT (Or.inl r_v_7) n_v_7 i_q_8 e_q_8 dX5_copyFrom_42 ?_
      refine t_callV (n := 1) (As := [.ref q_8]) (rest := []) (ci := 3) hB hT hl.1 (s_copyFrom l D cI cZ cS cR N0 g1 hI q_6 q_8 r_q_6 r_q_8) (ro_ci r_q_6 rfl) rfl k_589 k_60 k_586 k_587 k_588 (by decide +kernel) ⟨(Nat.le_of_ble_eq_true rfl), (Nat.le_of_ble_eq_true rfl)⟩ rfl (Nat.le_of_ble_eq_true rfl) ⟨(Nat.le_of_ble_eq_true rfl), (Nat.le_of_ble_eq_true rfl)⟩ dX5_copyFrom_43 (fun v g_9 H locs hp hT => ?_)
      obtain ⟨rfl, hI, x_11, m_10⟩ := hp
      have hM : Sm md_s_wcopy g g_9 := hM.tr hE (m_10.mo (fun r k h => mdle_s_wcopy_s_copyFrom h))
      have hE : Ex g g_9 := hE.tr x_11
      have r_12 : g_9.1 h = 6 := (Ex.r x_11 r_1 (by decide))
      have r_13 : g_9.1 o = 6 := (Ex.r x_11 r_2 (by decide))
      have r_14 : g_9.1 v_5 = 41 := (Ex.r x_11 r_v_5 (by decide))
      have r_15 : g_9.1 q_6 = 4 := (Ex.r x_11 r_q_6 (by decide))
      have r_16 : g_9.1 v_7 = 41 := (Ex.r x_11 r_v_7 (by decide))
      have r_17 : g_9.1 q_8 = 4 := (Ex.r x_11 r_q_8 (by decide))
      have n_18 : g_9.2.2.1 v_5 = 6 := (Ex.n x_11 r_v_5 (by decide) n_v_5)
      have n_19 : g_9.2.2.1 v_7 = 6 := (Ex.n x_11 r_v_7 (by decide) n_v_7)
      have kn_20 : g_9.2.1 h 1 = .int v_3 := (Sm.v m_10 r_1 (by decide) rfl e_v_3)
      have kn_21 : g_9.2.1 h 0 = .ref v_5 := (Sm.v m_10 r_1 (by decide) rfl e_v_5)
      have kn_22 : g_9.2.1 o 0 = .ref v_7 := (Sm.v m_10 r_2 (by decide) rfl e_v_7)
      refine W.eq (g2 := F0 m 46 ls []) rfl ?_
      obtain ⟨z_23, ez_23⟩ : ∃ z : Int32, z = i + 1 := ⟨_, rfl⟩
      have e_z_23 : z_23.toInt = i.toInt + 1 := i_add ez_23 rfl (by decide) (by omega) (by omega)
      refine lv_iinc (v := z_23) (lv' := [(2, .int z_23), (0, .ref h), (1, .ref o)]) hx hb dX5_copyFrom_46 hl (k := 0) rfl (by rw [ez_23]; rfl) (by decide) rfl (fun ls hl => ?_)
      refine lv_goto (tgt := 23) hx hb dX5_copyFrom_49 (by decide) ?_
      exact ih (kf - 1) (by omega) g_9 z_23 H locs ls hT hI hE hM (by omega) (by omega) (by have e0_ : (0 : Int32).toInt = 0 := (by decide); omega) (lv_sub hl [0, 1, 2] rfl)
set_option maxHeartbeats 4000000 in
set_option maxRecDepth 100000 in
theorem s_wcopy (l : Launch) (D : va_G) (cI cZ cS cR : ClassId) (N0 : NT) (g : GS) (hI : Inv g) (h : Nat) (o : Nat) (r_h : g.1 h = 6) (r_o : g.1 o = 6) : Ty l D cI cZ cS cR N0 yX5_copyFrom cX5_copyFrom 3 none 1 0 0 [.ref h, .ref o] g (fun v g' => v = none ∧ Inv g' ∧ Ex g g' ∧ Sm md_s_wcopy g g') := by
  refine t_enter (by decide) (Nat.le_of_ble_eq_true rfl) ?_
  intro p e s m args below meth c ls H locs hB hr hin hl hT
  have hx := hB.1
  have hb := hB.2.1
  have hl : lv_has ls 3 [(0, .ref h), (1, .ref o)] := hl
  have hE : Ex g g := Ex.rf
  have hM : Sm md_s_wcopy g g := Sm.rf
  refine lv_aload_n hx hb dX5_copyFrom_0 rfl (lv_at hl 0 rfl) ?_
  refine lv_aload_n hx hb dX5_copyFrom_1 rfl (lv_at hl 1 rfl) ?_
  obtain ⟨v_1, e_v_1, l_v_1, u_v_1⟩ := f_6_1 hI r_o
  refine t_get (ci := 5) (v := .int v_1) hB hT (ro_ci r_o rfl) rfl 1 (by decide) k_202 e_v_1 dX5_copyFrom_2 ?_
  refine t_put0 (ci := 5) (v := .int v_1) hB hT (ro_ci r_h rfl) (ro_n0 r_h (by decide)) rfl 1 (by decide) k_202 (Or.inl rfl) rfl rfl dX5_copyFrom_5 (fun H locs hT => ?_)
  have hI : Inv (sF g h 1 (.int v_1)) := hI.sF (p_6_1 r_h (⟨_, rfl, by omega, by omega⟩))
  have hM : Sm md_s_wcopy g (sF g h 1 (.int v_1)) := hM.tr hE (Sm_sF (by rw [r_h]; rfl))
  have hE : Ex g (sF g h 1 (.int v_1)) := hE
  refine lv_aload_n hx hb dX5_copyFrom_8 rfl (lv_at hl 0 rfl) ?_
  refine lv_aload_n hx hb dX5_copyFrom_9 rfl (lv_at hl 1 rfl) ?_
  obtain ⟨v_2, e_v_2⟩ := f_6_2 hI r_o
  refine t_get (ci := 5) (v := .int v_2) hB hT (ro_ci r_o rfl) rfl 2 (by decide) k_205 e_v_2 dX5_copyFrom_10 ?_
  refine t_put0 (ci := 5) (v := .int v_2) hB hT (ro_ci r_h rfl) (ro_n0 r_h (by decide)) rfl 2 (by decide) k_205 (Or.inl rfl) rfl rfl dX5_copyFrom_13 (fun H locs hT => ?_)
  have hI : Inv (sF (sF g h 1 (.int v_1)) h 2 (.int v_2)) := hI.sF (p_6_2 r_h (⟨_, rfl⟩))
  have hM : Sm md_s_wcopy g (sF (sF g h 1 (.int v_1)) h 2 (.int v_2)) := hM.tr hE (Sm_sF (by rw [r_h]; rfl))
  have hE : Ex g (sF (sF g h 1 (.int v_1)) h 2 (.int v_2)) := hE
  refine lv_aload_n hx hb dX5_copyFrom_16 rfl (lv_at hl 0 rfl) ?_
  refine lv_iconst (v := 0) hx hb dX5_copyFrom_17 (by decide) ?_
  refine t_put0 (ci := 5) (v := .int 0) hB hT (ro_ci r_h rfl) (ro_n0 r_h (by decide)) rfl 4 (by decide) k_210 (Or.inl rfl) rfl rfl dX5_copyFrom_18 (fun H locs hT => ?_)
  have hI : Inv (sF (sF (sF g h 1 (.int v_1)) h 2 (.int v_2)) h 4 (.int 0)) := hI.sF (p_6_4 r_h (⟨_, rfl⟩))
  have hM : Sm md_s_wcopy g (sF (sF (sF g h 1 (.int v_1)) h 2 (.int v_2)) h 4 (.int 0)) := hM.tr hE (Sm_sF (by rw [r_h]; rfl))
  have hE : Ex g (sF (sF (sF g h 1 (.int v_1)) h 2 (.int v_2)) h 4 (.int 0)) := hE
  refine lv_iconst (v := 0) hx hb dX5_copyFrom_21 (by decide) ?_
  refine lv_istore_n (lv' := [(2, .int 0), (0, .ref h), (1, .ref o)]) hx hb dX5_copyFrom_22 rfl hl (by decide) rfl (fun ls hl => ?_)
  exact lt_s_wcopy_a l D cI cZ cS cR N0 g h o r_h r_o hB hr   6 (sF (sF (sF g h 1 (.int v_1)) h 2 (.int v_2)) h 4 (.int 0)) (0 : Int32) H locs ls hT hI hE hM (by decide) (by decide) (by have e0_ : (0 : Int32).toInt = 0 := (by decide); omega) (lv_sub hl [0, 1, 2] rfl)
abbrev md_n_wcopy : Nat → Nat → Bool := mdf [(4, 0), (4, 2), (4, 3), (4, 4), (4, 5), (4, 10), (4, 11), (6, 1), (6, 2), (6, 4), (50, 99)]
theorem mdle_n_wcopy_n_copyFrom {r k : Nat} (h : md_n_wcopy r k = false) : md_n_copyFrom r k = false := mdf_le (by decide +kernel) h
set_option maxHeartbeats 4000000 in
set_option maxRecDepth 100000 in
theorem lt_n_wcopy_a (l : Launch) (D : va_G) (cI cZ cS cR : ClassId) (N0 : NT) (g : GS) (h : Nat) (o : Nat) (r_h : g.1 h = 6) (r_o : g.1 o = 19) {p : Program} {e : Env} {s : State} {m : MethodId} {args : Array Value} {below : List Frame} {meth : Method} {c : Code} (hB : Tz p s m meth c args cX5_copyFrom 3 RX5 D cI cZ cS cR N0) (hr : meth.sig.returnType = none)    : ∀ (kf : Nat) (g1 : GS) (i : Int32)  (H : Heap) (locs : List Loc) (ls : Array Slot), Tv D cI cZ cS cR N0 s.heap H locs g1 → Inv g1 → Ex g g1 → Sm md_n_wcopy g g1 → 0 ≤ i.toInt → i.toInt ≤ 6 → (6 ≤ i.toInt + kf) → lv_has ls 3 [(2, .int i), (0, .ref h), (1, .ref o)] → W p l e (rmx 1 0 0) s m args below meth c H locs 0 0 (MQ below (tQ D cI cZ cS cR N0 (fun v g' => v = none ∧ Inv g' ∧ Ex g g' ∧ Sm md_n_wcopy g g')) args s 0 0 (fun q => N0.1 ≤ q)) (F0 m 23 ls []) := by
  have hx := hB.1
  have hb := hB.2.1
  intro kf
  induction kf using Nat.strongRecOn with
  | ind kf ih =>
    intro g1 i H locs ls hT hI hE hM l_i u_i hk hl
    have r_1 : g1.1 h = 6 := Ex.r hE r_h (by decide)
    have r_2 : g1.1 o = 19 := Ex.r hE r_o (by decide)
    refine lv_iload_n hx hb dX5_copyFrom_23 rfl (lv_at hl 0 rfl) ?_
    refine lv_aload_n hx hb dX5_copyFrom_24 rfl (lv_at hl 1 rfl) ?_
    obtain ⟨v_3, e_v_3, l_v_3, u_v_3⟩ := f_6_1 hI r_1
    refine t_get (ci := 5) (v := .int v_3) hB hT (ro_ci r_1 rfl) rfl 1 (by decide) k_202 e_v_3 dX5_copyFrom_25 ?_
    refine lv_icmp_ge (tgt := 52) hx hb dX5_copyFrom_28 (by decide) (fun c_4 => ?_) (fun c_4 => ?_)
    · have c_4' : v_3.toInt ≤ i.toInt := i_le c_4 rfl rfl
      exact t_vret hB hr hT (Nat.le_of_ble_eq_true rfl) (Nat.le_of_ble_eq_true rfl) dX5_copyFrom_52 ⟨rfl, hI, hE, hM⟩
    · have c_4' : i.toInt < v_3.toInt := i_nle c_4 rfl rfl
      refine lv_aload_n hx hb dX5_copyFrom_31 rfl (lv_at hl 1 rfl) ?_
      obtain ⟨v_5, e_v_5, r_v_5, n_v_5⟩ := f_6_0 hI r_1
      refine t_get (ci := 5) (v := .ref v_5) hB hT (ro_ci r_1 rfl) rfl 0 (by decide) k_199 e_v_5 dX5_copyFrom_32 ?_
      refine lv_iload_n hx hb dX5_copyFrom_35 rfl (lv_at hl 0 rfl) ?_
      have i_q_6 : vp_in i 6 := (i_in (n := 6) rfl (by omega) (by omega))
      obtain ⟨q_6, e_q_6, r_q_6⟩ := hI.q r_v_5 n_v_5 (i_cl i_q_6)
      refine t_aald hB hT (Or.inl r_v_5) n_v_5 i_q_6 e_q_6 dX5_copyFrom_36 ?_
      refine lv_aload_n hx hb dX5_copyFrom_37 rfl (lv_at hl 2 rfl) ?_
      obtain ⟨v_7, e_v_7, r_v_7, n_v_7⟩ := f_19_0 hI r_2
      refine t_get (ci := 5) (v := .ref v_7) hB hT (ro_ci r_2 rfl) rfl 0 (by decide) k_199 e_v_7 dX5_copyFrom_38 ?_
      refine lv_iload_n hx hb dX5_copyFrom_41 rfl (lv_at hl 0 rfl) ?_
      have i_q_8 : vp_in i 6 := (i_in (n := 6) rfl (by omega) (by omega))
      obtain ⟨q_8, e_q_8, r_q_8⟩ := hI.q r_v_7 n_v_7 (i_cl i_q_8)
      refine t_aald hB hT (Or.inr <| Or.inl r_v_7) n_v_7 i_q_8 e_q_8 dX5_copyFrom_42 ?_
      refine t_callV (n := 1) (As := [.ref q_8]) (rest := []) (ci := 3) hB hT hl.1 (n_copyFrom l D cI cZ cS cR N0 g1 hI q_6 q_8 r_q_6 r_q_8) (ro_ci r_q_6 rfl) rfl k_589 k_60 k_586 k_587 k_588 (by decide +kernel) ⟨(Nat.le_of_ble_eq_true rfl), (Nat.le_of_ble_eq_true rfl)⟩ rfl (Nat.le_of_ble_eq_true rfl) ⟨(Nat.le_of_ble_eq_true rfl), (Nat.le_of_ble_eq_true rfl)⟩ dX5_copyFrom_43 (fun v g_9 H locs hp hT => ?_)
      obtain ⟨rfl, hI, x_11, m_10⟩ := hp
      have hM : Sm md_n_wcopy g g_9 := hM.tr hE (m_10.mo (fun r k h => mdle_n_wcopy_n_copyFrom h))
      have hE : Ex g g_9 := hE.tr x_11
      have r_12 : g_9.1 h = 6 := (Ex.r x_11 r_1 (by decide))
      have r_13 : g_9.1 o = 19 := (Ex.r x_11 r_2 (by decide))
      have r_14 : g_9.1 v_5 = 41 := (Ex.r x_11 r_v_5 (by decide))
      have r_15 : g_9.1 q_6 = 4 := (Ex.r x_11 r_q_6 (by decide))
      have r_16 : g_9.1 v_7 = 42 := (Ex.r x_11 r_v_7 (by decide))
      have r_17 : g_9.1 q_8 = 10 := (Ex.r x_11 r_q_8 (by decide))
      have n_18 : g_9.2.2.1 v_5 = 6 := (Ex.n x_11 r_v_5 (by decide) n_v_5)
      have n_19 : g_9.2.2.1 v_7 = 6 := (Ex.n x_11 r_v_7 (by decide) n_v_7)
      have kn_20 : g_9.2.1 h 1 = .int v_3 := (Sm.v m_10 r_1 (by decide) rfl e_v_3)
      have kn_21 : g_9.2.1 h 0 = .ref v_5 := (Sm.v m_10 r_1 (by decide) rfl e_v_5)
      have kn_22 : g_9.2.1 o 0 = .ref v_7 := (Sm.v m_10 r_2 (by decide) rfl e_v_7)
      refine W.eq (g2 := F0 m 46 ls []) rfl ?_
      obtain ⟨z_23, ez_23⟩ : ∃ z : Int32, z = i + 1 := ⟨_, rfl⟩
      have e_z_23 : z_23.toInt = i.toInt + 1 := i_add ez_23 rfl (by decide) (by omega) (by omega)
      refine lv_iinc (v := z_23) (lv' := [(2, .int z_23), (0, .ref h), (1, .ref o)]) hx hb dX5_copyFrom_46 hl (k := 0) rfl (by rw [ez_23]; rfl) (by decide) rfl (fun ls hl => ?_)
      refine lv_goto (tgt := 23) hx hb dX5_copyFrom_49 (by decide) ?_
      exact ih (kf - 1) (by omega) g_9 z_23 H locs ls hT hI hE hM (by omega) (by omega) (by have e0_ : (0 : Int32).toInt = 0 := (by decide); omega) (lv_sub hl [0, 1, 2] rfl)
set_option maxHeartbeats 4000000 in
set_option maxRecDepth 100000 in
theorem n_wcopy (l : Launch) (D : va_G) (cI cZ cS cR : ClassId) (N0 : NT) (g : GS) (hI : Inv g) (h : Nat) (o : Nat) (r_h : g.1 h = 6) (r_o : g.1 o = 19) : Ty l D cI cZ cS cR N0 yX5_copyFrom cX5_copyFrom 3 none 1 0 0 [.ref h, .ref o] g (fun v g' => v = none ∧ Inv g' ∧ Ex g g' ∧ Sm md_n_wcopy g g') := by
  refine t_enter (by decide) (Nat.le_of_ble_eq_true rfl) ?_
  intro p e s m args below meth c ls H locs hB hr hin hl hT
  have hx := hB.1
  have hb := hB.2.1
  have hl : lv_has ls 3 [(0, .ref h), (1, .ref o)] := hl
  have hE : Ex g g := Ex.rf
  have hM : Sm md_n_wcopy g g := Sm.rf
  refine lv_aload_n hx hb dX5_copyFrom_0 rfl (lv_at hl 0 rfl) ?_
  refine lv_aload_n hx hb dX5_copyFrom_1 rfl (lv_at hl 1 rfl) ?_
  obtain ⟨v_1, e_v_1, l_v_1, u_v_1⟩ := f_19_1 hI r_o
  refine t_get (ci := 5) (v := .int v_1) hB hT (ro_ci r_o rfl) rfl 1 (by decide) k_202 e_v_1 dX5_copyFrom_2 ?_
  refine t_put0 (ci := 5) (v := .int v_1) hB hT (ro_ci r_h rfl) (ro_n0 r_h (by decide)) rfl 1 (by decide) k_202 (Or.inl rfl) rfl rfl dX5_copyFrom_5 (fun H locs hT => ?_)
  have hI : Inv (sF g h 1 (.int v_1)) := hI.sF (p_6_1 r_h (⟨_, rfl, by omega, by omega⟩))
  have hM : Sm md_n_wcopy g (sF g h 1 (.int v_1)) := hM.tr hE (Sm_sF (by rw [r_h]; rfl))
  have hE : Ex g (sF g h 1 (.int v_1)) := hE
  refine lv_aload_n hx hb dX5_copyFrom_8 rfl (lv_at hl 0 rfl) ?_
  refine lv_aload_n hx hb dX5_copyFrom_9 rfl (lv_at hl 1 rfl) ?_
  obtain ⟨v_2, e_v_2⟩ := f_19_2 hI r_o
  refine t_get (ci := 5) (v := .int v_2) hB hT (ro_ci r_o rfl) rfl 2 (by decide) k_205 e_v_2 dX5_copyFrom_10 ?_
  refine t_put0 (ci := 5) (v := .int v_2) hB hT (ro_ci r_h rfl) (ro_n0 r_h (by decide)) rfl 2 (by decide) k_205 (Or.inl rfl) rfl rfl dX5_copyFrom_13 (fun H locs hT => ?_)
  have hI : Inv (sF (sF g h 1 (.int v_1)) h 2 (.int v_2)) := hI.sF (p_6_2 r_h (⟨_, rfl⟩))
  have hM : Sm md_n_wcopy g (sF (sF g h 1 (.int v_1)) h 2 (.int v_2)) := hM.tr hE (Sm_sF (by rw [r_h]; rfl))
  have hE : Ex g (sF (sF g h 1 (.int v_1)) h 2 (.int v_2)) := hE
  refine lv_aload_n hx hb dX5_copyFrom_16 rfl (lv_at hl 0 rfl) ?_
  refine lv_iconst (v := 0) hx hb dX5_copyFrom_17 (by decide) ?_
  refine t_put0 (ci := 5) (v := .int 0) hB hT (ro_ci r_h rfl) (ro_n0 r_h (by decide)) rfl 4 (by decide) k_210 (Or.inl rfl) rfl rfl dX5_copyFrom_18 (fun H locs hT => ?_)
  have hI : Inv (sF (sF (sF g h 1 (.int v_1)) h 2 (.int v_2)) h 4 (.int 0)) := hI.sF (p_6_4 r_h (⟨_, rfl⟩))
  have hM : Sm md_n_wcopy g (sF (sF (sF g h 1 (.int v_1)) h 2 (.int v_2)) h 4 (.int 0)) := hM.tr hE (Sm_sF (by rw [r_h]; rfl))
  have hE : Ex g (sF (sF (sF g h 1 (.int v_1)) h 2 (.int v_2)) h 4 (.int 0)) := hE
  refine lv_iconst (v := 0) hx hb dX5_copyFrom_21 (by decide) ?_
  refine lv_istore_n (lv' := [(2, .int 0), (0, .ref h), (1, .ref o)]) hx hb dX5_copyFrom_22 rfl hl (by decide) rfl (fun ls hl => ?_)
  exact lt_n_wcopy_a l D cI cZ cS cR N0 g h o r_h r_o hB hr   6 (sF (sF (sF g h 1 (.int v_1)) h 2 (.int v_2)) h 4 (.int 0)) (0 : Int32) H locs ls hT hI hE hM (by decide) (by decide) (by have e0_ : (0 : Int32).toInt = 0 := (by decide); omega) (lv_sub hl [0, 1, 2] rfl)
abbrev md_n_wfresh : Nat → Nat → Bool := mdf [(10, 2), (10, 5), (19, 2), (19, 4), (50, 99)]
theorem mdle_n_wfresh_n_mfresh {r k : Nat} (h : md_n_wfresh r k = false) : md_n_mfresh r k = false := mdf_le (by decide +kernel) h
set_option maxHeartbeats 4000000 in
set_option maxRecDepth 100000 in
theorem lt_n_wfresh_a (l : Launch) (D : va_G) (cI cZ cS cR : ClassId) (N0 : NT) (g : GS) (h : Nat) (r_h : g.1 h = 19) {p : Program} {e : Env} {s : State} {m : MethodId} {args : Array Value} {below : List Frame} {meth : Method} {c : Code} (hB : Tz p s m meth c args cX5_makeFresh 2 RX5 D cI cZ cS cR N0) (hr : meth.sig.returnType = none)    : ∀ (kf : Nat) (g1 : GS) (i : Int32)  (H : Heap) (locs : List Loc) (ls : Array Slot), Tv D cI cZ cS cR N0 s.heap H locs g1 → Inv g1 → Ex g g1 → Sm md_n_wfresh g g1 → 0 ≤ i.toInt → i.toInt ≤ 6 → (6 ≤ i.toInt + kf) → lv_has ls 2 [(1, .int i), (0, .ref h)] → W p l e (rmx 1 0 0) s m args below meth c H locs 0 0 (MQ below (tQ D cI cZ cS cR N0 (fun v g' => v = none ∧ Inv g' ∧ Ex g g' ∧ Sm md_n_wfresh g g')) args s 0 0 (fun q => N0.1 ≤ q)) (F0 m 12 ls []) := by
  have hx := hB.1
  have hb := hB.2.1
  intro kf
  induction kf using Nat.strongRecOn with
  | ind kf ih =>
    intro g1 i H locs ls hT hI hE hM l_i u_i hk hl
    have r_1 : g1.1 h = 19 := Ex.r hE r_h (by decide)
    refine lv_iload_n hx hb dX5_makeFresh_12 rfl (lv_at hl 0 rfl) ?_
    refine lv_aload_n hx hb dX5_makeFresh_13 rfl (lv_at hl 1 rfl) ?_
    obtain ⟨v_2, e_v_2, l_v_2, u_v_2⟩ := f_19_1 hI r_1
    refine t_get (ci := 5) (v := .int v_2) hB hT (ro_ci r_1 rfl) rfl 1 (by decide) k_202 e_v_2 dX5_makeFresh_14 ?_
    refine lv_icmp_ge (tgt := 35) hx hb dX5_makeFresh_17 (by decide) (fun c_3 => ?_) (fun c_3 => ?_)
    · have c_3' : v_2.toInt ≤ i.toInt := i_le c_3 rfl rfl
      exact t_vret hB hr hT (Nat.le_of_ble_eq_true rfl) (Nat.le_of_ble_eq_true rfl) dX5_makeFresh_35 ⟨rfl, hI, hE, hM⟩
    · have c_3' : i.toInt < v_2.toInt := i_nle c_3 rfl rfl
      refine lv_aload_n hx hb dX5_makeFresh_20 rfl (lv_at hl 1 rfl) ?_
      obtain ⟨v_4, e_v_4, r_v_4, n_v_4⟩ := f_19_0 hI r_1
      refine t_get (ci := 5) (v := .ref v_4) hB hT (ro_ci r_1 rfl) rfl 0 (by decide) k_199 e_v_4 dX5_makeFresh_21 ?_
      refine lv_iload_n hx hb dX5_makeFresh_24 rfl (lv_at hl 0 rfl) ?_
      have i_q_5 : vp_in i 6 := (i_in (n := 6) rfl (by omega) (by omega))
      obtain ⟨q_5, e_q_5, r_q_5⟩ := hI.q r_v_4 n_v_4 (i_cl i_q_5)
      refine t_aald hB hT (Or.inr <| Or.inl r_v_4) n_v_4 i_q_5 e_q_5 dX5_makeFresh_25 ?_
      refine t_callV (n := 0) (As := []) (rest := []) (ci := 3) hB hT hl.1 (n_mfresh l D cI cZ cS cR N0 g1 hI q_5 r_q_5) (ro_ci r_q_5 rfl) rfl k_734 k_60 k_731 k_732 k_733 (by decide +kernel) ⟨(Nat.le_of_ble_eq_true rfl), (Nat.le_of_ble_eq_true rfl)⟩ rfl (Nat.le_of_ble_eq_true rfl) ⟨(Nat.le_of_ble_eq_true rfl), (Nat.le_of_ble_eq_true rfl)⟩ dX5_makeFresh_26 (fun v g_6 H locs hp hT => ?_)
      obtain ⟨rfl, hI, x_8, m_7⟩ := hp
      have hM : Sm md_n_wfresh g g_6 := hM.tr hE (m_7.mo (fun r k h => mdle_n_wfresh_n_mfresh h))
      have hE : Ex g g_6 := hE.tr x_8
      have r_9 : g_6.1 h = 19 := (Ex.r x_8 r_1 (by decide))
      have r_10 : g_6.1 v_4 = 42 := (Ex.r x_8 r_v_4 (by decide))
      have r_11 : g_6.1 q_5 = 10 := (Ex.r x_8 r_q_5 (by decide))
      have n_12 : g_6.2.2.1 v_4 = 6 := (Ex.n x_8 r_v_4 (by decide) n_v_4)
      have kn_13 : g_6.2.1 h 1 = .int v_2 := (Sm.v m_7 r_1 (by decide) rfl e_v_2)
      have kn_14 : g_6.2.1 h 0 = .ref v_4 := (Sm.v m_7 r_1 (by decide) rfl e_v_4)
      refine W.eq (g2 := F0 m 29 ls []) rfl ?_
      obtain ⟨z_15, ez_15⟩ : ∃ z : Int32, z = i + 1 := ⟨_, rfl⟩
      have e_z_15 : z_15.toInt = i.toInt + 1 := i_add ez_15 rfl (by decide) (by omega) (by omega)
      refine lv_iinc (v := z_15) (lv' := [(1, .int z_15), (0, .ref h)]) hx hb dX5_makeFresh_29 hl (k := 0) rfl (by rw [ez_15]; rfl) (by decide) rfl (fun ls hl => ?_)
      refine lv_goto (tgt := 12) hx hb dX5_makeFresh_32 (by decide) ?_
      exact ih (kf - 1) (by omega) g_6 z_15 H locs ls hT hI hE hM (by omega) (by omega) (by have e0_ : (0 : Int32).toInt = 0 := (by decide); omega) (lv_sub hl [0, 1] rfl)
set_option maxHeartbeats 4000000 in
set_option maxRecDepth 100000 in
theorem n_wfresh (l : Launch) (D : va_G) (cI cZ cS cR : ClassId) (N0 : NT) (g : GS) (hI : Inv g) (h : Nat) (r_h : g.1 h = 19) : Ty l D cI cZ cS cR N0 yX5_makeFresh cX5_makeFresh 2 none 1 0 0 [.ref h] g (fun v g' => v = none ∧ Inv g' ∧ Ex g g' ∧ Sm md_n_wfresh g g') := by
  refine t_enter (by decide) (Nat.le_of_ble_eq_true rfl) ?_
  intro p e s m args below meth c ls H locs hB hr hin hl hT
  have hx := hB.1
  have hb := hB.2.1
  have hl : lv_has ls 2 [(0, .ref h)] := hl
  have hE : Ex g g := Ex.rf
  have hM : Sm md_n_wfresh g g := Sm.rf
  refine lv_aload_n hx hb dX5_makeFresh_0 rfl (lv_at hl 0 rfl) ?_
  refine lv_iconst (v := 0) hx hb dX5_makeFresh_1 (by decide) ?_
  refine t_put0 (ci := 5) (v := .int 0) hB hT (ro_ci r_h rfl) (ro_n0 r_h (by decide)) rfl 2 (by decide) k_205 (Or.inl rfl) rfl rfl dX5_makeFresh_2 (fun H locs hT => ?_)
  have hI : Inv (sF g h 2 (.int 0)) := hI.sF (p_19_2 r_h (⟨_, rfl⟩))
  have hM : Sm md_n_wfresh g (sF g h 2 (.int 0)) := hM.tr hE (Sm_sF (by rw [r_h]; rfl))
  have hE : Ex g (sF g h 2 (.int 0)) := hE
  refine lv_aload_n hx hb dX5_makeFresh_5 rfl (lv_at hl 0 rfl) ?_
  refine lv_iconst (v := 0) hx hb dX5_makeFresh_6 (by decide) ?_
  refine t_put0 (ci := 5) (v := .int 0) hB hT (ro_ci r_h rfl) (ro_n0 r_h (by decide)) rfl 4 (by decide) k_210 (Or.inl rfl) rfl rfl dX5_makeFresh_7 (fun H locs hT => ?_)
  have hI : Inv (sF (sF g h 2 (.int 0)) h 4 (.int 0)) := hI.sF (p_19_4 r_h (⟨_, rfl⟩))
  have hM : Sm md_n_wfresh g (sF (sF g h 2 (.int 0)) h 4 (.int 0)) := hM.tr hE (Sm_sF (by rw [r_h]; rfl))
  have hE : Ex g (sF (sF g h 2 (.int 0)) h 4 (.int 0)) := hE
  refine lv_iconst (v := 0) hx hb dX5_makeFresh_10 (by decide) ?_
  refine lv_istore_n (lv' := [(1, .int 0), (0, .ref h)]) hx hb dX5_makeFresh_11 rfl hl (by decide) rfl (fun ls hl => ?_)
  exact lt_n_wfresh_a l D cI cZ cS cR N0 g h r_h hB hr   6 (sF (sF g h 2 (.int 0)) h 4 (.int 0)) (0 : Int32) H locs ls hT hI hE hM (by decide) (by decide) (by have e0_ : (0 : Int32).toInt = 0 := (by decide); omega) (lv_sub hl [0, 1] rfl)
abbrev md_s_holdAll : Nat → Nat → Bool := mdf [(4, 4)]
set_option maxHeartbeats 4000000 in
set_option maxRecDepth 100000 in
theorem lt_s_holdAll_a (l : Launch) (D : va_G) (cI cZ cS cR : ClassId) (N0 : NT) (g : GS) (h : Nat) (n : Int32) (r_h : g.1 h = 6) {p : Program} {e : Env} {s : State} {m : MethodId} {args : Array Value} {below : List Frame} {meth : Method} {c : Code} (hB : Tz p s m meth c args cX5_holdAll 3 RX5 D cI cZ cS cR N0) (hr : meth.sig.returnType = none)    : ∀ (kf : Nat) (g1 : GS) (i : Int32)  (H : Heap) (locs : List Loc) (ls : Array Slot), Tv D cI cZ cS cR N0 s.heap H locs g1 → Inv g1 → Ex g g1 → Sm md_s_holdAll g g1 → 0 ≤ i.toInt → i.toInt ≤ 6 → (6 ≤ i.toInt + kf) → lv_has ls 3 [(2, .int i), (0, .ref h), (1, .int n)] → W p l e (rmx 0 0 0) s m args below meth c H locs 0 0 (MQ below (tQ D cI cZ cS cR N0 (fun v g' => v = none ∧ Inv g' ∧ Ex g g' ∧ Sm md_s_holdAll g g')) args s 0 0 (fun q => N0.1 ≤ q)) (F0 m 2 ls []) := by
  have hx := hB.1
  have hb := hB.2.1
  intro kf
  induction kf using Nat.strongRecOn with
  | ind kf ih =>
    intro g1 i H locs ls hT hI hE hM l_i u_i hk hl
    have r_1 : g1.1 h = 6 := Ex.r hE r_h (by decide)
    refine lv_iload_n hx hb dX5_holdAll_2 rfl (lv_at hl 0 rfl) ?_
    refine lv_aload_n hx hb dX5_holdAll_3 rfl (lv_at hl 1 rfl) ?_
    obtain ⟨v_2, e_v_2, l_v_2, u_v_2⟩ := f_6_1 hI r_1
    refine t_get (ci := 5) (v := .int v_2) hB hT (ro_ci r_1 rfl) rfl 1 (by decide) k_202 e_v_2 dX5_holdAll_4 ?_
    refine lv_icmp_ge (tgt := 26) hx hb dX5_holdAll_7 (by decide) (fun c_3 => ?_) (fun c_3 => ?_)
    · have c_3' : v_2.toInt ≤ i.toInt := i_le c_3 rfl rfl
      exact t_vret hB hr hT (Nat.le_of_ble_eq_true rfl) (Nat.le_of_ble_eq_true rfl) dX5_holdAll_26 ⟨rfl, hI, hE, hM⟩
    · have c_3' : i.toInt < v_2.toInt := i_nle c_3 rfl rfl
      refine lv_aload_n hx hb dX5_holdAll_10 rfl (lv_at hl 1 rfl) ?_
      obtain ⟨v_4, e_v_4, r_v_4, n_v_4⟩ := f_6_0 hI r_1
      refine t_get (ci := 5) (v := .ref v_4) hB hT (ro_ci r_1 rfl) rfl 0 (by decide) k_199 e_v_4 dX5_holdAll_11 ?_
      refine lv_iload_n hx hb dX5_holdAll_14 rfl (lv_at hl 0 rfl) ?_
      have i_q_5 : vp_in i 6 := (i_in (n := 6) rfl (by omega) (by omega))
      obtain ⟨q_5, e_q_5, r_q_5⟩ := hI.q r_v_4 n_v_4 (i_cl i_q_5)
      refine t_aald hB hT (Or.inl r_v_4) n_v_4 i_q_5 e_q_5 dX5_holdAll_15 ?_
      refine lv_iload_n hx hb dX5_holdAll_16 rfl (lv_at hl 2 rfl) ?_
      refine t_put0 (ci := 3) (v := .int n) hB hT (ro_ci r_q_5 rfl) (ro_n0 r_q_5 (by decide)) rfl 4 (by decide) k_156 (Or.inl rfl) rfl rfl dX5_holdAll_17 (fun H locs hT => ?_)
      have hI : Inv (sF g1 q_5 4 (.int n)) := hI.sF (p_4_4 r_q_5 (⟨_, rfl⟩))
      have hM : Sm md_s_holdAll g (sF g1 q_5 4 (.int n)) := hM.tr hE (Sm_sF (by rw [r_q_5]; rfl))
      have hE : Ex g (sF g1 q_5 4 (.int n)) := hE
      obtain ⟨z_6, ez_6⟩ : ∃ z : Int32, z = i + 1 := ⟨_, rfl⟩
      have e_z_6 : z_6.toInt = i.toInt + 1 := i_add ez_6 rfl (by decide) (by omega) (by omega)
      refine lv_iinc (v := z_6) (lv' := [(2, .int z_6), (0, .ref h), (1, .int n)]) hx hb dX5_holdAll_20 hl (k := 0) rfl (by rw [ez_6]; rfl) (by decide) rfl (fun ls hl => ?_)
      refine lv_goto (tgt := 2) hx hb dX5_holdAll_23 (by decide) ?_
      exact ih (kf - 1) (by omega) (sF g1 q_5 4 (.int n)) z_6 H locs ls hT hI hE hM (by omega) (by omega) (by have e0_ : (0 : Int32).toInt = 0 := (by decide); omega) (lv_sub hl [0, 1, 2] rfl)
set_option maxHeartbeats 4000000 in
set_option maxRecDepth 100000 in
theorem s_holdAll (l : Launch) (D : va_G) (cI cZ cS cR : ClassId) (N0 : NT) (g : GS) (hI : Inv g) (h : Nat) (n : Int32) (r_h : g.1 h = 6) : Ty l D cI cZ cS cR N0 yX5_holdAll cX5_holdAll 3 none 0 0 0 [.ref h, .int n] g (fun v g' => v = none ∧ Inv g' ∧ Ex g g' ∧ Sm md_s_holdAll g g') := by
  refine t_enter (by decide) (Nat.le_of_ble_eq_true rfl) ?_
  intro p e s m args below meth c ls H locs hB hr hin hl hT
  have hx := hB.1
  have hb := hB.2.1
  have hl : lv_has ls 3 [(0, .ref h), (1, .int n)] := hl
  have hE : Ex g g := Ex.rf
  have hM : Sm md_s_holdAll g g := Sm.rf
  refine lv_iconst (v := 0) hx hb dX5_holdAll_0 (by decide) ?_
  refine lv_istore_n (lv' := [(2, .int 0), (0, .ref h), (1, .int n)]) hx hb dX5_holdAll_1 rfl hl (by decide) rfl (fun ls hl => ?_)
  exact lt_s_holdAll_a l D cI cZ cS cR N0 g h n r_h hB hr   6 g (0 : Int32) H locs ls hT hI hE hM (by decide) (by decide) (by have e0_ : (0 : Int32).toInt = 0 := (by decide); omega) (lv_sub hl [0, 1, 2] rfl)
abbrev md_s_addMends : Nat → Nat → Bool := mdf [(4, 3)]
set_option maxHeartbeats 4000000 in
set_option maxRecDepth 100000 in
theorem lt_s_addMends_a (l : Launch) (D : va_G) (cI cZ cS cR : ClassId) (N0 : NT) (g : GS) (h : Nat) (n : Int32) (r_h : g.1 h = 6) {p : Program} {e : Env} {s : State} {m : MethodId} {args : Array Value} {below : List Frame} {meth : Method} {c : Code} (hB : Tz p s m meth c args cX5_addMends 3 RX5 D cI cZ cS cR N0) (hr : meth.sig.returnType = none)    : ∀ (kf : Nat) (g1 : GS) (i : Int32)  (H : Heap) (locs : List Loc) (ls : Array Slot), Tv D cI cZ cS cR N0 s.heap H locs g1 → Inv g1 → Ex g g1 → Sm md_s_addMends g g1 → 0 ≤ i.toInt → i.toInt ≤ 6 → (6 ≤ i.toInt + kf) → lv_has ls 3 [(2, .int i), (0, .ref h), (1, .int n)] → W p l e (rmx 0 0 0) s m args below meth c H locs 0 0 (MQ below (tQ D cI cZ cS cR N0 (fun v g' => v = none ∧ Inv g' ∧ Ex g g' ∧ Sm md_s_addMends g g')) args s 0 0 (fun q => N0.1 ≤ q)) (F0 m 2 ls []) := by
  have hx := hB.1
  have hb := hB.2.1
  intro kf
  induction kf using Nat.strongRecOn with
  | ind kf ih =>
    intro g1 i H locs ls hT hI hE hM l_i u_i hk hl
    have r_1 : g1.1 h = 6 := Ex.r hE r_h (by decide)
    refine lv_iload_n hx hb dX5_addMends_2 rfl (lv_at hl 0 rfl) ?_
    refine lv_aload_n hx hb dX5_addMends_3 rfl (lv_at hl 1 rfl) ?_
    obtain ⟨v_2, e_v_2, l_v_2, u_v_2⟩ := f_6_1 hI r_1
    refine t_get (ci := 5) (v := .int v_2) hB hT (ro_ci r_1 rfl) rfl 1 (by decide) k_202 e_v_2 dX5_addMends_4 ?_
    refine lv_icmp_ge (tgt := 38) hx hb dX5_addMends_7 (by decide) (fun c_3 => ?_) (fun c_3 => ?_)
    · have c_3' : v_2.toInt ≤ i.toInt := i_le c_3 rfl rfl
      exact t_vret hB hr hT (Nat.le_of_ble_eq_true rfl) (Nat.le_of_ble_eq_true rfl) dX5_addMends_38 ⟨rfl, hI, hE, hM⟩
    · have c_3' : i.toInt < v_2.toInt := i_nle c_3 rfl rfl
      refine lv_aload_n hx hb dX5_addMends_10 rfl (lv_at hl 1 rfl) ?_
      obtain ⟨v_4, e_v_4, r_v_4, n_v_4⟩ := f_6_0 hI r_1
      refine t_get (ci := 5) (v := .ref v_4) hB hT (ro_ci r_1 rfl) rfl 0 (by decide) k_199 e_v_4 dX5_addMends_11 ?_
      refine lv_iload_n hx hb dX5_addMends_14 rfl (lv_at hl 0 rfl) ?_
      have i_q_5 : vp_in i 6 := (i_in (n := 6) rfl (by omega) (by omega))
      obtain ⟨q_5, e_q_5, r_q_5⟩ := hI.q r_v_4 n_v_4 (i_cl i_q_5)
      refine t_aald hB hT (Or.inl r_v_4) n_v_4 i_q_5 e_q_5 dX5_addMends_15 ?_
      refine lv_dup hx hb dX5_addMends_16 rfl ?_
      obtain ⟨v_6, e_v_6⟩ := f_4_3 hI r_q_5
      refine t_get (ci := 3) (v := .int v_6) hB hT (ro_ci r_q_5 rfl) rfl 3 (by decide) k_154 e_v_6 dX5_addMends_17 ?_
      refine lv_iload_n hx hb dX5_addMends_20 rfl (lv_at hl 2 rfl) ?_
      refine lv_iconst (v := 4) hx hb dX5_addMends_21 (by decide) ?_
      refine lv_iload_n hx hb dX5_addMends_22 rfl (lv_at hl 0 rfl) ?_
      refine lv_imul hx hb dX5_addMends_23 ?_
      refine lv_topi (fun z_7 ez_7 => ?_)
      have e_z_7 : z_7.toInt = 4 * i.toInt := i_mul ez_7 (by decide) rfl (by omega) (by omega)
      refine lv_ishr hx hb dX5_addMends_24 ?_
      refine lv_topi (fun z_8 ez_8 => ?_)
      refine lv_bipush (v := 15) hx hb dX5_addMends_25 (by decide) ?_
      refine lv_iand hx hb dX5_addMends_27 ?_
      refine lv_topi (fun z_9 ez_9 => ?_)
      have e_z_9 := i_and 4 (b := 15) ez_9 (by decide) (by decide) (by decide)
      refine lv_ior hx hb dX5_addMends_28 ?_
      refine lv_topi (fun z_10 ez_10 => ?_)
      refine t_put0 (ci := 3) (v := .int z_10) hB hT (ro_ci r_q_5 rfl) (ro_n0 r_q_5 (by decide)) rfl 3 (by decide) k_154 (Or.inl rfl) rfl rfl dX5_addMends_29 (fun H locs hT => ?_)
      have hI : Inv (sF g1 q_5 3 (.int z_10)) := hI.sF (p_4_3 r_q_5 (⟨_, rfl⟩))
      have hM : Sm md_s_addMends g (sF g1 q_5 3 (.int z_10)) := hM.tr hE (Sm_sF (by rw [r_q_5]; rfl))
      have hE : Ex g (sF g1 q_5 3 (.int z_10)) := hE
      obtain ⟨z_11, ez_11⟩ : ∃ z : Int32, z = i + 1 := ⟨_, rfl⟩
      have e_z_11 : z_11.toInt = i.toInt + 1 := i_add ez_11 rfl (by decide) (by omega) (by omega)
      refine lv_iinc (v := z_11) (lv' := [(2, .int z_11), (0, .ref h), (1, .int n)]) hx hb dX5_addMends_32 hl (k := 0) rfl (by rw [ez_11]; rfl) (by decide) rfl (fun ls hl => ?_)
      refine lv_goto (tgt := 2) hx hb dX5_addMends_35 (by decide) ?_
      exact ih (kf - 1) (by omega) (sF g1 q_5 3 (.int z_10)) z_11 H locs ls hT hI hE hM (by omega) (by omega) (by have e0_ : (0 : Int32).toInt = 0 := (by decide); omega) (lv_sub hl [0, 1, 2] rfl)
set_option maxHeartbeats 4000000 in
set_option maxRecDepth 100000 in
theorem s_addMends (l : Launch) (D : va_G) (cI cZ cS cR : ClassId) (N0 : NT) (g : GS) (hI : Inv g) (h : Nat) (n : Int32) (r_h : g.1 h = 6) : Ty l D cI cZ cS cR N0 yX5_addMends cX5_addMends 3 none 0 0 0 [.ref h, .int n] g (fun v g' => v = none ∧ Inv g' ∧ Ex g g' ∧ Sm md_s_addMends g g') := by
  refine t_enter (by decide) (Nat.le_of_ble_eq_true rfl) ?_
  intro p e s m args below meth c ls H locs hB hr hin hl hT
  have hx := hB.1
  have hb := hB.2.1
  have hl : lv_has ls 3 [(0, .ref h), (1, .int n)] := hl
  have hE : Ex g g := Ex.rf
  have hM : Sm md_s_addMends g g := Sm.rf
  refine lv_iconst (v := 0) hx hb dX5_addMends_0 (by decide) ?_
  refine lv_istore_n (lv' := [(2, .int 0), (0, .ref h), (1, .int n)]) hx hb dX5_addMends_1 rfl hl (by decide) rfl (fun ls hl => ?_)
  exact lt_s_addMends_a l D cI cZ cS cR N0 g h n r_h hB hr   6 g (0 : Int32) H locs ls hT hI hE hM (by decide) (by decide) (by have e0_ : (0 : Int32).toInt = 0 := (by decide); omega) (lv_sub hl [0, 1, 2] rfl)
abbrev md_s_wstores : Nat → Nat → Bool := mdf []
set_option maxHeartbeats 4000000 in
set_option maxRecDepth 100000 in
theorem lt_s_wstores_a (l : Launch) (D : va_G) (cI cZ cS cR : ClassId) (N0 : NT) (g : GS) (h : Nat) (o : Nat) (r_h : g.1 h = 6) (r_o : g.1 o = 6) {p : Program} {e : Env} {s : State} {m : MethodId} {args : Array Value} {below : List Frame} {meth : Method} {c : Code} (hB : Tz p s m meth c args cX5_hasSameStores 3 RX5 D cI cZ cS cR N0) (hr : meth.sig.returnType = (some .boolean))    : ∀ (kf : Nat) (i : Int32)  (H : Heap) (locs : List Loc) (ls : Array Slot), Tv D cI cZ cS cR N0 s.heap H locs g → Inv g → Ex g g → Sm md_s_wstores g g → 0 ≤ i.toInt → i.toInt ≤ 6 → (6 ≤ i.toInt + kf) → lv_has ls 3 [(2, .int i), (0, .ref h), (1, .ref o)] → W p l e (rmx 1 0 0) s m args below meth c H locs 0 0 (MQ below (tQ D cI cZ cS cR N0 (fun v g' => ∃ (r : Int32), v = some (.int r) ∧ g' = g ∧ (r = 1 ∨ r = 0))) args s 0 0 (fun q => N0.1 ≤ q)) (F0 m 2 ls []) := by
  have hx := hB.1
  have hb := hB.2.1
  intro kf
  induction kf using Nat.strongRecOn with
  | ind kf ih =>
    intro i H locs ls hT hI hE hM l_i u_i hk hl
    have r_1 : g.1 h = 6 := Ex.r hE r_h (by decide)
    have r_2 : g.1 o = 6 := Ex.r hE r_o (by decide)
    refine lv_iload_n hx hb dX5_hasSameStores_2 rfl (lv_at hl 0 rfl) ?_
    refine lv_aload_n hx hb dX5_hasSameStores_3 rfl (lv_at hl 1 rfl) ?_
    obtain ⟨v_3, e_v_3, l_v_3, u_v_3⟩ := f_6_1 hI r_1
    refine t_get (ci := 5) (v := .int v_3) hB hT (ro_ci r_1 rfl) rfl 1 (by decide) k_202 e_v_3 dX5_hasSameStores_4 ?_
    refine lv_icmp_ge (tgt := 36) hx hb dX5_hasSameStores_7 (by decide) (fun c_4 => ?_) (fun c_4 => ?_)
    · have c_4' : v_3.toInt ≤ i.toInt := i_le c_4 rfl rfl
      refine lv_iconst (v := 1) hx hb dX5_hasSameStores_36 (by decide) ?_
      exact t_zret hB hr rfl hT (Nat.le_of_ble_eq_true rfl) (Nat.le_of_ble_eq_true rfl) dX5_hasSameStores_37 ⟨1, rfl, rfl, (Or.inl rfl)⟩
    · have c_4' : i.toInt < v_3.toInt := i_nle c_4 rfl rfl
      refine lv_aload_n hx hb dX5_hasSameStores_10 rfl (lv_at hl 1 rfl) ?_
      obtain ⟨v_5, e_v_5, r_v_5, n_v_5⟩ := f_6_0 hI r_1
      refine t_get (ci := 5) (v := .ref v_5) hB hT (ro_ci r_1 rfl) rfl 0 (by decide) k_199 e_v_5 dX5_hasSameStores_11 ?_
      refine lv_iload_n hx hb dX5_hasSameStores_14 rfl (lv_at hl 0 rfl) ?_
      have i_q_6 : vp_in i 6 := (i_in (n := 6) rfl (by omega) (by omega))
      obtain ⟨q_6, e_q_6, r_q_6⟩ := hI.q r_v_5 n_v_5 (i_cl i_q_6)
      refine t_aald hB hT (Or.inl r_v_5) n_v_5 i_q_6 e_q_6 dX5_hasSameStores_15 ?_
      refine lv_aload_n hx hb dX5_hasSameStores_16 rfl (lv_at hl 2 rfl) ?_
      obtain ⟨v_7, e_v_7, r_v_7, n_v_7⟩ := f_6_0 hI r_2
      refine t_get (ci := 5) (v := .ref v_7) hB hT (ro_ci r_2 rfl) rfl 0 (by decide) k_199 e_v_7 dX5_hasSameStores_17 ?_
      refine lv_iload_n hx hb dX5_hasSameStores_20 rfl (lv_at hl 0 rfl) ?_
      have i_q_8 : vp_in i 6 := (i_in (n := 6) rfl (by omega) (by omega))
      obtain ⟨q_8, e_q_8, r_q_8⟩ := hI.q r_v_7 n_v_7 (i_cl i_q_8)
      refine t_aald hB hT (Or.inl r_v_7) n_v_7 i_q_8 e_q_8 dX5_hasSameStores_21 ?_
      refine t_callV (n := 1) (As := [.ref q_8]) (rest := []) (ci := 3) hB hT hl.1 (s_sameStore l D cI cZ cS cR N0 g hI q_6 q_8 r_q_6 r_q_8) (ro_ci r_q_6 rfl) rfl k_610 k_60 k_607 k_608 k_609 (by decide +kernel) ⟨(Nat.le_of_ble_eq_true rfl), (Nat.le_of_ble_eq_true rfl)⟩ rfl (Nat.le_of_ble_eq_true rfl) ⟨(Nat.le_of_ble_eq_true rfl), (Nat.le_of_ble_eq_true rfl)⟩ dX5_hasSameStores_22 (fun v g_9 H locs hp hT => ?_)
      obtain ⟨r_10, rfl, eg, f_11⟩ := hp
      rw [eg] at hT
      clear eg
      refine W.eq (g2 := F0 m 25 ls [.int r_10]) rfl ?_
      rcases f_11 with rfl | rfl
      · refine W.eq (g2 := F0 m 25 ls [.int 1]) rfl ?_
        refine lv_if_ne (tgt := 30) hx hb dX5_hasSameStores_25 (by decide) (fun c_ => ?_) (fun c_ => absurd c_ (by decide))
        obtain ⟨z_14, ez_14⟩ : ∃ z : Int32, z = i + 1 := ⟨_, rfl⟩
        have e_z_14 : z_14.toInt = i.toInt + 1 := i_add ez_14 rfl (by decide) (by omega) (by omega)
        refine lv_iinc (v := z_14) (lv' := [(2, .int z_14), (0, .ref h), (1, .ref o)]) hx hb dX5_hasSameStores_30 hl (k := 0) rfl (by rw [ez_14]; rfl) (by decide) rfl (fun ls hl => ?_)
        refine lv_goto (tgt := 2) hx hb dX5_hasSameStores_33 (by decide) ?_
        exact ih (kf - 1) (by omega) z_14 H locs ls hT hI hE hM (by omega) (by omega) (by have e0_ : (0 : Int32).toInt = 0 := (by decide); omega) (lv_sub hl [0, 1, 2] rfl)
      · refine W.eq (g2 := F0 m 25 ls [.int 0]) rfl ?_
        refine lv_if_ne (tgt := 30) hx hb dX5_hasSameStores_25 (by decide) (fun c_ => absurd (by decide) c_) (fun c_ => ?_)
        refine lv_iconst (v := 0) hx hb dX5_hasSameStores_28 (by decide) ?_
        exact t_zret hB hr rfl hT (Nat.le_of_ble_eq_true rfl) (Nat.le_of_ble_eq_true rfl) dX5_hasSameStores_29 ⟨0, rfl, rfl, (Or.inr rfl)⟩
set_option maxHeartbeats 4000000 in
set_option maxRecDepth 100000 in
theorem s_wstores (l : Launch) (D : va_G) (cI cZ cS cR : ClassId) (N0 : NT) (g : GS) (hI : Inv g) (h : Nat) (o : Nat) (r_h : g.1 h = 6) (r_o : g.1 o = 6) : Ty l D cI cZ cS cR N0 yX5_hasSameStores cX5_hasSameStores 3 (some .boolean) 1 0 0 [.ref h, .ref o] g (fun v g' => ∃ (r : Int32), v = some (.int r) ∧ g' = g ∧ (r = 1 ∨ r = 0)) := by
  refine t_enter (by decide) (Nat.le_of_ble_eq_true rfl) ?_
  intro p e s m args below meth c ls H locs hB hr hin hl hT
  have hx := hB.1
  have hb := hB.2.1
  have hl : lv_has ls 3 [(0, .ref h), (1, .ref o)] := hl
  have hE : Ex g g := Ex.rf
  have hM : Sm md_s_wstores g g := Sm.rf
  refine lv_iconst (v := 0) hx hb dX5_hasSameStores_0 (by decide) ?_
  refine lv_istore_n (lv' := [(2, .int 0), (0, .ref h), (1, .ref o)]) hx hb dX5_hasSameStores_1 rfl hl (by decide) rfl (fun ls hl => ?_)
  exact lt_s_wstores_a l D cI cZ cS cR N0 g h o r_h r_o hB hr   6 (0 : Int32) H locs ls hT hI hE hM (by decide) (by decide) (by have e0_ : (0 : Int32).toInt = 0 := (by decide); omega) (lv_sub hl [0, 1, 2] rfl)
abbrev md_s_wcounts : Nat → Nat → Bool := mdf []
set_option maxHeartbeats 4000000 in
set_option maxRecDepth 100000 in
theorem lt_s_wcounts_a (l : Launch) (D : va_G) (cI cZ cS cR : ClassId) (N0 : NT) (g : GS) (h : Nat) (o : Nat) (r_h : g.1 h = 6) (r_o : g.1 o = 6) {p : Program} {e : Env} {s : State} {m : MethodId} {args : Array Value} {below : List Frame} {meth : Method} {c : Code} (hB : Tz p s m meth c args cX5_hasSameCounts 3 RX5 D cI cZ cS cR N0) (hr : meth.sig.returnType = (some .boolean))    : ∀ (kf : Nat) (i : Int32)  (H : Heap) (locs : List Loc) (ls : Array Slot), Tv D cI cZ cS cR N0 s.heap H locs g → Inv g → Ex g g → Sm md_s_wcounts g g → 0 ≤ i.toInt → i.toInt ≤ 6 → (6 ≤ i.toInt + kf) → lv_has ls 3 [(2, .int i), (0, .ref h), (1, .ref o)] → W p l e (rmx 0 0 0) s m args below meth c H locs 0 0 (MQ below (tQ D cI cZ cS cR N0 (fun v g' => ∃ (r : Int32), v = some (.int r) ∧ g' = g ∧ (r = 1 ∨ r = 0))) args s 0 0 (fun q => N0.1 ≤ q)) (F0 m 2 ls []) := by
  have hx := hB.1
  have hb := hB.2.1
  intro kf
  induction kf using Nat.strongRecOn with
  | ind kf ih =>
    intro i H locs ls hT hI hE hM l_i u_i hk hl
    have r_1 : g.1 h = 6 := Ex.r hE r_h (by decide)
    have r_2 : g.1 o = 6 := Ex.r hE r_o (by decide)
    refine lv_iload_n hx hb dX5_hasSameCounts_2 rfl (lv_at hl 0 rfl) ?_
    refine lv_aload_n hx hb dX5_hasSameCounts_3 rfl (lv_at hl 1 rfl) ?_
    obtain ⟨v_3, e_v_3, l_v_3, u_v_3⟩ := f_6_1 hI r_1
    refine t_get (ci := 5) (v := .int v_3) hB hT (ro_ci r_1 rfl) rfl 1 (by decide) k_202 e_v_3 dX5_hasSameCounts_4 ?_
    refine lv_icmp_ge (tgt := 39) hx hb dX5_hasSameCounts_7 (by decide) (fun c_4 => ?_) (fun c_4 => ?_)
    · have c_4' : v_3.toInt ≤ i.toInt := i_le c_4 rfl rfl
      refine lv_iconst (v := 1) hx hb dX5_hasSameCounts_39 (by decide) ?_
      exact t_zret hB hr rfl hT (Nat.le_of_ble_eq_true rfl) (Nat.le_of_ble_eq_true rfl) dX5_hasSameCounts_40 ⟨1, rfl, rfl, (Or.inl rfl)⟩
    · have c_4' : i.toInt < v_3.toInt := i_nle c_4 rfl rfl
      refine lv_aload_n hx hb dX5_hasSameCounts_10 rfl (lv_at hl 1 rfl) ?_
      obtain ⟨v_5, e_v_5, r_v_5, n_v_5⟩ := f_6_0 hI r_1
      refine t_get (ci := 5) (v := .ref v_5) hB hT (ro_ci r_1 rfl) rfl 0 (by decide) k_199 e_v_5 dX5_hasSameCounts_11 ?_
      refine lv_iload_n hx hb dX5_hasSameCounts_14 rfl (lv_at hl 0 rfl) ?_
      have i_q_6 : vp_in i 6 := (i_in (n := 6) rfl (by omega) (by omega))
      obtain ⟨q_6, e_q_6, r_q_6⟩ := hI.q r_v_5 n_v_5 (i_cl i_q_6)
      refine t_aald hB hT (Or.inl r_v_5) n_v_5 i_q_6 e_q_6 dX5_hasSameCounts_15 ?_
      obtain ⟨v_7, e_v_7⟩ := f_4_2 hI r_q_6
      refine t_get (ci := 3) (v := .int v_7) hB hT (ro_ci r_q_6 rfl) rfl 2 (by decide) k_151 e_v_7 dX5_hasSameCounts_16 ?_
      refine lv_aload_n hx hb dX5_hasSameCounts_19 rfl (lv_at hl 2 rfl) ?_
      obtain ⟨v_8, e_v_8, r_v_8, n_v_8⟩ := f_6_0 hI r_2
      refine t_get (ci := 5) (v := .ref v_8) hB hT (ro_ci r_2 rfl) rfl 0 (by decide) k_199 e_v_8 dX5_hasSameCounts_20 ?_
      refine lv_iload_n hx hb dX5_hasSameCounts_23 rfl (lv_at hl 0 rfl) ?_
      have i_q_9 : vp_in i 6 := (i_in (n := 6) rfl (by omega) (by omega))
      obtain ⟨q_9, e_q_9, r_q_9⟩ := hI.q r_v_8 n_v_8 (i_cl i_q_9)
      refine t_aald hB hT (Or.inl r_v_8) n_v_8 i_q_9 e_q_9 dX5_hasSameCounts_24 ?_
      obtain ⟨v_10, e_v_10⟩ := f_4_2 hI r_q_9
      refine t_get (ci := 3) (v := .int v_10) hB hT (ro_ci r_q_9 rfl) rfl 2 (by decide) k_151 e_v_10 dX5_hasSameCounts_25 ?_
      refine lv_icmp_eq (tgt := 33) hx hb dX5_hasSameCounts_28 (by decide) (fun c_11 => ?_) (fun c_11 => ?_)
      · have c_11' : v_7.toInt = v_10.toInt := i_eq c_11 rfl rfl
        obtain ⟨z_12, ez_12⟩ : ∃ z : Int32, z = i + 1 := ⟨_, rfl⟩
        have e_z_12 : z_12.toInt = i.toInt + 1 := i_add ez_12 rfl (by decide) (by omega) (by omega)
        refine lv_iinc (v := z_12) (lv' := [(2, .int z_12), (0, .ref h), (1, .ref o)]) hx hb dX5_hasSameCounts_33 hl (k := 0) rfl (by rw [ez_12]; rfl) (by decide) rfl (fun ls hl => ?_)
        refine lv_goto (tgt := 2) hx hb dX5_hasSameCounts_36 (by decide) ?_
        exact ih (kf - 1) (by omega) z_12 H locs ls hT hI hE hM (by omega) (by omega) (by have e0_ : (0 : Int32).toInt = 0 := (by decide); omega) (lv_sub hl [0, 1, 2] rfl)
      · have c_11' : v_7.toInt ≠ v_10.toInt := i_ne c_11 rfl rfl
        refine lv_iconst (v := 0) hx hb dX5_hasSameCounts_31 (by decide) ?_
        exact t_zret hB hr rfl hT (Nat.le_of_ble_eq_true rfl) (Nat.le_of_ble_eq_true rfl) dX5_hasSameCounts_32 ⟨0, rfl, rfl, (Or.inr rfl)⟩
set_option maxHeartbeats 4000000 in
set_option maxRecDepth 100000 in
theorem s_wcounts (l : Launch) (D : va_G) (cI cZ cS cR : ClassId) (N0 : NT) (g : GS) (hI : Inv g) (h : Nat) (o : Nat) (r_h : g.1 h = 6) (r_o : g.1 o = 6) : Ty l D cI cZ cS cR N0 yX5_hasSameCounts cX5_hasSameCounts 3 (some .boolean) 0 0 0 [.ref h, .ref o] g (fun v g' => ∃ (r : Int32), v = some (.int r) ∧ g' = g ∧ (r = 1 ∨ r = 0)) := by
  refine t_enter (by decide) (Nat.le_of_ble_eq_true rfl) ?_
  intro p e s m args below meth c ls H locs hB hr hin hl hT
  have hx := hB.1
  have hb := hB.2.1
  have hl : lv_has ls 3 [(0, .ref h), (1, .ref o)] := hl
  have hE : Ex g g := Ex.rf
  have hM : Sm md_s_wcounts g g := Sm.rf
  refine lv_iconst (v := 0) hx hb dX5_hasSameCounts_0 (by decide) ?_
  refine lv_istore_n (lv' := [(2, .int 0), (0, .ref h), (1, .ref o)]) hx hb dX5_hasSameCounts_1 rfl hl (by decide) rfl (fun ls hl => ?_)
  exact lt_s_wcounts_a l D cI cZ cS cR N0 g h o r_h r_o hB hr   6 (0 : Int32) H locs ls hT hI hE hM (by decide) (by decide) (by have e0_ : (0 : Int32).toInt = 0 := (by decide); omega) (lv_sub hl [0, 1, 2] rfl)
abbrev md_s_didTheSame : Nat → Nat → Bool := mdf []
set_option maxHeartbeats 4000000 in
set_option maxRecDepth 100000 in
theorem lt_s_didTheSame_a (l : Launch) (D : va_G) (cI cZ cS cR : ClassId) (N0 : NT) (g : GS) (h : Nat) (o : Nat) (r_h : g.1 h = 6) (r_o : g.1 o = 6) {p : Program} {e : Env} {s : State} {m : MethodId} {args : Array Value} {below : List Frame} {meth : Method} {c : Code} (hB : Tz p s m meth c args cX5_didTheSame 3 RX5 D cI cZ cS cR N0) (hr : meth.sig.returnType = (some .boolean))    : ∀ (kf : Nat) (i : Int32)  (H : Heap) (locs : List Loc) (ls : Array Slot), Tv D cI cZ cS cR N0 s.heap H locs g → Inv g → Ex g g → Sm md_s_didTheSame g g → 0 ≤ i.toInt → i.toInt ≤ 512 → (512 ≤ i.toInt + kf) → lv_has ls 3 [(2, .int i), (0, .ref h), (1, .ref o)] → W p l e (rmx 0 0 0) s m args below meth c H locs 0 0 (MQ below (tQ D cI cZ cS cR N0 (fun v g' => ∃ (r : Int32), v = some (.int r) ∧ g' = g ∧ (r = 1 ∨ r = 0))) args s 0 0 (fun q => N0.1 ≤ q)) (F0 m 15 ls []) := by
  have hx := hB.1
  have hb := hB.2.1
  intro kf
  induction kf using Nat.strongRecOn with
  | ind kf ih =>
    intro i H locs ls hT hI hE hM l_i u_i hk hl
    have r_1 : g.1 h = 6 := Ex.r hE r_h (by decide)
    have r_2 : g.1 o = 6 := Ex.r hE r_o (by decide)
    refine lv_iload_n hx hb dX5_didTheSame_15 rfl (lv_at hl 0 rfl) ?_
    refine lv_aload_n hx hb dX5_didTheSame_16 rfl (lv_at hl 1 rfl) ?_
    obtain ⟨v_3, e_v_3⟩ := f_6_4 hI r_1
    refine t_get (ci := 5) (v := .int v_3) hB hT (ro_ci r_1 rfl) rfl 4 (by decide) k_210 e_v_3 dX5_didTheSame_17 ?_
    refine lv_icmp_ge (tgt := 53) hx hb dX5_didTheSame_20 (by decide) (fun c_4 => ?_) (fun c_4 => ?_)
    · have c_4' : v_3.toInt ≤ i.toInt := i_le c_4 rfl rfl
      refine lv_iconst (v := 1) hx hb dX5_didTheSame_53 (by decide) ?_
      exact t_zret hB hr rfl hT (Nat.le_of_ble_eq_true rfl) (Nat.le_of_ble_eq_true rfl) dX5_didTheSame_54 ⟨1, rfl, rfl, (Or.inl rfl)⟩
    · have c_4' : i.toInt < v_3.toInt := i_nle c_4 rfl rfl
      refine lv_iload_n hx hb dX5_didTheSame_23 rfl (lv_at hl 0 rfl) ?_
      refine lv_sipush (v := 512) hx hb dX5_didTheSame_24 (by decide) ?_
      refine lv_icmp_ge (tgt := 53) hx hb dX5_didTheSame_27 (by decide) (fun c_5 => ?_) (fun c_5 => ?_)
      · have c_5' : 512 ≤ i.toInt := i_le c_5 (by decide) rfl
        refine lv_iconst (v := 1) hx hb dX5_didTheSame_53 (by decide) ?_
        exact t_zret hB hr rfl hT (Nat.le_of_ble_eq_true rfl) (Nat.le_of_ble_eq_true rfl) dX5_didTheSame_54 ⟨1, rfl, rfl, (Or.inl rfl)⟩
      · have c_5' : i.toInt < 512 := i_nle c_5 (by decide) rfl
        refine lv_aload_n hx hb dX5_didTheSame_30 rfl (lv_at hl 1 rfl) ?_
        obtain ⟨v_6, e_v_6, r_v_6, n_v_6⟩ := f_6_3 hI r_1
        refine t_get (ci := 5) (v := .ref v_6) hB hT (ro_ci r_1 rfl) rfl 3 (by decide) k_207 e_v_6 dX5_didTheSame_31 ?_
        refine lv_iload_n hx hb dX5_didTheSame_34 rfl (lv_at hl 0 rfl) ?_
        have i_u_7 : vp_in i 512 := (i_in (n := 512) rfl (by omega) (by omega))
        refine t_iald hB hT (ro_in r_v_6 (by decide)) n_v_6 i_u_7 rfl dX5_didTheSame_35 ?_
        refine lv_topi (fun u_7 e_u_7 => ?_)
        refine lv_aload_n hx hb dX5_didTheSame_36 rfl (lv_at hl 2 rfl) ?_
        obtain ⟨v_8, e_v_8, r_v_8, n_v_8⟩ := f_6_3 hI r_2
        refine t_get (ci := 5) (v := .ref v_8) hB hT (ro_ci r_2 rfl) rfl 3 (by decide) k_207 e_v_8 dX5_didTheSame_37 ?_
        refine lv_iload_n hx hb dX5_didTheSame_40 rfl (lv_at hl 0 rfl) ?_
        have i_u_9 : vp_in i 512 := (i_in (n := 512) rfl (by omega) (by omega))
        refine t_iald hB hT (ro_in r_v_8 (by decide)) n_v_8 i_u_9 rfl dX5_didTheSame_41 ?_
        refine lv_topi (fun u_9 e_u_9 => ?_)
        refine lv_icmp_eq (tgt := 47) hx hb dX5_didTheSame_42 (by decide) (fun c_10 => ?_) (fun c_10 => ?_)
        · have c_10' : u_7.toInt = u_9.toInt := i_eq c_10 rfl rfl
          obtain ⟨z_11, ez_11⟩ : ∃ z : Int32, z = i + 1 := ⟨_, rfl⟩
          have e_z_11 : z_11.toInt = i.toInt + 1 := i_add ez_11 rfl (by decide) (by omega) (by omega)
          refine lv_iinc (v := z_11) (lv' := [(2, .int z_11), (0, .ref h), (1, .ref o)]) hx hb dX5_didTheSame_47 hl (k := 0) rfl (by rw [ez_11]; rfl) (by decide) rfl (fun ls hl => ?_)
          refine lv_goto (tgt := 15) hx hb dX5_didTheSame_50 (by decide) ?_
          exact ih (kf - 1) (by omega) z_11 H locs ls hT hI hE hM (by omega) (by omega) (by have e0_ : (0 : Int32).toInt = 0 := (by decide); omega) (lv_sub hl [0, 1, 2] rfl)
        · have c_10' : u_7.toInt ≠ u_9.toInt := i_ne c_10 rfl rfl
          refine lv_iconst (v := 0) hx hb dX5_didTheSame_45 (by decide) ?_
          exact t_zret hB hr rfl hT (Nat.le_of_ble_eq_true rfl) (Nat.le_of_ble_eq_true rfl) dX5_didTheSame_46 ⟨0, rfl, rfl, (Or.inr rfl)⟩
set_option maxHeartbeats 4000000 in
set_option maxRecDepth 100000 in
theorem s_didTheSame (l : Launch) (D : va_G) (cI cZ cS cR : ClassId) (N0 : NT) (g : GS) (hI : Inv g) (h : Nat) (o : Nat) (r_h : g.1 h = 6) (r_o : g.1 o = 6) : Ty l D cI cZ cS cR N0 yX5_didTheSame cX5_didTheSame 3 (some .boolean) 0 0 0 [.ref h, .ref o] g (fun v g' => ∃ (r : Int32), v = some (.int r) ∧ g' = g ∧ (r = 1 ∨ r = 0)) := by
  refine t_enter (by decide) (Nat.le_of_ble_eq_true rfl) ?_
  intro p e s m args below meth c ls H locs hB hr hin hl hT
  have hx := hB.1
  have hb := hB.2.1
  have hl : lv_has ls 3 [(0, .ref h), (1, .ref o)] := hl
  have hE : Ex g g := Ex.rf
  have hM : Sm md_s_didTheSame g g := Sm.rf
  refine lv_aload_n hx hb dX5_didTheSame_0 rfl (lv_at hl 0 rfl) ?_
  obtain ⟨v_1, e_v_1⟩ := f_6_4 hI r_h
  refine t_get (ci := 5) (v := .int v_1) hB hT (ro_ci r_h rfl) rfl 4 (by decide) k_210 e_v_1 dX5_didTheSame_1 ?_
  refine lv_aload_n hx hb dX5_didTheSame_4 rfl (lv_at hl 1 rfl) ?_
  obtain ⟨v_2, e_v_2⟩ := f_6_4 hI r_o
  refine t_get (ci := 5) (v := .int v_2) hB hT (ro_ci r_o rfl) rfl 4 (by decide) k_210 e_v_2 dX5_didTheSame_5 ?_
  refine lv_icmp_eq (tgt := 13) hx hb dX5_didTheSame_8 (by decide) (fun c_3 => ?_) (fun c_3 => ?_)
  · have c_3' : v_1.toInt = v_2.toInt := i_eq c_3 rfl rfl
    refine lv_iconst (v := 0) hx hb dX5_didTheSame_13 (by decide) ?_
    refine lv_istore_n (lv' := [(2, .int 0), (0, .ref h), (1, .ref o)]) hx hb dX5_didTheSame_14 rfl hl (by decide) rfl (fun ls hl => ?_)
    exact lt_s_didTheSame_a l D cI cZ cS cR N0 g h o r_h r_o hB hr   512 (0 : Int32) H locs ls hT hI hE hM (by decide) (by decide) (by have e0_ : (0 : Int32).toInt = 0 := (by decide); omega) (lv_sub hl [0, 1, 2] rfl)
  · have c_3' : v_1.toInt ≠ v_2.toInt := i_ne c_3 rfl rfl
    refine lv_iconst (v := 0) hx hb dX5_didTheSame_11 (by decide) ?_
    exact t_zret hB hr rfl hT (Nat.le_of_ble_eq_true rfl) (Nat.le_of_ble_eq_true rfl) dX5_didTheSame_12 ⟨0, rfl, rfl, (Or.inr rfl)⟩
abbrev md_n_askedBy : Nat → Nat → Bool := mdf []
set_option maxHeartbeats 4000000 in
set_option maxRecDepth 100000 in
theorem lt_n_askedBy_a (l : Launch) (D : va_G) (cI cZ cS cR : ClassId) (N0 : NT) (g : GS) (h : Nat) (n : Int32) (r_h : g.1 h = 19) (l_n : 0 ≤ n.toInt) (u_n : n.toInt ≤ 5) {p : Program} {e : Env} {s : State} {m : MethodId} {args : Array Value} {below : List Frame} {meth : Method} {c : Code} (hB : Tz p s m meth c args cX5_askedBy 5 RX5 D cI cZ cS cR N0) (hr : meth.sig.returnType = (some .int))    : ∀ (kf : Nat) (i : Int32) (j : Int32) (q : Nat) (H : Heap) (locs : List Loc) (ls : Array Slot), Tv D cI cZ cS cR N0 s.heap H locs g → Inv g → Ex g g → Sm md_n_askedBy g g → 0 ≤ i.toInt → i.toInt ≤ 8 → g.1 q = 3 → (8 ≤ i.toInt + kf) → lv_has ls 5 [(4, .int i), (3, .int j), (2, .ref q), (0, .ref h), (1, .int n)] → W p l e (rmx 1 0 0) s m args below meth c H locs 0 0 (MQ below (tQ D cI cZ cS cR N0 (fun v g' => ∃ (r : Int32), v = some (.int r) ∧ g' = g)) args s 0 0 (fun q => N0.1 ≤ q)) (F0 m 15 ls []) := by
  have hx := hB.1
  have hb := hB.2.1
  intro kf
  induction kf using Nat.strongRecOn with
  | ind kf ih =>
    intro i j q H locs ls hT hI hE hM l_i u_i r1_q hk hl
    have r_1 : g.1 h = 19 := Ex.r hE r_h (by decide)
    refine lv_iload hx hb dX5_askedBy_15 (lv_at hl 0 rfl) ?_
    refine lv_aload_n hx hb dX5_askedBy_17 rfl (lv_at hl 2 rfl) ?_
    obtain ⟨v_2, e_v_2, l_v_2, u_v_2⟩ := f_3_3 hI r1_q
    refine t_get (ci := 2) (v := .int v_2) hB hT (ro_ci r1_q rfl) rfl 3 (by decide) k_133 e_v_2 dX5_askedBy_18 ?_
    refine lv_icmp_ge (tgt := 68) hx hb dX5_askedBy_21 (by decide) (fun c_3 => ?_) (fun c_3 => ?_)
    · have c_3' : v_2.toInt ≤ i.toInt := i_le c_3 rfl rfl
      refine lv_iload_n hx hb dX5_askedBy_68 rfl (lv_at hl 1 rfl) ?_
      exact t_iret hB hr hT (Nat.le_of_ble_eq_true rfl) (Nat.le_of_ble_eq_true rfl) dX5_askedBy_69 ⟨j, rfl, rfl⟩
    · have c_3' : i.toInt < v_2.toInt := i_nle c_3 rfl rfl
      refine lv_aload_n hx hb dX5_askedBy_24 rfl (lv_at hl 2 rfl) ?_
      obtain ⟨v_4, e_v_4, r_v_4, n_v_4⟩ := f_3_0 hI r1_q
      refine t_get (ci := 2) (v := .ref v_4) hB hT (ro_ci r1_q rfl) rfl 0 (by decide) k_122 e_v_4 dX5_askedBy_25 ?_
      refine lv_iload hx hb dX5_askedBy_28 (lv_at hl 0 rfl) ?_
      have i_u_5 : vp_in i 8 := (i_in (n := 8) rfl (by omega) (by omega))
      refine t_iald hB hT (ro_in r_v_4 (by decide)) n_v_4 i_u_5 rfl dX5_askedBy_30 ?_
      refine lv_topi (fun u_5 e_u_5 => ?_)
      refine lv_iconst (v := 5) hx hb dX5_askedBy_31 (by decide) ?_
      refine lv_icmp_ne (tgt := 62) hx hb dX5_askedBy_32 (by decide) (fun c_6 => ?_) (fun c_6 => ?_)
      · have c_6' : u_5.toInt ≠ 5 := i_ne c_6 rfl (by decide)
        obtain ⟨z_7, ez_7⟩ : ∃ z : Int32, z = i + 1 := ⟨_, rfl⟩
        have e_z_7 : z_7.toInt = i.toInt + 1 := i_add ez_7 rfl (by decide) (by omega) (by omega)
        refine lv_iinc (v := z_7) (lv' := [(4, .int z_7), (3, .int j), (2, .ref q), (0, .ref h), (1, .int n)]) hx hb dX5_askedBy_62 hl (k := 0) rfl (by rw [ez_7]; rfl) (by decide) rfl (fun ls hl => ?_)
        refine lv_goto (tgt := 15) hx hb dX5_askedBy_65 (by decide) ?_
        exact ih (kf - 1) (by omega) z_7 j q H locs ls hT hI hE hM (by omega) (by omega) r1_q (by have e0_ : (0 : Int32).toInt = 0 := (by decide); omega) (lv_sub hl [0, 1, 2, 3, 4] rfl)
      · have c_6' : u_5.toInt = 5 := i_eq c_6 rfl (by decide)
        refine lv_aload_n hx hb dX5_askedBy_35 rfl (lv_at hl 3 rfl) ?_
        refine lv_iload_n hx hb dX5_askedBy_36 rfl (lv_at hl 4 rfl) ?_
        refine lv_aload_n hx hb dX5_askedBy_37 rfl (lv_at hl 2 rfl) ?_
        obtain ⟨v_8, e_v_8, r_v_8, n_v_8⟩ := f_3_1 hI r1_q
        refine t_get (ci := 2) (v := .ref v_8) hB hT (ro_ci r1_q rfl) rfl 1 (by decide) k_126 e_v_8 dX5_askedBy_38 ?_
        refine lv_iload hx hb dX5_askedBy_41 (lv_at hl 0 rfl) ?_
        have i_u_9 : vp_in i 8 := (i_in (n := 8) rfl (by omega) (by omega))
        refine t_iald hB hT (ro_in r_v_8 (by decide)) n_v_8 i_u_9 rfl dX5_askedBy_43 ?_
        have c_u_9 := hI.c r_v_8 n_v_8 (i_cl i_u_9)
        refine lv_topi (fun u_9 e_u_9 => ?_)
        obtain ⟨l_u_9, u_u_9⟩ := c_u_9
        rw [← e_u_9] at l_u_9 u_u_9
        refine t_callV (n := 2) (As := [.int n, .int u_9]) (rest := []) (ci := 5) hB hT hl.1 (n_canAsk l D cI cZ cS cR N0 g hI h n u_9 r_1) (ro_ci r_1 rfl) rfl k_477 k_59 k_474 k_476 k_10 (by decide +kernel) ⟨(Nat.le_of_ble_eq_true rfl), (Nat.le_of_ble_eq_true rfl)⟩ rfl (Nat.le_of_ble_eq_true rfl) ⟨(Nat.le_of_ble_eq_true rfl), (Nat.le_of_ble_eq_true rfl)⟩ dX5_askedBy_44 (fun v g_10 H locs hp hT => ?_)
        obtain ⟨r_11, rfl, eg, f_12⟩ := hp
        rw [eg] at hT
        clear eg
        refine W.eq (g2 := F0 m 47 ls [.int r_11]) rfl ?_
        rcases f_12 with ⟨rfl, hw_15, hw_16⟩ | rfl
        · refine W.eq (g2 := F0 m 47 ls [.int 1]) rfl ?_
          refine lv_if_eq (tgt := 62) hx hb dX5_askedBy_47 (by decide) (fun c_ => absurd c_ (by decide)) (fun c_ => ?_)
          refine lv_iload_n hx hb dX5_askedBy_50 rfl (lv_at hl 1 rfl) ?_
          refine lv_iconst (v := 1) hx hb dX5_askedBy_51 (by decide) ?_
          refine lv_aload_n hx hb dX5_askedBy_52 rfl (lv_at hl 2 rfl) ?_
          refine t_get (ci := 2) (v := .ref v_8) hB hT (ro_ci r1_q rfl) rfl 1 (by decide) k_126 e_v_8 dX5_askedBy_53 ?_
          refine lv_iload hx hb dX5_askedBy_56 (lv_at hl 0 rfl) ?_
          have i_u_17 : vp_in i 8 := (i_in (n := 8) rfl (by omega) (by omega))
          refine t_iald (v := u_9) hB hT (ro_in r_v_8 (by decide)) n_v_8 i_u_17 e_u_9.symm dX5_askedBy_58 ?_
          refine lv_ishl hx hb dX5_askedBy_59 ?_
          refine lv_topi (fun z_18 ez_18 => ?_)
          refine lv_ior hx hb dX5_askedBy_60 ?_
          refine lv_topi (fun z_19 ez_19 => ?_)
          refine lv_istore_n (lv' := [(3, .int z_19), (4, .int i), (2, .ref q), (0, .ref h), (1, .int n)]) hx hb dX5_askedBy_61 rfl hl (by decide) rfl (fun ls hl => ?_)
          obtain ⟨z_20, ez_20⟩ : ∃ z : Int32, z = i + 1 := ⟨_, rfl⟩
          have e_z_20 : z_20.toInt = i.toInt + 1 := i_add ez_20 rfl (by decide) (by omega) (by omega)
          refine lv_iinc (v := z_20) (lv' := [(4, .int z_20), (3, .int z_19), (2, .ref q), (0, .ref h), (1, .int n)]) hx hb dX5_askedBy_62 hl (k := 1) rfl (by rw [ez_20]; rfl) (by decide) rfl (fun ls hl => ?_)
          refine lv_goto (tgt := 15) hx hb dX5_askedBy_65 (by decide) ?_
          exact ih (kf - 1) (by omega) z_20 z_19 q H locs ls hT hI hE hM (by omega) (by omega) r1_q (by have e0_ : (0 : Int32).toInt = 0 := (by decide); omega) (lv_sub hl [0, 1, 2, 3, 4] rfl)
        · refine W.eq (g2 := F0 m 47 ls [.int 0]) rfl ?_
          refine lv_if_eq (tgt := 62) hx hb dX5_askedBy_47 (by decide) (fun c_ => ?_) (fun c_ => absurd (by decide) c_)
          obtain ⟨z_21, ez_21⟩ : ∃ z : Int32, z = i + 1 := ⟨_, rfl⟩
          have e_z_21 : z_21.toInt = i.toInt + 1 := i_add ez_21 rfl (by decide) (by omega) (by omega)
          refine lv_iinc (v := z_21) (lv' := [(4, .int z_21), (3, .int j), (2, .ref q), (0, .ref h), (1, .int n)]) hx hb dX5_askedBy_62 hl (k := 0) rfl (by rw [ez_21]; rfl) (by decide) rfl (fun ls hl => ?_)
          refine lv_goto (tgt := 15) hx hb dX5_askedBy_65 (by decide) ?_
          exact ih (kf - 1) (by omega) z_21 j q H locs ls hT hI hE hM (by omega) (by omega) r1_q (by have e0_ : (0 : Int32).toInt = 0 := (by decide); omega) (lv_sub hl [0, 1, 2, 3, 4] rfl)
set_option maxHeartbeats 4000000 in
set_option maxRecDepth 100000 in
theorem n_askedBy (l : Launch) (D : va_G) (cI cZ cS cR : ClassId) (N0 : NT) (g : GS) (hI : Inv g) (h : Nat) (n : Int32) (r_h : g.1 h = 19) (l_n : 0 ≤ n.toInt) (u_n : n.toInt ≤ 5) : Ty l D cI cZ cS cR N0 yX5_askedBy cX5_askedBy 5 (some .int) 1 0 0 [.ref h, .int n] g (fun v g' => ∃ (r : Int32), v = some (.int r) ∧ g' = g) := by
  refine t_enter (by decide) (Nat.le_of_ble_eq_true rfl) ?_
  intro p e s m args below meth c ls H locs hB hr hin hl hT
  have hx := hB.1
  have hb := hB.2.1
  have hl : lv_has ls 5 [(0, .ref h), (1, .int n)] := hl
  have hE : Ex g g := Ex.rf
  have hM : Sm md_n_askedBy g g := Sm.rf
  refine lv_aload_n hx hb dX5_askedBy_0 rfl (lv_at hl 0 rfl) ?_
  obtain ⟨v_1, e_v_1, r_v_1, n_v_1⟩ := f_19_0 hI r_h
  refine t_get (ci := 5) (v := .ref v_1) hB hT (ro_ci r_h rfl) rfl 0 (by decide) k_199 e_v_1 dX5_askedBy_1 ?_
  refine lv_iload_n hx hb dX5_askedBy_4 rfl (lv_at hl 1 rfl) ?_
  have i_q_2 : vp_in n 6 := (i_in (n := 6) rfl (by omega) (by omega))
  obtain ⟨q_2, e_q_2, r_q_2⟩ := hI.q r_v_1 n_v_1 (i_cl i_q_2)
  refine t_aald hB hT (Or.inr <| Or.inl r_v_1) n_v_1 i_q_2 e_q_2 dX5_askedBy_5 ?_
  obtain ⟨v_3, e_v_3, r_v_3⟩ := f_10_0 hI r_q_2
  refine t_get (ci := 3) (v := .ref v_3) hB hT (ro_ci r_q_2 rfl) rfl 0 (by decide) k_145 e_v_3 dX5_askedBy_6 ?_
  refine lv_astore_n (lv' := [(2, .ref v_3), (0, .ref h), (1, .int n)]) hx hb dX5_askedBy_9 rfl hl (by decide) rfl (fun ls hl => ?_)
  refine lv_iconst (v := 0) hx hb dX5_askedBy_10 (by decide) ?_
  refine lv_istore_n (lv' := [(3, .int 0), (2, .ref v_3), (0, .ref h), (1, .int n)]) hx hb dX5_askedBy_11 rfl hl (by decide) rfl (fun ls hl => ?_)
  refine lv_iconst (v := 0) hx hb dX5_askedBy_12 (by decide) ?_
  refine lv_istore (lv' := [(4, .int 0), (3, .int 0), (2, .ref v_3), (0, .ref h), (1, .int n)]) hx hb dX5_askedBy_13 hl (by decide) rfl (fun ls hl => ?_)
  exact lt_n_askedBy_a l D cI cZ cS cR N0 g h n r_h l_n u_n hB hr   8 (0 : Int32) (0 : Int32) v_3 H locs ls hT hI hE hM (by decide) (by decide) r_v_3 (by have e0_ : (0 : Int32).toInt = 0 := (by decide); omega) (lv_sub hl [0, 1, 2, 3, 4] rfl)
abbrev md_n_isSilent : Nat → Nat → Bool := mdf []
set_option maxHeartbeats 4000000 in
set_option maxRecDepth 100000 in
theorem lt_n_isSilent_a (l : Launch) (D : va_G) (cI cZ cS cR : ClassId) (N0 : NT) (g : GS) (h : Nat) (n : Int32) (r_h : g.1 h = 19) (l_n : 0 ≤ n.toInt) (u_n : n.toInt ≤ 5) {p : Program} {e : Env} {s : State} {m : MethodId} {args : Array Value} {below : List Frame} {meth : Method} {c : Code} (hB : Tz p s m meth c args cX5_isSilent 5 RX5 D cI cZ cS cR N0) (hr : meth.sig.returnType = (some .boolean))    : ∀ (kf : Nat) (i : Int32) (q : Nat) (H : Heap) (locs : List Loc) (ls : Array Slot), Tv D cI cZ cS cR N0 s.heap H locs g → Inv g → Ex g g → Sm md_n_isSilent g g → 0 ≤ i.toInt → i.toInt ≤ 8 → g.1 q = 3 → (8 ≤ i.toInt + kf) → lv_has ls 5 [(3, .int i), (2, .ref q), (0, .ref h), (1, .int n)] → W p l e (rmx 0 0 0) s m args below meth c H locs 0 0 (MQ below (tQ D cI cZ cS cR N0 (fun v g' => ∃ (r : Int32), v = some (.int r) ∧ g' = g ∧ (r = 1 ∨ r = 0))) args s 0 0 (fun q => N0.1 ≤ q)) (F0 m 12 ls []) := by
  have hx := hB.1
  have hb := hB.2.1
  intro kf
  induction kf using Nat.strongRecOn with
  | ind kf ih =>
    intro i q H locs ls hT hI hE hM l_i u_i r1_q hk hl
    have r_1 : g.1 h = 19 := Ex.r hE r_h (by decide)
    refine lv_iload_n hx hb dX5_isSilent_12 rfl (lv_at hl 0 rfl) ?_
    refine lv_aload_n hx hb dX5_isSilent_13 rfl (lv_at hl 1 rfl) ?_
    obtain ⟨v_2, e_v_2, l_v_2, u_v_2⟩ := f_3_3 hI r1_q
    refine t_get (ci := 2) (v := .int v_2) hB hT (ro_ci r1_q rfl) rfl 3 (by decide) k_133 e_v_2 dX5_isSilent_14 ?_
    refine lv_icmp_ge (tgt := 55) hx hb dX5_isSilent_17 (by decide) (fun c_3 => ?_) (fun c_3 => ?_)
    · have c_3' : v_2.toInt ≤ i.toInt := i_le c_3 rfl rfl
      refine lv_iconst (v := 1) hx hb dX5_isSilent_55 (by decide) ?_
      exact t_zret hB hr rfl hT (Nat.le_of_ble_eq_true rfl) (Nat.le_of_ble_eq_true rfl) dX5_isSilent_56 ⟨1, rfl, rfl, (Or.inl rfl)⟩
    · have c_3' : i.toInt < v_2.toInt := i_nle c_3 rfl rfl
      refine lv_aload_n hx hb dX5_isSilent_20 rfl (lv_at hl 1 rfl) ?_
      obtain ⟨v_4, e_v_4, r_v_4, n_v_4⟩ := f_3_0 hI r1_q
      refine t_get (ci := 2) (v := .ref v_4) hB hT (ro_ci r1_q rfl) rfl 0 (by decide) k_122 e_v_4 dX5_isSilent_21 ?_
      refine lv_iload_n hx hb dX5_isSilent_24 rfl (lv_at hl 0 rfl) ?_
      have i_u_5 : vp_in i 8 := (i_in (n := 8) rfl (by omega) (by omega))
      refine t_iald hB hT (ro_in r_v_4 (by decide)) n_v_4 i_u_5 rfl dX5_isSilent_25 ?_
      refine lv_topi (fun u_5 e_u_5 => ?_)
      refine lv_istore (lv' := [(4, .int u_5), (3, .int i), (2, .ref q), (0, .ref h), (1, .int n)]) hx hb dX5_isSilent_26 hl (by decide) rfl (fun ls hl => ?_)
      refine lv_iload hx hb dX5_isSilent_28 (lv_at hl 0 rfl) ?_
      refine lv_iconst (v := 4) hx hb dX5_isSilent_30 (by decide) ?_
      refine lv_icmp_eq (tgt := 49) hx hb dX5_isSilent_31 (by decide) (fun c_6 => ?_) (fun c_6 => ?_)
      · have c_6' : u_5.toInt = 4 := i_eq c_6 rfl (by decide)
        obtain ⟨z_7, ez_7⟩ : ∃ z : Int32, z = i + 1 := ⟨_, rfl⟩
        have e_z_7 : z_7.toInt = i.toInt + 1 := i_add ez_7 rfl (by decide) (by omega) (by omega)
        refine lv_iinc (v := z_7) (lv' := [(3, .int z_7), (4, .int u_5), (2, .ref q), (0, .ref h), (1, .int n)]) hx hb dX5_isSilent_49 hl (k := 1) rfl (by rw [ez_7]; rfl) (by decide) rfl (fun ls hl => ?_)
        refine lv_goto (tgt := 12) hx hb dX5_isSilent_52 (by decide) ?_
        exact ih (kf - 1) (by omega) z_7 q H locs ls hT hI hE hM (by omega) (by omega) r1_q (by have e0_ : (0 : Int32).toInt = 0 := (by decide); omega) (lv_sub hl [0, 2, 3, 4] rfl)
      · have c_6' : u_5.toInt ≠ 4 := i_ne c_6 rfl (by decide)
        refine lv_iload hx hb dX5_isSilent_34 (lv_at hl 0 rfl) ?_
        refine lv_iconst (v := 5) hx hb dX5_isSilent_36 (by decide) ?_
        refine lv_icmp_eq (tgt := 49) hx hb dX5_isSilent_37 (by decide) (fun c_8 => ?_) (fun c_8 => ?_)
        · have c_8' : u_5.toInt = 5 := i_eq c_8 rfl (by decide)
          obtain ⟨z_9, ez_9⟩ : ∃ z : Int32, z = i + 1 := ⟨_, rfl⟩
          have e_z_9 : z_9.toInt = i.toInt + 1 := i_add ez_9 rfl (by decide) (by omega) (by omega)
          refine lv_iinc (v := z_9) (lv' := [(3, .int z_9), (4, .int u_5), (2, .ref q), (0, .ref h), (1, .int n)]) hx hb dX5_isSilent_49 hl (k := 1) rfl (by rw [ez_9]; rfl) (by decide) rfl (fun ls hl => ?_)
          refine lv_goto (tgt := 12) hx hb dX5_isSilent_52 (by decide) ?_
          exact ih (kf - 1) (by omega) z_9 q H locs ls hT hI hE hM (by omega) (by omega) r1_q (by have e0_ : (0 : Int32).toInt = 0 := (by decide); omega) (lv_sub hl [0, 2, 3, 4] rfl)
        · have c_8' : u_5.toInt ≠ 5 := i_ne c_8 rfl (by decide)
          refine lv_iload hx hb dX5_isSilent_40 (lv_at hl 0 rfl) ?_
          refine lv_bipush (v := 7) hx hb dX5_isSilent_42 (by decide) ?_
          refine lv_icmp_eq (tgt := 49) hx hb dX5_isSilent_44 (by decide) (fun c_10 => ?_) (fun c_10 => ?_)
          · have c_10' : u_5.toInt = 7 := i_eq c_10 rfl (by decide)
            obtain ⟨z_11, ez_11⟩ : ∃ z : Int32, z = i + 1 := ⟨_, rfl⟩
            have e_z_11 : z_11.toInt = i.toInt + 1 := i_add ez_11 rfl (by decide) (by omega) (by omega)
            refine lv_iinc (v := z_11) (lv' := [(3, .int z_11), (4, .int u_5), (2, .ref q), (0, .ref h), (1, .int n)]) hx hb dX5_isSilent_49 hl (k := 1) rfl (by rw [ez_11]; rfl) (by decide) rfl (fun ls hl => ?_)
            refine lv_goto (tgt := 12) hx hb dX5_isSilent_52 (by decide) ?_
            exact ih (kf - 1) (by omega) z_11 q H locs ls hT hI hE hM (by omega) (by omega) r1_q (by have e0_ : (0 : Int32).toInt = 0 := (by decide); omega) (lv_sub hl [0, 2, 3, 4] rfl)
          · have c_10' : u_5.toInt ≠ 7 := i_ne c_10 rfl (by decide)
            refine lv_iconst (v := 0) hx hb dX5_isSilent_47 (by decide) ?_
            exact t_zret hB hr rfl hT (Nat.le_of_ble_eq_true rfl) (Nat.le_of_ble_eq_true rfl) dX5_isSilent_48 ⟨0, rfl, rfl, (Or.inr rfl)⟩
set_option maxHeartbeats 4000000 in
set_option maxRecDepth 100000 in
theorem n_isSilent (l : Launch) (D : va_G) (cI cZ cS cR : ClassId) (N0 : NT) (g : GS) (hI : Inv g) (h : Nat) (n : Int32) (r_h : g.1 h = 19) (l_n : 0 ≤ n.toInt) (u_n : n.toInt ≤ 5) : Ty l D cI cZ cS cR N0 yX5_isSilent cX5_isSilent 5 (some .boolean) 0 0 0 [.ref h, .int n] g (fun v g' => ∃ (r : Int32), v = some (.int r) ∧ g' = g ∧ (r = 1 ∨ r = 0)) := by
  refine t_enter (by decide) (Nat.le_of_ble_eq_true rfl) ?_
  intro p e s m args below meth c ls H locs hB hr hin hl hT
  have hx := hB.1
  have hb := hB.2.1
  have hl : lv_has ls 5 [(0, .ref h), (1, .int n)] := hl
  have hE : Ex g g := Ex.rf
  have hM : Sm md_n_isSilent g g := Sm.rf
  refine lv_aload_n hx hb dX5_isSilent_0 rfl (lv_at hl 0 rfl) ?_
  obtain ⟨v_1, e_v_1, r_v_1, n_v_1⟩ := f_19_0 hI r_h
  refine t_get (ci := 5) (v := .ref v_1) hB hT (ro_ci r_h rfl) rfl 0 (by decide) k_199 e_v_1 dX5_isSilent_1 ?_
  refine lv_iload_n hx hb dX5_isSilent_4 rfl (lv_at hl 1 rfl) ?_
  have i_q_2 : vp_in n 6 := (i_in (n := 6) rfl (by omega) (by omega))
  obtain ⟨q_2, e_q_2, r_q_2⟩ := hI.q r_v_1 n_v_1 (i_cl i_q_2)
  refine t_aald hB hT (Or.inr <| Or.inl r_v_1) n_v_1 i_q_2 e_q_2 dX5_isSilent_5 ?_
  obtain ⟨v_3, e_v_3, r_v_3⟩ := f_10_0 hI r_q_2
  refine t_get (ci := 3) (v := .ref v_3) hB hT (ro_ci r_q_2 rfl) rfl 0 (by decide) k_145 e_v_3 dX5_isSilent_6 ?_
  refine lv_astore_n (lv' := [(2, .ref v_3), (0, .ref h), (1, .int n)]) hx hb dX5_isSilent_9 rfl hl (by decide) rfl (fun ls hl => ?_)
  refine lv_iconst (v := 0) hx hb dX5_isSilent_10 (by decide) ?_
  refine lv_istore_n (lv' := [(3, .int 0), (2, .ref v_3), (0, .ref h), (1, .int n)]) hx hb dX5_isSilent_11 rfl hl (by decide) rfl (fun ls hl => ?_)
  exact lt_n_isSilent_a l D cI cZ cS cR N0 g h n r_h l_n u_n hB hr   8 (0 : Int32) v_3 H locs ls hT hI hE hM (by decide) (by decide) r_v_3 (by have e0_ : (0 : Int32).toInt = 0 := (by decide); omega) (lv_sub hl [0, 1, 2, 3] rfl)
abbrev md_n_isReader : Nat → Nat → Bool := mdf []
set_option maxHeartbeats 4000000 in
set_option maxRecDepth 100000 in
theorem lt_n_isReader_a (l : Launch) (D : va_G) (cI cZ cS cR : ClassId) (N0 : NT) (g : GS) (h : Nat) (n : Int32) (r_h : g.1 h = 19) (l_n : 0 ≤ n.toInt) (u_n : n.toInt ≤ 5) {p : Program} {e : Env} {s : State} {m : MethodId} {args : Array Value} {below : List Frame} {meth : Method} {c : Code} (hB : Tz p s m meth c args cX5_isReader 4 RX5 D cI cZ cS cR N0) (hr : meth.sig.returnType = (some .boolean))    : ∀ (kf : Nat) (t : Int32) (j : Int32)  (H : Heap) (locs : List Loc) (ls : Array Slot), Tv D cI cZ cS cR N0 s.heap H locs g → Inv g → Ex g g → Sm md_n_isReader g g → (-1) ≤ t.toInt → t.toInt ≤ 5 → (t.toInt + 1 ≤ kf) → lv_has ls 4 [(3, .int t), (2, .int j), (0, .ref h), (1, .int n)] → W p l e (rmx 2 0 0) s m args below meth c H locs 0 0 (MQ below (tQ D cI cZ cS cR N0 (fun v g' => ∃ (r : Int32), v = some (.int r) ∧ g' = g ∧ (r = 1 ∨ r = 0))) args s 0 0 (fun q => N0.1 ≤ q)) (F0 m 9 ls []) := by
  have hx := hB.1
  have hb := hB.2.1
  intro kf
  induction kf using Nat.strongRecOn with
  | ind kf ih =>
    intro t j H locs ls hT hI hE hM l_t u_t hk hl
    have r_1 : g.1 h = 19 := Ex.r hE r_h (by decide)
    refine lv_iload_n hx hb dX5_isReader_9 rfl (lv_at hl 0 rfl) ?_
    refine lv_iload_n hx hb dX5_isReader_10 rfl (lv_at hl 3 rfl) ?_
    refine lv_icmp_lt (tgt := 46) hx hb dX5_isReader_11 (by decide) (fun c_2 => ?_) (fun c_2 => ?_)
    · have c_2' : t.toInt < n.toInt := i_lt c_2 rfl rfl
      refine lv_iload_n hx hb dX5_isReader_46 rfl (lv_at hl 1 rfl) ?_
      refine lv_iload_n hx hb dX5_isReader_47 rfl (lv_at hl 3 rfl) ?_
      refine lv_ishr hx hb dX5_isReader_48 ?_
      refine lv_topi (fun z_3 ez_3 => ?_)
      refine lv_iconst (v := 1) hx hb dX5_isReader_49 (by decide) ?_
      refine lv_iand hx hb dX5_isReader_50 ?_
      refine lv_topi (fun z_4 ez_4 => ?_)
      have e_z_4 := i_and 1 (b := 1) ez_4 (by decide) (by decide) (by decide)
      refine lv_iconst (v := 1) hx hb dX5_isReader_51 (by decide) ?_
      refine lv_icmp_ne (tgt := 59) hx hb dX5_isReader_52 (by decide) (fun c_5 => ?_) (fun c_5 => ?_)
      · have c_5' : z_4.toInt ≠ 1 := i_ne c_5 rfl (by decide)
        refine lv_iconst (v := 0) hx hb dX5_isReader_59 (by decide) ?_
        exact t_zret hB hr rfl hT (Nat.le_of_ble_eq_true rfl) (Nat.le_of_ble_eq_true rfl) dX5_isReader_60 ⟨0, rfl, rfl, (Or.inr rfl)⟩
      · have c_5' : z_4.toInt = 1 := i_eq c_5 rfl (by decide)
        refine lv_iconst (v := 1) hx hb dX5_isReader_55 (by decide) ?_
        refine lv_goto (tgt := 60) hx hb dX5_isReader_56 (by decide) ?_
        exact t_zret hB hr rfl hT (Nat.le_of_ble_eq_true rfl) (Nat.le_of_ble_eq_true rfl) dX5_isReader_60 ⟨1, rfl, rfl, (Or.inl rfl)⟩
    · have c_2' : n.toInt ≤ t.toInt := i_nlt c_2 rfl rfl
      refine lv_aload_n hx hb dX5_isReader_14 rfl (lv_at hl 2 rfl) ?_
      refine lv_iload_n hx hb dX5_isReader_15 rfl (lv_at hl 0 rfl) ?_
      refine t_callV (n := 1) (As := [.int t]) (rest := []) (ci := 5) hB hT hl.1 (n_isSilent l D cI cZ cS cR N0 g hI h t r_1 (by omega) (by omega)) (ro_ci r_1 rfl) rfl k_469 k_59 k_466 k_468 k_8 (by decide +kernel) ⟨(Nat.le_of_ble_eq_true rfl), (Nat.le_of_ble_eq_true rfl)⟩ rfl (Nat.le_of_ble_eq_true rfl) ⟨(Nat.le_of_ble_eq_true rfl), (Nat.le_of_ble_eq_true rfl)⟩ dX5_isReader_16 (fun v g_6 H locs hp hT => ?_)
      obtain ⟨r_7, rfl, eg, f_8⟩ := hp
      rw [eg] at hT
      clear eg
      refine W.eq (g2 := F0 m 19 ls [.int r_7]) rfl ?_
      rcases f_8 with rfl | rfl
      · refine W.eq (g2 := F0 m 19 ls [.int 1]) rfl ?_
        refine lv_if_eq (tgt := 40) hx hb dX5_isReader_19 (by decide) (fun c_ => absurd c_ (by decide)) (fun c_ => ?_)
        refine lv_aload_n hx hb dX5_isReader_22 rfl (lv_at hl 2 rfl) ?_
        refine lv_iload_n hx hb dX5_isReader_23 rfl (lv_at hl 0 rfl) ?_
        refine t_callV (n := 1) (As := [.int t]) (rest := []) (ci := 5) hB hT hl.1 (n_askedBy l D cI cZ cS cR N0 g hI h t r_1 (by omega) (by omega)) (ro_ci r_1 rfl) rfl k_473 k_59 k_470 k_472 k_9 (by decide +kernel) ⟨(Nat.le_of_ble_eq_true rfl), (Nat.le_of_ble_eq_true rfl)⟩ rfl (Nat.le_of_ble_eq_true rfl) ⟨(Nat.le_of_ble_eq_true rfl), (Nat.le_of_ble_eq_true rfl)⟩ dX5_isReader_24 (fun v g_11 H locs hp hT => ?_)
        obtain ⟨r_12, rfl, eg⟩ := hp
        rw [eg] at hT
        clear eg
        refine W.eq (g2 := F0 m 27 ls [.int r_12]) rfl ?_
        refine lv_iload_n hx hb dX5_isReader_27 rfl (lv_at hl 1 rfl) ?_
        refine lv_iconst (v := (-1)) hx hb dX5_isReader_28 (by decide) ?_
        refine lv_ixor hx hb dX5_isReader_29 ?_
        refine lv_topi (fun z_15 ez_15 => ?_)
        refine lv_iand hx hb dX5_isReader_30 ?_
        refine lv_topi (fun z_16 ez_16 => ?_)
        refine lv_if_ne (tgt := 40) hx hb dX5_isReader_31 (by decide) (fun c_17 => ?_) (fun c_17 => ?_)
        · have c_17' : z_16.toInt ≠ 0 := i_ne c_17 rfl (by decide)
          obtain ⟨z_18, ez_18⟩ : ∃ z : Int32, z = t + (-1) := ⟨_, rfl⟩
          have e_z_18 : z_18.toInt = t.toInt + (-1) := i_add ez_18 rfl (by decide) (by omega) (by omega)
          refine lv_iinc (v := z_18) (lv' := [(3, .int z_18), (2, .int j), (0, .ref h), (1, .int n)]) hx hb dX5_isReader_40 hl (k := 0) rfl (by rw [ez_18]; rfl) (by decide) rfl (fun ls hl => ?_)
          refine lv_goto (tgt := 9) hx hb dX5_isReader_43 (by decide) ?_
          exact ih (kf - 1) (by omega) z_18 j H locs ls hT hI hE hM (by omega) (by omega) (by have e0_ : (0 : Int32).toInt = 0 := (by decide); omega) (lv_sub hl [0, 1, 2, 3] rfl)
        · have c_17' : z_16.toInt = 0 := i_eq c_17 rfl (by decide)
          refine lv_iload_n hx hb dX5_isReader_34 rfl (lv_at hl 1 rfl) ?_
          refine lv_iconst (v := 1) hx hb dX5_isReader_35 (by decide) ?_
          refine lv_iload_n hx hb dX5_isReader_36 rfl (lv_at hl 0 rfl) ?_
          refine lv_ishl hx hb dX5_isReader_37 ?_
          refine lv_topi (fun z_19 ez_19 => ?_)
          refine lv_ior hx hb dX5_isReader_38 ?_
          refine lv_topi (fun z_20 ez_20 => ?_)
          refine lv_istore_n (lv' := [(2, .int z_20), (3, .int t), (0, .ref h), (1, .int n)]) hx hb dX5_isReader_39 rfl hl (by decide) rfl (fun ls hl => ?_)
          obtain ⟨z_21, ez_21⟩ : ∃ z : Int32, z = t + (-1) := ⟨_, rfl⟩
          have e_z_21 : z_21.toInt = t.toInt + (-1) := i_add ez_21 rfl (by decide) (by omega) (by omega)
          refine lv_iinc (v := z_21) (lv' := [(3, .int z_21), (2, .int z_20), (0, .ref h), (1, .int n)]) hx hb dX5_isReader_40 hl (k := 1) rfl (by rw [ez_21]; rfl) (by decide) rfl (fun ls hl => ?_)
          refine lv_goto (tgt := 9) hx hb dX5_isReader_43 (by decide) ?_
          exact ih (kf - 1) (by omega) z_21 z_20 H locs ls hT hI hE hM (by omega) (by omega) (by have e0_ : (0 : Int32).toInt = 0 := (by decide); omega) (lv_sub hl [0, 1, 2, 3] rfl)
      · refine W.eq (g2 := F0 m 19 ls [.int 0]) rfl ?_
        refine lv_if_eq (tgt := 40) hx hb dX5_isReader_19 (by decide) (fun c_ => ?_) (fun c_ => absurd (by decide) c_)
        obtain ⟨z_22, ez_22⟩ : ∃ z : Int32, z = t + (-1) := ⟨_, rfl⟩
        have e_z_22 : z_22.toInt = t.toInt + (-1) := i_add ez_22 rfl (by decide) (by omega) (by omega)
        refine lv_iinc (v := z_22) (lv' := [(3, .int z_22), (2, .int j), (0, .ref h), (1, .int n)]) hx hb dX5_isReader_40 hl (k := 0) rfl (by rw [ez_22]; rfl) (by decide) rfl (fun ls hl => ?_)
        refine lv_goto (tgt := 9) hx hb dX5_isReader_43 (by decide) ?_
        exact ih (kf - 1) (by omega) z_22 j H locs ls hT hI hE hM (by omega) (by omega) (by have e0_ : (0 : Int32).toInt = 0 := (by decide); omega) (lv_sub hl [0, 1, 2, 3] rfl)
set_option maxHeartbeats 4000000 in
set_option maxRecDepth 100000 in
theorem n_isReader (l : Launch) (D : va_G) (cI cZ cS cR : ClassId) (N0 : NT) (g : GS) (hI : Inv g) (h : Nat) (n : Int32) (r_h : g.1 h = 19) (l_n : 0 ≤ n.toInt) (u_n : n.toInt ≤ 5) : Ty l D cI cZ cS cR N0 yX5_isReader cX5_isReader 4 (some .boolean) 2 0 0 [.ref h, .int n] g (fun v g' => ∃ (r : Int32), v = some (.int r) ∧ g' = g ∧ (r = 1 ∨ r = 0)) := by
  refine t_enter (by decide) (Nat.le_of_ble_eq_true rfl) ?_
  intro p e s m args below meth c ls H locs hB hr hin hl hT
  have hx := hB.1
  have hb := hB.2.1
  have hl : lv_has ls 4 [(0, .ref h), (1, .int n)] := hl
  have hE : Ex g g := Ex.rf
  have hM : Sm md_n_isReader g g := Sm.rf
  refine lv_iconst (v := 0) hx hb dX5_isReader_0 (by decide) ?_
  refine lv_istore_n (lv' := [(2, .int 0), (0, .ref h), (1, .int n)]) hx hb dX5_isReader_1 rfl hl (by decide) rfl (fun ls hl => ?_)
  refine lv_aload_n hx hb dX5_isReader_2 rfl (lv_at hl 1 rfl) ?_
  obtain ⟨v_1, e_v_1, l_v_1, u_v_1⟩ := f_19_1 hI r_h
  refine t_get (ci := 5) (v := .int v_1) hB hT (ro_ci r_h rfl) rfl 1 (by decide) k_202 e_v_1 dX5_isReader_3 ?_
  refine lv_iconst (v := 1) hx hb dX5_isReader_6 (by decide) ?_
  refine lv_isub hx hb dX5_isReader_7 ?_
  refine lv_topi (fun z_2 ez_2 => ?_)
  have e_z_2 : z_2.toInt = v_1.toInt - 1 := i_sub ez_2 rfl (by decide) (by omega) (by omega)
  refine lv_istore_n (lv' := [(3, .int z_2), (2, .int 0), (0, .ref h), (1, .int n)]) hx hb dX5_isReader_8 rfl hl (by decide) rfl (fun ls hl => ?_)
  exact lt_n_isReader_a l D cI cZ cS cR N0 g h n r_h l_n u_n hB hr   6 z_2 (0 : Int32) H locs ls hT hI hE hM (by omega) (by omega) (by have e0_ : (0 : Int32).toInt = 0 := (by decide); omega) (lv_sub hl [0, 1, 2, 3] rfl)
abbrev md_n_reachOf : Nat → Nat → Bool := mdf []
set_option maxHeartbeats 4000000 in
set_option maxRecDepth 100000 in
theorem lt_n_reachOf_b (l : Launch) (D : va_G) (cI cZ cS cR : ClassId) (N0 : NT) (g : GS) (h : Nat) (o : Nat) (r_h : g.1 h = 19) (r_o : g.1 o = 1) {p : Program} {e : Env} {s : State} {m : MethodId} {args : Array Value} {below : List Frame} {meth : Method} {c : Code} (hB : Tz p s m meth c args cX5_reachOf 4 RX5 D cI cZ cS cR N0) (hr : meth.sig.returnType = (some .int))    : ∀ (kf : Nat) (i : Int32) (j : Int32)  (H : Heap) (locs : List Loc) (ls : Array Slot), Tv D cI cZ cS cR N0 s.heap H locs g → Inv g → Ex g g → Sm md_n_reachOf g g → 0 ≤ i.toInt → i.toInt ≤ 6 → (6 ≤ i.toInt + kf) → lv_has ls 4 [(3, .int i), (2, .int j), (0, .ref h), (1, .ref o)] → W p l e (rmx 2 0 0) s m args below meth c H locs 0 0 (MQ below (tQ D cI cZ cS cR N0 (fun v g' => ∃ (r : Int32), v = some (.int r) ∧ g' = g)) args s 0 0 (fun q => N0.1 ≤ q)) (F0 m 31 ls []) := by
  have hx := hB.1
  have hb := hB.2.1
  intro kf
  induction kf using Nat.strongRecOn with
  | ind kf ih =>
    intro i j H locs ls hT hI hE hM l_i u_i hk hl
    have r_1 : g.1 h = 19 := Ex.r hE r_h (by decide)
    have r_2 : g.1 o = 1 := Ex.r hE r_o (by decide)
    refine lv_iload_n hx hb dX5_reachOf_31 rfl (lv_at hl 0 rfl) ?_
    refine lv_aload_n hx hb dX5_reachOf_32 rfl (lv_at hl 2 rfl) ?_
    obtain ⟨v_3, e_v_3, l_v_3, u_v_3⟩ := f_19_1 hI r_1
    refine t_get (ci := 5) (v := .int v_3) hB hT (ro_ci r_1 rfl) rfl 1 (by decide) k_202 e_v_3 dX5_reachOf_33 ?_
    refine lv_icmp_ge (tgt := 62) hx hb dX5_reachOf_36 (by decide) (fun c_4 => ?_) (fun c_4 => ?_)
    · have c_4' : v_3.toInt ≤ i.toInt := i_le c_4 rfl rfl
      refine lv_iload_n hx hb dX5_reachOf_62 rfl (lv_at hl 1 rfl) ?_
      exact t_iret hB hr hT (Nat.le_of_ble_eq_true rfl) (Nat.le_of_ble_eq_true rfl) dX5_reachOf_63 ⟨j, rfl, rfl⟩
    · have c_4' : i.toInt < v_3.toInt := i_nle c_4 rfl rfl
      refine lv_iload_n hx hb dX5_reachOf_39 rfl (lv_at hl 1 rfl) ?_
      refine lv_iload_n hx hb dX5_reachOf_40 rfl (lv_at hl 0 rfl) ?_
      refine lv_ishr hx hb dX5_reachOf_41 ?_
      refine lv_topi (fun z_5 ez_5 => ?_)
      refine lv_iconst (v := 1) hx hb dX5_reachOf_42 (by decide) ?_
      refine lv_iand hx hb dX5_reachOf_43 ?_
      refine lv_topi (fun z_6 ez_6 => ?_)
      have e_z_6 := i_and 1 (b := 1) ez_6 (by decide) (by decide) (by decide)
      refine lv_iconst (v := 1) hx hb dX5_reachOf_44 (by decide) ?_
      refine lv_icmp_ne (tgt := 56) hx hb dX5_reachOf_45 (by decide) (fun c_7 => ?_) (fun c_7 => ?_)
      · have c_7' : z_6.toInt ≠ 1 := i_ne c_7 rfl (by decide)
        obtain ⟨z_8, ez_8⟩ : ∃ z : Int32, z = i + 1 := ⟨_, rfl⟩
        have e_z_8 : z_8.toInt = i.toInt + 1 := i_add ez_8 rfl (by decide) (by omega) (by omega)
        refine lv_iinc (v := z_8) (lv' := [(3, .int z_8), (2, .int j), (0, .ref h), (1, .ref o)]) hx hb dX5_reachOf_56 hl (k := 0) rfl (by rw [ez_8]; rfl) (by decide) rfl (fun ls hl => ?_)
        refine lv_goto (tgt := 31) hx hb dX5_reachOf_59 (by decide) ?_
        exact ih (kf - 1) (by omega) z_8 j H locs ls hT hI hE hM (by omega) (by omega) (by have e0_ : (0 : Int32).toInt = 0 := (by decide); omega) (lv_sub hl [0, 1, 2, 3] rfl)
      · have c_7' : z_6.toInt = 1 := i_eq c_7 rfl (by decide)
        refine lv_iload_n hx hb dX5_reachOf_48 rfl (lv_at hl 1 rfl) ?_
        refine lv_aload_n hx hb dX5_reachOf_49 rfl (lv_at hl 2 rfl) ?_
        refine lv_iload_n hx hb dX5_reachOf_50 rfl (lv_at hl 0 rfl) ?_
        refine t_callV (n := 1) (As := [.int i]) (rest := [.int j]) (ci := 5) hB hT hl.1 (n_askedBy l D cI cZ cS cR N0 g hI h i r_1 (by omega) (by omega)) (ro_ci r_1 rfl) rfl k_473 k_59 k_470 k_472 k_9 (by decide +kernel) ⟨(Nat.le_of_ble_eq_true rfl), (Nat.le_of_ble_eq_true rfl)⟩ rfl (Nat.le_of_ble_eq_true rfl) ⟨(Nat.le_of_ble_eq_true rfl), (Nat.le_of_ble_eq_true rfl)⟩ dX5_reachOf_51 (fun v g_9 H locs hp hT => ?_)
        obtain ⟨r_10, rfl, eg⟩ := hp
        rw [eg] at hT
        clear eg
        refine W.eq (g2 := F0 m 54 ls [.int r_10, .int j]) rfl ?_
        refine lv_ior hx hb dX5_reachOf_54 ?_
        refine lv_topi (fun z_13 ez_13 => ?_)
        refine lv_istore_n (lv' := [(2, .int z_13), (3, .int i), (0, .ref h), (1, .ref o)]) hx hb dX5_reachOf_55 rfl hl (by decide) rfl (fun ls hl => ?_)
        obtain ⟨z_14, ez_14⟩ : ∃ z : Int32, z = i + 1 := ⟨_, rfl⟩
        have e_z_14 : z_14.toInt = i.toInt + 1 := i_add ez_14 rfl (by decide) (by omega) (by omega)
        refine lv_iinc (v := z_14) (lv' := [(3, .int z_14), (2, .int z_13), (0, .ref h), (1, .ref o)]) hx hb dX5_reachOf_56 hl (k := 1) rfl (by rw [ez_14]; rfl) (by decide) rfl (fun ls hl => ?_)
        refine lv_goto (tgt := 31) hx hb dX5_reachOf_59 (by decide) ?_
        exact ih (kf - 1) (by omega) z_14 z_13 H locs ls hT hI hE hM (by omega) (by omega) (by have e0_ : (0 : Int32).toInt = 0 := (by decide); omega) (lv_sub hl [0, 1, 2, 3] rfl)
set_option maxHeartbeats 4000000 in
set_option maxRecDepth 100000 in
theorem lt_n_reachOf_a (l : Launch) (D : va_G) (cI cZ cS cR : ClassId) (N0 : NT) (g : GS) (h : Nat) (o : Nat) (r_h : g.1 h = 19) (r_o : g.1 o = 1) {p : Program} {e : Env} {s : State} {m : MethodId} {args : Array Value} {below : List Frame} {meth : Method} {c : Code} (hB : Tz p s m meth c args cX5_reachOf 4 RX5 D cI cZ cS cR N0) (hr : meth.sig.returnType = (some .int))    : ∀ (kf : Nat) (i : Int32) (j : Int32)  (H : Heap) (locs : List Loc) (ls : Array Slot), Tv D cI cZ cS cR N0 s.heap H locs g → Inv g → Ex g g → Sm md_n_reachOf g g → 0 ≤ i.toInt → i.toInt ≤ 6 → (6 ≤ i.toInt + kf) → lv_has ls 4 [(3, .int i), (2, .int j), (0, .ref h), (1, .ref o)] → W p l e (rmx 2 0 0) s m args below meth c H locs 0 0 (MQ below (tQ D cI cZ cS cR N0 (fun v g' => ∃ (r : Int32), v = some (.int r) ∧ g' = g)) args s 0 0 (fun q => N0.1 ≤ q)) (F0 m 4 ls []) := by
  have hx := hB.1
  have hb := hB.2.1
  intro kf
  induction kf using Nat.strongRecOn with
  | ind kf ih =>
    intro i j H locs ls hT hI hE hM l_i u_i hk hl
    have r_1 : g.1 h = 19 := Ex.r hE r_h (by decide)
    have r_2 : g.1 o = 1 := Ex.r hE r_o (by decide)
    refine lv_iload_n hx hb dX5_reachOf_4 rfl (lv_at hl 0 rfl) ?_
    refine lv_aload_n hx hb dX5_reachOf_5 rfl (lv_at hl 3 rfl) ?_
    obtain ⟨v_3, e_v_3, l_v_3, u_v_3⟩ := f_1_3 hI r_2
    refine t_get (ci := 0) (v := .int v_3) hB hT (ro_ci r_2 rfl) rfl 3 (by decide) k_255 e_v_3 dX5_reachOf_6 ?_
    refine lv_icmp_ge (tgt := 29) hx hb dX5_reachOf_9 (by decide) (fun c_4 => ?_) (fun c_4 => ?_)
    · have c_4' : v_3.toInt ≤ i.toInt := i_le c_4 rfl rfl
      refine lv_iconst (v := 0) hx hb dX5_reachOf_29 (by decide) ?_
      refine lv_istore_n (lv' := [(3, .int 0), (2, .int j), (0, .ref h), (1, .ref o)]) hx hb dX5_reachOf_30 rfl hl (by decide) rfl (fun ls hl => ?_)
      exact lt_n_reachOf_b l D cI cZ cS cR N0 g h o r_h r_o hB hr   6 (0 : Int32) j H locs ls hT hI hE hM (by decide) (by decide) (by have e0_ : (0 : Int32).toInt = 0 := (by decide); omega) (lv_sub hl [0, 1, 2, 3] rfl)
    · have c_4' : i.toInt < v_3.toInt := i_nle c_4 rfl rfl
      refine lv_iload_n hx hb dX5_reachOf_12 rfl (lv_at hl 1 rfl) ?_
      refine lv_iconst (v := 1) hx hb dX5_reachOf_13 (by decide) ?_
      refine lv_aload_n hx hb dX5_reachOf_14 rfl (lv_at hl 3 rfl) ?_
      obtain ⟨v_5, e_v_5, r_v_5, n_v_5⟩ := f_1_0 hI r_2
      refine t_get (ci := 0) (v := .ref v_5) hB hT (ro_ci r_2 rfl) rfl 0 (by decide) k_245 e_v_5 dX5_reachOf_15 ?_
      refine lv_iload_n hx hb dX5_reachOf_18 rfl (lv_at hl 0 rfl) ?_
      have i_u_6 : vp_in i 6 := (i_in (n := 6) rfl (by omega) (by omega))
      refine t_iald hB hT (ro_in r_v_5 (by decide)) n_v_5 i_u_6 rfl dX5_reachOf_19 ?_
      have c_u_6 := hI.c r_v_5 n_v_5 (i_cl i_u_6)
      refine lv_topi (fun u_6 e_u_6 => ?_)
      obtain ⟨l_u_6, u_u_6⟩ := c_u_6
      rw [← e_u_6] at l_u_6 u_u_6
      refine lv_ishl hx hb dX5_reachOf_20 ?_
      refine lv_topi (fun z_7 ez_7 => ?_)
      refine lv_ior hx hb dX5_reachOf_21 ?_
      refine lv_topi (fun z_8 ez_8 => ?_)
      refine lv_istore_n (lv' := [(2, .int z_8), (3, .int i), (0, .ref h), (1, .ref o)]) hx hb dX5_reachOf_22 rfl hl (by decide) rfl (fun ls hl => ?_)
      obtain ⟨z_9, ez_9⟩ : ∃ z : Int32, z = i + 1 := ⟨_, rfl⟩
      have e_z_9 : z_9.toInt = i.toInt + 1 := i_add ez_9 rfl (by decide) (by omega) (by omega)
      refine lv_iinc (v := z_9) (lv' := [(3, .int z_9), (2, .int z_8), (0, .ref h), (1, .ref o)]) hx hb dX5_reachOf_23 hl (k := 1) rfl (by rw [ez_9]; rfl) (by decide) rfl (fun ls hl => ?_)
      refine lv_goto (tgt := 4) hx hb dX5_reachOf_26 (by decide) ?_
      exact ih (kf - 1) (by omega) z_9 z_8 H locs ls hT hI hE hM (by omega) (by omega) (by have e0_ : (0 : Int32).toInt = 0 := (by decide); omega) (lv_sub hl [0, 1, 2, 3] rfl)
set_option maxHeartbeats 4000000 in
set_option maxRecDepth 100000 in
theorem n_reachOf (l : Launch) (D : va_G) (cI cZ cS cR : ClassId) (N0 : NT) (g : GS) (hI : Inv g) (h : Nat) (o : Nat) (r_h : g.1 h = 19) (r_o : g.1 o = 1) : Ty l D cI cZ cS cR N0 yX5_reachOf cX5_reachOf 4 (some .int) 2 0 0 [.ref h, .ref o] g (fun v g' => ∃ (r : Int32), v = some (.int r) ∧ g' = g) := by
  refine t_enter (by decide) (Nat.le_of_ble_eq_true rfl) ?_
  intro p e s m args below meth c ls H locs hB hr hin hl hT
  have hx := hB.1
  have hb := hB.2.1
  have hl : lv_has ls 4 [(0, .ref h), (1, .ref o)] := hl
  have hE : Ex g g := Ex.rf
  have hM : Sm md_n_reachOf g g := Sm.rf
  refine lv_iconst (v := 0) hx hb dX5_reachOf_0 (by decide) ?_
  refine lv_istore_n (lv' := [(2, .int 0), (0, .ref h), (1, .ref o)]) hx hb dX5_reachOf_1 rfl hl (by decide) rfl (fun ls hl => ?_)
  refine lv_iconst (v := 0) hx hb dX5_reachOf_2 (by decide) ?_
  refine lv_istore_n (lv' := [(3, .int 0), (2, .int 0), (0, .ref h), (1, .ref o)]) hx hb dX5_reachOf_3 rfl hl (by decide) rfl (fun ls hl => ?_)
  exact lt_n_reachOf_a l D cI cZ cS cR N0 g h o r_h r_o hB hr   6 (0 : Int32) (0 : Int32) H locs ls hT hI hE hM (by decide) (by decide) (by have e0_ : (0 : Int32).toInt = 0 := (by decide); omega) (lv_sub hl [0, 1, 2, 3] rfl)
