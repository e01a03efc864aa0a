theorem k_22 : Cond.selects RX7 yX7_readsAct yX7_readsAct ∈ tb := mt 22 (by decide +kernel) rfl
theorem k_23 : Cond.selects RX7 yX7_byteAt yX7_byteAt ∈ tb := mt 23 (by decide +kernel) rfl
theorem k_24 : Cond.selects RX7 yX7_must yX7_must ∈ tb := mt 24 (by decide +kernel) rfl
theorem k_25 : Cond.selects RX7 yX7_readsWorth yX7_readsWorth ∈ tb := mt 25 (by decide +kernel) rfl
theorem k_65 : Cond.initialized RX7 ∈ tb := mt 65 (by decide +kernel) rfl
theorem k_745 : Cond.fieldLink RX7 167 "TwiceOnceModel" "services" "I" ∈ tb := mt 745 (by decide +kernel) rfl
theorem k_746 : Cond.fieldLink RX7 7 "TwiceOnceModel" "acts" "[I" ∈ tb := mt 746 (by decide +kernel) rfl
theorem k_747 : Cond.fieldLink RX7 13 "TwiceOnceModel" "word" "[I" ∈ tb := mt 747 (by decide +kernel) rfl
theorem k_748 : Cond.fieldLink RX7 16 "TwiceOnceModel" "place" "[I" ∈ tb := mt 748 (by decide +kernel) rfl
theorem k_749 : Cond.fieldLink RX7 19 "TwiceOnceModel" "worth" "[I" ∈ tb := mt 749 (by decide +kernel) rfl
theorem k_750 : Cond.fieldLink RX7 22 "TwiceOnceModel" "mends" "[I" ∈ tb := mt 750 (by decide +kernel) rfl
theorem k_773 : Cond.fieldLink RX7 83 "TwiceOnceModel" "tape" "[I" ∈ tb := mt 773 (by decide +kernel) rfl
theorem k_774 : Cond.fieldLink RX7 175 "TwiceOnceModel" "taped" "I" ∈ tb := mt 774 (by decide +kernel) rfl
theorem k_781 : Cond.fieldLink RX7 184 "TwiceOnceModel" "spot" "I" ∈ tb := mt 781 (by decide +kernel) rfl
theorem k_782 : Cond.fieldLink RX7 180 "TwiceOnceModel" "isWrong" "Z" ∈ tb := mt 782 (by decide +kernel) rfl
theorem k_783 : Cond.fieldLink RX7 199 "TwiceOnceModel" "read" "I" ∈ tb := mt 783 (by decide +kernel) rfl
theorem k_784 : Cond.fieldLink RX7 98 "TwiceOnceModel" "newWord" "[I" ∈ tb := mt 784 (by decide +kernel) rfl
theorem k_785 : Cond.fieldLink RX7 101 "TwiceOnceModel" "newPlace" "[I" ∈ tb := mt 785 (by decide +kernel) rfl
theorem k_786 : Cond.fieldLink RX7 104 "TwiceOnceModel" "newWorth" "[I" ∈ tb := mt 786 (by decide +kernel) rfl
theorem k_787 : Cond.fieldLink RX7 107 "TwiceOnceModel" "words" "[I" ∈ tb := mt 787 (by decide +kernel) rfl
theorem k_952 : Cond.methodLink RX7 171 yX7_in ∈ tb := mt 952 (by decide +kernel) rfl
theorem k_953 : Cond.static yX7_in ∈ tb := mt 953 (by decide +kernel) rfl
set_option maxRecDepth 20000 in
theorem k_954 : Cond.code yX7_in cX7_in 3 (some .boolean) ∈ tb := mt 954 rfl rfl
theorem k_955 : Cond.constantLong RX7 178 255 ∈ tb := mt 955 (by decide +kernel) rfl
theorem k_964 : Cond.methodLink RX7 202 yX7_readsAct ∈ tb := mt 964 (by decide +kernel) rfl
theorem k_966 : Cond.instanceMethod yX7_readsAct ∈ tb := mt 966 (by decide +kernel) rfl
set_option maxRecDepth 20000 in
theorem k_967 : Cond.code yX7_readsAct cX7_readsAct 4 none ∈ tb := mt 967 rfl rfl
theorem k_968 : Cond.methodLink RX7 187 yX7_byteAt ∈ tb := mt 968 (by decide +kernel) rfl
theorem k_970 : Cond.instanceMethod yX7_byteAt ∈ tb := mt 970 (by decide +kernel) rfl
set_option maxRecDepth 20000 in
theorem k_971 : Cond.code yX7_byteAt cX7_byteAt 2 (some .int) ∈ tb := mt 971 rfl rfl
theorem k_972 : Cond.methodLink RX7 191 yX7_must ∈ tb := mt 972 (by decide +kernel) rfl
theorem k_974 : Cond.instanceMethod yX7_must ∈ tb := mt 974 (by decide +kernel) rfl
set_option maxRecDepth 20000 in
theorem k_975 : Cond.code yX7_must cX7_must 2 none ∈ tb := mt 975 rfl rfl
theorem k_976 : Cond.methodLink RX7 195 yX7_readsWorth ∈ tb := mt 976 (by decide +kernel) rfl
theorem k_978 : Cond.instanceMethod yX7_readsWorth ∈ tb := mt 978 (by decide +kernel) rfl
set_option maxRecDepth 20000 in
theorem k_979 : Cond.code yX7_readsWorth cX7_readsWorth 4 (some .int) ∈ tb := mt 979 rfl rfl
theorem dX7_in_0 : decode cX7_in 0 = .ok (.iload_n 0, 1) := by decide +kernel
theorem dX7_in_1 : decode cX7_in 1 = .ok (.iload_n 1, 1) := by decide +kernel
theorem dX7_in_2 : decode cX7_in 2 = .ok (.if_icmp .lt 12, 3) := by decide +kernel
theorem dX7_in_14 : decode cX7_in 14 = .ok (.iconst 0, 1) := by decide +kernel
theorem dX7_in_15 : decode cX7_in 15 = .ok (.ireturn, 1) := by decide +kernel
theorem dX7_in_5 : decode cX7_in 5 = .ok (.iload_n 0, 1) := by decide +kernel
theorem dX7_in_6 : decode cX7_in 6 = .ok (.iload_n 2, 1) := by decide +kernel
theorem dX7_in_7 : decode cX7_in 7 = .ok (.if_icmp .gt 7, 3) := by decide +kernel
theorem dX7_in_10 : decode cX7_in 10 = .ok (.iconst 1, 1) := by decide +kernel
theorem dX7_in_11 : decode cX7_in 11 = .ok (.goto 4, 3) := by decide +kernel
theorem dX7_isService_0 : decode cX7_isService 0 = .ok (.iload_n 1, 1) := by decide +kernel
theorem dX7_isService_1 : decode cX7_isService 1 = .ok (.iconst 0, 1) := by decide +kernel
theorem dX7_isService_2 : decode cX7_isService 2 = .ok (.aload_n 0, 1) := by decide +kernel
theorem dX7_isService_3 : decode cX7_isService 3 = .ok (.getfield 167, 3) := by decide +kernel
theorem dX7_isService_6 : decode cX7_isService 6 = .ok (.iconst 1, 1) := by decide +kernel
theorem dX7_isService_7 : decode cX7_isService 7 = .ok (.isub, 1) := by decide +kernel
theorem dX7_isService_8 : decode cX7_isService 8 = .ok (.invokestatic 171, 3) := by decide +kernel
theorem dX7_isService_11 : decode cX7_isService 11 = .ok (.ireturn, 1) := by decide +kernel
theorem dX7_has_0 : decode cX7_has 0 = .ok (.aload_n 0, 1) := by decide +kernel
theorem dX7_has_1 : decode cX7_has 1 = .ok (.getfield 22, 3) := by decide +kernel
theorem dX7_has_4 : decode cX7_has 4 = .ok (.iload_n 1, 1) := by decide +kernel
theorem dX7_has_5 : decode cX7_has 5 = .ok (.iaload, 1) := by decide +kernel
theorem dX7_has_6 : decode cX7_has 6 = .ok (.iload_n 2, 1) := by decide +kernel
theorem dX7_has_7 : decode cX7_has 7 = .ok (.ishr, 1) := by decide +kernel
theorem dX7_has_8 : decode cX7_has 8 = .ok (.iconst 1, 1) := by decide +kernel
theorem dX7_has_9 : decode cX7_has 9 = .ok (.iand, 1) := by decide +kernel
theorem dX7_has_10 : decode cX7_has 10 = .ok (.iconst 1, 1) := by decide +kernel
theorem dX7_has_11 : decode cX7_has 11 = .ok (.if_icmp .ne 7, 3) := by decide +kernel
theorem dX7_has_18 : decode cX7_has 18 = .ok (.iconst 0, 1) := by decide +kernel
theorem dX7_has_19 : decode cX7_has 19 = .ok (.ireturn, 1) := by decide +kernel
theorem dX7_has_14 : decode cX7_has 14 = .ok (.iconst 1, 1) := by decide +kernel
theorem dX7_has_15 : decode cX7_has 15 = .ok (.goto 4, 3) := by decide +kernel
theorem dX7_feed_32 : decode cX7_feed 32 = .ok (.iload 4, 2) := by decide +kernel
theorem dX7_feed_34 : decode cX7_feed 34 = .ok (.ifCond .lt 40, 3) := by decide +kernel
theorem dX7_feed_74 : decode cX7_feed 74 = .ok (.aload_n 0, 1) := by decide +kernel
theorem dX7_feed_75 : decode cX7_feed 75 = .ok (.getfield 175, 3) := by decide +kernel
theorem dX7_feed_78 : decode cX7_feed 78 = .ok (.ireturn, 1) := by decide +kernel
theorem dX7_feed_37 : decode cX7_feed 37 = .ok (.aload_n 0, 1) := by decide +kernel
theorem dX7_feed_38 : decode cX7_feed 38 = .ok (.getfield 83, 3) := by decide +kernel
theorem dX7_feed_41 : decode cX7_feed 41 = .ok (.aload_n 0, 1) := by decide +kernel
theorem dX7_feed_42 : decode cX7_feed 42 = .ok (.getfield 175, 3) := by decide +kernel
theorem dX7_feed_45 : decode cX7_feed 45 = .ok (.lload_n 1, 1) := by decide +kernel
theorem dX7_feed_46 : decode cX7_feed 46 = .ok (.bipush 8, 2) := by decide +kernel
theorem dX7_feed_48 : decode cX7_feed 48 = .ok (.iload 4, 2) := by decide +kernel
theorem dX7_feed_50 : decode cX7_feed 50 = .ok (.imul, 1) := by decide +kernel
theorem dX7_feed_51 : decode cX7_feed 51 = .ok (.lshr, 1) := by decide +kernel
theorem dX7_feed_52 : decode cX7_feed 52 = .ok (.ldc2_w 178, 3) := by decide +kernel
theorem dX7_feed_55 : decode cX7_feed 55 = .ok (.land, 1) := by decide +kernel
theorem dX7_feed_56 : decode cX7_feed 56 = .ok (.l2i, 1) := by decide +kernel
theorem dX7_feed_57 : decode cX7_feed 57 = .ok (.iastore, 1) := by decide +kernel
theorem dX7_feed_58 : decode cX7_feed 58 = .ok (.aload_n 0, 1) := by decide +kernel
theorem dX7_feed_59 : decode cX7_feed 59 = .ok (.dup, 1) := by decide +kernel
theorem dX7_feed_60 : decode cX7_feed 60 = .ok (.getfield 175, 3) := by decide +kernel
theorem dX7_feed_63 : decode cX7_feed 63 = .ok (.iconst 1, 1) := by decide +kernel
theorem dX7_feed_64 : decode cX7_feed 64 = .ok (.iadd, 1) := by decide +kernel
theorem dX7_feed_65 : decode cX7_feed 65 = .ok (.putfield 175, 3) := by decide +kernel
theorem dX7_feed_68 : decode cX7_feed 68 = .ok (.iinc 4 (-1), 3) := by decide +kernel
theorem dX7_feed_71 : decode cX7_feed 71 = .ok (.goto (-39), 3) := by decide +kernel
theorem dX7_feed_0 : decode cX7_feed 0 = .ok (.iload_n 3, 1) := by decide +kernel
theorem dX7_feed_1 : decode cX7_feed 1 = .ok (.iconst 1, 1) := by decide +kernel
theorem dX7_feed_2 : decode cX7_feed 2 = .ok (.bipush 8, 2) := by decide +kernel
theorem dX7_feed_4 : decode cX7_feed 4 = .ok (.invokestatic 171, 3) := by decide +kernel
theorem dX7_feed_7 : decode cX7_feed 7 = .ok (.ifCond .ne 6, 3) := by decide +kernel
theorem dX7_feed_13 : decode cX7_feed 13 = .ok (.aload_n 0, 1) := by decide +kernel
theorem dX7_feed_14 : decode cX7_feed 14 = .ok (.getfield 175, 3) := by decide +kernel
theorem dX7_feed_17 : decode cX7_feed 17 = .ok (.iload_n 3, 1) := by decide +kernel
theorem dX7_feed_18 : decode cX7_feed 18 = .ok (.iadd, 1) := by decide +kernel
theorem dX7_feed_19 : decode cX7_feed 19 = .ok (.bipush 100, 2) := by decide +kernel
theorem dX7_feed_21 : decode cX7_feed 21 = .ok (.if_icmp .le 6, 3) := by decide +kernel
theorem dX7_feed_27 : decode cX7_feed 27 = .ok (.iload_n 3, 1) := by decide +kernel
theorem dX7_feed_28 : decode cX7_feed 28 = .ok (.iconst 1, 1) := by decide +kernel
theorem dX7_feed_29 : decode cX7_feed 29 = .ok (.isub, 1) := by decide +kernel
theorem dX7_feed_30 : decode cX7_feed 30 = .ok (.istore 4, 2) := by decide +kernel
theorem dX7_feed_24 : decode cX7_feed 24 = .ok (.bipush (-4), 2) := by decide +kernel
theorem dX7_feed_26 : decode cX7_feed 26 = .ok (.ireturn, 1) := by decide +kernel
theorem dX7_feed_10 : decode cX7_feed 10 = .ok (.bipush (-2), 2) := by decide +kernel
theorem dX7_feed_12 : decode cX7_feed 12 = .ok (.ireturn, 1) := by decide +kernel
theorem dX7_byteAt_0 : decode cX7_byteAt 0 = .ok (.iload_n 1, 1) := by decide +kernel
theorem dX7_byteAt_1 : decode cX7_byteAt 1 = .ok (.aload_n 0, 1) := by decide +kernel
theorem dX7_byteAt_2 : decode cX7_byteAt 2 = .ok (.getfield 175, 3) := by decide +kernel
theorem dX7_byteAt_5 : decode cX7_byteAt 5 = .ok (.if_icmp .ge 12, 3) := by decide +kernel
theorem dX7_byteAt_17 : decode cX7_byteAt 17 = .ok (.iconst (-1), 1) := by decide +kernel
theorem dX7_byteAt_18 : decode cX7_byteAt 18 = .ok (.ireturn, 1) := by decide +kernel
theorem dX7_byteAt_8 : decode cX7_byteAt 8 = .ok (.aload_n 0, 1) := by decide +kernel
theorem dX7_byteAt_9 : decode cX7_byteAt 9 = .ok (.getfield 83, 3) := by decide +kernel
theorem dX7_byteAt_12 : decode cX7_byteAt 12 = .ok (.iload_n 1, 1) := by decide +kernel
theorem dX7_byteAt_13 : decode cX7_byteAt 13 = .ok (.iaload, 1) := by decide +kernel
theorem dX7_byteAt_14 : decode cX7_byteAt 14 = .ok (.goto 4, 3) := by decide +kernel
theorem dX7_must_0 : decode cX7_must 0 = .ok (.aload_n 0, 1) := by decide +kernel
theorem dX7_must_1 : decode cX7_must 1 = .ok (.aload_n 0, 1) := by decide +kernel
theorem dX7_must_2 : decode cX7_must 2 = .ok (.getfield 180, 3) := by decide +kernel
theorem dX7_must_5 : decode cX7_must 5 = .ok (.ifCond .ne 15, 3) := by decide +kernel
theorem dX7_must_20 : decode cX7_must 20 = .ok (.iconst 1, 1) := by decide +kernel
theorem dX7_must_21 : decode cX7_must 21 = .ok (.goto 4, 3) := by decide +kernel
theorem dX7_must_25 : decode cX7_must 25 = .ok (.putfield 180, 3) := by decide +kernel
theorem dX7_must_28 : decode cX7_must 28 = .ok (.aload_n 0, 1) := by decide +kernel
theorem dX7_must_29 : decode cX7_must 29 = .ok (.dup, 1) := by decide +kernel
theorem dX7_must_30 : decode cX7_must 30 = .ok (.getfield 184, 3) := by decide +kernel
theorem dX7_must_33 : decode cX7_must 33 = .ok (.aload_n 0, 1) := by decide +kernel
theorem dX7_must_34 : decode cX7_must 34 = .ok (.getfield 180, 3) := by decide +kernel
theorem dX7_must_37 : decode cX7_must 37 = .ok (.ifCond .eq 7, 3) := by decide +kernel
theorem dX7_must_40 : decode cX7_must 40 = .ok (.iconst 0, 1) := by decide +kernel
theorem dX7_must_41 : decode cX7_must 41 = .ok (.goto 4, 3) := by decide +kernel
theorem dX7_must_45 : decode cX7_must 45 = .ok (.iadd, 1) := by decide +kernel
theorem dX7_must_46 : decode cX7_must 46 = .ok (.putfield 184, 3) := by decide +kernel
theorem dX7_must_49 : decode cX7_must 49 = .ok (.return_, 1) := by decide +kernel
theorem dX7_must_8 : decode cX7_must 8 = .ok (.aload_n 0, 1) := by decide +kernel
theorem dX7_must_9 : decode cX7_must 9 = .ok (.aload_n 0, 1) := by decide +kernel
theorem dX7_must_10 : decode cX7_must 10 = .ok (.getfield 184, 3) := by decide +kernel
theorem dX7_must_13 : decode cX7_must 13 = .ok (.invokevirtual 187, 3) := by decide +kernel
theorem dX7_must_16 : decode cX7_must 16 = .ok (.iload_n 1, 1) := by decide +kernel
theorem dX7_must_17 : decode cX7_must 17 = .ok (.if_icmp .eq 7, 3) := by decide +kernel
theorem dX7_must_24 : decode cX7_must 24 = .ok (.iconst 0, 1) := by decide +kernel
theorem dX7_must_44 : decode cX7_must 44 = .ok (.iconst 1, 1) := by decide +kernel
theorem dX7_readsWorth_62 : decode cX7_readsWorth 62 = .ok (.aload_n 0, 1) := by decide +kernel
theorem dX7_readsWorth_63 : decode cX7_readsWorth 63 = .ok (.getfield 180, 3) := by decide +kernel
theorem dX7_readsWorth_66 : decode cX7_readsWorth 66 = .ok (.ifCond .ne 59, 3) := by decide +kernel
theorem dX7_readsWorth_125 : decode cX7_readsWorth 125 = .ok (.aload_n 0, 1) := by decide +kernel
theorem dX7_readsWorth_126 : decode cX7_readsWorth 126 = .ok (.aload_n 0, 1) := by decide +kernel
theorem dX7_readsWorth_127 : decode cX7_readsWorth 127 = .ok (.getfield 180, 3) := by decide +kernel
theorem dX7_readsWorth_130 : decode cX7_readsWorth 130 = .ok (.ifCond .ne 7, 3) := by decide +kernel
theorem dX7_readsWorth_137 : decode cX7_readsWorth 137 = .ok (.iconst 1, 1) := by decide +kernel
theorem dX7_readsWorth_138 : decode cX7_readsWorth 138 = .ok (.goto 4, 3) := by decide +kernel
theorem dX7_readsWorth_142 : decode cX7_readsWorth 142 = .ok (.putfield 180, 3) := by decide +kernel
theorem dX7_readsWorth_145 : decode cX7_readsWorth 145 = .ok (.iload_n 3, 1) := by decide +kernel
theorem dX7_readsWorth_146 : decode cX7_readsWorth 146 = .ok (.ireturn, 1) := by decide +kernel
theorem dX7_readsWorth_69 : decode cX7_readsWorth 69 = .ok (.iload_n 2, 1) := by decide +kernel
theorem dX7_readsWorth_70 : decode cX7_readsWorth 70 = .ok (.iconst 3, 1) := by decide +kernel
theorem dX7_readsWorth_71 : decode cX7_readsWorth 71 = .ok (.if_icmp .ge 54, 3) := by decide +kernel
theorem dX7_readsWorth_133 : decode cX7_readsWorth 133 = .ok (.iload_n 2, 1) := by decide +kernel
theorem dX7_readsWorth_134 : decode cX7_readsWorth 134 = .ok (.ifCond .ne 7, 3) := by decide +kernel
theorem dX7_readsWorth_141 : decode cX7_readsWorth 141 = .ok (.iconst 0, 1) := by decide +kernel
theorem dX7_readsWorth_74 : decode cX7_readsWorth 74 = .ok (.aload_n 0, 1) := by decide +kernel
theorem dX7_readsWorth_75 : decode cX7_readsWorth 75 = .ok (.aload_n 0, 1) := by decide +kernel
theorem dX7_readsWorth_76 : decode cX7_readsWorth 76 = .ok (.getfield 184, 3) := by decide +kernel
theorem dX7_readsWorth_79 : decode cX7_readsWorth 79 = .ok (.invokevirtual 187, 3) := by decide +kernel
theorem dX7_readsWorth_82 : decode cX7_readsWorth 82 = .ok (.bipush 48, 2) := by decide +kernel
theorem dX7_readsWorth_84 : decode cX7_readsWorth 84 = .ok (.bipush 57, 2) := by decide +kernel
theorem dX7_readsWorth_86 : decode cX7_readsWorth 86 = .ok (.invokestatic 171, 3) := by decide +kernel
theorem dX7_readsWorth_89 : decode cX7_readsWorth 89 = .ok (.ifCond .eq 36, 3) := by decide +kernel
theorem dX7_readsWorth_92 : decode cX7_readsWorth 92 = .ok (.bipush 10, 2) := by decide +kernel
theorem dX7_readsWorth_94 : decode cX7_readsWorth 94 = .ok (.iload_n 3, 1) := by decide +kernel
theorem dX7_readsWorth_95 : decode cX7_readsWorth 95 = .ok (.imul, 1) := by decide +kernel
theorem dX7_readsWorth_96 : decode cX7_readsWorth 96 = .ok (.aload_n 0, 1) := by decide +kernel
theorem dX7_readsWorth_97 : decode cX7_readsWorth 97 = .ok (.aload_n 0, 1) := by decide +kernel
theorem dX7_readsWorth_98 : decode cX7_readsWorth 98 = .ok (.getfield 184, 3) := by decide +kernel
theorem dX7_readsWorth_101 : decode cX7_readsWorth 101 = .ok (.invokevirtual 187, 3) := by decide +kernel
theorem dX7_readsWorth_104 : decode cX7_readsWorth 104 = .ok (.iadd, 1) := by decide +kernel
theorem dX7_readsWorth_105 : decode cX7_readsWorth 105 = .ok (.bipush 48, 2) := by decide +kernel
theorem dX7_readsWorth_107 : decode cX7_readsWorth 107 = .ok (.isub, 1) := by decide +kernel
theorem dX7_readsWorth_108 : decode cX7_readsWorth 108 = .ok (.istore_n 3, 1) := by decide +kernel
theorem dX7_readsWorth_109 : decode cX7_readsWorth 109 = .ok (.aload_n 0, 1) := by decide +kernel
theorem dX7_readsWorth_110 : decode cX7_readsWorth 110 = .ok (.dup, 1) := by decide +kernel
theorem dX7_readsWorth_111 : decode cX7_readsWorth 111 = .ok (.getfield 184, 3) := by decide +kernel
theorem dX7_readsWorth_114 : decode cX7_readsWorth 114 = .ok (.iconst 1, 1) := by decide +kernel
theorem dX7_readsWorth_115 : decode cX7_readsWorth 115 = .ok (.iadd, 1) := by decide +kernel
theorem dX7_readsWorth_116 : decode cX7_readsWorth 116 = .ok (.putfield 184, 3) := by decide +kernel
theorem dX7_readsWorth_119 : decode cX7_readsWorth 119 = .ok (.iinc 2 1, 3) := by decide +kernel
theorem dX7_readsWorth_122 : decode cX7_readsWorth 122 = .ok (.goto (-60), 3) := by decide +kernel
theorem dX7_readsWorth_0 : decode cX7_readsWorth 0 = .ok (.aload_n 0, 1) := by decide +kernel
theorem dX7_readsWorth_1 : decode cX7_readsWorth 1 = .ok (.getfield 180, 3) := by decide +kernel
theorem dX7_readsWorth_4 : decode cX7_readsWorth 4 = .ok (.ifCond .eq 7, 3) := by decide +kernel
theorem dX7_readsWorth_11 : decode cX7_readsWorth 11 = .ok (.aload_n 0, 1) := by decide +kernel
theorem dX7_readsWorth_12 : decode cX7_readsWorth 12 = .ok (.aload_n 0, 1) := by decide +kernel
theorem dX7_readsWorth_13 : decode cX7_readsWorth 13 = .ok (.getfield 184, 3) := by decide +kernel
theorem dX7_readsWorth_16 : decode cX7_readsWorth 16 = .ok (.invokevirtual 187, 3) := by decide +kernel
theorem dX7_readsWorth_19 : decode cX7_readsWorth 19 = .ok (.istore_n 1, 1) := by decide +kernel
theorem dX7_readsWorth_20 : decode cX7_readsWorth 20 = .ok (.iload_n 1, 1) := by decide +kernel
theorem dX7_readsWorth_21 : decode cX7_readsWorth 21 = .ok (.bipush 120, 2) := by decide +kernel
theorem dX7_readsWorth_23 : decode cX7_readsWorth 23 = .ok (.if_icmp .eq 9, 3) := by decide +kernel
theorem dX7_readsWorth_32 : decode cX7_readsWorth 32 = .ok (.aload_n 0, 1) := by decide +kernel
theorem dX7_readsWorth_33 : decode cX7_readsWorth 33 = .ok (.dup, 1) := by decide +kernel
theorem dX7_readsWorth_34 : decode cX7_readsWorth 34 = .ok (.getfield 184, 3) := by decide +kernel
theorem dX7_readsWorth_37 : decode cX7_readsWorth 37 = .ok (.iconst 1, 1) := by decide +kernel
theorem dX7_readsWorth_38 : decode cX7_readsWorth 38 = .ok (.iadd, 1) := by decide +kernel
theorem dX7_readsWorth_39 : decode cX7_readsWorth 39 = .ok (.putfield 184, 3) := by decide +kernel
theorem dX7_readsWorth_42 : decode cX7_readsWorth 42 = .ok (.iload_n 1, 1) := by decide +kernel
theorem dX7_readsWorth_43 : decode cX7_readsWorth 43 = .ok (.bipush 120, 2) := by decide +kernel
theorem dX7_readsWorth_45 : decode cX7_readsWorth 45 = .ok (.if_icmp .ne 9, 3) := by decide +kernel
theorem dX7_readsWorth_48 : decode cX7_readsWorth 48 = .ok (.sipush 1000, 3) := by decide +kernel
theorem dX7_readsWorth_51 : decode cX7_readsWorth 51 = .ok (.goto 6, 3) := by decide +kernel
theorem dX7_readsWorth_57 : decode cX7_readsWorth 57 = .ok (.ireturn, 1) := by decide +kernel
theorem dX7_readsWorth_26 : decode cX7_readsWorth 26 = .ok (.iload_n 1, 1) := by decide +kernel
theorem dX7_readsWorth_27 : decode cX7_readsWorth 27 = .ok (.bipush 114, 2) := by decide +kernel
theorem dX7_readsWorth_29 : decode cX7_readsWorth 29 = .ok (.if_icmp .ne 29, 3) := by decide +kernel
theorem dX7_readsWorth_58 : decode cX7_readsWorth 58 = .ok (.iconst 0, 1) := by decide +kernel
theorem dX7_readsWorth_59 : decode cX7_readsWorth 59 = .ok (.istore_n 2, 1) := by decide +kernel
theorem dX7_readsWorth_60 : decode cX7_readsWorth 60 = .ok (.iconst 0, 1) := by decide +kernel
theorem dX7_readsWorth_61 : decode cX7_readsWorth 61 = .ok (.istore_n 3, 1) := by decide +kernel
theorem dX7_readsWorth_54 : decode cX7_readsWorth 54 = .ok (.sipush 1001, 3) := by decide +kernel
theorem dX7_readsWorth_7 : decode cX7_readsWorth 7 = .ok (.iconst (-1), 1) := by decide +kernel
theorem dX7_readsWorth_8 : decode cX7_readsWorth 8 = .ok (.goto 11, 3) := by decide +kernel
theorem dX7_readsAct_265 : decode cX7_readsAct 265 = .ok (.aload_n 0, 1) := by decide +kernel
theorem dX7_readsAct_266 : decode cX7_readsAct 266 = .ok (.getfield 98, 3) := by decide +kernel
theorem dX7_readsAct_269 : decode cX7_readsAct 269 = .ok (.aload_n 0, 1) := by decide +kernel
theorem dX7_readsAct_270 : decode cX7_readsAct 270 = .ok (.getfield 199, 3) := by decide +kernel
theorem dX7_readsAct_273 : decode cX7_readsAct 273 = .ok (.iload_n 1, 1) := by decide +kernel
theorem dX7_readsAct_274 : decode cX7_readsAct 274 = .ok (.iastore, 1) := by decide +kernel
theorem dX7_readsAct_275 : decode cX7_readsAct 275 = .ok (.aload_n 0, 1) := by decide +kernel
theorem dX7_readsAct_276 : decode cX7_readsAct 276 = .ok (.getfield 101, 3) := by decide +kernel
theorem dX7_readsAct_279 : decode cX7_readsAct 279 = .ok (.aload_n 0, 1) := by decide +kernel
theorem dX7_readsAct_280 : decode cX7_readsAct 280 = .ok (.getfield 199, 3) := by decide +kernel
theorem dX7_readsAct_283 : decode cX7_readsAct 283 = .ok (.iload_n 2, 1) := by decide +kernel
theorem dX7_readsAct_284 : decode cX7_readsAct 284 = .ok (.iastore, 1) := by decide +kernel
theorem dX7_readsAct_285 : decode cX7_readsAct 285 = .ok (.aload_n 0, 1) := by decide +kernel
theorem dX7_readsAct_286 : decode cX7_readsAct 286 = .ok (.getfield 104, 3) := by decide +kernel
theorem dX7_readsAct_289 : decode cX7_readsAct 289 = .ok (.aload_n 0, 1) := by decide +kernel
theorem dX7_readsAct_290 : decode cX7_readsAct 290 = .ok (.getfield 199, 3) := by decide +kernel
theorem dX7_readsAct_293 : decode cX7_readsAct 293 = .ok (.iload_n 3, 1) := by decide +kernel
theorem dX7_readsAct_294 : decode cX7_readsAct 294 = .ok (.iastore, 1) := by decide +kernel
theorem dX7_readsAct_295 : decode cX7_readsAct 295 = .ok (.aload_n 0, 1) := by decide +kernel
theorem dX7_readsAct_296 : decode cX7_readsAct 296 = .ok (.dup, 1) := by decide +kernel
theorem dX7_readsAct_297 : decode cX7_readsAct 297 = .ok (.getfield 199, 3) := by decide +kernel
theorem dX7_readsAct_300 : decode cX7_readsAct 300 = .ok (.iconst 1, 1) := by decide +kernel
theorem dX7_readsAct_301 : decode cX7_readsAct 301 = .ok (.iadd, 1) := by decide +kernel
theorem dX7_readsAct_302 : decode cX7_readsAct 302 = .ok (.putfield 199, 3) := by decide +kernel
theorem dX7_readsAct_305 : decode cX7_readsAct 305 = .ok (.return_, 1) := by decide +kernel
theorem dX7_readsAct_236 : decode cX7_readsAct 236 = .ok (.iconst 0, 1) := by decide +kernel
theorem dX7_readsAct_237 : decode cX7_readsAct 237 = .ok (.istore_n 3, 1) := by decide +kernel
theorem dX7_readsAct_238 : decode cX7_readsAct 238 = .ok (.iload_n 1, 1) := by decide +kernel
theorem dX7_readsAct_239 : decode cX7_readsAct 239 = .ok (.iconst 3, 1) := by decide +kernel
theorem dX7_readsAct_240 : decode cX7_readsAct 240 = .ok (.if_icmp .eq 25, 3) := by decide +kernel
theorem dX7_readsAct_243 : decode cX7_readsAct 243 = .ok (.iload_n 1, 1) := by decide +kernel
theorem dX7_readsAct_244 : decode cX7_readsAct 244 = .ok (.iconst 4, 1) := by decide +kernel
theorem dX7_readsAct_245 : decode cX7_readsAct 245 = .ok (.if_icmp .eq 20, 3) := by decide +kernel
theorem dX7_readsAct_248 : decode cX7_readsAct 248 = .ok (.iload_n 1, 1) := by decide +kernel
theorem dX7_readsAct_249 : decode cX7_readsAct 249 = .ok (.bipush 6, 2) := by decide +kernel
theorem dX7_readsAct_251 : decode cX7_readsAct 251 = .ok (.if_icmp .eq 9, 3) := by decide +kernel
theorem dX7_readsAct_260 : decode cX7_readsAct 260 = .ok (.aload_n 0, 1) := by decide +kernel
theorem dX7_readsAct_261 : decode cX7_readsAct 261 = .ok (.invokevirtual 195, 3) := by decide +kernel
theorem dX7_readsAct_264 : decode cX7_readsAct 264 = .ok (.istore_n 3, 1) := by decide +kernel
theorem dX7_readsAct_254 : decode cX7_readsAct 254 = .ok (.aload_n 0, 1) := by decide +kernel
theorem dX7_readsAct_255 : decode cX7_readsAct 255 = .ok (.bipush 32, 2) := by decide +kernel
theorem dX7_readsAct_257 : decode cX7_readsAct 257 = .ok (.invokevirtual 191, 3) := by decide +kernel
theorem dX7_readsAct_134 : decode cX7_readsAct 134 = .ok (.aload_n 0, 1) := by decide +kernel
theorem dX7_readsAct_135 : decode cX7_readsAct 135 = .ok (.bipush 32, 2) := by decide +kernel
theorem dX7_readsAct_137 : decode cX7_readsAct 137 = .ok (.invokevirtual 191, 3) := by decide +kernel
theorem dX7_readsAct_140 : decode cX7_readsAct 140 = .ok (.iconst 0, 1) := by decide +kernel
theorem dX7_readsAct_141 : decode cX7_readsAct 141 = .ok (.istore_n 2, 1) := by decide +kernel
theorem dX7_readsAct_142 : decode cX7_readsAct 142 = .ok (.iload_n 1, 1) := by decide +kernel
theorem dX7_readsAct_143 : decode cX7_readsAct 143 = .ok (.bipush 6, 2) := by decide +kernel
theorem dX7_readsAct_145 : decode cX7_readsAct 145 = .ok (.if_icmp .eq 91, 3) := by decide +kernel
theorem dX7_readsAct_148 : decode cX7_readsAct 148 = .ok (.aload_n 0, 1) := by decide +kernel
theorem dX7_readsAct_149 : decode cX7_readsAct 149 = .ok (.aload_n 0, 1) := by decide +kernel
theorem dX7_readsAct_150 : decode cX7_readsAct 150 = .ok (.getfield 180, 3) := by decide +kernel
theorem dX7_readsAct_153 : decode cX7_readsAct 153 = .ok (.ifCond .ne 31, 3) := by decide +kernel
theorem dX7_readsAct_184 : decode cX7_readsAct 184 = .ok (.iconst 1, 1) := by decide +kernel
theorem dX7_readsAct_185 : decode cX7_readsAct 185 = .ok (.goto 4, 3) := by decide +kernel
theorem dX7_readsAct_189 : decode cX7_readsAct 189 = .ok (.putfield 180, 3) := by decide +kernel
theorem dX7_readsAct_192 : decode cX7_readsAct 192 = .ok (.aload_n 0, 1) := by decide +kernel
theorem dX7_readsAct_193 : decode cX7_readsAct 193 = .ok (.getfield 180, 3) := by decide +kernel
theorem dX7_readsAct_196 : decode cX7_readsAct 196 = .ok (.ifCond .eq 7, 3) := by decide +kernel
theorem dX7_readsAct_199 : decode cX7_readsAct 199 = .ok (.iconst 0, 1) := by decide +kernel
theorem dX7_readsAct_200 : decode cX7_readsAct 200 = .ok (.goto 14, 3) := by decide +kernel
theorem dX7_readsAct_214 : decode cX7_readsAct 214 = .ok (.istore_n 2, 1) := by decide +kernel
theorem dX7_readsAct_215 : decode cX7_readsAct 215 = .ok (.aload_n 0, 1) := by decide +kernel
theorem dX7_readsAct_216 : decode cX7_readsAct 216 = .ok (.dup, 1) := by decide +kernel
theorem dX7_readsAct_217 : decode cX7_readsAct 217 = .ok (.getfield 184, 3) := by decide +kernel
theorem dX7_readsAct_220 : decode cX7_readsAct 220 = .ok (.aload_n 0, 1) := by decide +kernel
theorem dX7_readsAct_221 : decode cX7_readsAct 221 = .ok (.getfield 180, 3) := by decide +kernel
theorem dX7_readsAct_224 : decode cX7_readsAct 224 = .ok (.ifCond .eq 7, 3) := by decide +kernel
theorem dX7_readsAct_227 : decode cX7_readsAct 227 = .ok (.iconst 0, 1) := by decide +kernel
theorem dX7_readsAct_228 : decode cX7_readsAct 228 = .ok (.goto 4, 3) := by decide +kernel
theorem dX7_readsAct_232 : decode cX7_readsAct 232 = .ok (.iadd, 1) := by decide +kernel
theorem dX7_readsAct_233 : decode cX7_readsAct 233 = .ok (.putfield 184, 3) := by decide +kernel
theorem dX7_readsAct_156 : decode cX7_readsAct 156 = .ok (.aload_n 0, 1) := by decide +kernel
theorem dX7_readsAct_157 : decode cX7_readsAct 157 = .ok (.aload_n 0, 1) := by decide +kernel
theorem dX7_readsAct_158 : decode cX7_readsAct 158 = .ok (.getfield 184, 3) := by decide +kernel
theorem dX7_readsAct_161 : decode cX7_readsAct 161 = .ok (.invokevirtual 187, 3) := by decide +kernel
theorem dX7_readsAct_164 : decode cX7_readsAct 164 = .ok (.bipush 48, 2) := by decide +kernel
theorem dX7_readsAct_166 : decode cX7_readsAct 166 = .ok (.iload_n 1, 1) := by decide +kernel
theorem dX7_readsAct_167 : decode cX7_readsAct 167 = .ok (.iconst 5, 1) := by decide +kernel
theorem dX7_readsAct_168 : decode cX7_readsAct 168 = .ok (.if_icmp .ne 8, 3) := by decide +kernel
theorem dX7_readsAct_176 : decode cX7_readsAct 176 = .ok (.bipush 51, 2) := by decide +kernel
theorem dX7_readsAct_178 : decode cX7_readsAct 178 = .ok (.invokestatic 171, 3) := by decide +kernel
theorem dX7_readsAct_181 : decode cX7_readsAct 181 = .ok (.ifCond .ne 7, 3) := by decide +kernel
theorem dX7_readsAct_188 : decode cX7_readsAct 188 = .ok (.iconst 0, 1) := by decide +kernel
theorem dX7_readsAct_203 : decode cX7_readsAct 203 = .ok (.aload_n 0, 1) := by decide +kernel
theorem dX7_readsAct_204 : decode cX7_readsAct 204 = .ok (.aload_n 0, 1) := by decide +kernel
theorem dX7_readsAct_205 : decode cX7_readsAct 205 = .ok (.getfield 184, 3) := by decide +kernel
theorem dX7_readsAct_208 : decode cX7_readsAct 208 = .ok (.invokevirtual 187, 3) := by decide +kernel
theorem dX7_readsAct_211 : decode cX7_readsAct 211 = .ok (.bipush 48, 2) := by decide +kernel
theorem dX7_readsAct_213 : decode cX7_readsAct 213 = .ok (.isub, 1) := by decide +kernel
theorem dX7_readsAct_231 : decode cX7_readsAct 231 = .ok (.iconst 1, 1) := by decide +kernel
theorem dX7_readsAct_171 : decode cX7_readsAct 171 = .ok (.bipush 53, 2) := by decide +kernel
theorem dX7_readsAct_173 : decode cX7_readsAct 173 = .ok (.goto 5, 3) := by decide +kernel
theorem dX7_readsAct_89 : decode cX7_readsAct 89 = .ok (.iload_n 2, 1) := by decide +kernel
theorem dX7_readsAct_90 : decode cX7_readsAct 90 = .ok (.iconst 3, 1) := by decide +kernel
theorem dX7_readsAct_91 : decode cX7_readsAct 91 = .ok (.if_icmp .ge 43, 3) := by decide +kernel
theorem dX7_readsAct_94 : decode cX7_readsAct 94 = .ok (.aload_n 0, 1) := by decide +kernel
theorem dX7_readsAct_95 : decode cX7_readsAct 95 = .ok (.getfield 180, 3) := by decide +kernel
theorem dX7_readsAct_98 : decode cX7_readsAct 98 = .ok (.ifCond .ne 36, 3) := by decide +kernel
theorem dX7_readsAct_101 : decode cX7_readsAct 101 = .ok (.aload_n 0, 1) := by decide +kernel
theorem dX7_readsAct_102 : decode cX7_readsAct 102 = .ok (.getfield 107, 3) := by decide +kernel
theorem dX7_readsAct_105 : decode cX7_readsAct 105 = .ok (.iconst 3, 1) := by decide +kernel
theorem dX7_readsAct_106 : decode cX7_readsAct 106 = .ok (.iload_n 1, 1) := by decide +kernel
theorem dX7_readsAct_107 : decode cX7_readsAct 107 = .ok (.imul, 1) := by decide +kernel
theorem dX7_readsAct_108 : decode cX7_readsAct 108 = .ok (.iload_n 2, 1) := by decide +kernel
theorem dX7_readsAct_109 : decode cX7_readsAct 109 = .ok (.iadd, 1) := by decide +kernel
theorem dX7_readsAct_110 : decode cX7_readsAct 110 = .ok (.iaload, 1) := by decide +kernel
theorem dX7_readsAct_111 : decode cX7_readsAct 111 = .ok (.ifCond .eq 17, 3) := by decide +kernel
theorem dX7_readsAct_128 : decode cX7_readsAct 128 = .ok (.iinc 2 1, 3) := by decide +kernel
theorem dX7_readsAct_131 : decode cX7_readsAct 131 = .ok (.goto (-42), 3) := by decide +kernel
theorem dX7_readsAct_114 : decode cX7_readsAct 114 = .ok (.aload_n 0, 1) := by decide +kernel
theorem dX7_readsAct_115 : decode cX7_readsAct 115 = .ok (.aload_n 0, 1) := by decide +kernel
theorem dX7_readsAct_116 : decode cX7_readsAct 116 = .ok (.getfield 107, 3) := by decide +kernel
theorem dX7_readsAct_119 : decode cX7_readsAct 119 = .ok (.iconst 3, 1) := by decide +kernel
theorem dX7_readsAct_120 : decode cX7_readsAct 120 = .ok (.iload_n 1, 1) := by decide +kernel
theorem dX7_readsAct_121 : decode cX7_readsAct 121 = .ok (.imul, 1) := by decide +kernel
theorem dX7_readsAct_122 : decode cX7_readsAct 122 = .ok (.iload_n 2, 1) := by decide +kernel
theorem dX7_readsAct_123 : decode cX7_readsAct 123 = .ok (.iadd, 1) := by decide +kernel
theorem dX7_readsAct_124 : decode cX7_readsAct 124 = .ok (.iaload, 1) := by decide +kernel
theorem dX7_readsAct_125 : decode cX7_readsAct 125 = .ok (.invokevirtual 191, 3) := by decide +kernel
theorem dX7_readsAct_65 : decode cX7_readsAct 65 = .ok (.aload_n 0, 1) := by decide +kernel
theorem dX7_readsAct_66 : decode cX7_readsAct 66 = .ok (.aload_n 0, 1) := by decide +kernel
theorem dX7_readsAct_67 : decode cX7_readsAct 67 = .ok (.getfield 180, 3) := by decide +kernel
theorem dX7_readsAct_70 : decode cX7_readsAct 70 = .ok (.ifCond .ne 9, 3) := by decide +kernel
theorem dX7_readsAct_79 : decode cX7_readsAct 79 = .ok (.iconst 1, 1) := by decide +kernel
theorem dX7_readsAct_80 : decode cX7_readsAct 80 = .ok (.goto 4, 3) := by decide +kernel
theorem dX7_readsAct_84 : decode cX7_readsAct 84 = .ok (.putfield 180, 3) := by decide +kernel
theorem dX7_readsAct_87 : decode cX7_readsAct 87 = .ok (.iconst 0, 1) := by decide +kernel
theorem dX7_readsAct_88 : decode cX7_readsAct 88 = .ok (.istore_n 2, 1) := by decide +kernel
theorem dX7_readsAct_73 : decode cX7_readsAct 73 = .ok (.iload_n 1, 1) := by decide +kernel
theorem dX7_readsAct_74 : decode cX7_readsAct 74 = .ok (.bipush 8, 2) := by decide +kernel
theorem dX7_readsAct_76 : decode cX7_readsAct 76 = .ok (.if_icmp .ne 7, 3) := by decide +kernel
theorem dX7_readsAct_83 : decode cX7_readsAct 83 = .ok (.iconst 0, 1) := by decide +kernel
theorem dX7_readsAct_34 : decode cX7_readsAct 34 = .ok (.iload_n 1, 1) := by decide +kernel
theorem dX7_readsAct_35 : decode cX7_readsAct 35 = .ok (.bipush 8, 2) := by decide +kernel
theorem dX7_readsAct_37 : decode cX7_readsAct 37 = .ok (.if_icmp .ge 28, 3) := by decide +kernel
theorem dX7_readsAct_40 : decode cX7_readsAct 40 = .ok (.aload_n 0, 1) := by decide +kernel
theorem dX7_readsAct_41 : decode cX7_readsAct 41 = .ok (.aload_n 0, 1) := by decide +kernel
theorem dX7_readsAct_42 : decode cX7_readsAct 42 = .ok (.getfield 184, 3) := by decide +kernel
theorem dX7_readsAct_45 : decode cX7_readsAct 45 = .ok (.invokevirtual 187, 3) := by decide +kernel
theorem dX7_readsAct_48 : decode cX7_readsAct 48 = .ok (.aload_n 0, 1) := by decide +kernel
theorem dX7_readsAct_49 : decode cX7_readsAct 49 = .ok (.getfield 107, 3) := by decide +kernel
theorem dX7_readsAct_52 : decode cX7_readsAct 52 = .ok (.iconst 3, 1) := by decide +kernel
theorem dX7_readsAct_53 : decode cX7_readsAct 53 = .ok (.iload_n 1, 1) := by decide +kernel
theorem dX7_readsAct_54 : decode cX7_readsAct 54 = .ok (.imul, 1) := by decide +kernel
theorem dX7_readsAct_55 : decode cX7_readsAct 55 = .ok (.iaload, 1) := by decide +kernel
theorem dX7_readsAct_56 : decode cX7_readsAct 56 = .ok (.if_icmp .eq 9, 3) := by decide +kernel
theorem dX7_readsAct_59 : decode cX7_readsAct 59 = .ok (.iinc 1 1, 3) := by decide +kernel
theorem dX7_readsAct_62 : decode cX7_readsAct 62 = .ok (.goto (-28), 3) := by decide +kernel
theorem dX7_readsAct_0 : decode cX7_readsAct 0 = .ok (.aload_n 0, 1) := by decide +kernel
theorem dX7_readsAct_1 : decode cX7_readsAct 1 = .ok (.aload_n 0, 1) := by decide +kernel
theorem dX7_readsAct_2 : decode cX7_readsAct 2 = .ok (.getfield 184, 3) := by decide +kernel
theorem dX7_readsAct_5 : decode cX7_readsAct 5 = .ok (.invokevirtual 187, 3) := by decide +kernel
theorem dX7_readsAct_8 : decode cX7_readsAct 8 = .ok (.bipush 97, 2) := by decide +kernel
theorem dX7_readsAct_10 : decode cX7_readsAct 10 = .ok (.if_icmp .ne 22, 3) := by decide +kernel
theorem dX7_readsAct_32 : decode cX7_readsAct 32 = .ok (.iconst 0, 1) := by decide +kernel
theorem dX7_readsAct_33 : decode cX7_readsAct 33 = .ok (.istore_n 1, 1) := by decide +kernel
theorem dX7_readsAct_13 : decode cX7_readsAct 13 = .ok (.aload_n 0, 1) := by decide +kernel
theorem dX7_readsAct_14 : decode cX7_readsAct 14 = .ok (.aload_n 0, 1) := by decide +kernel
theorem dX7_readsAct_15 : decode cX7_readsAct 15 = .ok (.getfield 184, 3) := by decide +kernel
theorem dX7_readsAct_18 : decode cX7_readsAct 18 = .ok (.iconst 1, 1) := by decide +kernel
theorem dX7_readsAct_19 : decode cX7_readsAct 19 = .ok (.iadd, 1) := by decide +kernel
theorem dX7_readsAct_20 : decode cX7_readsAct 20 = .ok (.invokevirtual 187, 3) := by decide +kernel
theorem dX7_readsAct_23 : decode cX7_readsAct 23 = .ok (.bipush 115, 2) := by decide +kernel
theorem dX7_readsAct_25 : decode cX7_readsAct 25 = .ok (.if_icmp .ne 7, 3) := by decide +kernel
theorem dX7_readsAct_28 : decode cX7_readsAct 28 = .ok (.iconst 5, 1) := by decide +kernel
theorem dX7_readsAct_29 : decode cX7_readsAct 29 = .ok (.goto 4, 3) := by decide +kernel
theorem dX7_reads_17 : decode cX7_reads 17 = .ok (.iload_n 1, 1) := by decide +kernel
theorem dX7_reads_18 : decode cX7_reads 18 = .ok (.ifCond .eq 63, 3) := by decide +kernel
theorem dX7_reads_81 : decode cX7_reads 81 = .ok (.aload_n 0, 1) := by decide +kernel
theorem dX7_reads_82 : decode cX7_reads 82 = .ok (.getfield 180, 3) := by decide +kernel
theorem dX7_reads_85 : decode cX7_reads 85 = .ok (.ifCond .ne 18, 3) := by decide +kernel
theorem dX7_reads_103 : decode cX7_reads 103 = .ok (.iconst 0, 1) := by decide +kernel
theorem dX7_reads_104 : decode cX7_reads 104 = .ok (.ireturn, 1) := by decide +kernel
theorem dX7_reads_88 : decode cX7_reads 88 = .ok (.aload_n 0, 1) := by decide +kernel
theorem dX7_reads_89 : decode cX7_reads 89 = .ok (.getfield 184, 3) := by decide +kernel
theorem dX7_reads_92 : decode cX7_reads 92 = .ok (.aload_n 0, 1) := by decide +kernel
theorem dX7_reads_93 : decode cX7_reads 93 = .ok (.getfield 175, 3) := by decide +kernel
theorem dX7_reads_96 : decode cX7_reads 96 = .ok (.if_icmp .ne 7, 3) := by decide +kernel
theorem dX7_reads_99 : decode cX7_reads 99 = .ok (.iconst 1, 1) := by decide +kernel
theorem dX7_reads_100 : decode cX7_reads 100 = .ok (.goto 4, 3) := by decide +kernel
theorem dX7_reads_21 : decode cX7_reads 21 = .ok (.aload_n 0, 1) := by decide +kernel
theorem dX7_reads_22 : decode cX7_reads 22 = .ok (.invokevirtual 202, 3) := by decide +kernel
theorem dX7_reads_25 : decode cX7_reads 25 = .ok (.aload_n 0, 1) := by decide +kernel
theorem dX7_reads_26 : decode cX7_reads 26 = .ok (.getfield 180, 3) := by decide +kernel
theorem dX7_reads_29 : decode cX7_reads 29 = .ok (.ifCond .ne 29, 3) := by decide +kernel
theorem dX7_reads_58 : decode cX7_reads 58 = .ok (.iconst 0, 1) := by decide +kernel
theorem dX7_reads_59 : decode cX7_reads 59 = .ok (.istore_n 1, 1) := by decide +kernel
theorem dX7_reads_60 : decode cX7_reads 60 = .ok (.aload_n 0, 1) := by decide +kernel
theorem dX7_reads_61 : decode cX7_reads 61 = .ok (.dup, 1) := by decide +kernel
theorem dX7_reads_62 : decode cX7_reads 62 = .ok (.getfield 184, 3) := by decide +kernel
theorem dX7_reads_65 : decode cX7_reads 65 = .ok (.iload_n 1, 1) := by decide +kernel
theorem dX7_reads_66 : decode cX7_reads 66 = .ok (.ifCond .eq 7, 3) := by decide +kernel
theorem dX7_reads_73 : decode cX7_reads 73 = .ok (.iconst 0, 1) := by decide +kernel
theorem dX7_reads_74 : decode cX7_reads 74 = .ok (.iadd, 1) := by decide +kernel
theorem dX7_reads_75 : decode cX7_reads 75 = .ok (.putfield 184, 3) := by decide +kernel
theorem dX7_reads_78 : decode cX7_reads 78 = .ok (.goto (-61), 3) := by decide +kernel
theorem dX7_reads_32 : decode cX7_reads 32 = .ok (.aload_n 0, 1) := by decide +kernel
theorem dX7_reads_33 : decode cX7_reads 33 = .ok (.getfield 199, 3) := by decide +kernel
theorem dX7_reads_36 : decode cX7_reads 36 = .ok (.bipush 8, 2) := by decide +kernel
theorem dX7_reads_38 : decode cX7_reads 38 = .ok (.if_icmp .ge 20, 3) := by decide +kernel
theorem dX7_reads_41 : decode cX7_reads 41 = .ok (.aload_n 0, 1) := by decide +kernel
theorem dX7_reads_42 : decode cX7_reads 42 = .ok (.aload_n 0, 1) := by decide +kernel
theorem dX7_reads_43 : decode cX7_reads 43 = .ok (.getfield 184, 3) := by decide +kernel
theorem dX7_reads_46 : decode cX7_reads 46 = .ok (.invokevirtual 187, 3) := by decide +kernel
theorem dX7_reads_49 : decode cX7_reads 49 = .ok (.bipush 59, 2) := by decide +kernel
theorem dX7_reads_51 : decode cX7_reads 51 = .ok (.if_icmp .ne 7, 3) := by decide +kernel
theorem dX7_reads_54 : decode cX7_reads 54 = .ok (.iconst 1, 1) := by decide +kernel
theorem dX7_reads_55 : decode cX7_reads 55 = .ok (.goto 4, 3) := by decide +kernel
theorem dX7_reads_69 : decode cX7_reads 69 = .ok (.iconst 1, 1) := by decide +kernel
theorem dX7_reads_70 : decode cX7_reads 70 = .ok (.goto 4, 3) := by decide +kernel
theorem dX7_reads_0 : decode cX7_reads 0 = .ok (.aload_n 0, 1) := by decide +kernel
theorem dX7_reads_1 : decode cX7_reads 1 = .ok (.iconst 0, 1) := by decide +kernel
theorem dX7_reads_2 : decode cX7_reads 2 = .ok (.putfield 184, 3) := by decide +kernel
theorem dX7_reads_5 : decode cX7_reads 5 = .ok (.aload_n 0, 1) := by decide +kernel
theorem dX7_reads_6 : decode cX7_reads 6 = .ok (.iconst 0, 1) := by decide +kernel
theorem dX7_reads_7 : decode cX7_reads 7 = .ok (.putfield 180, 3) := by decide +kernel
theorem dX7_reads_10 : decode cX7_reads 10 = .ok (.aload_n 0, 1) := by decide +kernel
theorem dX7_reads_11 : decode cX7_reads 11 = .ok (.iconst 0, 1) := by decide +kernel
theorem dX7_reads_12 : decode cX7_reads 12 = .ok (.putfield 199, 3) := by decide +kernel
theorem dX7_reads_15 : decode cX7_reads 15 = .ok (.iconst 1, 1) := by decide +kernel
theorem dX7_reads_16 : decode cX7_reads 16 = .ok (.istore_n 1, 1) := by decide +kernel
theorem dX7_takes_12 : decode cX7_takes 12 = .ok (.iload_n 2, 1) := by decide +kernel
theorem dX7_takes_13 : decode cX7_takes 13 = .ok (.aload_n 0, 1) := by decide +kernel
theorem dX7_takes_14 : decode cX7_takes 14 = .ok (.getfield 199, 3) := by decide +kernel
theorem dX7_takes_17 : decode cX7_takes 17 = .ok (.if_icmp .ge 60, 3) := by decide +kernel
theorem dX7_takes_77 : decode cX7_takes 77 = .ok (.aload_n 0, 1) := by decide +kernel
theorem dX7_takes_78 : decode cX7_takes 78 = .ok (.iconst 0, 1) := by decide +kernel
theorem dX7_takes_79 : decode cX7_takes 79 = .ok (.putfield 175, 3) := by decide +kernel
theorem dX7_takes_82 : decode cX7_takes 82 = .ok (.return_, 1) := by decide +kernel
theorem dX7_takes_20 : decode cX7_takes 20 = .ok (.aload_n 0, 1) := by decide +kernel
theorem dX7_takes_21 : decode cX7_takes 21 = .ok (.getfield 13, 3) := by decide +kernel
theorem dX7_takes_24 : decode cX7_takes 24 = .ok (.bipush 8, 2) := by decide +kernel
theorem dX7_takes_26 : decode cX7_takes 26 = .ok (.iload_n 1, 1) := by decide +kernel
theorem dX7_takes_27 : decode cX7_takes 27 = .ok (.imul, 1) := by decide +kernel
theorem dX7_takes_28 : decode cX7_takes 28 = .ok (.iload_n 2, 1) := by decide +kernel
theorem dX7_takes_29 : decode cX7_takes 29 = .ok (.iadd, 1) := by decide +kernel
theorem dX7_takes_30 : decode cX7_takes 30 = .ok (.aload_n 0, 1) := by decide +kernel
theorem dX7_takes_31 : decode cX7_takes 31 = .ok (.getfield 98, 3) := by decide +kernel
theorem dX7_takes_34 : decode cX7_takes 34 = .ok (.iload_n 2, 1) := by decide +kernel
theorem dX7_takes_35 : decode cX7_takes 35 = .ok (.iaload, 1) := by decide +kernel
theorem dX7_takes_36 : decode cX7_takes 36 = .ok (.iastore, 1) := by decide +kernel
theorem dX7_takes_37 : decode cX7_takes 37 = .ok (.aload_n 0, 1) := by decide +kernel
theorem dX7_takes_38 : decode cX7_takes 38 = .ok (.getfield 16, 3) := by decide +kernel
theorem dX7_takes_41 : decode cX7_takes 41 = .ok (.bipush 8, 2) := by decide +kernel
theorem dX7_takes_43 : decode cX7_takes 43 = .ok (.iload_n 1, 1) := by decide +kernel
theorem dX7_takes_44 : decode cX7_takes 44 = .ok (.imul, 1) := by decide +kernel
theorem dX7_takes_45 : decode cX7_takes 45 = .ok (.iload_n 2, 1) := by decide +kernel
theorem dX7_takes_46 : decode cX7_takes 46 = .ok (.iadd, 1) := by decide +kernel
theorem dX7_takes_47 : decode cX7_takes 47 = .ok (.aload_n 0, 1) := by decide +kernel
theorem dX7_takes_48 : decode cX7_takes 48 = .ok (.getfield 101, 3) := by decide +kernel
theorem dX7_takes_51 : decode cX7_takes 51 = .ok (.iload_n 2, 1) := by decide +kernel
theorem dX7_takes_52 : decode cX7_takes 52 = .ok (.iaload, 1) := by decide +kernel
theorem dX7_takes_53 : decode cX7_takes 53 = .ok (.iastore, 1) := by decide +kernel
theorem dX7_takes_54 : decode cX7_takes 54 = .ok (.aload_n 0, 1) := by decide +kernel
theorem dX7_takes_55 : decode cX7_takes 55 = .ok (.getfield 19, 3) := by decide +kernel
theorem dX7_takes_58 : decode cX7_takes 58 = .ok (.bipush 8, 2) := by decide +kernel
theorem dX7_takes_60 : decode cX7_takes 60 = .ok (.iload_n 1, 1) := by decide +kernel
theorem dX7_takes_61 : decode cX7_takes 61 = .ok (.imul, 1) := by decide +kernel
theorem dX7_takes_62 : decode cX7_takes 62 = .ok (.iload_n 2, 1) := by decide +kernel
theorem dX7_takes_63 : decode cX7_takes 63 = .ok (.iadd, 1) := by decide +kernel
theorem dX7_takes_64 : decode cX7_takes 64 = .ok (.aload_n 0, 1) := by decide +kernel
theorem dX7_takes_65 : decode cX7_takes 65 = .ok (.getfield 104, 3) := by decide +kernel
theorem dX7_takes_68 : decode cX7_takes 68 = .ok (.iload_n 2, 1) := by decide +kernel
theorem dX7_takes_69 : decode cX7_takes 69 = .ok (.iaload, 1) := by decide +kernel
theorem dX7_takes_70 : decode cX7_takes 70 = .ok (.iastore, 1) := by decide +kernel
theorem dX7_takes_71 : decode cX7_takes 71 = .ok (.iinc 2 1, 3) := by decide +kernel
theorem dX7_takes_74 : decode cX7_takes 74 = .ok (.goto (-62), 3) := by decide +kernel
theorem dX7_takes_0 : decode cX7_takes 0 = .ok (.aload_n 0, 1) := by decide +kernel
theorem dX7_takes_1 : decode cX7_takes 1 = .ok (.getfield 7, 3) := by decide +kernel
theorem dX7_takes_4 : decode cX7_takes 4 = .ok (.iload_n 1, 1) := by decide +kernel
theorem dX7_takes_5 : decode cX7_takes 5 = .ok (.aload_n 0, 1) := by decide +kernel
theorem dX7_takes_6 : decode cX7_takes 6 = .ok (.getfield 199, 3) := by decide +kernel
theorem dX7_takes_9 : decode cX7_takes 9 = .ok (.iastore, 1) := by decide +kernel
theorem dX7_takes_10 : decode cX7_takes 10 = .ok (.iconst 0, 1) := by decide +kernel
theorem dX7_takes_11 : decode cX7_takes 11 = .ok (.istore_n 2, 1) := by decide +kernel
/-! what the model's arrays say of one another -/
theorem i_nt {x y : Int32} (h : x.toInt = y.toInt) : x.toNatClampNeg = y.toNatClampNeg := congrArg Int.toNat h
theorem i_inj {x y : Int32} (h : x.toInt = y.toInt) : x = y := Int32.toInt_inj.mp h
def PL (n : Nat) (g : GS) (na pa : Nat) : Prop := ∀ i, i < n → (g.2.2.2.1 pa i).toInt ≤ 3 ∨ (g.2.2.2.1 na i).toInt = 5
theorem PL.tC {n : Nat} {g : GS} {na pa a j : Nat} {v : Int32} (h : PL n g na pa) (n1 : na ≠ a) (n2 : pa ≠ a) : PL n (sC g a j v) na pa := fun i hi => by
  show (if pa = a ∧ i = j then v else g.2.2.2.1 pa i).toInt ≤ 3 ∨ (if na = a ∧ i = j then v else g.2.2.2.1 na i).toInt = 5
  rw [if_neg (fun q => n2 q.1), if_neg (fun q => n1 q.1)]
  exact h i hi
theorem PL.sm {n : Nat} {md : Nat → Nat → Bool} {g g' : GS} {na pa r1 r2 : Nat} (h : PL n g na pa) (m : Sm md g g') (e1 : g.1 na = r1) (z1 : r1 ≠ 0) (q1 : md r1 99 = false) (e2 : g.1 pa = r2) (z2 : r2 ≠ 0) (q2 : md r2 99 = false) : PL n g' na pa := fun i hi => by
  rw [(m.2 na (by rw [e1]; exact z1) (by rw [e1]; exact q1)).1, (m.2 pa (by rw [e2]; exact z2) (by rw [e2]; exact q2)).1]
  exact h i hi
theorem PL.st {n : Nat} {g : GS} {na pa i j : Nat} {w c : Int32} (h : PL n g na pa) (ne : na ≠ pa) (e : j = i) (hc : c.toInt ≤ 3 ∨ w.toInt = 5) : PL n (sC (sC g na i w) pa j c) na pa := fun x hx => by
  subst e
  show (if pa = pa ∧ x = j then c else (if pa = na ∧ x = j then w else g.2.2.2.1 pa x)).toInt ≤ 3 ∨ (if na = pa ∧ x = j then c else (if na = na ∧ x = j then w else g.2.2.2.1 na x)).toInt = 5
  by_cases hj : x = j
  · rw [if_pos ⟨rfl, hj⟩, if_neg (fun q => ne q.1), if_pos ⟨rfl, hj⟩]
    exact hc
  · rw [if_neg (fun q => hj q.2), if_neg (fun q => hj q.2), if_neg (fun q => hj q.2), if_neg (fun q => hj q.2)]
    exact h x hx
theorem PLu {x y u w : Int32} (h : x.toInt ≤ 3 ∨ y.toInt = 5) (e1 : x = u) (e2 : y = w) : u.toInt ≤ 3 ∨ w.toInt = 5 := by
  subst e1
  subst e2
  exact h
def PX (n j k r1 r2 : Nat) (g : GS) (h : Nat) : Prop := ∃ wa pa : Nat, g.2.1 h j = .ref wa ∧ g.2.1 h k = .ref pa ∧ g.1 wa = r1 ∧ g.1 pa = r2 ∧ g.2.2.1 wa = n ∧ g.2.2.1 pa = n ∧ PL n g wa pa
theorem PX.mono {n j k r1 r2 h : Nat} {md : Nat → Nat → Bool} {g g' : GS} (w : PX n j k r1 r2 g h) (m : Sm md g g') (x : Ex g g') (rh : g.1 h = 8) (z1 : r1 ≠ 0) (z2 : r2 ≠ 0) (q1 : md r1 99 = false) (q2 : md r2 99 = false) (q3 : md 8 j = false) (q4 : md 8 k = false) : PX n j k r1 r2 g' h := by
  obtain ⟨wa, pa, e1, e2, e3, e4, e5, e6, e7⟩ := w
  exact ⟨wa, pa, m.v rh (by decide) q3 e1, m.v rh (by decide) q4 e2, x.r e3 z1, x.r e4 z2, x.n e3 z1 e5, x.n e4 z2 e6, e7.sm m e3 z1 q1 e4 z2 q2⟩
theorem PX.use {n j k r1 r2 h wa pa : Nat} {g : GS} (w : PX n j k r1 r2 g h) (e1 : g.2.1 h j = .ref wa) (e2 : g.2.1 h k = .ref pa) : PL n g wa pa := by
  obtain ⟨wa', pa', f1, f2, -, -, -, -, e7⟩ := w
  have h1 : wa' = wa := Value.ref.inj (f1.symm.trans e1)
  have h2 : pa' = pa := Value.ref.inj (f2.symm.trans e2)
  subst h1
  subst h2
  exact e7
def DP (g : GS) (fa : Nat) (d : Int) : Prop := ∀ i : Nat, (i : Int) < d → (i : Int) ≤ (g.2.2.2.1 fa i).toInt
theorem DP.tC {g : GS} {fa a j : Nat} {d : Int} {v : Int32} (h : DP g fa d) (n : fa ≠ a) : DP (sC g a j v) fa d := fun i hi => by
  show (i : Int) ≤ (if fa = a ∧ i = j then v else g.2.2.2.1 fa i).toInt
  rw [if_neg (fun q => n q.1)]
  exact h i hi
theorem DP.sm {md : Nat → Nat → Bool} {g g' : GS} {fa ro : Nat} {d : Int} (h : DP g fa d) (m : Sm md g g') (r : g.1 fa = ro) (z : ro ≠ 0) (q : md ro 99 = false) : DP g' fa d := fun i hi => by
  rw [(m.2 fa (by rw [r]; exact z) (by rw [r]; exact q)).1]
  exact h i hi
theorem DP.ext {g : GS} {fa : Nat} {d v : Int32} (h : DP g fa d.toInt) (h0 : 0 ≤ d.toInt) (hv : d.toInt ≤ v.toInt) : DP (sC g fa d.toNatClampNeg v) fa (d.toInt + 1) := fun i hi => by
  show (i : Int) ≤ (if fa = fa ∧ i = d.toNatClampNeg then v else g.2.2.2.1 fa i).toInt
  have e : (d.toNatClampNeg : Int) = d.toInt := Int.toNat_of_nonneg h0
  by_cases hj : i = d.toNatClampNeg
  · rw [if_pos ⟨rfl, hj⟩, hj]
    omega
  · rw [if_neg (fun q => hj q.2)]
    exact h i (by omega)
theorem DP.cast {g : GS} {fa : Nat} {d d' : Int} (h : DP g fa d) (e : d' ≤ d) : DP g fa d' := fun i hi => h i (by omega)
theorem DP.at {g : GS} {fa : Nat} {d : Int} {f x : Int32} (h : DP g fa d) (h0 : 0 ≤ f.toInt) (hf : f.toInt < d) (e : g.2.2.2.1 fa f.toNatClampNeg = x) : f.toInt ≤ x.toInt := by
  have e0 : (f.toNatClampNeg : Int) = f.toInt := Int.toNat_of_nonneg h0
  have := h f.toNatClampNeg (by omega)
  rw [e] at this
  omega
theorem DP.zero {g : GS} {fa : Nat} : DP g fa 0 := fun i hi => by omega

abbrev md_m_in : Nat → Nat → Bool := mdf []
set_option maxHeartbeats 4000000 in
set_option maxRecDepth 100000 in
theorem m_in (l : Launch) (D : va_G) (cI cZ cS cR : ClassId) (N0 : NT) (g : GS) (hI : Inv g) (n : Int32) (k : Int32) (j : Int32)  : Ty l D cI cZ cS cR N0 yX7_in cX7_in 3 (some .boolean) 0 0 0 [.int n, .int k, .int j] g (fun v g' => ∃ (r : Int32), v = some (.int r) ∧ g' = g ∧ ((r = 1 ∧ k.toInt ≤ n.toInt ∧ n.toInt ≤ j.toInt) ∨ (r = 0 ∧ (n.toInt < k.toInt ∨ j.toInt < n.toInt)))) := by
  refine t_enter (by decide) (Nat.le_of_ble_eq_true rfl) ?_
  intro p e s m args below meth c ls H locs hB hr hin hl hT
  have hx := hB.1
  have hb := hB.2.1
  have hl : lv_has ls 3 [(0, .int n), (1, .int k), (2, .int j)] := hl
  have hE : Ex g g := Ex.rf
  have hM : Sm md_m_in g g := Sm.rf
  refine lv_iload_n hx hb dX7_in_0 rfl (lv_at hl 0 rfl) ?_
  refine lv_iload_n hx hb dX7_in_1 rfl (lv_at hl 1 rfl) ?_
  refine lv_icmp_lt (tgt := 14) hx hb dX7_in_2 (by decide) (fun c_1 => ?_) (fun c_1 => ?_)
  · have c_1' : n.toInt < k.toInt := i_lt c_1 rfl rfl
    refine lv_iconst (v := 0) hx hb dX7_in_14 (by decide) ?_
    exact t_zret hB hr rfl hT (Nat.le_of_ble_eq_true rfl) (Nat.le_of_ble_eq_true rfl) dX7_in_15 ⟨0, rfl, rfl, (Or.inr ⟨rfl, by omega⟩)⟩
  · have c_1' : k.toInt ≤ n.toInt := i_nlt c_1 rfl rfl
    refine lv_iload_n hx hb dX7_in_5 rfl (lv_at hl 0 rfl) ?_
    refine lv_iload_n hx hb dX7_in_6 rfl (lv_at hl 2 rfl) ?_
    refine lv_icmp_gt (tgt := 14) hx hb dX7_in_7 (by decide) (fun c_2 => ?_) (fun c_2 => ?_)
    · have c_2' : j.toInt < n.toInt := i_lt c_2 rfl rfl
      refine lv_iconst (v := 0) hx hb dX7_in_14 (by decide) ?_
      exact t_zret hB hr rfl hT (Nat.le_of_ble_eq_true rfl) (Nat.le_of_ble_eq_true rfl) dX7_in_15 ⟨0, rfl, rfl, (Or.inr ⟨rfl, by omega⟩)⟩
    · have c_2' : n.toInt ≤ j.toInt := i_nlt c_2 rfl rfl
      refine lv_iconst (v := 1) hx hb dX7_in_10 (by decide) ?_
      refine lv_goto (tgt := 15) hx hb dX7_in_11 (by decide) ?_
      exact t_zret hB hr rfl hT (Nat.le_of_ble_eq_true rfl) (Nat.le_of_ble_eq_true rfl) dX7_in_15 ⟨1, rfl, rfl, (Or.inl ⟨rfl, by omega, by omega⟩)⟩
abbrev md_m_isService : Nat → Nat → Bool := mdf []
set_option maxHeartbeats 4000000 in
set_option maxRecDepth 100000 in
theorem m_isService (l : Launch) (D : va_G) (cI cZ cS cR : ClassId) (N0 : NT) (g : GS) (hI : Inv g) (h : Nat) (n : Int32) (r_h : g.1 h = 8) : Ty l D cI cZ cS cR N0 yX7_isService cX7_isService 2 (some .boolean) 1 0 0 [.ref h, .int n] g (fun v g' => ∃ (r : Int32), v = some (.int r) ∧ g' = g ∧ ((r = 1 ∧ 0 ≤ n.toInt ∧ n.toInt ≤ 5) ∨ r = 0)) := by
  refine t_enter (by decide) (Nat.le_of_ble_eq_true rfl) ?_
  intro p e s m args below meth c ls H locs hB hr hin hl hT
  have hx := hB.1
  have hb := hB.2.1
  have hl : lv_has ls 2 [(0, .ref h), (1, .int n)] := hl
  have hE : Ex g g := Ex.rf
  have hM : Sm md_m_isService g g := Sm.rf
  refine lv_iload_n hx hb dX7_isService_0 rfl (lv_at hl 1 rfl) ?_
  refine lv_iconst (v := 0) hx hb dX7_isService_1 (by decide) ?_
  refine lv_aload_n hx hb dX7_isService_2 rfl (lv_at hl 0 rfl) ?_
  obtain ⟨v_1, e_v_1, l_v_1, u_v_1⟩ := f_8_0 hI r_h
  refine t_get (ci := 7) (v := .int v_1) hB hT (ro_ci r_h rfl) rfl 0 (by decide) k_745 e_v_1 dX7_isService_3 ?_
  refine lv_iconst (v := 1) hx hb dX7_isService_6 (by decide) ?_
  refine lv_isub hx hb dX7_isService_7 ?_
  refine lv_topi (fun z_2 ez_2 => ?_)
  have e_z_2 : z_2.toInt = v_1.toInt - 1 := i_sub ez_2 rfl (by decide) (by omega) (by omega)
  refine t_callS (n := 3) (As := [.int n, .int 0, .int z_2]) (rest := []) hB hT hl.1 (m_in l D cI cZ cS cR N0 g hI n 0 z_2 ) k_954 k_65 k_952 k_953 (by decide +kernel) ⟨(Nat.le_of_ble_eq_true rfl), (Nat.le_of_ble_eq_true rfl)⟩ rfl (Nat.le_of_ble_eq_true rfl) ⟨(Nat.le_of_ble_eq_true rfl), (Nat.le_of_ble_eq_true rfl)⟩ dX7_isService_8 (fun v g_3 H locs hp hT => ?_)
  obtain ⟨r_4, rfl, eg, f_5⟩ := hp
  rw [eg] at hT
  clear eg
  refine W.eq (g2 := F0 m 11 ls [.int r_4]) rfl ?_
  have qc_8 : (0 : Int32).toInt = 0 := (by decide)
  rcases f_5 with ⟨rfl, hw_9, hw_10⟩ | ⟨rfl, hw_11⟩
  · refine W.eq (g2 := F0 m 11 ls [.int 1]) rfl ?_
    exact t_zret hB hr rfl hT (Nat.le_of_ble_eq_true rfl) (Nat.le_of_ble_eq_true rfl) dX7_isService_11 ⟨1, rfl, rfl, (Or.inl ⟨rfl, by omega, by omega⟩)⟩
  · refine W.eq (g2 := F0 m 11 ls [.int 0]) rfl ?_
    exact t_zret hB hr rfl hT (Nat.le_of_ble_eq_true rfl) (Nat.le_of_ble_eq_true rfl) dX7_isService_11 ⟨0, rfl, rfl, (Or.inr rfl)⟩
abbrev md_m_has : Nat → Nat → Bool := mdf []
set_option maxHeartbeats 4000000 in
set_option maxRecDepth 100000 in
theorem m_has (l : Launch) (D : va_G) (cI cZ cS cR : ClassId) (N0 : NT) (g : GS) (hI : Inv g) (h : Nat) (n : Int32) (k : Int32) (r_h : g.1 h = 8) (l_n : 0 ≤ n.toInt) (u_n : n.toInt ≤ 5) : Ty l D cI cZ cS cR N0 yX7_has cX7_has 3 (some .boolean) 0 0 0 [.ref h, .int n, .int k] g (fun v g' => ∃ (r : Int32), v = some (.int r) ∧ g' = g ∧ (r = 1 ∨ r = 0)) := by
  refine t_enter (by decide) (Nat.le_of_ble_eq_true rfl) ?_
  intro p e s m args below meth c ls H locs hB hr hin hl hT
  have hx := hB.1
  have hb := hB.2.1
  have hl : lv_has ls 3 [(0, .ref h), (1, .int n), (2, .int k)] := hl
  have hE : Ex g g := Ex.rf
  have hM : Sm md_m_has g g := Sm.rf
  refine lv_aload_n hx hb dX7_has_0 rfl (lv_at hl 0 rfl) ?_
  obtain ⟨v_1, e_v_1, r_v_1, n_v_1⟩ := f_8_5 hI r_h
  refine t_get (ci := 7) (v := .ref v_1) hB hT (ro_ci r_h rfl) rfl 5 (by decide) k_750 e_v_1 dX7_has_1 ?_
  refine lv_iload_n hx hb dX7_has_4 rfl (lv_at hl 1 rfl) ?_
  have i_u_2 : vp_in n 6 := (i_in (n := 6) rfl (by omega) (by omega))
  refine t_iald hB hT (ro_in r_v_1 (by decide)) n_v_1 i_u_2 rfl dX7_has_5 ?_
  refine lv_topi (fun u_2 e_u_2 => ?_)
  refine lv_iload_n hx hb dX7_has_6 rfl (lv_at hl 2 rfl) ?_
  refine lv_ishr hx hb dX7_has_7 ?_
  refine lv_topi (fun z_3 ez_3 => ?_)
  refine lv_iconst (v := 1) hx hb dX7_has_8 (by decide) ?_
  refine lv_iand hx hb dX7_has_9 ?_
  refine lv_topi (fun z_4 ez_4 => ?_)
  have e_z_4 := i_and 1 (b := 1) ez_4 (by decide) (by decide) (by decide)
  refine lv_iconst (v := 1) hx hb dX7_has_10 (by decide) ?_
  refine lv_icmp_ne (tgt := 18) hx hb dX7_has_11 (by decide) (fun c_5 => ?_) (fun c_5 => ?_)
  · have c_5' : z_4.toInt ≠ 1 := i_ne c_5 rfl (by decide)
    refine lv_iconst (v := 0) hx hb dX7_has_18 (by decide) ?_
    exact t_zret hB hr rfl hT (Nat.le_of_ble_eq_true rfl) (Nat.le_of_ble_eq_true rfl) dX7_has_19 ⟨0, rfl, rfl, (Or.inr rfl)⟩
  · have c_5' : z_4.toInt = 1 := i_eq c_5 rfl (by decide)
    refine lv_iconst (v := 1) hx hb dX7_has_14 (by decide) ?_
    refine lv_goto (tgt := 19) hx hb dX7_has_15 (by decide) ?_
    exact t_zret hB hr rfl hT (Nat.le_of_ble_eq_true rfl) (Nat.le_of_ble_eq_true rfl) dX7_has_19 ⟨1, rfl, rfl, (Or.inl rfl)⟩
abbrev md_m_feed : Nat → Nat → Bool := mdf [(8, 29), (79, 99)]
set_option maxHeartbeats 4000000 in
set_option maxRecDepth 100000 in
theorem lt_m_feed_a (l : Launch) (D : va_G) (cI cZ cS cR : ClassId) (N0 : NT) (g : GS) (h : Nat) (w : Int64) (n : Int32) (r_h : g.1 h = 8) {p : Program} {e : Env} {s : State} {m : MethodId} {args : Array Value} {below : List Frame} {meth : Method} {c : Code} (hB : Tz p s m meth c args cX7_feed 5 RX7 D cI cZ cS cR N0) (hr : meth.sig.returnType = (some .int))    : ∀ (kf : Nat) (g1 : GS) (i : Int32) (tp : Int32)  (H : Heap) (locs : List Loc) (ls : Array Slot), Tv D cI cZ cS cR N0 s.heap H locs g1 → Inv g1 → Ex g g1 → Sm md_m_feed g g1 → (-1) ≤ i.toInt → i.toInt ≤ 7 → 0 ≤ tp.toInt → tp.toInt ≤ 100 → g1.2.1 h 29 = .int tp → (i.toInt + 1 ≤ kf ∧ tp.toInt + i.toInt + 1 ≤ 100) → lv_has ls 5 [(4, .int i), (0, .ref h), (1, .long w), (3, .int n)] → W p l e (rmx 1 0 0) s m args below meth c H locs 0 0 (MQ below (tQ D cI cZ cS cR N0 (fun v g' => ∃ (r : Int32), v = some (.int r) ∧ Inv g' ∧ Ex g g' ∧ Sm md_m_feed g g')) args s 0 0 (fun q => N0.1 ≤ q)) (F0 m 32 ls []) := by
  have hx := hB.1
  have hb := hB.2.1
  intro kf
  induction kf using Nat.strongRecOn with
  | ind kf ih =>
    intro g1 i tp H locs ls hT hI hE hM l_i u_i l_tp u_tp kp0 hk hl
    have r_1 : g1.1 h = 8 := Ex.r hE r_h (by decide)
    refine lv_iload hx hb dX7_feed_32 (lv_at hl 0 rfl) ?_
    refine lv_if_lt (tgt := 74) hx hb dX7_feed_34 (by decide) (fun c_2 => ?_) (fun c_2 => ?_)
    · have c_2' : i.toInt < 0 := i_lt c_2 rfl (by decide)
      refine lv_aload_n hx hb dX7_feed_74 rfl (lv_at hl 1 rfl) ?_
      refine t_get (ci := 7) (v := .int tp) hB hT (ro_ci r_1 rfl) rfl 29 (by decide) k_774 kp0 dX7_feed_75 ?_
      exact t_iret hB hr hT (Nat.le_of_ble_eq_true rfl) (Nat.le_of_ble_eq_true rfl) dX7_feed_78 ⟨tp, rfl, hI, hE, hM⟩
    · have c_2' : 0 ≤ i.toInt := i_nlt c_2 rfl (by decide)
      refine lv_aload_n hx hb dX7_feed_37 rfl (lv_at hl 1 rfl) ?_
      obtain ⟨v_3, e_v_3, r_v_3, n_v_3⟩ := f_8_28 hI r_1
      refine t_get (ci := 7) (v := .ref v_3) hB hT (ro_ci r_1 rfl) rfl 28 (by decide) k_773 e_v_3 dX7_feed_38 ?_
      refine lv_aload_n hx hb dX7_feed_41 rfl (lv_at hl 1 rfl) ?_
      refine t_get (ci := 7) (v := .int tp) hB hT (ro_ci r_1 rfl) rfl 29 (by decide) k_774 kp0 dX7_feed_42 ?_
      refine lv_lload_n hx hb dX7_feed_45 rfl (lv_at hl 2 rfl) ?_
      refine lv_bipush (v := 8) hx hb dX7_feed_46 (by decide) ?_
      refine lv_iload hx hb dX7_feed_48 (lv_at hl 0 rfl) ?_
      refine lv_imul hx hb dX7_feed_50 ?_
      refine lv_topi (fun z_4 ez_4 => ?_)
      have e_z_4 : z_4.toInt = 8 * i.toInt := i_mul ez_4 (by decide) rfl (by omega) (by omega)
      refine lv_lshr hx hb dX7_feed_51 rfl ?_
      refine lv_topl (fun z_5 ez_5 => ?_)
      refine lv_ldc2 (v := 255) hx hb hB.2.2.2.1 (hB.2.2.2.2.1 _ k_955) dX7_feed_52 ?_
      refine lv_land hx hb dX7_feed_55 ?_
      refine lv_topl (fun z_6 ez_6 => ?_)
      refine lv_l2i hx hb dX7_feed_56 rfl ?_
      refine lv_topi (fun z_7 ez_7 => ?_)
      have i_8 : vp_in tp 100 := (i_in (n := 100) rfl (by omega) (by omega))
      refine t_iast hB hT (ro_in r_v_3 (by decide)) n_v_3 i_8 dX7_feed_57 (fun H locs hT => ?_)
      have hI : Inv (sC g1 v_3 tp.toNatClampNeg z_7) := hI.sC (ck r_v_3 trivial)
      have hM : Sm md_m_feed g (sC g1 v_3 tp.toNatClampNeg z_7) := hM.tr hE (Sm_sC (by rw [r_v_3]; rfl))
      have hE : Ex g (sC g1 v_3 tp.toNatClampNeg z_7) := hE
      refine lv_aload_n hx hb dX7_feed_58 rfl (lv_at hl 1 rfl) ?_
      refine lv_dup hx hb dX7_feed_59 rfl ?_
      refine t_get (ci := 7) (v := .int tp) hB hT (ro_ci r_1 rfl) rfl 29 (by decide) k_774 kp0 dX7_feed_60 ?_
      refine lv_iconst (v := 1) hx hb dX7_feed_63 (by decide) ?_
      refine lv_iadd hx hb dX7_feed_64 ?_
      refine lv_topi (fun z_9 ez_9 => ?_)
      have e_z_9 : z_9.toInt = tp.toInt + 1 := i_add ez_9 rfl (by decide) (by omega) (by omega)
      refine t_put0 (ci := 7) (v := .int z_9) hB hT (ro_ci r_1 rfl) (ro_n0 r_1 (by decide)) rfl 29 (by decide) k_774 (Or.inl rfl) rfl rfl dX7_feed_65 (fun H locs hT => ?_)
      have hI : Inv (sF (sC g1 v_3 tp.toNatClampNeg z_7) h 29 (.int z_9)) := hI.sF (p_8_29 r_1 (⟨_, rfl, by omega, by omega⟩))
      have hM : Sm md_m_feed g (sF (sC g1 v_3 tp.toNatClampNeg z_7) h 29 (.int z_9)) := hM.tr hE (Sm_sF (by rw [r_1]; rfl))
      have hE : Ex g (sF (sC g1 v_3 tp.toNatClampNeg z_7) h 29 (.int z_9)) := hE
      obtain ⟨z_10, ez_10⟩ : ∃ z : Int32, z = i + (-1) := ⟨_, rfl⟩
      have e_z_10 : z_10.toInt = i.toInt + (-1) := i_add ez_10 rfl (by decide) (by omega) (by omega)
      refine lv_iinc (v := z_10) (lv' := [(4, .int z_10), (0, .ref h), (1, .long w), (3, .int n)]) hx hb dX7_feed_68 hl (k := 0) rfl (by rw [ez_10]; rfl) (by decide) rfl (fun ls hl => ?_)
      refine lv_goto (tgt := 32) hx hb dX7_feed_71 (by decide) ?_
      exact ih (kf - 1) (by omega) (sF (sC g1 v_3 tp.toNatClampNeg z_7) h 29 (.int z_9)) z_10 z_9 H locs ls hT hI hE hM (by omega) (by omega) (by omega) (by omega) sF_eq (by have e0_ : (0 : Int32).toInt = 0 := (by decide); omega) (lv_sub hl [0, 1, 2, 3] rfl)
set_option maxHeartbeats 4000000 in
set_option maxRecDepth 100000 in
theorem m_feed (l : Launch) (D : va_G) (cI cZ cS cR : ClassId) (N0 : NT) (g : GS) (hI : Inv g) (h : Nat) (w : Int64) (n : Int32) (r_h : g.1 h = 8) : Ty l D cI cZ cS cR N0 yX7_feed cX7_feed 5 (some .int) 1 0 0 [.ref h, .long w, .int n] g (fun v g' => ∃ (r : Int32), v = some (.int r) ∧ Inv g' ∧ Ex g g' ∧ Sm md_m_feed g g') := by
  refine t_enter (by decide) (Nat.le_of_ble_eq_true rfl) ?_
  intro p e s m args below meth c ls H locs hB hr hin hl hT
  have hx := hB.1
  have hb := hB.2.1
  have hl : lv_has ls 5 [(0, .ref h), (1, .long w), (3, .int n)] := hl
  have hE : Ex g g := Ex.rf
  have hM : Sm md_m_feed g g := Sm.rf
  refine lv_iload_n hx hb dX7_feed_0 rfl (lv_at hl 2 rfl) ?_
  refine lv_iconst (v := 1) hx hb dX7_feed_1 (by decide) ?_
  refine lv_bipush (v := 8) hx hb dX7_feed_2 (by decide) ?_
  refine t_callS (n := 3) (As := [.int n, .int 1, .int 8]) (rest := []) hB hT hl.1 (m_in l D cI cZ cS cR N0 g hI n 1 8 ) k_954 k_65 k_952 k_953 (by decide +kernel) ⟨(Nat.le_of_ble_eq_true rfl), (Nat.le_of_ble_eq_true rfl)⟩ rfl (Nat.le_of_ble_eq_true rfl) ⟨(Nat.le_of_ble_eq_true rfl), (Nat.le_of_ble_eq_true rfl)⟩ dX7_feed_4 (fun v g_1 H locs hp hT => ?_)
  obtain ⟨r_2, rfl, eg, f_3⟩ := hp
  rw [eg] at hT
  clear eg
  refine W.eq (g2 := F0 m 7 ls [.int r_2]) rfl ?_
  have qc_6 : (1 : Int32).toInt = 1 := (by decide)
  have qc_7 : (8 : Int32).toInt = 8 := (by decide)
  rcases f_3 with ⟨rfl, hw_8, hw_9⟩ | ⟨rfl, hw_10⟩
  · refine W.eq (g2 := F0 m 7 ls [.int 1]) rfl ?_
    refine lv_if_ne (tgt := 13) hx hb dX7_feed_7 (by decide) (fun c_ => ?_) (fun c_ => absurd c_ (by decide))
    refine lv_aload_n hx hb dX7_feed_13 rfl (lv_at hl 0 rfl) ?_
    obtain ⟨v_11, e_v_11, l_v_11, u_v_11⟩ := f_8_29 hI r_h
    refine t_get (ci := 7) (v := .int v_11) hB hT (ro_ci r_h rfl) rfl 29 (by decide) k_774 e_v_11 dX7_feed_14 ?_
    refine lv_iload_n hx hb dX7_feed_17 rfl (lv_at hl 2 rfl) ?_
    refine lv_iadd hx hb dX7_feed_18 ?_
    refine lv_topi (fun z_12 ez_12 => ?_)
    have e_z_12 : z_12.toInt = v_11.toInt + n.toInt := i_add ez_12 rfl rfl (by omega) (by omega)
    refine lv_bipush (v := 100) hx hb dX7_feed_19 (by decide) ?_
    refine lv_icmp_le (tgt := 27) hx hb dX7_feed_21 (by decide) (fun c_13 => ?_) (fun c_13 => ?_)
    · have c_13' : z_12.toInt ≤ 100 := i_le c_13 rfl (by decide)
      refine lv_iload_n hx hb dX7_feed_27 rfl (lv_at hl 2 rfl) ?_
      refine lv_iconst (v := 1) hx hb dX7_feed_28 (by decide) ?_
      refine lv_isub hx hb dX7_feed_29 ?_
      refine lv_topi (fun z_14 ez_14 => ?_)
      have e_z_14 : z_14.toInt = n.toInt - 1 := i_sub ez_14 rfl (by decide) (by omega) (by omega)
      refine lv_istore (lv' := [(4, .int z_14), (0, .ref h), (1, .long w), (3, .int n)]) hx hb dX7_feed_30 hl (by decide) rfl (fun ls hl => ?_)
      exact lt_m_feed_a l D cI cZ cS cR N0 g h w n r_h hB hr   8 g z_14 v_11 H locs ls hT hI hE hM (by omega) (by omega) (by omega) (by omega) e_v_11 (by have e0_ : (0 : Int32).toInt = 0 := (by decide); omega) (lv_sub hl [0, 1, 2, 3] rfl)
    · have c_13' : 100 < z_12.toInt := i_nle c_13 rfl (by decide)
      refine lv_bipush (v := (-4)) hx hb dX7_feed_24 (by decide) ?_
      exact t_iret hB hr hT (Nat.le_of_ble_eq_true rfl) (Nat.le_of_ble_eq_true rfl) dX7_feed_26 ⟨(-4), rfl, hI, hE, hM⟩
  · refine W.eq (g2 := F0 m 7 ls [.int 0]) rfl ?_
    refine lv_if_ne (tgt := 13) hx hb dX7_feed_7 (by decide) (fun c_ => absurd (by decide) c_) (fun c_ => ?_)
    refine lv_bipush (v := (-2)) hx hb dX7_feed_10 (by decide) ?_
    exact t_iret hB hr hT (Nat.le_of_ble_eq_true rfl) (Nat.le_of_ble_eq_true rfl) dX7_feed_12 ⟨(-2), rfl, hI, hE, hM⟩
abbrev md_m_byteAt : Nat → Nat → Bool := mdf []
set_option maxHeartbeats 4000000 in
set_option maxRecDepth 100000 in
theorem m_byteAt (l : Launch) (D : va_G) (cI cZ cS cR : ClassId) (N0 : NT) (g : GS) (hI : Inv g) (h : Nat) (n : Int32) (z : Int32) (t : Nat) (r_h : g.1 h = 8) (r_t : g.1 t = 79) (n_t : g.2.2.1 t = 100) (kz : g.2.1 h 29 = .int z) (kt : g.2.1 h 28 = .ref t) (l_n : 0 ≤ n.toInt) (u_n : n.toInt ≤ 101) (l_z : 0 ≤ z.toInt) (u_z : z.toInt ≤ 100) : Ty l D cI cZ cS cR N0 yX7_byteAt cX7_byteAt 2 (some .int) 0 0 0 [.ref h, .int n] g (fun v g' => ∃ (r : Int32), v = some (.int r) ∧ g' = g ∧ (r = if n.toInt < z.toInt then g.2.2.2.1 t n.toNatClampNeg else -1) ∧ (r.toInt = -1 ∨ n.toInt < z.toInt)) := by
  refine t_enter (by decide) (Nat.le_of_ble_eq_true rfl) ?_
  intro p e s m args below meth c ls H locs hB hr hin hl hT
  have hx := hB.1
  have hb := hB.2.1
  have hl : lv_has ls 2 [(0, .ref h), (1, .int n)] := hl
  have hE : Ex g g := Ex.rf
  have hM : Sm md_m_byteAt g g := Sm.rf
  refine lv_iload_n hx hb dX7_byteAt_0 rfl (lv_at hl 1 rfl) ?_
  refine lv_aload_n hx hb dX7_byteAt_1 rfl (lv_at hl 0 rfl) ?_
  refine t_get (ci := 7) (v := .int z) hB hT (ro_ci r_h rfl) rfl 29 (by decide) k_774 kz dX7_byteAt_2 ?_
  refine lv_icmp_ge (tgt := 17) hx hb dX7_byteAt_5 (by decide) (fun c_1 => ?_) (fun c_1 => ?_)
  · have c_1' : z.toInt ≤ n.toInt := i_le c_1 rfl rfl
    refine lv_iconst (v := (-1)) hx hb dX7_byteAt_17 (by decide) ?_
    exact t_iret hB hr hT (Nat.le_of_ble_eq_true rfl) (Nat.le_of_ble_eq_true rfl) dX7_byteAt_18 ⟨(-1), rfl, rfl, (by first | (rw [if_pos (by omega)]; assumption) | rw [if_neg (by omega)]), (by first | (exact Or.inl (by decide)) | (exact Or.inr (by omega)))⟩
  · have c_1' : n.toInt < z.toInt := i_nle c_1 rfl rfl
    refine lv_aload_n hx hb dX7_byteAt_8 rfl (lv_at hl 0 rfl) ?_
    refine t_get (ci := 7) (v := .ref t) hB hT (ro_ci r_h rfl) rfl 28 (by decide) k_773 kt dX7_byteAt_9 ?_
    refine lv_iload_n hx hb dX7_byteAt_12 rfl (lv_at hl 1 rfl) ?_
    have i_u_2 : vp_in n 100 := (i_in (n := 100) rfl (by omega) (by omega))
    refine t_iald hB hT (ro_in r_t (by decide)) n_t i_u_2 rfl dX7_byteAt_13 ?_
    refine lv_topi (fun u_2 e_u_2 => ?_)
    refine lv_goto (tgt := 18) hx hb dX7_byteAt_14 (by decide) ?_
    exact t_iret hB hr hT (Nat.le_of_ble_eq_true rfl) (Nat.le_of_ble_eq_true rfl) dX7_byteAt_18 ⟨u_2, rfl, rfl, (by first | (rw [if_pos (by omega)]; assumption) | rw [if_neg (by omega)]), (by first | (exact Or.inl (by decide)) | (exact Or.inr (by omega)))⟩
abbrev md_m_must : Nat → Nat → Bool := mdf [(8, 36), (8, 37)]
set_option maxHeartbeats 4000000 in
set_option maxRecDepth 100000 in
theorem m_must (l : Launch) (D : va_G) (cI cZ cS cR : ClassId) (N0 : NT) (g : GS) (hI : Inv g) (h : Nat) (n : Int32) (r_h : g.1 h = 8) (l_n : 0 ≤ n.toInt) : Ty l D cI cZ cS cR N0 yX7_must cX7_must 2 none 1 0 0 [.ref h, .int n] g (fun v g' => v = none ∧ Inv g' ∧ Ex g g' ∧ Sm md_m_must g g') := by
  refine t_enter (by decide) (Nat.le_of_ble_eq_true rfl) ?_
  intro p e s m args below meth c ls H locs hB hr hin hl hT
  have hx := hB.1
  have hb := hB.2.1
  have hl : lv_has ls 2 [(0, .ref h), (1, .int n)] := hl
  have hE : Ex g g := Ex.rf
  have hM : Sm md_m_must g g := Sm.rf
  refine lv_aload_n hx hb dX7_must_0 rfl (lv_at hl 0 rfl) ?_
  refine lv_aload_n hx hb dX7_must_1 rfl (lv_at hl 0 rfl) ?_
  obtain ⟨v_1, e_v_1, l_v_1, u_v_1⟩ := f_8_37 hI r_h
  refine t_get (ci := 7) (v := .int v_1) hB hT (ro_ci r_h rfl) rfl 37 (by decide) k_782 e_v_1 dX7_must_2 ?_
  refine lv_if_ne (tgt := 20) hx hb dX7_must_5 (by decide) (fun c_2 => ?_) (fun c_2 => ?_)
  · have c_2' : v_1.toInt ≠ 0 := i_ne c_2 rfl (by decide)
    refine lv_iconst (v := 1) hx hb dX7_must_20 (by decide) ?_
    refine lv_goto (tgt := 25) hx hb dX7_must_21 (by decide) ?_
    refine t_put0 (ci := 7) (v := .int 1) hB hT (ro_ci r_h rfl) (ro_n0 r_h (by decide)) rfl 37 (by decide) k_782 (Or.inl rfl) rfl rfl dX7_must_25 (fun H locs hT => ?_)
    have hI : Inv (sF g h 37 (.int 1)) := hI.sF (p_8_37 r_h (⟨_, rfl, by decide, by decide⟩))
    have hM : Sm md_m_must g (sF g h 37 (.int 1)) := hM.tr hE (Sm_sF (by rw [r_h]; rfl))
    have hE : Ex g (sF g h 37 (.int 1)) := hE
    refine lv_aload_n hx hb dX7_must_28 rfl (lv_at hl 0 rfl) ?_
    refine lv_dup hx hb dX7_must_29 rfl ?_
    obtain ⟨v_3, e_v_3, l_v_3, u_v_3⟩ := f_8_36 hI r_h
    refine t_get (ci := 7) (v := .int v_3) hB hT (ro_ci r_h rfl) rfl 36 (by decide) k_781 e_v_3 dX7_must_30 ?_
    refine lv_aload_n hx hb dX7_must_33 rfl (lv_at hl 0 rfl) ?_
    refine t_get (ci := 7) (v := .int 1) hB hT (ro_ci r_h rfl) rfl 37 (by decide) k_782 sF_eq dX7_must_34 ?_
    refine lv_if_eq (tgt := 44) hx hb dX7_must_37 (by decide) (fun c_ => absurd c_ (by decide)) (fun c_ => ?_)
    refine lv_iconst (v := 0) hx hb dX7_must_40 (by decide) ?_
    refine lv_goto (tgt := 45) hx hb dX7_must_41 (by decide) ?_
    refine lv_iadd hx hb dX7_must_45 ?_
    refine lv_topi (fun z_4 ez_4 => ?_)
    have e_z_4 : z_4.toInt = v_3.toInt + 0 := i_add ez_4 rfl (by decide) (by omega) (by omega)
    refine t_put0 (ci := 7) (v := .int z_4) hB hT (ro_ci r_h rfl) (ro_n0 r_h (by decide)) rfl 36 (by decide) k_781 (Or.inl rfl) rfl rfl dX7_must_46 (fun H locs hT => ?_)
    have hI : Inv (sF (sF g h 37 (.int 1)) h 36 (.int z_4)) := hI.sF (p_8_36 r_h (⟨_, rfl, by omega, by omega⟩))
    have hM : Sm md_m_must g (sF (sF g h 37 (.int 1)) h 36 (.int z_4)) := hM.tr hE (Sm_sF (by rw [r_h]; rfl))
    have hE : Ex g (sF (sF g h 37 (.int 1)) h 36 (.int z_4)) := hE
    exact t_vret hB hr hT (Nat.le_of_ble_eq_true rfl) (Nat.le_of_ble_eq_true rfl) dX7_must_49 ⟨rfl, hI, hE, hM⟩
  · have c_2' : v_1.toInt = 0 := i_eq c_2 rfl (by decide)
    refine lv_aload_n hx hb dX7_must_8 rfl (lv_at hl 0 rfl) ?_
    refine lv_aload_n hx hb dX7_must_9 rfl (lv_at hl 0 rfl) ?_
    obtain ⟨v_5, e_v_5, l_v_5, u_v_5⟩ := f_8_36 hI r_h
    refine t_get (ci := 7) (v := .int v_5) hB hT (ro_ci r_h rfl) rfl 36 (by decide) k_781 e_v_5 dX7_must_10 ?_
    obtain ⟨v_6, e_v_6, l_v_6, u_v_6⟩ := f_8_29 hI r_h
    obtain ⟨v_7, e_v_7, r_v_7, n_v_7⟩ := f_8_28 hI r_h
    refine t_callV (n := 1) (As := [.int v_5]) (rest := [.ref h]) (ci := 7) hB hT hl.1 (m_byteAt l D cI cZ cS cR N0 g hI h v_5 v_6 v_7 r_h r_v_7 n_v_7 e_v_6 e_v_7 (by omega) (by omega) (by omega) (by omega)) (ro_ci r_h rfl) rfl k_971 k_65 k_968 k_970 k_23 (by decide +kernel) ⟨(Nat.le_of_ble_eq_true rfl), (Nat.le_of_ble_eq_true rfl)⟩ rfl (Nat.le_of_ble_eq_true rfl) ⟨(Nat.le_of_ble_eq_true rfl), (Nat.le_of_ble_eq_true rfl)⟩ dX7_must_13 (fun v g_8 H locs hp hT => ?_)
    obtain ⟨r_9, rfl, eg, f_10, f_11⟩ := hp
    rw [eg] at hT
    clear eg
    refine W.eq (g2 := F0 m 16 ls [.int r_9, .ref h]) rfl ?_
    refine lv_iload_n hx hb dX7_must_16 rfl (lv_at hl 1 rfl) ?_
    refine lv_icmp_eq (tgt := 24) hx hb dX7_must_17 (by decide) (fun c_14 => ?_) (fun c_14 => ?_)
    · have c_14' : r_9.toInt = n.toInt := i_eq c_14 rfl rfl
      refine lv_iconst (v := 0) hx hb dX7_must_24 (by decide) ?_
      refine t_put0 (ci := 7) (v := .int 0) hB hT (ro_ci r_h rfl) (ro_n0 r_h (by decide)) rfl 37 (by decide) k_782 (Or.inl rfl) rfl rfl dX7_must_25 (fun H locs hT => ?_)
      have hI : Inv (sF g h 37 (.int 0)) := hI.sF (p_8_37 r_h (⟨_, rfl, by decide, by decide⟩))
      have hM : Sm md_m_must g (sF g h 37 (.int 0)) := hM.tr hE (Sm_sF (by rw [r_h]; rfl))
      have hE : Ex g (sF g h 37 (.int 0)) := hE
      refine lv_aload_n hx hb dX7_must_28 rfl (lv_at hl 0 rfl) ?_
      refine lv_dup hx hb dX7_must_29 rfl ?_
      refine t_get (ci := 7) (v := .int v_5) hB hT (ro_ci r_h rfl) rfl 36 (by decide) k_781 (sF_k e_v_5 (by decide)) dX7_must_30 ?_
      refine lv_aload_n hx hb dX7_must_33 rfl (lv_at hl 0 rfl) ?_
      refine t_get (ci := 7) (v := .int 0) hB hT (ro_ci r_h rfl) rfl 37 (by decide) k_782 sF_eq dX7_must_34 ?_
      refine lv_if_eq (tgt := 44) hx hb dX7_must_37 (by decide) (fun c_ => ?_) (fun c_ => absurd (by decide) c_)
      refine lv_iconst (v := 1) hx hb dX7_must_44 (by decide) ?_
      refine lv_iadd hx hb dX7_must_45 ?_
      refine lv_topi (fun z_15 ez_15 => ?_)
      have e_z_15 : z_15.toInt = v_5.toInt + 1 := i_add ez_15 rfl (by decide) (by omega) (by omega)
      refine t_put0 (ci := 7) (v := .int z_15) hB hT (ro_ci r_h rfl) (ro_n0 r_h (by decide)) rfl 36 (by decide) k_781 (Or.inl rfl) rfl rfl dX7_must_46 (fun H locs hT => ?_)
      have hI : Inv (sF (sF g h 37 (.int 0)) h 36 (.int z_15)) := hI.sF (p_8_36 r_h (⟨_, rfl, by omega, by omega⟩))
      have hM : Sm md_m_must g (sF (sF g h 37 (.int 0)) h 36 (.int z_15)) := hM.tr hE (Sm_sF (by rw [r_h]; rfl))
      have hE : Ex g (sF (sF g h 37 (.int 0)) h 36 (.int z_15)) := hE
      exact t_vret hB hr hT (Nat.le_of_ble_eq_true rfl) (Nat.le_of_ble_eq_true rfl) dX7_must_49 ⟨rfl, hI, hE, hM⟩
    · have c_14' : r_9.toInt ≠ n.toInt := i_ne c_14 rfl rfl
      refine lv_iconst (v := 1) hx hb dX7_must_20 (by decide) ?_
      refine lv_goto (tgt := 25) hx hb dX7_must_21 (by decide) ?_
      refine t_put0 (ci := 7) (v := .int 1) hB hT (ro_ci r_h rfl) (ro_n0 r_h (by decide)) rfl 37 (by decide) k_782 (Or.inl rfl) rfl rfl dX7_must_25 (fun H locs hT => ?_)
      have hI : Inv (sF g h 37 (.int 1)) := hI.sF (p_8_37 r_h (⟨_, rfl, by decide, by decide⟩))
      have hM : Sm md_m_must g (sF g h 37 (.int 1)) := hM.tr hE (Sm_sF (by rw [r_h]; rfl))
      have hE : Ex g (sF g h 37 (.int 1)) := hE
      refine lv_aload_n hx hb dX7_must_28 rfl (lv_at hl 0 rfl) ?_
      refine lv_dup hx hb dX7_must_29 rfl ?_
      refine t_get (ci := 7) (v := .int v_5) hB hT (ro_ci r_h rfl) rfl 36 (by decide) k_781 (sF_k e_v_5 (by decide)) dX7_must_30 ?_
      refine lv_aload_n hx hb dX7_must_33 rfl (lv_at hl 0 rfl) ?_
      refine t_get (ci := 7) (v := .int 1) hB hT (ro_ci r_h rfl) rfl 37 (by decide) k_782 sF_eq dX7_must_34 ?_
      refine lv_if_eq (tgt := 44) hx hb dX7_must_37 (by decide) (fun c_ => absurd c_ (by decide)) (fun c_ => ?_)
      refine lv_iconst (v := 0) hx hb dX7_must_40 (by decide) ?_
      refine lv_goto (tgt := 45) hx hb dX7_must_41 (by decide) ?_
      refine lv_iadd hx hb dX7_must_45 ?_
      refine lv_topi (fun z_16 ez_16 => ?_)
      have e_z_16 : z_16.toInt = v_5.toInt + 0 := i_add ez_16 rfl (by decide) (by omega) (by omega)
      refine t_put0 (ci := 7) (v := .int z_16) hB hT (ro_ci r_h rfl) (ro_n0 r_h (by decide)) rfl 36 (by decide) k_781 (Or.inl rfl) rfl rfl dX7_must_46 (fun H locs hT => ?_)
      have hI : Inv (sF (sF g h 37 (.int 1)) h 36 (.int z_16)) := hI.sF (p_8_36 r_h (⟨_, rfl, by omega, by omega⟩))
      have hM : Sm md_m_must g (sF (sF g h 37 (.int 1)) h 36 (.int z_16)) := hM.tr hE (Sm_sF (by rw [r_h]; rfl))
      have hE : Ex g (sF (sF g h 37 (.int 1)) h 36 (.int z_16)) := hE
      exact t_vret hB hr hT (Nat.le_of_ble_eq_true rfl) (Nat.le_of_ble_eq_true rfl) dX7_must_49 ⟨rfl, hI, hE, hM⟩
abbrev md_m_readsWorth : Nat → Nat → Bool := mdf [(8, 36), (8, 37)]
set_option maxHeartbeats 4000000 in
set_option maxRecDepth 100000 in
theorem lt_m_readsWorth_a (l : Launch) (D : va_G) (cI cZ cS cR : ClassId) (N0 : NT) (g : GS) (h : Nat) (r_h : g.1 h = 8) {p : Program} {e : Env} {s : State} {m : MethodId} {args : Array Value} {below : List Frame} {meth : Method} {c : Code} (hB : Tz p s m meth c args cX7_readsWorth 4 RX7 D cI cZ cS cR N0) (hr : meth.sig.returnType = (some .int))    : ∀ (kf : Nat) (g1 : GS) (i : Int32) (v : Int32)  (H : Heap) (locs : List Loc) (ls : Array Slot), Tv D cI cZ cS cR N0 s.heap H locs g1 → Inv g1 → Ex g g1 → Sm md_m_readsWorth g g1 → 0 ≤ i.toInt → i.toInt ≤ 3 → 0 ≤ v.toInt → v.toInt ≤ 999 → (3 ≤ i.toInt + kf ∧ (v.toInt ≤ 0 ∨ 1 ≤ i.toInt) ∧ (v.toInt ≤ 9 ∨ 2 ≤ i.toInt) ∧ (v.toInt ≤ 99 ∨ 3 ≤ i.toInt)) → lv_has ls 4 [(2, .int i), (3, .int v), (0, .ref h)] → W p l e (rmx 1 0 0) s m args below meth c H locs 0 0 (MQ below (tQ D cI cZ cS cR N0 (fun v g' => ∃ (r : Int32), v = some (.int r) ∧ Inv g' ∧ Ex g g' ∧ Sm md_m_readsWorth g g' ∧ (0 ≤ r.toInt ∧ r.toInt ≤ 1001))) args s 0 0 (fun q => N0.1 ≤ q)) (F0 m 62 ls []) := by
  have hx := hB.1
  have hb := hB.2.1
  intro kf
  induction kf using Nat.strongRecOn with
  | ind kf ih =>
    intro g1 i v H locs ls hT hI hE hM l_i u_i l_v u_v hk hl
    have r_1 : g1.1 h = 8 := Ex.r hE r_h (by decide)
    refine lv_aload_n hx hb dX7_readsWorth_62 rfl (lv_at hl 2 rfl) ?_
    obtain ⟨v_2, e_v_2, l_v_2, u_v_2⟩ := f_8_37 hI r_1
    refine t_get (ci := 7) (v := .int v_2) hB hT (ro_ci r_1 rfl) rfl 37 (by decide) k_782 e_v_2 dX7_readsWorth_63 ?_
    refine lv_if_ne (tgt := 125) hx hb dX7_readsWorth_66 (by decide) (fun c_3 => ?_) (fun c_3 => ?_)
    · have c_3' : v_2.toInt ≠ 0 := i_ne c_3 rfl (by decide)
      refine lv_aload_n hx hb dX7_readsWorth_125 rfl (lv_at hl 2 rfl) ?_
      refine lv_aload_n hx hb dX7_readsWorth_126 rfl (lv_at hl 2 rfl) ?_
      refine t_get (ci := 7) (v := .int v_2) hB hT (ro_ci r_1 rfl) rfl 37 (by decide) k_782 e_v_2 dX7_readsWorth_127 ?_
      refine lv_if_ne (tgt := 137) hx hb dX7_readsWorth_130 (by decide) (fun c_4 => ?_) (fun c_4 => ?_)
      · have c_4' : v_2.toInt ≠ 0 := i_ne c_4 rfl (by decide)
        refine lv_iconst (v := 1) hx hb dX7_readsWorth_137 (by decide) ?_
        refine lv_goto (tgt := 142) hx hb dX7_readsWorth_138 (by decide) ?_
        refine t_put0 (ci := 7) (v := .int 1) hB hT (ro_ci r_1 rfl) (ro_n0 r_1 (by decide)) rfl 37 (by decide) k_782 (Or.inl rfl) rfl rfl dX7_readsWorth_142 (fun H locs hT => ?_)
        have hI : Inv (sF g1 h 37 (.int 1)) := hI.sF (p_8_37 r_1 (⟨_, rfl, by decide, by decide⟩))
        have hM : Sm md_m_readsWorth g (sF g1 h 37 (.int 1)) := hM.tr hE (Sm_sF (by rw [r_1]; rfl))
        have hE : Ex g (sF g1 h 37 (.int 1)) := hE
        refine lv_iload_n hx hb dX7_readsWorth_145 rfl (lv_at hl 1 rfl) ?_
        exact t_iret hB hr hT (Nat.le_of_ble_eq_true rfl) (Nat.le_of_ble_eq_true rfl) dX7_readsWorth_146 ⟨v, rfl, hI, hE, hM, ⟨by omega, by omega⟩⟩
      · have c_4' : v_2.toInt = 0 := i_eq c_4 rfl (by decide)
        exact absurd c_4' (by omega)
    · have c_3' : v_2.toInt = 0 := i_eq c_3 rfl (by decide)
      refine lv_iload_n hx hb dX7_readsWorth_69 rfl (lv_at hl 0 rfl) ?_
      refine lv_iconst (v := 3) hx hb dX7_readsWorth_70 (by decide) ?_
      refine lv_icmp_ge (tgt := 125) hx hb dX7_readsWorth_71 (by decide) (fun c_5 => ?_) (fun c_5 => ?_)
      · have c_5' : 3 ≤ i.toInt := i_le c_5 (by decide) rfl
        refine lv_aload_n hx hb dX7_readsWorth_125 rfl (lv_at hl 2 rfl) ?_
        refine lv_aload_n hx hb dX7_readsWorth_126 rfl (lv_at hl 2 rfl) ?_
        refine t_get (ci := 7) (v := .int v_2) hB hT (ro_ci r_1 rfl) rfl 37 (by decide) k_782 e_v_2 dX7_readsWorth_127 ?_
        refine lv_if_ne (tgt := 137) hx hb dX7_readsWorth_130 (by decide) (fun c_6 => ?_) (fun c_6 => ?_)
        · have c_6' : v_2.toInt ≠ 0 := i_ne c_6 rfl (by decide)
          exact absurd c_6' (by omega)
        · have c_6' : v_2.toInt = 0 := i_eq c_6 rfl (by decide)
          refine lv_iload_n hx hb dX7_readsWorth_133 rfl (lv_at hl 0 rfl) ?_
          refine lv_if_ne (tgt := 141) hx hb dX7_readsWorth_134 (by decide) (fun c_7 => ?_) (fun c_7 => ?_)
          · have c_7' : i.toInt ≠ 0 := i_ne c_7 rfl (by decide)
            refine lv_iconst (v := 0) hx hb dX7_readsWorth_141 (by decide) ?_
            refine t_put0 (ci := 7) (v := .int 0) hB hT (ro_ci r_1 rfl) (ro_n0 r_1 (by decide)) rfl 37 (by decide) k_782 (Or.inl rfl) rfl rfl dX7_readsWorth_142 (fun H locs hT => ?_)
            have hI : Inv (sF g1 h 37 (.int 0)) := hI.sF (p_8_37 r_1 (⟨_, rfl, by decide, by decide⟩))
            have hM : Sm md_m_readsWorth g (sF g1 h 37 (.int 0)) := hM.tr hE (Sm_sF (by rw [r_1]; rfl))
            have hE : Ex g (sF g1 h 37 (.int 0)) := hE
            refine lv_iload_n hx hb dX7_readsWorth_145 rfl (lv_at hl 1 rfl) ?_
            exact t_iret hB hr hT (Nat.le_of_ble_eq_true rfl) (Nat.le_of_ble_eq_true rfl) dX7_readsWorth_146 ⟨v, rfl, hI, hE, hM, ⟨by omega, by omega⟩⟩
          · have c_7' : i.toInt = 0 := i_eq c_7 rfl (by decide)
            exact absurd c_7' (by omega)
      · have c_5' : i.toInt < 3 := i_nle c_5 (by decide) rfl
        refine lv_aload_n hx hb dX7_readsWorth_74 rfl (lv_at hl 2 rfl) ?_
        refine lv_aload_n hx hb dX7_readsWorth_75 rfl (lv_at hl 2 rfl) ?_
        obtain ⟨v_8, e_v_8, l_v_8, u_v_8⟩ := f_8_36 hI r_1
        refine t_get (ci := 7) (v := .int v_8) hB hT (ro_ci r_1 rfl) rfl 36 (by decide) k_781 e_v_8 dX7_readsWorth_76 ?_
        obtain ⟨v_9, e_v_9, l_v_9, u_v_9⟩ := f_8_29 hI r_1
        obtain ⟨v_10, e_v_10, r_v_10, n_v_10⟩ := f_8_28 hI r_1
        refine t_callV (n := 1) (As := [.int v_8]) (rest := []) (ci := 7) hB hT hl.1 (m_byteAt l D cI cZ cS cR N0 g1 hI h v_8 v_9 v_10 r_1 r_v_10 n_v_10 e_v_9 e_v_10 (by omega) (by omega) (by omega) (by omega)) (ro_ci r_1 rfl) rfl k_971 k_65 k_968 k_970 k_23 (by decide +kernel) ⟨(Nat.le_of_ble_eq_true rfl), (Nat.le_of_ble_eq_true rfl)⟩ rfl (Nat.le_of_ble_eq_true rfl) ⟨(Nat.le_of_ble_eq_true rfl), (Nat.le_of_ble_eq_true rfl)⟩ dX7_readsWorth_79 (fun v g_11 H locs hp hT => ?_)
        obtain ⟨r_12, rfl, eg, f_13, f_14⟩ := hp
        rw [eg] at hT
        clear eg
        refine W.eq (g2 := F0 m 82 ls [.int r_12]) rfl ?_
        refine lv_bipush (v := 48) hx hb dX7_readsWorth_82 (by decide) ?_
        refine lv_bipush (v := 57) hx hb dX7_readsWorth_84 (by decide) ?_
        refine t_callS (n := 3) (As := [.int r_12, .int 48, .int 57]) (rest := []) hB hT hl.1 (m_in l D cI cZ cS cR N0 g1 hI r_12 48 57 ) k_954 k_65 k_952 k_953 (by decide +kernel) ⟨(Nat.le_of_ble_eq_true rfl), (Nat.le_of_ble_eq_true rfl)⟩ rfl (Nat.le_of_ble_eq_true rfl) ⟨(Nat.le_of_ble_eq_true rfl), (Nat.le_of_ble_eq_true rfl)⟩ dX7_readsWorth_86 (fun v g_17 H locs hp hT => ?_)
        obtain ⟨r_18, rfl, eg, f_19⟩ := hp
        rw [eg] at hT
        clear eg
        refine W.eq (g2 := F0 m 89 ls [.int r_18]) rfl ?_
        have qc_22 : (48 : Int32).toInt = 48 := (by decide)
        have qc_23 : (57 : Int32).toInt = 57 := (by decide)
        rcases f_19 with ⟨rfl, hw_24, hw_25⟩ | ⟨rfl, hw_26⟩
        · refine W.eq (g2 := F0 m 89 ls [.int 1]) rfl ?_
          refine lv_if_eq (tgt := 125) hx hb dX7_readsWorth_89 (by decide) (fun c_ => absurd c_ (by decide)) (fun c_ => ?_)
          refine lv_bipush (v := 10) hx hb dX7_readsWorth_92 (by decide) ?_
          refine lv_iload_n hx hb dX7_readsWorth_94 rfl (lv_at hl 1 rfl) ?_
          refine lv_imul hx hb dX7_readsWorth_95 ?_
          refine lv_topi (fun z_27 ez_27 => ?_)
          have e_z_27 : z_27.toInt = 10 * v.toInt := i_mul ez_27 (by decide) rfl (by omega) (by omega)
          refine lv_aload_n hx hb dX7_readsWorth_96 rfl (lv_at hl 2 rfl) ?_
          refine lv_aload_n hx hb dX7_readsWorth_97 rfl (lv_at hl 2 rfl) ?_
          refine t_get (ci := 7) (v := .int v_8) hB hT (ro_ci r_1 rfl) rfl 36 (by decide) k_781 e_v_8 dX7_readsWorth_98 ?_
          refine t_callV (n := 1) (As := [.int v_8]) (rest := [.int z_27]) (ci := 7) hB hT hl.1 (m_byteAt l D cI cZ cS cR N0 g1 hI h v_8 v_9 v_10 r_1 r_v_10 n_v_10 e_v_9 e_v_10 (by omega) (by omega) (by omega) (by omega)) (ro_ci r_1 rfl) rfl k_971 k_65 k_968 k_970 k_23 (by decide +kernel) ⟨(Nat.le_of_ble_eq_true rfl), (Nat.le_of_ble_eq_true rfl)⟩ rfl (Nat.le_of_ble_eq_true rfl) ⟨(Nat.le_of_ble_eq_true rfl), (Nat.le_of_ble_eq_true rfl)⟩ dX7_readsWorth_101 (fun v g_28 H locs hp hT => ?_)
          obtain ⟨r_29, rfl, eg, f_30, f_31⟩ := hp
          rw [eg] at hT
          clear eg
          refine W.eq (g2 := F0 m 104 ls [.int r_29, .int z_27]) rfl ?_
          have q_r_29 : r_29 = r_12 := f_30.trans f_13.symm
          refine W.eq (g2 := F0 m 104 ls [.int r_12, .int z_27]) (by rw [q_r_29]) ?_
          refine lv_iadd hx hb dX7_readsWorth_104 ?_
          refine lv_topi (fun z_34 ez_34 => ?_)
          have e_z_34 : z_34.toInt = z_27.toInt + r_12.toInt := i_add ez_34 rfl rfl (by omega) (by omega)
          refine lv_bipush (v := 48) hx hb dX7_readsWorth_105 (by decide) ?_
          refine lv_isub hx hb dX7_readsWorth_107 ?_
          refine lv_topi (fun z_35 ez_35 => ?_)
          have e_z_35 : z_35.toInt = z_34.toInt - 48 := i_sub ez_35 rfl (by decide) (by omega) (by omega)
          refine lv_istore_n (lv' := [(3, .int z_35), (2, .int i), (0, .ref h)]) hx hb dX7_readsWorth_108 rfl hl (by decide) rfl (fun ls hl => ?_)
          refine lv_aload_n hx hb dX7_readsWorth_109 rfl (lv_at hl 2 rfl) ?_
          refine lv_dup hx hb dX7_readsWorth_110 rfl ?_
          refine t_get (ci := 7) (v := .int v_8) hB hT (ro_ci r_1 rfl) rfl 36 (by decide) k_781 e_v_8 dX7_readsWorth_111 ?_
          refine lv_iconst (v := 1) hx hb dX7_readsWorth_114 (by decide) ?_
          refine lv_iadd hx hb dX7_readsWorth_115 ?_
          refine lv_topi (fun z_36 ez_36 => ?_)
          have e_z_36 : z_36.toInt = v_8.toInt + 1 := i_add ez_36 rfl (by decide) (by omega) (by omega)
          refine t_put0 (ci := 7) (v := .int z_36) hB hT (ro_ci r_1 rfl) (ro_n0 r_1 (by decide)) rfl 36 (by decide) k_781 (Or.inl rfl) rfl rfl dX7_readsWorth_116 (fun H locs hT => ?_)
          have hI : Inv (sF g1 h 36 (.int z_36)) := hI.sF (p_8_36 r_1 (⟨_, rfl, by omega, by omega⟩))
          have hM : Sm md_m_readsWorth g (sF g1 h 36 (.int z_36)) := hM.tr hE (Sm_sF (by rw [r_1]; rfl))
          have hE : Ex g (sF g1 h 36 (.int z_36)) := hE
          obtain ⟨z_37, ez_37⟩ : ∃ z : Int32, z = i + 1 := ⟨_, rfl⟩
          have e_z_37 : z_37.toInt = i.toInt + 1 := i_add ez_37 rfl (by decide) (by omega) (by omega)
          refine lv_iinc (v := z_37) (lv' := [(2, .int z_37), (3, .int z_35), (0, .ref h)]) hx hb dX7_readsWorth_119 hl (k := 1) rfl (by rw [ez_37]; rfl) (by decide) rfl (fun ls hl => ?_)
          refine lv_goto (tgt := 62) hx hb dX7_readsWorth_122 (by decide) ?_
          exact ih (kf - 1) (by omega) (sF g1 h 36 (.int z_36)) z_37 z_35 H locs ls hT hI hE hM (by omega) (by omega) (by omega) (by omega) (by have e0_ : (0 : Int32).toInt = 0 := (by decide); omega) (lv_sub hl [0, 1, 2] rfl)
        · refine W.eq (g2 := F0 m 89 ls [.int 0]) rfl ?_
          refine lv_if_eq (tgt := 125) hx hb dX7_readsWorth_89 (by decide) (fun c_ => ?_) (fun c_ => absurd (by decide) c_)
          refine lv_aload_n hx hb dX7_readsWorth_125 rfl (lv_at hl 2 rfl) ?_
          refine lv_aload_n hx hb dX7_readsWorth_126 rfl (lv_at hl 2 rfl) ?_
          refine t_get (ci := 7) (v := .int v_2) hB hT (ro_ci r_1 rfl) rfl 37 (by decide) k_782 e_v_2 dX7_readsWorth_127 ?_
          refine lv_if_ne (tgt := 137) hx hb dX7_readsWorth_130 (by decide) (fun c_38 => ?_) (fun c_38 => ?_)
          · have c_38' : v_2.toInt ≠ 0 := i_ne c_38 rfl (by decide)
            exact absurd c_38' (by omega)
          · have c_38' : v_2.toInt = 0 := i_eq c_38 rfl (by decide)
            refine lv_iload_n hx hb dX7_readsWorth_133 rfl (lv_at hl 0 rfl) ?_
            refine lv_if_ne (tgt := 141) hx hb dX7_readsWorth_134 (by decide) (fun c_39 => ?_) (fun c_39 => ?_)
            · have c_39' : i.toInt ≠ 0 := i_ne c_39 rfl (by decide)
              refine lv_iconst (v := 0) hx hb dX7_readsWorth_141 (by decide) ?_
              refine t_put0 (ci := 7) (v := .int 0) hB hT (ro_ci r_1 rfl) (ro_n0 r_1 (by decide)) rfl 37 (by decide) k_782 (Or.inl rfl) rfl rfl dX7_readsWorth_142 (fun H locs hT => ?_)
              have hI : Inv (sF g1 h 37 (.int 0)) := hI.sF (p_8_37 r_1 (⟨_, rfl, by decide, by decide⟩))
              have hM : Sm md_m_readsWorth g (sF g1 h 37 (.int 0)) := hM.tr hE (Sm_sF (by rw [r_1]; rfl))
              have hE : Ex g (sF g1 h 37 (.int 0)) := hE
              refine lv_iload_n hx hb dX7_readsWorth_145 rfl (lv_at hl 1 rfl) ?_
              exact t_iret hB hr hT (Nat.le_of_ble_eq_true rfl) (Nat.le_of_ble_eq_true rfl) dX7_readsWorth_146 ⟨v, rfl, hI, hE, hM, ⟨by omega, by omega⟩⟩
            · have c_39' : i.toInt = 0 := i_eq c_39 rfl (by decide)
              refine lv_iconst (v := 1) hx hb dX7_readsWorth_137 (by decide) ?_
              refine lv_goto (tgt := 142) hx hb dX7_readsWorth_138 (by decide) ?_
              refine t_put0 (ci := 7) (v := .int 1) hB hT (ro_ci r_1 rfl) (ro_n0 r_1 (by decide)) rfl 37 (by decide) k_782 (Or.inl rfl) rfl rfl dX7_readsWorth_142 (fun H locs hT => ?_)
              have hI : Inv (sF g1 h 37 (.int 1)) := hI.sF (p_8_37 r_1 (⟨_, rfl, by decide, by decide⟩))
              have hM : Sm md_m_readsWorth g (sF g1 h 37 (.int 1)) := hM.tr hE (Sm_sF (by rw [r_1]; rfl))
              have hE : Ex g (sF g1 h 37 (.int 1)) := hE
              refine lv_iload_n hx hb dX7_readsWorth_145 rfl (lv_at hl 1 rfl) ?_
              exact t_iret hB hr hT (Nat.le_of_ble_eq_true rfl) (Nat.le_of_ble_eq_true rfl) dX7_readsWorth_146 ⟨v, rfl, hI, hE, hM, ⟨by omega, by omega⟩⟩
set_option maxHeartbeats 4000000 in
set_option maxRecDepth 100000 in
theorem m_readsWorth (l : Launch) (D : va_G) (cI cZ cS cR : ClassId) (N0 : NT) (g : GS) (hI : Inv g) (h : Nat) (r_h : g.1 h = 8) : Ty l D cI cZ cS cR N0 yX7_readsWorth cX7_readsWorth 4 (some .int) 1 0 0 [.ref h] g (fun v g' => ∃ (r : Int32), v = some (.int r) ∧ Inv g' ∧ Ex g g' ∧ Sm md_m_readsWorth g g' ∧ (0 ≤ r.toInt ∧ r.toInt ≤ 1001)) := by
  refine t_enter (by decide) (Nat.le_of_ble_eq_true rfl) ?_
  intro p e s m args below meth c ls H locs hB hr hin hl hT
  have hx := hB.1
  have hb := hB.2.1
  have hl : lv_has ls 4 [(0, .ref h)] := hl
  have hE : Ex g g := Ex.rf
  have hM : Sm md_m_readsWorth g g := Sm.rf
  refine lv_aload_n hx hb dX7_readsWorth_0 rfl (lv_at hl 0 rfl) ?_
  obtain ⟨v_1, e_v_1, l_v_1, u_v_1⟩ := f_8_37 hI r_h
  refine t_get (ci := 7) (v := .int v_1) hB hT (ro_ci r_h rfl) rfl 37 (by decide) k_782 e_v_1 dX7_readsWorth_1 ?_
  refine lv_if_eq (tgt := 11) hx hb dX7_readsWorth_4 (by decide) (fun c_2 => ?_) (fun c_2 => ?_)
  · have c_2' : v_1.toInt = 0 := i_eq c_2 rfl (by decide)
    refine lv_aload_n hx hb dX7_readsWorth_11 rfl (lv_at hl 0 rfl) ?_
    refine lv_aload_n hx hb dX7_readsWorth_12 rfl (lv_at hl 0 rfl) ?_
    obtain ⟨v_3, e_v_3, l_v_3, u_v_3⟩ := f_8_36 hI r_h
    refine t_get (ci := 7) (v := .int v_3) hB hT (ro_ci r_h rfl) rfl 36 (by decide) k_781 e_v_3 dX7_readsWorth_13 ?_
    obtain ⟨v_4, e_v_4, l_v_4, u_v_4⟩ := f_8_29 hI r_h
    obtain ⟨v_5, e_v_5, r_v_5, n_v_5⟩ := f_8_28 hI r_h
    refine t_callV (n := 1) (As := [.int v_3]) (rest := []) (ci := 7) hB hT hl.1 (m_byteAt l D cI cZ cS cR N0 g hI h v_3 v_4 v_5 r_h r_v_5 n_v_5 e_v_4 e_v_5 (by omega) (by omega) (by omega) (by omega)) (ro_ci r_h rfl) rfl k_971 k_65 k_968 k_970 k_23 (by decide +kernel) ⟨(Nat.le_of_ble_eq_true rfl), (Nat.le_of_ble_eq_true rfl)⟩ rfl (Nat.le_of_ble_eq_true rfl) ⟨(Nat.le_of_ble_eq_true rfl), (Nat.le_of_ble_eq_true rfl)⟩ dX7_readsWorth_16 (fun v g_6 H locs hp hT => ?_)
    obtain ⟨r_7, rfl, eg, f_8, f_9⟩ := hp
    rw [eg] at hT
    clear eg
    refine W.eq (g2 := F0 m 19 ls [.int r_7]) rfl ?_
    refine lv_istore_n (lv' := [(1, .int r_7), (0, .ref h)]) hx hb dX7_readsWorth_19 rfl hl (by decide) rfl (fun ls hl => ?_)
    refine lv_iload_n hx hb dX7_readsWorth_20 rfl (lv_at hl 0 rfl) ?_
    refine lv_bipush (v := 120) hx hb dX7_readsWorth_21 (by decide) ?_
    refine lv_icmp_eq (tgt := 32) hx hb dX7_readsWorth_23 (by decide) (fun c_12 => ?_) (fun c_12 => ?_)
    · have c_12' : r_7.toInt = 120 := i_eq c_12 rfl (by decide)
      refine lv_aload_n hx hb dX7_readsWorth_32 rfl (lv_at hl 1 rfl) ?_
      refine lv_dup hx hb dX7_readsWorth_33 rfl ?_
      refine t_get (ci := 7) (v := .int v_3) hB hT (ro_ci r_h rfl) rfl 36 (by decide) k_781 e_v_3 dX7_readsWorth_34 ?_
      refine lv_iconst (v := 1) hx hb dX7_readsWorth_37 (by decide) ?_
      refine lv_iadd hx hb dX7_readsWorth_38 ?_
      refine lv_topi (fun z_13 ez_13 => ?_)
      have e_z_13 : z_13.toInt = v_3.toInt + 1 := i_add ez_13 rfl (by decide) (by omega) (by omega)
      refine t_put0 (ci := 7) (v := .int z_13) hB hT (ro_ci r_h rfl) (ro_n0 r_h (by decide)) rfl 36 (by decide) k_781 (Or.inl rfl) rfl rfl dX7_readsWorth_39 (fun H locs hT => ?_)
      have hI : Inv (sF g h 36 (.int z_13)) := hI.sF (p_8_36 r_h (⟨_, rfl, by omega, by omega⟩))
      have hM : Sm md_m_readsWorth g (sF g h 36 (.int z_13)) := hM.tr hE (Sm_sF (by rw [r_h]; rfl))
      have hE : Ex g (sF g h 36 (.int z_13)) := hE
      refine lv_iload_n hx hb dX7_readsWorth_42 rfl (lv_at hl 0 rfl) ?_
      refine lv_bipush (v := 120) hx hb dX7_readsWorth_43 (by decide) ?_
      refine lv_icmp_ne (tgt := 54) hx hb dX7_readsWorth_45 (by decide) (fun c_14 => ?_) (fun c_14 => ?_)
      · have c_14' : r_7.toInt ≠ 120 := i_ne c_14 rfl (by decide)
        exact absurd c_14' (by omega)
      · have c_14' : r_7.toInt = 120 := i_eq c_14 rfl (by decide)
        refine lv_sipush (v := 1000) hx hb dX7_readsWorth_48 (by decide) ?_
        refine lv_goto (tgt := 57) hx hb dX7_readsWorth_51 (by decide) ?_
        exact t_iret hB hr hT (Nat.le_of_ble_eq_true rfl) (Nat.le_of_ble_eq_true rfl) dX7_readsWorth_57 ⟨1000, rfl, hI, hE, hM, ⟨by decide, by decide⟩⟩
    · have c_12' : r_7.toInt ≠ 120 := i_ne c_12 rfl (by decide)
      refine lv_iload_n hx hb dX7_readsWorth_26 rfl (lv_at hl 0 rfl) ?_
      refine lv_bipush (v := 114) hx hb dX7_readsWorth_27 (by decide) ?_
      refine lv_icmp_ne (tgt := 58) hx hb dX7_readsWorth_29 (by decide) (fun c_15 => ?_) (fun c_15 => ?_)
      · have c_15' : r_7.toInt ≠ 114 := i_ne c_15 rfl (by decide)
        refine lv_iconst (v := 0) hx hb dX7_readsWorth_58 (by decide) ?_
        refine lv_istore_n (lv' := [(2, .int 0), (1, .int r_7), (0, .ref h)]) hx hb dX7_readsWorth_59 rfl hl (by decide) rfl (fun ls hl => ?_)
        refine lv_iconst (v := 0) hx hb dX7_readsWorth_60 (by decide) ?_
        refine lv_istore_n (lv' := [(3, .int 0), (2, .int 0), (1, .int r_7), (0, .ref h)]) hx hb dX7_readsWorth_61 rfl hl (by decide) rfl (fun ls hl => ?_)
        exact lt_m_readsWorth_a l D cI cZ cS cR N0 g h r_h hB hr   3 g (0 : Int32) (0 : Int32) H locs ls hT hI hE hM (by decide) (by decide) (by decide) (by decide) (by have e0_ : (0 : Int32).toInt = 0 := (by decide); omega) (lv_sub hl [1, 0, 3] rfl)
      · have c_15' : r_7.toInt = 114 := i_eq c_15 rfl (by decide)
        refine lv_aload_n hx hb dX7_readsWorth_32 rfl (lv_at hl 1 rfl) ?_
        refine lv_dup hx hb dX7_readsWorth_33 rfl ?_
        refine t_get (ci := 7) (v := .int v_3) hB hT (ro_ci r_h rfl) rfl 36 (by decide) k_781 e_v_3 dX7_readsWorth_34 ?_
        refine lv_iconst (v := 1) hx hb dX7_readsWorth_37 (by decide) ?_
        refine lv_iadd hx hb dX7_readsWorth_38 ?_
        refine lv_topi (fun z_16 ez_16 => ?_)
        have e_z_16 : z_16.toInt = v_3.toInt + 1 := i_add ez_16 rfl (by decide) (by omega) (by omega)
        refine t_put0 (ci := 7) (v := .int z_16) hB hT (ro_ci r_h rfl) (ro_n0 r_h (by decide)) rfl 36 (by decide) k_781 (Or.inl rfl) rfl rfl dX7_readsWorth_39 (fun H locs hT => ?_)
        have hI : Inv (sF g h 36 (.int z_16)) := hI.sF (p_8_36 r_h (⟨_, rfl, by omega, by omega⟩))
        have hM : Sm md_m_readsWorth g (sF g h 36 (.int z_16)) := hM.tr hE (Sm_sF (by rw [r_h]; rfl))
        have hE : Ex g (sF g h 36 (.int z_16)) := hE
        refine lv_iload_n hx hb dX7_readsWorth_42 rfl (lv_at hl 0 rfl) ?_
        refine lv_bipush (v := 120) hx hb dX7_readsWorth_43 (by decide) ?_
        refine lv_icmp_ne (tgt := 54) hx hb dX7_readsWorth_45 (by decide) (fun c_17 => ?_) (fun c_17 => ?_)
        · have c_17' : r_7.toInt ≠ 120 := i_ne c_17 rfl (by decide)
          refine lv_sipush (v := 1001) hx hb dX7_readsWorth_54 (by decide) ?_
          exact t_iret hB hr hT (Nat.le_of_ble_eq_true rfl) (Nat.le_of_ble_eq_true rfl) dX7_readsWorth_57 ⟨1001, rfl, hI, hE, hM, ⟨by decide, by decide⟩⟩
        · have c_17' : r_7.toInt = 120 := i_eq c_17 rfl (by decide)
          exact absurd c_17' (by omega)
  · have c_2' : v_1.toInt ≠ 0 := i_ne c_2 rfl (by decide)
    refine lv_iconst (v := (-1)) hx hb dX7_readsWorth_7 (by decide) ?_
    refine lv_goto (tgt := 19) hx hb dX7_readsWorth_8 (by decide) ?_
    refine lv_istore_n (lv' := [(1, .int (-1)), (0, .ref h)]) hx hb dX7_readsWorth_19 rfl hl (by decide) rfl (fun ls hl => ?_)
    refine lv_iload_n hx hb dX7_readsWorth_20 rfl (lv_at hl 0 rfl) ?_
    refine lv_bipush (v := 120) hx hb dX7_readsWorth_21 (by decide) ?_
    refine lv_icmp_eq (tgt := 32) hx hb dX7_readsWorth_23 (by decide) (fun c_ => absurd c_ (by decide)) (fun c_ => ?_)
    refine lv_iload_n hx hb dX7_readsWorth_26 rfl (lv_at hl 0 rfl) ?_
    refine lv_bipush (v := 114) hx hb dX7_readsWorth_27 (by decide) ?_
    refine lv_icmp_ne (tgt := 58) hx hb dX7_readsWorth_29 (by decide) (fun c_ => ?_) (fun c_ => absurd c_ (by decide))
    refine lv_iconst (v := 0) hx hb dX7_readsWorth_58 (by decide) ?_
    refine lv_istore_n (lv' := [(2, .int 0), (1, .int (-1)), (0, .ref h)]) hx hb dX7_readsWorth_59 rfl hl (by decide) rfl (fun ls hl => ?_)
    refine lv_iconst (v := 0) hx hb dX7_readsWorth_60 (by decide) ?_
    refine lv_istore_n (lv' := [(3, .int 0), (2, .int 0), (1, .int (-1)), (0, .ref h)]) hx hb dX7_readsWorth_61 rfl hl (by decide) rfl (fun ls hl => ?_)
    exact lt_m_readsWorth_a l D cI cZ cS cR N0 g h r_h hB hr   3 g (0 : Int32) (0 : Int32) H locs ls hT hI hE hM (by decide) (by decide) (by decide) (by decide) (by have e0_ : (0 : Int32).toInt = 0 := (by decide); omega) (lv_sub hl [1, 0, 3] rfl)
abbrev md_m_readsAct : Nat → Nat → Bool := mdf [(8, 36), (8, 37), (8, 38), (84, 99), (85, 99), (86, 99)]
theorem mdle_m_readsAct_m_must {r k : Nat} (h : md_m_readsAct r k = false) : md_m_must r k = false := mdf_le (by decide +kernel) h
theorem mdle_m_readsAct_m_readsWorth {r k : Nat} (h : md_m_readsAct r k = false) : md_m_readsWorth r k = false := mdf_le (by decide +kernel) h
set_option maxHeartbeats 4000000 in
set_option maxRecDepth 100000 in
theorem lt_m_readsAct_e (l : Launch) (D : va_G) (cI cZ cS cR : ClassId) (N0 : NT) (g : GS) (h : Nat) (z : Int32) (na : Nat) (pa : Nat) (r_h : g.1 h = 8) (r_na : g.1 na = 84) (n_na : g.2.2.1 na = 8) (r_pa : g.1 pa = 85) (n_pa : g.2.2.1 pa = 8) (kz : g.2.1 h 38 = .int z) (kna : g.2.1 h 39 = .ref na) (kpa : g.2.1 h 40 = .ref pa) (l_z : 0 ≤ z.toInt) (u_z : z.toInt ≤ 7) (hN_0 : PL 8 g na pa) {p : Program} {e : Env} {s : State} {m : MethodId} {args : Array Value} {below : List Frame} {meth : Method} {c : Code} (hB : Tz p s m meth c args cX7_readsAct 4 RX7 D cI cZ cS cR N0) (hr : meth.sig.returnType = none)    : ∀ (g1 : GS) (w : Int32) (cc : Int32) (v : Int32)  (H : Heap) (locs : List Loc) (ls : Array Slot), Tv D cI cZ cS cR N0 s.heap H locs g1 → Inv g1 → Ex g g1 → Sm md_m_readsAct g g1 → 0 ≤ cc.toInt → cc.toInt ≤ 5 → 0 ≤ v.toInt → v.toInt ≤ 1001 → g1.2.1 h 38 = .int z → (PL 8 g1 na pa) → (cc.toInt ≤ 3 ∨ w.toInt = 5) → lv_has ls 4 [(1, .int w), (2, .int cc), (3, .int v), (0, .ref h)] → W p l e (rmx 2 0 0) s m args below meth c H locs 0 0 (MQ below (tQ D cI cZ cS cR N0 (fun v g' => ∃ (z2 : Int32), v = none ∧ Inv g' ∧ Ex g g' ∧ Sm md_m_readsAct g g' ∧ (g'.2.1 h 38 = .int z2) ∧ (z2.toInt = z.toInt + 1) ∧ (PL 8 g' na pa))) args s 0 0 (fun q => N0.1 ≤ q)) (F0 m 265 ls []) := by
  have hx := hB.1
  have hb := hB.2.1
  intro g1 w cc v H locs ls hT hI hE hM l_cc u_cc l_v u_v kp0 hN hcw hl
  have r_1 : g1.1 h = 8 := Ex.r hE r_h (by decide)
  have r_2 : g1.1 na = 84 := Ex.r hE r_na (by decide)
  have n_3 : g1.2.2.1 na = 8 := Ex.n hE r_na (by decide) n_na
  have r_4 : g1.1 pa = 85 := Ex.r hE r_pa (by decide)
  have n_5 : g1.2.2.1 pa = 8 := Ex.n hE r_pa (by decide) n_pa
  have kn_6 : g1.2.1 h 39 = .ref na := Sm.v hM r_h (by decide) rfl kna
  have kn_7 : g1.2.1 h 40 = .ref pa := Sm.v hM r_h (by decide) rfl kpa
  refine lv_aload_n hx hb dX7_readsAct_265 rfl (lv_at hl 3 rfl) ?_
  refine t_get (ci := 7) (v := .ref na) hB hT (ro_ci r_1 rfl) rfl 39 (by decide) k_784 kn_6 dX7_readsAct_266 ?_
  refine lv_aload_n hx hb dX7_readsAct_269 rfl (lv_at hl 3 rfl) ?_
  refine t_get (ci := 7) (v := .int z) hB hT (ro_ci r_1 rfl) rfl 38 (by decide) k_783 kp0 dX7_readsAct_270 ?_
  refine lv_iload_n hx hb dX7_readsAct_273 rfl (lv_at hl 0 rfl) ?_
  have i_8 : vp_in z 8 := (i_in (n := 8) rfl (by omega) (by omega))
  refine t_iast hB hT (ro_in r_2 (by decide)) n_3 i_8 dX7_readsAct_274 (fun H locs hT => ?_)
  have hI : Inv (sC g1 na z.toNatClampNeg w) := hI.sC (ck r_2 trivial)
  have hM : Sm md_m_readsAct g (sC g1 na z.toNatClampNeg w) := hM.tr hE (Sm_sC (by rw [r_2]; rfl))
  have hE : Ex g (sC g1 na z.toNatClampNeg w) := hE
  refine lv_aload_n hx hb dX7_readsAct_275 rfl (lv_at hl 3 rfl) ?_
  refine t_get (ci := 7) (v := .ref pa) hB hT (ro_ci r_1 rfl) rfl 40 (by decide) k_785 kn_7 dX7_readsAct_276 ?_
  refine lv_aload_n hx hb dX7_readsAct_279 rfl (lv_at hl 3 rfl) ?_
  refine t_get (ci := 7) (v := .int z) hB hT (ro_ci r_1 rfl) rfl 38 (by decide) k_783 kp0 dX7_readsAct_280 ?_
  refine lv_iload_n hx hb dX7_readsAct_283 rfl (lv_at hl 1 rfl) ?_
  have i_9 : vp_in z 8 := (i_in (n := 8) rfl (by omega) (by omega))
  refine t_iast hB hT (ro_in r_4 (by decide)) n_5 i_9 dX7_readsAct_284 (fun H locs hT => ?_)
  have hI : Inv (sC (sC g1 na z.toNatClampNeg w) pa z.toNatClampNeg cc) := hI.sC (ck r_4 ⟨by omega, by omega⟩)
  have hM : Sm md_m_readsAct g (sC (sC g1 na z.toNatClampNeg w) pa z.toNatClampNeg cc) := hM.tr hE (Sm_sC (by rw [r_4]; rfl))
  have hE : Ex g (sC (sC g1 na z.toNatClampNeg w) pa z.toNatClampNeg cc) := hE
  have hN : PL 8 (sC (sC g1 na z.toNatClampNeg w) pa z.toNatClampNeg cc) na pa := PL.st hN (ro_ne r_2 r_4 (by decide)) rfl hcw
  refine lv_aload_n hx hb dX7_readsAct_285 rfl (lv_at hl 3 rfl) ?_
  obtain ⟨v_10, e_v_10, r_v_10, n_v_10⟩ := f_8_41 hI r_1
  refine t_get (ci := 7) (v := .ref v_10) hB hT (ro_ci r_1 rfl) rfl 41 (by decide) k_786 e_v_10 dX7_readsAct_286 ?_
  refine lv_aload_n hx hb dX7_readsAct_289 rfl (lv_at hl 3 rfl) ?_
  refine t_get (ci := 7) (v := .int z) hB hT (ro_ci r_1 rfl) rfl 38 (by decide) k_783 kp0 dX7_readsAct_290 ?_
  refine lv_iload_n hx hb dX7_readsAct_293 rfl (lv_at hl 2 rfl) ?_
  have i_11 : vp_in z 8 := (i_in (n := 8) rfl (by omega) (by omega))
  refine t_iast hB hT (ro_in r_v_10 (by decide)) n_v_10 i_11 dX7_readsAct_294 (fun H locs hT => ?_)
  have hI : Inv (sC (sC (sC g1 na z.toNatClampNeg w) pa z.toNatClampNeg cc) v_10 z.toNatClampNeg v) := hI.sC (ck r_v_10 ⟨by omega, by omega⟩)
  have hM : Sm md_m_readsAct g (sC (sC (sC g1 na z.toNatClampNeg w) pa z.toNatClampNeg cc) v_10 z.toNatClampNeg v) := hM.tr hE (Sm_sC (by rw [r_v_10]; rfl))
  have hE : Ex g (sC (sC (sC g1 na z.toNatClampNeg w) pa z.toNatClampNeg cc) v_10 z.toNatClampNeg v) := hE
  have hN : PL 8 (sC (sC (sC g1 na z.toNatClampNeg w) pa z.toNatClampNeg cc) v_10 z.toNatClampNeg v) na pa := hN.tC (ro_ne r_2 r_v_10 (by decide)) (ro_ne r_4 r_v_10 (by decide))
  refine lv_aload_n hx hb dX7_readsAct_295 rfl (lv_at hl 3 rfl) ?_
  refine lv_dup hx hb dX7_readsAct_296 rfl ?_
  refine t_get (ci := 7) (v := .int z) hB hT (ro_ci r_1 rfl) rfl 38 (by decide) k_783 kp0 dX7_readsAct_297 ?_
  refine lv_iconst (v := 1) hx hb dX7_readsAct_300 (by decide) ?_
  refine lv_iadd hx hb dX7_readsAct_301 ?_
  refine lv_topi (fun z_12 ez_12 => ?_)
  have e_z_12 : z_12.toInt = z.toInt + 1 := i_add ez_12 rfl (by decide) (by omega) (by omega)
  refine t_put0 (ci := 7) (v := .int z_12) hB hT (ro_ci r_1 rfl) (ro_n0 r_1 (by decide)) rfl 38 (by decide) k_783 (Or.inl rfl) rfl rfl dX7_readsAct_302 (fun H locs hT => ?_)
  have hI : Inv (sF (sC (sC (sC g1 na z.toNatClampNeg w) pa z.toNatClampNeg cc) v_10 z.toNatClampNeg v) h 38 (.int z_12)) := hI.sF (p_8_38 r_1 (⟨_, rfl, by omega, by omega⟩))
  have hM : Sm md_m_readsAct g (sF (sC (sC (sC g1 na z.toNatClampNeg w) pa z.toNatClampNeg cc) v_10 z.toNatClampNeg v) h 38 (.int z_12)) := hM.tr hE (Sm_sF (by rw [r_1]; rfl))
  have hE : Ex g (sF (sC (sC (sC g1 na z.toNatClampNeg w) pa z.toNatClampNeg cc) v_10 z.toNatClampNeg v) h 38 (.int z_12)) := hE
  have hN : PL 8 (sF (sC (sC (sC g1 na z.toNatClampNeg w) pa z.toNatClampNeg cc) v_10 z.toNatClampNeg v) h 38 (.int z_12)) na pa := hN
  exact t_vret hB hr hT (Nat.le_of_ble_eq_true rfl) (Nat.le_of_ble_eq_true rfl) dX7_readsAct_305 ⟨z_12, rfl, hI, hE, hM, sF_eq, (by omega), hN⟩
set_option maxHeartbeats 4000000 in
set_option maxRecDepth 100000 in
theorem lt_m_readsAct_d (l : Launch) (D : va_G) (cI cZ cS cR : ClassId) (N0 : NT) (g : GS) (h : Nat) (z : Int32) (na : Nat) (pa : Nat) (r_h : g.1 h = 8) (r_na : g.1 na = 84) (n_na : g.2.2.1 na = 8) (r_pa : g.1 pa = 85) (n_pa : g.2.2.1 pa = 8) (kz : g.2.1 h 38 = .int z) (kna : g.2.1 h 39 = .ref na) (kpa : g.2.1 h 40 = .ref pa) (l_z : 0 ≤ z.toInt) (u_z : z.toInt ≤ 7) (hN_0 : PL 8 g na pa) {p : Program} {e : Env} {s : State} {m : MethodId} {args : Array Value} {below : List Frame} {meth : Method} {c : Code} (hB : Tz p s m meth c args cX7_readsAct 4 RX7 D cI cZ cS cR N0) (hr : meth.sig.returnType = none)    : ∀ (g1 : GS) (w : Int32) (cc : Int32)  (H : Heap) (locs : List Loc) (ls : Array Slot), Tv D cI cZ cS cR N0 s.heap H locs g1 → Inv g1 → Ex g g1 → Sm md_m_readsAct g g1 → 0 ≤ cc.toInt → cc.toInt ≤ 5 → g1.2.1 h 38 = .int z → (PL 8 g1 na pa) → (cc.toInt ≤ 3 ∨ w.toInt = 5) → lv_has ls 4 [(1, .int w), (2, .int cc), (0, .ref h)] → W p l e (rmx 2 0 0) s m args below meth c H locs 0 0 (MQ below (tQ D cI cZ cS cR N0 (fun v g' => ∃ (z2 : Int32), v = none ∧ Inv g' ∧ Ex g g' ∧ Sm md_m_readsAct g g' ∧ (g'.2.1 h 38 = .int z2) ∧ (z2.toInt = z.toInt + 1) ∧ (PL 8 g' na pa))) args s 0 0 (fun q => N0.1 ≤ q)) (F0 m 236 ls []) := by
  have hx := hB.1
  have hb := hB.2.1
  intro g1 w cc H locs ls hT hI hE hM l_cc u_cc kp0 hN hcw hl
  have r_1 : g1.1 h = 8 := Ex.r hE r_h (by decide)
  have r_2 : g1.1 na = 84 := Ex.r hE r_na (by decide)
  have n_3 : g1.2.2.1 na = 8 := Ex.n hE r_na (by decide) n_na
  have r_4 : g1.1 pa = 85 := Ex.r hE r_pa (by decide)
  have n_5 : g1.2.2.1 pa = 8 := Ex.n hE r_pa (by decide) n_pa
  have kn_6 : g1.2.1 h 39 = .ref na := Sm.v hM r_h (by decide) rfl kna
  have kn_7 : g1.2.1 h 40 = .ref pa := Sm.v hM r_h (by decide) rfl kpa
  refine lv_iconst (v := 0) hx hb dX7_readsAct_236 (by decide) ?_
  refine lv_istore_n (lv' := [(3, .int 0), (1, .int w), (2, .int cc), (0, .ref h)]) hx hb dX7_readsAct_237 rfl hl (by decide) rfl (fun ls hl => ?_)
  refine lv_iload_n hx hb dX7_readsAct_238 rfl (lv_at hl 1 rfl) ?_
  refine lv_iconst (v := 3) hx hb dX7_readsAct_239 (by decide) ?_
  refine lv_icmp_eq (tgt := 265) hx hb dX7_readsAct_240 (by decide) (fun c_8 => ?_) (fun c_8 => ?_)
  · have c_8' : w.toInt = 3 := i_eq c_8 rfl (by decide)
    exact lt_m_readsAct_e l D cI cZ cS cR N0 g h z na pa r_h r_na n_na r_pa n_pa kz kna kpa l_z u_z hN_0 hB hr   g1 w cc (0 : Int32) H locs ls hT hI hE hM (by omega) (by omega) (by decide) (by decide) kp0 hN (by have e0_ : (0 : Int32).toInt = 0 := (by decide); omega) (lv_sub hl [1, 2, 0, 3] rfl)
  · have c_8' : w.toInt ≠ 3 := i_ne c_8 rfl (by decide)
    refine lv_iload_n hx hb dX7_readsAct_243 rfl (lv_at hl 1 rfl) ?_
    refine lv_iconst (v := 4) hx hb dX7_readsAct_244 (by decide) ?_
    refine lv_icmp_eq (tgt := 265) hx hb dX7_readsAct_245 (by decide) (fun c_9 => ?_) (fun c_9 => ?_)
    · have c_9' : w.toInt = 4 := i_eq c_9 rfl (by decide)
      exact lt_m_readsAct_e l D cI cZ cS cR N0 g h z na pa r_h r_na n_na r_pa n_pa kz kna kpa l_z u_z hN_0 hB hr   g1 w cc (0 : Int32) H locs ls hT hI hE hM (by omega) (by omega) (by decide) (by decide) kp0 hN (by have e0_ : (0 : Int32).toInt = 0 := (by decide); omega) (lv_sub hl [1, 2, 0, 3] rfl)
    · have c_9' : w.toInt ≠ 4 := i_ne c_9 rfl (by decide)
      refine lv_iload_n hx hb dX7_readsAct_248 rfl (lv_at hl 1 rfl) ?_
      refine lv_bipush (v := 6) hx hb dX7_readsAct_249 (by decide) ?_
      refine lv_icmp_eq (tgt := 260) hx hb dX7_readsAct_251 (by decide) (fun c_10 => ?_) (fun c_10 => ?_)
      · have c_10' : w.toInt = 6 := i_eq c_10 rfl (by decide)
        refine lv_aload_n hx hb dX7_readsAct_260 rfl (lv_at hl 3 rfl) ?_
        refine t_callV (n := 0) (As := []) (rest := []) (ci := 7) hB hT hl.1 (m_readsWorth l D cI cZ cS cR N0 g1 hI h r_1) (ro_ci r_1 rfl) rfl k_979 k_65 k_976 k_978 k_25 (by decide +kernel) ⟨(Nat.le_of_ble_eq_true rfl), (Nat.le_of_ble_eq_true rfl)⟩ rfl (Nat.le_of_ble_eq_true rfl) ⟨(Nat.le_of_ble_eq_true rfl), (Nat.le_of_ble_eq_true rfl)⟩ dX7_readsAct_261 (fun v g_11 H locs hp hT => ?_)
        obtain ⟨r_12, rfl, hI, x_15, m_14, f_13⟩ := hp
        have hN : PL 8 g_11 na pa := hN.sm m_14 r_2 (by decide) rfl r_4 (by decide) rfl
        have hM : Sm md_m_readsAct g g_11 := hM.tr hE (m_14.mo (fun r k h => mdle_m_readsAct_m_readsWorth h))
        have hE : Ex g g_11 := hE.tr x_15
        have r_16 : g_11.1 h = 8 := (Ex.r x_15 r_1 (by decide))
        have r_17 : g_11.1 na = 84 := (Ex.r x_15 r_2 (by decide))
        have r_18 : g_11.1 pa = 85 := (Ex.r x_15 r_4 (by decide))
        have n_19 : g_11.2.2.1 na = 8 := (Ex.n x_15 r_2 (by decide) n_3)
        have n_20 : g_11.2.2.1 pa = 8 := (Ex.n x_15 r_4 (by decide) n_5)
        have kn_21 : g_11.2.1 h 38 = .int z := (Sm.v m_14 r_1 (by decide) rfl kp0)
        have kn_22 : g_11.2.1 h 39 = .ref na := (Sm.v m_14 r_1 (by decide) rfl kn_6)
        have kn_23 : g_11.2.1 h 40 = .ref pa := (Sm.v m_14 r_1 (by decide) rfl kn_7)
        refine W.eq (g2 := F0 m 264 ls [.int r_12]) rfl ?_
        refine lv_istore_n (lv' := [(3, .int r_12), (1, .int w), (2, .int cc), (0, .ref h)]) hx hb dX7_readsAct_264 rfl hl (by decide) rfl (fun ls hl => ?_)
        exact lt_m_readsAct_e l D cI cZ cS cR N0 g h z na pa r_h r_na n_na r_pa n_pa kz kna kpa l_z u_z hN_0 hB hr   g_11 w cc r_12 H locs ls hT hI hE hM (by omega) (by omega) (by omega) (by omega) kn_21 hN (by have e0_ : (0 : Int32).toInt = 0 := (by decide); omega) (lv_sub hl [1, 2, 0, 3] rfl)
      · have c_10' : w.toInt ≠ 6 := i_ne c_10 rfl (by decide)
        refine lv_aload_n hx hb dX7_readsAct_254 rfl (lv_at hl 3 rfl) ?_
        refine lv_bipush (v := 32) hx hb dX7_readsAct_255 (by decide) ?_
        refine t_callV (n := 1) (As := [.int 32]) (rest := []) (ci := 7) hB hT hl.1 (m_must l D cI cZ cS cR N0 g1 hI h 32 r_1 (by have q0 : (32 : Int32).toInt = 32 := (by decide); omega)) (ro_ci r_1 rfl) rfl k_975 k_65 k_972 k_974 k_24 (by decide +kernel) ⟨(Nat.le_of_ble_eq_true rfl), (Nat.le_of_ble_eq_true rfl)⟩ rfl (Nat.le_of_ble_eq_true rfl) ⟨(Nat.le_of_ble_eq_true rfl), (Nat.le_of_ble_eq_true rfl)⟩ dX7_readsAct_257 (fun v g_24 H locs hp hT => ?_)
        obtain ⟨rfl, hI, x_26, m_25⟩ := hp
        have hN : PL 8 g_24 na pa := hN.sm m_25 r_2 (by decide) rfl r_4 (by decide) rfl
        have hM : Sm md_m_readsAct g g_24 := hM.tr hE (m_25.mo (fun r k h => mdle_m_readsAct_m_must h))
        have hE : Ex g g_24 := hE.tr x_26
        have r_27 : g_24.1 h = 8 := (Ex.r x_26 r_1 (by decide))
        have r_28 : g_24.1 na = 84 := (Ex.r x_26 r_2 (by decide))
        have r_29 : g_24.1 pa = 85 := (Ex.r x_26 r_4 (by decide))
        have n_30 : g_24.2.2.1 na = 8 := (Ex.n x_26 r_2 (by decide) n_3)
        have n_31 : g_24.2.2.1 pa = 8 := (Ex.n x_26 r_4 (by decide) n_5)
        have kn_32 : g_24.2.1 h 38 = .int z := (Sm.v m_25 r_1 (by decide) rfl kp0)
        have kn_33 : g_24.2.1 h 39 = .ref na := (Sm.v m_25 r_1 (by decide) rfl kn_6)
        have kn_34 : g_24.2.1 h 40 = .ref pa := (Sm.v m_25 r_1 (by decide) rfl kn_7)
        refine W.eq (g2 := F0 m 260 ls []) rfl ?_
        refine lv_aload_n hx hb dX7_readsAct_260 rfl (lv_at hl 3 rfl) ?_
        refine t_callV (n := 0) (As := []) (rest := []) (ci := 7) hB hT hl.1 (m_readsWorth l D cI cZ cS cR N0 g_24 hI h r_27) (ro_ci r_27 rfl) rfl k_979 k_65 k_976 k_978 k_25 (by decide +kernel) ⟨(Nat.le_of_ble_eq_true rfl), (Nat.le_of_ble_eq_true rfl)⟩ rfl (Nat.le_of_ble_eq_true rfl) ⟨(Nat.le_of_ble_eq_true rfl), (Nat.le_of_ble_eq_true rfl)⟩ dX7_readsAct_261 (fun v g_35 H locs hp hT => ?_)
        obtain ⟨r_36, rfl, hI, x_39, m_38, f_37⟩ := hp
        have hN : PL 8 g_35 na pa := hN.sm m_38 r_28 (by decide) rfl r_29 (by decide) rfl
        have hM : Sm md_m_readsAct g g_35 := hM.tr hE (m_38.mo (fun r k h => mdle_m_readsAct_m_readsWorth h))
        have hE : Ex g g_35 := hE.tr x_39
        have r_40 : g_35.1 h = 8 := (Ex.r x_39 r_27 (by decide))
        have r_41 : g_35.1 na = 84 := (Ex.r x_39 r_28 (by decide))
        have r_42 : g_35.1 pa = 85 := (Ex.r x_39 r_29 (by decide))
        have n_43 : g_35.2.2.1 na = 8 := (Ex.n x_39 r_28 (by decide) n_30)
        have n_44 : g_35.2.2.1 pa = 8 := (Ex.n x_39 r_29 (by decide) n_31)
        have kn_45 : g_35.2.1 h 38 = .int z := (Sm.v m_38 r_27 (by decide) rfl kn_32)
        have kn_46 : g_35.2.1 h 39 = .ref na := (Sm.v m_38 r_27 (by decide) rfl kn_33)
        have kn_47 : g_35.2.1 h 40 = .ref pa := (Sm.v m_38 r_27 (by decide) rfl kn_34)
        refine W.eq (g2 := F0 m 264 ls [.int r_36]) rfl ?_
        refine lv_istore_n (lv' := [(3, .int r_36), (1, .int w), (2, .int cc), (0, .ref h)]) hx hb dX7_readsAct_264 rfl hl (by decide) rfl (fun ls hl => ?_)
        exact lt_m_readsAct_e l D cI cZ cS cR N0 g h z na pa r_h r_na n_na r_pa n_pa kz kna kpa l_z u_z hN_0 hB hr   g_35 w cc r_36 H locs ls hT hI hE hM (by omega) (by omega) (by omega) (by omega) kn_45 hN (by have e0_ : (0 : Int32).toInt = 0 := (by decide); omega) (lv_sub hl [1, 2, 0, 3] rfl)
set_option maxHeartbeats 4000000 in
set_option maxRecDepth 100000 in
theorem lt_m_readsAct_c (l : Launch) (D : va_G) (cI cZ cS cR : ClassId) (N0 : NT) (g : GS) (h : Nat) (z : Int32) (na : Nat) (pa : Nat) (r_h : g.1 h = 8) (r_na : g.1 na = 84) (n_na : g.2.2.1 na = 8) (r_pa : g.1 pa = 85) (n_pa : g.2.2.1 pa = 8) (kz : g.2.1 h 38 = .int z) (kna : g.2.1 h 39 = .ref na) (kpa : g.2.1 h 40 = .ref pa) (l_z : 0 ≤ z.toInt) (u_z : z.toInt ≤ 7) (hN_0 : PL 8 g na pa) {p : Program} {e : Env} {s : State} {m : MethodId} {args : Array Value} {below : List Frame} {meth : Method} {c : Code} (hB : Tz p s m meth c args cX7_readsAct 4 RX7 D cI cZ cS cR N0) (hr : meth.sig.returnType = none)    : ∀ (g1 : GS) (w : Int32)  (H : Heap) (locs : List Loc) (ls : Array Slot), Tv D cI cZ cS cR N0 s.heap H locs g1 → Inv g1 → Ex g g1 → Sm md_m_readsAct g g1 → g1.2.1 h 38 = .int z → (PL 8 g1 na pa) → lv_has ls 4 [(1, .int w), (0, .ref h)] → W p l e (rmx 2 0 0) s m args below meth c H locs 0 0 (MQ below (tQ D cI cZ cS cR N0 (fun v g' => ∃ (z2 : Int32), v = none ∧ Inv g' ∧ Ex g g' ∧ Sm md_m_readsAct g g' ∧ (g'.2.1 h 38 = .int z2) ∧ (z2.toInt = z.toInt + 1) ∧ (PL 8 g' na pa))) args s 0 0 (fun q => N0.1 ≤ q)) (F0 m 134 ls []) := by
  have hx := hB.1
  have hb := hB.2.1
  intro g1 w H locs ls hT hI hE hM kp0 hN hl
  have r_1 : g1.1 h = 8 := Ex.r hE r_h (by decide)
  have r_2 : g1.1 na = 84 := Ex.r hE r_na (by decide)
  have n_3 : g1.2.2.1 na = 8 := Ex.n hE r_na (by decide) n_na
  have r_4 : g1.1 pa = 85 := Ex.r hE r_pa (by decide)
  have n_5 : g1.2.2.1 pa = 8 := Ex.n hE r_pa (by decide) n_pa
  have kn_6 : g1.2.1 h 39 = .ref na := Sm.v hM r_h (by decide) rfl kna
  have kn_7 : g1.2.1 h 40 = .ref pa := Sm.v hM r_h (by decide) rfl kpa
  refine lv_aload_n hx hb dX7_readsAct_134 rfl (lv_at hl 1 rfl) ?_
  refine lv_bipush (v := 32) hx hb dX7_readsAct_135 (by decide) ?_
  refine t_callV (n := 1) (As := [.int 32]) (rest := []) (ci := 7) hB hT hl.1 (m_must l D cI cZ cS cR N0 g1 hI h 32 r_1 (by have q0 : (32 : Int32).toInt = 32 := (by decide); omega)) (ro_ci r_1 rfl) rfl k_975 k_65 k_972 k_974 k_24 (by decide +kernel) ⟨(Nat.le_of_ble_eq_true rfl), (Nat.le_of_ble_eq_true rfl)⟩ rfl (Nat.le_of_ble_eq_true rfl) ⟨(Nat.le_of_ble_eq_true rfl), (Nat.le_of_ble_eq_true rfl)⟩ dX7_readsAct_137 (fun v g_8 H locs hp hT => ?_)
  obtain ⟨rfl, hI, x_10, m_9⟩ := hp
  have hN : PL 8 g_8 na pa := hN.sm m_9 r_2 (by decide) rfl r_4 (by decide) rfl
  have hM : Sm md_m_readsAct g g_8 := hM.tr hE (m_9.mo (fun r k h => mdle_m_readsAct_m_must h))
  have hE : Ex g g_8 := hE.tr x_10
  have r_11 : g_8.1 h = 8 := (Ex.r x_10 r_1 (by decide))
  have r_12 : g_8.1 na = 84 := (Ex.r x_10 r_2 (by decide))
  have r_13 : g_8.1 pa = 85 := (Ex.r x_10 r_4 (by decide))
  have n_14 : g_8.2.2.1 na = 8 := (Ex.n x_10 r_2 (by decide) n_3)
  have n_15 : g_8.2.2.1 pa = 8 := (Ex.n x_10 r_4 (by decide) n_5)
  have kn_16 : g_8.2.1 h 38 = .int z := (Sm.v m_9 r_1 (by decide) rfl kp0)
  have kn_17 : g_8.2.1 h 39 = .ref na := (Sm.v m_9 r_1 (by decide) rfl kn_6)
  have kn_18 : g_8.2.1 h 40 = .ref pa := (Sm.v m_9 r_1 (by decide) rfl kn_7)
  refine W.eq (g2 := F0 m 140 ls []) rfl ?_
  refine lv_iconst (v := 0) hx hb dX7_readsAct_140 (by decide) ?_
  refine lv_istore_n (lv' := [(2, .int 0), (1, .int w), (0, .ref h)]) hx hb dX7_readsAct_141 rfl hl (by decide) rfl (fun ls hl => ?_)
  refine lv_iload_n hx hb dX7_readsAct_142 rfl (lv_at hl 1 rfl) ?_
  refine lv_bipush (v := 6) hx hb dX7_readsAct_143 (by decide) ?_
  refine lv_icmp_eq (tgt := 236) hx hb dX7_readsAct_145 (by decide) (fun c_19 => ?_) (fun c_19 => ?_)
  · have c_19' : w.toInt = 6 := i_eq c_19 rfl (by decide)
    exact lt_m_readsAct_d l D cI cZ cS cR N0 g h z na pa r_h r_na n_na r_pa n_pa kz kna kpa l_z u_z hN_0 hB hr   g_8 w (0 : Int32) H locs ls hT hI hE hM (by decide) (by decide) kn_16 hN (by have e0_ : (0 : Int32).toInt = 0 := (by decide); omega) (lv_sub hl [1, 0, 2] rfl)
  · have c_19' : w.toInt ≠ 6 := i_ne c_19 rfl (by decide)
    refine lv_aload_n hx hb dX7_readsAct_148 rfl (lv_at hl 2 rfl) ?_
    refine lv_aload_n hx hb dX7_readsAct_149 rfl (lv_at hl 2 rfl) ?_
    obtain ⟨v_20, e_v_20, l_v_20, u_v_20⟩ := f_8_37 hI r_11
    refine t_get (ci := 7) (v := .int v_20) hB hT (ro_ci r_11 rfl) rfl 37 (by decide) k_782 e_v_20 dX7_readsAct_150 ?_
    refine lv_if_ne (tgt := 184) hx hb dX7_readsAct_153 (by decide) (fun c_21 => ?_) (fun c_21 => ?_)
    · have c_21' : v_20.toInt ≠ 0 := i_ne c_21 rfl (by decide)
      refine lv_iconst (v := 1) hx hb dX7_readsAct_184 (by decide) ?_
      refine lv_goto (tgt := 189) hx hb dX7_readsAct_185 (by decide) ?_
      refine t_put0 (ci := 7) (v := .int 1) hB hT (ro_ci r_11 rfl) (ro_n0 r_11 (by decide)) rfl 37 (by decide) k_782 (Or.inl rfl) rfl rfl dX7_readsAct_189 (fun H locs hT => ?_)
      have hI : Inv (sF g_8 h 37 (.int 1)) := hI.sF (p_8_37 r_11 (⟨_, rfl, by decide, by decide⟩))
      have hM : Sm md_m_readsAct g (sF g_8 h 37 (.int 1)) := hM.tr hE (Sm_sF (by rw [r_11]; rfl))
      have hE : Ex g (sF g_8 h 37 (.int 1)) := hE
      have hN : PL 8 (sF g_8 h 37 (.int 1)) na pa := hN
      refine lv_aload_n hx hb dX7_readsAct_192 rfl (lv_at hl 2 rfl) ?_
      refine t_get (ci := 7) (v := .int 1) hB hT (ro_ci r_11 rfl) rfl 37 (by decide) k_782 sF_eq dX7_readsAct_193 ?_
      refine lv_if_eq (tgt := 203) hx hb dX7_readsAct_196 (by decide) (fun c_ => absurd c_ (by decide)) (fun c_ => ?_)
      refine lv_iconst (v := 0) hx hb dX7_readsAct_199 (by decide) ?_
      refine lv_goto (tgt := 214) hx hb dX7_readsAct_200 (by decide) ?_
      refine lv_istore_n (lv' := [(2, .int 0), (1, .int w), (0, .ref h)]) hx hb dX7_readsAct_214 rfl hl (by decide) rfl (fun ls hl => ?_)
      refine lv_aload_n hx hb dX7_readsAct_215 rfl (lv_at hl 2 rfl) ?_
      refine lv_dup hx hb dX7_readsAct_216 rfl ?_
      obtain ⟨v_22, e_v_22, l_v_22, u_v_22⟩ := f_8_36 hI r_11
      refine t_get (ci := 7) (v := .int v_22) hB hT (ro_ci r_11 rfl) rfl 36 (by decide) k_781 e_v_22 dX7_readsAct_217 ?_
      refine lv_aload_n hx hb dX7_readsAct_220 rfl (lv_at hl 2 rfl) ?_
      refine t_get (ci := 7) (v := .int 1) hB hT (ro_ci r_11 rfl) rfl 37 (by decide) k_782 sF_eq dX7_readsAct_221 ?_
      refine lv_if_eq (tgt := 231) hx hb dX7_readsAct_224 (by decide) (fun c_ => absurd c_ (by decide)) (fun c_ => ?_)
      refine lv_iconst (v := 0) hx hb dX7_readsAct_227 (by decide) ?_
      refine lv_goto (tgt := 232) hx hb dX7_readsAct_228 (by decide) ?_
      refine lv_iadd hx hb dX7_readsAct_232 ?_
      refine lv_topi (fun z_23 ez_23 => ?_)
      have e_z_23 : z_23.toInt = v_22.toInt + 0 := i_add ez_23 rfl (by decide) (by omega) (by omega)
      refine t_put0 (ci := 7) (v := .int z_23) hB hT (ro_ci r_11 rfl) (ro_n0 r_11 (by decide)) rfl 36 (by decide) k_781 (Or.inl rfl) rfl rfl dX7_readsAct_233 (fun H locs hT => ?_)
      have hI : Inv (sF (sF g_8 h 37 (.int 1)) h 36 (.int z_23)) := hI.sF (p_8_36 r_11 (⟨_, rfl, by omega, by omega⟩))
      have hM : Sm md_m_readsAct g (sF (sF g_8 h 37 (.int 1)) h 36 (.int z_23)) := hM.tr hE (Sm_sF (by rw [r_11]; rfl))
      have hE : Ex g (sF (sF g_8 h 37 (.int 1)) h 36 (.int z_23)) := hE
      have hN : PL 8 (sF (sF g_8 h 37 (.int 1)) h 36 (.int z_23)) na pa := hN
      exact lt_m_readsAct_d l D cI cZ cS cR N0 g h z na pa r_h r_na n_na r_pa n_pa kz kna kpa l_z u_z hN_0 hB hr   (sF (sF g_8 h 37 (.int 1)) h 36 (.int z_23)) w (0 : Int32) H locs ls hT hI hE hM (by decide) (by decide) (sF_k (sF_k kn_16 (by decide)) (by decide)) hN (by have e0_ : (0 : Int32).toInt = 0 := (by decide); omega) (lv_sub hl [1, 0, 2] rfl)
    · have c_21' : v_20.toInt = 0 := i_eq c_21 rfl (by decide)
      refine lv_aload_n hx hb dX7_readsAct_156 rfl (lv_at hl 2 rfl) ?_
      refine lv_aload_n hx hb dX7_readsAct_157 rfl (lv_at hl 2 rfl) ?_
      obtain ⟨v_24, e_v_24, l_v_24, u_v_24⟩ := f_8_36 hI r_11
      refine t_get (ci := 7) (v := .int v_24) hB hT (ro_ci r_11 rfl) rfl 36 (by decide) k_781 e_v_24 dX7_readsAct_158 ?_
      obtain ⟨v_25, e_v_25, l_v_25, u_v_25⟩ := f_8_29 hI r_11
      obtain ⟨v_26, e_v_26, r_v_26, n_v_26⟩ := f_8_28 hI r_11
      refine t_callV (n := 1) (As := [.int v_24]) (rest := [.ref h]) (ci := 7) hB hT hl.1 (m_byteAt l D cI cZ cS cR N0 g_8 hI h v_24 v_25 v_26 r_11 r_v_26 n_v_26 e_v_25 e_v_26 (by omega) (by omega) (by omega) (by omega)) (ro_ci r_11 rfl) rfl k_971 k_65 k_968 k_970 k_23 (by decide +kernel) ⟨(Nat.le_of_ble_eq_true rfl), (Nat.le_of_ble_eq_true rfl)⟩ rfl (Nat.le_of_ble_eq_true rfl) ⟨(Nat.le_of_ble_eq_true rfl), (Nat.le_of_ble_eq_true rfl)⟩ dX7_readsAct_161 (fun v g_27 H locs hp hT => ?_)
      obtain ⟨r_28, rfl, eg, f_29, f_30⟩ := hp
      rw [eg] at hT
      clear eg
      refine W.eq (g2 := F0 m 164 ls [.int r_28, .ref h]) rfl ?_
      refine lv_bipush (v := 48) hx hb dX7_readsAct_164 (by decide) ?_
      refine lv_iload_n hx hb dX7_readsAct_166 rfl (lv_at hl 1 rfl) ?_
      refine lv_iconst (v := 5) hx hb dX7_readsAct_167 (by decide) ?_
      refine lv_icmp_ne (tgt := 176) hx hb dX7_readsAct_168 (by decide) (fun c_33 => ?_) (fun c_33 => ?_)
      · have c_33' : w.toInt ≠ 5 := i_ne c_33 rfl (by decide)
        refine lv_bipush (v := 51) hx hb dX7_readsAct_176 (by decide) ?_
        refine t_callS (n := 3) (As := [.int r_28, .int 48, .int 51]) (rest := [.ref h]) hB hT hl.1 (m_in l D cI cZ cS cR N0 g_8 hI r_28 48 51 ) k_954 k_65 k_952 k_953 (by decide +kernel) ⟨(Nat.le_of_ble_eq_true rfl), (Nat.le_of_ble_eq_true rfl)⟩ rfl (Nat.le_of_ble_eq_true rfl) ⟨(Nat.le_of_ble_eq_true rfl), (Nat.le_of_ble_eq_true rfl)⟩ dX7_readsAct_178 (fun v g_34 H locs hp hT => ?_)
        obtain ⟨r_35, rfl, eg, f_36⟩ := hp
        rw [eg] at hT
        clear eg
        refine W.eq (g2 := F0 m 181 ls [.int r_35, .ref h]) rfl ?_
        have qc_39 : (48 : Int32).toInt = 48 := (by decide)
        have qc_40 : (51 : Int32).toInt = 51 := (by decide)
        rcases f_36 with ⟨rfl, hw_41, hw_42⟩ | ⟨rfl, hw_43⟩
        · refine W.eq (g2 := F0 m 181 ls [.int 1, .ref h]) rfl ?_
          refine lv_if_ne (tgt := 188) hx hb dX7_readsAct_181 (by decide) (fun c_ => ?_) (fun c_ => absurd c_ (by decide))
          refine lv_iconst (v := 0) hx hb dX7_readsAct_188 (by decide) ?_
          refine t_put0 (ci := 7) (v := .int 0) hB hT (ro_ci r_11 rfl) (ro_n0 r_11 (by decide)) rfl 37 (by decide) k_782 (Or.inl rfl) rfl rfl dX7_readsAct_189 (fun H locs hT => ?_)
          have hI : Inv (sF g_8 h 37 (.int 0)) := hI.sF (p_8_37 r_11 (⟨_, rfl, by decide, by decide⟩))
          have hM : Sm md_m_readsAct g (sF g_8 h 37 (.int 0)) := hM.tr hE (Sm_sF (by rw [r_11]; rfl))
          have hE : Ex g (sF g_8 h 37 (.int 0)) := hE
          have hN : PL 8 (sF g_8 h 37 (.int 0)) na pa := hN
          refine lv_aload_n hx hb dX7_readsAct_192 rfl (lv_at hl 2 rfl) ?_
          refine t_get (ci := 7) (v := .int 0) hB hT (ro_ci r_11 rfl) rfl 37 (by decide) k_782 sF_eq dX7_readsAct_193 ?_
          refine lv_if_eq (tgt := 203) hx hb dX7_readsAct_196 (by decide) (fun c_ => ?_) (fun c_ => absurd (by decide) c_)
          refine lv_aload_n hx hb dX7_readsAct_203 rfl (lv_at hl 2 rfl) ?_
          refine lv_aload_n hx hb dX7_readsAct_204 rfl (lv_at hl 2 rfl) ?_
          refine t_get (ci := 7) (v := .int v_24) hB hT (ro_ci r_11 rfl) rfl 36 (by decide) k_781 (sF_k e_v_24 (by decide)) dX7_readsAct_205 ?_
          refine t_callV (n := 1) (As := [.int v_24]) (rest := []) (ci := 7) hB hT hl.1 (m_byteAt l D cI cZ cS cR N0 (sF g_8 h 37 (.int 0)) hI h v_24 v_25 v_26 r_11 r_v_26 n_v_26 (sF_k e_v_25 (by decide)) (sF_k e_v_26 (by decide)) (by omega) (by omega) (by omega) (by omega)) (ro_ci r_11 rfl) rfl k_971 k_65 k_968 k_970 k_23 (by decide +kernel) ⟨(Nat.le_of_ble_eq_true rfl), (Nat.le_of_ble_eq_true rfl)⟩ rfl (Nat.le_of_ble_eq_true rfl) ⟨(Nat.le_of_ble_eq_true rfl), (Nat.le_of_ble_eq_true rfl)⟩ dX7_readsAct_208 (fun v g_44 H locs hp hT => ?_)
          obtain ⟨r_45, rfl, eg, f_46, f_47⟩ := hp
          rw [eg] at hT
          clear eg
          refine W.eq (g2 := F0 m 211 ls [.int r_45]) rfl ?_
          have q_r_45 : r_45 = r_28 := f_46.trans f_29.symm
          refine W.eq (g2 := F0 m 211 ls [.int r_28]) (by rw [q_r_45]) ?_
          refine lv_bipush (v := 48) hx hb dX7_readsAct_211 (by decide) ?_
          refine lv_isub hx hb dX7_readsAct_213 ?_
          refine lv_topi (fun z_50 ez_50 => ?_)
          have e_z_50 : z_50.toInt = r_28.toInt - 48 := i_sub ez_50 rfl (by decide) (by omega) (by omega)
          refine lv_istore_n (lv' := [(2, .int z_50), (1, .int w), (0, .ref h)]) hx hb dX7_readsAct_214 rfl hl (by decide) rfl (fun ls hl => ?_)
          refine lv_aload_n hx hb dX7_readsAct_215 rfl (lv_at hl 2 rfl) ?_
          refine lv_dup hx hb dX7_readsAct_216 rfl ?_
          refine t_get (ci := 7) (v := .int v_24) hB hT (ro_ci r_11 rfl) rfl 36 (by decide) k_781 (sF_k e_v_24 (by decide)) dX7_readsAct_217 ?_
          refine lv_aload_n hx hb dX7_readsAct_220 rfl (lv_at hl 2 rfl) ?_
          refine t_get (ci := 7) (v := .int 0) hB hT (ro_ci r_11 rfl) rfl 37 (by decide) k_782 sF_eq dX7_readsAct_221 ?_
          refine lv_if_eq (tgt := 231) hx hb dX7_readsAct_224 (by decide) (fun c_ => ?_) (fun c_ => absurd (by decide) c_)
          refine lv_iconst (v := 1) hx hb dX7_readsAct_231 (by decide) ?_
          refine lv_iadd hx hb dX7_readsAct_232 ?_
          refine lv_topi (fun z_51 ez_51 => ?_)
          have e_z_51 : z_51.toInt = v_24.toInt + 1 := i_add ez_51 rfl (by decide) (by omega) (by omega)
          refine t_put0 (ci := 7) (v := .int z_51) hB hT (ro_ci r_11 rfl) (ro_n0 r_11 (by decide)) rfl 36 (by decide) k_781 (Or.inl rfl) rfl rfl dX7_readsAct_233 (fun H locs hT => ?_)
          have hI : Inv (sF (sF g_8 h 37 (.int 0)) h 36 (.int z_51)) := hI.sF (p_8_36 r_11 (⟨_, rfl, by omega, by omega⟩))
          have hM : Sm md_m_readsAct g (sF (sF g_8 h 37 (.int 0)) h 36 (.int z_51)) := hM.tr hE (Sm_sF (by rw [r_11]; rfl))
          have hE : Ex g (sF (sF g_8 h 37 (.int 0)) h 36 (.int z_51)) := hE
          have hN : PL 8 (sF (sF g_8 h 37 (.int 0)) h 36 (.int z_51)) na pa := hN
          exact lt_m_readsAct_d l D cI cZ cS cR N0 g h z na pa r_h r_na n_na r_pa n_pa kz kna kpa l_z u_z hN_0 hB hr   (sF (sF g_8 h 37 (.int 0)) h 36 (.int z_51)) w z_50 H locs ls hT hI hE hM (by omega) (by omega) (sF_k (sF_k kn_16 (by decide)) (by decide)) hN (by have e0_ : (0 : Int32).toInt = 0 := (by decide); omega) (lv_sub hl [1, 0, 2] rfl)
        · refine W.eq (g2 := F0 m 181 ls [.int 0, .ref h]) rfl ?_
          refine lv_if_ne (tgt := 188) hx hb dX7_readsAct_181 (by decide) (fun c_ => absurd (by decide) c_) (fun c_ => ?_)
          refine lv_iconst (v := 1) hx hb dX7_readsAct_184 (by decide) ?_
          refine lv_goto (tgt := 189) hx hb dX7_readsAct_185 (by decide) ?_
          refine t_put0 (ci := 7) (v := .int 1) hB hT (ro_ci r_11 rfl) (ro_n0 r_11 (by decide)) rfl 37 (by decide) k_782 (Or.inl rfl) rfl rfl dX7_readsAct_189 (fun H locs hT => ?_)
          have hI : Inv (sF g_8 h 37 (.int 1)) := hI.sF (p_8_37 r_11 (⟨_, rfl, by decide, by decide⟩))
          have hM : Sm md_m_readsAct g (sF g_8 h 37 (.int 1)) := hM.tr hE (Sm_sF (by rw [r_11]; rfl))
          have hE : Ex g (sF g_8 h 37 (.int 1)) := hE
          have hN : PL 8 (sF g_8 h 37 (.int 1)) na pa := hN
          refine lv_aload_n hx hb dX7_readsAct_192 rfl (lv_at hl 2 rfl) ?_
          refine t_get (ci := 7) (v := .int 1) hB hT (ro_ci r_11 rfl) rfl 37 (by decide) k_782 sF_eq dX7_readsAct_193 ?_
          refine lv_if_eq (tgt := 203) hx hb dX7_readsAct_196 (by decide) (fun c_ => absurd c_ (by decide)) (fun c_ => ?_)
          refine lv_iconst (v := 0) hx hb dX7_readsAct_199 (by decide) ?_
          refine lv_goto (tgt := 214) hx hb dX7_readsAct_200 (by decide) ?_
          refine lv_istore_n (lv' := [(2, .int 0), (1, .int w), (0, .ref h)]) hx hb dX7_readsAct_214 rfl hl (by decide) rfl (fun ls hl => ?_)
          refine lv_aload_n hx hb dX7_readsAct_215 rfl (lv_at hl 2 rfl) ?_
          refine lv_dup hx hb dX7_readsAct_216 rfl ?_
          refine t_get (ci := 7) (v := .int v_24) hB hT (ro_ci r_11 rfl) rfl 36 (by decide) k_781 (sF_k e_v_24 (by decide)) dX7_readsAct_217 ?_
          refine lv_aload_n hx hb dX7_readsAct_220 rfl (lv_at hl 2 rfl) ?_
          refine t_get (ci := 7) (v := .int 1) hB hT (ro_ci r_11 rfl) rfl 37 (by decide) k_782 sF_eq dX7_readsAct_221 ?_
          refine lv_if_eq (tgt := 231) hx hb dX7_readsAct_224 (by decide) (fun c_ => absurd c_ (by decide)) (fun c_ => ?_)
          refine lv_iconst (v := 0) hx hb dX7_readsAct_227 (by decide) ?_
          refine lv_goto (tgt := 232) hx hb dX7_readsAct_228 (by decide) ?_
          refine lv_iadd hx hb dX7_readsAct_232 ?_
          refine lv_topi (fun z_52 ez_52 => ?_)
          have e_z_52 : z_52.toInt = v_24.toInt + 0 := i_add ez_52 rfl (by decide) (by omega) (by omega)
          refine t_put0 (ci := 7) (v := .int z_52) hB hT (ro_ci r_11 rfl) (ro_n0 r_11 (by decide)) rfl 36 (by decide) k_781 (Or.inl rfl) rfl rfl dX7_readsAct_233 (fun H locs hT => ?_)
          have hI : Inv (sF (sF g_8 h 37 (.int 1)) h 36 (.int z_52)) := hI.sF (p_8_36 r_11 (⟨_, rfl, by omega, by omega⟩))
          have hM : Sm md_m_readsAct g (sF (sF g_8 h 37 (.int 1)) h 36 (.int z_52)) := hM.tr hE (Sm_sF (by rw [r_11]; rfl))
          have hE : Ex g (sF (sF g_8 h 37 (.int 1)) h 36 (.int z_52)) := hE
          have hN : PL 8 (sF (sF g_8 h 37 (.int 1)) h 36 (.int z_52)) na pa := hN
          exact lt_m_readsAct_d l D cI cZ cS cR N0 g h z na pa r_h r_na n_na r_pa n_pa kz kna kpa l_z u_z hN_0 hB hr   (sF (sF g_8 h 37 (.int 1)) h 36 (.int z_52)) w (0 : Int32) H locs ls hT hI hE hM (by decide) (by decide) (sF_k (sF_k kn_16 (by decide)) (by decide)) hN (by have e0_ : (0 : Int32).toInt = 0 := (by decide); omega) (lv_sub hl [1, 0, 2] rfl)
      · have c_33' : w.toInt = 5 := i_eq c_33 rfl (by decide)
        refine lv_bipush (v := 53) hx hb dX7_readsAct_171 (by decide) ?_
        refine lv_goto (tgt := 178) hx hb dX7_readsAct_173 (by decide) ?_
        refine t_callS (n := 3) (As := [.int r_28, .int 48, .int 53]) (rest := [.ref h]) hB hT hl.1 (m_in l D cI cZ cS cR N0 g_8 hI r_28 48 53 ) k_954 k_65 k_952 k_953 (by decide +kernel) ⟨(Nat.le_of_ble_eq_true rfl), (Nat.le_of_ble_eq_true rfl)⟩ rfl (Nat.le_of_ble_eq_true rfl) ⟨(Nat.le_of_ble_eq_true rfl), (Nat.le_of_ble_eq_true rfl)⟩ dX7_readsAct_178 (fun v g_53 H locs hp hT => ?_)
        obtain ⟨r_54, rfl, eg, f_55⟩ := hp
        rw [eg] at hT
        clear eg
        refine W.eq (g2 := F0 m 181 ls [.int r_54, .ref h]) rfl ?_
        have qc_58 : (48 : Int32).toInt = 48 := (by decide)
        have qc_59 : (53 : Int32).toInt = 53 := (by decide)
        rcases f_55 with ⟨rfl, hw_60, hw_61⟩ | ⟨rfl, hw_62⟩
        · refine W.eq (g2 := F0 m 181 ls [.int 1, .ref h]) rfl ?_
          refine lv_if_ne (tgt := 188) hx hb dX7_readsAct_181 (by decide) (fun c_ => ?_) (fun c_ => absurd c_ (by decide))
          refine lv_iconst (v := 0) hx hb dX7_readsAct_188 (by decide) ?_
          refine t_put0 (ci := 7) (v := .int 0) hB hT (ro_ci r_11 rfl) (ro_n0 r_11 (by decide)) rfl 37 (by decide) k_782 (Or.inl rfl) rfl rfl dX7_readsAct_189 (fun H locs hT => ?_)
          have hI : Inv (sF g_8 h 37 (.int 0)) := hI.sF (p_8_37 r_11 (⟨_, rfl, by decide, by decide⟩))
          have hM : Sm md_m_readsAct g (sF g_8 h 37 (.int 0)) := hM.tr hE (Sm_sF (by rw [r_11]; rfl))
          have hE : Ex g (sF g_8 h 37 (.int 0)) := hE
          have hN : PL 8 (sF g_8 h 37 (.int 0)) na pa := hN
          refine lv_aload_n hx hb dX7_readsAct_192 rfl (lv_at hl 2 rfl) ?_
          refine t_get (ci := 7) (v := .int 0) hB hT (ro_ci r_11 rfl) rfl 37 (by decide) k_782 sF_eq dX7_readsAct_193 ?_
          refine lv_if_eq (tgt := 203) hx hb dX7_readsAct_196 (by decide) (fun c_ => ?_) (fun c_ => absurd (by decide) c_)
          refine lv_aload_n hx hb dX7_readsAct_203 rfl (lv_at hl 2 rfl) ?_
          refine lv_aload_n hx hb dX7_readsAct_204 rfl (lv_at hl 2 rfl) ?_
          refine t_get (ci := 7) (v := .int v_24) hB hT (ro_ci r_11 rfl) rfl 36 (by decide) k_781 (sF_k e_v_24 (by decide)) dX7_readsAct_205 ?_
          refine t_callV (n := 1) (As := [.int v_24]) (rest := []) (ci := 7) hB hT hl.1 (m_byteAt l D cI cZ cS cR N0 (sF g_8 h 37 (.int 0)) hI h v_24 v_25 v_26 r_11 r_v_26 n_v_26 (sF_k e_v_25 (by decide)) (sF_k e_v_26 (by decide)) (by omega) (by omega) (by omega) (by omega)) (ro_ci r_11 rfl) rfl k_971 k_65 k_968 k_970 k_23 (by decide +kernel) ⟨(Nat.le_of_ble_eq_true rfl), (Nat.le_of_ble_eq_true rfl)⟩ rfl (Nat.le_of_ble_eq_true rfl) ⟨(Nat.le_of_ble_eq_true rfl), (Nat.le_of_ble_eq_true rfl)⟩ dX7_readsAct_208 (fun v g_63 H locs hp hT => ?_)
          obtain ⟨r_64, rfl, eg, f_65, f_66⟩ := hp
          rw [eg] at hT
          clear eg
          refine W.eq (g2 := F0 m 211 ls [.int r_64]) rfl ?_
          have q_r_64 : r_64 = r_28 := f_65.trans f_29.symm
          refine W.eq (g2 := F0 m 211 ls [.int r_28]) (by rw [q_r_64]) ?_
          refine lv_bipush (v := 48) hx hb dX7_readsAct_211 (by decide) ?_
          refine lv_isub hx hb dX7_readsAct_213 ?_
          refine lv_topi (fun z_69 ez_69 => ?_)
          have e_z_69 : z_69.toInt = r_28.toInt - 48 := i_sub ez_69 rfl (by decide) (by omega) (by omega)
          refine lv_istore_n (lv' := [(2, .int z_69), (1, .int w), (0, .ref h)]) hx hb dX7_readsAct_214 rfl hl (by decide) rfl (fun ls hl => ?_)
          refine lv_aload_n hx hb dX7_readsAct_215 rfl (lv_at hl 2 rfl) ?_
          refine lv_dup hx hb dX7_readsAct_216 rfl ?_
          refine t_get (ci := 7) (v := .int v_24) hB hT (ro_ci r_11 rfl) rfl 36 (by decide) k_781 (sF_k e_v_24 (by decide)) dX7_readsAct_217 ?_
          refine lv_aload_n hx hb dX7_readsAct_220 rfl (lv_at hl 2 rfl) ?_
          refine t_get (ci := 7) (v := .int 0) hB hT (ro_ci r_11 rfl) rfl 37 (by decide) k_782 sF_eq dX7_readsAct_221 ?_
          refine lv_if_eq (tgt := 231) hx hb dX7_readsAct_224 (by decide) (fun c_ => ?_) (fun c_ => absurd (by decide) c_)
          refine lv_iconst (v := 1) hx hb dX7_readsAct_231 (by decide) ?_
          refine lv_iadd hx hb dX7_readsAct_232 ?_
          refine lv_topi (fun z_70 ez_70 => ?_)
          have e_z_70 : z_70.toInt = v_24.toInt + 1 := i_add ez_70 rfl (by decide) (by omega) (by omega)
          refine t_put0 (ci := 7) (v := .int z_70) hB hT (ro_ci r_11 rfl) (ro_n0 r_11 (by decide)) rfl 36 (by decide) k_781 (Or.inl rfl) rfl rfl dX7_readsAct_233 (fun H locs hT => ?_)
          have hI : Inv (sF (sF g_8 h 37 (.int 0)) h 36 (.int z_70)) := hI.sF (p_8_36 r_11 (⟨_, rfl, by omega, by omega⟩))
          have hM : Sm md_m_readsAct g (sF (sF g_8 h 37 (.int 0)) h 36 (.int z_70)) := hM.tr hE (Sm_sF (by rw [r_11]; rfl))
          have hE : Ex g (sF (sF g_8 h 37 (.int 0)) h 36 (.int z_70)) := hE
          have hN : PL 8 (sF (sF g_8 h 37 (.int 0)) h 36 (.int z_70)) na pa := hN
          exact lt_m_readsAct_d l D cI cZ cS cR N0 g h z na pa r_h r_na n_na r_pa n_pa kz kna kpa l_z u_z hN_0 hB hr   (sF (sF g_8 h 37 (.int 0)) h 36 (.int z_70)) w z_69 H locs ls hT hI hE hM (by omega) (by omega) (sF_k (sF_k kn_16 (by decide)) (by decide)) hN (by have e0_ : (0 : Int32).toInt = 0 := (by decide); omega) (lv_sub hl [1, 0, 2] rfl)
        · refine W.eq (g2 := F0 m 181 ls [.int 0, .ref h]) rfl ?_
          refine lv_if_ne (tgt := 188) hx hb dX7_readsAct_181 (by decide) (fun c_ => absurd (by decide) c_) (fun c_ => ?_)
          refine lv_iconst (v := 1) hx hb dX7_readsAct_184 (by decide) ?_
          refine lv_goto (tgt := 189) hx hb dX7_readsAct_185 (by decide) ?_
          refine t_put0 (ci := 7) (v := .int 1) hB hT (ro_ci r_11 rfl) (ro_n0 r_11 (by decide)) rfl 37 (by decide) k_782 (Or.inl rfl) rfl rfl dX7_readsAct_189 (fun H locs hT => ?_)
          have hI : Inv (sF g_8 h 37 (.int 1)) := hI.sF (p_8_37 r_11 (⟨_, rfl, by decide, by decide⟩))
          have hM : Sm md_m_readsAct g (sF g_8 h 37 (.int 1)) := hM.tr hE (Sm_sF (by rw [r_11]; rfl))
          have hE : Ex g (sF g_8 h 37 (.int 1)) := hE
          have hN : PL 8 (sF g_8 h 37 (.int 1)) na pa := hN
          refine lv_aload_n hx hb dX7_readsAct_192 rfl (lv_at hl 2 rfl) ?_
          refine t_get (ci := 7) (v := .int 1) hB hT (ro_ci r_11 rfl) rfl 37 (by decide) k_782 sF_eq dX7_readsAct_193 ?_
          refine lv_if_eq (tgt := 203) hx hb dX7_readsAct_196 (by decide) (fun c_ => absurd c_ (by decide)) (fun c_ => ?_)
          refine lv_iconst (v := 0) hx hb dX7_readsAct_199 (by decide) ?_
          refine lv_goto (tgt := 214) hx hb dX7_readsAct_200 (by decide) ?_
          refine lv_istore_n (lv' := [(2, .int 0), (1, .int w), (0, .ref h)]) hx hb dX7_readsAct_214 rfl hl (by decide) rfl (fun ls hl => ?_)
          refine lv_aload_n hx hb dX7_readsAct_215 rfl (lv_at hl 2 rfl) ?_
          refine lv_dup hx hb dX7_readsAct_216 rfl ?_
          refine t_get (ci := 7) (v := .int v_24) hB hT (ro_ci r_11 rfl) rfl 36 (by decide) k_781 (sF_k e_v_24 (by decide)) dX7_readsAct_217 ?_
          refine lv_aload_n hx hb dX7_readsAct_220 rfl (lv_at hl 2 rfl) ?_
          refine t_get (ci := 7) (v := .int 1) hB hT (ro_ci r_11 rfl) rfl 37 (by decide) k_782 sF_eq dX7_readsAct_221 ?_
          refine lv_if_eq (tgt := 231) hx hb dX7_readsAct_224 (by decide) (fun c_ => absurd c_ (by decide)) (fun c_ => ?_)
          refine lv_iconst (v := 0) hx hb dX7_readsAct_227 (by decide) ?_
          refine lv_goto (tgt := 232) hx hb dX7_readsAct_228 (by decide) ?_
          refine lv_iadd hx hb dX7_readsAct_232 ?_
          refine lv_topi (fun z_71 ez_71 => ?_)
          have e_z_71 : z_71.toInt = v_24.toInt + 0 := i_add ez_71 rfl (by decide) (by omega) (by omega)
          refine t_put0 (ci := 7) (v := .int z_71) hB hT (ro_ci r_11 rfl) (ro_n0 r_11 (by decide)) rfl 36 (by decide) k_781 (Or.inl rfl) rfl rfl dX7_readsAct_233 (fun H locs hT => ?_)
          have hI : Inv (sF (sF g_8 h 37 (.int 1)) h 36 (.int z_71)) := hI.sF (p_8_36 r_11 (⟨_, rfl, by omega, by omega⟩))
          have hM : Sm md_m_readsAct g (sF (sF g_8 h 37 (.int 1)) h 36 (.int z_71)) := hM.tr hE (Sm_sF (by rw [r_11]; rfl))
          have hE : Ex g (sF (sF g_8 h 37 (.int 1)) h 36 (.int z_71)) := hE
          have hN : PL 8 (sF (sF g_8 h 37 (.int 1)) h 36 (.int z_71)) na pa := hN
          exact lt_m_readsAct_d l D cI cZ cS cR N0 g h z na pa r_h r_na n_na r_pa n_pa kz kna kpa l_z u_z hN_0 hB hr   (sF (sF g_8 h 37 (.int 1)) h 36 (.int z_71)) w (0 : Int32) H locs ls hT hI hE hM (by decide) (by decide) (sF_k (sF_k kn_16 (by decide)) (by decide)) hN (by have e0_ : (0 : Int32).toInt = 0 := (by decide); omega) (lv_sub hl [1, 0, 2] rfl)
set_option maxHeartbeats 4000000 in
set_option maxRecDepth 100000 in
theorem lt_m_readsAct_b (l : Launch) (D : va_G) (cI cZ cS cR : ClassId) (N0 : NT) (g : GS) (h : Nat) (z : Int32) (na : Nat) (pa : Nat) (r_h : g.1 h = 8) (r_na : g.1 na = 84) (n_na : g.2.2.1 na = 8) (r_pa : g.1 pa = 85) (n_pa : g.2.2.1 pa = 8) (kz : g.2.1 h 38 = .int z) (kna : g.2.1 h 39 = .ref na) (kpa : g.2.1 h 40 = .ref pa) (l_z : 0 ≤ z.toInt) (u_z : z.toInt ≤ 7) (hN_0 : PL 8 g na pa) {p : Program} {e : Env} {s : State} {m : MethodId} {args : Array Value} {below : List Frame} {meth : Method} {c : Code} (hB : Tz p s m meth c args cX7_readsAct 4 RX7 D cI cZ cS cR N0) (hr : meth.sig.returnType = none)    : ∀ (kf : Nat) (g1 : GS) (w : Int32) (i : Int32) (iw : Int32)  (H : Heap) (locs : List Loc) (ls : Array Slot), Tv D cI cZ cS cR N0 s.heap H locs g1 → Inv g1 → Ex g g1 → Sm md_m_readsAct g g1 → 0 ≤ w.toInt → w.toInt ≤ 8 → 0 ≤ i.toInt → i.toInt ≤ 3 → 0 ≤ iw.toInt → iw.toInt ≤ 1 → g1.2.1 h 38 = .int z → g1.2.1 h 37 = .int iw → (PL 8 g1 na pa) → (3 ≤ i.toInt + kf ∧ (iw.toInt = 1 ∨ w.toInt ≤ 7)) → lv_has ls 4 [(1, .int w), (2, .int i), (0, .ref h)] → W p l e (rmx 2 0 0) s m args below meth c H locs 0 0 (MQ below (tQ D cI cZ cS cR N0 (fun v g' => ∃ (z2 : Int32), v = none ∧ Inv g' ∧ Ex g g' ∧ Sm md_m_readsAct g g' ∧ (g'.2.1 h 38 = .int z2) ∧ (z2.toInt = z.toInt + 1) ∧ (PL 8 g' na pa))) args s 0 0 (fun q => N0.1 ≤ q)) (F0 m 89 ls []) := by
  have hx := hB.1
  have hb := hB.2.1
  intro kf
  induction kf using Nat.strongRecOn with
  | ind kf ih =>
    intro g1 w i iw H locs ls hT hI hE hM l_w u_w l_i u_i l_iw u_iw kp0 kp1 hN hk hl
    have r_1 : g1.1 h = 8 := Ex.r hE r_h (by decide)
    have r_2 : g1.1 na = 84 := Ex.r hE r_na (by decide)
    have n_3 : g1.2.2.1 na = 8 := Ex.n hE r_na (by decide) n_na
    have r_4 : g1.1 pa = 85 := Ex.r hE r_pa (by decide)
    have n_5 : g1.2.2.1 pa = 8 := Ex.n hE r_pa (by decide) n_pa
    have kn_6 : g1.2.1 h 39 = .ref na := Sm.v hM r_h (by decide) rfl kna
    have kn_7 : g1.2.1 h 40 = .ref pa := Sm.v hM r_h (by decide) rfl kpa
    refine lv_iload_n hx hb dX7_readsAct_89 rfl (lv_at hl 1 rfl) ?_
    refine lv_iconst (v := 3) hx hb dX7_readsAct_90 (by decide) ?_
    refine lv_icmp_ge (tgt := 134) hx hb dX7_readsAct_91 (by decide) (fun c_8 => ?_) (fun c_8 => ?_)
    · have c_8' : 3 ≤ i.toInt := i_le c_8 (by decide) rfl
      exact lt_m_readsAct_c l D cI cZ cS cR N0 g h z na pa r_h r_na n_na r_pa n_pa kz kna kpa l_z u_z hN_0 hB hr   g1 w H locs ls hT hI hE hM kp0 hN (lv_sub hl [0, 2] rfl)
    · have c_8' : i.toInt < 3 := i_nle c_8 (by decide) rfl
      refine lv_aload_n hx hb dX7_readsAct_94 rfl (lv_at hl 2 rfl) ?_
      refine t_get (ci := 7) (v := .int iw) hB hT (ro_ci r_1 rfl) rfl 37 (by decide) k_782 kp1 dX7_readsAct_95 ?_
      refine lv_if_ne (tgt := 134) hx hb dX7_readsAct_98 (by decide) (fun c_9 => ?_) (fun c_9 => ?_)
      · have c_9' : iw.toInt ≠ 0 := i_ne c_9 rfl (by decide)
        exact lt_m_readsAct_c l D cI cZ cS cR N0 g h z na pa r_h r_na n_na r_pa n_pa kz kna kpa l_z u_z hN_0 hB hr   g1 w H locs ls hT hI hE hM kp0 hN (lv_sub hl [0, 2] rfl)
      · have c_9' : iw.toInt = 0 := i_eq c_9 rfl (by decide)
        refine lv_aload_n hx hb dX7_readsAct_101 rfl (lv_at hl 2 rfl) ?_
        obtain ⟨v_10, e_v_10, r_v_10, n_v_10⟩ := f_8_42 hI r_1
        refine t_get (ci := 7) (v := .ref v_10) hB hT (ro_ci r_1 rfl) rfl 42 (by decide) k_787 e_v_10 dX7_readsAct_102 ?_
        refine lv_iconst (v := 3) hx hb dX7_readsAct_105 (by decide) ?_
        refine lv_iload_n hx hb dX7_readsAct_106 rfl (lv_at hl 0 rfl) ?_
        refine lv_imul hx hb dX7_readsAct_107 ?_
        refine lv_topi (fun z_11 ez_11 => ?_)
        have e_z_11 : z_11.toInt = 3 * w.toInt := i_mul ez_11 (by decide) rfl (by omega) (by omega)
        refine lv_iload_n hx hb dX7_readsAct_108 rfl (lv_at hl 1 rfl) ?_
        refine lv_iadd hx hb dX7_readsAct_109 ?_
        refine lv_topi (fun z_12 ez_12 => ?_)
        have e_z_12 : z_12.toInt = z_11.toInt + i.toInt := i_add ez_12 rfl rfl (by omega) (by omega)
        have i_u_13 : vp_in z_12 24 := (i_in (n := 24) rfl (by omega) (by omega))
        refine t_iald hB hT (ro_in r_v_10 (by decide)) n_v_10 i_u_13 rfl dX7_readsAct_110 ?_
        have c_u_13 := hI.c r_v_10 n_v_10 (i_cl i_u_13)
        refine lv_topi (fun u_13 e_u_13 => ?_)
        obtain ⟨l_u_13, u_u_13⟩ := c_u_13
        rw [← e_u_13] at l_u_13 u_u_13
        refine lv_if_eq (tgt := 128) hx hb dX7_readsAct_111 (by decide) (fun c_14 => ?_) (fun c_14 => ?_)
        · have c_14' : u_13.toInt = 0 := i_eq c_14 rfl (by decide)
          obtain ⟨z_15, ez_15⟩ : ∃ z : Int32, z = i + 1 := ⟨_, rfl⟩
          have e_z_15 : z_15.toInt = i.toInt + 1 := i_add ez_15 rfl (by decide) (by omega) (by omega)
          refine lv_iinc (v := z_15) (lv' := [(2, .int z_15), (1, .int w), (0, .ref h)]) hx hb dX7_readsAct_128 hl (k := 1) rfl (by rw [ez_15]; rfl) (by decide) rfl (fun ls hl => ?_)
          refine lv_goto (tgt := 89) hx hb dX7_readsAct_131 (by decide) ?_
          exact ih (kf - 1) (by omega) g1 w z_15 iw H locs ls hT hI hE hM (by omega) (by omega) (by omega) (by omega) (by omega) (by omega) kp0 kp1 hN (by have e0_ : (0 : Int32).toInt = 0 := (by decide); omega) (lv_sub hl [1, 0, 2] rfl)
        · have c_14' : u_13.toInt ≠ 0 := i_ne c_14 rfl (by decide)
          refine lv_aload_n hx hb dX7_readsAct_114 rfl (lv_at hl 2 rfl) ?_
          refine lv_aload_n hx hb dX7_readsAct_115 rfl (lv_at hl 2 rfl) ?_
          refine t_get (ci := 7) (v := .ref v_10) hB hT (ro_ci r_1 rfl) rfl 42 (by decide) k_787 e_v_10 dX7_readsAct_116 ?_
          refine lv_iconst (v := 3) hx hb dX7_readsAct_119 (by decide) ?_
          refine lv_iload_n hx hb dX7_readsAct_120 rfl (lv_at hl 0 rfl) ?_
          refine lv_imul hx hb dX7_readsAct_121 ?_
          refine lv_topi (fun z_16 ez_16 => ?_)
          have e_z_16 : z_16.toInt = 3 * w.toInt := i_mul ez_16 (by decide) rfl (by omega) (by omega)
          refine lv_iload_n hx hb dX7_readsAct_122 rfl (lv_at hl 1 rfl) ?_
          refine lv_iadd hx hb dX7_readsAct_123 ?_
          refine lv_topi (fun z_17 ez_17 => ?_)
          have e_z_17 : z_17.toInt = z_16.toInt + i.toInt := i_add ez_17 rfl rfl (by omega) (by omega)
          have i_u_18 : vp_in z_17 24 := (i_in (n := 24) rfl (by omega) (by omega))
          refine t_iald hB hT (ro_in r_v_10 (by decide)) n_v_10 i_u_18 rfl dX7_readsAct_124 ?_
          have c_u_18 := hI.c r_v_10 n_v_10 (i_cl i_u_18)
          refine lv_topi (fun u_18 e_u_18 => ?_)
          obtain ⟨l_u_18, u_u_18⟩ := c_u_18
          rw [← e_u_18] at l_u_18 u_u_18
          refine t_callV (n := 1) (As := [.int u_18]) (rest := []) (ci := 7) hB hT hl.1 (m_must l D cI cZ cS cR N0 g1 hI h u_18 r_1 (by omega)) (ro_ci r_1 rfl) rfl k_975 k_65 k_972 k_974 k_24 (by decide +kernel) ⟨(Nat.le_of_ble_eq_true rfl), (Nat.le_of_ble_eq_true rfl)⟩ rfl (Nat.le_of_ble_eq_true rfl) ⟨(Nat.le_of_ble_eq_true rfl), (Nat.le_of_ble_eq_true rfl)⟩ dX7_readsAct_125 (fun v g_19 H locs hp hT => ?_)
          obtain ⟨rfl, hI, x_21, m_20⟩ := hp
          have hN : PL 8 g_19 na pa := hN.sm m_20 r_2 (by decide) rfl r_4 (by decide) rfl
          have hM : Sm md_m_readsAct g g_19 := hM.tr hE (m_20.mo (fun r k h => mdle_m_readsAct_m_must h))
          have hE : Ex g g_19 := hE.tr x_21
          have r_22 : g_19.1 h = 8 := (Ex.r x_21 r_1 (by decide))
          have r_23 : g_19.1 na = 84 := (Ex.r x_21 r_2 (by decide))
          have r_24 : g_19.1 pa = 85 := (Ex.r x_21 r_4 (by decide))
          have r_25 : g_19.1 v_10 = 87 := (Ex.r x_21 r_v_10 (by decide))
          have n_26 : g_19.2.2.1 na = 8 := (Ex.n x_21 r_2 (by decide) n_3)
          have n_27 : g_19.2.2.1 pa = 8 := (Ex.n x_21 r_4 (by decide) n_5)
          have n_28 : g_19.2.2.1 v_10 = 24 := (Ex.n x_21 r_v_10 (by decide) n_v_10)
          have kn_29 : g_19.2.1 h 38 = .int z := (Sm.v m_20 r_1 (by decide) rfl kp0)
          have kn_30 : g_19.2.1 h 39 = .ref na := (Sm.v m_20 r_1 (by decide) rfl kn_6)
          have kn_31 : g_19.2.1 h 40 = .ref pa := (Sm.v m_20 r_1 (by decide) rfl kn_7)
          have kn_32 : g_19.2.1 h 42 = .ref v_10 := (Sm.v m_20 r_1 (by decide) rfl e_v_10)
          have kn_33 : g_19.2.2.2.1 v_10 z_12.toNatClampNeg = u_13 := (Sm.c m_20 r_v_10 (by decide) rfl e_u_13.symm)
          have kn_34 : g_19.2.2.2.1 v_10 z_17.toNatClampNeg = u_18 := (Sm.c m_20 r_v_10 (by decide) rfl e_u_18.symm)
          refine W.eq (g2 := F0 m 128 ls []) rfl ?_
          obtain ⟨z_35, ez_35⟩ : ∃ z : Int32, z = i + 1 := ⟨_, rfl⟩
          have e_z_35 : z_35.toInt = i.toInt + 1 := i_add ez_35 rfl (by decide) (by omega) (by omega)
          refine lv_iinc (v := z_35) (lv' := [(2, .int z_35), (1, .int w), (0, .ref h)]) hx hb dX7_readsAct_128 hl (k := 1) rfl (by rw [ez_35]; rfl) (by decide) rfl (fun ls hl => ?_)
          refine lv_goto (tgt := 89) hx hb dX7_readsAct_131 (by decide) ?_
          obtain ⟨v_36, e_v_36, l_v_36, u_v_36⟩ := f_8_37 hI r_22
          exact ih (kf - 1) (by omega) g_19 w z_35 v_36 H locs ls hT hI hE hM (by omega) (by omega) (by omega) (by omega) (by omega) (by omega) kn_29 e_v_36 hN (by have e0_ : (0 : Int32).toInt = 0 := (by decide); omega) (lv_sub hl [1, 0, 2] rfl)
set_option maxHeartbeats 4000000 in
set_option maxRecDepth 100000 in
theorem lt_m_readsAct_f (l : Launch) (D : va_G) (cI cZ cS cR : ClassId) (N0 : NT) (g : GS) (h : Nat) (z : Int32) (na : Nat) (pa : Nat) (r_h : g.1 h = 8) (r_na : g.1 na = 84) (n_na : g.2.2.1 na = 8) (r_pa : g.1 pa = 85) (n_pa : g.2.2.1 pa = 8) (kz : g.2.1 h 38 = .int z) (kna : g.2.1 h 39 = .ref na) (kpa : g.2.1 h 40 = .ref pa) (l_z : 0 ≤ z.toInt) (u_z : z.toInt ≤ 7) (hN_0 : PL 8 g na pa) {p : Program} {e : Env} {s : State} {m : MethodId} {args : Array Value} {below : List Frame} {meth : Method} {c : Code} (hB : Tz p s m meth c args cX7_readsAct 4 RX7 D cI cZ cS cR N0) (hr : meth.sig.returnType = none)    : ∀ (g1 : GS) (w : Int32)  (H : Heap) (locs : List Loc) (ls : Array Slot), Tv D cI cZ cS cR N0 s.heap H locs g1 → Inv g1 → Ex g g1 → Sm md_m_readsAct g g1 → 0 ≤ w.toInt → w.toInt ≤ 8 → g1.2.1 h 38 = .int z → (PL 8 g1 na pa) → lv_has ls 4 [(1, .int w), (0, .ref h)] → W p l e (rmx 2 0 0) s m args below meth c H locs 0 0 (MQ below (tQ D cI cZ cS cR N0 (fun v g' => ∃ (z2 : Int32), v = none ∧ Inv g' ∧ Ex g g' ∧ Sm md_m_readsAct g g' ∧ (g'.2.1 h 38 = .int z2) ∧ (z2.toInt = z.toInt + 1) ∧ (PL 8 g' na pa))) args s 0 0 (fun q => N0.1 ≤ q)) (F0 m 65 ls []) := by
  have hx := hB.1
  have hb := hB.2.1
  intro g1 w H locs ls hT hI hE hM l_w u_w kp0 hN hl
  have r_1 : g1.1 h = 8 := Ex.r hE r_h (by decide)
  have r_2 : g1.1 na = 84 := Ex.r hE r_na (by decide)
  have n_3 : g1.2.2.1 na = 8 := Ex.n hE r_na (by decide) n_na
  have r_4 : g1.1 pa = 85 := Ex.r hE r_pa (by decide)
  have n_5 : g1.2.2.1 pa = 8 := Ex.n hE r_pa (by decide) n_pa
  have kn_6 : g1.2.1 h 39 = .ref na := Sm.v hM r_h (by decide) rfl kna
  have kn_7 : g1.2.1 h 40 = .ref pa := Sm.v hM r_h (by decide) rfl kpa
  refine lv_aload_n hx hb dX7_readsAct_65 rfl (lv_at hl 1 rfl) ?_
  refine lv_aload_n hx hb dX7_readsAct_66 rfl (lv_at hl 1 rfl) ?_
  obtain ⟨v_8, e_v_8, l_v_8, u_v_8⟩ := f_8_37 hI r_1
  refine t_get (ci := 7) (v := .int v_8) hB hT (ro_ci r_1 rfl) rfl 37 (by decide) k_782 e_v_8 dX7_readsAct_67 ?_
  refine lv_if_ne (tgt := 79) hx hb dX7_readsAct_70 (by decide) (fun c_9 => ?_) (fun c_9 => ?_)
  · have c_9' : v_8.toInt ≠ 0 := i_ne c_9 rfl (by decide)
    refine lv_iconst (v := 1) hx hb dX7_readsAct_79 (by decide) ?_
    refine lv_goto (tgt := 84) hx hb dX7_readsAct_80 (by decide) ?_
    refine t_put0 (ci := 7) (v := .int 1) hB hT (ro_ci r_1 rfl) (ro_n0 r_1 (by decide)) rfl 37 (by decide) k_782 (Or.inl rfl) rfl rfl dX7_readsAct_84 (fun H locs hT => ?_)
    have hI : Inv (sF g1 h 37 (.int 1)) := hI.sF (p_8_37 r_1 (⟨_, rfl, by decide, by decide⟩))
    have hM : Sm md_m_readsAct g (sF g1 h 37 (.int 1)) := hM.tr hE (Sm_sF (by rw [r_1]; rfl))
    have hE : Ex g (sF g1 h 37 (.int 1)) := hE
    have hN : PL 8 (sF g1 h 37 (.int 1)) na pa := hN
    refine lv_iconst (v := 0) hx hb dX7_readsAct_87 (by decide) ?_
    refine lv_istore_n (lv' := [(2, .int 0), (1, .int w), (0, .ref h)]) hx hb dX7_readsAct_88 rfl hl (by decide) rfl (fun ls hl => ?_)
    exact lt_m_readsAct_b l D cI cZ cS cR N0 g h z na pa r_h r_na n_na r_pa n_pa kz kna kpa l_z u_z hN_0 hB hr   3 (sF g1 h 37 (.int 1)) w (0 : Int32) (1 : Int32) H locs ls hT hI hE hM (by omega) (by omega) (by decide) (by decide) (by decide) (by decide) (sF_k kp0 (by decide)) sF_eq hN (by have e0_ : (0 : Int32).toInt = 0 := (by decide); have e1_ : (1 : Int32).toInt = 1 := (by decide); omega) (lv_sub hl [1, 0, 2] rfl)
  · have c_9' : v_8.toInt = 0 := i_eq c_9 rfl (by decide)
    refine lv_iload_n hx hb dX7_readsAct_73 rfl (lv_at hl 0 rfl) ?_
    refine lv_bipush (v := 8) hx hb dX7_readsAct_74 (by decide) ?_
    refine lv_icmp_ne (tgt := 83) hx hb dX7_readsAct_76 (by decide) (fun c_10 => ?_) (fun c_10 => ?_)
    · have c_10' : w.toInt ≠ 8 := i_ne c_10 rfl (by decide)
      refine lv_iconst (v := 0) hx hb dX7_readsAct_83 (by decide) ?_
      refine t_put0 (ci := 7) (v := .int 0) hB hT (ro_ci r_1 rfl) (ro_n0 r_1 (by decide)) rfl 37 (by decide) k_782 (Or.inl rfl) rfl rfl dX7_readsAct_84 (fun H locs hT => ?_)
      have hI : Inv (sF g1 h 37 (.int 0)) := hI.sF (p_8_37 r_1 (⟨_, rfl, by decide, by decide⟩))
      have hM : Sm md_m_readsAct g (sF g1 h 37 (.int 0)) := hM.tr hE (Sm_sF (by rw [r_1]; rfl))
      have hE : Ex g (sF g1 h 37 (.int 0)) := hE
      have hN : PL 8 (sF g1 h 37 (.int 0)) na pa := hN
      refine lv_iconst (v := 0) hx hb dX7_readsAct_87 (by decide) ?_
      refine lv_istore_n (lv' := [(2, .int 0), (1, .int w), (0, .ref h)]) hx hb dX7_readsAct_88 rfl hl (by decide) rfl (fun ls hl => ?_)
      exact lt_m_readsAct_b l D cI cZ cS cR N0 g h z na pa r_h r_na n_na r_pa n_pa kz kna kpa l_z u_z hN_0 hB hr   3 (sF g1 h 37 (.int 0)) w (0 : Int32) (0 : Int32) H locs ls hT hI hE hM (by omega) (by omega) (by decide) (by decide) (by decide) (by decide) (sF_k kp0 (by decide)) sF_eq hN (by have e0_ : (0 : Int32).toInt = 0 := (by decide); omega) (lv_sub hl [1, 0, 2] rfl)
    · have c_10' : w.toInt = 8 := i_eq c_10 rfl (by decide)
      refine lv_iconst (v := 1) hx hb dX7_readsAct_79 (by decide) ?_
      refine lv_goto (tgt := 84) hx hb dX7_readsAct_80 (by decide) ?_
      refine t_put0 (ci := 7) (v := .int 1) hB hT (ro_ci r_1 rfl) (ro_n0 r_1 (by decide)) rfl 37 (by decide) k_782 (Or.inl rfl) rfl rfl dX7_readsAct_84 (fun H locs hT => ?_)
      have hI : Inv (sF g1 h 37 (.int 1)) := hI.sF (p_8_37 r_1 (⟨_, rfl, by decide, by decide⟩))
      have hM : Sm md_m_readsAct g (sF g1 h 37 (.int 1)) := hM.tr hE (Sm_sF (by rw [r_1]; rfl))
      have hE : Ex g (sF g1 h 37 (.int 1)) := hE
      have hN : PL 8 (sF g1 h 37 (.int 1)) na pa := hN
      refine lv_iconst (v := 0) hx hb dX7_readsAct_87 (by decide) ?_
      refine lv_istore_n (lv' := [(2, .int 0), (1, .int w), (0, .ref h)]) hx hb dX7_readsAct_88 rfl hl (by decide) rfl (fun ls hl => ?_)
      exact lt_m_readsAct_b l D cI cZ cS cR N0 g h z na pa r_h r_na n_na r_pa n_pa kz kna kpa l_z u_z hN_0 hB hr   3 (sF g1 h 37 (.int 1)) w (0 : Int32) (1 : Int32) H locs ls hT hI hE hM (by omega) (by omega) (by decide) (by decide) (by decide) (by decide) (sF_k kp0 (by decide)) sF_eq hN (by have e0_ : (0 : Int32).toInt = 0 := (by decide); have e1_ : (1 : Int32).toInt = 1 := (by decide); omega) (lv_sub hl [1, 0, 2] rfl)
set_option maxHeartbeats 4000000 in
set_option maxRecDepth 100000 in
theorem lt_m_readsAct_a (l : Launch) (D : va_G) (cI cZ cS cR : ClassId) (N0 : NT) (g : GS) (h : Nat) (z : Int32) (na : Nat) (pa : Nat) (r_h : g.1 h = 8) (r_na : g.1 na = 84) (n_na : g.2.2.1 na = 8) (r_pa : g.1 pa = 85) (n_pa : g.2.2.1 pa = 8) (kz : g.2.1 h 38 = .int z) (kna : g.2.1 h 39 = .ref na) (kpa : g.2.1 h 40 = .ref pa) (l_z : 0 ≤ z.toInt) (u_z : z.toInt ≤ 7) (hN_0 : PL 8 g na pa) {p : Program} {e : Env} {s : State} {m : MethodId} {args : Array Value} {below : List Frame} {meth : Method} {c : Code} (hB : Tz p s m meth c args cX7_readsAct 4 RX7 D cI cZ cS cR N0) (hr : meth.sig.returnType = none)    : ∀ (kf : Nat) (g1 : GS) (w : Int32)  (H : Heap) (locs : List Loc) (ls : Array Slot), Tv D cI cZ cS cR N0 s.heap H locs g1 → Inv g1 → Ex g g1 → Sm md_m_readsAct g g1 → 0 ≤ w.toInt → w.toInt ≤ 8 → g1.2.1 h 38 = .int z → (PL 8 g1 na pa) → (8 ≤ w.toInt + kf) → lv_has ls 4 [(1, .int w), (0, .ref h)] → W p l e (rmx 2 0 0) s m args below meth c H locs 0 0 (MQ below (tQ D cI cZ cS cR N0 (fun v g' => ∃ (z2 : Int32), v = none ∧ Inv g' ∧ Ex g g' ∧ Sm md_m_readsAct g g' ∧ (g'.2.1 h 38 = .int z2) ∧ (z2.toInt = z.toInt + 1) ∧ (PL 8 g' na pa))) args s 0 0 (fun q => N0.1 ≤ q)) (F0 m 34 ls []) := by
  have hx := hB.1
  have hb := hB.2.1
  intro kf
  induction kf using Nat.strongRecOn with
  | ind kf ih =>
    intro g1 w H locs ls hT hI hE hM l_w u_w kp0 hN hk hl
    have r_1 : g1.1 h = 8 := Ex.r hE r_h (by decide)
    have r_2 : g1.1 na = 84 := Ex.r hE r_na (by decide)
    have n_3 : g1.2.2.1 na = 8 := Ex.n hE r_na (by decide) n_na
    have r_4 : g1.1 pa = 85 := Ex.r hE r_pa (by decide)
    have n_5 : g1.2.2.1 pa = 8 := Ex.n hE r_pa (by decide) n_pa
    have kn_6 : g1.2.1 h 39 = .ref na := Sm.v hM r_h (by decide) rfl kna
    have kn_7 : g1.2.1 h 40 = .ref pa := Sm.v hM r_h (by decide) rfl kpa
    refine lv_iload_n hx hb dX7_readsAct_34 rfl (lv_at hl 0 rfl) ?_
    refine lv_bipush (v := 8) hx hb dX7_readsAct_35 (by decide) ?_
    refine lv_icmp_ge (tgt := 65) hx hb dX7_readsAct_37 (by decide) (fun c_8 => ?_) (fun c_8 => ?_)
    · have c_8' : 8 ≤ w.toInt := i_le c_8 (by decide) rfl
      exact lt_m_readsAct_f l D cI cZ cS cR N0 g h z na pa r_h r_na n_na r_pa n_pa kz kna kpa l_z u_z hN_0 hB hr   g1 w H locs ls hT hI hE hM (by omega) (by omega) kp0 hN (lv_sub hl [0, 1] rfl)
    · have c_8' : w.toInt < 8 := i_nle c_8 (by decide) rfl
      refine lv_aload_n hx hb dX7_readsAct_40 rfl (lv_at hl 1 rfl) ?_
      refine lv_aload_n hx hb dX7_readsAct_41 rfl (lv_at hl 1 rfl) ?_
      obtain ⟨v_9, e_v_9, l_v_9, u_v_9⟩ := f_8_36 hI r_1
      refine t_get (ci := 7) (v := .int v_9) hB hT (ro_ci r_1 rfl) rfl 36 (by decide) k_781 e_v_9 dX7_readsAct_42 ?_
      obtain ⟨v_10, e_v_10, l_v_10, u_v_10⟩ := f_8_29 hI r_1
      obtain ⟨v_11, e_v_11, r_v_11, n_v_11⟩ := f_8_28 hI r_1
      refine t_callV (n := 1) (As := [.int v_9]) (rest := []) (ci := 7) hB hT hl.1 (m_byteAt l D cI cZ cS cR N0 g1 hI h v_9 v_10 v_11 r_1 r_v_11 n_v_11 e_v_10 e_v_11 (by omega) (by omega) (by omega) (by omega)) (ro_ci r_1 rfl) rfl k_971 k_65 k_968 k_970 k_23 (by decide +kernel) ⟨(Nat.le_of_ble_eq_true rfl), (Nat.le_of_ble_eq_true rfl)⟩ rfl (Nat.le_of_ble_eq_true rfl) ⟨(Nat.le_of_ble_eq_true rfl), (Nat.le_of_ble_eq_true rfl)⟩ dX7_readsAct_45 (fun v g_12 H locs hp hT => ?_)
      obtain ⟨r_13, rfl, eg, f_14, f_15⟩ := hp
      rw [eg] at hT
      clear eg
      refine W.eq (g2 := F0 m 48 ls [.int r_13]) rfl ?_
      refine lv_aload_n hx hb dX7_readsAct_48 rfl (lv_at hl 1 rfl) ?_
      obtain ⟨v_18, e_v_18, r_v_18, n_v_18⟩ := f_8_42 hI r_1
      refine t_get (ci := 7) (v := .ref v_18) hB hT (ro_ci r_1 rfl) rfl 42 (by decide) k_787 e_v_18 dX7_readsAct_49 ?_
      refine lv_iconst (v := 3) hx hb dX7_readsAct_52 (by decide) ?_
      refine lv_iload_n hx hb dX7_readsAct_53 rfl (lv_at hl 0 rfl) ?_
      refine lv_imul hx hb dX7_readsAct_54 ?_
      refine lv_topi (fun z_19 ez_19 => ?_)
      have e_z_19 : z_19.toInt = 3 * w.toInt := i_mul ez_19 (by decide) rfl (by omega) (by omega)
      have i_u_20 : vp_in z_19 24 := (i_in (n := 24) rfl (by omega) (by omega))
      refine t_iald hB hT (ro_in r_v_18 (by decide)) n_v_18 i_u_20 rfl dX7_readsAct_55 ?_
      have c_u_20 := hI.c r_v_18 n_v_18 (i_cl i_u_20)
      refine lv_topi (fun u_20 e_u_20 => ?_)
      obtain ⟨l_u_20, u_u_20⟩ := c_u_20
      rw [← e_u_20] at l_u_20 u_u_20
      refine lv_icmp_eq (tgt := 65) hx hb dX7_readsAct_56 (by decide) (fun c_21 => ?_) (fun c_21 => ?_)
      · have c_21' : r_13.toInt = u_20.toInt := i_eq c_21 rfl rfl
        exact lt_m_readsAct_f l D cI cZ cS cR N0 g h z na pa r_h r_na n_na r_pa n_pa kz kna kpa l_z u_z hN_0 hB hr   g1 w H locs ls hT hI hE hM (by omega) (by omega) kp0 hN (lv_sub hl [0, 1] rfl)
      · have c_21' : r_13.toInt ≠ u_20.toInt := i_ne c_21 rfl rfl
        obtain ⟨z_22, ez_22⟩ : ∃ z : Int32, z = w + 1 := ⟨_, rfl⟩
        have e_z_22 : z_22.toInt = w.toInt + 1 := i_add ez_22 rfl (by decide) (by omega) (by omega)
        refine lv_iinc (v := z_22) (lv' := [(1, .int z_22), (0, .ref h)]) hx hb dX7_readsAct_59 hl (k := 0) rfl (by rw [ez_22]; rfl) (by decide) rfl (fun ls hl => ?_)
        refine lv_goto (tgt := 34) hx hb dX7_readsAct_62 (by decide) ?_
        exact ih (kf - 1) (by omega) g1 z_22 H locs ls hT hI hE hM (by omega) (by omega) kp0 hN (by have e0_ : (0 : Int32).toInt = 0 := (by decide); omega) (lv_sub hl [0, 1] rfl)
set_option maxHeartbeats 4000000 in
set_option maxRecDepth 100000 in
theorem m_readsAct (l : Launch) (D : va_G) (cI cZ cS cR : ClassId) (N0 : NT) (g : GS) (hI : Inv g) (h : Nat) (z : Int32) (na : Nat) (pa : Nat) (r_h : g.1 h = 8) (r_na : g.1 na = 84) (n_na : g.2.2.1 na = 8) (r_pa : g.1 pa = 85) (n_pa : g.2.2.1 pa = 8) (kz : g.2.1 h 38 = .int z) (kna : g.2.1 h 39 = .ref na) (kpa : g.2.1 h 40 = .ref pa) (l_z : 0 ≤ z.toInt) (u_z : z.toInt ≤ 7) (hN_0 : PL 8 g na pa) : Ty l D cI cZ cS cR N0 yX7_readsAct cX7_readsAct 4 none 2 0 0 [.ref h] g (fun v g' => ∃ (z2 : Int32), v = none ∧ Inv g' ∧ Ex g g' ∧ Sm md_m_readsAct g g' ∧ (g'.2.1 h 38 = .int z2) ∧ (z2.toInt = z.toInt + 1) ∧ (PL 8 g' na pa)) := by
  refine t_enter (by decide) (Nat.le_of_ble_eq_true rfl) ?_
  intro p e s m args below meth c ls H locs hB hr hin hl hT
  have hx := hB.1
  have hb := hB.2.1
  have hl : lv_has ls 4 [(0, .ref h)] := hl
  have hE : Ex g g := Ex.rf
  have hM : Sm md_m_readsAct g g := Sm.rf
  have hN := hN_0
  refine lv_aload_n hx hb dX7_readsAct_0 rfl (lv_at hl 0 rfl) ?_
  refine lv_aload_n hx hb dX7_readsAct_1 rfl (lv_at hl 0 rfl) ?_
  obtain ⟨v_1, e_v_1, l_v_1, u_v_1⟩ := f_8_36 hI r_h
  refine t_get (ci := 7) (v := .int v_1) hB hT (ro_ci r_h rfl) rfl 36 (by decide) k_781 e_v_1 dX7_readsAct_2 ?_
  obtain ⟨v_2, e_v_2, l_v_2, u_v_2⟩ := f_8_29 hI r_h
  obtain ⟨v_3, e_v_3, r_v_3, n_v_3⟩ := f_8_28 hI r_h
  refine t_callV (n := 1) (As := [.int v_1]) (rest := []) (ci := 7) hB hT hl.1 (m_byteAt l D cI cZ cS cR N0 g hI h v_1 v_2 v_3 r_h r_v_3 n_v_3 e_v_2 e_v_3 (by omega) (by omega) (by omega) (by omega)) (ro_ci r_h rfl) rfl k_971 k_65 k_968 k_970 k_23 (by decide +kernel) ⟨(Nat.le_of_ble_eq_true rfl), (Nat.le_of_ble_eq_true rfl)⟩ rfl (Nat.le_of_ble_eq_true rfl) ⟨(Nat.le_of_ble_eq_true rfl), (Nat.le_of_ble_eq_true rfl)⟩ dX7_readsAct_5 (fun v g_4 H locs hp hT => ?_)
  obtain ⟨r_5, rfl, eg, f_6, f_7⟩ := hp
  rw [eg] at hT
  clear eg
  refine W.eq (g2 := F0 m 8 ls [.int r_5]) rfl ?_
  refine lv_bipush (v := 97) hx hb dX7_readsAct_8 (by decide) ?_
  refine lv_icmp_ne (tgt := 32) hx hb dX7_readsAct_10 (by decide) (fun c_10 => ?_) (fun c_10 => ?_)
  · have c_10' : r_5.toInt ≠ 97 := i_ne c_10 rfl (by decide)
    refine lv_iconst (v := 0) hx hb dX7_readsAct_32 (by decide) ?_
    refine lv_istore_n (lv' := [(1, .int 0), (0, .ref h)]) hx hb dX7_readsAct_33 rfl hl (by decide) rfl (fun ls hl => ?_)
    exact lt_m_readsAct_a l D cI cZ cS cR N0 g h z na pa r_h r_na n_na r_pa n_pa kz kna kpa l_z u_z hN_0 hB hr   8 g (0 : Int32) H locs ls hT hI hE hM (by decide) (by decide) kz hN (by have e0_ : (0 : Int32).toInt = 0 := (by decide); omega) (lv_sub hl [0, 1] rfl)
  · have c_10' : r_5.toInt = 97 := i_eq c_10 rfl (by decide)
    refine lv_aload_n hx hb dX7_readsAct_13 rfl (lv_at hl 0 rfl) ?_
    refine lv_aload_n hx hb dX7_readsAct_14 rfl (lv_at hl 0 rfl) ?_
    refine t_get (ci := 7) (v := .int v_1) hB hT (ro_ci r_h rfl) rfl 36 (by decide) k_781 e_v_1 dX7_readsAct_15 ?_
    refine lv_iconst (v := 1) hx hb dX7_readsAct_18 (by decide) ?_
    refine lv_iadd hx hb dX7_readsAct_19 ?_
    refine lv_topi (fun z_11 ez_11 => ?_)
    have e_z_11 : z_11.toInt = v_1.toInt + 1 := i_add ez_11 rfl (by decide) (by omega) (by omega)
    refine t_callV (n := 1) (As := [.int z_11]) (rest := []) (ci := 7) hB hT hl.1 (m_byteAt l D cI cZ cS cR N0 g hI h z_11 v_2 v_3 r_h r_v_3 n_v_3 e_v_2 e_v_3 (by omega) (by omega) (by omega) (by omega)) (ro_ci r_h rfl) rfl k_971 k_65 k_968 k_970 k_23 (by decide +kernel) ⟨(Nat.le_of_ble_eq_true rfl), (Nat.le_of_ble_eq_true rfl)⟩ rfl (Nat.le_of_ble_eq_true rfl) ⟨(Nat.le_of_ble_eq_true rfl), (Nat.le_of_ble_eq_true rfl)⟩ dX7_readsAct_20 (fun v g_12 H locs hp hT => ?_)
    obtain ⟨r_13, rfl, eg, f_14, f_15⟩ := hp
    rw [eg] at hT
    clear eg
    refine W.eq (g2 := F0 m 23 ls [.int r_13]) rfl ?_
    refine lv_bipush (v := 115) hx hb dX7_readsAct_23 (by decide) ?_
    refine lv_icmp_ne (tgt := 32) hx hb dX7_readsAct_25 (by decide) (fun c_18 => ?_) (fun c_18 => ?_)
    · have c_18' : r_13.toInt ≠ 115 := i_ne c_18 rfl (by decide)
      refine lv_iconst (v := 0) hx hb dX7_readsAct_32 (by decide) ?_
      refine lv_istore_n (lv' := [(1, .int 0), (0, .ref h)]) hx hb dX7_readsAct_33 rfl hl (by decide) rfl (fun ls hl => ?_)
      exact lt_m_readsAct_a l D cI cZ cS cR N0 g h z na pa r_h r_na n_na r_pa n_pa kz kna kpa l_z u_z hN_0 hB hr   8 g (0 : Int32) H locs ls hT hI hE hM (by decide) (by decide) kz hN (by have e0_ : (0 : Int32).toInt = 0 := (by decide); omega) (lv_sub hl [0, 1] rfl)
    · have c_18' : r_13.toInt = 115 := i_eq c_18 rfl (by decide)
      refine lv_iconst (v := 5) hx hb dX7_readsAct_28 (by decide) ?_
      refine lv_goto (tgt := 33) hx hb dX7_readsAct_29 (by decide) ?_
      refine lv_istore_n (lv' := [(1, .int 5), (0, .ref h)]) hx hb dX7_readsAct_33 rfl hl (by decide) rfl (fun ls hl => ?_)
      exact lt_m_readsAct_a l D cI cZ cS cR N0 g h z na pa r_h r_na n_na r_pa n_pa kz kna kpa l_z u_z hN_0 hB hr   8 g (5 : Int32) H locs ls hT hI hE hM (by decide) (by decide) kz hN (by have e0_ : (0 : Int32).toInt = 0 := (by decide); have e1_ : (5 : Int32).toInt = 5 := (by decide); omega) (lv_sub hl [0, 1] rfl)
abbrev md_m_reads : Nat → Nat → Bool := mdf [(8, 36), (8, 37), (8, 38), (84, 99), (85, 99), (86, 99)]
theorem mdle_m_reads_m_readsAct {r k : Nat} (h : md_m_reads r k = false) : md_m_readsAct r k = false := mdf_le (by decide +kernel) h
set_option maxHeartbeats 4000000 in
set_option maxRecDepth 100000 in
theorem lt_m_reads_a (l : Launch) (D : va_G) (cI cZ cS cR : ClassId) (N0 : NT) (g : GS) (h : Nat) (na : Nat) (pa : Nat) (r_h : g.1 h = 8) (r_na : g.1 na = 84) (n_na : g.2.2.1 na = 8) (r_pa : g.1 pa = 85) (n_pa : g.2.2.1 pa = 8) (kna : g.2.1 h 39 = .ref na) (kpa : g.2.1 h 40 = .ref pa) (hN_0 : PL 8 g na pa) {p : Program} {e : Env} {s : State} {m : MethodId} {args : Array Value} {below : List Frame} {meth : Method} {c : Code} (hB : Tz p s m meth c args cX7_reads 2 RX7 D cI cZ cS cR N0) (hr : meth.sig.returnType = (some .boolean))    : ∀ (kf : Nat) (g1 : GS) (mo : Int32) (j : Int32)  (H : Heap) (locs : List Loc) (ls : Array Slot), Tv D cI cZ cS cR N0 s.heap H locs g1 → Inv g1 → Ex g g1 → Sm md_m_reads g g1 → 0 ≤ mo.toInt → mo.toInt ≤ 1 → 0 ≤ j.toInt → j.toInt ≤ 8 → g1.2.1 h 38 = .int j → (PL 8 g1 na pa) → (8 ≤ j.toInt + kf ∧ (mo.toInt ≤ 0 ∨ j.toInt ≤ 7)) → lv_has ls 2 [(1, .int mo), (0, .ref h)] → W p l e (rmx 3 0 0) s m args below meth c H locs 0 0 (MQ below (tQ D cI cZ cS cR N0 (fun v g' => ∃ (r : Int32), v = some (.int r) ∧ Inv g' ∧ Ex g g' ∧ Sm md_m_reads g g' ∧ (r = 1 ∨ r = 0) ∧ (PL 8 g' na pa))) args s 0 0 (fun q => N0.1 ≤ q)) (F0 m 17 ls []) := by
  have hx := hB.1
  have hb := hB.2.1
  intro kf
  induction kf using Nat.strongRecOn with
  | ind kf ih =>
    intro g1 mo j H locs ls hT hI hE hM l_mo u_mo l_j u_j kp0 hN hk hl
    have r_1 : g1.1 h = 8 := Ex.r hE r_h (by decide)
    have r_2 : g1.1 na = 84 := Ex.r hE r_na (by decide)
    have n_3 : g1.2.2.1 na = 8 := Ex.n hE r_na (by decide) n_na
    have r_4 : g1.1 pa = 85 := Ex.r hE r_pa (by decide)
    have n_5 : g1.2.2.1 pa = 8 := Ex.n hE r_pa (by decide) n_pa
    have kn_6 : g1.2.1 h 39 = .ref na := Sm.v hM r_h (by decide) rfl kna
    have kn_7 : g1.2.1 h 40 = .ref pa := Sm.v hM r_h (by decide) rfl kpa
    refine lv_iload_n hx hb dX7_reads_17 rfl (lv_at hl 0 rfl) ?_
    refine lv_if_eq (tgt := 81) hx hb dX7_reads_18 (by decide) (fun c_8 => ?_) (fun c_8 => ?_)
    · have c_8' : mo.toInt = 0 := i_eq c_8 rfl (by decide)
      refine lv_aload_n hx hb dX7_reads_81 rfl (lv_at hl 1 rfl) ?_
      obtain ⟨v_9, e_v_9, l_v_9, u_v_9⟩ := f_8_37 hI r_1
      refine t_get (ci := 7) (v := .int v_9) hB hT (ro_ci r_1 rfl) rfl 37 (by decide) k_782 e_v_9 dX7_reads_82 ?_
      refine lv_if_ne (tgt := 103) hx hb dX7_reads_85 (by decide) (fun c_10 => ?_) (fun c_10 => ?_)
      · have c_10' : v_9.toInt ≠ 0 := i_ne c_10 rfl (by decide)
        refine lv_iconst (v := 0) hx hb dX7_reads_103 (by decide) ?_
        exact t_zret hB hr rfl hT (Nat.le_of_ble_eq_true rfl) (Nat.le_of_ble_eq_true rfl) dX7_reads_104 ⟨0, rfl, hI, hE, hM, (Or.inr rfl), hN⟩
      · have c_10' : v_9.toInt = 0 := i_eq c_10 rfl (by decide)
        refine lv_aload_n hx hb dX7_reads_88 rfl (lv_at hl 1 rfl) ?_
        obtain ⟨v_11, e_v_11, l_v_11, u_v_11⟩ := f_8_36 hI r_1
        refine t_get (ci := 7) (v := .int v_11) hB hT (ro_ci r_1 rfl) rfl 36 (by decide) k_781 e_v_11 dX7_reads_89 ?_
        refine lv_aload_n hx hb dX7_reads_92 rfl (lv_at hl 1 rfl) ?_
        obtain ⟨v_12, e_v_12, l_v_12, u_v_12⟩ := f_8_29 hI r_1
        refine t_get (ci := 7) (v := .int v_12) hB hT (ro_ci r_1 rfl) rfl 29 (by decide) k_774 e_v_12 dX7_reads_93 ?_
        refine lv_icmp_ne (tgt := 103) hx hb dX7_reads_96 (by decide) (fun c_13 => ?_) (fun c_13 => ?_)
        · have c_13' : v_11.toInt ≠ v_12.toInt := i_ne c_13 rfl rfl
          refine lv_iconst (v := 0) hx hb dX7_reads_103 (by decide) ?_
          exact t_zret hB hr rfl hT (Nat.le_of_ble_eq_true rfl) (Nat.le_of_ble_eq_true rfl) dX7_reads_104 ⟨0, rfl, hI, hE, hM, (Or.inr rfl), hN⟩
        · have c_13' : v_11.toInt = v_12.toInt := i_eq c_13 rfl rfl
          refine lv_iconst (v := 1) hx hb dX7_reads_99 (by decide) ?_
          refine lv_goto (tgt := 104) hx hb dX7_reads_100 (by decide) ?_
          exact t_zret hB hr rfl hT (Nat.le_of_ble_eq_true rfl) (Nat.le_of_ble_eq_true rfl) dX7_reads_104 ⟨1, rfl, hI, hE, hM, (Or.inl rfl), hN⟩
    · have c_8' : mo.toInt ≠ 0 := i_ne c_8 rfl (by decide)
      refine lv_aload_n hx hb dX7_reads_21 rfl (lv_at hl 1 rfl) ?_
      refine t_callV (n := 0) (As := []) (rest := []) (ci := 7) hB hT hl.1 (m_readsAct l D cI cZ cS cR N0 g1 hI h j na pa r_1 r_2 n_3 r_4 n_5 kp0 kn_6 kn_7 (by omega) (by omega) hN) (ro_ci r_1 rfl) rfl k_967 k_65 k_964 k_966 k_22 (by decide +kernel) ⟨(Nat.le_of_ble_eq_true rfl), (Nat.le_of_ble_eq_true rfl)⟩ rfl (Nat.le_of_ble_eq_true rfl) ⟨(Nat.le_of_ble_eq_true rfl), (Nat.le_of_ble_eq_true rfl)⟩ dX7_reads_22 (fun v g_14 H locs hp hT => ?_)
      obtain ⟨z2_15, rfl, hI, x_20, m_19, f_16, f_17, f_18⟩ := hp
      have hM : Sm md_m_reads g g_14 := hM.tr hE (m_19.mo (fun r k h => mdle_m_reads_m_readsAct h))
      have hE : Ex g g_14 := hE.tr x_20
      have r_21 : g_14.1 h = 8 := (Ex.r x_20 r_1 (by decide))
      have r_22 : g_14.1 na = 84 := (Ex.r x_20 r_2 (by decide))
      have r_23 : g_14.1 pa = 85 := (Ex.r x_20 r_4 (by decide))
      have n_24 : g_14.2.2.1 na = 8 := (Ex.n x_20 r_2 (by decide) n_3)
      have n_25 : g_14.2.2.1 pa = 8 := (Ex.n x_20 r_4 (by decide) n_5)
      have kn_26 : g_14.2.1 h 39 = .ref na := (Sm.v m_19 r_1 (by decide) rfl kn_6)
      have kn_27 : g_14.2.1 h 40 = .ref pa := (Sm.v m_19 r_1 (by decide) rfl kn_7)
      refine W.eq (g2 := F0 m 25 ls []) rfl ?_
      have hN := f_18
      refine lv_aload_n hx hb dX7_reads_25 rfl (lv_at hl 1 rfl) ?_
      obtain ⟨v_28, e_v_28, l_v_28, u_v_28⟩ := f_8_37 hI r_21
      refine t_get (ci := 7) (v := .int v_28) hB hT (ro_ci r_21 rfl) rfl 37 (by decide) k_782 e_v_28 dX7_reads_26 ?_
      refine lv_if_ne (tgt := 58) hx hb dX7_reads_29 (by decide) (fun c_29 => ?_) (fun c_29 => ?_)
      · have c_29' : v_28.toInt ≠ 0 := i_ne c_29 rfl (by decide)
        refine lv_iconst (v := 0) hx hb dX7_reads_58 (by decide) ?_
        refine lv_istore_n (lv' := [(1, .int 0), (0, .ref h)]) hx hb dX7_reads_59 rfl hl (by decide) rfl (fun ls hl => ?_)
        refine lv_aload_n hx hb dX7_reads_60 rfl (lv_at hl 1 rfl) ?_
        refine lv_dup hx hb dX7_reads_61 rfl ?_
        obtain ⟨v_30, e_v_30, l_v_30, u_v_30⟩ := f_8_36 hI r_21
        refine t_get (ci := 7) (v := .int v_30) hB hT (ro_ci r_21 rfl) rfl 36 (by decide) k_781 e_v_30 dX7_reads_62 ?_
        refine lv_iload_n hx hb dX7_reads_65 rfl (lv_at hl 0 rfl) ?_
        refine lv_if_eq (tgt := 73) hx hb dX7_reads_66 (by decide) (fun c_ => ?_) (fun c_ => absurd (by decide) c_)
        refine lv_iconst (v := 0) hx hb dX7_reads_73 (by decide) ?_
        refine lv_iadd hx hb dX7_reads_74 ?_
        refine lv_topi (fun z_31 ez_31 => ?_)
        have e_z_31 : z_31.toInt = v_30.toInt + 0 := i_add ez_31 rfl (by decide) (by omega) (by omega)
        refine t_put0 (ci := 7) (v := .int z_31) hB hT (ro_ci r_21 rfl) (ro_n0 r_21 (by decide)) rfl 36 (by decide) k_781 (Or.inl rfl) rfl rfl dX7_reads_75 (fun H locs hT => ?_)
        have hI : Inv (sF g_14 h 36 (.int z_31)) := hI.sF (p_8_36 r_21 (⟨_, rfl, by omega, by omega⟩))
        have hM : Sm md_m_reads g (sF g_14 h 36 (.int z_31)) := hM.tr hE (Sm_sF (by rw [r_21]; rfl))
        have hE : Ex g (sF g_14 h 36 (.int z_31)) := hE
        have hN : PL 8 (sF g_14 h 36 (.int z_31)) na pa := hN
        refine lv_goto (tgt := 17) hx hb dX7_reads_78 (by decide) ?_
        exact ih (kf - 1) (by omega) (sF g_14 h 36 (.int z_31)) (0 : Int32) z2_15 H locs ls hT hI hE hM (by decide) (by decide) (by omega) (by omega) (sF_k f_16 (by decide)) hN (by have e0_ : (0 : Int32).toInt = 0 := (by decide); omega) (lv_sub hl [0, 1] rfl)
      · have c_29' : v_28.toInt = 0 := i_eq c_29 rfl (by decide)
        refine lv_aload_n hx hb dX7_reads_32 rfl (lv_at hl 1 rfl) ?_
        refine t_get (ci := 7) (v := .int z2_15) hB hT (ro_ci r_21 rfl) rfl 38 (by decide) k_783 f_16 dX7_reads_33 ?_
        refine lv_bipush (v := 8) hx hb dX7_reads_36 (by decide) ?_
        refine lv_icmp_ge (tgt := 58) hx hb dX7_reads_38 (by decide) (fun c_32 => ?_) (fun c_32 => ?_)
        · have c_32' : 8 ≤ z2_15.toInt := i_le c_32 (by decide) rfl
          refine lv_iconst (v := 0) hx hb dX7_reads_58 (by decide) ?_
          refine lv_istore_n (lv' := [(1, .int 0), (0, .ref h)]) hx hb dX7_reads_59 rfl hl (by decide) rfl (fun ls hl => ?_)
          refine lv_aload_n hx hb dX7_reads_60 rfl (lv_at hl 1 rfl) ?_
          refine lv_dup hx hb dX7_reads_61 rfl ?_
          obtain ⟨v_33, e_v_33, l_v_33, u_v_33⟩ := f_8_36 hI r_21
          refine t_get (ci := 7) (v := .int v_33) hB hT (ro_ci r_21 rfl) rfl 36 (by decide) k_781 e_v_33 dX7_reads_62 ?_
          refine lv_iload_n hx hb dX7_reads_65 rfl (lv_at hl 0 rfl) ?_
          refine lv_if_eq (tgt := 73) hx hb dX7_reads_66 (by decide) (fun c_ => ?_) (fun c_ => absurd (by decide) c_)
          refine lv_iconst (v := 0) hx hb dX7_reads_73 (by decide) ?_
          refine lv_iadd hx hb dX7_reads_74 ?_
          refine lv_topi (fun z_34 ez_34 => ?_)
          have e_z_34 : z_34.toInt = v_33.toInt + 0 := i_add ez_34 rfl (by decide) (by omega) (by omega)
          refine t_put0 (ci := 7) (v := .int z_34) hB hT (ro_ci r_21 rfl) (ro_n0 r_21 (by decide)) rfl 36 (by decide) k_781 (Or.inl rfl) rfl rfl dX7_reads_75 (fun H locs hT => ?_)
          have hI : Inv (sF g_14 h 36 (.int z_34)) := hI.sF (p_8_36 r_21 (⟨_, rfl, by omega, by omega⟩))
          have hM : Sm md_m_reads g (sF g_14 h 36 (.int z_34)) := hM.tr hE (Sm_sF (by rw [r_21]; rfl))
          have hE : Ex g (sF g_14 h 36 (.int z_34)) := hE
          have hN : PL 8 (sF g_14 h 36 (.int z_34)) na pa := hN
          refine lv_goto (tgt := 17) hx hb dX7_reads_78 (by decide) ?_
          exact ih (kf - 1) (by omega) (sF g_14 h 36 (.int z_34)) (0 : Int32) z2_15 H locs ls hT hI hE hM (by decide) (by decide) (by omega) (by omega) (sF_k f_16 (by decide)) hN (by have e0_ : (0 : Int32).toInt = 0 := (by decide); omega) (lv_sub hl [0, 1] rfl)
        · have c_32' : z2_15.toInt < 8 := i_nle c_32 (by decide) rfl
          refine lv_aload_n hx hb dX7_reads_41 rfl (lv_at hl 1 rfl) ?_
          refine lv_aload_n hx hb dX7_reads_42 rfl (lv_at hl 1 rfl) ?_
          obtain ⟨v_35, e_v_35, l_v_35, u_v_35⟩ := f_8_36 hI r_21
          refine t_get (ci := 7) (v := .int v_35) hB hT (ro_ci r_21 rfl) rfl 36 (by decide) k_781 e_v_35 dX7_reads_43 ?_
          obtain ⟨v_36, e_v_36, l_v_36, u_v_36⟩ := f_8_29 hI r_21
          obtain ⟨v_37, e_v_37, r_v_37, n_v_37⟩ := f_8_28 hI r_21
          refine t_callV (n := 1) (As := [.int v_35]) (rest := []) (ci := 7) hB hT hl.1 (m_byteAt l D cI cZ cS cR N0 g_14 hI h v_35 v_36 v_37 r_21 r_v_37 n_v_37 e_v_36 e_v_37 (by omega) (by omega) (by omega) (by omega)) (ro_ci r_21 rfl) rfl k_971 k_65 k_968 k_970 k_23 (by decide +kernel) ⟨(Nat.le_of_ble_eq_true rfl), (Nat.le_of_ble_eq_true rfl)⟩ rfl (Nat.le_of_ble_eq_true rfl) ⟨(Nat.le_of_ble_eq_true rfl), (Nat.le_of_ble_eq_true rfl)⟩ dX7_reads_46 (fun v g_38 H locs hp hT => ?_)
          obtain ⟨r_39, rfl, eg, f_40, f_41⟩ := hp
          rw [eg] at hT
          clear eg
          refine W.eq (g2 := F0 m 49 ls [.int r_39]) rfl ?_
          refine lv_bipush (v := 59) hx hb dX7_reads_49 (by decide) ?_
          refine lv_icmp_ne (tgt := 58) hx hb dX7_reads_51 (by decide) (fun c_44 => ?_) (fun c_44 => ?_)
          · have c_44' : r_39.toInt ≠ 59 := i_ne c_44 rfl (by decide)
            refine lv_iconst (v := 0) hx hb dX7_reads_58 (by decide) ?_
            refine lv_istore_n (lv' := [(1, .int 0), (0, .ref h)]) hx hb dX7_reads_59 rfl hl (by decide) rfl (fun ls hl => ?_)
            refine lv_aload_n hx hb dX7_reads_60 rfl (lv_at hl 1 rfl) ?_
            refine lv_dup hx hb dX7_reads_61 rfl ?_
            refine t_get (ci := 7) (v := .int v_35) hB hT (ro_ci r_21 rfl) rfl 36 (by decide) k_781 e_v_35 dX7_reads_62 ?_
            refine lv_iload_n hx hb dX7_reads_65 rfl (lv_at hl 0 rfl) ?_
            refine lv_if_eq (tgt := 73) hx hb dX7_reads_66 (by decide) (fun c_ => ?_) (fun c_ => absurd (by decide) c_)
            refine lv_iconst (v := 0) hx hb dX7_reads_73 (by decide) ?_
            refine lv_iadd hx hb dX7_reads_74 ?_
            refine lv_topi (fun z_45 ez_45 => ?_)
            have e_z_45 : z_45.toInt = v_35.toInt + 0 := i_add ez_45 rfl (by decide) (by omega) (by omega)
            refine t_put0 (ci := 7) (v := .int z_45) hB hT (ro_ci r_21 rfl) (ro_n0 r_21 (by decide)) rfl 36 (by decide) k_781 (Or.inl rfl) rfl rfl dX7_reads_75 (fun H locs hT => ?_)
            have hI : Inv (sF g_14 h 36 (.int z_45)) := hI.sF (p_8_36 r_21 (⟨_, rfl, by omega, by omega⟩))
            have hM : Sm md_m_reads g (sF g_14 h 36 (.int z_45)) := hM.tr hE (Sm_sF (by rw [r_21]; rfl))
            have hE : Ex g (sF g_14 h 36 (.int z_45)) := hE
            have hN : PL 8 (sF g_14 h 36 (.int z_45)) na pa := hN
            refine lv_goto (tgt := 17) hx hb dX7_reads_78 (by decide) ?_
            exact ih (kf - 1) (by omega) (sF g_14 h 36 (.int z_45)) (0 : Int32) z2_15 H locs ls hT hI hE hM (by decide) (by decide) (by omega) (by omega) (sF_k f_16 (by decide)) hN (by have e0_ : (0 : Int32).toInt = 0 := (by decide); omega) (lv_sub hl [0, 1] rfl)
          · have c_44' : r_39.toInt = 59 := i_eq c_44 rfl (by decide)
            refine lv_iconst (v := 1) hx hb dX7_reads_54 (by decide) ?_
            refine lv_goto (tgt := 59) hx hb dX7_reads_55 (by decide) ?_
            refine lv_istore_n (lv' := [(1, .int 1), (0, .ref h)]) hx hb dX7_reads_59 rfl hl (by decide) rfl (fun ls hl => ?_)
            refine lv_aload_n hx hb dX7_reads_60 rfl (lv_at hl 1 rfl) ?_
            refine lv_dup hx hb dX7_reads_61 rfl ?_
            refine t_get (ci := 7) (v := .int v_35) hB hT (ro_ci r_21 rfl) rfl 36 (by decide) k_781 e_v_35 dX7_reads_62 ?_
            refine lv_iload_n hx hb dX7_reads_65 rfl (lv_at hl 0 rfl) ?_
            refine lv_if_eq (tgt := 73) hx hb dX7_reads_66 (by decide) (fun c_ => absurd c_ (by decide)) (fun c_ => ?_)
            refine lv_iconst (v := 1) hx hb dX7_reads_69 (by decide) ?_
            refine lv_goto (tgt := 74) hx hb dX7_reads_70 (by decide) ?_
            refine lv_iadd hx hb dX7_reads_74 ?_
            refine lv_topi (fun z_46 ez_46 => ?_)
            have e_z_46 : z_46.toInt = v_35.toInt + 1 := i_add ez_46 rfl (by decide) (by omega) (by omega)
            refine t_put0 (ci := 7) (v := .int z_46) hB hT (ro_ci r_21 rfl) (ro_n0 r_21 (by decide)) rfl 36 (by decide) k_781 (Or.inl rfl) rfl rfl dX7_reads_75 (fun H locs hT => ?_)
            have hI : Inv (sF g_14 h 36 (.int z_46)) := hI.sF (p_8_36 r_21 (⟨_, rfl, by omega, by omega⟩))
            have hM : Sm md_m_reads g (sF g_14 h 36 (.int z_46)) := hM.tr hE (Sm_sF (by rw [r_21]; rfl))
            have hE : Ex g (sF g_14 h 36 (.int z_46)) := hE
            have hN : PL 8 (sF g_14 h 36 (.int z_46)) na pa := hN
            refine lv_goto (tgt := 17) hx hb dX7_reads_78 (by decide) ?_
            exact ih (kf - 1) (by omega) (sF g_14 h 36 (.int z_46)) (1 : Int32) z2_15 H locs ls hT hI hE hM (by decide) (by decide) (by omega) (by omega) (sF_k f_16 (by decide)) hN (by have e0_ : (0 : Int32).toInt = 0 := (by decide); have e1_ : (1 : Int32).toInt = 1 := (by decide); omega) (lv_sub hl [0, 1] rfl)
set_option maxHeartbeats 4000000 in
set_option maxRecDepth 100000 in
theorem m_reads (l : Launch) (D : va_G) (cI cZ cS cR : ClassId) (N0 : NT) (g : GS) (hI : Inv g) (h : Nat) (na : Nat) (pa : Nat) (r_h : g.1 h = 8) (r_na : g.1 na = 84) (n_na : g.2.2.1 na = 8) (r_pa : g.1 pa = 85) (n_pa : g.2.2.1 pa = 8) (kna : g.2.1 h 39 = .ref na) (kpa : g.2.1 h 40 = .ref pa) (hN_0 : PL 8 g na pa) : Ty l D cI cZ cS cR N0 yX7_reads cX7_reads 2 (some .boolean) 3 0 0 [.ref h] g (fun v g' => ∃ (r : Int32), v = some (.int r) ∧ Inv g' ∧ Ex g g' ∧ Sm md_m_reads g g' ∧ (r = 1 ∨ r = 0) ∧ (PL 8 g' na pa)) := by
  refine t_enter (by decide) (Nat.le_of_ble_eq_true rfl) ?_
  intro p e s m args below meth c ls H locs hB hr hin hl hT
  have hx := hB.1
  have hb := hB.2.1
  have hl : lv_has ls 2 [(0, .ref h)] := hl
  have hE : Ex g g := Ex.rf
  have hM : Sm md_m_reads g g := Sm.rf
  have hN := hN_0
  refine lv_aload_n hx hb dX7_reads_0 rfl (lv_at hl 0 rfl) ?_
  refine lv_iconst (v := 0) hx hb dX7_reads_1 (by decide) ?_
  refine t_put0 (ci := 7) (v := .int 0) hB hT (ro_ci r_h rfl) (ro_n0 r_h (by decide)) rfl 36 (by decide) k_781 (Or.inl rfl) rfl rfl dX7_reads_2 (fun H locs hT => ?_)
  have hI : Inv (sF g h 36 (.int 0)) := hI.sF (p_8_36 r_h (⟨_, rfl, by decide, by decide⟩))
  have hM : Sm md_m_reads g (sF g h 36 (.int 0)) := hM.tr hE (Sm_sF (by rw [r_h]; rfl))
  have hE : Ex g (sF g h 36 (.int 0)) := hE
  have hN : PL 8 (sF g h 36 (.int 0)) na pa := hN
  refine lv_aload_n hx hb dX7_reads_5 rfl (lv_at hl 0 rfl) ?_
  refine lv_iconst (v := 0) hx hb dX7_reads_6 (by decide) ?_
  refine t_put0 (ci := 7) (v := .int 0) hB hT (ro_ci r_h rfl) (ro_n0 r_h (by decide)) rfl 37 (by decide) k_782 (Or.inl rfl) rfl rfl dX7_reads_7 (fun H locs hT => ?_)
  have hI : Inv (sF (sF g h 36 (.int 0)) h 37 (.int 0)) := hI.sF (p_8_37 r_h (⟨_, rfl, by decide, by decide⟩))
  have hM : Sm md_m_reads g (sF (sF g h 36 (.int 0)) h 37 (.int 0)) := hM.tr hE (Sm_sF (by rw [r_h]; rfl))
  have hE : Ex g (sF (sF g h 36 (.int 0)) h 37 (.int 0)) := hE
  have hN : PL 8 (sF (sF g h 36 (.int 0)) h 37 (.int 0)) na pa := hN
  refine lv_aload_n hx hb dX7_reads_10 rfl (lv_at hl 0 rfl) ?_
  refine lv_iconst (v := 0) hx hb dX7_reads_11 (by decide) ?_
  refine t_put0 (ci := 7) (v := .int 0) hB hT (ro_ci r_h rfl) (ro_n0 r_h (by decide)) rfl 38 (by decide) k_783 (Or.inl rfl) rfl rfl dX7_reads_12 (fun H locs hT => ?_)
  have hI : Inv (sF (sF (sF g h 36 (.int 0)) h 37 (.int 0)) h 38 (.int 0)) := hI.sF (p_8_38 r_h (⟨_, rfl, by decide, by decide⟩))
  have hM : Sm md_m_reads g (sF (sF (sF g h 36 (.int 0)) h 37 (.int 0)) h 38 (.int 0)) := hM.tr hE (Sm_sF (by rw [r_h]; rfl))
  have hE : Ex g (sF (sF (sF g h 36 (.int 0)) h 37 (.int 0)) h 38 (.int 0)) := hE
  have hN : PL 8 (sF (sF (sF g h 36 (.int 0)) h 37 (.int 0)) h 38 (.int 0)) na pa := hN
  refine lv_iconst (v := 1) hx hb dX7_reads_15 (by decide) ?_
  refine lv_istore_n (lv' := [(1, .int 1), (0, .ref h)]) hx hb dX7_reads_16 rfl hl (by decide) rfl (fun ls hl => ?_)
  exact lt_m_reads_a l D cI cZ cS cR N0 g h na pa r_h r_na n_na r_pa n_pa kna kpa hN_0 hB hr   8 (sF (sF (sF g h 36 (.int 0)) h 37 (.int 0)) h 38 (.int 0)) (1 : Int32) (0 : Int32) H locs ls hT hI hE hM (by decide) (by decide) (by decide) (by decide) sF_eq hN (by have e0_ : (0 : Int32).toInt = 0 := (by decide); have e1_ : (1 : Int32).toInt = 1 := (by decide); omega) (lv_sub hl [0, 1] rfl)
abbrev md_m_takes : Nat → Nat → Bool := mdf [(8, 29), (71, 99), (72, 99), (73, 99), (88, 99)]
set_option maxHeartbeats 4000000 in
set_option maxRecDepth 100000 in
theorem lt_m_takes_a (l : Launch) (D : va_G) (cI cZ cS cR : ClassId) (N0 : NT) (g : GS) (h : Nat) (n : Int32) (na : Nat) (pa : Nat) (wa : Nat) (pl : Nat) (r_h : g.1 h = 8) (r_na : g.1 na = 84) (n_na : g.2.2.1 na = 8) (r_pa : g.1 pa = 85) (n_pa : g.2.2.1 pa = 8) (r_wa : g.1 wa = 71) (n_wa : g.2.2.1 wa = 48) (r_pl : g.1 pl = 72) (n_pl : g.2.2.1 pl = 48) (kna : g.2.1 h 39 = .ref na) (kpa : g.2.1 h 40 = .ref pa) (kwa : g.2.1 h 2 = .ref wa) (kpl : g.2.1 h 3 = .ref pl) (l_n : 0 ≤ n.toInt) (u_n : n.toInt ≤ 5) (hN_0 : PL 8 g na pa) (hW_0 : PL 48 g wa pl) {p : Program} {e : Env} {s : State} {m : MethodId} {args : Array Value} {below : List Frame} {meth : Method} {c : Code} (hB : Tz p s m meth c args cX7_takes 3 RX7 D cI cZ cS cR N0) (hr : meth.sig.returnType = none)    : ∀ (kf : Nat) (g1 : GS) (i : Int32)  (H : Heap) (locs : List Loc) (ls : Array Slot), Tv D cI cZ cS cR N0 s.heap H locs g1 → Inv g1 → Ex g g1 → Sm md_m_takes g g1 → 0 ≤ i.toInt → i.toInt ≤ 8 → (PL 8 g1 na pa) → (PL 48 g1 wa pl) → (8 ≤ i.toInt + kf) → lv_has ls 3 [(2, .int i), (0, .ref h), (1, .int n)] → W p l e (rmx 0 0 0) s m args below meth c H locs 0 0 (MQ below (tQ D cI cZ cS cR N0 (fun v g' => v = none ∧ Inv g' ∧ Ex g g' ∧ Sm md_m_takes g g' ∧ (PL 48 g' wa pl))) args s 0 0 (fun q => N0.1 ≤ q)) (F0 m 12 ls []) := by
  have hx := hB.1
  have hb := hB.2.1
  intro kf
  induction kf using Nat.strongRecOn with
  | ind kf ih =>
    intro g1 i H locs ls hT hI hE hM l_i u_i hN hW hk hl
    have r_1 : g1.1 h = 8 := Ex.r hE r_h (by decide)
    have r_2 : g1.1 na = 84 := Ex.r hE r_na (by decide)
    have n_3 : g1.2.2.1 na = 8 := Ex.n hE r_na (by decide) n_na
    have r_4 : g1.1 pa = 85 := Ex.r hE r_pa (by decide)
    have n_5 : g1.2.2.1 pa = 8 := Ex.n hE r_pa (by decide) n_pa
    have r_6 : g1.1 wa = 71 := Ex.r hE r_wa (by decide)
    have n_7 : g1.2.2.1 wa = 48 := Ex.n hE r_wa (by decide) n_wa
    have r_8 : g1.1 pl = 72 := Ex.r hE r_pl (by decide)
    have n_9 : g1.2.2.1 pl = 48 := Ex.n hE r_pl (by decide) n_pl
    have kn_10 : g1.2.1 h 39 = .ref na := Sm.v hM r_h (by decide) rfl kna
    have kn_11 : g1.2.1 h 40 = .ref pa := Sm.v hM r_h (by decide) rfl kpa
    have kn_12 : g1.2.1 h 2 = .ref wa := Sm.v hM r_h (by decide) rfl kwa
    have kn_13 : g1.2.1 h 3 = .ref pl := Sm.v hM r_h (by decide) rfl kpl
    refine lv_iload_n hx hb dX7_takes_12 rfl (lv_at hl 0 rfl) ?_
    refine lv_aload_n hx hb dX7_takes_13 rfl (lv_at hl 1 rfl) ?_
    obtain ⟨v_14, e_v_14, l_v_14, u_v_14⟩ := f_8_38 hI r_1
    refine t_get (ci := 7) (v := .int v_14) hB hT (ro_ci r_1 rfl) rfl 38 (by decide) k_783 e_v_14 dX7_takes_14 ?_
    refine lv_icmp_ge (tgt := 77) hx hb dX7_takes_17 (by decide) (fun c_15 => ?_) (fun c_15 => ?_)
    · have c_15' : v_14.toInt ≤ i.toInt := i_le c_15 rfl rfl
      refine lv_aload_n hx hb dX7_takes_77 rfl (lv_at hl 1 rfl) ?_
      refine lv_iconst (v := 0) hx hb dX7_takes_78 (by decide) ?_
      refine t_put0 (ci := 7) (v := .int 0) hB hT (ro_ci r_1 rfl) (ro_n0 r_1 (by decide)) rfl 29 (by decide) k_774 (Or.inl rfl) rfl rfl dX7_takes_79 (fun H locs hT => ?_)
      have hI : Inv (sF g1 h 29 (.int 0)) := hI.sF (p_8_29 r_1 (⟨_, rfl, by decide, by decide⟩))
      have hM : Sm md_m_takes g (sF g1 h 29 (.int 0)) := hM.tr hE (Sm_sF (by rw [r_1]; rfl))
      have hE : Ex g (sF g1 h 29 (.int 0)) := hE
      have hN : PL 8 (sF g1 h 29 (.int 0)) na pa := hN
      have hW : PL 48 (sF g1 h 29 (.int 0)) wa pl := hW
      exact t_vret hB hr hT (Nat.le_of_ble_eq_true rfl) (Nat.le_of_ble_eq_true rfl) dX7_takes_82 ⟨rfl, hI, hE, hM, hW⟩
    · have c_15' : i.toInt < v_14.toInt := i_nle c_15 rfl rfl
      refine lv_aload_n hx hb dX7_takes_20 rfl (lv_at hl 1 rfl) ?_
      refine t_get (ci := 7) (v := .ref wa) hB hT (ro_ci r_1 rfl) rfl 2 (by decide) k_747 kn_12 dX7_takes_21 ?_
      refine lv_bipush (v := 8) hx hb dX7_takes_24 (by decide) ?_
      refine lv_iload_n hx hb dX7_takes_26 rfl (lv_at hl 2 rfl) ?_
      refine lv_imul hx hb dX7_takes_27 ?_
      refine lv_topi (fun z_16 ez_16 => ?_)
      have e_z_16 : z_16.toInt = 8 * n.toInt := i_mul ez_16 (by decide) rfl (by omega) (by omega)
      refine lv_iload_n hx hb dX7_takes_28 rfl (lv_at hl 0 rfl) ?_
      refine lv_iadd hx hb dX7_takes_29 ?_
      refine lv_topi (fun z_17 ez_17 => ?_)
      have e_z_17 : z_17.toInt = z_16.toInt + i.toInt := i_add ez_17 rfl rfl (by omega) (by omega)
      refine lv_aload_n hx hb dX7_takes_30 rfl (lv_at hl 1 rfl) ?_
      refine t_get (ci := 7) (v := .ref na) hB hT (ro_ci r_1 rfl) rfl 39 (by decide) k_784 kn_10 dX7_takes_31 ?_
      refine lv_iload_n hx hb dX7_takes_34 rfl (lv_at hl 0 rfl) ?_
      have i_u_18 : vp_in i 8 := (i_in (n := 8) rfl (by omega) (by omega))
      refine t_iald hB hT (ro_in r_2 (by decide)) n_3 i_u_18 rfl dX7_takes_35 ?_
      refine lv_topi (fun u_18 e_u_18 => ?_)
      have i_19 : vp_in z_17 48 := (i_in (n := 48) rfl (by omega) (by omega))
      refine t_iast hB hT (ro_in r_6 (by decide)) n_7 i_19 dX7_takes_36 (fun H locs hT => ?_)
      have hI : Inv (sC g1 wa z_17.toNatClampNeg u_18) := hI.sC (ck r_6 trivial)
      have hM : Sm md_m_takes g (sC g1 wa z_17.toNatClampNeg u_18) := hM.tr hE (Sm_sC (by rw [r_6]; rfl))
      have hE : Ex g (sC g1 wa z_17.toNatClampNeg u_18) := hE
      have hN : PL 8 (sC g1 wa z_17.toNatClampNeg u_18) na pa := hN.tC (ro_ne r_2 r_6 (by decide)) (ro_ne r_4 r_6 (by decide))
      refine lv_aload_n hx hb dX7_takes_37 rfl (lv_at hl 1 rfl) ?_
      refine t_get (ci := 7) (v := .ref pl) hB hT (ro_ci r_1 rfl) rfl 3 (by decide) k_748 kn_13 dX7_takes_38 ?_
      refine lv_bipush (v := 8) hx hb dX7_takes_41 (by decide) ?_
      refine lv_iload_n hx hb dX7_takes_43 rfl (lv_at hl 2 rfl) ?_
      refine lv_imul hx hb dX7_takes_44 ?_
      refine lv_topi (fun z_20 ez_20 => ?_)
      have e_z_20 : z_20.toInt = 8 * n.toInt := i_mul ez_20 (by decide) rfl (by omega) (by omega)
      refine lv_iload_n hx hb dX7_takes_45 rfl (lv_at hl 0 rfl) ?_
      refine lv_iadd hx hb dX7_takes_46 ?_
      refine lv_topi (fun z_21 ez_21 => ?_)
      have e_z_21 : z_21.toInt = z_20.toInt + i.toInt := i_add ez_21 rfl rfl (by omega) (by omega)
      refine lv_aload_n hx hb dX7_takes_47 rfl (lv_at hl 1 rfl) ?_
      refine t_get (ci := 7) (v := .ref pa) hB hT (ro_ci r_1 rfl) rfl 40 (by decide) k_785 kn_11 dX7_takes_48 ?_
      refine lv_iload_n hx hb dX7_takes_51 rfl (lv_at hl 0 rfl) ?_
      have i_u_22 : vp_in i 8 := (i_in (n := 8) rfl (by omega) (by omega))
      refine t_iald hB hT (ro_in r_4 (by decide)) n_5 i_u_22 rfl dX7_takes_52 ?_
      have c_u_22 := hI.c r_4 n_5 (i_cl i_u_22)
      refine lv_topi (fun u_22 e_u_22 => ?_)
      obtain ⟨l_u_22, u_u_22⟩ := c_u_22
      rw [← e_u_22] at l_u_22 u_u_22
      have i_23 : vp_in z_21 48 := (i_in (n := 48) rfl (by omega) (by omega))
      refine t_iast hB hT (ro_in r_8 (by decide)) n_9 i_23 dX7_takes_53 (fun H locs hT => ?_)
      have hI : Inv (sC (sC g1 wa z_17.toNatClampNeg u_18) pl z_21.toNatClampNeg u_22) := hI.sC (ck r_8 ⟨by omega, by omega⟩)
      have hM : Sm md_m_takes g (sC (sC g1 wa z_17.toNatClampNeg u_18) pl z_21.toNatClampNeg u_22) := hM.tr hE (Sm_sC (by rw [r_8]; rfl))
      have hE : Ex g (sC (sC g1 wa z_17.toNatClampNeg u_18) pl z_21.toNatClampNeg u_22) := hE
      have hN : PL 8 (sC (sC g1 wa z_17.toNatClampNeg u_18) pl z_21.toNatClampNeg u_22) na pa := hN.tC (ro_ne r_2 r_8 (by decide)) (ro_ne r_4 r_8 (by decide))
      have hW : PL 48 (sC (sC g1 wa z_17.toNatClampNeg u_18) pl z_21.toNatClampNeg u_22) wa pl := PL.st hW (ro_ne r_6 r_8 (by decide)) (i_nt (by omega)) (PLu (hN i.toNatClampNeg (i_cl (i_in (n := 8) rfl (by omega) (by omega)))) (sC_a e_u_22.symm (ro_ne r_4 r_8 (by decide))) (sC_a (sC_a e_u_18.symm (ro_ne r_2 r_6 (by decide))) (ro_ne r_2 r_8 (by decide))))
      refine lv_aload_n hx hb dX7_takes_54 rfl (lv_at hl 1 rfl) ?_
      obtain ⟨v_24, e_v_24, r_v_24, n_v_24⟩ := f_8_4 hI r_1
      refine t_get (ci := 7) (v := .ref v_24) hB hT (ro_ci r_1 rfl) rfl 4 (by decide) k_749 e_v_24 dX7_takes_55 ?_
      refine lv_bipush (v := 8) hx hb dX7_takes_58 (by decide) ?_
      refine lv_iload_n hx hb dX7_takes_60 rfl (lv_at hl 2 rfl) ?_
      refine lv_imul hx hb dX7_takes_61 ?_
      refine lv_topi (fun z_25 ez_25 => ?_)
      have e_z_25 : z_25.toInt = 8 * n.toInt := i_mul ez_25 (by decide) rfl (by omega) (by omega)
      refine lv_iload_n hx hb dX7_takes_62 rfl (lv_at hl 0 rfl) ?_
      refine lv_iadd hx hb dX7_takes_63 ?_
      refine lv_topi (fun z_26 ez_26 => ?_)
      have e_z_26 : z_26.toInt = z_25.toInt + i.toInt := i_add ez_26 rfl rfl (by omega) (by omega)
      refine lv_aload_n hx hb dX7_takes_64 rfl (lv_at hl 1 rfl) ?_
      obtain ⟨v_27, e_v_27, r_v_27, n_v_27⟩ := f_8_41 hI r_1
      refine t_get (ci := 7) (v := .ref v_27) hB hT (ro_ci r_1 rfl) rfl 41 (by decide) k_786 e_v_27 dX7_takes_65 ?_
      refine lv_iload_n hx hb dX7_takes_68 rfl (lv_at hl 0 rfl) ?_
      have i_u_28 : vp_in i 8 := (i_in (n := 8) rfl (by omega) (by omega))
      refine t_iald hB hT (ro_in r_v_27 (by decide)) n_v_27 i_u_28 rfl dX7_takes_69 ?_
      have c_u_28 := hI.c r_v_27 n_v_27 (i_cl i_u_28)
      refine lv_topi (fun u_28 e_u_28 => ?_)
      obtain ⟨l_u_28, u_u_28⟩ := c_u_28
      rw [← e_u_28] at l_u_28 u_u_28
      have i_29 : vp_in z_26 48 := (i_in (n := 48) rfl (by omega) (by omega))
      refine t_iast hB hT (ro_in r_v_24 (by decide)) n_v_24 i_29 dX7_takes_70 (fun H locs hT => ?_)
      have hI : Inv (sC (sC (sC g1 wa z_17.toNatClampNeg u_18) pl z_21.toNatClampNeg u_22) v_24 z_26.toNatClampNeg u_28) := hI.sC (ck r_v_24 ⟨by omega, by omega⟩)
      have hM : Sm md_m_takes g (sC (sC (sC g1 wa z_17.toNatClampNeg u_18) pl z_21.toNatClampNeg u_22) v_24 z_26.toNatClampNeg u_28) := hM.tr hE (Sm_sC (by rw [r_v_24]; rfl))
      have hE : Ex g (sC (sC (sC g1 wa z_17.toNatClampNeg u_18) pl z_21.toNatClampNeg u_22) v_24 z_26.toNatClampNeg u_28) := hE
      have hN : PL 8 (sC (sC (sC g1 wa z_17.toNatClampNeg u_18) pl z_21.toNatClampNeg u_22) v_24 z_26.toNatClampNeg u_28) na pa := hN.tC (ro_ne r_2 r_v_24 (by decide)) (ro_ne r_4 r_v_24 (by decide))
      have hW : PL 48 (sC (sC (sC g1 wa z_17.toNatClampNeg u_18) pl z_21.toNatClampNeg u_22) v_24 z_26.toNatClampNeg u_28) wa pl := hW.tC (ro_ne r_6 r_v_24 (by decide)) (ro_ne r_8 r_v_24 (by decide))
      obtain ⟨z_30, ez_30⟩ : ∃ z : Int32, z = i + 1 := ⟨_, rfl⟩
      have e_z_30 : z_30.toInt = i.toInt + 1 := i_add ez_30 rfl (by decide) (by omega) (by omega)
      refine lv_iinc (v := z_30) (lv' := [(2, .int z_30), (0, .ref h), (1, .int n)]) hx hb dX7_takes_71 hl (k := 0) rfl (by rw [ez_30]; rfl) (by decide) rfl (fun ls hl => ?_)
      refine lv_goto (tgt := 12) hx hb dX7_takes_74 (by decide) ?_
      exact ih (kf - 1) (by omega) (sC (sC (sC g1 wa z_17.toNatClampNeg u_18) pl z_21.toNatClampNeg u_22) v_24 z_26.toNatClampNeg u_28) z_30 H locs ls hT hI hE hM (by omega) (by omega) hN hW (by have e0_ : (0 : Int32).toInt = 0 := (by decide); omega) (lv_sub hl [0, 1, 2] rfl)
set_option maxHeartbeats 4000000 in
set_option maxRecDepth 100000 in
theorem m_takes (l : Launch) (D : va_G) (cI cZ cS cR : ClassId) (N0 : NT) (g : GS) (hI : Inv g) (h : Nat) (n : Int32) (na : Nat) (pa : Nat) (wa : Nat) (pl : Nat) (r_h : g.1 h = 8) (r_na : g.1 na = 84) (n_na : g.2.2.1 na = 8) (r_pa : g.1 pa = 85) (n_pa : g.2.2.1 pa = 8) (r_wa : g.1 wa = 71) (n_wa : g.2.2.1 wa = 48) (r_pl : g.1 pl = 72) (n_pl : g.2.2.1 pl = 48) (kna : g.2.1 h 39 = .ref na) (kpa : g.2.1 h 40 = .ref pa) (kwa : g.2.1 h 2 = .ref wa) (kpl : g.2.1 h 3 = .ref pl) (l_n : 0 ≤ n.toInt) (u_n : n.toInt ≤ 5) (hN_0 : PL 8 g na pa) (hW_0 : PL 48 g wa pl) : Ty l D cI cZ cS cR N0 yX7_takes cX7_takes 3 none 0 0 0 [.ref h, .int n] g (fun v g' => v = none ∧ Inv g' ∧ Ex g g' ∧ Sm md_m_takes g g' ∧ (PL 48 g' wa pl)) := by
  refine t_enter (by decide) (Nat.le_of_ble_eq_true rfl) ?_
  intro p e s m args below meth c ls H locs hB hr hin hl hT
  have hx := hB.1
  have hb := hB.2.1
  have hl : lv_has ls 3 [(0, .ref h), (1, .int n)] := hl
  have hE : Ex g g := Ex.rf
  have hM : Sm md_m_takes g g := Sm.rf
  have hN := hN_0
  have hW := hW_0
  refine lv_aload_n hx hb dX7_takes_0 rfl (lv_at hl 0 rfl) ?_
  obtain ⟨v_1, e_v_1, r_v_1, n_v_1⟩ := f_8_1 hI r_h
  refine t_get (ci := 7) (v := .ref v_1) hB hT (ro_ci r_h rfl) rfl 1 (by decide) k_746 e_v_1 dX7_takes_1 ?_
  refine lv_iload_n hx hb dX7_takes_4 rfl (lv_at hl 1 rfl) ?_
  refine lv_aload_n hx hb dX7_takes_5 rfl (lv_at hl 0 rfl) ?_
  obtain ⟨v_2, e_v_2, l_v_2, u_v_2⟩ := f_8_38 hI r_h
  refine t_get (ci := 7) (v := .int v_2) hB hT (ro_ci r_h rfl) rfl 38 (by decide) k_783 e_v_2 dX7_takes_6 ?_
  have i_3 : vp_in n 6 := (i_in (n := 6) rfl (by omega) (by omega))
  refine t_iast hB hT (ro_in r_v_1 (by decide)) n_v_1 i_3 dX7_takes_9 (fun H locs hT => ?_)
  have hI : Inv (sC g v_1 n.toNatClampNeg v_2) := hI.sC (ck r_v_1 ⟨by omega, by omega⟩)
  have hM : Sm md_m_takes g (sC g v_1 n.toNatClampNeg v_2) := hM.tr hE (Sm_sC (by rw [r_v_1]; rfl))
  have hE : Ex g (sC g v_1 n.toNatClampNeg v_2) := hE
  have hN : PL 8 (sC g v_1 n.toNatClampNeg v_2) na pa := hN.tC (ro_ne r_na r_v_1 (by decide)) (ro_ne r_pa r_v_1 (by decide))
  have hW : PL 48 (sC g v_1 n.toNatClampNeg v_2) wa pl := hW.tC (ro_ne r_wa r_v_1 (by decide)) (ro_ne r_pl r_v_1 (by decide))
  refine lv_iconst (v := 0) hx hb dX7_takes_10 (by decide) ?_
  refine lv_istore_n (lv' := [(2, .int 0), (0, .ref h), (1, .int n)]) hx hb dX7_takes_11 rfl hl (by decide) rfl (fun ls hl => ?_)
  exact lt_m_takes_a l D cI cZ cS cR N0 g h n na pa wa pl r_h r_na n_na r_pa n_pa r_wa n_wa r_pl n_pl kna kpa kwa kpl l_n u_n hN_0 hW_0 hB hr   8 (sC g v_1 n.toNatClampNeg v_2) (0 : Int32) H locs ls hT hI hE hM (by decide) (by decide) hN hW (by have e0_ : (0 : Int32).toInt = 0 := (by decide); omega) (lv_sub hl [0, 1, 2] rfl)
