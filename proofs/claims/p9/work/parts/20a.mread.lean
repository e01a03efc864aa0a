theorem k_23 : Cond.selects RX7 yX7_byteAt yX7_byteAt ∈ tb := mt 23 (by decide +kernel) rfl
theorem k_65 : Cond.initialized RX7 ∈ tb := mt 65 (by decide +kernel) rfl
theorem k_745 : Cond.fieldLink RX7 167 "TwiceOnceModel" "services" "I" ∈ tb := mt 745 (by decide +kernel) rfl
theorem k_750 : Cond.fieldLink RX7 22 "TwiceOnceModel" "mends" "[I" ∈ tb := mt 750 (by decide +kernel) rfl
theorem k_773 : Cond.fieldLink RX7 83 "TwiceOnceModel" "tape" "[I" ∈ tb := mt 773 (by decide +kernel) rfl
theorem k_774 : Cond.fieldLink RX7 175 "TwiceOnceModel" "taped" "I" ∈ tb := mt 774 (by decide +kernel) rfl
theorem k_781 : Cond.fieldLink RX7 184 "TwiceOnceModel" "spot" "I" ∈ tb := mt 781 (by decide +kernel) rfl
theorem k_782 : Cond.fieldLink RX7 180 "TwiceOnceModel" "isWrong" "Z" ∈ tb := mt 782 (by decide +kernel) rfl
theorem k_952 : Cond.methodLink RX7 171 yX7_in ∈ tb := mt 952 (by decide +kernel) rfl
theorem k_953 : Cond.static yX7_in ∈ tb := mt 953 (by decide +kernel) rfl
set_option maxRecDepth 20000 in
theorem k_954 : Cond.code yX7_in cX7_in 3 (some .boolean) ∈ tb := mt 954 rfl rfl
theorem k_955 : Cond.constantLong RX7 178 255 ∈ tb := mt 955 (by decide +kernel) rfl
theorem k_968 : Cond.methodLink RX7 187 yX7_byteAt ∈ tb := mt 968 (by decide +kernel) rfl
theorem k_970 : Cond.instanceMethod yX7_byteAt ∈ tb := mt 970 (by decide +kernel) rfl
set_option maxRecDepth 20000 in
theorem k_971 : Cond.code yX7_byteAt cX7_byteAt 2 (some .int) ∈ tb := mt 971 rfl rfl
theorem dX7_in_0 : decode cX7_in 0 = .ok (.iload_n 0, 1) := by decide +kernel
theorem dX7_in_1 : decode cX7_in 1 = .ok (.iload_n 1, 1) := by decide +kernel
theorem dX7_in_2 : decode cX7_in 2 = .ok (.if_icmp .lt 12, 3) := by decide +kernel
theorem dX7_in_14 : decode cX7_in 14 = .ok (.iconst 0, 1) := by decide +kernel
theorem dX7_in_15 : decode cX7_in 15 = .ok (.ireturn, 1) := by decide +kernel
theorem dX7_in_5 : decode cX7_in 5 = .ok (.iload_n 0, 1) := by decide +kernel
theorem dX7_in_6 : decode cX7_in 6 = .ok (.iload_n 2, 1) := by decide +kernel
theorem dX7_in_7 : decode cX7_in 7 = .ok (.if_icmp .gt 7, 3) := by decide +kernel
theorem dX7_in_10 : decode cX7_in 10 = .ok (.iconst 1, 1) := by decide +kernel
theorem dX7_in_11 : decode cX7_in 11 = .ok (.goto 4, 3) := by decide +kernel
theorem dX7_isService_0 : decode cX7_isService 0 = .ok (.iload_n 1, 1) := by decide +kernel
theorem dX7_isService_1 : decode cX7_isService 1 = .ok (.iconst 0, 1) := by decide +kernel
theorem dX7_isService_2 : decode cX7_isService 2 = .ok (.aload_n 0, 1) := by decide +kernel
theorem dX7_isService_3 : decode cX7_isService 3 = .ok (.getfield 167, 3) := by decide +kernel
theorem dX7_isService_6 : decode cX7_isService 6 = .ok (.iconst 1, 1) := by decide +kernel
theorem dX7_isService_7 : decode cX7_isService 7 = .ok (.isub, 1) := by decide +kernel
theorem dX7_isService_8 : decode cX7_isService 8 = .ok (.invokestatic 171, 3) := by decide +kernel
theorem dX7_isService_11 : decode cX7_isService 11 = .ok (.ireturn, 1) := by decide +kernel
theorem dX7_has_0 : decode cX7_has 0 = .ok (.aload_n 0, 1) := by decide +kernel
theorem dX7_has_1 : decode cX7_has 1 = .ok (.getfield 22, 3) := by decide +kernel
theorem dX7_has_4 : decode cX7_has 4 = .ok (.iload_n 1, 1) := by decide +kernel
theorem dX7_has_5 : decode cX7_has 5 = .ok (.iaload, 1) := by decide +kernel
theorem dX7_has_6 : decode cX7_has 6 = .ok (.iload_n 2, 1) := by decide +kernel
theorem dX7_has_7 : decode cX7_has 7 = .ok (.ishr, 1) := by decide +kernel
theorem dX7_has_8 : decode cX7_has 8 = .ok (.iconst 1, 1) := by decide +kernel
theorem dX7_has_9 : decode cX7_has 9 = .ok (.iand, 1) := by decide +kernel
theorem dX7_has_10 : decode cX7_has 10 = .ok (.iconst 1, 1) := by decide +kernel
theorem dX7_has_11 : decode cX7_has 11 = .ok (.if_icmp .ne 7, 3) := by decide +kernel
theorem dX7_has_18 : decode cX7_has 18 = .ok (.iconst 0, 1) := by decide +kernel
theorem dX7_has_19 : decode cX7_has 19 = .ok (.ireturn, 1) := by decide +kernel
theorem dX7_has_14 : decode cX7_has 14 = .ok (.iconst 1, 1) := by decide +kernel
theorem dX7_has_15 : decode cX7_has 15 = .ok (.goto 4, 3) := by decide +kernel
theorem dX7_feed_32 : decode cX7_feed 32 = .ok (.iload 4, 2) := by decide +kernel
theorem dX7_feed_34 : decode cX7_feed 34 = .ok (.ifCond .lt 40, 3) := by decide +kernel
theorem dX7_feed_74 : decode cX7_feed 74 = .ok (.aload_n 0, 1) := by decide +kernel
theorem dX7_feed_75 : decode cX7_feed 75 = .ok (.getfield 175, 3) := by decide +kernel
theorem dX7_feed_78 : decode cX7_feed 78 = .ok (.ireturn, 1) := by decide +kernel
theorem dX7_feed_37 : decode cX7_feed 37 = .ok (.aload_n 0, 1) := by decide +kernel
theorem dX7_feed_38 : decode cX7_feed 38 = .ok (.getfield 83, 3) := by decide +kernel
theorem dX7_feed_41 : decode cX7_feed 41 = .ok (.aload_n 0, 1) := by decide +kernel
theorem dX7_feed_42 : decode cX7_feed 42 = .ok (.getfield 175, 3) := by decide +kernel
theorem dX7_feed_45 : decode cX7_feed 45 = .ok (.lload_n 1, 1) := by decide +kernel
theorem dX7_feed_46 : decode cX7_feed 46 = .ok (.bipush 8, 2) := by decide +kernel
theorem dX7_feed_48 : decode cX7_feed 48 = .ok (.iload 4, 2) := by decide +kernel
theorem dX7_feed_50 : decode cX7_feed 50 = .ok (.imul, 1) := by decide +kernel
theorem dX7_feed_51 : decode cX7_feed 51 = .ok (.lshr, 1) := by decide +kernel
theorem dX7_feed_52 : decode cX7_feed 52 = .ok (.ldc2_w 178, 3) := by decide +kernel
theorem dX7_feed_55 : decode cX7_feed 55 = .ok (.land, 1) := by decide +kernel
theorem dX7_feed_56 : decode cX7_feed 56 = .ok (.l2i, 1) := by decide +kernel
theorem dX7_feed_57 : decode cX7_feed 57 = .ok (.iastore, 1) := by decide +kernel
theorem dX7_feed_58 : decode cX7_feed 58 = .ok (.aload_n 0, 1) := by decide +kernel
theorem dX7_feed_59 : decode cX7_feed 59 = .ok (.dup, 1) := by decide +kernel
theorem dX7_feed_60 : decode cX7_feed 60 = .ok (.getfield 175, 3) := by decide +kernel
theorem dX7_feed_63 : decode cX7_feed 63 = .ok (.iconst 1, 1) := by decide +kernel
theorem dX7_feed_64 : decode cX7_feed 64 = .ok (.iadd, 1) := by decide +kernel
theorem dX7_feed_65 : decode cX7_feed 65 = .ok (.putfield 175, 3) := by decide +kernel
theorem dX7_feed_68 : decode cX7_feed 68 = .ok (.iinc 4 (-1), 3) := by decide +kernel
theorem dX7_feed_71 : decode cX7_feed 71 = .ok (.goto (-39), 3) := by decide +kernel
theorem dX7_feed_0 : decode cX7_feed 0 = .ok (.iload_n 3, 1) := by decide +kernel
theorem dX7_feed_1 : decode cX7_feed 1 = .ok (.iconst 1, 1) := by decide +kernel
theorem dX7_feed_2 : decode cX7_feed 2 = .ok (.bipush 8, 2) := by decide +kernel
theorem dX7_feed_4 : decode cX7_feed 4 = .ok (.invokestatic 171, 3) := by decide +kernel
theorem dX7_feed_7 : decode cX7_feed 7 = .ok (.ifCond .ne 6, 3) := by decide +kernel
theorem dX7_feed_13 : decode cX7_feed 13 = .ok (.aload_n 0, 1) := by decide +kernel
theorem dX7_feed_14 : decode cX7_feed 14 = .ok (.getfield 175, 3) := by decide +kernel
theorem dX7_feed_17 : decode cX7_feed 17 = .ok (.iload_n 3, 1) := by decide +kernel
theorem dX7_feed_18 : decode cX7_feed 18 = .ok (.iadd, 1) := by decide +kernel
theorem dX7_feed_19 : decode cX7_feed 19 = .ok (.bipush 100, 2) := by decide +kernel
theorem dX7_feed_21 : decode cX7_feed 21 = .ok (.if_icmp .le 6, 3) := by decide +kernel
theorem dX7_feed_27 : decode cX7_feed 27 = .ok (.iload_n 3, 1) := by decide +kernel
theorem dX7_feed_28 : decode cX7_feed 28 = .ok (.iconst 1, 1) := by decide +kernel
theorem dX7_feed_29 : decode cX7_feed 29 = .ok (.isub, 1) := by decide +kernel
theorem dX7_feed_30 : decode cX7_feed 30 = .ok (.istore 4, 2) := by decide +kernel
theorem dX7_feed_24 : decode cX7_feed 24 = .ok (.bipush (-4), 2) := by decide +kernel
theorem dX7_feed_26 : decode cX7_feed 26 = .ok (.ireturn, 1) := by decide +kernel
theorem dX7_feed_10 : decode cX7_feed 10 = .ok (.bipush (-2), 2) := by decide +kernel
theorem dX7_feed_12 : decode cX7_feed 12 = .ok (.ireturn, 1) := by decide +kernel
theorem dX7_byteAt_0 : decode cX7_byteAt 0 = .ok (.iload_n 1, 1) := by decide +kernel
theorem dX7_byteAt_1 : decode cX7_byteAt 1 = .ok (.aload_n 0, 1) := by decide +kernel
theorem dX7_byteAt_2 : decode cX7_byteAt 2 = .ok (.getfield 175, 3) := by decide +kernel
theorem dX7_byteAt_5 : decode cX7_byteAt 5 = .ok (.if_icmp .ge 12, 3) := by decide +kernel
theorem dX7_byteAt_17 : decode cX7_byteAt 17 = .ok (.iconst (-1), 1) := by decide +kernel
theorem dX7_byteAt_18 : decode cX7_byteAt 18 = .ok (.ireturn, 1) := by decide +kernel
theorem dX7_byteAt_8 : decode cX7_byteAt 8 = .ok (.aload_n 0, 1) := by decide +kernel
theorem dX7_byteAt_9 : decode cX7_byteAt 9 = .ok (.getfield 83, 3) := by decide +kernel
theorem dX7_byteAt_12 : decode cX7_byteAt 12 = .ok (.iload_n 1, 1) := by decide +kernel
theorem dX7_byteAt_13 : decode cX7_byteAt 13 = .ok (.iaload, 1) := by decide +kernel
theorem dX7_byteAt_14 : decode cX7_byteAt 14 = .ok (.goto 4, 3) := by decide +kernel
theorem dX7_must_0 : decode cX7_must 0 = .ok (.aload_n 0, 1) := by decide +kernel
theorem dX7_must_1 : decode cX7_must 1 = .ok (.aload_n 0, 1) := by decide +kernel
theorem dX7_must_2 : decode cX7_must 2 = .ok (.getfield 180, 3) := by decide +kernel
theorem dX7_must_5 : decode cX7_must 5 = .ok (.ifCond .ne 15, 3) := by decide +kernel
theorem dX7_must_20 : decode cX7_must 20 = .ok (.iconst 1, 1) := by decide +kernel
theorem dX7_must_21 : decode cX7_must 21 = .ok (.goto 4, 3) := by decide +kernel
theorem dX7_must_25 : decode cX7_must 25 = .ok (.putfield 180, 3) := by decide +kernel
theorem dX7_must_28 : decode cX7_must 28 = .ok (.aload_n 0, 1) := by decide +kernel
theorem dX7_must_29 : decode cX7_must 29 = .ok (.dup, 1) := by decide +kernel
theorem dX7_must_30 : decode cX7_must 30 = .ok (.getfield 184, 3) := by decide +kernel
theorem dX7_must_33 : decode cX7_must 33 = .ok (.aload_n 0, 1) := by decide +kernel
theorem dX7_must_34 : decode cX7_must 34 = .ok (.getfield 180, 3) := by decide +kernel
theorem dX7_must_37 : decode cX7_must 37 = .ok (.ifCond .eq 7, 3) := by decide +kernel
theorem dX7_must_40 : decode cX7_must 40 = .ok (.iconst 0, 1) := by decide +kernel
theorem dX7_must_41 : decode cX7_must 41 = .ok (.goto 4, 3) := by decide +kernel
theorem dX7_must_45 : decode cX7_must 45 = .ok (.iadd, 1) := by decide +kernel
theorem dX7_must_46 : decode cX7_must 46 = .ok (.putfield 184, 3) := by decide +kernel
theorem dX7_must_49 : decode cX7_must 49 = .ok (.return_, 1) := by decide +kernel
theorem dX7_must_8 : decode cX7_must 8 = .ok (.aload_n 0, 1) := by decide +kernel
theorem dX7_must_9 : decode cX7_must 9 = .ok (.aload_n 0, 1) := by decide +kernel
theorem dX7_must_10 : decode cX7_must 10 = .ok (.getfield 184, 3) := by decide +kernel
theorem dX7_must_13 : decode cX7_must 13 = .ok (.invokevirtual 187, 3) := by decide +kernel
theorem dX7_must_16 : decode cX7_must 16 = .ok (.iload_n 1, 1) := by decide +kernel
theorem dX7_must_17 : decode cX7_must 17 = .ok (.if_icmp .eq 7, 3) := by decide +kernel
theorem dX7_must_24 : decode cX7_must 24 = .ok (.iconst 0, 1) := by decide +kernel
theorem dX7_must_44 : decode cX7_must 44 = .ok (.iconst 1, 1) := by decide +kernel
theorem dX7_readsWorth_0 : decode cX7_readsWorth 0 = .ok (.aload_n 0, 1) := by decide +kernel
theorem dX7_readsWorth_1 : decode cX7_readsWorth 1 = .ok (.getfield 180, 3) := by decide +kernel
theorem dX7_readsWorth_4 : decode cX7_readsWorth 4 = .ok (.ifCond .eq 7, 3) := by decide +kernel
theorem dX7_readsWorth_11 : decode cX7_readsWorth 11 = .ok (.aload_n 0, 1) := by decide +kernel
theorem dX7_readsWorth_12 : decode cX7_readsWorth 12 = .ok (.aload_n 0, 1) := by decide +kernel
theorem dX7_readsWorth_13 : decode cX7_readsWorth 13 = .ok (.getfield 184, 3) := by decide +kernel
theorem dX7_readsWorth_16 : decode cX7_readsWorth 16 = .ok (.invokevirtual 187, 3) := by decide +kernel
theorem dX7_readsWorth_19 : decode cX7_readsWorth 19 = .ok (.istore_n 1, 1) := by decide +kernel
theorem dX7_readsWorth_20 : decode cX7_readsWorth 20 = .ok (.iload_n 1, 1) := by decide +kernel
theorem dX7_readsWorth_21 : decode cX7_readsWorth 21 = .ok (.bipush 120, 2) := by decide +kernel
theorem dX7_readsWorth_23 : decode cX7_readsWorth 23 = .ok (.if_icmp .eq 9, 3) := by decide +kernel
theorem dX7_readsWorth_32 : decode cX7_readsWorth 32 = .ok (.aload_n 0, 1) := by decide +kernel
theorem dX7_readsWorth_33 : decode cX7_readsWorth 33 = .ok (.dup, 1) := by decide +kernel
theorem dX7_readsWorth_34 : decode cX7_readsWorth 34 = .ok (.getfield 184, 3) := by decide +kernel
theorem dX7_readsWorth_37 : decode cX7_readsWorth 37 = .ok (.iconst 1, 1) := by decide +kernel
theorem dX7_readsWorth_38 : decode cX7_readsWorth 38 = .ok (.iadd, 1) := by decide +kernel
theorem dX7_readsWorth_39 : decode cX7_readsWorth 39 = .ok (.putfield 184, 3) := by decide +kernel
theorem dX7_readsWorth_42 : decode cX7_readsWorth 42 = .ok (.iload_n 1, 1) := by decide +kernel
theorem dX7_readsWorth_43 : decode cX7_readsWorth 43 = .ok (.bipush 120, 2) := by decide +kernel
theorem dX7_readsWorth_45 : decode cX7_readsWorth 45 = .ok (.if_icmp .ne 9, 3) := by decide +kernel
theorem dX7_readsWorth_48 : decode cX7_readsWorth 48 = .ok (.sipush 1000, 3) := by decide +kernel
theorem dX7_readsWorth_51 : decode cX7_readsWorth 51 = .ok (.goto 6, 3) := by decide +kernel
theorem dX7_readsWorth_57 : decode cX7_readsWorth 57 = .ok (.ireturn, 1) := by decide +kernel
theorem dX7_readsWorth_26 : decode cX7_readsWorth 26 = .ok (.iload_n 1, 1) := by decide +kernel
theorem dX7_readsWorth_27 : decode cX7_readsWorth 27 = .ok (.bipush 114, 2) := by decide +kernel
theorem dX7_readsWorth_29 : decode cX7_readsWorth 29 = .ok (.if_icmp .ne 29, 3) := by decide +kernel
theorem dX7_readsWorth_58 : decode cX7_readsWorth 58 = .ok (.iconst 0, 1) := by decide +kernel
theorem dX7_readsWorth_59 : decode cX7_readsWorth 59 = .ok (.istore_n 2, 1) := by decide +kernel
theorem dX7_readsWorth_60 : decode cX7_readsWorth 60 = .ok (.iconst 0, 1) := by decide +kernel
theorem dX7_readsWorth_61 : decode cX7_readsWorth 61 = .ok (.istore_n 3, 1) := by decide +kernel
theorem dX7_readsWorth_62 : decode cX7_readsWorth 62 = .ok (.aload_n 0, 1) := by decide +kernel
theorem dX7_readsWorth_63 : decode cX7_readsWorth 63 = .ok (.getfield 180, 3) := by decide +kernel
theorem dX7_readsWorth_66 : decode cX7_readsWorth 66 = .ok (.ifCond .ne 59, 3) := by decide +kernel
theorem dX7_readsWorth_69 : decode cX7_readsWorth 69 = .ok (.iload_n 2, 1) := by decide +kernel
theorem dX7_readsWorth_70 : decode cX7_readsWorth 70 = .ok (.iconst 3, 1) := by decide +kernel
theorem dX7_readsWorth_71 : decode cX7_readsWorth 71 = .ok (.if_icmp .ge 54, 3) := by decide +kernel
theorem dX7_readsWorth_74 : decode cX7_readsWorth 74 = .ok (.aload_n 0, 1) := by decide +kernel
theorem dX7_readsWorth_75 : decode cX7_readsWorth 75 = .ok (.aload_n 0, 1) := by decide +kernel
theorem dX7_readsWorth_76 : decode cX7_readsWorth 76 = .ok (.getfield 184, 3) := by decide +kernel
theorem dX7_readsWorth_79 : decode cX7_readsWorth 79 = .ok (.invokevirtual 187, 3) := by decide +kernel
theorem dX7_readsWorth_82 : decode cX7_readsWorth 82 = .ok (.bipush 48, 2) := by decide +kernel
theorem dX7_readsWorth_84 : decode cX7_readsWorth 84 = .ok (.bipush 57, 2) := by decide +kernel
theorem dX7_readsWorth_86 : decode cX7_readsWorth 86 = .ok (.invokestatic 171, 3) := by decide +kernel
theorem dX7_readsWorth_89 : decode cX7_readsWorth 89 = .ok (.ifCond .eq 36, 3) := by decide +kernel
theorem dX7_readsWorth_92 : decode cX7_readsWorth 92 = .ok (.bipush 10, 2) := by decide +kernel
theorem dX7_readsWorth_94 : decode cX7_readsWorth 94 = .ok (.iload_n 3, 1) := by decide +kernel
theorem dX7_readsWorth_95 : decode cX7_readsWorth 95 = .ok (.imul, 1) := by decide +kernel
theorem dX7_readsWorth_96 : decode cX7_readsWorth 96 = .ok (.aload_n 0, 1) := by decide +kernel
theorem dX7_readsWorth_97 : decode cX7_readsWorth 97 = .ok (.aload_n 0, 1) := by decide +kernel
theorem dX7_readsWorth_98 : decode cX7_readsWorth 98 = .ok (.getfield 184, 3) := by decide +kernel
theorem dX7_readsWorth_101 : decode cX7_readsWorth 101 = .ok (.invokevirtual 187, 3) := by decide +kernel
theorem dX7_readsWorth_104 : decode cX7_readsWorth 104 = .ok (.iadd, 1) := by decide +kernel
theorem dX7_readsWorth_105 : decode cX7_readsWorth 105 = .ok (.bipush 48, 2) := by decide +kernel
theorem dX7_readsWorth_107 : decode cX7_readsWorth 107 = .ok (.isub, 1) := by decide +kernel
theorem dX7_readsWorth_108 : decode cX7_readsWorth 108 = .ok (.istore_n 3, 1) := by decide +kernel
theorem dX7_readsWorth_109 : decode cX7_readsWorth 109 = .ok (.aload_n 0, 1) := by decide +kernel
theorem dX7_readsWorth_110 : decode cX7_readsWorth 110 = .ok (.dup, 1) := by decide +kernel
theorem dX7_readsWorth_111 : decode cX7_readsWorth 111 = .ok (.getfield 184, 3) := by decide +kernel
theorem dX7_readsWorth_114 : decode cX7_readsWorth 114 = .ok (.iconst 1, 1) := by decide +kernel
theorem dX7_readsWorth_115 : decode cX7_readsWorth 115 = .ok (.iadd, 1) := by decide +kernel
theorem dX7_readsWorth_116 : decode cX7_readsWorth 116 = .ok (.putfield 184, 3) := by decide +kernel
theorem dX7_readsWorth_119 : decode cX7_readsWorth 119 = .ok (.iinc 2 1, 3) := by decide +kernel
theorem dX7_readsWorth_122 : decode cX7_readsWorth 122 = .ok (.goto (-60), 3) := by decide +kernel
theorem dX7_readsWorth_125 : decode cX7_readsWorth 125 = .ok (.aload_n 0, 1) := by decide +kernel
theorem dX7_readsWorth_126 : decode cX7_readsWorth 126 = .ok (.aload_n 0, 1) := by decide +kernel
theorem dX7_readsWorth_127 : decode cX7_readsWorth 127 = .ok (.getfield 180, 3) := by decide +kernel
theorem dX7_readsWorth_130 : decode cX7_readsWorth 130 = .ok (.ifCond .ne 7, 3) := by decide +kernel
theorem dX7_readsWorth_133 : decode cX7_readsWorth 133 = .ok (.iload_n 2, 1) := by decide +kernel
theorem dX7_readsWorth_134 : decode cX7_readsWorth 134 = .ok (.ifCond .ne 7, 3) := by decide +kernel
theorem dX7_readsWorth_141 : decode cX7_readsWorth 141 = .ok (.iconst 0, 1) := by decide +kernel
theorem dX7_readsWorth_142 : decode cX7_readsWorth 142 = .ok (.putfield 180, 3) := by decide +kernel
theorem dX7_readsWorth_145 : decode cX7_readsWorth 145 = .ok (.iload_n 3, 1) := by decide +kernel
theorem dX7_readsWorth_146 : decode cX7_readsWorth 146 = .ok (.ireturn, 1) := by decide +kernel
theorem dX7_readsWorth_137 : decode cX7_readsWorth 137 = .ok (.iconst 1, 1) := by decide +kernel
theorem dX7_readsWorth_138 : decode cX7_readsWorth 138 = .ok (.goto 4, 3) := by decide +kernel
theorem dX7_readsWorth_54 : decode cX7_readsWorth 54 = .ok (.sipush 1001, 3) := by decide +kernel
theorem dX7_readsWorth_7 : decode cX7_readsWorth 7 = .ok (.iconst (-1), 1) := by decide +kernel
theorem dX7_readsWorth_8 : decode cX7_readsWorth 8 = .ok (.goto 11, 3) := by decide +kernel
/-! what the model's arrays say of one another -/
def PL (n : Nat) (g : GS) (na pa : Nat) : Prop := ∀ i, i < n → (g.2.2.2.1 pa i).toInt ≤ 3 ∨ (g.2.2.2.1 na i).toInt = 5
theorem PL.tC {n : Nat} {g : GS} {na pa a j : Nat} {v : Int32} (h : PL n g na pa) (n1 : na ≠ a) (n2 : pa ≠ a) : PL n (sC g a j v) na pa := fun i hi => by
  show (if pa = a ∧ i = j then v else g.2.2.2.1 pa i).toInt ≤ 3 ∨ (if na = a ∧ i = j then v else g.2.2.2.1 na i).toInt = 5
  rw [if_neg (fun q => n2 q.1), if_neg (fun q => n1 q.1)]
  exact h i hi
theorem PL.sm {n : Nat} {md : Nat → Nat → Bool} {g g' : GS} {na pa r1 r2 : Nat} (h : PL n g na pa) (m : Sm md g g') (e1 : g.1 na = r1) (z1 : r1 ≠ 0) (q1 : md r1 99 = false) (e2 : g.1 pa = r2) (z2 : r2 ≠ 0) (q2 : md r2 99 = false) : PL n g' na pa := fun i hi => by
  rw [(m.2 na (by rw [e1]; exact z1) (by rw [e1]; exact q1)).1, (m.2 pa (by rw [e2]; exact z2) (by rw [e2]; exact q2)).1]
  exact h i hi
theorem PL.st {n : Nat} {g : GS} {na pa i j : Nat} {w c : Int32} (h : PL n g na pa) (ne : na ≠ pa) (e : j = i) (hc : c.toInt ≤ 3 ∨ w.toInt = 5) : PL n (sC (sC g na i w) pa j c) na pa := fun x hx => by
  subst e
  show (if pa = pa ∧ x = j then c else (if pa = na ∧ x = j then w else g.2.2.2.1 pa x)).toInt ≤ 3 ∨ (if na = pa ∧ x = j then c else (if na = na ∧ x = j then w else g.2.2.2.1 na x)).toInt = 5
  by_cases hj : x = j
  · rw [if_pos ⟨rfl, hj⟩, if_neg (fun q => ne q.1), if_pos ⟨rfl, hj⟩]
    exact hc
  · rw [if_neg (fun q => hj q.2), if_neg (fun q => hj q.2), if_neg (fun q => hj q.2), if_neg (fun q => hj q.2)]
    exact h x hx
theorem PLu {x y u w : Int32} (h : x.toInt ≤ 3 ∨ y.toInt = 5) (e1 : x = u) (e2 : y = w) : u.toInt ≤ 3 ∨ w.toInt = 5 := by
  subst e1
  subst e2
  exact h
def PX (n j k r1 r2 : Nat) (g : GS) (h : Nat) : Prop := ∃ wa pa : Nat, g.2.1 h j = .ref wa ∧ g.2.1 h k = .ref pa ∧ g.1 wa = r1 ∧ g.1 pa = r2 ∧ g.2.2.1 wa = n ∧ g.2.2.1 pa = n ∧ PL n g wa pa
theorem PX.mono {n j k r1 r2 h : Nat} {md : Nat → Nat → Bool} {g g' : GS} (w : PX n j k r1 r2 g h) (m : Sm md g g') (x : Ex g g') (rh : g.1 h = 8) (z1 : r1 ≠ 0) (z2 : r2 ≠ 0) (q1 : md r1 99 = false) (q2 : md r2 99 = false) (q3 : md 8 j = false) (q4 : md 8 k = false) : PX n j k r1 r2 g' h := by
  obtain ⟨wa, pa, e1, e2, e3, e4, e5, e6, e7⟩ := w
  exact ⟨wa, pa, m.v rh (by decide) q3 e1, m.v rh (by decide) q4 e2, x.r e3 z1, x.r e4 z2, x.n e3 z1 e5, x.n e4 z2 e6, e7.sm m e3 z1 q1 e4 z2 q2⟩
theorem PX.use {n j k r1 r2 h wa pa : Nat} {g : GS} (w : PX n j k r1 r2 g h) (e1 : g.2.1 h j = .ref wa) (e2 : g.2.1 h k = .ref pa) : PL n g wa pa := by
  obtain ⟨wa', pa', f1, f2, -, -, -, -, e7⟩ := w
  have h1 : wa' = wa := Value.ref.inj (f1.symm.trans e1)
  have h2 : pa' = pa := Value.ref.inj (f2.symm.trans e2)
  subst h1
  subst h2
  exact e7
def DP (g : GS) (fa : Nat) (d : Int) : Prop := ∀ i : Nat, (i : Int) < d → (i : Int) ≤ (g.2.2.2.1 fa i).toInt
theorem DP.tC {g : GS} {fa a j : Nat} {d : Int} {v : Int32} (h : DP g fa d) (n : fa ≠ a) : DP (sC g a j v) fa d := fun i hi => by
  show (i : Int) ≤ (if fa = a ∧ i = j then v else g.2.2.2.1 fa i).toInt
  rw [if_neg (fun q => n q.1)]
  exact h i hi
theorem DP.sm {md : Nat → Nat → Bool} {g g' : GS} {fa ro : Nat} {d : Int} (h : DP g fa d) (m : Sm md g g') (r : g.1 fa = ro) (z : ro ≠ 0) (q : md ro 99 = false) : DP g' fa d := fun i hi => by
  rw [(m.2 fa (by rw [r]; exact z) (by rw [r]; exact q)).1]
  exact h i hi
theorem DP.ext {g : GS} {fa : Nat} {d v : Int32} (h : DP g fa d.toInt) (h0 : 0 ≤ d.toInt) (hv : d.toInt ≤ v.toInt) : DP (sC g fa d.toNatClampNeg v) fa (d.toInt + 1) := fun i hi => by
  show (i : Int) ≤ (if fa = fa ∧ i = d.toNatClampNeg then v else g.2.2.2.1 fa i).toInt
  have e : (d.toNatClampNeg : Int) = d.toInt := Int.toNat_of_nonneg h0
  by_cases hj : i = d.toNatClampNeg
  · rw [if_pos ⟨rfl, hj⟩, hj]
    omega
  · rw [if_neg (fun q => hj q.2)]
    exact h i (by omega)
theorem DP.cast {g : GS} {fa : Nat} {d d' : Int} (h : DP g fa d) (e : d' ≤ d) : DP g fa d' := fun i hi => h i (by omega)
theorem DP.at {g : GS} {fa : Nat} {d : Int} {f x : Int32} (h : DP g fa d) (h0 : 0 ≤ f.toInt) (hf : f.toInt < d) (e : g.2.2.2.1 fa f.toNatClampNeg = x) : f.toInt ≤ x.toInt := by
  have e0 : (f.toNatClampNeg : Int) = f.toInt := Int.toNat_of_nonneg h0
  have := h f.toNatClampNeg (by omega)
  rw [e] at this
  omega
theorem DP.zero {g : GS} {fa : Nat} : DP g fa 0 := fun i hi => by omega
/-! the letters of the words -/
def wtab (i : Nat) : Int32 := [115, 101, 116, 97, 100, 100, 109, 97, 120, 110, 101, 119, 103, 101, 116, 97, 115, 107, 100, 111, 0, 105, 102, 0].getD i 0
def WT (g : GS) (a : Nat) : Prop := ∀ i, i < 24 → g.2.2.2.1 a i = wtab i
theorem WT.tC {g : GS} {a b j : Nat} {v : Int32} (h : WT g a) (n : a ≠ b) : WT (sC g b j v) a := fun i hi => by
  show (if a = b ∧ i = j then v else g.2.2.2.1 a i) = _
  rw [if_neg (fun q => n q.1)]
  exact h i hi
theorem WT.sm {md : Nat → Nat → Bool} {g g' : GS} {a r : Nat} (h : WT g a) (m : Sm md g g') (e1 : g.1 a = r) (z1 : r ≠ 0) (q1 : md r 99 = false) : WT g' a := fun i hi => by
  rw [(m.2 a (by rw [e1]; exact z1) (by rw [e1]; exact q1)).1]
  exact h i hi
theorem rd_0m {T : Int → Int} : rde T 8 0 0 = rde T (8 - (0 : Int32).toInt).toNat (0 : Int32).toInt (0 : Int32).toInt := by
  rw [z0]
  rfl
def WO (j : Nat) (g : GS) (h : Nat) : Prop := ∃ wt : Nat, g.2.1 h j = .ref wt ∧ g.1 wt = 87 ∧ g.2.2.1 wt = 24 ∧ WT g wt

abbrev md_m_in : Nat → Nat → Bool := mdf []
set_option maxHeartbeats 4000000 in
set_option maxRecDepth 100000 in
theorem m_in (l : Launch) (D : va_G) (cI cZ cS cR : ClassId) (N0 : NT) (g : GS) (hI : Inv g) (n : Int32) (k : Int32) (j : Int32)  : Ty l D cI cZ cS cR N0 yX7_in cX7_in 3 (some .boolean) 0 0 0 [.int n, .int k, .int j] g (fun v g' => ∃ (r : Int32), v = some (.int r) ∧ g' = g ∧ ((r = 1 ∧ k.toInt ≤ n.toInt ∧ n.toInt ≤ j.toInt) ∨ (r = 0 ∧ (n.toInt < k.toInt ∨ j.toInt < n.toInt)))) := by
  refine t_enter (by decide) (Nat.le_of_ble_eq_true rfl) ?_
  intro p e s m args below meth c ls H locs hB hr hin hl hT
  have hx := hB.1
  have hb := hB.2.1
  have hl : lv_has ls 3 [(0, .int n), (1, .int k), (2, .int j)] := hl
  have hE : Ex g g := Ex.rf
  have hM : Sm md_m_in g g := Sm.rf
  refine lv_iload_n hx hb dX7_in_0 rfl (lv_at hl 0 rfl) ?_
  refine lv_iload_n hx hb dX7_in_1 rfl (lv_at hl 1 rfl) ?_
  refine lv_icmp_lt (tgt := 14) hx hb dX7_in_2 (by decide) (fun c_1 => ?_) (fun c_1 => ?_)
  · have c_1' : n.toInt < k.toInt := i_lt c_1 rfl rfl
    refine lv_iconst (v := 0) hx hb dX7_in_14 (by decide) ?_
    exact t_zret hB hr rfl hT (Nat.le_of_ble_eq_true rfl) (Nat.le_of_ble_eq_true rfl) dX7_in_15 ⟨0, rfl, rfl, (Or.inr ⟨rfl, by omega⟩)⟩
  · have c_1' : k.toInt ≤ n.toInt := i_nlt c_1 rfl rfl
    refine lv_iload_n hx hb dX7_in_5 rfl (lv_at hl 0 rfl) ?_
    refine lv_iload_n hx hb dX7_in_6 rfl (lv_at hl 2 rfl) ?_
    refine lv_icmp_gt (tgt := 14) hx hb dX7_in_7 (by decide) (fun c_2 => ?_) (fun c_2 => ?_)
    · have c_2' : j.toInt < n.toInt := i_lt c_2 rfl rfl
      refine lv_iconst (v := 0) hx hb dX7_in_14 (by decide) ?_
      exact t_zret hB hr rfl hT (Nat.le_of_ble_eq_true rfl) (Nat.le_of_ble_eq_true rfl) dX7_in_15 ⟨0, rfl, rfl, (Or.inr ⟨rfl, by omega⟩)⟩
    · have c_2' : n.toInt ≤ j.toInt := i_nlt c_2 rfl rfl
      refine lv_iconst (v := 1) hx hb dX7_in_10 (by decide) ?_
      refine lv_goto (tgt := 15) hx hb dX7_in_11 (by decide) ?_
      exact t_zret hB hr rfl hT (Nat.le_of_ble_eq_true rfl) (Nat.le_of_ble_eq_true rfl) dX7_in_15 ⟨1, rfl, rfl, (Or.inl ⟨rfl, by omega, by omega⟩)⟩
abbrev md_m_isService : Nat → Nat → Bool := mdf []
set_option maxHeartbeats 4000000 in
set_option maxRecDepth 100000 in
theorem m_isService (l : Launch) (D : va_G) (cI cZ cS cR : ClassId) (N0 : NT) (g : GS) (hI : Inv g) (h : Nat) (n : Int32) (sv : Int32) (r_h : g.1 h = 8) (ksv : g.2.1 h 0 = .int sv) (l_sv : 0 ≤ sv.toInt) (u_sv : sv.toInt ≤ 6) : Ty l D cI cZ cS cR N0 yX7_isService cX7_isService 2 (some .boolean) 1 0 0 [.ref h, .int n] g (fun v g' => ∃ (r : Int32), v = some (.int r) ∧ g' = g ∧ ((r = 1 ∧ 0 ≤ n.toInt ∧ n.toInt < sv.toInt) ∨ (r = 0 ∧ (n.toInt < 0 ∨ sv.toInt ≤ n.toInt)))) := by
  refine t_enter (by decide) (Nat.le_of_ble_eq_true rfl) ?_
  intro p e s m args below meth c ls H locs hB hr hin hl hT
  have hx := hB.1
  have hb := hB.2.1
  have hl : lv_has ls 2 [(0, .ref h), (1, .int n)] := hl
  have hE : Ex g g := Ex.rf
  have hM : Sm md_m_isService g g := Sm.rf
  refine lv_iload_n hx hb dX7_isService_0 rfl (lv_at hl 1 rfl) ?_
  refine lv_iconst (v := 0) hx hb dX7_isService_1 (by decide) ?_
  refine lv_aload_n hx hb dX7_isService_2 rfl (lv_at hl 0 rfl) ?_
  refine t_get (ci := 7) (v := .int sv) hB hT (ro_ci r_h rfl) rfl 0 (by decide) k_745 ksv dX7_isService_3 ?_
  refine lv_iconst (v := 1) hx hb dX7_isService_6 (by decide) ?_
  refine lv_isub hx hb dX7_isService_7 ?_
  refine lv_topi (fun z_1 ez_1 => ?_)
  have e_z_1 : z_1.toInt = sv.toInt - 1 := i_sub ez_1 rfl (by decide) (by omega) (by omega)
  refine t_callS (n := 3) (As := [.int n, .int 0, .int z_1]) (rest := []) hB hT hl.1 (m_in l D cI cZ cS cR N0 g hI n 0 z_1 ) k_954 k_65 k_952 k_953 (by decide +kernel) ⟨(Nat.le_of_ble_eq_true rfl), (Nat.le_of_ble_eq_true rfl)⟩ rfl (Nat.le_of_ble_eq_true rfl) ⟨(Nat.le_of_ble_eq_true rfl), (Nat.le_of_ble_eq_true rfl)⟩ dX7_isService_8 (fun v g_2 H locs hp hT => ?_)
  obtain ⟨r_3, rfl, eg, f_4⟩ := hp
  rw [eg] at hT
  clear eg
  refine W.eq (g2 := F0 m 11 ls [.int r_3]) rfl ?_
  have qc_7 : (0 : Int32).toInt = 0 := (by decide)
  rcases f_4 with ⟨rfl, hw_8, hw_9⟩ | ⟨rfl, hw_10⟩
  · refine W.eq (g2 := F0 m 11 ls [.int 1]) rfl ?_
    exact t_zret hB hr rfl hT (Nat.le_of_ble_eq_true rfl) (Nat.le_of_ble_eq_true rfl) dX7_isService_11 ⟨1, rfl, rfl, (Or.inl ⟨rfl, by omega, by omega⟩)⟩
  · refine W.eq (g2 := F0 m 11 ls [.int 0]) rfl ?_
    exact t_zret hB hr rfl hT (Nat.le_of_ble_eq_true rfl) (Nat.le_of_ble_eq_true rfl) dX7_isService_11 ⟨0, rfl, rfl, (Or.inr ⟨rfl, by omega⟩)⟩
abbrev md_m_has : Nat → Nat → Bool := mdf []
set_option maxHeartbeats 4000000 in
set_option maxRecDepth 100000 in
theorem m_has (l : Launch) (D : va_G) (cI cZ cS cR : ClassId) (N0 : NT) (g : GS) (hI : Inv g) (h : Nat) (n : Int32) (k : Int32) (r_h : g.1 h = 8) (l_n : 0 ≤ n.toInt) (u_n : n.toInt ≤ 5) : Ty l D cI cZ cS cR N0 yX7_has cX7_has 3 (some .boolean) 0 0 0 [.ref h, .int n, .int k] g (fun v g' => ∃ (r : Int32), v = some (.int r) ∧ g' = g ∧ (r = 1 ∨ r = 0)) := by
  refine t_enter (by decide) (Nat.le_of_ble_eq_true rfl) ?_
  intro p e s m args below meth c ls H locs hB hr hin hl hT
  have hx := hB.1
  have hb := hB.2.1
  have hl : lv_has ls 3 [(0, .ref h), (1, .int n), (2, .int k)] := hl
  have hE : Ex g g := Ex.rf
  have hM : Sm md_m_has g g := Sm.rf
  refine lv_aload_n hx hb dX7_has_0 rfl (lv_at hl 0 rfl) ?_
  obtain ⟨v_1, e_v_1, r_v_1, n_v_1⟩ := f_8_5 hI r_h
  refine t_get (ci := 7) (v := .ref v_1) hB hT (ro_ci r_h rfl) rfl 5 (by decide) k_750 e_v_1 dX7_has_1 ?_
  refine lv_iload_n hx hb dX7_has_4 rfl (lv_at hl 1 rfl) ?_
  have i_u_2 : vp_in n 6 := (i_in (n := 6) rfl (by omega) (by omega))
  refine t_iald hB hT (ro_in r_v_1 (by decide)) n_v_1 i_u_2 rfl dX7_has_5 ?_
  refine lv_topi (fun u_2 e_u_2 => ?_)
  refine lv_iload_n hx hb dX7_has_6 rfl (lv_at hl 2 rfl) ?_
  refine lv_ishr hx hb dX7_has_7 ?_
  refine lv_topi (fun z_3 ez_3 => ?_)
  refine lv_iconst (v := 1) hx hb dX7_has_8 (by decide) ?_
  refine lv_iand hx hb dX7_has_9 ?_
  refine lv_topi (fun z_4 ez_4 => ?_)
  have e_z_4 := i_and 1 (b := 1) ez_4 (by decide) (by decide) (by decide)
  refine lv_iconst (v := 1) hx hb dX7_has_10 (by decide) ?_
  refine lv_icmp_ne (tgt := 18) hx hb dX7_has_11 (by decide) (fun c_5 => ?_) (fun c_5 => ?_)
  · have c_5' : z_4.toInt ≠ 1 := i_ne c_5 rfl (by decide)
    refine lv_iconst (v := 0) hx hb dX7_has_18 (by decide) ?_
    exact t_zret hB hr rfl hT (Nat.le_of_ble_eq_true rfl) (Nat.le_of_ble_eq_true rfl) dX7_has_19 ⟨0, rfl, rfl, (Or.inr rfl)⟩
  · have c_5' : z_4.toInt = 1 := i_eq c_5 rfl (by decide)
    refine lv_iconst (v := 1) hx hb dX7_has_14 (by decide) ?_
    refine lv_goto (tgt := 19) hx hb dX7_has_15 (by decide) ?_
    exact t_zret hB hr rfl hT (Nat.le_of_ble_eq_true rfl) (Nat.le_of_ble_eq_true rfl) dX7_has_19 ⟨1, rfl, rfl, (Or.inl rfl)⟩
abbrev md_m_feed : Nat → Nat → Bool := mdf [(8, 29), (79, 99)]
set_option maxHeartbeats 4000000 in
set_option maxRecDepth 100000 in
theorem lt_m_feed_a (l : Launch) (D : va_G) (cI cZ cS cR : ClassId) (N0 : NT) (g : GS) (h : Nat) (w : Int64) (n : Int32) (z : Int32) (t : Nat) (ct : Nat → Int32) (r_h : g.1 h = 8) (r_t : g.1 t = 79) (n_t : g.2.2.1 t = 100) (kz : g.2.1 h 29 = .int z) (kt : g.2.1 h 28 = .ref t) (l_z : 0 ≤ z.toInt) (u_z : z.toInt ≤ 100) (hc_0 : g.2.2.2.1 t = ct) {p : Program} {e : Env} {s : State} {m : MethodId} {args : Array Value} {below : List Frame} {meth : Method} {c : Code} (hB : Tz p s m meth c args cX7_feed 5 RX7 D cI cZ cS cR N0) (hr : meth.sig.returnType = (some .int))    : ∀ (kf : Nat) (g1 : GS) (i : Int32) (tp1 : Int32) (nn : Int32)  (H : Heap) (locs : List Loc) (ls : Array Slot), Tv D cI cZ cS cR N0 s.heap H locs g1 → Inv g1 → Ex g g1 → Sm md_m_feed g g1 → (-1) ≤ i.toInt → i.toInt ≤ 7 → 0 ≤ tp1.toInt → tp1.toInt ≤ 100 → 1 ≤ nn.toInt → nn.toInt ≤ 8 → g1.2.1 h 29 = .int tp1 → (FD g1 t ct w z.toInt n.toInt (n.toInt - 1 - i.toInt)) → (tp1.toInt = z.toInt + n.toInt - 1 - i.toInt ∧ nn.toInt = n.toInt ∧ z.toInt + n.toInt ≤ 100 ∧ i.toInt + 1 ≤ n.toInt) → (i.toInt + 1 ≤ kf) → lv_has ls 5 [(4, .int i), (0, .ref h), (1, .long w), (3, .int nn)] → W p l e (rmx 1 0 0) s m args below meth c H locs 0 0 (MQ below (tQ D cI cZ cS cR N0 (fun v g' => ∃ (r : Int32) (z2 : Int32), v = some (.int r) ∧ Inv g' ∧ Ex g g' ∧ Sm md_m_feed g g' ∧ (g'.2.1 h 29 = .int z2) ∧ (r.toInt = fdR n.toInt z.toInt) ∧ (z2.toInt = z.toInt + fdK n.toInt z.toInt) ∧ (FD g' t ct w z.toInt n.toInt (fdK n.toInt z.toInt)))) args s 0 0 (fun q => N0.1 ≤ q)) (F0 m 32 ls []) := by
  have hx := hB.1
  have hb := hB.2.1
  intro kf
  induction kf using Nat.strongRecOn with
  | ind kf ih =>
    intro g1 i tp1 nn H locs ls hT hI hE hM l_i u_i l_tp1 u_tp1 l_nn u_nn kp0 hF hzi hk hl
    have r_1 : g1.1 h = 8 := Ex.r hE r_h (by decide)
    have r_2 : g1.1 t = 79 := Ex.r hE r_t (by decide)
    have n_3 : g1.2.2.1 t = 100 := Ex.n hE r_t (by decide) n_t
    have kn_4 : g1.2.1 h 28 = .ref t := Sm.v hM r_h (by decide) rfl kt
    refine lv_iload hx hb dX7_feed_32 (lv_at hl 0 rfl) ?_
    refine lv_if_lt (tgt := 74) hx hb dX7_feed_34 (by decide) (fun c_5 => ?_) (fun c_5 => ?_)
    · have c_5' : i.toInt < 0 := i_lt c_5 rfl (by decide)
      refine lv_aload_n hx hb dX7_feed_74 rfl (lv_at hl 1 rfl) ?_
      refine t_get (ci := 7) (v := .int tp1) hB hT (ro_ci r_1 rfl) rfl 29 (by decide) k_774 kp0 dX7_feed_75 ?_
      exact t_iret hB hr hT (Nat.le_of_ble_eq_true rfl) (Nat.le_of_ble_eq_true rfl) dX7_feed_78 ⟨tp1, tp1, rfl, hI, hE, hM, kp0, (by have q2_ : (-2 : Int32).toInt = -2 := (by decide); have q4_ : (-4 : Int32).toInt = -4 := (by decide); have q1_ : (-1 : Int32).toInt = -1 := (by decide); have q0_ : (0 : Int32).toInt = 0 := (by decide); unfold fdR; omega), (by unfold fdK; omega), (hF.cast (by unfold fdK; omega))⟩
    · have c_5' : 0 ≤ i.toInt := i_nlt c_5 rfl (by decide)
      refine lv_aload_n hx hb dX7_feed_37 rfl (lv_at hl 1 rfl) ?_
      refine t_get (ci := 7) (v := .ref t) hB hT (ro_ci r_1 rfl) rfl 28 (by decide) k_773 kn_4 dX7_feed_38 ?_
      refine lv_aload_n hx hb dX7_feed_41 rfl (lv_at hl 1 rfl) ?_
      refine t_get (ci := 7) (v := .int tp1) hB hT (ro_ci r_1 rfl) rfl 29 (by decide) k_774 kp0 dX7_feed_42 ?_
      refine lv_lload_n hx hb dX7_feed_45 rfl (lv_at hl 2 rfl) ?_
      refine lv_bipush (v := 8) hx hb dX7_feed_46 (by decide) ?_
      refine lv_iload hx hb dX7_feed_48 (lv_at hl 0 rfl) ?_
      refine lv_imul hx hb dX7_feed_50 ?_
      refine lv_topi (fun z_6 ez_6 => ?_)
      have e_z_6 : z_6.toInt = 8 * i.toInt := i_mul ez_6 (by decide) rfl (by omega) (by omega)
      refine lv_lshr hx hb dX7_feed_51 rfl ?_
      refine lv_topl (fun z_7 ez_7 => ?_)
      refine lv_ldc2 (v := 255) hx hb hB.2.2.2.1 (hB.2.2.2.2.1 _ k_955) dX7_feed_52 ?_
      refine lv_land hx hb dX7_feed_55 ?_
      refine lv_topl (fun z_8 ez_8 => ?_)
      refine lv_l2i hx hb dX7_feed_56 rfl ?_
      refine lv_topi (fun z_9 ez_9 => ?_)
      have hbv_ : z_9 = bM w z_6 := by rw [ez_9, ez_8, ez_7]; rfl
      have hbv_ := hbv_.trans (b_eq (i := i.toInt) (by omega) (by omega) e_z_6)
      have hbr_ := b_rng w z_6
      rw [← hbv_] at hbr_
      have hbt_ := hbv_.trans (bt_c (i := i.toInt) e_z_6)
      have i_10 : vp_in tp1 100 := (i_in (n := 100) rfl (by omega) (by omega))
      refine t_iast hB hT (ro_in r_2 (by decide)) n_3 i_10 dX7_feed_57 (fun H locs hT => ?_)
      have hI : Inv (sC g1 t tp1.toNatClampNeg z_9) := hI.sC (ck r_2 ⟨by omega, by omega⟩)
      have hM : Sm md_m_feed g (sC g1 t tp1.toNatClampNeg z_9) := hM.tr hE (Sm_sC (by rw [r_2]; rfl))
      have hE : Ex g (sC g1 t tp1.toNatClampNeg z_9) := hE
      have hF : FD (sC g1 t tp1.toNatClampNeg z_9) t ct w z.toInt n.toInt (n.toInt - i.toInt) := FD.st hF (by omega) (by have q_ : (tp1.toNatClampNeg : Int) = tp1.toInt := Int.toNat_of_nonneg (by omega); omega) (hbt_.trans (by congr 1; omega)) (by omega)
      refine lv_aload_n hx hb dX7_feed_58 rfl (lv_at hl 1 rfl) ?_
      refine lv_dup hx hb dX7_feed_59 rfl ?_
      refine t_get (ci := 7) (v := .int tp1) hB hT (ro_ci r_1 rfl) rfl 29 (by decide) k_774 kp0 dX7_feed_60 ?_
      refine lv_iconst (v := 1) hx hb dX7_feed_63 (by decide) ?_
      refine lv_iadd hx hb dX7_feed_64 ?_
      refine lv_topi (fun z_11 ez_11 => ?_)
      have e_z_11 : z_11.toInt = tp1.toInt + 1 := i_add ez_11 rfl (by decide) (by omega) (by omega)
      refine t_put0 (ci := 7) (v := .int z_11) hB hT (ro_ci r_1 rfl) (ro_n0 r_1 (by decide)) rfl 29 (by decide) k_774 (Or.inl rfl) rfl rfl dX7_feed_65 (fun H locs hT => ?_)
      have hI : Inv (sF (sC g1 t tp1.toNatClampNeg z_9) h 29 (.int z_11)) := hI.sF (p_8_29 r_1 (⟨_, rfl, by omega, by omega⟩))
      have hM : Sm md_m_feed g (sF (sC g1 t tp1.toNatClampNeg z_9) h 29 (.int z_11)) := hM.tr hE (Sm_sF (by rw [r_1]; rfl))
      have hE : Ex g (sF (sC g1 t tp1.toNatClampNeg z_9) h 29 (.int z_11)) := hE
      have hF : FD (sF (sC g1 t tp1.toNatClampNeg z_9) h 29 (.int z_11)) t ct w z.toInt n.toInt (n.toInt - i.toInt) := hF
      obtain ⟨z_12, ez_12⟩ : ∃ z : Int32, z = i + (-1) := ⟨_, rfl⟩
      have e_z_12 : z_12.toInt = i.toInt + (-1) := i_add ez_12 rfl (by decide) (by omega) (by omega)
      refine lv_iinc (v := z_12) (lv' := [(4, .int z_12), (0, .ref h), (1, .long w), (3, .int nn)]) hx hb dX7_feed_68 hl (k := 0) rfl (by rw [ez_12]; rfl) (by decide) rfl (fun ls hl => ?_)
      refine lv_goto (tgt := 32) hx hb dX7_feed_71 (by decide) ?_
      exact ih (kf - 1) (by omega) (sF (sC g1 t tp1.toNatClampNeg z_9) h 29 (.int z_11)) z_12 z_11 nn H locs ls hT hI hE hM (by omega) (by omega) (by omega) (by omega) (by omega) (by omega) sF_eq (hF.cast (by omega)) ⟨by omega, by omega, by omega, by omega⟩ (by have e0_ : (0 : Int32).toInt = 0 := (by decide); omega) (lv_sub hl [0, 1, 2, 3] rfl)
set_option maxHeartbeats 4000000 in
set_option maxRecDepth 100000 in
theorem m_feed (l : Launch) (D : va_G) (cI cZ cS cR : ClassId) (N0 : NT) (g : GS) (hI : Inv g) (h : Nat) (w : Int64) (n : Int32) (z : Int32) (t : Nat) (ct : Nat → Int32) (r_h : g.1 h = 8) (r_t : g.1 t = 79) (n_t : g.2.2.1 t = 100) (kz : g.2.1 h 29 = .int z) (kt : g.2.1 h 28 = .ref t) (l_z : 0 ≤ z.toInt) (u_z : z.toInt ≤ 100) (hc_0 : g.2.2.2.1 t = ct) : Ty l D cI cZ cS cR N0 yX7_feed cX7_feed 5 (some .int) 1 0 0 [.ref h, .long w, .int n] g (fun v g' => ∃ (r : Int32) (z2 : Int32), v = some (.int r) ∧ Inv g' ∧ Ex g g' ∧ Sm md_m_feed g g' ∧ (g'.2.1 h 29 = .int z2) ∧ (r.toInt = fdR n.toInt z.toInt) ∧ (z2.toInt = z.toInt + fdK n.toInt z.toInt) ∧ (FD g' t ct w z.toInt n.toInt (fdK n.toInt z.toInt))) := by
  refine t_enter (by decide) (Nat.le_of_ble_eq_true rfl) ?_
  intro p e s m args below meth c ls H locs hB hr hin hl hT
  have hx := hB.1
  have hb := hB.2.1
  have hl : lv_has ls 5 [(0, .ref h), (1, .long w), (3, .int n)] := hl
  have hE : Ex g g := Ex.rf
  have hM : Sm md_m_feed g g := Sm.rf
  have hc := hc_0
  refine lv_iload_n hx hb dX7_feed_0 rfl (lv_at hl 2 rfl) ?_
  refine lv_iconst (v := 1) hx hb dX7_feed_1 (by decide) ?_
  refine lv_bipush (v := 8) hx hb dX7_feed_2 (by decide) ?_
  refine t_callS (n := 3) (As := [.int n, .int 1, .int 8]) (rest := []) hB hT hl.1 (m_in l D cI cZ cS cR N0 g hI n 1 8 ) k_954 k_65 k_952 k_953 (by decide +kernel) ⟨(Nat.le_of_ble_eq_true rfl), (Nat.le_of_ble_eq_true rfl)⟩ rfl (Nat.le_of_ble_eq_true rfl) ⟨(Nat.le_of_ble_eq_true rfl), (Nat.le_of_ble_eq_true rfl)⟩ dX7_feed_4 (fun v g_1 H locs hp hT => ?_)
  obtain ⟨r_2, rfl, eg, f_3⟩ := hp
  rw [eg] at hT
  clear eg
  refine W.eq (g2 := F0 m 7 ls [.int r_2]) rfl ?_
  have qc_6 : (1 : Int32).toInt = 1 := (by decide)
  have qc_7 : (8 : Int32).toInt = 8 := (by decide)
  rcases f_3 with ⟨rfl, hw_8, hw_9⟩ | ⟨rfl, hw_10⟩
  · refine W.eq (g2 := F0 m 7 ls [.int 1]) rfl ?_
    refine lv_if_ne (tgt := 13) hx hb dX7_feed_7 (by decide) (fun c_ => ?_) (fun c_ => absurd c_ (by decide))
    refine lv_aload_n hx hb dX7_feed_13 rfl (lv_at hl 0 rfl) ?_
    refine t_get (ci := 7) (v := .int z) hB hT (ro_ci r_h rfl) rfl 29 (by decide) k_774 kz dX7_feed_14 ?_
    refine lv_iload_n hx hb dX7_feed_17 rfl (lv_at hl 2 rfl) ?_
    refine lv_iadd hx hb dX7_feed_18 ?_
    refine lv_topi (fun z_11 ez_11 => ?_)
    have e_z_11 : z_11.toInt = z.toInt + n.toInt := i_add ez_11 rfl rfl (by omega) (by omega)
    refine lv_bipush (v := 100) hx hb dX7_feed_19 (by decide) ?_
    refine lv_icmp_le (tgt := 27) hx hb dX7_feed_21 (by decide) (fun c_12 => ?_) (fun c_12 => ?_)
    · have c_12' : z_11.toInt ≤ 100 := i_le c_12 rfl (by decide)
      refine lv_iload_n hx hb dX7_feed_27 rfl (lv_at hl 2 rfl) ?_
      have hF : FD g t ct w z.toInt n.toInt 0 := FD.zero hc_0 (by omega)
      refine lv_iconst (v := 1) hx hb dX7_feed_28 (by decide) ?_
      refine lv_isub hx hb dX7_feed_29 ?_
      refine lv_topi (fun z_13 ez_13 => ?_)
      have e_z_13 : z_13.toInt = n.toInt - 1 := i_sub ez_13 rfl (by decide) (by omega) (by omega)
      refine lv_istore (lv' := [(4, .int z_13), (0, .ref h), (1, .long w), (3, .int n)]) hx hb dX7_feed_30 hl (by decide) rfl (fun ls hl => ?_)
      exact lt_m_feed_a l D cI cZ cS cR N0 g h w n z t ct r_h r_t n_t kz kt l_z u_z hc_0 hB hr   8 g z_13 z n H locs ls hT hI hE hM (by omega) (by omega) (by omega) (by omega) (by omega) (by omega) kz (hF.cast (by omega)) ⟨by omega, by omega, by omega, by omega⟩ (by have e0_ : (0 : Int32).toInt = 0 := (by decide); omega) (lv_sub hl [0, 1, 2, 3] rfl)
    · have c_12' : 100 < z_11.toInt := i_nle c_12 rfl (by decide)
      refine lv_bipush (v := (-4)) hx hb dX7_feed_24 (by decide) ?_
      exact t_iret hB hr hT (Nat.le_of_ble_eq_true rfl) (Nat.le_of_ble_eq_true rfl) dX7_feed_26 ⟨(-4), z, rfl, hI, hE, hM, kz, (by have q2_ : (-2 : Int32).toInt = -2 := (by decide); have q4_ : (-4 : Int32).toInt = -4 := (by decide); have q1_ : (-1 : Int32).toInt = -1 := (by decide); have q0_ : (0 : Int32).toInt = 0 := (by decide); unfold fdR; omega), (by unfold fdK; omega), (FD.zero hc_0 (by unfold fdK; omega))⟩
  · refine W.eq (g2 := F0 m 7 ls [.int 0]) rfl ?_
    refine lv_if_ne (tgt := 13) hx hb dX7_feed_7 (by decide) (fun c_ => absurd (by decide) c_) (fun c_ => ?_)
    refine lv_bipush (v := (-2)) hx hb dX7_feed_10 (by decide) ?_
    exact t_iret hB hr hT (Nat.le_of_ble_eq_true rfl) (Nat.le_of_ble_eq_true rfl) dX7_feed_12 ⟨(-2), z, rfl, hI, hE, hM, kz, (by have q2_ : (-2 : Int32).toInt = -2 := (by decide); have q4_ : (-4 : Int32).toInt = -4 := (by decide); have q1_ : (-1 : Int32).toInt = -1 := (by decide); have q0_ : (0 : Int32).toInt = 0 := (by decide); unfold fdR; omega), (by unfold fdK; omega), (FD.zero hc_0 (by unfold fdK; omega))⟩
abbrev md_m_byteAt : Nat → Nat → Bool := mdf []
set_option maxHeartbeats 4000000 in
set_option maxRecDepth 100000 in
theorem m_byteAt (l : Launch) (D : va_G) (cI cZ cS cR : ClassId) (N0 : NT) (g : GS) (hI : Inv g) (h : Nat) (n : Int32) (z : Int32) (t : Nat) (ct : Nat → Int32) (r_h : g.1 h = 8) (r_t : g.1 t = 79) (n_t : g.2.2.1 t = 100) (kz : g.2.1 h 29 = .int z) (kt : g.2.1 h 28 = .ref t) (l_n : 0 ≤ n.toInt) (u_n : n.toInt ≤ 101) (l_z : 0 ≤ z.toInt) (u_z : z.toInt ≤ 100) (hc_0 : g.2.2.2.1 t = ct) : Ty l D cI cZ cS cR N0 yX7_byteAt cX7_byteAt 2 (some .int) 0 0 0 [.ref h, .int n] g (fun v g' => ∃ (r : Int32), v = some (.int r) ∧ g' = g ∧ (r.toInt = txb ct z.toInt n.toInt) ∧ (-1 ≤ r.toInt ∧ r.toInt ≤ 255) ∧ (r.toInt = -1 ∨ n.toInt < z.toInt)) := by
  refine t_enter (by decide) (Nat.le_of_ble_eq_true rfl) ?_
  intro p e s m args below meth c ls H locs hB hr hin hl hT
  have hx := hB.1
  have hb := hB.2.1
  have hl : lv_has ls 2 [(0, .ref h), (1, .int n)] := hl
  have hE : Ex g g := Ex.rf
  have hM : Sm md_m_byteAt g g := Sm.rf
  have hc := hc_0
  refine lv_iload_n hx hb dX7_byteAt_0 rfl (lv_at hl 1 rfl) ?_
  refine lv_aload_n hx hb dX7_byteAt_1 rfl (lv_at hl 0 rfl) ?_
  refine t_get (ci := 7) (v := .int z) hB hT (ro_ci r_h rfl) rfl 29 (by decide) k_774 kz dX7_byteAt_2 ?_
  refine lv_icmp_ge (tgt := 17) hx hb dX7_byteAt_5 (by decide) (fun c_1 => ?_) (fun c_1 => ?_)
  · have c_1' : z.toInt ≤ n.toInt := i_le c_1 rfl rfl
    refine lv_iconst (v := (-1)) hx hb dX7_byteAt_17 (by decide) ?_
    exact t_iret hB hr hT (Nat.le_of_ble_eq_true rfl) (Nat.le_of_ble_eq_true rfl) dX7_byteAt_18 ⟨(-1), rfl, rfl, (tb_0 (by omega)), ⟨by decide, by decide⟩, (Or.inl (by decide))⟩
  · have c_1' : n.toInt < z.toInt := i_nle c_1 rfl rfl
    refine lv_aload_n hx hb dX7_byteAt_8 rfl (lv_at hl 0 rfl) ?_
    refine t_get (ci := 7) (v := .ref t) hB hT (ro_ci r_h rfl) rfl 28 (by decide) k_773 kt dX7_byteAt_9 ?_
    refine lv_iload_n hx hb dX7_byteAt_12 rfl (lv_at hl 1 rfl) ?_
    have i_u_2 : vp_in n 100 := (i_in (n := 100) rfl (by omega) (by omega))
    refine t_iald hB hT (ro_in r_t (by decide)) n_t i_u_2 rfl dX7_byteAt_13 ?_
    have c_u_2 := hI.c r_t n_t (i_cl i_u_2)
    refine lv_topi (fun u_2 e_u_2 => ?_)
    obtain ⟨l_u_2, u_u_2⟩ := c_u_2
    rw [← e_u_2] at l_u_2 u_u_2
    refine lv_goto (tgt := 18) hx hb dX7_byteAt_14 (by decide) ?_
    exact t_iret hB hr hT (Nat.le_of_ble_eq_true rfl) (Nat.le_of_ble_eq_true rfl) dX7_byteAt_18 ⟨u_2, rfl, rfl, (tb_1 (by omega) (by omega) hc e_u_2.symm), ⟨by omega, by omega⟩, (Or.inr (by omega))⟩
abbrev md_m_must : Nat → Nat → Bool := mdf [(8, 36), (8, 37)]
set_option maxHeartbeats 4000000 in
set_option maxRecDepth 100000 in
theorem m_must (l : Launch) (D : va_G) (cI cZ cS cR : ClassId) (N0 : NT) (g : GS) (hI : Inv g) (h : Nat) (n : Int32) (s0 : Int32) (w0 : Int32) (z : Int32) (t : Nat) (ct : Nat → Int32) (r_h : g.1 h = 8) (r_t : g.1 t = 79) (n_t : g.2.2.1 t = 100) (ks0 : g.2.1 h 36 = .int s0) (kw0 : g.2.1 h 37 = .int w0) (kz : g.2.1 h 29 = .int z) (kt : g.2.1 h 28 = .ref t) (l_n : 0 ≤ n.toInt) (l_s0 : 0 ≤ s0.toInt) (u_s0 : s0.toInt ≤ 100) (l_w0 : 0 ≤ w0.toInt) (u_w0 : w0.toInt ≤ 1) (l_z : 0 ≤ z.toInt) (u_z : z.toInt ≤ 100) (hc_0 : g.2.2.2.1 t = ct) : Ty l D cI cZ cS cR N0 yX7_must cX7_must 2 none 1 0 0 [.ref h, .int n] g (fun v g' => ∃ (s2 : Int32) (w2 : Int32), v = none ∧ Inv g' ∧ Ex g g' ∧ Sm md_m_must g g' ∧ ((w0.toInt = 1 ∧ s2.toInt = s0.toInt ∧ w2.toInt = 1) ∨ (w0.toInt = 0 ∧ txb ct z.toInt s0.toInt = n.toInt ∧ s2.toInt = s0.toInt + 1 ∧ s2.toInt ≤ z.toInt ∧ w2.toInt = 0) ∨ (w0.toInt = 0 ∧ txb ct z.toInt s0.toInt ≠ n.toInt ∧ s2.toInt = s0.toInt ∧ w2.toInt = 1)) ∧ (g'.2.1 h 36 = .int s2) ∧ (g'.2.1 h 37 = .int w2)) := by
  refine t_enter (by decide) (Nat.le_of_ble_eq_true rfl) ?_
  intro p e s m args below meth c ls H locs hB hr hin hl hT
  have hx := hB.1
  have hb := hB.2.1
  have hl : lv_has ls 2 [(0, .ref h), (1, .int n)] := hl
  have hE : Ex g g := Ex.rf
  have hM : Sm md_m_must g g := Sm.rf
  have hc := hc_0
  refine lv_aload_n hx hb dX7_must_0 rfl (lv_at hl 0 rfl) ?_
  refine lv_aload_n hx hb dX7_must_1 rfl (lv_at hl 0 rfl) ?_
  refine t_get (ci := 7) (v := .int w0) hB hT (ro_ci r_h rfl) rfl 37 (by decide) k_782 kw0 dX7_must_2 ?_
  refine lv_if_ne (tgt := 20) hx hb dX7_must_5 (by decide) (fun c_1 => ?_) (fun c_1 => ?_)
  · have c_1' : w0.toInt ≠ 0 := i_ne c_1 rfl (by decide)
    refine lv_iconst (v := 1) hx hb dX7_must_20 (by decide) ?_
    refine lv_goto (tgt := 25) hx hb dX7_must_21 (by decide) ?_
    refine t_put0 (ci := 7) (v := .int 1) hB hT (ro_ci r_h rfl) (ro_n0 r_h (by decide)) rfl 37 (by decide) k_782 (Or.inl rfl) rfl rfl dX7_must_25 (fun H locs hT => ?_)
    have hI : Inv (sF g h 37 (.int 1)) := hI.sF (p_8_37 r_h (⟨_, rfl, by decide, by decide⟩))
    have hM : Sm md_m_must g (sF g h 37 (.int 1)) := hM.tr hE (Sm_sF (by rw [r_h]; rfl))
    have hE : Ex g (sF g h 37 (.int 1)) := hE
    have hc : (sF g h 37 (.int 1)).2.2.2.1 t = ct := hc
    refine lv_aload_n hx hb dX7_must_28 rfl (lv_at hl 0 rfl) ?_
    refine lv_dup hx hb dX7_must_29 rfl ?_
    refine t_get (ci := 7) (v := .int s0) hB hT (ro_ci r_h rfl) rfl 36 (by decide) k_781 (sF_k ks0 (by decide)) dX7_must_30 ?_
    refine lv_aload_n hx hb dX7_must_33 rfl (lv_at hl 0 rfl) ?_
    refine t_get (ci := 7) (v := .int 1) hB hT (ro_ci r_h rfl) rfl 37 (by decide) k_782 sF_eq dX7_must_34 ?_
    refine lv_if_eq (tgt := 44) hx hb dX7_must_37 (by decide) (fun c_ => absurd c_ (by decide)) (fun c_ => ?_)
    refine lv_iconst (v := 0) hx hb dX7_must_40 (by decide) ?_
    refine lv_goto (tgt := 45) hx hb dX7_must_41 (by decide) ?_
    refine lv_iadd hx hb dX7_must_45 ?_
    refine lv_topi (fun z_2 ez_2 => ?_)
    have e_z_2 : z_2.toInt = s0.toInt + 0 := i_add ez_2 rfl (by decide) (by omega) (by omega)
    refine t_put0 (ci := 7) (v := .int z_2) hB hT (ro_ci r_h rfl) (ro_n0 r_h (by decide)) rfl 36 (by decide) k_781 (Or.inl rfl) rfl rfl dX7_must_46 (fun H locs hT => ?_)
    have hI : Inv (sF (sF g h 37 (.int 1)) h 36 (.int z_2)) := hI.sF (p_8_36 r_h (⟨_, rfl, by omega, by omega⟩))
    have hM : Sm md_m_must g (sF (sF g h 37 (.int 1)) h 36 (.int z_2)) := hM.tr hE (Sm_sF (by rw [r_h]; rfl))
    have hE : Ex g (sF (sF g h 37 (.int 1)) h 36 (.int z_2)) := hE
    have hc : (sF (sF g h 37 (.int 1)) h 36 (.int z_2)).2.2.2.1 t = ct := hc
    exact t_vret hB hr hT (Nat.le_of_ble_eq_true rfl) (Nat.le_of_ble_eq_true rfl) dX7_must_49 ⟨z_2, 1, rfl, hI, hE, hM, (by have q_1 : (1 : Int32).toInt = 1 := (by decide); omega), sF_eq, (sF_k sF_eq (by decide))⟩
  · have c_1' : w0.toInt = 0 := i_eq c_1 rfl (by decide)
    refine lv_aload_n hx hb dX7_must_8 rfl (lv_at hl 0 rfl) ?_
    refine lv_aload_n hx hb dX7_must_9 rfl (lv_at hl 0 rfl) ?_
    refine t_get (ci := 7) (v := .int s0) hB hT (ro_ci r_h rfl) rfl 36 (by decide) k_781 ks0 dX7_must_10 ?_
    refine t_callV (n := 1) (As := [.int s0]) (rest := [.ref h]) (ci := 7) hB hT hl.1 (m_byteAt l D cI cZ cS cR N0 g hI h s0 z t ct r_h r_t n_t kz kt (by omega) (by omega) (by omega) (by omega) hc) (ro_ci r_h rfl) rfl k_971 k_65 k_968 k_970 k_23 (by decide +kernel) ⟨(Nat.le_of_ble_eq_true rfl), (Nat.le_of_ble_eq_true rfl)⟩ rfl (Nat.le_of_ble_eq_true rfl) ⟨(Nat.le_of_ble_eq_true rfl), (Nat.le_of_ble_eq_true rfl)⟩ dX7_must_13 (fun v g_3 H locs hp hT => ?_)
    obtain ⟨r_4, rfl, eg, f_5, f_6, f_7⟩ := hp
    rw [eg] at hT
    clear eg
    refine W.eq (g2 := F0 m 16 ls [.int r_4, .ref h]) rfl ?_
    refine lv_iload_n hx hb dX7_must_16 rfl (lv_at hl 1 rfl) ?_
    refine lv_icmp_eq (tgt := 24) hx hb dX7_must_17 (by decide) (fun c_10 => ?_) (fun c_10 => ?_)
    · have c_10' : r_4.toInt = n.toInt := i_eq c_10 rfl rfl
      refine lv_iconst (v := 0) hx hb dX7_must_24 (by decide) ?_
      refine t_put0 (ci := 7) (v := .int 0) hB hT (ro_ci r_h rfl) (ro_n0 r_h (by decide)) rfl 37 (by decide) k_782 (Or.inl rfl) rfl rfl dX7_must_25 (fun H locs hT => ?_)
      have hI : Inv (sF g h 37 (.int 0)) := hI.sF (p_8_37 r_h (⟨_, rfl, by decide, by decide⟩))
      have hM : Sm md_m_must g (sF g h 37 (.int 0)) := hM.tr hE (Sm_sF (by rw [r_h]; rfl))
      have hE : Ex g (sF g h 37 (.int 0)) := hE
      have hc : (sF g h 37 (.int 0)).2.2.2.1 t = ct := hc
      refine lv_aload_n hx hb dX7_must_28 rfl (lv_at hl 0 rfl) ?_
      refine lv_dup hx hb dX7_must_29 rfl ?_
      refine t_get (ci := 7) (v := .int s0) hB hT (ro_ci r_h rfl) rfl 36 (by decide) k_781 (sF_k ks0 (by decide)) dX7_must_30 ?_
      refine lv_aload_n hx hb dX7_must_33 rfl (lv_at hl 0 rfl) ?_
      refine t_get (ci := 7) (v := .int 0) hB hT (ro_ci r_h rfl) rfl 37 (by decide) k_782 sF_eq dX7_must_34 ?_
      refine lv_if_eq (tgt := 44) hx hb dX7_must_37 (by decide) (fun c_ => ?_) (fun c_ => absurd (by decide) c_)
      refine lv_iconst (v := 1) hx hb dX7_must_44 (by decide) ?_
      refine lv_iadd hx hb dX7_must_45 ?_
      refine lv_topi (fun z_11 ez_11 => ?_)
      have e_z_11 : z_11.toInt = s0.toInt + 1 := i_add ez_11 rfl (by decide) (by omega) (by omega)
      refine t_put0 (ci := 7) (v := .int z_11) hB hT (ro_ci r_h rfl) (ro_n0 r_h (by decide)) rfl 36 (by decide) k_781 (Or.inl rfl) rfl rfl dX7_must_46 (fun H locs hT => ?_)
      have hI : Inv (sF (sF g h 37 (.int 0)) h 36 (.int z_11)) := hI.sF (p_8_36 r_h (⟨_, rfl, by omega, by omega⟩))
      have hM : Sm md_m_must g (sF (sF g h 37 (.int 0)) h 36 (.int z_11)) := hM.tr hE (Sm_sF (by rw [r_h]; rfl))
      have hE : Ex g (sF (sF g h 37 (.int 0)) h 36 (.int z_11)) := hE
      have hc : (sF (sF g h 37 (.int 0)) h 36 (.int z_11)).2.2.2.1 t = ct := hc
      exact t_vret hB hr hT (Nat.le_of_ble_eq_true rfl) (Nat.le_of_ble_eq_true rfl) dX7_must_49 ⟨z_11, 0, rfl, hI, hE, hM, (by have q_0 : (0 : Int32).toInt = 0 := (by decide); omega), sF_eq, (sF_k sF_eq (by decide))⟩
    · have c_10' : r_4.toInt ≠ n.toInt := i_ne c_10 rfl rfl
      refine lv_iconst (v := 1) hx hb dX7_must_20 (by decide) ?_
      refine lv_goto (tgt := 25) hx hb dX7_must_21 (by decide) ?_
      refine t_put0 (ci := 7) (v := .int 1) hB hT (ro_ci r_h rfl) (ro_n0 r_h (by decide)) rfl 37 (by decide) k_782 (Or.inl rfl) rfl rfl dX7_must_25 (fun H locs hT => ?_)
      have hI : Inv (sF g h 37 (.int 1)) := hI.sF (p_8_37 r_h (⟨_, rfl, by decide, by decide⟩))
      have hM : Sm md_m_must g (sF g h 37 (.int 1)) := hM.tr hE (Sm_sF (by rw [r_h]; rfl))
      have hE : Ex g (sF g h 37 (.int 1)) := hE
      have hc : (sF g h 37 (.int 1)).2.2.2.1 t = ct := hc
      refine lv_aload_n hx hb dX7_must_28 rfl (lv_at hl 0 rfl) ?_
      refine lv_dup hx hb dX7_must_29 rfl ?_
      refine t_get (ci := 7) (v := .int s0) hB hT (ro_ci r_h rfl) rfl 36 (by decide) k_781 (sF_k ks0 (by decide)) dX7_must_30 ?_
      refine lv_aload_n hx hb dX7_must_33 rfl (lv_at hl 0 rfl) ?_
      refine t_get (ci := 7) (v := .int 1) hB hT (ro_ci r_h rfl) rfl 37 (by decide) k_782 sF_eq dX7_must_34 ?_
      refine lv_if_eq (tgt := 44) hx hb dX7_must_37 (by decide) (fun c_ => absurd c_ (by decide)) (fun c_ => ?_)
      refine lv_iconst (v := 0) hx hb dX7_must_40 (by decide) ?_
      refine lv_goto (tgt := 45) hx hb dX7_must_41 (by decide) ?_
      refine lv_iadd hx hb dX7_must_45 ?_
      refine lv_topi (fun z_12 ez_12 => ?_)
      have e_z_12 : z_12.toInt = s0.toInt + 0 := i_add ez_12 rfl (by decide) (by omega) (by omega)
      refine t_put0 (ci := 7) (v := .int z_12) hB hT (ro_ci r_h rfl) (ro_n0 r_h (by decide)) rfl 36 (by decide) k_781 (Or.inl rfl) rfl rfl dX7_must_46 (fun H locs hT => ?_)
      have hI : Inv (sF (sF g h 37 (.int 1)) h 36 (.int z_12)) := hI.sF (p_8_36 r_h (⟨_, rfl, by omega, by omega⟩))
      have hM : Sm md_m_must g (sF (sF g h 37 (.int 1)) h 36 (.int z_12)) := hM.tr hE (Sm_sF (by rw [r_h]; rfl))
      have hE : Ex g (sF (sF g h 37 (.int 1)) h 36 (.int z_12)) := hE
      have hc : (sF (sF g h 37 (.int 1)) h 36 (.int z_12)).2.2.2.1 t = ct := hc
      exact t_vret hB hr hT (Nat.le_of_ble_eq_true rfl) (Nat.le_of_ble_eq_true rfl) dX7_must_49 ⟨z_12, 1, rfl, hI, hE, hM, (by have q_1 : (1 : Int32).toInt = 1 := (by decide); omega), sF_eq, (sF_k sF_eq (by decide))⟩
abbrev md_m_readsWorth : Nat → Nat → Bool := mdf [(8, 36), (8, 37)]
set_option maxHeartbeats 4000000 in
set_option maxRecDepth 100000 in
theorem m_readsWorth (l : Launch) (D : va_G) (cI cZ cS cR : ClassId) (N0 : NT) (g : GS) (hI : Inv g) (h : Nat) (s0 : Int32) (w0 : Int32) (z : Int32) (t : Nat) (ct : Nat → Int32) (r_h : g.1 h = 8) (r_t : g.1 t = 79) (n_t : g.2.2.1 t = 100) (ks0 : g.2.1 h 36 = .int s0) (kw0 : g.2.1 h 37 = .int w0) (kz : g.2.1 h 29 = .int z) (kt : g.2.1 h 28 = .ref t) (l_s0 : 0 ≤ s0.toInt) (u_s0 : s0.toInt ≤ 100) (l_w0 : 0 ≤ w0.toInt) (u_w0 : w0.toInt ≤ 1) (l_z : 0 ≤ z.toInt) (u_z : z.toInt ≤ 100) (hc_0 : g.2.2.2.1 t = ct) : Ty l D cI cZ cS cR N0 yX7_readsWorth cX7_readsWorth 4 (some .int) 1 0 0 [.ref h] g (fun v g' => ∃ (r : Int32) (s2 : Int32) (w2 : Int32), v = some (.int r) ∧ Inv g' ∧ Ex g g' ∧ Sm md_m_readsWorth g g' ∧ (0 ≤ r.toInt ∧ r.toInt ≤ 1001) ∧ ((w0.toInt = 1 ∧ r.toInt = 0 ∧ s2.toInt = s0.toInt ∧ w2.toInt = 1) ∨ (w0.toInt = 0 ∧ vlv (txb ct z.toInt) s0.toInt = -1 ∧ vlp (txb ct z.toInt) s0.toInt = s2.toInt ∧ s2.toInt = s0.toInt ∧ r.toInt = 0 ∧ w2.toInt = 1) ∨ (w0.toInt = 0 ∧ vlv (txb ct z.toInt) s0.toInt = r.toInt ∧ vlp (txb ct z.toInt) s0.toInt = s2.toInt ∧ s2.toInt ≤ z.toInt ∧ 0 ≤ s2.toInt ∧ w2.toInt = 0)) ∧ (g'.2.1 h 36 = .int s2) ∧ (g'.2.1 h 37 = .int w2)) := by
  refine t_enter (by decide) (Nat.le_of_ble_eq_true rfl) ?_
  intro p e s m args below meth c ls H locs hB hr hin hl hT
  have hx := hB.1
  have hb := hB.2.1
  have hl : lv_has ls 4 [(0, .ref h)] := hl
  have hE : Ex g g := Ex.rf
  have hM : Sm md_m_readsWorth g g := Sm.rf
  have hc := hc_0
  refine lv_aload_n hx hb dX7_readsWorth_0 rfl (lv_at hl 0 rfl) ?_
  refine t_get (ci := 7) (v := .int w0) hB hT (ro_ci r_h rfl) rfl 37 (by decide) k_782 kw0 dX7_readsWorth_1 ?_
  refine lv_if_eq (tgt := 11) hx hb dX7_readsWorth_4 (by decide) (fun c_1 => ?_) (fun c_1 => ?_)
  · have c_1' : w0.toInt = 0 := i_eq c_1 rfl (by decide)
    refine lv_aload_n hx hb dX7_readsWorth_11 rfl (lv_at hl 0 rfl) ?_
    refine lv_aload_n hx hb dX7_readsWorth_12 rfl (lv_at hl 0 rfl) ?_
    refine t_get (ci := 7) (v := .int s0) hB hT (ro_ci r_h rfl) rfl 36 (by decide) k_781 ks0 dX7_readsWorth_13 ?_
    refine t_callV (n := 1) (As := [.int s0]) (rest := []) (ci := 7) hB hT hl.1 (m_byteAt l D cI cZ cS cR N0 g hI h s0 z t ct r_h r_t n_t kz kt (by omega) (by omega) (by omega) (by omega) hc) (ro_ci r_h rfl) rfl k_971 k_65 k_968 k_970 k_23 (by decide +kernel) ⟨(Nat.le_of_ble_eq_true rfl), (Nat.le_of_ble_eq_true rfl)⟩ rfl (Nat.le_of_ble_eq_true rfl) ⟨(Nat.le_of_ble_eq_true rfl), (Nat.le_of_ble_eq_true rfl)⟩ dX7_readsWorth_16 (fun v g_2 H locs hp hT => ?_)
    obtain ⟨r_3, rfl, eg, f_4, f_5, f_6⟩ := hp
    rw [eg] at hT
    clear eg
    refine W.eq (g2 := F0 m 19 ls [.int r_3]) rfl ?_
    refine lv_istore_n (lv' := [(1, .int r_3), (0, .ref h)]) hx hb dX7_readsWorth_19 rfl hl (by decide) rfl (fun ls hl => ?_)
    refine lv_iload_n hx hb dX7_readsWorth_20 rfl (lv_at hl 0 rfl) ?_
    refine lv_bipush (v := 120) hx hb dX7_readsWorth_21 (by decide) ?_
    refine lv_icmp_eq (tgt := 32) hx hb dX7_readsWorth_23 (by decide) (fun c_9 => ?_) (fun c_9 => ?_)
    · have c_9' : r_3.toInt = 120 := i_eq c_9 rfl (by decide)
      refine lv_aload_n hx hb dX7_readsWorth_32 rfl (lv_at hl 1 rfl) ?_
      refine lv_dup hx hb dX7_readsWorth_33 rfl ?_
      refine t_get (ci := 7) (v := .int s0) hB hT (ro_ci r_h rfl) rfl 36 (by decide) k_781 ks0 dX7_readsWorth_34 ?_
      refine lv_iconst (v := 1) hx hb dX7_readsWorth_37 (by decide) ?_
      refine lv_iadd hx hb dX7_readsWorth_38 ?_
      refine lv_topi (fun z_10 ez_10 => ?_)
      have e_z_10 : z_10.toInt = s0.toInt + 1 := i_add ez_10 rfl (by decide) (by omega) (by omega)
      refine t_put0 (ci := 7) (v := .int z_10) hB hT (ro_ci r_h rfl) (ro_n0 r_h (by decide)) rfl 36 (by decide) k_781 (Or.inl rfl) rfl rfl dX7_readsWorth_39 (fun H locs hT => ?_)
      have hI : Inv (sF g h 36 (.int z_10)) := hI.sF (p_8_36 r_h (⟨_, rfl, by omega, by omega⟩))
      have hM : Sm md_m_readsWorth g (sF g h 36 (.int z_10)) := hM.tr hE (Sm_sF (by rw [r_h]; rfl))
      have hE : Ex g (sF g h 36 (.int z_10)) := hE
      have hc : (sF g h 36 (.int z_10)).2.2.2.1 t = ct := hc
      refine lv_iload_n hx hb dX7_readsWorth_42 rfl (lv_at hl 0 rfl) ?_
      refine lv_bipush (v := 120) hx hb dX7_readsWorth_43 (by decide) ?_
      refine lv_icmp_ne (tgt := 54) hx hb dX7_readsWorth_45 (by decide) (fun c_11 => ?_) (fun c_11 => ?_)
      · have c_11' : r_3.toInt ≠ 120 := i_ne c_11 rfl (by decide)
        exact absurd c_11' (by omega)
      · have c_11' : r_3.toInt = 120 := i_eq c_11 rfl (by decide)
        refine lv_sipush (v := 1000) hx hb dX7_readsWorth_48 (by decide) ?_
        refine lv_goto (tgt := 57) hx hb dX7_readsWorth_51 (by decide) ?_
        have q0_ : (0 : Int32).toInt = 0 := (by decide)
        have q1_ : (1 : Int32).toInt = 1 := (by decide)
        have hv_ := vl_x (T := (txb ct z.toInt)) (p := s0.toInt) (q := z_10.toInt) (by omega) (by omega)
        exact t_iret hB hr hT (Nat.le_of_ble_eq_true rfl) (Nat.le_of_ble_eq_true rfl) dX7_readsWorth_57 ⟨1000, z_10, w0, rfl, hI, hE, hM, ⟨by decide, by decide⟩, (Or.inr (Or.inr ⟨by omega, hv_.1.trans (by decide), hv_.2, by omega, by omega, by omega⟩)), sF_eq, (sF_k kw0 (by decide))⟩
    · have c_9' : r_3.toInt ≠ 120 := i_ne c_9 rfl (by decide)
      refine lv_iload_n hx hb dX7_readsWorth_26 rfl (lv_at hl 0 rfl) ?_
      refine lv_bipush (v := 114) hx hb dX7_readsWorth_27 (by decide) ?_
      refine lv_icmp_ne (tgt := 58) hx hb dX7_readsWorth_29 (by decide) (fun c_12 => ?_) (fun c_12 => ?_)
      · have c_12' : r_3.toInt ≠ 114 := i_ne c_12 rfl (by decide)
        refine lv_iconst (v := 0) hx hb dX7_readsWorth_58 (by decide) ?_
        refine lv_istore_n (lv' := [(2, .int 0), (1, .int r_3), (0, .ref h)]) hx hb dX7_readsWorth_59 rfl hl (by decide) rfl (fun ls hl => ?_)
        refine lv_iconst (v := 0) hx hb dX7_readsWorth_60 (by decide) ?_
        refine lv_istore_n (lv' := [(3, .int 0), (2, .int 0), (1, .int r_3), (0, .ref h)]) hx hb dX7_readsWorth_61 rfl hl (by decide) rfl (fun ls hl => ?_)
        refine lv_aload_n hx hb dX7_readsWorth_62 rfl (lv_at hl 3 rfl) ?_
        refine t_get (ci := 7) (v := .int w0) hB hT (ro_ci r_h rfl) rfl 37 (by decide) k_782 kw0 dX7_readsWorth_63 ?_
        refine lv_if_ne (tgt := 125) hx hb dX7_readsWorth_66 (by decide) (fun c_13 => ?_) (fun c_13 => ?_)
        · have c_13' : w0.toInt ≠ 0 := i_ne c_13 rfl (by decide)
          exact absurd c_13' (by omega)
        · have c_13' : w0.toInt = 0 := i_eq c_13 rfl (by decide)
          refine lv_iload_n hx hb dX7_readsWorth_69 rfl (lv_at hl 1 rfl) ?_
          refine lv_iconst (v := 3) hx hb dX7_readsWorth_70 (by decide) ?_
          refine lv_icmp_ge (tgt := 125) hx hb dX7_readsWorth_71 (by decide) (fun c_ => absurd c_ (by decide)) (fun c_ => ?_)
          refine lv_aload_n hx hb dX7_readsWorth_74 rfl (lv_at hl 3 rfl) ?_
          refine lv_aload_n hx hb dX7_readsWorth_75 rfl (lv_at hl 3 rfl) ?_
          refine t_get (ci := 7) (v := .int s0) hB hT (ro_ci r_h rfl) rfl 36 (by decide) k_781 ks0 dX7_readsWorth_76 ?_
          refine t_callV (n := 1) (As := [.int s0]) (rest := []) (ci := 7) hB hT hl.1 (m_byteAt l D cI cZ cS cR N0 g hI h s0 z t ct r_h r_t n_t kz kt (by omega) (by omega) (by omega) (by omega) hc) (ro_ci r_h rfl) rfl k_971 k_65 k_968 k_970 k_23 (by decide +kernel) ⟨(Nat.le_of_ble_eq_true rfl), (Nat.le_of_ble_eq_true rfl)⟩ rfl (Nat.le_of_ble_eq_true rfl) ⟨(Nat.le_of_ble_eq_true rfl), (Nat.le_of_ble_eq_true rfl)⟩ dX7_readsWorth_79 (fun v g_14 H locs hp hT => ?_)
          obtain ⟨r_15, rfl, eg, f_16, f_17, f_18⟩ := hp
          rw [eg] at hT
          clear eg
          refine W.eq (g2 := F0 m 82 ls [.int r_15]) rfl ?_
          refine lv_bipush (v := 48) hx hb dX7_readsWorth_82 (by decide) ?_
          refine lv_bipush (v := 57) hx hb dX7_readsWorth_84 (by decide) ?_
          refine t_callS (n := 3) (As := [.int r_15, .int 48, .int 57]) (rest := []) hB hT hl.1 (m_in l D cI cZ cS cR N0 g hI r_15 48 57 ) k_954 k_65 k_952 k_953 (by decide +kernel) ⟨(Nat.le_of_ble_eq_true rfl), (Nat.le_of_ble_eq_true rfl)⟩ rfl (Nat.le_of_ble_eq_true rfl) ⟨(Nat.le_of_ble_eq_true rfl), (Nat.le_of_ble_eq_true rfl)⟩ dX7_readsWorth_86 (fun v g_21 H locs hp hT => ?_)
          obtain ⟨r_22, rfl, eg, f_23⟩ := hp
          rw [eg] at hT
          clear eg
          refine W.eq (g2 := F0 m 89 ls [.int r_22]) rfl ?_
          have qc_26 : (48 : Int32).toInt = 48 := (by decide)
          have qc_27 : (57 : Int32).toInt = 57 := (by decide)
          rcases f_23 with ⟨rfl, hw_28, hw_29⟩ | ⟨rfl, hw_30⟩
          · refine W.eq (g2 := F0 m 89 ls [.int 1]) rfl ?_
            refine lv_if_eq (tgt := 125) hx hb dX7_readsWorth_89 (by decide) (fun c_ => absurd c_ (by decide)) (fun c_ => ?_)
            refine lv_bipush (v := 10) hx hb dX7_readsWorth_92 (by decide) ?_
            refine lv_iload_n hx hb dX7_readsWorth_94 rfl (lv_at hl 0 rfl) ?_
            refine lv_imul hx hb dX7_readsWorth_95 ?_
            refine x_ev (y := 0) (by decide) ?_
            refine lv_aload_n hx hb dX7_readsWorth_96 rfl (lv_at hl 3 rfl) ?_
            refine lv_aload_n hx hb dX7_readsWorth_97 rfl (lv_at hl 3 rfl) ?_
            refine t_get (ci := 7) (v := .int s0) hB hT (ro_ci r_h rfl) rfl 36 (by decide) k_781 ks0 dX7_readsWorth_98 ?_
            refine t_callV (n := 1) (As := [.int s0]) (rest := [.int 0]) (ci := 7) hB hT hl.1 (m_byteAt l D cI cZ cS cR N0 g hI h s0 z t ct r_h r_t n_t kz kt (by omega) (by omega) (by omega) (by omega) hc) (ro_ci r_h rfl) rfl k_971 k_65 k_968 k_970 k_23 (by decide +kernel) ⟨(Nat.le_of_ble_eq_true rfl), (Nat.le_of_ble_eq_true rfl)⟩ rfl (Nat.le_of_ble_eq_true rfl) ⟨(Nat.le_of_ble_eq_true rfl), (Nat.le_of_ble_eq_true rfl)⟩ dX7_readsWorth_101 (fun v g_31 H locs hp hT => ?_)
            obtain ⟨r_32, rfl, eg, f_33, f_34, f_35⟩ := hp
            rw [eg] at hT
            clear eg
            refine W.eq (g2 := F0 m 104 ls [.int r_32, .int 0]) rfl ?_
            refine lv_iadd hx hb dX7_readsWorth_104 ?_
            refine lv_topi (fun z_38 ez_38 => ?_)
            have e_z_38 : z_38.toInt = 0 + r_32.toInt := i_add ez_38 (by decide) rfl (by omega) (by omega)
            refine lv_bipush (v := 48) hx hb dX7_readsWorth_105 (by decide) ?_
            refine lv_isub hx hb dX7_readsWorth_107 ?_
            refine lv_topi (fun z_39 ez_39 => ?_)
            have e_z_39 : z_39.toInt = z_38.toInt - 48 := i_sub ez_39 rfl (by decide) (by omega) (by omega)
            refine lv_istore_n (lv' := [(3, .int z_39), (2, .int 0), (1, .int r_3), (0, .ref h)]) hx hb dX7_readsWorth_108 rfl hl (by decide) rfl (fun ls hl => ?_)
            refine lv_aload_n hx hb dX7_readsWorth_109 rfl (lv_at hl 3 rfl) ?_
            refine lv_dup hx hb dX7_readsWorth_110 rfl ?_
            refine t_get (ci := 7) (v := .int s0) hB hT (ro_ci r_h rfl) rfl 36 (by decide) k_781 ks0 dX7_readsWorth_111 ?_
            refine lv_iconst (v := 1) hx hb dX7_readsWorth_114 (by decide) ?_
            refine lv_iadd hx hb dX7_readsWorth_115 ?_
            refine lv_topi (fun z_40 ez_40 => ?_)
            have e_z_40 : z_40.toInt = s0.toInt + 1 := i_add ez_40 rfl (by decide) (by omega) (by omega)
            refine t_put0 (ci := 7) (v := .int z_40) hB hT (ro_ci r_h rfl) (ro_n0 r_h (by decide)) rfl 36 (by decide) k_781 (Or.inl rfl) rfl rfl dX7_readsWorth_116 (fun H locs hT => ?_)
            have hI : Inv (sF g h 36 (.int z_40)) := hI.sF (p_8_36 r_h (⟨_, rfl, by omega, by omega⟩))
            have hM : Sm md_m_readsWorth g (sF g h 36 (.int z_40)) := hM.tr hE (Sm_sF (by rw [r_h]; rfl))
            have hE : Ex g (sF g h 36 (.int z_40)) := hE
            have hc : (sF g h 36 (.int z_40)).2.2.2.1 t = ct := hc
            refine lv_iinc (v := 1) (lv' := [(2, .int 1), (3, .int z_39), (1, .int r_3), (0, .ref h)]) hx hb dX7_readsWorth_119 hl (k := 1) rfl (by decide) (by decide) rfl (fun ls hl => ?_)
            refine lv_goto (tgt := 62) hx hb dX7_readsWorth_122 (by decide) ?_
            refine lv_aload_n hx hb dX7_readsWorth_62 rfl (lv_at hl 3 rfl) ?_
            refine t_get (ci := 7) (v := .int w0) hB hT (ro_ci r_h rfl) rfl 37 (by decide) k_782 (sF_k kw0 (by decide)) dX7_readsWorth_63 ?_
            refine lv_if_ne (tgt := 125) hx hb dX7_readsWorth_66 (by decide) (fun c_41 => ?_) (fun c_41 => ?_)
            · have c_41' : w0.toInt ≠ 0 := i_ne c_41 rfl (by decide)
              exact absurd c_41' (by omega)
            · have c_41' : w0.toInt = 0 := i_eq c_41 rfl (by decide)
              refine lv_iload_n hx hb dX7_readsWorth_69 rfl (lv_at hl 0 rfl) ?_
              refine lv_iconst (v := 3) hx hb dX7_readsWorth_70 (by decide) ?_
              refine lv_icmp_ge (tgt := 125) hx hb dX7_readsWorth_71 (by decide) (fun c_ => absurd c_ (by decide)) (fun c_ => ?_)
              refine lv_aload_n hx hb dX7_readsWorth_74 rfl (lv_at hl 3 rfl) ?_
              refine lv_aload_n hx hb dX7_readsWorth_75 rfl (lv_at hl 3 rfl) ?_
              refine t_get (ci := 7) (v := .int z_40) hB hT (ro_ci r_h rfl) rfl 36 (by decide) k_781 sF_eq dX7_readsWorth_76 ?_
              refine t_callV (n := 1) (As := [.int z_40]) (rest := []) (ci := 7) hB hT hl.1 (m_byteAt l D cI cZ cS cR N0 (sF g h 36 (.int z_40)) hI h z_40 z t ct r_h r_t n_t (sF_k kz (by decide)) (sF_k kt (by decide)) (by omega) (by omega) (by omega) (by omega) hc) (ro_ci r_h rfl) rfl k_971 k_65 k_968 k_970 k_23 (by decide +kernel) ⟨(Nat.le_of_ble_eq_true rfl), (Nat.le_of_ble_eq_true rfl)⟩ rfl (Nat.le_of_ble_eq_true rfl) ⟨(Nat.le_of_ble_eq_true rfl), (Nat.le_of_ble_eq_true rfl)⟩ dX7_readsWorth_79 (fun v g_42 H locs hp hT => ?_)
              obtain ⟨r_43, rfl, eg, f_44, f_45, f_46⟩ := hp
              rw [eg] at hT
              clear eg
              refine W.eq (g2 := F0 m 82 ls [.int r_43]) rfl ?_
              refine lv_bipush (v := 48) hx hb dX7_readsWorth_82 (by decide) ?_
              refine lv_bipush (v := 57) hx hb dX7_readsWorth_84 (by decide) ?_
              refine t_callS (n := 3) (As := [.int r_43, .int 48, .int 57]) (rest := []) hB hT hl.1 (m_in l D cI cZ cS cR N0 (sF g h 36 (.int z_40)) hI r_43 48 57 ) k_954 k_65 k_952 k_953 (by decide +kernel) ⟨(Nat.le_of_ble_eq_true rfl), (Nat.le_of_ble_eq_true rfl)⟩ rfl (Nat.le_of_ble_eq_true rfl) ⟨(Nat.le_of_ble_eq_true rfl), (Nat.le_of_ble_eq_true rfl)⟩ dX7_readsWorth_86 (fun v g_49 H locs hp hT => ?_)
              obtain ⟨r_50, rfl, eg, f_51⟩ := hp
              rw [eg] at hT
              clear eg
              refine W.eq (g2 := F0 m 89 ls [.int r_50]) rfl ?_
              have qc_54 : (48 : Int32).toInt = 48 := (by decide)
              have qc_55 : (57 : Int32).toInt = 57 := (by decide)
              rcases f_51 with ⟨rfl, hw_56, hw_57⟩ | ⟨rfl, hw_58⟩
              · refine W.eq (g2 := F0 m 89 ls [.int 1]) rfl ?_
                refine lv_if_eq (tgt := 125) hx hb dX7_readsWorth_89 (by decide) (fun c_ => absurd c_ (by decide)) (fun c_ => ?_)
                refine lv_bipush (v := 10) hx hb dX7_readsWorth_92 (by decide) ?_
                refine lv_iload_n hx hb dX7_readsWorth_94 rfl (lv_at hl 1 rfl) ?_
                refine lv_imul hx hb dX7_readsWorth_95 ?_
                refine lv_topi (fun z_59 ez_59 => ?_)
                have e_z_59 : z_59.toInt = 10 * z_39.toInt := i_mul ez_59 (by decide) rfl (by omega) (by omega)
                refine lv_aload_n hx hb dX7_readsWorth_96 rfl (lv_at hl 3 rfl) ?_
                refine lv_aload_n hx hb dX7_readsWorth_97 rfl (lv_at hl 3 rfl) ?_
                refine t_get (ci := 7) (v := .int z_40) hB hT (ro_ci r_h rfl) rfl 36 (by decide) k_781 sF_eq dX7_readsWorth_98 ?_
                refine t_callV (n := 1) (As := [.int z_40]) (rest := [.int z_59]) (ci := 7) hB hT hl.1 (m_byteAt l D cI cZ cS cR N0 (sF g h 36 (.int z_40)) hI h z_40 z t ct r_h r_t n_t (sF_k kz (by decide)) (sF_k kt (by decide)) (by omega) (by omega) (by omega) (by omega) hc) (ro_ci r_h rfl) rfl k_971 k_65 k_968 k_970 k_23 (by decide +kernel) ⟨(Nat.le_of_ble_eq_true rfl), (Nat.le_of_ble_eq_true rfl)⟩ rfl (Nat.le_of_ble_eq_true rfl) ⟨(Nat.le_of_ble_eq_true rfl), (Nat.le_of_ble_eq_true rfl)⟩ dX7_readsWorth_101 (fun v g_60 H locs hp hT => ?_)
                obtain ⟨r_61, rfl, eg, f_62, f_63, f_64⟩ := hp
                rw [eg] at hT
                clear eg
                refine W.eq (g2 := F0 m 104 ls [.int r_61, .int z_59]) rfl ?_
                refine lv_iadd hx hb dX7_readsWorth_104 ?_
                refine lv_topi (fun z_67 ez_67 => ?_)
                have e_z_67 : z_67.toInt = z_59.toInt + r_61.toInt := i_add ez_67 rfl rfl (by omega) (by omega)
                refine lv_bipush (v := 48) hx hb dX7_readsWorth_105 (by decide) ?_
                refine lv_isub hx hb dX7_readsWorth_107 ?_
                refine lv_topi (fun z_68 ez_68 => ?_)
                have e_z_68 : z_68.toInt = z_67.toInt - 48 := i_sub ez_68 rfl (by decide) (by omega) (by omega)
                refine lv_istore_n (lv' := [(3, .int z_68), (2, .int 1), (1, .int r_3), (0, .ref h)]) hx hb dX7_readsWorth_108 rfl hl (by decide) rfl (fun ls hl => ?_)
                refine lv_aload_n hx hb dX7_readsWorth_109 rfl (lv_at hl 3 rfl) ?_
                refine lv_dup hx hb dX7_readsWorth_110 rfl ?_
                refine t_get (ci := 7) (v := .int z_40) hB hT (ro_ci r_h rfl) rfl 36 (by decide) k_781 sF_eq dX7_readsWorth_111 ?_
                refine lv_iconst (v := 1) hx hb dX7_readsWorth_114 (by decide) ?_
                refine lv_iadd hx hb dX7_readsWorth_115 ?_
                refine lv_topi (fun z_69 ez_69 => ?_)
                have e_z_69 : z_69.toInt = z_40.toInt + 1 := i_add ez_69 rfl (by decide) (by omega) (by omega)
                refine t_put0 (ci := 7) (v := .int z_69) hB hT (ro_ci r_h rfl) (ro_n0 r_h (by decide)) rfl 36 (by decide) k_781 (Or.inl rfl) rfl rfl dX7_readsWorth_116 (fun H locs hT => ?_)
                have hI : Inv (sF (sF g h 36 (.int z_40)) h 36 (.int z_69)) := hI.sF (p_8_36 r_h (⟨_, rfl, by omega, by omega⟩))
                have hM : Sm md_m_readsWorth g (sF (sF g h 36 (.int z_40)) h 36 (.int z_69)) := hM.tr hE (Sm_sF (by rw [r_h]; rfl))
                have hE : Ex g (sF (sF g h 36 (.int z_40)) h 36 (.int z_69)) := hE
                have hc : (sF (sF g h 36 (.int z_40)) h 36 (.int z_69)).2.2.2.1 t = ct := hc
                refine lv_iinc (v := 2) (lv' := [(2, .int 2), (3, .int z_68), (1, .int r_3), (0, .ref h)]) hx hb dX7_readsWorth_119 hl (k := 1) rfl (by decide) (by decide) rfl (fun ls hl => ?_)
                refine lv_goto (tgt := 62) hx hb dX7_readsWorth_122 (by decide) ?_
                refine lv_aload_n hx hb dX7_readsWorth_62 rfl (lv_at hl 3 rfl) ?_
                refine t_get (ci := 7) (v := .int w0) hB hT (ro_ci r_h rfl) rfl 37 (by decide) k_782 (sF_k (sF_k kw0 (by decide)) (by decide)) dX7_readsWorth_63 ?_
                refine lv_if_ne (tgt := 125) hx hb dX7_readsWorth_66 (by decide) (fun c_70 => ?_) (fun c_70 => ?_)
                · have c_70' : w0.toInt ≠ 0 := i_ne c_70 rfl (by decide)
                  exact absurd c_70' (by omega)
                · have c_70' : w0.toInt = 0 := i_eq c_70 rfl (by decide)
                  refine lv_iload_n hx hb dX7_readsWorth_69 rfl (lv_at hl 0 rfl) ?_
                  refine lv_iconst (v := 3) hx hb dX7_readsWorth_70 (by decide) ?_
                  refine lv_icmp_ge (tgt := 125) hx hb dX7_readsWorth_71 (by decide) (fun c_ => absurd c_ (by decide)) (fun c_ => ?_)
                  refine lv_aload_n hx hb dX7_readsWorth_74 rfl (lv_at hl 3 rfl) ?_
                  refine lv_aload_n hx hb dX7_readsWorth_75 rfl (lv_at hl 3 rfl) ?_
                  refine t_get (ci := 7) (v := .int z_69) hB hT (ro_ci r_h rfl) rfl 36 (by decide) k_781 sF_eq dX7_readsWorth_76 ?_
                  refine t_callV (n := 1) (As := [.int z_69]) (rest := []) (ci := 7) hB hT hl.1 (m_byteAt l D cI cZ cS cR N0 (sF (sF g h 36 (.int z_40)) h 36 (.int z_69)) hI h z_69 z t ct r_h r_t n_t (sF_k (sF_k kz (by decide)) (by decide)) (sF_k (sF_k kt (by decide)) (by decide)) (by omega) (by omega) (by omega) (by omega) hc) (ro_ci r_h rfl) rfl k_971 k_65 k_968 k_970 k_23 (by decide +kernel) ⟨(Nat.le_of_ble_eq_true rfl), (Nat.le_of_ble_eq_true rfl)⟩ rfl (Nat.le_of_ble_eq_true rfl) ⟨(Nat.le_of_ble_eq_true rfl), (Nat.le_of_ble_eq_true rfl)⟩ dX7_readsWorth_79 (fun v g_71 H locs hp hT => ?_)
                  obtain ⟨r_72, rfl, eg, f_73, f_74, f_75⟩ := hp
                  rw [eg] at hT
                  clear eg
                  refine W.eq (g2 := F0 m 82 ls [.int r_72]) rfl ?_
                  refine lv_bipush (v := 48) hx hb dX7_readsWorth_82 (by decide) ?_
                  refine lv_bipush (v := 57) hx hb dX7_readsWorth_84 (by decide) ?_
                  refine t_callS (n := 3) (As := [.int r_72, .int 48, .int 57]) (rest := []) hB hT hl.1 (m_in l D cI cZ cS cR N0 (sF (sF g h 36 (.int z_40)) h 36 (.int z_69)) hI r_72 48 57 ) k_954 k_65 k_952 k_953 (by decide +kernel) ⟨(Nat.le_of_ble_eq_true rfl), (Nat.le_of_ble_eq_true rfl)⟩ rfl (Nat.le_of_ble_eq_true rfl) ⟨(Nat.le_of_ble_eq_true rfl), (Nat.le_of_ble_eq_true rfl)⟩ dX7_readsWorth_86 (fun v g_78 H locs hp hT => ?_)
                  obtain ⟨r_79, rfl, eg, f_80⟩ := hp
                  rw [eg] at hT
                  clear eg
                  refine W.eq (g2 := F0 m 89 ls [.int r_79]) rfl ?_
                  have qc_83 : (48 : Int32).toInt = 48 := (by decide)
                  have qc_84 : (57 : Int32).toInt = 57 := (by decide)
                  rcases f_80 with ⟨rfl, hw_85, hw_86⟩ | ⟨rfl, hw_87⟩
                  · refine W.eq (g2 := F0 m 89 ls [.int 1]) rfl ?_
                    refine lv_if_eq (tgt := 125) hx hb dX7_readsWorth_89 (by decide) (fun c_ => absurd c_ (by decide)) (fun c_ => ?_)
                    refine lv_bipush (v := 10) hx hb dX7_readsWorth_92 (by decide) ?_
                    refine lv_iload_n hx hb dX7_readsWorth_94 rfl (lv_at hl 1 rfl) ?_
                    refine lv_imul hx hb dX7_readsWorth_95 ?_
                    refine lv_topi (fun z_88 ez_88 => ?_)
                    have e_z_88 : z_88.toInt = 10 * z_68.toInt := i_mul ez_88 (by decide) rfl (by omega) (by omega)
                    refine lv_aload_n hx hb dX7_readsWorth_96 rfl (lv_at hl 3 rfl) ?_
                    refine lv_aload_n hx hb dX7_readsWorth_97 rfl (lv_at hl 3 rfl) ?_
                    refine t_get (ci := 7) (v := .int z_69) hB hT (ro_ci r_h rfl) rfl 36 (by decide) k_781 sF_eq dX7_readsWorth_98 ?_
                    refine t_callV (n := 1) (As := [.int z_69]) (rest := [.int z_88]) (ci := 7) hB hT hl.1 (m_byteAt l D cI cZ cS cR N0 (sF (sF g h 36 (.int z_40)) h 36 (.int z_69)) hI h z_69 z t ct r_h r_t n_t (sF_k (sF_k kz (by decide)) (by decide)) (sF_k (sF_k kt (by decide)) (by decide)) (by omega) (by omega) (by omega) (by omega) hc) (ro_ci r_h rfl) rfl k_971 k_65 k_968 k_970 k_23 (by decide +kernel) ⟨(Nat.le_of_ble_eq_true rfl), (Nat.le_of_ble_eq_true rfl)⟩ rfl (Nat.le_of_ble_eq_true rfl) ⟨(Nat.le_of_ble_eq_true rfl), (Nat.le_of_ble_eq_true rfl)⟩ dX7_readsWorth_101 (fun v g_89 H locs hp hT => ?_)
                    obtain ⟨r_90, rfl, eg, f_91, f_92, f_93⟩ := hp
                    rw [eg] at hT
                    clear eg
                    refine W.eq (g2 := F0 m 104 ls [.int r_90, .int z_88]) rfl ?_
                    refine lv_iadd hx hb dX7_readsWorth_104 ?_
                    refine lv_topi (fun z_96 ez_96 => ?_)
                    have e_z_96 : z_96.toInt = z_88.toInt + r_90.toInt := i_add ez_96 rfl rfl (by omega) (by omega)
                    refine lv_bipush (v := 48) hx hb dX7_readsWorth_105 (by decide) ?_
                    refine lv_isub hx hb dX7_readsWorth_107 ?_
                    refine lv_topi (fun z_97 ez_97 => ?_)
                    have e_z_97 : z_97.toInt = z_96.toInt - 48 := i_sub ez_97 rfl (by decide) (by omega) (by omega)
                    refine lv_istore_n (lv' := [(3, .int z_97), (2, .int 2), (1, .int r_3), (0, .ref h)]) hx hb dX7_readsWorth_108 rfl hl (by decide) rfl (fun ls hl => ?_)
                    refine lv_aload_n hx hb dX7_readsWorth_109 rfl (lv_at hl 3 rfl) ?_
                    refine lv_dup hx hb dX7_readsWorth_110 rfl ?_
                    refine t_get (ci := 7) (v := .int z_69) hB hT (ro_ci r_h rfl) rfl 36 (by decide) k_781 sF_eq dX7_readsWorth_111 ?_
                    refine lv_iconst (v := 1) hx hb dX7_readsWorth_114 (by decide) ?_
                    refine lv_iadd hx hb dX7_readsWorth_115 ?_
                    refine lv_topi (fun z_98 ez_98 => ?_)
                    have e_z_98 : z_98.toInt = z_69.toInt + 1 := i_add ez_98 rfl (by decide) (by omega) (by omega)
                    refine t_put0 (ci := 7) (v := .int z_98) hB hT (ro_ci r_h rfl) (ro_n0 r_h (by decide)) rfl 36 (by decide) k_781 (Or.inl rfl) rfl rfl dX7_readsWorth_116 (fun H locs hT => ?_)
                    have hI : Inv (sF (sF (sF g h 36 (.int z_40)) h 36 (.int z_69)) h 36 (.int z_98)) := hI.sF (p_8_36 r_h (⟨_, rfl, by omega, by omega⟩))
                    have hM : Sm md_m_readsWorth g (sF (sF (sF g h 36 (.int z_40)) h 36 (.int z_69)) h 36 (.int z_98)) := hM.tr hE (Sm_sF (by rw [r_h]; rfl))
                    have hE : Ex g (sF (sF (sF g h 36 (.int z_40)) h 36 (.int z_69)) h 36 (.int z_98)) := hE
                    have hc : (sF (sF (sF g h 36 (.int z_40)) h 36 (.int z_69)) h 36 (.int z_98)).2.2.2.1 t = ct := hc
                    refine lv_iinc (v := 3) (lv' := [(2, .int 3), (3, .int z_97), (1, .int r_3), (0, .ref h)]) hx hb dX7_readsWorth_119 hl (k := 1) rfl (by decide) (by decide) rfl (fun ls hl => ?_)
                    refine lv_goto (tgt := 62) hx hb dX7_readsWorth_122 (by decide) ?_
                    refine lv_aload_n hx hb dX7_readsWorth_62 rfl (lv_at hl 3 rfl) ?_
                    refine t_get (ci := 7) (v := .int w0) hB hT (ro_ci r_h rfl) rfl 37 (by decide) k_782 (sF_k (sF_k (sF_k kw0 (by decide)) (by decide)) (by decide)) dX7_readsWorth_63 ?_
                    refine lv_if_ne (tgt := 125) hx hb dX7_readsWorth_66 (by decide) (fun c_99 => ?_) (fun c_99 => ?_)
                    · have c_99' : w0.toInt ≠ 0 := i_ne c_99 rfl (by decide)
                      exact absurd c_99' (by omega)
                    · have c_99' : w0.toInt = 0 := i_eq c_99 rfl (by decide)
                      refine lv_iload_n hx hb dX7_readsWorth_69 rfl (lv_at hl 0 rfl) ?_
                      refine lv_iconst (v := 3) hx hb dX7_readsWorth_70 (by decide) ?_
                      refine lv_icmp_ge (tgt := 125) hx hb dX7_readsWorth_71 (by decide) (fun c_ => ?_) (fun c_ => absurd (by decide) c_)
                      refine lv_aload_n hx hb dX7_readsWorth_125 rfl (lv_at hl 3 rfl) ?_
                      refine lv_aload_n hx hb dX7_readsWorth_126 rfl (lv_at hl 3 rfl) ?_
                      refine t_get (ci := 7) (v := .int w0) hB hT (ro_ci r_h rfl) rfl 37 (by decide) k_782 (sF_k (sF_k (sF_k kw0 (by decide)) (by decide)) (by decide)) dX7_readsWorth_127 ?_
                      refine lv_if_ne (tgt := 137) hx hb dX7_readsWorth_130 (by decide) (fun c_100 => ?_) (fun c_100 => ?_)
                      · have c_100' : w0.toInt ≠ 0 := i_ne c_100 rfl (by decide)
                        exact absurd c_100' (by omega)
                      · have c_100' : w0.toInt = 0 := i_eq c_100 rfl (by decide)
                        refine lv_iload_n hx hb dX7_readsWorth_133 rfl (lv_at hl 0 rfl) ?_
                        refine lv_if_ne (tgt := 141) hx hb dX7_readsWorth_134 (by decide) (fun c_ => ?_) (fun c_ => absurd c_ (by decide))
                        refine lv_iconst (v := 0) hx hb dX7_readsWorth_141 (by decide) ?_
                        refine t_put0 (ci := 7) (v := .int 0) hB hT (ro_ci r_h rfl) (ro_n0 r_h (by decide)) rfl 37 (by decide) k_782 (Or.inl rfl) rfl rfl dX7_readsWorth_142 (fun H locs hT => ?_)
                        have hI : Inv (sF (sF (sF (sF g h 36 (.int z_40)) h 36 (.int z_69)) h 36 (.int z_98)) h 37 (.int 0)) := hI.sF (p_8_37 r_h (⟨_, rfl, by decide, by decide⟩))
                        have hM : Sm md_m_readsWorth g (sF (sF (sF (sF g h 36 (.int z_40)) h 36 (.int z_69)) h 36 (.int z_98)) h 37 (.int 0)) := hM.tr hE (Sm_sF (by rw [r_h]; rfl))
                        have hE : Ex g (sF (sF (sF (sF g h 36 (.int z_40)) h 36 (.int z_69)) h 36 (.int z_98)) h 37 (.int 0)) := hE
                        have hc : (sF (sF (sF (sF g h 36 (.int z_40)) h 36 (.int z_69)) h 36 (.int z_98)) h 37 (.int 0)).2.2.2.1 t = ct := hc
                        refine lv_iload_n hx hb dX7_readsWorth_145 rfl (lv_at hl 1 rfl) ?_
                        have q0_ : (0 : Int32).toInt = 0 := (by decide)
                        have q1_ : (1 : Int32).toInt = 1 := (by decide)
                        have hv_ := vl_3 (T := (txb ct z.toInt)) (p := s0.toInt) (v := z_97.toInt) (q := z_40.toInt) (q2 := z_69.toInt) (q3 := z_98.toInt) ⟨by omega, by omega⟩ (by omega) ⟨by omega, by omega⟩ (by omega) ⟨by omega, by omega⟩ (by omega) (by omega)
                        exact t_iret hB hr hT (Nat.le_of_ble_eq_true rfl) (Nat.le_of_ble_eq_true rfl) dX7_readsWorth_146 ⟨z_97, z_98, 0, rfl, hI, hE, hM, ⟨by omega, by omega⟩, (Or.inr (Or.inr ⟨by omega, hv_.1, hv_.2, by omega, by omega, by omega⟩)), (sF_k sF_eq (by decide)), sF_eq⟩
                  · refine W.eq (g2 := F0 m 89 ls [.int 0]) rfl ?_
                    refine lv_if_eq (tgt := 125) hx hb dX7_readsWorth_89 (by decide) (fun c_ => ?_) (fun c_ => absurd (by decide) c_)
                    refine lv_aload_n hx hb dX7_readsWorth_125 rfl (lv_at hl 3 rfl) ?_
                    refine lv_aload_n hx hb dX7_readsWorth_126 rfl (lv_at hl 3 rfl) ?_
                    refine t_get (ci := 7) (v := .int w0) hB hT (ro_ci r_h rfl) rfl 37 (by decide) k_782 (sF_k (sF_k kw0 (by decide)) (by decide)) dX7_readsWorth_127 ?_
                    refine lv_if_ne (tgt := 137) hx hb dX7_readsWorth_130 (by decide) (fun c_101 => ?_) (fun c_101 => ?_)
                    · have c_101' : w0.toInt ≠ 0 := i_ne c_101 rfl (by decide)
                      exact absurd c_101' (by omega)
                    · have c_101' : w0.toInt = 0 := i_eq c_101 rfl (by decide)
                      refine lv_iload_n hx hb dX7_readsWorth_133 rfl (lv_at hl 0 rfl) ?_
                      refine lv_if_ne (tgt := 141) hx hb dX7_readsWorth_134 (by decide) (fun c_ => ?_) (fun c_ => absurd c_ (by decide))
                      refine lv_iconst (v := 0) hx hb dX7_readsWorth_141 (by decide) ?_
                      refine t_put0 (ci := 7) (v := .int 0) hB hT (ro_ci r_h rfl) (ro_n0 r_h (by decide)) rfl 37 (by decide) k_782 (Or.inl rfl) rfl rfl dX7_readsWorth_142 (fun H locs hT => ?_)
                      have hI : Inv (sF (sF (sF g h 36 (.int z_40)) h 36 (.int z_69)) h 37 (.int 0)) := hI.sF (p_8_37 r_h (⟨_, rfl, by decide, by decide⟩))
                      have hM : Sm md_m_readsWorth g (sF (sF (sF g h 36 (.int z_40)) h 36 (.int z_69)) h 37 (.int 0)) := hM.tr hE (Sm_sF (by rw [r_h]; rfl))
                      have hE : Ex g (sF (sF (sF g h 36 (.int z_40)) h 36 (.int z_69)) h 37 (.int 0)) := hE
                      have hc : (sF (sF (sF g h 36 (.int z_40)) h 36 (.int z_69)) h 37 (.int 0)).2.2.2.1 t = ct := hc
                      refine lv_iload_n hx hb dX7_readsWorth_145 rfl (lv_at hl 1 rfl) ?_
                      have q0_ : (0 : Int32).toInt = 0 := (by decide)
                      have q1_ : (1 : Int32).toInt = 1 := (by decide)
                      have hv_ := vl_2 (T := (txb ct z.toInt)) (p := s0.toInt) (v := z_68.toInt) (q := z_40.toInt) (q2 := z_69.toInt) ⟨by omega, by omega⟩ (by omega) ⟨by omega, by omega⟩ (by omega) (by omega) (by omega)
                      exact t_iret hB hr hT (Nat.le_of_ble_eq_true rfl) (Nat.le_of_ble_eq_true rfl) dX7_readsWorth_146 ⟨z_68, z_69, 0, rfl, hI, hE, hM, ⟨by omega, by omega⟩, (Or.inr (Or.inr ⟨by omega, hv_.1, hv_.2, by omega, by omega, by omega⟩)), (sF_k sF_eq (by decide)), sF_eq⟩
              · refine W.eq (g2 := F0 m 89 ls [.int 0]) rfl ?_
                refine lv_if_eq (tgt := 125) hx hb dX7_readsWorth_89 (by decide) (fun c_ => ?_) (fun c_ => absurd (by decide) c_)
                refine lv_aload_n hx hb dX7_readsWorth_125 rfl (lv_at hl 3 rfl) ?_
                refine lv_aload_n hx hb dX7_readsWorth_126 rfl (lv_at hl 3 rfl) ?_
                refine t_get (ci := 7) (v := .int w0) hB hT (ro_ci r_h rfl) rfl 37 (by decide) k_782 (sF_k kw0 (by decide)) dX7_readsWorth_127 ?_
                refine lv_if_ne (tgt := 137) hx hb dX7_readsWorth_130 (by decide) (fun c_102 => ?_) (fun c_102 => ?_)
                · have c_102' : w0.toInt ≠ 0 := i_ne c_102 rfl (by decide)
                  exact absurd c_102' (by omega)
                · have c_102' : w0.toInt = 0 := i_eq c_102 rfl (by decide)
                  refine lv_iload_n hx hb dX7_readsWorth_133 rfl (lv_at hl 0 rfl) ?_
                  refine lv_if_ne (tgt := 141) hx hb dX7_readsWorth_134 (by decide) (fun c_ => ?_) (fun c_ => absurd c_ (by decide))
                  refine lv_iconst (v := 0) hx hb dX7_readsWorth_141 (by decide) ?_
                  refine t_put0 (ci := 7) (v := .int 0) hB hT (ro_ci r_h rfl) (ro_n0 r_h (by decide)) rfl 37 (by decide) k_782 (Or.inl rfl) rfl rfl dX7_readsWorth_142 (fun H locs hT => ?_)
                  have hI : Inv (sF (sF g h 36 (.int z_40)) h 37 (.int 0)) := hI.sF (p_8_37 r_h (⟨_, rfl, by decide, by decide⟩))
                  have hM : Sm md_m_readsWorth g (sF (sF g h 36 (.int z_40)) h 37 (.int 0)) := hM.tr hE (Sm_sF (by rw [r_h]; rfl))
                  have hE : Ex g (sF (sF g h 36 (.int z_40)) h 37 (.int 0)) := hE
                  have hc : (sF (sF g h 36 (.int z_40)) h 37 (.int 0)).2.2.2.1 t = ct := hc
                  refine lv_iload_n hx hb dX7_readsWorth_145 rfl (lv_at hl 1 rfl) ?_
                  have q0_ : (0 : Int32).toInt = 0 := (by decide)
                  have q1_ : (1 : Int32).toInt = 1 := (by decide)
                  have hv_ := vl_1 (T := (txb ct z.toInt)) (p := s0.toInt) (v := z_39.toInt) (q := z_40.toInt) ⟨by omega, by omega⟩ (by omega) (by omega) (by omega)
                  exact t_iret hB hr hT (Nat.le_of_ble_eq_true rfl) (Nat.le_of_ble_eq_true rfl) dX7_readsWorth_146 ⟨z_39, z_40, 0, rfl, hI, hE, hM, ⟨by omega, by omega⟩, (Or.inr (Or.inr ⟨by omega, hv_.1, hv_.2, by omega, by omega, by omega⟩)), (sF_k sF_eq (by decide)), sF_eq⟩
          · refine W.eq (g2 := F0 m 89 ls [.int 0]) rfl ?_
            refine lv_if_eq (tgt := 125) hx hb dX7_readsWorth_89 (by decide) (fun c_ => ?_) (fun c_ => absurd (by decide) c_)
            refine lv_aload_n hx hb dX7_readsWorth_125 rfl (lv_at hl 3 rfl) ?_
            refine lv_aload_n hx hb dX7_readsWorth_126 rfl (lv_at hl 3 rfl) ?_
            refine t_get (ci := 7) (v := .int w0) hB hT (ro_ci r_h rfl) rfl 37 (by decide) k_782 kw0 dX7_readsWorth_127 ?_
            refine lv_if_ne (tgt := 137) hx hb dX7_readsWorth_130 (by decide) (fun c_103 => ?_) (fun c_103 => ?_)
            · have c_103' : w0.toInt ≠ 0 := i_ne c_103 rfl (by decide)
              exact absurd c_103' (by omega)
            · have c_103' : w0.toInt = 0 := i_eq c_103 rfl (by decide)
              refine lv_iload_n hx hb dX7_readsWorth_133 rfl (lv_at hl 1 rfl) ?_
              refine lv_if_ne (tgt := 141) hx hb dX7_readsWorth_134 (by decide) (fun c_ => absurd (by decide) c_) (fun c_ => ?_)
              refine lv_iconst (v := 1) hx hb dX7_readsWorth_137 (by decide) ?_
              refine lv_goto (tgt := 142) hx hb dX7_readsWorth_138 (by decide) ?_
              refine t_put0 (ci := 7) (v := .int 1) hB hT (ro_ci r_h rfl) (ro_n0 r_h (by decide)) rfl 37 (by decide) k_782 (Or.inl rfl) rfl rfl dX7_readsWorth_142 (fun H locs hT => ?_)
              have hI : Inv (sF g h 37 (.int 1)) := hI.sF (p_8_37 r_h (⟨_, rfl, by decide, by decide⟩))
              have hM : Sm md_m_readsWorth g (sF g h 37 (.int 1)) := hM.tr hE (Sm_sF (by rw [r_h]; rfl))
              have hE : Ex g (sF g h 37 (.int 1)) := hE
              have hc : (sF g h 37 (.int 1)).2.2.2.1 t = ct := hc
              refine lv_iload_n hx hb dX7_readsWorth_145 rfl (lv_at hl 0 rfl) ?_
              have q0_ : (0 : Int32).toInt = 0 := (by decide)
              have q1_ : (1 : Int32).toInt = 1 := (by decide)
              have hv_ := vl_0 (T := (txb ct z.toInt)) (p := s0.toInt) (q := s0.toInt) (by omega) (by omega) (by omega) rfl
              exact t_iret hB hr hT (Nat.le_of_ble_eq_true rfl) (Nat.le_of_ble_eq_true rfl) dX7_readsWorth_146 ⟨0, s0, 1, rfl, hI, hE, hM, ⟨by decide, by decide⟩, (Or.inr (Or.inl ⟨by omega, hv_.1, hv_.2, by omega, by omega, by omega⟩)), (sF_k ks0 (by decide)), sF_eq⟩
      · have c_12' : r_3.toInt = 114 := i_eq c_12 rfl (by decide)
        refine lv_aload_n hx hb dX7_readsWorth_32 rfl (lv_at hl 1 rfl) ?_
        refine lv_dup hx hb dX7_readsWorth_33 rfl ?_
        refine t_get (ci := 7) (v := .int s0) hB hT (ro_ci r_h rfl) rfl 36 (by decide) k_781 ks0 dX7_readsWorth_34 ?_
        refine lv_iconst (v := 1) hx hb dX7_readsWorth_37 (by decide) ?_
        refine lv_iadd hx hb dX7_readsWorth_38 ?_
        refine lv_topi (fun z_104 ez_104 => ?_)
        have e_z_104 : z_104.toInt = s0.toInt + 1 := i_add ez_104 rfl (by decide) (by omega) (by omega)
        refine t_put0 (ci := 7) (v := .int z_104) hB hT (ro_ci r_h rfl) (ro_n0 r_h (by decide)) rfl 36 (by decide) k_781 (Or.inl rfl) rfl rfl dX7_readsWorth_39 (fun H locs hT => ?_)
        have hI : Inv (sF g h 36 (.int z_104)) := hI.sF (p_8_36 r_h (⟨_, rfl, by omega, by omega⟩))
        have hM : Sm md_m_readsWorth g (sF g h 36 (.int z_104)) := hM.tr hE (Sm_sF (by rw [r_h]; rfl))
        have hE : Ex g (sF g h 36 (.int z_104)) := hE
        have hc : (sF g h 36 (.int z_104)).2.2.2.1 t = ct := hc
        refine lv_iload_n hx hb dX7_readsWorth_42 rfl (lv_at hl 0 rfl) ?_
        refine lv_bipush (v := 120) hx hb dX7_readsWorth_43 (by decide) ?_
        refine lv_icmp_ne (tgt := 54) hx hb dX7_readsWorth_45 (by decide) (fun c_105 => ?_) (fun c_105 => ?_)
        · have c_105' : r_3.toInt ≠ 120 := i_ne c_105 rfl (by decide)
          refine lv_sipush (v := 1001) hx hb dX7_readsWorth_54 (by decide) ?_
          have q0_ : (0 : Int32).toInt = 0 := (by decide)
          have q1_ : (1 : Int32).toInt = 1 := (by decide)
          have hv_ := vl_r (T := (txb ct z.toInt)) (p := s0.toInt) (q := z_104.toInt) (by omega) (by omega)
          exact t_iret hB hr hT (Nat.le_of_ble_eq_true rfl) (Nat.le_of_ble_eq_true rfl) dX7_readsWorth_57 ⟨1001, z_104, w0, rfl, hI, hE, hM, ⟨by decide, by decide⟩, (Or.inr (Or.inr ⟨by omega, hv_.1.trans (by decide), hv_.2, by omega, by omega, by omega⟩)), sF_eq, (sF_k kw0 (by decide))⟩
        · have c_105' : r_3.toInt = 120 := i_eq c_105 rfl (by decide)
          exact absurd c_105' (by omega)
  · have c_1' : w0.toInt ≠ 0 := i_ne c_1 rfl (by decide)
    refine lv_iconst (v := (-1)) hx hb dX7_readsWorth_7 (by decide) ?_
    refine lv_goto (tgt := 19) hx hb dX7_readsWorth_8 (by decide) ?_
    refine lv_istore_n (lv' := [(1, .int (-1)), (0, .ref h)]) hx hb dX7_readsWorth_19 rfl hl (by decide) rfl (fun ls hl => ?_)
    refine lv_iload_n hx hb dX7_readsWorth_20 rfl (lv_at hl 0 rfl) ?_
    refine lv_bipush (v := 120) hx hb dX7_readsWorth_21 (by decide) ?_
    refine lv_icmp_eq (tgt := 32) hx hb dX7_readsWorth_23 (by decide) (fun c_ => absurd c_ (by decide)) (fun c_ => ?_)
    refine lv_iload_n hx hb dX7_readsWorth_26 rfl (lv_at hl 0 rfl) ?_
    refine lv_bipush (v := 114) hx hb dX7_readsWorth_27 (by decide) ?_
    refine lv_icmp_ne (tgt := 58) hx hb dX7_readsWorth_29 (by decide) (fun c_ => ?_) (fun c_ => absurd c_ (by decide))
    refine lv_iconst (v := 0) hx hb dX7_readsWorth_58 (by decide) ?_
    refine lv_istore_n (lv' := [(2, .int 0), (1, .int (-1)), (0, .ref h)]) hx hb dX7_readsWorth_59 rfl hl (by decide) rfl (fun ls hl => ?_)
    refine lv_iconst (v := 0) hx hb dX7_readsWorth_60 (by decide) ?_
    refine lv_istore_n (lv' := [(3, .int 0), (2, .int 0), (1, .int (-1)), (0, .ref h)]) hx hb dX7_readsWorth_61 rfl hl (by decide) rfl (fun ls hl => ?_)
    refine lv_aload_n hx hb dX7_readsWorth_62 rfl (lv_at hl 3 rfl) ?_
    refine t_get (ci := 7) (v := .int w0) hB hT (ro_ci r_h rfl) rfl 37 (by decide) k_782 kw0 dX7_readsWorth_63 ?_
    refine lv_if_ne (tgt := 125) hx hb dX7_readsWorth_66 (by decide) (fun c_106 => ?_) (fun c_106 => ?_)
    · have c_106' : w0.toInt ≠ 0 := i_ne c_106 rfl (by decide)
      refine lv_aload_n hx hb dX7_readsWorth_125 rfl (lv_at hl 3 rfl) ?_
      refine lv_aload_n hx hb dX7_readsWorth_126 rfl (lv_at hl 3 rfl) ?_
      refine t_get (ci := 7) (v := .int w0) hB hT (ro_ci r_h rfl) rfl 37 (by decide) k_782 kw0 dX7_readsWorth_127 ?_
      refine lv_if_ne (tgt := 137) hx hb dX7_readsWorth_130 (by decide) (fun c_107 => ?_) (fun c_107 => ?_)
      · have c_107' : w0.toInt ≠ 0 := i_ne c_107 rfl (by decide)
        refine lv_iconst (v := 1) hx hb dX7_readsWorth_137 (by decide) ?_
        refine lv_goto (tgt := 142) hx hb dX7_readsWorth_138 (by decide) ?_
        refine t_put0 (ci := 7) (v := .int 1) hB hT (ro_ci r_h rfl) (ro_n0 r_h (by decide)) rfl 37 (by decide) k_782 (Or.inl rfl) rfl rfl dX7_readsWorth_142 (fun H locs hT => ?_)
        have hI : Inv (sF g h 37 (.int 1)) := hI.sF (p_8_37 r_h (⟨_, rfl, by decide, by decide⟩))
        have hM : Sm md_m_readsWorth g (sF g h 37 (.int 1)) := hM.tr hE (Sm_sF (by rw [r_h]; rfl))
        have hE : Ex g (sF g h 37 (.int 1)) := hE
        have hc : (sF g h 37 (.int 1)).2.2.2.1 t = ct := hc
        refine lv_iload_n hx hb dX7_readsWorth_145 rfl (lv_at hl 0 rfl) ?_
        have q0_ : (0 : Int32).toInt = 0 := (by decide)
        have q1_ : (1 : Int32).toInt = 1 := (by decide)
        exact t_iret hB hr hT (Nat.le_of_ble_eq_true rfl) (Nat.le_of_ble_eq_true rfl) dX7_readsWorth_146 ⟨0, s0, 1, rfl, hI, hE, hM, ⟨by decide, by decide⟩, (Or.inl ⟨by omega, by omega, by omega, by omega⟩), (sF_k ks0 (by decide)), sF_eq⟩
      · have c_107' : w0.toInt = 0 := i_eq c_107 rfl (by decide)
        exact absurd c_107' (by omega)
    · have c_106' : w0.toInt = 0 := i_eq c_106 rfl (by decide)
      exact absurd c_106' (by omega)
