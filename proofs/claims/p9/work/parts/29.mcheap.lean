theorem k_48 : Cond.selects RX7 yX7_worstOf yX7_worstOf ∈ tb := mt 48 (by decide +kernel) rfl
theorem k_54 : Cond.selects RX7 yX7_reached yX7_reached ∈ tb := mt 54 (by decide +kernel) rfl
theorem k_55 : Cond.selects RX7 yX7_spread yX7_spread ∈ tb := mt 55 (by decide +kernel) rfl
theorem k_810 : Cond.fieldLink RX7 161 "TwiceOnceModel" "keptHold" "[I" ∈ tb := mt 810 (by decide +kernel) rfl
theorem k_811 : Cond.fieldLink RX7 164 "TwiceOnceModel" "keptMends" "[I" ∈ tb := mt 811 (by decide +kernel) rfl
theorem k_1120 : Cond.methodLink RX7 311 yX7_worstOf ∈ tb := mt 1120 (by decide +kernel) rfl
theorem k_1122 : Cond.instanceMethod yX7_worstOf ∈ tb := mt 1122 (by decide +kernel) rfl
set_option maxRecDepth 20000 in
theorem k_1123 : Cond.code yX7_worstOf cX7_worstOf 4 (some .int) ∈ tb := mt 1123 rfl rfl
theorem k_1163 : Cond.methodLink RX7 331 yX7_reached ∈ tb := mt 1163 (by decide +kernel) rfl
theorem k_1165 : Cond.instanceMethod yX7_reached ∈ tb := mt 1165 (by decide +kernel) rfl
set_option maxRecDepth 20000 in
theorem k_1166 : Cond.code yX7_reached cX7_reached 4 (some .int) ∈ tb := mt 1166 rfl rfl
theorem k_1167 : Cond.methodLink RX7 334 yX7_bits ∈ tb := mt 1167 (by decide +kernel) rfl
theorem k_1168 : Cond.static yX7_bits ∈ tb := mt 1168 (by decide +kernel) rfl
set_option maxRecDepth 20000 in
theorem k_1169 : Cond.code yX7_bits cX7_bits 3 (some .int) ∈ tb := mt 1169 rfl rfl
theorem k_1170 : Cond.methodLink RX7 337 yX7_spread ∈ tb := mt 1170 (by decide +kernel) rfl
theorem k_1172 : Cond.instanceMethod yX7_spread ∈ tb := mt 1172 (by decide +kernel) rfl
set_option maxRecDepth 20000 in
theorem k_1173 : Cond.code yX7_spread cX7_spread 6 (some .int) ∈ tb := mt 1173 rfl rfl
theorem dX7_enough_84 : decode cX7_enough 84 = .ok (.iload_n 2, 1) := by decide +kernel
theorem dX7_enough_85 : decode cX7_enough 85 = .ok (.bipush 6, 2) := by decide +kernel
theorem dX7_enough_87 : decode cX7_enough 87 = .ok (.if_icmp .ge 21, 3) := by decide +kernel
theorem dX7_enough_108 : decode cX7_enough 108 = .ok (.iload_n 1, 1) := by decide +kernel
theorem dX7_enough_109 : decode cX7_enough 109 = .ok (.ireturn, 1) := by decide +kernel
theorem dX7_enough_90 : decode cX7_enough 90 = .ok (.aload_n 0, 1) := by decide +kernel
theorem dX7_enough_91 : decode cX7_enough 91 = .ok (.getfield 25, 3) := by decide +kernel
theorem dX7_enough_94 : decode cX7_enough 94 = .ok (.iload_n 2, 1) := by decide +kernel
theorem dX7_enough_95 : decode cX7_enough 95 = .ok (.aload_n 0, 1) := by decide +kernel
theorem dX7_enough_96 : decode cX7_enough 96 = .ok (.getfield 161, 3) := by decide +kernel
theorem dX7_enough_99 : decode cX7_enough 99 = .ok (.iload_n 2, 1) := by decide +kernel
theorem dX7_enough_100 : decode cX7_enough 100 = .ok (.iaload, 1) := by decide +kernel
theorem dX7_enough_101 : decode cX7_enough 101 = .ok (.iastore, 1) := by decide +kernel
theorem dX7_enough_102 : decode cX7_enough 102 = .ok (.iinc 2 1, 3) := by decide +kernel
theorem dX7_enough_105 : decode cX7_enough 105 = .ok (.goto (-21), 3) := by decide +kernel
theorem dX7_enough_43 : decode cX7_enough 43 = .ok (.iload_n 3, 1) := by decide +kernel
theorem dX7_enough_44 : decode cX7_enough 44 = .ok (.bipush 6, 2) := by decide +kernel
theorem dX7_enough_46 : decode cX7_enough 46 = .ok (.if_icmp .ge 16, 3) := by decide +kernel
theorem dX7_enough_49 : decode cX7_enough 49 = .ok (.aload_n 0, 1) := by decide +kernel
theorem dX7_enough_50 : decode cX7_enough 50 = .ok (.getfield 25, 3) := by decide +kernel
theorem dX7_enough_53 : decode cX7_enough 53 = .ok (.iload_n 3, 1) := by decide +kernel
theorem dX7_enough_54 : decode cX7_enough 54 = .ok (.iload_n 2, 1) := by decide +kernel
theorem dX7_enough_55 : decode cX7_enough 55 = .ok (.iastore, 1) := by decide +kernel
theorem dX7_enough_56 : decode cX7_enough 56 = .ok (.iinc 3 1, 3) := by decide +kernel
theorem dX7_enough_59 : decode cX7_enough 59 = .ok (.goto (-16), 3) := by decide +kernel
theorem dX7_enough_30 : decode cX7_enough 30 = .ok (.iload_n 2, 1) := by decide +kernel
theorem dX7_enough_31 : decode cX7_enough 31 = .ok (.bipush 20, 2) := by decide +kernel
theorem dX7_enough_33 : decode cX7_enough 33 = .ok (.if_icmp .gt 49, 3) := by decide +kernel
theorem dX7_enough_82 : decode cX7_enough 82 = .ok (.iconst 0, 1) := by decide +kernel
theorem dX7_enough_83 : decode cX7_enough 83 = .ok (.istore_n 2, 1) := by decide +kernel
theorem dX7_enough_36 : decode cX7_enough 36 = .ok (.iload_n 1, 1) := by decide +kernel
theorem dX7_enough_37 : decode cX7_enough 37 = .ok (.iconst (-1), 1) := by decide +kernel
theorem dX7_enough_38 : decode cX7_enough 38 = .ok (.if_icmp .ne 44, 3) := by decide +kernel
theorem dX7_enough_41 : decode cX7_enough 41 = .ok (.iconst 0, 1) := by decide +kernel
theorem dX7_enough_42 : decode cX7_enough 42 = .ok (.istore_n 3, 1) := by decide +kernel
theorem dX7_enough_62 : decode cX7_enough 62 = .ok (.aload_n 0, 1) := by decide +kernel
theorem dX7_enough_63 : decode cX7_enough 63 = .ok (.invokevirtual 311, 3) := by decide +kernel
theorem dX7_enough_66 : decode cX7_enough 66 = .ok (.iconst (-1), 1) := by decide +kernel
theorem dX7_enough_67 : decode cX7_enough 67 = .ok (.if_icmp .ne 7, 3) := by decide +kernel
theorem dX7_enough_74 : decode cX7_enough 74 = .ok (.iconst (-1), 1) := by decide +kernel
theorem dX7_enough_75 : decode cX7_enough 75 = .ok (.istore_n 1, 1) := by decide +kernel
theorem dX7_enough_76 : decode cX7_enough 76 = .ok (.iinc 2 1, 3) := by decide +kernel
theorem dX7_enough_79 : decode cX7_enough 79 = .ok (.goto (-49), 3) := by decide +kernel
theorem dX7_enough_70 : decode cX7_enough 70 = .ok (.iload_n 2, 1) := by decide +kernel
theorem dX7_enough_71 : decode cX7_enough 71 = .ok (.goto 4, 3) := by decide +kernel
theorem dX7_enough_2 : decode cX7_enough 2 = .ok (.iload_n 1, 1) := by decide +kernel
theorem dX7_enough_3 : decode cX7_enough 3 = .ok (.bipush 6, 2) := by decide +kernel
theorem dX7_enough_5 : decode cX7_enough 5 = .ok (.if_icmp .ge 21, 3) := by decide +kernel
theorem dX7_enough_26 : decode cX7_enough 26 = .ok (.iconst (-1), 1) := by decide +kernel
theorem dX7_enough_27 : decode cX7_enough 27 = .ok (.istore_n 1, 1) := by decide +kernel
theorem dX7_enough_28 : decode cX7_enough 28 = .ok (.iconst 0, 1) := by decide +kernel
theorem dX7_enough_29 : decode cX7_enough 29 = .ok (.istore_n 2, 1) := by decide +kernel
theorem dX7_enough_8 : decode cX7_enough 8 = .ok (.aload_n 0, 1) := by decide +kernel
theorem dX7_enough_9 : decode cX7_enough 9 = .ok (.getfield 161, 3) := by decide +kernel
theorem dX7_enough_12 : decode cX7_enough 12 = .ok (.iload_n 1, 1) := by decide +kernel
theorem dX7_enough_13 : decode cX7_enough 13 = .ok (.aload_n 0, 1) := by decide +kernel
theorem dX7_enough_14 : decode cX7_enough 14 = .ok (.getfield 25, 3) := by decide +kernel
theorem dX7_enough_17 : decode cX7_enough 17 = .ok (.iload_n 1, 1) := by decide +kernel
theorem dX7_enough_18 : decode cX7_enough 18 = .ok (.iaload, 1) := by decide +kernel
theorem dX7_enough_19 : decode cX7_enough 19 = .ok (.iastore, 1) := by decide +kernel
theorem dX7_enough_20 : decode cX7_enough 20 = .ok (.iinc 1 1, 3) := by decide +kernel
theorem dX7_enough_23 : decode cX7_enough 23 = .ok (.goto (-21), 3) := by decide +kernel
theorem dX7_enough_0 : decode cX7_enough 0 = .ok (.iconst 0, 1) := by decide +kernel
theorem dX7_enough_1 : decode cX7_enough 1 = .ok (.istore_n 1, 1) := by decide +kernel
theorem dX7_reached_44 : decode cX7_reached 44 = .ok (.iload_n 3, 1) := by decide +kernel
theorem dX7_reached_45 : decode cX7_reached 45 = .ok (.bipush 8, 2) := by decide +kernel
theorem dX7_reached_47 : decode cX7_reached 47 = .ok (.iload_n 2, 1) := by decide +kernel
theorem dX7_reached_48 : decode cX7_reached 48 = .ok (.imul, 1) := by decide +kernel
theorem dX7_reached_49 : decode cX7_reached 49 = .ok (.aload_n 0, 1) := by decide +kernel
theorem dX7_reached_50 : decode cX7_reached 50 = .ok (.getfield 7, 3) := by decide +kernel
theorem dX7_reached_53 : decode cX7_reached 53 = .ok (.iload_n 2, 1) := by decide +kernel
theorem dX7_reached_54 : decode cX7_reached 54 = .ok (.iaload, 1) := by decide +kernel
theorem dX7_reached_55 : decode cX7_reached 55 = .ok (.iadd, 1) := by decide +kernel
theorem dX7_reached_56 : decode cX7_reached 56 = .ok (.if_icmp .ge 42, 3) := by decide +kernel
theorem dX7_reached_59 : decode cX7_reached 59 = .ok (.iload_n 1, 1) := by decide +kernel
theorem dX7_reached_60 : decode cX7_reached 60 = .ok (.iload_n 2, 1) := by decide +kernel
theorem dX7_reached_61 : decode cX7_reached 61 = .ok (.ishr, 1) := by decide +kernel
theorem dX7_reached_62 : decode cX7_reached 62 = .ok (.iconst 1, 1) := by decide +kernel
theorem dX7_reached_63 : decode cX7_reached 63 = .ok (.iand, 1) := by decide +kernel
theorem dX7_reached_64 : decode cX7_reached 64 = .ok (.iconst 1, 1) := by decide +kernel
theorem dX7_reached_65 : decode cX7_reached 65 = .ok (.if_icmp .ne 33, 3) := by decide +kernel
theorem dX7_reached_68 : decode cX7_reached 68 = .ok (.iload_n 1, 1) := by decide +kernel
theorem dX7_reached_69 : decode cX7_reached 69 = .ok (.aload_n 0, 1) := by decide +kernel
theorem dX7_reached_70 : decode cX7_reached 70 = .ok (.iload_n 2, 1) := by decide +kernel
theorem dX7_reached_71 : decode cX7_reached 71 = .ok (.iload_n 3, 1) := by decide +kernel
theorem dX7_reached_72 : decode cX7_reached 72 = .ok (.invokevirtual 220, 3) := by decide +kernel
theorem dX7_reached_75 : decode cX7_reached 75 = .ok (.ifCond .eq 14, 3) := by decide +kernel
theorem dX7_reached_78 : decode cX7_reached 78 = .ok (.iconst 1, 1) := by decide +kernel
theorem dX7_reached_79 : decode cX7_reached 79 = .ok (.aload_n 0, 1) := by decide +kernel
theorem dX7_reached_80 : decode cX7_reached 80 = .ok (.getfield 16, 3) := by decide +kernel
theorem dX7_reached_83 : decode cX7_reached 83 = .ok (.iload_n 3, 1) := by decide +kernel
theorem dX7_reached_84 : decode cX7_reached 84 = .ok (.iaload, 1) := by decide +kernel
theorem dX7_reached_85 : decode cX7_reached 85 = .ok (.ishl, 1) := by decide +kernel
theorem dX7_reached_86 : decode cX7_reached 86 = .ok (.goto 4, 3) := by decide +kernel
theorem dX7_reached_90 : decode cX7_reached 90 = .ok (.ior, 1) := by decide +kernel
theorem dX7_reached_91 : decode cX7_reached 91 = .ok (.istore_n 1, 1) := by decide +kernel
theorem dX7_reached_92 : decode cX7_reached 92 = .ok (.iinc 3 1, 3) := by decide +kernel
theorem dX7_reached_95 : decode cX7_reached 95 = .ok (.goto (-51), 3) := by decide +kernel
theorem dX7_reached_89 : decode cX7_reached 89 = .ok (.iconst 0, 1) := by decide +kernel
theorem dX7_reached_31 : decode cX7_reached 31 = .ok (.iload_n 2, 1) := by decide +kernel
theorem dX7_reached_32 : decode cX7_reached 32 = .ok (.aload_n 0, 1) := by decide +kernel
theorem dX7_reached_33 : decode cX7_reached 33 = .ok (.getfield 167, 3) := by decide +kernel
theorem dX7_reached_36 : decode cX7_reached 36 = .ok (.if_icmp .ge 68, 3) := by decide +kernel
theorem dX7_reached_104 : decode cX7_reached 104 = .ok (.iload_n 1, 1) := by decide +kernel
theorem dX7_reached_105 : decode cX7_reached 105 = .ok (.ireturn, 1) := by decide +kernel
theorem dX7_reached_39 : decode cX7_reached 39 = .ok (.bipush 8, 2) := by decide +kernel
theorem dX7_reached_41 : decode cX7_reached 41 = .ok (.iload_n 2, 1) := by decide +kernel
theorem dX7_reached_42 : decode cX7_reached 42 = .ok (.imul, 1) := by decide +kernel
theorem dX7_reached_43 : decode cX7_reached 43 = .ok (.istore_n 3, 1) := by decide +kernel
theorem dX7_reached_98 : decode cX7_reached 98 = .ok (.iinc 2 1, 3) := by decide +kernel
theorem dX7_reached_101 : decode cX7_reached 101 = .ok (.goto (-70), 3) := by decide +kernel
theorem dX7_reached_4 : decode cX7_reached 4 = .ok (.iload_n 2, 1) := by decide +kernel
theorem dX7_reached_5 : decode cX7_reached 5 = .ok (.aload_n 0, 1) := by decide +kernel
theorem dX7_reached_6 : decode cX7_reached 6 = .ok (.getfield 290, 3) := by decide +kernel
theorem dX7_reached_9 : decode cX7_reached 9 = .ok (.if_icmp .ge 20, 3) := by decide +kernel
theorem dX7_reached_29 : decode cX7_reached 29 = .ok (.iconst 0, 1) := by decide +kernel
theorem dX7_reached_30 : decode cX7_reached 30 = .ok (.istore_n 2, 1) := by decide +kernel
theorem dX7_reached_12 : decode cX7_reached 12 = .ok (.iload_n 1, 1) := by decide +kernel
theorem dX7_reached_13 : decode cX7_reached 13 = .ok (.iconst 1, 1) := by decide +kernel
theorem dX7_reached_14 : decode cX7_reached 14 = .ok (.aload_n 0, 1) := by decide +kernel
theorem dX7_reached_15 : decode cX7_reached 15 = .ok (.getfield 86, 3) := by decide +kernel
theorem dX7_reached_18 : decode cX7_reached 18 = .ok (.iload_n 2, 1) := by decide +kernel
theorem dX7_reached_19 : decode cX7_reached 19 = .ok (.iaload, 1) := by decide +kernel
theorem dX7_reached_20 : decode cX7_reached 20 = .ok (.ishl, 1) := by decide +kernel
theorem dX7_reached_21 : decode cX7_reached 21 = .ok (.ior, 1) := by decide +kernel
theorem dX7_reached_22 : decode cX7_reached 22 = .ok (.istore_n 1, 1) := by decide +kernel
theorem dX7_reached_23 : decode cX7_reached 23 = .ok (.iinc 2 1, 3) := by decide +kernel
theorem dX7_reached_26 : decode cX7_reached 26 = .ok (.goto (-22), 3) := by decide +kernel
theorem dX7_reached_0 : decode cX7_reached 0 = .ok (.iconst 0, 1) := by decide +kernel
theorem dX7_reached_1 : decode cX7_reached 1 = .ok (.istore_n 1, 1) := by decide +kernel
theorem dX7_reached_2 : decode cX7_reached 2 = .ok (.iconst 0, 1) := by decide +kernel
theorem dX7_reached_3 : decode cX7_reached 3 = .ok (.istore_n 2, 1) := by decide +kernel
theorem dX7_bits_4 : decode cX7_bits 4 = .ok (.iload_n 2, 1) := by decide +kernel
theorem dX7_bits_5 : decode cX7_bits 5 = .ok (.bipush 6, 2) := by decide +kernel
theorem dX7_bits_7 : decode cX7_bits 7 = .ok (.if_icmp .ge 17, 3) := by decide +kernel
theorem dX7_bits_24 : decode cX7_bits 24 = .ok (.iload_n 1, 1) := by decide +kernel
theorem dX7_bits_25 : decode cX7_bits 25 = .ok (.ireturn, 1) := by decide +kernel
theorem dX7_bits_10 : decode cX7_bits 10 = .ok (.iload_n 1, 1) := by decide +kernel
theorem dX7_bits_11 : decode cX7_bits 11 = .ok (.iload_n 0, 1) := by decide +kernel
theorem dX7_bits_12 : decode cX7_bits 12 = .ok (.iload_n 2, 1) := by decide +kernel
theorem dX7_bits_13 : decode cX7_bits 13 = .ok (.ishr, 1) := by decide +kernel
theorem dX7_bits_14 : decode cX7_bits 14 = .ok (.iconst 1, 1) := by decide +kernel
theorem dX7_bits_15 : decode cX7_bits 15 = .ok (.iand, 1) := by decide +kernel
theorem dX7_bits_16 : decode cX7_bits 16 = .ok (.iadd, 1) := by decide +kernel
theorem dX7_bits_17 : decode cX7_bits 17 = .ok (.istore_n 1, 1) := by decide +kernel
theorem dX7_bits_18 : decode cX7_bits 18 = .ok (.iinc 2 1, 3) := by decide +kernel
theorem dX7_bits_21 : decode cX7_bits 21 = .ok (.goto (-17), 3) := by decide +kernel
theorem dX7_bits_0 : decode cX7_bits 0 = .ok (.iconst 0, 1) := by decide +kernel
theorem dX7_bits_1 : decode cX7_bits 1 = .ok (.istore_n 1, 1) := by decide +kernel
theorem dX7_bits_2 : decode cX7_bits 2 = .ok (.iconst 0, 1) := by decide +kernel
theorem dX7_bits_3 : decode cX7_bits 3 = .ok (.istore_n 2, 1) := by decide +kernel
theorem dX7_spread_8 : decode cX7_spread 8 = .ok (.iload 5, 2) := by decide +kernel
theorem dX7_spread_10 : decode cX7_spread 10 = .ok (.bipush 6, 2) := by decide +kernel
theorem dX7_spread_12 : decode cX7_spread 12 = .ok (.if_icmp .ge 38, 3) := by decide +kernel
theorem dX7_spread_50 : decode cX7_spread 50 = .ok (.iload 4, 2) := by decide +kernel
theorem dX7_spread_52 : decode cX7_spread 52 = .ok (.ireturn, 1) := by decide +kernel
theorem dX7_spread_15 : decode cX7_spread 15 = .ok (.iload_n 2, 1) := by decide +kernel
theorem dX7_spread_16 : decode cX7_spread 16 = .ok (.iload 5, 2) := by decide +kernel
theorem dX7_spread_18 : decode cX7_spread 18 = .ok (.ishr, 1) := by decide +kernel
theorem dX7_spread_19 : decode cX7_spread 19 = .ok (.iconst 1, 1) := by decide +kernel
theorem dX7_spread_20 : decode cX7_spread 20 = .ok (.iand, 1) := by decide +kernel
theorem dX7_spread_21 : decode cX7_spread 21 = .ok (.iconst 1, 1) := by decide +kernel
theorem dX7_spread_22 : decode cX7_spread 22 = .ok (.if_icmp .ne 22, 3) := by decide +kernel
theorem dX7_spread_44 : decode cX7_spread 44 = .ok (.iinc 5 1, 3) := by decide +kernel
theorem dX7_spread_47 : decode cX7_spread 47 = .ok (.goto (-39), 3) := by decide +kernel
theorem dX7_spread_25 : decode cX7_spread 25 = .ok (.iload 4, 2) := by decide +kernel
theorem dX7_spread_27 : decode cX7_spread 27 = .ok (.iload_n 3, 1) := by decide +kernel
theorem dX7_spread_28 : decode cX7_spread 28 = .ok (.bipush 16, 2) := by decide +kernel
theorem dX7_spread_30 : decode cX7_spread 30 = .ok (.irem, 1) := by decide +kernel
theorem dX7_spread_31 : decode cX7_spread 31 = .ok (.iconst 4, 1) := by decide +kernel
theorem dX7_spread_32 : decode cX7_spread 32 = .ok (.iload 5, 2) := by decide +kernel
theorem dX7_spread_34 : decode cX7_spread 34 = .ok (.imul, 1) := by decide +kernel
theorem dX7_spread_35 : decode cX7_spread 35 = .ok (.ishl, 1) := by decide +kernel
theorem dX7_spread_36 : decode cX7_spread 36 = .ok (.ior, 1) := by decide +kernel
theorem dX7_spread_37 : decode cX7_spread 37 = .ok (.istore 4, 2) := by decide +kernel
theorem dX7_spread_39 : decode cX7_spread 39 = .ok (.iload_n 3, 1) := by decide +kernel
theorem dX7_spread_40 : decode cX7_spread 40 = .ok (.bipush 16, 2) := by decide +kernel
theorem dX7_spread_42 : decode cX7_spread 42 = .ok (.idiv, 1) := by decide +kernel
theorem dX7_spread_43 : decode cX7_spread 43 = .ok (.istore_n 3, 1) := by decide +kernel
theorem dX7_spread_0 : decode cX7_spread 0 = .ok (.iload_n 1, 1) := by decide +kernel
theorem dX7_spread_1 : decode cX7_spread 1 = .ok (.istore_n 3, 1) := by decide +kernel
theorem dX7_spread_2 : decode cX7_spread 2 = .ok (.iconst 0, 1) := by decide +kernel
theorem dX7_spread_3 : decode cX7_spread 3 = .ok (.istore 4, 2) := by decide +kernel
theorem dX7_spread_5 : decode cX7_spread 5 = .ok (.iconst 0, 1) := by decide +kernel
theorem dX7_spread_6 : decode cX7_spread 6 = .ok (.istore 5, 2) := by decide +kernel
theorem dX7_cheapest_226 : decode cX7_cheapest 226 = .ok (.iload 6, 2) := by decide +kernel
theorem dX7_cheapest_228 : decode cX7_cheapest 228 = .ok (.bipush 6, 2) := by decide +kernel
theorem dX7_cheapest_230 : decode cX7_cheapest 230 = .ok (.if_icmp .ge 23, 3) := by decide +kernel
theorem dX7_cheapest_253 : decode cX7_cheapest 253 = .ok (.iload 4, 2) := by decide +kernel
theorem dX7_cheapest_255 : decode cX7_cheapest 255 = .ok (.iconst (-1), 1) := by decide +kernel
theorem dX7_cheapest_256 : decode cX7_cheapest 256 = .ok (.if_icmp .ne 7, 3) := by decide +kernel
theorem dX7_cheapest_263 : decode cX7_cheapest 263 = .ok (.iload_n 1, 1) := by decide +kernel
theorem dX7_cheapest_264 : decode cX7_cheapest 264 = .ok (.ifCond .ne 8, 3) := by decide +kernel
theorem dX7_cheapest_272 : decode cX7_cheapest 272 = .ok (.iload 4, 2) := by decide +kernel
theorem dX7_cheapest_274 : decode cX7_cheapest 274 = .ok (.ireturn, 1) := by decide +kernel
theorem dX7_cheapest_267 : decode cX7_cheapest 267 = .ok (.iload 5, 2) := by decide +kernel
theorem dX7_cheapest_269 : decode cX7_cheapest 269 = .ok (.goto 5, 3) := by decide +kernel
theorem dX7_cheapest_259 : decode cX7_cheapest 259 = .ok (.iconst (-1), 1) := by decide +kernel
theorem dX7_cheapest_260 : decode cX7_cheapest 260 = .ok (.goto 14, 3) := by decide +kernel
theorem dX7_cheapest_233 : decode cX7_cheapest 233 = .ok (.aload_n 0, 1) := by decide +kernel
theorem dX7_cheapest_234 : decode cX7_cheapest 234 = .ok (.getfield 22, 3) := by decide +kernel
theorem dX7_cheapest_237 : decode cX7_cheapest 237 = .ok (.iload 6, 2) := by decide +kernel
theorem dX7_cheapest_239 : decode cX7_cheapest 239 = .ok (.aload_n 0, 1) := by decide +kernel
theorem dX7_cheapest_240 : decode cX7_cheapest 240 = .ok (.getfield 164, 3) := by decide +kernel
theorem dX7_cheapest_243 : decode cX7_cheapest 243 = .ok (.iload 6, 2) := by decide +kernel
theorem dX7_cheapest_245 : decode cX7_cheapest 245 = .ok (.iaload, 1) := by decide +kernel
theorem dX7_cheapest_246 : decode cX7_cheapest 246 = .ok (.iastore, 1) := by decide +kernel
theorem dX7_cheapest_247 : decode cX7_cheapest 247 = .ok (.iinc 6 1, 3) := by decide +kernel
theorem dX7_cheapest_250 : decode cX7_cheapest 250 = .ok (.goto (-24), 3) := by decide +kernel
theorem dX7_cheapest_105 : decode cX7_cheapest 105 = .ok (.iload 9, 2) := by decide +kernel
theorem dX7_cheapest_107 : decode cX7_cheapest 107 = .ok (.bipush 24, 2) := by decide +kernel
theorem dX7_cheapest_109 : decode cX7_cheapest 109 = .ok (.if_icmp .ge 38, 3) := by decide +kernel
theorem dX7_cheapest_112 : decode cX7_cheapest 112 = .ok (.iload 8, 2) := by decide +kernel
theorem dX7_cheapest_114 : decode cX7_cheapest 114 = .ok (.iload 7, 2) := by decide +kernel
theorem dX7_cheapest_116 : decode cX7_cheapest 116 = .ok (.iload 9, 2) := by decide +kernel
theorem dX7_cheapest_118 : decode cX7_cheapest 118 = .ok (.ishr, 1) := by decide +kernel
theorem dX7_cheapest_119 : decode cX7_cheapest 119 = .ok (.iconst 1, 1) := by decide +kernel
theorem dX7_cheapest_120 : decode cX7_cheapest 120 = .ok (.iand, 1) := by decide +kernel
theorem dX7_cheapest_121 : decode cX7_cheapest 121 = .ok (.iconst 1, 1) := by decide +kernel
theorem dX7_cheapest_122 : decode cX7_cheapest 122 = .ok (.if_icmp .ne 15, 3) := by decide +kernel
theorem dX7_cheapest_137 : decode cX7_cheapest 137 = .ok (.iconst 0, 1) := by decide +kernel
theorem dX7_cheapest_138 : decode cX7_cheapest 138 = .ok (.iadd, 1) := by decide +kernel
theorem dX7_cheapest_139 : decode cX7_cheapest 139 = .ok (.istore 8, 2) := by decide +kernel
theorem dX7_cheapest_141 : decode cX7_cheapest 141 = .ok (.iinc 9 1, 3) := by decide +kernel
theorem dX7_cheapest_144 : decode cX7_cheapest 144 = .ok (.goto (-39), 3) := by decide +kernel
theorem dX7_cheapest_125 : decode cX7_cheapest 125 = .ok (.aload_n 0, 1) := by decide +kernel
theorem dX7_cheapest_126 : decode cX7_cheapest 126 = .ok (.getfield 95, 3) := by decide +kernel
theorem dX7_cheapest_129 : decode cX7_cheapest 129 = .ok (.iload 9, 2) := by decide +kernel
theorem dX7_cheapest_131 : decode cX7_cheapest 131 = .ok (.iconst 4, 1) := by decide +kernel
theorem dX7_cheapest_132 : decode cX7_cheapest 132 = .ok (.irem, 1) := by decide +kernel
theorem dX7_cheapest_133 : decode cX7_cheapest 133 = .ok (.iaload, 1) := by decide +kernel
theorem dX7_cheapest_134 : decode cX7_cheapest 134 = .ok (.goto 4, 3) := by decide +kernel
theorem dX7_cheapest_163 : decode cX7_cheapest 163 = .ok (.iload 9, 2) := by decide +kernel
theorem dX7_cheapest_165 : decode cX7_cheapest 165 = .ok (.bipush 6, 2) := by decide +kernel
theorem dX7_cheapest_167 : decode cX7_cheapest 167 = .ok (.if_icmp .ge 34, 3) := by decide +kernel
theorem dX7_cheapest_170 : decode cX7_cheapest 170 = .ok (.aload_n 0, 1) := by decide +kernel
theorem dX7_cheapest_171 : decode cX7_cheapest 171 = .ok (.getfield 22, 3) := by decide +kernel
theorem dX7_cheapest_174 : decode cX7_cheapest 174 = .ok (.iload 9, 2) := by decide +kernel
theorem dX7_cheapest_176 : decode cX7_cheapest 176 = .ok (.aload_n 0, 1) := by decide +kernel
theorem dX7_cheapest_177 : decode cX7_cheapest 177 = .ok (.getfield 164, 3) := by decide +kernel
theorem dX7_cheapest_180 : decode cX7_cheapest 180 = .ok (.iload 9, 2) := by decide +kernel
theorem dX7_cheapest_182 : decode cX7_cheapest 182 = .ok (.iaload, 1) := by decide +kernel
theorem dX7_cheapest_183 : decode cX7_cheapest 183 = .ok (.iload 7, 2) := by decide +kernel
theorem dX7_cheapest_185 : decode cX7_cheapest 185 = .ok (.iconst 4, 1) := by decide +kernel
theorem dX7_cheapest_186 : decode cX7_cheapest 186 = .ok (.iload 9, 2) := by decide +kernel
theorem dX7_cheapest_188 : decode cX7_cheapest 188 = .ok (.imul, 1) := by decide +kernel
theorem dX7_cheapest_189 : decode cX7_cheapest 189 = .ok (.ishr, 1) := by decide +kernel
theorem dX7_cheapest_190 : decode cX7_cheapest 190 = .ok (.bipush 15, 2) := by decide +kernel
theorem dX7_cheapest_192 : decode cX7_cheapest 192 = .ok (.iand, 1) := by decide +kernel
theorem dX7_cheapest_193 : decode cX7_cheapest 193 = .ok (.ior, 1) := by decide +kernel
theorem dX7_cheapest_194 : decode cX7_cheapest 194 = .ok (.iastore, 1) := by decide +kernel
theorem dX7_cheapest_195 : decode cX7_cheapest 195 = .ok (.iinc 9 1, 3) := by decide +kernel
theorem dX7_cheapest_198 : decode cX7_cheapest 198 = .ok (.goto (-35), 3) := by decide +kernel
theorem dX7_cheapest_79 : decode cX7_cheapest 79 = .ok (.iload 6, 2) := by decide +kernel
theorem dX7_cheapest_81 : decode cX7_cheapest 81 = .ok (.bipush 16, 2) := by decide +kernel
theorem dX7_cheapest_83 : decode cX7_cheapest 83 = .ok (.iload_n 3, 1) := by decide +kernel
theorem dX7_cheapest_84 : decode cX7_cheapest 84 = .ok (.invokestatic 314, 3) := by decide +kernel
theorem dX7_cheapest_87 : decode cX7_cheapest 87 = .ok (.if_icmp .ge 136, 3) := by decide +kernel
theorem dX7_cheapest_223 : decode cX7_cheapest 223 = .ok (.iconst 0, 1) := by decide +kernel
theorem dX7_cheapest_224 : decode cX7_cheapest 224 = .ok (.istore 6, 2) := by decide +kernel
theorem dX7_cheapest_90 : decode cX7_cheapest 90 = .ok (.aload_n 0, 1) := by decide +kernel
theorem dX7_cheapest_91 : decode cX7_cheapest 91 = .ok (.iload 6, 2) := by decide +kernel
theorem dX7_cheapest_93 : decode cX7_cheapest 93 = .ok (.iload_n 2, 1) := by decide +kernel
theorem dX7_cheapest_94 : decode cX7_cheapest 94 = .ok (.invokevirtual 337, 3) := by decide +kernel
theorem dX7_cheapest_97 : decode cX7_cheapest 97 = .ok (.istore 7, 2) := by decide +kernel
theorem dX7_cheapest_99 : decode cX7_cheapest 99 = .ok (.iconst 0, 1) := by decide +kernel
theorem dX7_cheapest_100 : decode cX7_cheapest 100 = .ok (.istore 8, 2) := by decide +kernel
theorem dX7_cheapest_102 : decode cX7_cheapest 102 = .ok (.iconst 0, 1) := by decide +kernel
theorem dX7_cheapest_103 : decode cX7_cheapest 103 = .ok (.istore 9, 2) := by decide +kernel
theorem dX7_cheapest_147 : decode cX7_cheapest 147 = .ok (.iload 4, 2) := by decide +kernel
theorem dX7_cheapest_149 : decode cX7_cheapest 149 = .ok (.iconst (-1), 1) := by decide +kernel
theorem dX7_cheapest_150 : decode cX7_cheapest 150 = .ok (.if_icmp .eq 10, 3) := by decide +kernel
theorem dX7_cheapest_160 : decode cX7_cheapest 160 = .ok (.iconst 0, 1) := by decide +kernel
theorem dX7_cheapest_161 : decode cX7_cheapest 161 = .ok (.istore 9, 2) := by decide +kernel
theorem dX7_cheapest_201 : decode cX7_cheapest 201 = .ok (.aload_n 0, 1) := by decide +kernel
theorem dX7_cheapest_202 : decode cX7_cheapest 202 = .ok (.invokevirtual 311, 3) := by decide +kernel
theorem dX7_cheapest_205 : decode cX7_cheapest 205 = .ok (.iconst (-1), 1) := by decide +kernel
theorem dX7_cheapest_206 : decode cX7_cheapest 206 = .ok (.if_icmp .ne 11, 3) := by decide +kernel
theorem dX7_cheapest_217 : decode cX7_cheapest 217 = .ok (.iinc 6 1, 3) := by decide +kernel
theorem dX7_cheapest_220 : decode cX7_cheapest 220 = .ok (.goto (-141), 3) := by decide +kernel
theorem dX7_cheapest_209 : decode cX7_cheapest 209 = .ok (.iload 7, 2) := by decide +kernel
theorem dX7_cheapest_211 : decode cX7_cheapest 211 = .ok (.istore 4, 2) := by decide +kernel
theorem dX7_cheapest_213 : decode cX7_cheapest 213 = .ok (.iload 8, 2) := by decide +kernel
theorem dX7_cheapest_215 : decode cX7_cheapest 215 = .ok (.istore 5, 2) := by decide +kernel
theorem dX7_cheapest_153 : decode cX7_cheapest 153 = .ok (.iload 8, 2) := by decide +kernel
theorem dX7_cheapest_155 : decode cX7_cheapest 155 = .ok (.iload 5, 2) := by decide +kernel
theorem dX7_cheapest_157 : decode cX7_cheapest 157 = .ok (.if_icmp .ge 60, 3) := by decide +kernel
theorem dX7_cheapest_43 : decode cX7_cheapest 43 = .ok (.iload 4, 2) := by decide +kernel
theorem dX7_cheapest_45 : decode cX7_cheapest 45 = .ok (.bipush 6, 2) := by decide +kernel
theorem dX7_cheapest_47 : decode cX7_cheapest 47 = .ok (.if_icmp .ge 23, 3) := by decide +kernel
theorem dX7_cheapest_70 : decode cX7_cheapest 70 = .ok (.iconst (-1), 1) := by decide +kernel
theorem dX7_cheapest_71 : decode cX7_cheapest 71 = .ok (.istore 4, 2) := by decide +kernel
theorem dX7_cheapest_73 : decode cX7_cheapest 73 = .ok (.iconst 0, 1) := by decide +kernel
theorem dX7_cheapest_74 : decode cX7_cheapest 74 = .ok (.istore 5, 2) := by decide +kernel
theorem dX7_cheapest_76 : decode cX7_cheapest 76 = .ok (.iconst 0, 1) := by decide +kernel
theorem dX7_cheapest_77 : decode cX7_cheapest 77 = .ok (.istore 6, 2) := by decide +kernel
theorem dX7_cheapest_50 : decode cX7_cheapest 50 = .ok (.aload_n 0, 1) := by decide +kernel
theorem dX7_cheapest_51 : decode cX7_cheapest 51 = .ok (.getfield 164, 3) := by decide +kernel
theorem dX7_cheapest_54 : decode cX7_cheapest 54 = .ok (.iload 4, 2) := by decide +kernel
theorem dX7_cheapest_56 : decode cX7_cheapest 56 = .ok (.aload_n 0, 1) := by decide +kernel
theorem dX7_cheapest_57 : decode cX7_cheapest 57 = .ok (.getfield 22, 3) := by decide +kernel
theorem dX7_cheapest_60 : decode cX7_cheapest 60 = .ok (.iload 4, 2) := by decide +kernel
theorem dX7_cheapest_62 : decode cX7_cheapest 62 = .ok (.iaload, 1) := by decide +kernel
theorem dX7_cheapest_63 : decode cX7_cheapest 63 = .ok (.iastore, 1) := by decide +kernel
theorem dX7_cheapest_64 : decode cX7_cheapest 64 = .ok (.iinc 4 1, 3) := by decide +kernel
theorem dX7_cheapest_67 : decode cX7_cheapest 67 = .ok (.goto (-24), 3) := by decide +kernel
theorem dX7_cheapest_0 : decode cX7_cheapest 0 = .ok (.iload_n 1, 1) := by decide +kernel
theorem dX7_cheapest_1 : decode cX7_cheapest 1 = .ok (.iconst 0, 1) := by decide +kernel
theorem dX7_cheapest_2 : decode cX7_cheapest 2 = .ok (.iconst 1, 1) := by decide +kernel
theorem dX7_cheapest_3 : decode cX7_cheapest 3 = .ok (.invokestatic 171, 3) := by decide +kernel
theorem dX7_cheapest_6 : decode cX7_cheapest 6 = .ok (.ifCond .ne 5, 3) := by decide +kernel
theorem dX7_cheapest_11 : decode cX7_cheapest 11 = .ok (.aload_n 0, 1) := by decide +kernel
theorem dX7_cheapest_12 : decode cX7_cheapest 12 = .ok (.getfield 290, 3) := by decide +kernel
theorem dX7_cheapest_15 : decode cX7_cheapest 15 = .ok (.iconst 3, 1) := by decide +kernel
theorem dX7_cheapest_16 : decode cX7_cheapest 16 = .ok (.if_icmp .le 6, 3) := by decide +kernel
theorem dX7_cheapest_22 : decode cX7_cheapest 22 = .ok (.aload_n 0, 1) := by decide +kernel
theorem dX7_cheapest_23 : decode cX7_cheapest 23 = .ok (.invokevirtual 331, 3) := by decide +kernel
theorem dX7_cheapest_26 : decode cX7_cheapest 26 = .ok (.istore_n 2, 1) := by decide +kernel
theorem dX7_cheapest_27 : decode cX7_cheapest 27 = .ok (.iload_n 2, 1) := by decide +kernel
theorem dX7_cheapest_28 : decode cX7_cheapest 28 = .ok (.invokestatic 334, 3) := by decide +kernel
theorem dX7_cheapest_31 : decode cX7_cheapest 31 = .ok (.istore_n 3, 1) := by decide +kernel
theorem dX7_cheapest_32 : decode cX7_cheapest 32 = .ok (.iload_n 3, 1) := by decide +kernel
theorem dX7_cheapest_33 : decode cX7_cheapest 33 = .ok (.iconst 2, 1) := by decide +kernel
theorem dX7_cheapest_34 : decode cX7_cheapest 34 = .ok (.if_icmp .le 6, 3) := by decide +kernel
theorem dX7_cheapest_40 : decode cX7_cheapest 40 = .ok (.iconst 0, 1) := by decide +kernel
theorem dX7_cheapest_41 : decode cX7_cheapest 41 = .ok (.istore 4, 2) := by decide +kernel
theorem dX7_cheapest_37 : decode cX7_cheapest 37 = .ok (.bipush (-5), 2) := by decide +kernel
theorem dX7_cheapest_39 : decode cX7_cheapest 39 = .ok (.ireturn, 1) := by decide +kernel
theorem dX7_cheapest_19 : decode cX7_cheapest 19 = .ok (.bipush (-3), 2) := by decide +kernel
theorem dX7_cheapest_21 : decode cX7_cheapest 21 = .ok (.ireturn, 1) := by decide +kernel
theorem dX7_cheapest_9 : decode cX7_cheapest 9 = .ok (.iconst (-1), 1) := by decide +kernel
theorem dX7_cheapest_10 : decode cX7_cheapest 10 = .ok (.ireturn, 1) := by decide +kernel
abbrev md_m_enough : Nat → Nat → Bool := mdf [(8, 21), (8, 49), (8, 50), (8, 51), (8, 52), (8, 60), (40, 99), (50, 99), (51, 99), (54, 99), (55, 99), (56, 99), (58, 99), (75, 99)]
theorem mdle_m_enough_m_worstOf {r k : Nat} (h : md_m_enough r k = false) : md_m_worstOf r k = false := mdf_le (by decide +kernel) h
set_option maxHeartbeats 4000000 in
set_option maxRecDepth 100000 in
theorem lt_m_enough_d (l : Launch) (D : va_G) (cI cZ cS cR : ClassId) (N0 : NT) (g : GS) (h : Nat) (r_h : g.1 h = 8) (hw : PX 48 2 3 71 72 g h) {p : Program} {e : Env} {s : State} {m : MethodId} {args : Array Value} {below : List Frame} {meth : Method} {c : Code} (hB : Tz p s m meth c args cX7_enough 4 RX7 D cI cZ cS cR N0) (hr : meth.sig.returnType = (some .int))    : ∀ (kf : Nat) (g1 : GS) (i : Int32) (be : Int32)  (H : Heap) (locs : List Loc) (ls : Array Slot), Tv D cI cZ cS cR N0 s.heap H locs g1 → Inv g1 → Ex g g1 → Sm md_m_enough g g1 → 0 ≤ i.toInt → i.toInt ≤ 6 → (6 ≤ i.toInt + kf) → lv_has ls 4 [(2, .int i), (1, .int be), (0, .ref h)] → W p l e (rmx 9 0 0) s m args below meth c H locs 0 0 (MQ below (tQ D cI cZ cS cR N0 (fun v g' => ∃ (r : Int32), v = some (.int r) ∧ Inv g' ∧ Ex g g' ∧ Sm md_m_enough g g')) args s 0 0 (fun q => N0.1 ≤ q)) (F0 m 84 ls []) := by
  have hx := hB.1
  have hb := hB.2.1
  intro kf
  induction kf using Nat.strongRecOn with
  | ind kf ih =>
    intro g1 i be H locs ls hT hI hE hM l_i u_i hk hl
    have r_1 : g1.1 h = 8 := Ex.r hE r_h (by decide)
    refine lv_iload_n hx hb dX7_enough_84 rfl (lv_at hl 0 rfl) ?_
    refine lv_bipush (v := 6) hx hb dX7_enough_85 (by decide) ?_
    refine lv_icmp_ge (tgt := 108) hx hb dX7_enough_87 (by decide) (fun c_2 => ?_) (fun c_2 => ?_)
    · have c_2' : 6 ≤ i.toInt := i_le c_2 (by decide) rfl
      refine lv_iload_n hx hb dX7_enough_108 rfl (lv_at hl 1 rfl) ?_
      exact t_iret hB hr hT (Nat.le_of_ble_eq_true rfl) (Nat.le_of_ble_eq_true rfl) dX7_enough_109 ⟨be, rfl, hI, hE, hM⟩
    · have c_2' : i.toInt < 6 := i_nle c_2 (by decide) rfl
      refine lv_aload_n hx hb dX7_enough_90 rfl (lv_at hl 2 rfl) ?_
      obtain ⟨v_3, e_v_3, r_v_3, n_v_3⟩ := f_8_6 hI r_1
      refine t_get (ci := 7) (v := .ref v_3) hB hT (ro_ci r_1 rfl) rfl 6 (by decide) k_751 e_v_3 dX7_enough_91 ?_
      refine lv_iload_n hx hb dX7_enough_94 rfl (lv_at hl 0 rfl) ?_
      refine lv_aload_n hx hb dX7_enough_95 rfl (lv_at hl 2 rfl) ?_
      obtain ⟨v_4, e_v_4, r_v_4, n_v_4⟩ := f_8_65 hI r_1
      refine t_get (ci := 7) (v := .ref v_4) hB hT (ro_ci r_1 rfl) rfl 65 (by decide) k_810 e_v_4 dX7_enough_96 ?_
      refine lv_iload_n hx hb dX7_enough_99 rfl (lv_at hl 0 rfl) ?_
      have i_u_5 : vp_in i 6 := (i_in (n := 6) rfl (by omega) (by omega))
      refine t_iald hB hT (ro_in r_v_4 (by decide)) n_v_4 i_u_5 rfl dX7_enough_100 ?_
      refine lv_topi (fun u_5 e_u_5 => ?_)
      have i_6 : vp_in i 6 := (i_in (n := 6) rfl (by omega) (by omega))
      refine t_iast hB hT (ro_in r_v_3 (by decide)) n_v_3 i_6 dX7_enough_101 (fun H locs hT => ?_)
      have hI : Inv (sC g1 v_3 i.toNatClampNeg u_5) := hI.sC (ck r_v_3 trivial)
      have hM : Sm md_m_enough g (sC g1 v_3 i.toNatClampNeg u_5) := hM.tr hE (Sm_sC (by rw [r_v_3]; rfl))
      have hE : Ex g (sC g1 v_3 i.toNatClampNeg u_5) := hE
      obtain ⟨z_7, ez_7⟩ : ∃ z : Int32, z = i + 1 := ⟨_, rfl⟩
      have e_z_7 : z_7.toInt = i.toInt + 1 := i_add ez_7 rfl (by decide) (by omega) (by omega)
      refine lv_iinc (v := z_7) (lv' := [(2, .int z_7), (1, .int be), (0, .ref h)]) hx hb dX7_enough_102 hl (k := 0) rfl (by rw [ez_7]; rfl) (by decide) rfl (fun ls hl => ?_)
      refine lv_goto (tgt := 84) hx hb dX7_enough_105 (by decide) ?_
      exact ih (kf - 1) (by omega) (sC g1 v_3 i.toNatClampNeg u_5) z_7 be H locs ls hT hI hE hM (by omega) (by omega) (by have e0_ : (0 : Int32).toInt = 0 := (by decide); omega) (lv_sub hl [0, 1, 2] rfl)
set_option maxHeartbeats 4000000 in
set_option maxRecDepth 100000 in
theorem lt_m_enough_c (l : Launch) (D : va_G) (cI cZ cS cR : ClassId) (N0 : NT) (g : GS) (h : Nat) (r_h : g.1 h = 8) (hw : PX 48 2 3 71 72 g h) {p : Program} {e : Env} {s : State} {m : MethodId} {args : Array Value} {below : List Frame} {meth : Method} {c : Code} (hB : Tz p s m meth c args cX7_enough 4 RX7 D cI cZ cS cR N0) (hr : meth.sig.returnType = (some .int)) (hh : Int32) (be : Int32) (l_hh : 0 ≤ hh.toInt) (u_hh : hh.toInt ≤ 20)  (K : ∀ (g1 : GS)   (H : Heap) (locs : List Loc) (ls : Array Slot), Tv D cI cZ cS cR N0 s.heap H locs g1 → Inv g1 → Ex g g1 → Sm md_m_enough g g1 → lv_has ls 4 [(2, .int hh), (1, .int be), (0, .ref h)] → W p l e (rmx 9 0 0) s m args below meth c H locs 0 0 (MQ below (tQ D cI cZ cS cR N0 (fun v g' => ∃ (r : Int32), v = some (.int r) ∧ Inv g' ∧ Ex g g' ∧ Sm md_m_enough g g')) args s 0 0 (fun q => N0.1 ≤ q)) (F0 m 62 ls [])) : ∀ (kf : Nat) (g1 : GS) (i : Int32)  (H : Heap) (locs : List Loc) (ls : Array Slot), Tv D cI cZ cS cR N0 s.heap H locs g1 → Inv g1 → Ex g g1 → Sm md_m_enough g g1 → 0 ≤ i.toInt → i.toInt ≤ 6 → (6 ≤ i.toInt + kf) → lv_has ls 4 [(3, .int i), (2, .int hh), (1, .int be), (0, .ref h)] → W p l e (rmx 9 0 0) s m args below meth c H locs 0 0 (MQ below (tQ D cI cZ cS cR N0 (fun v g' => ∃ (r : Int32), v = some (.int r) ∧ Inv g' ∧ Ex g g' ∧ Sm md_m_enough g g')) args s 0 0 (fun q => N0.1 ≤ q)) (F0 m 43 ls []) := by
  have hx := hB.1
  have hb := hB.2.1
  intro kf
  induction kf using Nat.strongRecOn with
  | ind kf ih =>
    intro g1 i H locs ls hT hI hE hM l_i u_i hk hl
    have r_1 : g1.1 h = 8 := Ex.r hE r_h (by decide)
    refine lv_iload_n hx hb dX7_enough_43 rfl (lv_at hl 0 rfl) ?_
    refine lv_bipush (v := 6) hx hb dX7_enough_44 (by decide) ?_
    refine lv_icmp_ge (tgt := 62) hx hb dX7_enough_46 (by decide) (fun c_2 => ?_) (fun c_2 => ?_)
    · have c_2' : 6 ≤ i.toInt := i_le c_2 (by decide) rfl
      exact K g1 H locs ls hT hI hE hM (lv_sub hl [1, 2, 3] rfl)
    · have c_2' : i.toInt < 6 := i_nle c_2 (by decide) rfl
      refine lv_aload_n hx hb dX7_enough_49 rfl (lv_at hl 3 rfl) ?_
      obtain ⟨v_3, e_v_3, r_v_3, n_v_3⟩ := f_8_6 hI r_1
      refine t_get (ci := 7) (v := .ref v_3) hB hT (ro_ci r_1 rfl) rfl 6 (by decide) k_751 e_v_3 dX7_enough_50 ?_
      refine lv_iload_n hx hb dX7_enough_53 rfl (lv_at hl 0 rfl) ?_
      refine lv_iload_n hx hb dX7_enough_54 rfl (lv_at hl 1 rfl) ?_
      have i_4 : vp_in i 6 := (i_in (n := 6) rfl (by omega) (by omega))
      refine t_iast hB hT (ro_in r_v_3 (by decide)) n_v_3 i_4 dX7_enough_55 (fun H locs hT => ?_)
      have hI : Inv (sC g1 v_3 i.toNatClampNeg hh) := hI.sC (ck r_v_3 trivial)
      have hM : Sm md_m_enough g (sC g1 v_3 i.toNatClampNeg hh) := hM.tr hE (Sm_sC (by rw [r_v_3]; rfl))
      have hE : Ex g (sC g1 v_3 i.toNatClampNeg hh) := hE
      obtain ⟨z_5, ez_5⟩ : ∃ z : Int32, z = i + 1 := ⟨_, rfl⟩
      have e_z_5 : z_5.toInt = i.toInt + 1 := i_add ez_5 rfl (by decide) (by omega) (by omega)
      refine lv_iinc (v := z_5) (lv' := [(3, .int z_5), (2, .int hh), (1, .int be), (0, .ref h)]) hx hb dX7_enough_56 hl (k := 0) rfl (by rw [ez_5]; rfl) (by decide) rfl (fun ls hl => ?_)
      refine lv_goto (tgt := 43) hx hb dX7_enough_59 (by decide) ?_
      exact ih (kf - 1) (by omega) (sC g1 v_3 i.toNatClampNeg hh) z_5 H locs ls hT hI hE hM (by omega) (by omega) (by have e0_ : (0 : Int32).toInt = 0 := (by decide); omega) (lv_sub hl [0, 1, 2, 3] rfl)
set_option maxHeartbeats 4000000 in
set_option maxRecDepth 100000 in
theorem lt_m_enough_b (l : Launch) (D : va_G) (cI cZ cS cR : ClassId) (N0 : NT) (g : GS) (h : Nat) (r_h : g.1 h = 8) (hw : PX 48 2 3 71 72 g h) {p : Program} {e : Env} {s : State} {m : MethodId} {args : Array Value} {below : List Frame} {meth : Method} {c : Code} (hB : Tz p s m meth c args cX7_enough 4 RX7 D cI cZ cS cR N0) (hr : meth.sig.returnType = (some .int))    : ∀ (kf : Nat) (g1 : GS) (hh : Int32) (be : Int32)  (H : Heap) (locs : List Loc) (ls : Array Slot), Tv D cI cZ cS cR N0 s.heap H locs g1 → Inv g1 → Ex g g1 → Sm md_m_enough g g1 → 0 ≤ hh.toInt → hh.toInt ≤ 21 → (21 ≤ hh.toInt + kf) → lv_has ls 4 [(2, .int hh), (1, .int be), (0, .ref h)] → W p l e (rmx 9 0 0) s m args below meth c H locs 0 0 (MQ below (tQ D cI cZ cS cR N0 (fun v g' => ∃ (r : Int32), v = some (.int r) ∧ Inv g' ∧ Ex g g' ∧ Sm md_m_enough g g')) args s 0 0 (fun q => N0.1 ≤ q)) (F0 m 30 ls []) := by
  have hx := hB.1
  have hb := hB.2.1
  intro kf
  induction kf using Nat.strongRecOn with
  | ind kf ih =>
    intro g1 hh be H locs ls hT hI hE hM l_hh u_hh hk hl
    have r_1 : g1.1 h = 8 := Ex.r hE r_h (by decide)
    refine lv_iload_n hx hb dX7_enough_30 rfl (lv_at hl 0 rfl) ?_
    refine lv_bipush (v := 20) hx hb dX7_enough_31 (by decide) ?_
    refine lv_icmp_gt (tgt := 82) hx hb dX7_enough_33 (by decide) (fun c_2 => ?_) (fun c_2 => ?_)
    · have c_2' : 20 < hh.toInt := i_lt c_2 (by decide) rfl
      refine lv_iconst (v := 0) hx hb dX7_enough_82 (by decide) ?_
      refine lv_istore_n (lv' := [(2, .int 0), (1, .int be), (0, .ref h)]) hx hb dX7_enough_83 rfl hl (by decide) rfl (fun ls hl => ?_)
      exact lt_m_enough_d l D cI cZ cS cR N0 g h r_h hw hB hr   6 g1 (0 : Int32) be H locs ls hT hI hE hM (by decide) (by decide) (by have e0_ : (0 : Int32).toInt = 0 := (by decide); omega) (lv_sub hl [0, 1, 2] rfl)
    · have c_2' : hh.toInt ≤ 20 := i_nlt c_2 (by decide) rfl
      refine lv_iload_n hx hb dX7_enough_36 rfl (lv_at hl 1 rfl) ?_
      refine lv_iconst (v := (-1)) hx hb dX7_enough_37 (by decide) ?_
      refine lv_icmp_ne (tgt := 82) hx hb dX7_enough_38 (by decide) (fun c_3 => ?_) (fun c_3 => ?_)
      · have c_3' : be.toInt ≠ (-1) := i_ne c_3 rfl (by decide)
        refine lv_iconst (v := 0) hx hb dX7_enough_82 (by decide) ?_
        refine lv_istore_n (lv' := [(2, .int 0), (1, .int be), (0, .ref h)]) hx hb dX7_enough_83 rfl hl (by decide) rfl (fun ls hl => ?_)
        exact lt_m_enough_d l D cI cZ cS cR N0 g h r_h hw hB hr   6 g1 (0 : Int32) be H locs ls hT hI hE hM (by decide) (by decide) (by have e0_ : (0 : Int32).toInt = 0 := (by decide); omega) (lv_sub hl [0, 1, 2] rfl)
      · have c_3' : be.toInt = (-1) := i_eq c_3 rfl (by decide)
        refine lv_iconst (v := 0) hx hb dX7_enough_41 (by decide) ?_
        refine lv_istore_n (lv' := [(3, .int 0), (2, .int hh), (1, .int be), (0, .ref h)]) hx hb dX7_enough_42 rfl hl (by decide) rfl (fun ls hl => ?_)
        refine lt_m_enough_c l D cI cZ cS cR N0 g h r_h hw hB hr hh be (by omega) (by omega)  (fun g1_b_4 H locs ls hT hI hE hM hl => ?_) 6 g1 (0 : Int32) H locs ls hT hI hE hM (by decide) (by decide) (by have e0_ : (0 : Int32).toInt = 0 := (by decide); omega) (lv_sub hl [0, 1, 2, 3] rfl)
        have r_5 : g1_b_4.1 h = 8 := Ex.r hE r_h (by decide)
        refine lv_aload_n hx hb dX7_enough_62 rfl (lv_at hl 2 rfl) ?_
        refine t_callV (n := 0) (As := []) (rest := []) (ci := 7) hB hT hl.1 (m_worstOf l D cI cZ cS cR N0 g1_b_4 hI h r_5 (hw.mono hM hE r_h (by decide) (by decide) rfl rfl rfl rfl)) (ro_ci r_5 rfl) rfl k_1123 k_65 k_1120 k_1122 k_48 (by decide +kernel) ⟨(Nat.le_of_ble_eq_true rfl), (Nat.le_of_ble_eq_true rfl)⟩ rfl (Nat.le_of_ble_eq_true rfl) ⟨(Nat.le_of_ble_eq_true rfl), (Nat.le_of_ble_eq_true rfl)⟩ dX7_enough_63 (fun v g_6 H locs hp hT => ?_)
        obtain ⟨r_7, rfl, hI, x_9, m_8⟩ := hp
        have hM : Sm md_m_enough g g_6 := hM.tr hE (m_8.mo (fun r k h => mdle_m_enough_m_worstOf h))
        have hE : Ex g g_6 := hE.tr x_9
        have r_10 : g_6.1 h = 8 := (Ex.r x_9 r_5 (by decide))
        refine W.eq (g2 := F0 m 66 ls [.int r_7]) rfl ?_
        refine lv_iconst (v := (-1)) hx hb dX7_enough_66 (by decide) ?_
        refine lv_icmp_ne (tgt := 74) hx hb dX7_enough_67 (by decide) (fun c_11 => ?_) (fun c_11 => ?_)
        · have c_11' : r_7.toInt ≠ (-1) := i_ne c_11 rfl (by decide)
          refine lv_iconst (v := (-1)) hx hb dX7_enough_74 (by decide) ?_
          refine lv_istore_n (lv' := [(1, .int (-1)), (2, .int hh), (0, .ref h)]) hx hb dX7_enough_75 rfl hl (by decide) rfl (fun ls hl => ?_)
          obtain ⟨z_12, ez_12⟩ : ∃ z : Int32, z = hh + 1 := ⟨_, rfl⟩
          have e_z_12 : z_12.toInt = hh.toInt + 1 := i_add ez_12 rfl (by decide) (by omega) (by omega)
          refine lv_iinc (v := z_12) (lv' := [(2, .int z_12), (1, .int (-1)), (0, .ref h)]) hx hb dX7_enough_76 hl (k := 1) rfl (by rw [ez_12]; rfl) (by decide) rfl (fun ls hl => ?_)
          refine lv_goto (tgt := 30) hx hb dX7_enough_79 (by decide) ?_
          exact ih (kf - 1) (by omega) g_6 z_12 ((-1) : Int32) H locs ls hT hI hE hM (by omega) (by omega) (by have e0_ : ((-1) : Int32).toInt = (-1) := (by decide); have e1_ : (0 : Int32).toInt = 0 := (by decide); omega) (lv_sub hl [0, 1, 2] rfl)
        · have c_11' : r_7.toInt = (-1) := i_eq c_11 rfl (by decide)
          refine lv_iload_n hx hb dX7_enough_70 rfl (lv_at hl 0 rfl) ?_
          refine lv_goto (tgt := 75) hx hb dX7_enough_71 (by decide) ?_
          refine lv_istore_n (lv' := [(1, .int hh), (2, .int hh), (0, .ref h)]) hx hb dX7_enough_75 rfl hl (by decide) rfl (fun ls hl => ?_)
          obtain ⟨z_13, ez_13⟩ : ∃ z : Int32, z = hh + 1 := ⟨_, rfl⟩
          have e_z_13 : z_13.toInt = hh.toInt + 1 := i_add ez_13 rfl (by decide) (by omega) (by omega)
          refine lv_iinc (v := z_13) (lv' := [(2, .int z_13), (1, .int hh), (0, .ref h)]) hx hb dX7_enough_76 hl (k := 1) rfl (by rw [ez_13]; rfl) (by decide) rfl (fun ls hl => ?_)
          refine lv_goto (tgt := 30) hx hb dX7_enough_79 (by decide) ?_
          exact ih (kf - 1) (by omega) g_6 z_13 hh H locs ls hT hI hE hM (by omega) (by omega) (by have e0_ : (0 : Int32).toInt = 0 := (by decide); omega) (lv_sub hl [0, 1, 2] rfl)
set_option maxHeartbeats 4000000 in
set_option maxRecDepth 100000 in
theorem lt_m_enough_a (l : Launch) (D : va_G) (cI cZ cS cR : ClassId) (N0 : NT) (g : GS) (h : Nat) (r_h : g.1 h = 8) (hw : PX 48 2 3 71 72 g h) {p : Program} {e : Env} {s : State} {m : MethodId} {args : Array Value} {below : List Frame} {meth : Method} {c : Code} (hB : Tz p s m meth c args cX7_enough 4 RX7 D cI cZ cS cR N0) (hr : meth.sig.returnType = (some .int))    : ∀ (kf : Nat) (g1 : GS) (i : Int32)  (H : Heap) (locs : List Loc) (ls : Array Slot), Tv D cI cZ cS cR N0 s.heap H locs g1 → Inv g1 → Ex g g1 → Sm md_m_enough g g1 → 0 ≤ i.toInt → i.toInt ≤ 6 → (6 ≤ i.toInt + kf) → lv_has ls 4 [(1, .int i), (0, .ref h)] → W p l e (rmx 9 0 0) s m args below meth c H locs 0 0 (MQ below (tQ D cI cZ cS cR N0 (fun v g' => ∃ (r : Int32), v = some (.int r) ∧ Inv g' ∧ Ex g g' ∧ Sm md_m_enough g g')) args s 0 0 (fun q => N0.1 ≤ q)) (F0 m 2 ls []) := by
  have hx := hB.1
  have hb := hB.2.1
  intro kf
  induction kf using Nat.strongRecOn with
  | ind kf ih =>
    intro g1 i H locs ls hT hI hE hM l_i u_i hk hl
    have r_1 : g1.1 h = 8 := Ex.r hE r_h (by decide)
    refine lv_iload_n hx hb dX7_enough_2 rfl (lv_at hl 0 rfl) ?_
    refine lv_bipush (v := 6) hx hb dX7_enough_3 (by decide) ?_
    refine lv_icmp_ge (tgt := 26) hx hb dX7_enough_5 (by decide) (fun c_2 => ?_) (fun c_2 => ?_)
    · have c_2' : 6 ≤ i.toInt := i_le c_2 (by decide) rfl
      refine lv_iconst (v := (-1)) hx hb dX7_enough_26 (by decide) ?_
      refine lv_istore_n (lv' := [(1, .int (-1)), (0, .ref h)]) hx hb dX7_enough_27 rfl hl (by decide) rfl (fun ls hl => ?_)
      refine lv_iconst (v := 0) hx hb dX7_enough_28 (by decide) ?_
      refine lv_istore_n (lv' := [(2, .int 0), (1, .int (-1)), (0, .ref h)]) hx hb dX7_enough_29 rfl hl (by decide) rfl (fun ls hl => ?_)
      exact lt_m_enough_b l D cI cZ cS cR N0 g h r_h hw hB hr   21 g1 (0 : Int32) ((-1) : Int32) H locs ls hT hI hE hM (by decide) (by decide) (by have e0_ : ((-1) : Int32).toInt = (-1) := (by decide); have e1_ : (0 : Int32).toInt = 0 := (by decide); omega) (lv_sub hl [0, 1, 2] rfl)
    · have c_2' : i.toInt < 6 := i_nle c_2 (by decide) rfl
      refine lv_aload_n hx hb dX7_enough_8 rfl (lv_at hl 1 rfl) ?_
      obtain ⟨v_3, e_v_3, r_v_3, n_v_3⟩ := f_8_65 hI r_1
      refine t_get (ci := 7) (v := .ref v_3) hB hT (ro_ci r_1 rfl) rfl 65 (by decide) k_810 e_v_3 dX7_enough_9 ?_
      refine lv_iload_n hx hb dX7_enough_12 rfl (lv_at hl 0 rfl) ?_
      refine lv_aload_n hx hb dX7_enough_13 rfl (lv_at hl 1 rfl) ?_
      obtain ⟨v_4, e_v_4, r_v_4, n_v_4⟩ := f_8_6 hI r_1
      refine t_get (ci := 7) (v := .ref v_4) hB hT (ro_ci r_1 rfl) rfl 6 (by decide) k_751 e_v_4 dX7_enough_14 ?_
      refine lv_iload_n hx hb dX7_enough_17 rfl (lv_at hl 0 rfl) ?_
      have i_u_5 : vp_in i 6 := (i_in (n := 6) rfl (by omega) (by omega))
      refine t_iald hB hT (ro_in r_v_4 (by decide)) n_v_4 i_u_5 rfl dX7_enough_18 ?_
      refine lv_topi (fun u_5 e_u_5 => ?_)
      have i_6 : vp_in i 6 := (i_in (n := 6) rfl (by omega) (by omega))
      refine t_iast hB hT (ro_in r_v_3 (by decide)) n_v_3 i_6 dX7_enough_19 (fun H locs hT => ?_)
      have hI : Inv (sC g1 v_3 i.toNatClampNeg u_5) := hI.sC (ck r_v_3 trivial)
      have hM : Sm md_m_enough g (sC g1 v_3 i.toNatClampNeg u_5) := hM.tr hE (Sm_sC (by rw [r_v_3]; rfl))
      have hE : Ex g (sC g1 v_3 i.toNatClampNeg u_5) := hE
      obtain ⟨z_7, ez_7⟩ : ∃ z : Int32, z = i + 1 := ⟨_, rfl⟩
      have e_z_7 : z_7.toInt = i.toInt + 1 := i_add ez_7 rfl (by decide) (by omega) (by omega)
      refine lv_iinc (v := z_7) (lv' := [(1, .int z_7), (0, .ref h)]) hx hb dX7_enough_20 hl (k := 0) rfl (by rw [ez_7]; rfl) (by decide) rfl (fun ls hl => ?_)
      refine lv_goto (tgt := 2) hx hb dX7_enough_23 (by decide) ?_
      exact ih (kf - 1) (by omega) (sC g1 v_3 i.toNatClampNeg u_5) z_7 H locs ls hT hI hE hM (by omega) (by omega) (by have e0_ : (0 : Int32).toInt = 0 := (by decide); omega) (lv_sub hl [0, 1] rfl)
set_option maxHeartbeats 4000000 in
set_option maxRecDepth 100000 in
theorem m_enough (l : Launch) (D : va_G) (cI cZ cS cR : ClassId) (N0 : NT) (g : GS) (hI : Inv g) (h : Nat) (r_h : g.1 h = 8) (hw : PX 48 2 3 71 72 g h) : Ty l D cI cZ cS cR N0 yX7_enough cX7_enough 4 (some .int) 9 0 0 [.ref h] g (fun v g' => ∃ (r : Int32), v = some (.int r) ∧ Inv g' ∧ Ex g g' ∧ Sm md_m_enough g g') := by
  refine t_enter (by decide) (Nat.le_of_ble_eq_true rfl) ?_
  intro p e s m args below meth c ls H locs hB hr hin hl hT
  have hx := hB.1
  have hb := hB.2.1
  have hl : lv_has ls 4 [(0, .ref h)] := hl
  have hE : Ex g g := Ex.rf
  have hM : Sm md_m_enough g g := Sm.rf
  refine lv_iconst (v := 0) hx hb dX7_enough_0 (by decide) ?_
  refine lv_istore_n (lv' := [(1, .int 0), (0, .ref h)]) hx hb dX7_enough_1 rfl hl (by decide) rfl (fun ls hl => ?_)
  exact lt_m_enough_a l D cI cZ cS cR N0 g h r_h hw hB hr   6 g (0 : Int32) H locs ls hT hI hE hM (by decide) (by decide) (by have e0_ : (0 : Int32).toInt = 0 := (by decide); omega) (lv_sub hl [0, 1] rfl)
abbrev md_m_reached : Nat → Nat → Bool := mdf []
set_option maxHeartbeats 4000000 in
set_option maxRecDepth 100000 in
theorem lt_m_reached_c (l : Launch) (D : va_G) (cI cZ cS cR : ClassId) (N0 : NT) (g : GS) (h : Nat) (r_h : g.1 h = 8) {p : Program} {e : Env} {s : State} {m : MethodId} {args : Array Value} {below : List Frame} {meth : Method} {c : Code} (hB : Tz p s m meth c args cX7_reached 4 RX7 D cI cZ cS cR N0) (hr : meth.sig.returnType = (some .int)) (sv : Int32) (l_sv : 0 ≤ sv.toInt) (u_sv : sv.toInt ≤ 5) (K : ∀ (st : Int32)  (H : Heap) (locs : List Loc) (ls : Array Slot), Tv D cI cZ cS cR N0 s.heap H locs g → Inv g → Ex g g → Sm md_m_reached g g → lv_has ls 4 [(2, .int sv), (1, .int st), (0, .ref h)] → W p l e (rmx 3 0 0) s m args below meth c H locs 0 0 (MQ below (tQ D cI cZ cS cR N0 (fun v g' => ∃ (r : Int32), v = some (.int r) ∧ g' = g)) args s 0 0 (fun q => N0.1 ≤ q)) (F0 m 98 ls [])) : ∀ (kf : Nat) (k : Int32) (st : Int32)  (H : Heap) (locs : List Loc) (ls : Array Slot), Tv D cI cZ cS cR N0 s.heap H locs g → Inv g → Ex g g → Sm md_m_reached g g → 0 ≤ k.toInt → k.toInt ≤ 48 → (48 ≤ k.toInt + kf) → lv_has ls 4 [(3, .int k), (2, .int sv), (1, .int st), (0, .ref h)] → W p l e (rmx 3 0 0) s m args below meth c H locs 0 0 (MQ below (tQ D cI cZ cS cR N0 (fun v g' => ∃ (r : Int32), v = some (.int r) ∧ g' = g)) args s 0 0 (fun q => N0.1 ≤ q)) (F0 m 44 ls []) := by
  have hx := hB.1
  have hb := hB.2.1
  intro kf
  induction kf using Nat.strongRecOn with
  | ind kf ih =>
    intro k st H locs ls hT hI hE hM l_k u_k hk hl
    have r_1 : g.1 h = 8 := Ex.r hE r_h (by decide)
    refine lv_iload_n hx hb dX7_reached_44 rfl (lv_at hl 0 rfl) ?_
    refine lv_bipush (v := 8) hx hb dX7_reached_45 (by decide) ?_
    refine lv_iload_n hx hb dX7_reached_47 rfl (lv_at hl 1 rfl) ?_
    refine lv_imul hx hb dX7_reached_48 ?_
    refine lv_topi (fun z_2 ez_2 => ?_)
    have e_z_2 : z_2.toInt = 8 * sv.toInt := i_mul ez_2 (by decide) rfl (by omega) (by omega)
    refine lv_aload_n hx hb dX7_reached_49 rfl (lv_at hl 3 rfl) ?_
    obtain ⟨v_3, e_v_3, r_v_3, n_v_3⟩ := f_8_1 hI r_1
    refine t_get (ci := 7) (v := .ref v_3) hB hT (ro_ci r_1 rfl) rfl 1 (by decide) k_746 e_v_3 dX7_reached_50 ?_
    refine lv_iload_n hx hb dX7_reached_53 rfl (lv_at hl 1 rfl) ?_
    have i_u_4 : vp_in sv 6 := (i_in (n := 6) rfl (by omega) (by omega))
    refine t_iald hB hT (ro_in r_v_3 (by decide)) n_v_3 i_u_4 rfl dX7_reached_54 ?_
    have c_u_4 := hI.c r_v_3 n_v_3 (i_cl i_u_4)
    refine lv_topi (fun u_4 e_u_4 => ?_)
    obtain ⟨l_u_4, u_u_4⟩ := c_u_4
    rw [← e_u_4] at l_u_4 u_u_4
    refine lv_iadd hx hb dX7_reached_55 ?_
    refine lv_topi (fun z_5 ez_5 => ?_)
    have e_z_5 : z_5.toInt = z_2.toInt + u_4.toInt := i_add ez_5 rfl rfl (by omega) (by omega)
    refine lv_icmp_ge (tgt := 98) hx hb dX7_reached_56 (by decide) (fun c_6 => ?_) (fun c_6 => ?_)
    · have c_6' : z_5.toInt ≤ k.toInt := i_le c_6 rfl rfl
      exact K st H locs ls hT hI hE hM (lv_sub hl [1, 2, 3] rfl)
    · have c_6' : k.toInt < z_5.toInt := i_nle c_6 rfl rfl
      refine lv_iload_n hx hb dX7_reached_59 rfl (lv_at hl 2 rfl) ?_
      refine lv_iload_n hx hb dX7_reached_60 rfl (lv_at hl 1 rfl) ?_
      refine lv_ishr hx hb dX7_reached_61 ?_
      refine lv_topi (fun z_7 ez_7 => ?_)
      refine lv_iconst (v := 1) hx hb dX7_reached_62 (by decide) ?_
      refine lv_iand hx hb dX7_reached_63 ?_
      refine lv_topi (fun z_8 ez_8 => ?_)
      have e_z_8 := i_and 1 (b := 1) ez_8 (by decide) (by decide) (by decide)
      refine lv_iconst (v := 1) hx hb dX7_reached_64 (by decide) ?_
      refine lv_icmp_ne (tgt := 98) hx hb dX7_reached_65 (by decide) (fun c_9 => ?_) (fun c_9 => ?_)
      · have c_9' : z_8.toInt ≠ 1 := i_ne c_9 rfl (by decide)
        exact K st H locs ls hT hI hE hM (lv_sub hl [1, 2, 3] rfl)
      · have c_9' : z_8.toInt = 1 := i_eq c_9 rfl (by decide)
        refine lv_iload_n hx hb dX7_reached_68 rfl (lv_at hl 2 rfl) ?_
        refine lv_aload_n hx hb dX7_reached_69 rfl (lv_at hl 3 rfl) ?_
        refine lv_iload_n hx hb dX7_reached_70 rfl (lv_at hl 1 rfl) ?_
        refine lv_iload_n hx hb dX7_reached_71 rfl (lv_at hl 0 rfl) ?_
        obtain ⟨v_10, e_v_10, r_v_10, n_v_10⟩ := f_8_3 hI r_1
        refine t_callV (n := 2) (As := [.int sv, .int k]) (rest := [.int st]) (ci := 7) hB hT hl.1 (m_canAsk l D cI cZ cS cR N0 g hI h sv k v_10 (g.2.2.2.1 v_10 (k : Int32).toNatClampNeg) r_1 r_v_10 n_v_10 e_v_10 (by omega) (by omega) rfl) (ro_ci r_1 rfl) rfl k_1023 k_65 k_1020 k_1022 k_31 (by decide +kernel) ⟨(Nat.le_of_ble_eq_true rfl), (Nat.le_of_ble_eq_true rfl)⟩ rfl (Nat.le_of_ble_eq_true rfl) ⟨(Nat.le_of_ble_eq_true rfl), (Nat.le_of_ble_eq_true rfl)⟩ dX7_reached_72 (fun v g_11 H locs hp hT => ?_)
        obtain ⟨r_12, rfl, eg, f_13⟩ := hp
        rw [eg] at hT
        clear eg
        refine W.eq (g2 := F0 m 75 ls [.int r_12, .int st]) rfl ?_
        rcases f_13 with ⟨rfl, hw_16⟩ | rfl
        · refine W.eq (g2 := F0 m 75 ls [.int 1, .int st]) rfl ?_
          refine lv_if_eq (tgt := 89) hx hb dX7_reached_75 (by decide) (fun c_ => absurd c_ (by decide)) (fun c_ => ?_)
          refine lv_iconst (v := 1) hx hb dX7_reached_78 (by decide) ?_
          refine lv_aload_n hx hb dX7_reached_79 rfl (lv_at hl 3 rfl) ?_
          refine t_get (ci := 7) (v := .ref v_10) hB hT (ro_ci r_1 rfl) rfl 3 (by decide) k_748 e_v_10 dX7_reached_80 ?_
          refine lv_iload_n hx hb dX7_reached_83 rfl (lv_at hl 0 rfl) ?_
          have i_u_17 : vp_in k 48 := (i_in (n := 48) rfl (by omega) (by omega))
          refine t_iald hB hT (ro_in r_v_10 (by decide)) n_v_10 i_u_17 rfl dX7_reached_84 ?_
          have c_u_17 := hI.c r_v_10 n_v_10 (i_cl i_u_17)
          refine lv_topi (fun u_17 e_u_17 => ?_)
          obtain ⟨l_u_17, u_u_17⟩ := c_u_17
          rw [← e_u_17] at l_u_17 u_u_17
          refine lv_ishl hx hb dX7_reached_85 ?_
          refine lv_topi (fun z_18 ez_18 => ?_)
          refine lv_goto (tgt := 90) hx hb dX7_reached_86 (by decide) ?_
          refine lv_ior hx hb dX7_reached_90 ?_
          refine lv_topi (fun z_19 ez_19 => ?_)
          refine lv_istore_n (lv' := [(1, .int z_19), (3, .int k), (2, .int sv), (0, .ref h)]) hx hb dX7_reached_91 rfl hl (by decide) rfl (fun ls hl => ?_)
          obtain ⟨z_20, ez_20⟩ : ∃ z : Int32, z = k + 1 := ⟨_, rfl⟩
          have e_z_20 : z_20.toInt = k.toInt + 1 := i_add ez_20 rfl (by decide) (by omega) (by omega)
          refine lv_iinc (v := z_20) (lv' := [(3, .int z_20), (1, .int z_19), (2, .int sv), (0, .ref h)]) hx hb dX7_reached_92 hl (k := 1) rfl (by rw [ez_20]; rfl) (by decide) rfl (fun ls hl => ?_)
          refine lv_goto (tgt := 44) hx hb dX7_reached_95 (by decide) ?_
          exact ih (kf - 1) (by omega) z_20 z_19 H locs ls hT hI hE hM (by omega) (by omega) (by have e0_ : (0 : Int32).toInt = 0 := (by decide); omega) (lv_sub hl [0, 2, 1, 3] rfl)
        · refine W.eq (g2 := F0 m 75 ls [.int 0, .int st]) rfl ?_
          refine lv_if_eq (tgt := 89) hx hb dX7_reached_75 (by decide) (fun c_ => ?_) (fun c_ => absurd (by decide) c_)
          refine lv_iconst (v := 0) hx hb dX7_reached_89 (by decide) ?_
          refine lv_ior hx hb dX7_reached_90 ?_
          refine lv_topi (fun z_21 ez_21 => ?_)
          refine lv_istore_n (lv' := [(1, .int z_21), (3, .int k), (2, .int sv), (0, .ref h)]) hx hb dX7_reached_91 rfl hl (by decide) rfl (fun ls hl => ?_)
          obtain ⟨z_22, ez_22⟩ : ∃ z : Int32, z = k + 1 := ⟨_, rfl⟩
          have e_z_22 : z_22.toInt = k.toInt + 1 := i_add ez_22 rfl (by decide) (by omega) (by omega)
          refine lv_iinc (v := z_22) (lv' := [(3, .int z_22), (1, .int z_21), (2, .int sv), (0, .ref h)]) hx hb dX7_reached_92 hl (k := 1) rfl (by rw [ez_22]; rfl) (by decide) rfl (fun ls hl => ?_)
          refine lv_goto (tgt := 44) hx hb dX7_reached_95 (by decide) ?_
          exact ih (kf - 1) (by omega) z_22 z_21 H locs ls hT hI hE hM (by omega) (by omega) (by have e0_ : (0 : Int32).toInt = 0 := (by decide); omega) (lv_sub hl [0, 2, 1, 3] rfl)
set_option maxHeartbeats 4000000 in
set_option maxRecDepth 100000 in
theorem lt_m_reached_b (l : Launch) (D : va_G) (cI cZ cS cR : ClassId) (N0 : NT) (g : GS) (h : Nat) (r_h : g.1 h = 8) {p : Program} {e : Env} {s : State} {m : MethodId} {args : Array Value} {below : List Frame} {meth : Method} {c : Code} (hB : Tz p s m meth c args cX7_reached 4 RX7 D cI cZ cS cR N0) (hr : meth.sig.returnType = (some .int))    : ∀ (kf : Nat) (sv : Int32) (st : Int32)  (H : Heap) (locs : List Loc) (ls : Array Slot), Tv D cI cZ cS cR N0 s.heap H locs g → Inv g → Ex g g → Sm md_m_reached g g → 0 ≤ sv.toInt → sv.toInt ≤ 6 → (6 ≤ sv.toInt + kf) → lv_has ls 4 [(2, .int sv), (1, .int st), (0, .ref h)] → W p l e (rmx 3 0 0) s m args below meth c H locs 0 0 (MQ below (tQ D cI cZ cS cR N0 (fun v g' => ∃ (r : Int32), v = some (.int r) ∧ g' = g)) args s 0 0 (fun q => N0.1 ≤ q)) (F0 m 31 ls []) := by
  have hx := hB.1
  have hb := hB.2.1
  intro kf
  induction kf using Nat.strongRecOn with
  | ind kf ih =>
    intro sv st H locs ls hT hI hE hM l_sv u_sv hk hl
    have r_1 : g.1 h = 8 := Ex.r hE r_h (by decide)
    refine lv_iload_n hx hb dX7_reached_31 rfl (lv_at hl 0 rfl) ?_
    refine lv_aload_n hx hb dX7_reached_32 rfl (lv_at hl 2 rfl) ?_
    obtain ⟨v_2, e_v_2, l_v_2, u_v_2⟩ := f_8_0 hI r_1
    refine t_get (ci := 7) (v := .int v_2) hB hT (ro_ci r_1 rfl) rfl 0 (by decide) k_745 e_v_2 dX7_reached_33 ?_
    refine lv_icmp_ge (tgt := 104) hx hb dX7_reached_36 (by decide) (fun c_3 => ?_) (fun c_3 => ?_)
    · have c_3' : v_2.toInt ≤ sv.toInt := i_le c_3 rfl rfl
      refine lv_iload_n hx hb dX7_reached_104 rfl (lv_at hl 1 rfl) ?_
      exact t_iret hB hr hT (Nat.le_of_ble_eq_true rfl) (Nat.le_of_ble_eq_true rfl) dX7_reached_105 ⟨st, rfl, rfl⟩
    · have c_3' : sv.toInt < v_2.toInt := i_nle c_3 rfl rfl
      refine lv_bipush (v := 8) hx hb dX7_reached_39 (by decide) ?_
      refine lv_iload_n hx hb dX7_reached_41 rfl (lv_at hl 0 rfl) ?_
      refine lv_imul hx hb dX7_reached_42 ?_
      refine lv_topi (fun z_4 ez_4 => ?_)
      have e_z_4 : z_4.toInt = 8 * sv.toInt := i_mul ez_4 (by decide) rfl (by omega) (by omega)
      refine lv_istore_n (lv' := [(3, .int z_4), (2, .int sv), (1, .int st), (0, .ref h)]) hx hb dX7_reached_43 rfl hl (by decide) rfl (fun ls hl => ?_)
      refine lt_m_reached_c l D cI cZ cS cR N0 g h r_h hB hr sv (by omega) (by omega) (fun st_b_5 H locs ls hT hI hE hM hl => ?_) 48 z_4 st H locs ls hT hI hE hM (by omega) (by omega) (by have e0_ : (0 : Int32).toInt = 0 := (by decide); omega) (lv_sub hl [0, 1, 2, 3] rfl)
      have r_6 : g.1 h = 8 := Ex.r hE r_h (by decide)
      obtain ⟨z_7, ez_7⟩ : ∃ z : Int32, z = sv + 1 := ⟨_, rfl⟩
      have e_z_7 : z_7.toInt = sv.toInt + 1 := i_add ez_7 rfl (by decide) (by omega) (by omega)
      refine lv_iinc (v := z_7) (lv' := [(2, .int z_7), (1, .int st_b_5), (0, .ref h)]) hx hb dX7_reached_98 hl (k := 0) rfl (by rw [ez_7]; rfl) (by decide) rfl (fun ls hl => ?_)
      refine lv_goto (tgt := 31) hx hb dX7_reached_101 (by decide) ?_
      exact ih (kf - 1) (by omega) z_7 st_b_5 H locs ls hT hI hE hM (by omega) (by omega) (by have e0_ : (0 : Int32).toInt = 0 := (by decide); omega) (lv_sub hl [0, 1, 2] rfl)
set_option maxHeartbeats 4000000 in
set_option maxRecDepth 100000 in
theorem lt_m_reached_a (l : Launch) (D : va_G) (cI cZ cS cR : ClassId) (N0 : NT) (g : GS) (h : Nat) (r_h : g.1 h = 8) {p : Program} {e : Env} {s : State} {m : MethodId} {args : Array Value} {below : List Frame} {meth : Method} {c : Code} (hB : Tz p s m meth c args cX7_reached 4 RX7 D cI cZ cS cR N0) (hr : meth.sig.returnType = (some .int))    : ∀ (kf : Nat) (i : Int32) (st : Int32)  (H : Heap) (locs : List Loc) (ls : Array Slot), Tv D cI cZ cS cR N0 s.heap H locs g → Inv g → Ex g g → Sm md_m_reached g g → 0 ≤ i.toInt → i.toInt ≤ 6 → (6 ≤ i.toInt + kf) → lv_has ls 4 [(2, .int i), (1, .int st), (0, .ref h)] → W p l e (rmx 3 0 0) s m args below meth c H locs 0 0 (MQ below (tQ D cI cZ cS cR N0 (fun v g' => ∃ (r : Int32), v = some (.int r) ∧ g' = g)) args s 0 0 (fun q => N0.1 ≤ q)) (F0 m 4 ls []) := by
  have hx := hB.1
  have hb := hB.2.1
  intro kf
  induction kf using Nat.strongRecOn with
  | ind kf ih =>
    intro i st H locs ls hT hI hE hM l_i u_i hk hl
    have r_1 : g.1 h = 8 := Ex.r hE r_h (by decide)
    refine lv_iload_n hx hb dX7_reached_4 rfl (lv_at hl 0 rfl) ?_
    refine lv_aload_n hx hb dX7_reached_5 rfl (lv_at hl 2 rfl) ?_
    obtain ⟨v_2, e_v_2, l_v_2, u_v_2⟩ := f_8_30 hI r_1
    refine t_get (ci := 7) (v := .int v_2) hB hT (ro_ci r_1 rfl) rfl 30 (by decide) k_775 e_v_2 dX7_reached_6 ?_
    refine lv_icmp_ge (tgt := 29) hx hb dX7_reached_9 (by decide) (fun c_3 => ?_) (fun c_3 => ?_)
    · have c_3' : v_2.toInt ≤ i.toInt := i_le c_3 rfl rfl
      refine lv_iconst (v := 0) hx hb dX7_reached_29 (by decide) ?_
      refine lv_istore_n (lv' := [(2, .int 0), (1, .int st), (0, .ref h)]) hx hb dX7_reached_30 rfl hl (by decide) rfl (fun ls hl => ?_)
      exact lt_m_reached_b l D cI cZ cS cR N0 g h r_h hB hr   6 (0 : Int32) st H locs ls hT hI hE hM (by decide) (by decide) (by have e0_ : (0 : Int32).toInt = 0 := (by decide); omega) (lv_sub hl [0, 1, 2] rfl)
    · have c_3' : i.toInt < v_2.toInt := i_nle c_3 rfl rfl
      refine lv_iload_n hx hb dX7_reached_12 rfl (lv_at hl 1 rfl) ?_
      refine lv_iconst (v := 1) hx hb dX7_reached_13 (by decide) ?_
      refine lv_aload_n hx hb dX7_reached_14 rfl (lv_at hl 2 rfl) ?_
      obtain ⟨v_4, e_v_4, r_v_4, n_v_4⟩ := f_8_31 hI r_1
      refine t_get (ci := 7) (v := .ref v_4) hB hT (ro_ci r_1 rfl) rfl 31 (by decide) k_776 e_v_4 dX7_reached_15 ?_
      refine lv_iload_n hx hb dX7_reached_18 rfl (lv_at hl 0 rfl) ?_
      have i_u_5 : vp_in i 6 := (i_in (n := 6) rfl (by omega) (by omega))
      refine t_iald hB hT (ro_in r_v_4 (by decide)) n_v_4 i_u_5 rfl dX7_reached_19 ?_
      have c_u_5 := hI.c r_v_4 n_v_4 (i_cl i_u_5)
      refine lv_topi (fun u_5 e_u_5 => ?_)
      obtain ⟨l_u_5, u_u_5⟩ := c_u_5
      rw [← e_u_5] at l_u_5 u_u_5
      refine lv_ishl hx hb dX7_reached_20 ?_
      refine lv_topi (fun z_6 ez_6 => ?_)
      refine lv_ior hx hb dX7_reached_21 ?_
      refine lv_topi (fun z_7 ez_7 => ?_)
      refine lv_istore_n (lv' := [(1, .int z_7), (2, .int i), (0, .ref h)]) hx hb dX7_reached_22 rfl hl (by decide) rfl (fun ls hl => ?_)
      obtain ⟨z_8, ez_8⟩ : ∃ z : Int32, z = i + 1 := ⟨_, rfl⟩
      have e_z_8 : z_8.toInt = i.toInt + 1 := i_add ez_8 rfl (by decide) (by omega) (by omega)
      refine lv_iinc (v := z_8) (lv' := [(2, .int z_8), (1, .int z_7), (0, .ref h)]) hx hb dX7_reached_23 hl (k := 1) rfl (by rw [ez_8]; rfl) (by decide) rfl (fun ls hl => ?_)
      refine lv_goto (tgt := 4) hx hb dX7_reached_26 (by decide) ?_
      exact ih (kf - 1) (by omega) z_8 z_7 H locs ls hT hI hE hM (by omega) (by omega) (by have e0_ : (0 : Int32).toInt = 0 := (by decide); omega) (lv_sub hl [0, 1, 2] rfl)
set_option maxHeartbeats 4000000 in
set_option maxRecDepth 100000 in
theorem m_reached (l : Launch) (D : va_G) (cI cZ cS cR : ClassId) (N0 : NT) (g : GS) (hI : Inv g) (h : Nat) (r_h : g.1 h = 8) : Ty l D cI cZ cS cR N0 yX7_reached cX7_reached 4 (some .int) 3 0 0 [.ref h] g (fun v g' => ∃ (r : Int32), v = some (.int r) ∧ g' = g) := by
  refine t_enter (by decide) (Nat.le_of_ble_eq_true rfl) ?_
  intro p e s m args below meth c ls H locs hB hr hin hl hT
  have hx := hB.1
  have hb := hB.2.1
  have hl : lv_has ls 4 [(0, .ref h)] := hl
  have hE : Ex g g := Ex.rf
  have hM : Sm md_m_reached g g := Sm.rf
  refine lv_iconst (v := 0) hx hb dX7_reached_0 (by decide) ?_
  refine lv_istore_n (lv' := [(1, .int 0), (0, .ref h)]) hx hb dX7_reached_1 rfl hl (by decide) rfl (fun ls hl => ?_)
  refine lv_iconst (v := 0) hx hb dX7_reached_2 (by decide) ?_
  refine lv_istore_n (lv' := [(2, .int 0), (1, .int 0), (0, .ref h)]) hx hb dX7_reached_3 rfl hl (by decide) rfl (fun ls hl => ?_)
  exact lt_m_reached_a l D cI cZ cS cR N0 g h r_h hB hr   6 (0 : Int32) (0 : Int32) H locs ls hT hI hE hM (by decide) (by decide) (by have e0_ : (0 : Int32).toInt = 0 := (by decide); omega) (lv_sub hl [0, 1, 2] rfl)
abbrev md_m_bits : Nat → Nat → Bool := mdf []
set_option maxHeartbeats 4000000 in
set_option maxRecDepth 100000 in
theorem lt_m_bits_a (l : Launch) (D : va_G) (cI cZ cS cR : ClassId) (N0 : NT) (g : GS) (n : Int32)  {p : Program} {e : Env} {s : State} {m : MethodId} {args : Array Value} {below : List Frame} {meth : Method} {c : Code} (hB : Tz p s m meth c args cX7_bits 3 RX7 D cI cZ cS cR N0) (hr : meth.sig.returnType = (some .int))    : ∀ (kf : Nat) (i : Int32) (v : Int32)  (H : Heap) (locs : List Loc) (ls : Array Slot), Tv D cI cZ cS cR N0 s.heap H locs g → Inv g → Ex g g → Sm md_m_bits g g → 0 ≤ i.toInt → i.toInt ≤ 6 → (6 ≤ i.toInt + kf) → lv_has ls 3 [(2, .int i), (1, .int v), (0, .int n)] → W p l e (rmx 0 0 0) s m args below meth c H locs 0 0 (MQ below (tQ D cI cZ cS cR N0 (fun v g' => ∃ (r : Int32), v = some (.int r) ∧ g' = g)) args s 0 0 (fun q => N0.1 ≤ q)) (F0 m 4 ls []) := by
  have hx := hB.1
  have hb := hB.2.1
  intro kf
  induction kf using Nat.strongRecOn with
  | ind kf ih =>
    intro i v H locs ls hT hI hE hM l_i u_i hk hl
    refine lv_iload_n hx hb dX7_bits_4 rfl (lv_at hl 0 rfl) ?_
    refine lv_bipush (v := 6) hx hb dX7_bits_5 (by decide) ?_
    refine lv_icmp_ge (tgt := 24) hx hb dX7_bits_7 (by decide) (fun c_1 => ?_) (fun c_1 => ?_)
    · have c_1' : 6 ≤ i.toInt := i_le c_1 (by decide) rfl
      refine lv_iload_n hx hb dX7_bits_24 rfl (lv_at hl 1 rfl) ?_
      exact t_iret hB hr hT (Nat.le_of_ble_eq_true rfl) (Nat.le_of_ble_eq_true rfl) dX7_bits_25 ⟨v, rfl, rfl⟩
    · have c_1' : i.toInt < 6 := i_nle c_1 (by decide) rfl
      refine lv_iload_n hx hb dX7_bits_10 rfl (lv_at hl 1 rfl) ?_
      refine lv_iload_n hx hb dX7_bits_11 rfl (lv_at hl 2 rfl) ?_
      refine lv_iload_n hx hb dX7_bits_12 rfl (lv_at hl 0 rfl) ?_
      refine lv_ishr hx hb dX7_bits_13 ?_
      refine lv_topi (fun z_2 ez_2 => ?_)
      refine lv_iconst (v := 1) hx hb dX7_bits_14 (by decide) ?_
      refine lv_iand hx hb dX7_bits_15 ?_
      refine lv_topi (fun z_3 ez_3 => ?_)
      have e_z_3 := i_and 1 (b := 1) ez_3 (by decide) (by decide) (by decide)
      refine lv_iadd hx hb dX7_bits_16 ?_
      refine lv_topi (fun z_4 ez_4 => ?_)
      refine lv_istore_n (lv' := [(1, .int z_4), (2, .int i), (0, .int n)]) hx hb dX7_bits_17 rfl hl (by decide) rfl (fun ls hl => ?_)
      obtain ⟨z_5, ez_5⟩ : ∃ z : Int32, z = i + 1 := ⟨_, rfl⟩
      have e_z_5 : z_5.toInt = i.toInt + 1 := i_add ez_5 rfl (by decide) (by omega) (by omega)
      refine lv_iinc (v := z_5) (lv' := [(2, .int z_5), (1, .int z_4), (0, .int n)]) hx hb dX7_bits_18 hl (k := 1) rfl (by rw [ez_5]; rfl) (by decide) rfl (fun ls hl => ?_)
      refine lv_goto (tgt := 4) hx hb dX7_bits_21 (by decide) ?_
      exact ih (kf - 1) (by omega) z_5 z_4 H locs ls hT hI hE hM (by omega) (by omega) (by have e0_ : (0 : Int32).toInt = 0 := (by decide); omega) (lv_sub hl [0, 1, 2] rfl)
set_option maxHeartbeats 4000000 in
set_option maxRecDepth 100000 in
theorem m_bits (l : Launch) (D : va_G) (cI cZ cS cR : ClassId) (N0 : NT) (g : GS) (hI : Inv g) (n : Int32)  : Ty l D cI cZ cS cR N0 yX7_bits cX7_bits 3 (some .int) 0 0 0 [.int n] g (fun v g' => ∃ (r : Int32), v = some (.int r) ∧ g' = g) := by
  refine t_enter (by decide) (Nat.le_of_ble_eq_true rfl) ?_
  intro p e s m args below meth c ls H locs hB hr hin hl hT
  have hx := hB.1
  have hb := hB.2.1
  have hl : lv_has ls 3 [(0, .int n)] := hl
  have hE : Ex g g := Ex.rf
  have hM : Sm md_m_bits g g := Sm.rf
  refine lv_iconst (v := 0) hx hb dX7_bits_0 (by decide) ?_
  refine lv_istore_n (lv' := [(1, .int 0), (0, .int n)]) hx hb dX7_bits_1 rfl hl (by decide) rfl (fun ls hl => ?_)
  refine lv_iconst (v := 0) hx hb dX7_bits_2 (by decide) ?_
  refine lv_istore_n (lv' := [(2, .int 0), (1, .int 0), (0, .int n)]) hx hb dX7_bits_3 rfl hl (by decide) rfl (fun ls hl => ?_)
  exact lt_m_bits_a l D cI cZ cS cR N0 g n  hB hr   6 (0 : Int32) (0 : Int32) H locs ls hT hI hE hM (by decide) (by decide) (by have e0_ : (0 : Int32).toInt = 0 := (by decide); omega) (lv_sub hl [0, 1, 2] rfl)
abbrev md_m_spread : Nat → Nat → Bool := mdf []
set_option maxHeartbeats 4000000 in
set_option maxRecDepth 100000 in
theorem lt_m_spread_a (l : Launch) (D : va_G) (cI cZ cS cR : ClassId) (N0 : NT) (g : GS) (h : Nat) (n : Int32) (k : Int32) (r_h : g.1 h = 8) {p : Program} {e : Env} {s : State} {m : MethodId} {args : Array Value} {below : List Frame} {meth : Method} {c : Code} (hB : Tz p s m meth c args cX7_spread 6 RX7 D cI cZ cS cR N0) (hr : meth.sig.returnType = (some .int))    : ∀ (kf : Nat) (i : Int32) (v : Int32) (le : Int32)  (H : Heap) (locs : List Loc) (ls : Array Slot), Tv D cI cZ cS cR N0 s.heap H locs g → Inv g → Ex g g → Sm md_m_spread g g → 0 ≤ i.toInt → i.toInt ≤ 6 → (6 ≤ i.toInt + kf) → lv_has ls 6 [(5, .int i), (4, .int v), (3, .int le), (0, .ref h), (1, .int n), (2, .int k)] → W p l e (rmx 0 0 0) s m args below meth c H locs 0 0 (MQ below (tQ D cI cZ cS cR N0 (fun v g' => ∃ (r : Int32), v = some (.int r) ∧ g' = g)) args s 0 0 (fun q => N0.1 ≤ q)) (F0 m 8 ls []) := by
  have hx := hB.1
  have hb := hB.2.1
  intro kf
  induction kf using Nat.strongRecOn with
  | ind kf ih =>
    intro i v le H locs ls hT hI hE hM l_i u_i hk hl
    have r_1 : g.1 h = 8 := Ex.r hE r_h (by decide)
    refine lv_iload hx hb dX7_spread_8 (lv_at hl 0 rfl) ?_
    refine lv_bipush (v := 6) hx hb dX7_spread_10 (by decide) ?_
    refine lv_icmp_ge (tgt := 50) hx hb dX7_spread_12 (by decide) (fun c_2 => ?_) (fun c_2 => ?_)
    · have c_2' : 6 ≤ i.toInt := i_le c_2 (by decide) rfl
      refine lv_iload hx hb dX7_spread_50 (lv_at hl 1 rfl) ?_
      exact t_iret hB hr hT (Nat.le_of_ble_eq_true rfl) (Nat.le_of_ble_eq_true rfl) dX7_spread_52 ⟨v, rfl, rfl⟩
    · have c_2' : i.toInt < 6 := i_nle c_2 (by decide) rfl
      refine lv_iload_n hx hb dX7_spread_15 rfl (lv_at hl 5 rfl) ?_
      refine lv_iload hx hb dX7_spread_16 (lv_at hl 0 rfl) ?_
      refine lv_ishr hx hb dX7_spread_18 ?_
      refine lv_topi (fun z_3 ez_3 => ?_)
      refine lv_iconst (v := 1) hx hb dX7_spread_19 (by decide) ?_
      refine lv_iand hx hb dX7_spread_20 ?_
      refine lv_topi (fun z_4 ez_4 => ?_)
      have e_z_4 := i_and 1 (b := 1) ez_4 (by decide) (by decide) (by decide)
      refine lv_iconst (v := 1) hx hb dX7_spread_21 (by decide) ?_
      refine lv_icmp_ne (tgt := 44) hx hb dX7_spread_22 (by decide) (fun c_5 => ?_) (fun c_5 => ?_)
      · have c_5' : z_4.toInt ≠ 1 := i_ne c_5 rfl (by decide)
        obtain ⟨z_6, ez_6⟩ : ∃ z : Int32, z = i + 1 := ⟨_, rfl⟩
        have e_z_6 : z_6.toInt = i.toInt + 1 := i_add ez_6 rfl (by decide) (by omega) (by omega)
        refine lv_iinc (v := z_6) (lv' := [(5, .int z_6), (4, .int v), (3, .int le), (0, .ref h), (1, .int n), (2, .int k)]) hx hb dX7_spread_44 hl (k := 0) rfl (by rw [ez_6]; rfl) (by decide) rfl (fun ls hl => ?_)
        refine lv_goto (tgt := 8) hx hb dX7_spread_47 (by decide) ?_
        exact ih (kf - 1) (by omega) z_6 v le H locs ls hT hI hE hM (by omega) (by omega) (by have e0_ : (0 : Int32).toInt = 0 := (by decide); omega) (lv_sub hl [0, 1, 2, 3, 4, 5] rfl)
      · have c_5' : z_4.toInt = 1 := i_eq c_5 rfl (by decide)
        refine lv_iload hx hb dX7_spread_25 (lv_at hl 1 rfl) ?_
        refine lv_iload_n hx hb dX7_spread_27 rfl (lv_at hl 2 rfl) ?_
        refine lv_bipush (v := 16) hx hb dX7_spread_28 (by decide) ?_
        refine lv_irem hx hb dX7_spread_30 (by decide) ?_
        refine lv_topi (fun z_7 ez_7 => ?_)
        refine lv_iconst (v := 4) hx hb dX7_spread_31 (by decide) ?_
        refine lv_iload hx hb dX7_spread_32 (lv_at hl 0 rfl) ?_
        refine lv_imul hx hb dX7_spread_34 ?_
        refine lv_topi (fun z_8 ez_8 => ?_)
        have e_z_8 : z_8.toInt = 4 * i.toInt := i_mul ez_8 (by decide) rfl (by omega) (by omega)
        refine lv_ishl hx hb dX7_spread_35 ?_
        refine lv_topi (fun z_9 ez_9 => ?_)
        refine lv_ior hx hb dX7_spread_36 ?_
        refine lv_topi (fun z_10 ez_10 => ?_)
        refine lv_istore (lv' := [(4, .int z_10), (5, .int i), (3, .int le), (0, .ref h), (1, .int n), (2, .int k)]) hx hb dX7_spread_37 hl (by decide) rfl (fun ls hl => ?_)
        refine lv_iload_n hx hb dX7_spread_39 rfl (lv_at hl 2 rfl) ?_
        refine lv_bipush (v := 16) hx hb dX7_spread_40 (by decide) ?_
        refine lv_idiv hx hb dX7_spread_42 (by decide) ?_
        refine lv_topi (fun z_11 ez_11 => ?_)
        refine lv_istore_n (lv' := [(3, .int z_11), (4, .int z_10), (5, .int i), (0, .ref h), (1, .int n), (2, .int k)]) hx hb dX7_spread_43 rfl hl (by decide) rfl (fun ls hl => ?_)
        obtain ⟨z_12, ez_12⟩ : ∃ z : Int32, z = i + 1 := ⟨_, rfl⟩
        have e_z_12 : z_12.toInt = i.toInt + 1 := i_add ez_12 rfl (by decide) (by omega) (by omega)
        refine lv_iinc (v := z_12) (lv' := [(5, .int z_12), (3, .int z_11), (4, .int z_10), (0, .ref h), (1, .int n), (2, .int k)]) hx hb dX7_spread_44 hl (k := 2) rfl (by rw [ez_12]; rfl) (by decide) rfl (fun ls hl => ?_)
        refine lv_goto (tgt := 8) hx hb dX7_spread_47 (by decide) ?_
        exact ih (kf - 1) (by omega) z_12 z_10 z_11 H locs ls hT hI hE hM (by omega) (by omega) (by have e0_ : (0 : Int32).toInt = 0 := (by decide); omega) (lv_sub hl [0, 2, 1, 3, 4, 5] rfl)
set_option maxHeartbeats 4000000 in
set_option maxRecDepth 100000 in
theorem m_spread (l : Launch) (D : va_G) (cI cZ cS cR : ClassId) (N0 : NT) (g : GS) (hI : Inv g) (h : Nat) (n : Int32) (k : Int32) (r_h : g.1 h = 8) : Ty l D cI cZ cS cR N0 yX7_spread cX7_spread 6 (some .int) 0 0 0 [.ref h, .int n, .int k] g (fun v g' => ∃ (r : Int32), v = some (.int r) ∧ g' = g) := by
  refine t_enter (by decide) (Nat.le_of_ble_eq_true rfl) ?_
  intro p e s m args below meth c ls H locs hB hr hin hl hT
  have hx := hB.1
  have hb := hB.2.1
  have hl : lv_has ls 6 [(0, .ref h), (1, .int n), (2, .int k)] := hl
  have hE : Ex g g := Ex.rf
  have hM : Sm md_m_spread g g := Sm.rf
  refine lv_iload_n hx hb dX7_spread_0 rfl (lv_at hl 1 rfl) ?_
  refine lv_istore_n (lv' := [(3, .int n), (0, .ref h), (1, .int n), (2, .int k)]) hx hb dX7_spread_1 rfl hl (by decide) rfl (fun ls hl => ?_)
  refine lv_iconst (v := 0) hx hb dX7_spread_2 (by decide) ?_
  refine lv_istore (lv' := [(4, .int 0), (3, .int n), (0, .ref h), (1, .int n), (2, .int k)]) hx hb dX7_spread_3 hl (by decide) rfl (fun ls hl => ?_)
  refine lv_iconst (v := 0) hx hb dX7_spread_5 (by decide) ?_
  refine lv_istore (lv' := [(5, .int 0), (4, .int 0), (3, .int n), (0, .ref h), (1, .int n), (2, .int k)]) hx hb dX7_spread_6 hl (by decide) rfl (fun ls hl => ?_)
  exact lt_m_spread_a l D cI cZ cS cR N0 g h n k r_h hB hr   6 (0 : Int32) (0 : Int32) n H locs ls hT hI hE hM (by decide) (by decide) (by have e0_ : (0 : Int32).toInt = 0 := (by decide); omega) (lv_sub hl [0, 1, 2, 3, 4, 5] rfl)
abbrev md_m_cheapest : Nat → Nat → Bool := mdf [(8, 21), (8, 49), (8, 50), (8, 51), (8, 52), (8, 60), (40, 99), (50, 99), (51, 99), (54, 99), (55, 99), (56, 99), (58, 99), (74, 99)]
theorem mdle_m_cheapest_m_worstOf {r k : Nat} (h : md_m_cheapest r k = false) : md_m_worstOf r k = false := mdf_le (by decide +kernel) h
set_option maxHeartbeats 4000000 in
set_option maxRecDepth 100000 in
theorem lt_m_cheapest_e (l : Launch) (D : va_G) (cI cZ cS cR : ClassId) (N0 : NT) (g : GS) (h : Nat) (n : Int32) (r_h : g.1 h = 8) (hw : PX 48 2 3 71 72 g h) {p : Program} {e : Env} {s : State} {m : MethodId} {args : Array Value} {below : List Frame} {meth : Method} {c : Code} (hB : Tz p s m meth c args cX7_cheapest 10 RX7 D cI cZ cS cR N0) (hr : meth.sig.returnType = (some .int))    : ∀ (kf : Nat) (g1 : GS) (i : Int32) (be : Int32) (lt : Int32)  (H : Heap) (locs : List Loc) (ls : Array Slot), Tv D cI cZ cS cR N0 s.heap H locs g1 → Inv g1 → Ex g g1 → Sm md_m_cheapest g g1 → 0 ≤ i.toInt → i.toInt ≤ 6 → (6 ≤ i.toInt + kf) → lv_has ls 10 [(6, .int i), (5, .int lt), (4, .int be), (0, .ref h), (1, .int n)] → W p l e (rmx 9 0 0) s m args below meth c H locs 0 0 (MQ below (tQ D cI cZ cS cR N0 (fun v g' => ∃ (r : Int32), v = some (.int r) ∧ Inv g' ∧ Ex g g' ∧ Sm md_m_cheapest g g')) args s 0 0 (fun q => N0.1 ≤ q)) (F0 m 226 ls []) := by
  have hx := hB.1
  have hb := hB.2.1
  intro kf
  induction kf using Nat.strongRecOn with
  | ind kf ih =>
    intro g1 i be lt H locs ls hT hI hE hM l_i u_i hk hl
    have r_1 : g1.1 h = 8 := Ex.r hE r_h (by decide)
    refine lv_iload hx hb dX7_cheapest_226 (lv_at hl 0 rfl) ?_
    refine lv_bipush (v := 6) hx hb dX7_cheapest_228 (by decide) ?_
    refine lv_icmp_ge (tgt := 253) hx hb dX7_cheapest_230 (by decide) (fun c_2 => ?_) (fun c_2 => ?_)
    · have c_2' : 6 ≤ i.toInt := i_le c_2 (by decide) rfl
      refine lv_iload hx hb dX7_cheapest_253 (lv_at hl 2 rfl) ?_
      refine lv_iconst (v := (-1)) hx hb dX7_cheapest_255 (by decide) ?_
      refine lv_icmp_ne (tgt := 263) hx hb dX7_cheapest_256 (by decide) (fun c_3 => ?_) (fun c_3 => ?_)
      · have c_3' : be.toInt ≠ (-1) := i_ne c_3 rfl (by decide)
        refine lv_iload_n hx hb dX7_cheapest_263 rfl (lv_at hl 4 rfl) ?_
        refine lv_if_ne (tgt := 272) hx hb dX7_cheapest_264 (by decide) (fun c_4 => ?_) (fun c_4 => ?_)
        · have c_4' : n.toInt ≠ 0 := i_ne c_4 rfl (by decide)
          refine lv_iload hx hb dX7_cheapest_272 (lv_at hl 2 rfl) ?_
          exact t_iret hB hr hT (Nat.le_of_ble_eq_true rfl) (Nat.le_of_ble_eq_true rfl) dX7_cheapest_274 ⟨be, rfl, hI, hE, hM⟩
        · have c_4' : n.toInt = 0 := i_eq c_4 rfl (by decide)
          refine lv_iload hx hb dX7_cheapest_267 (lv_at hl 1 rfl) ?_
          refine lv_goto (tgt := 274) hx hb dX7_cheapest_269 (by decide) ?_
          exact t_iret hB hr hT (Nat.le_of_ble_eq_true rfl) (Nat.le_of_ble_eq_true rfl) dX7_cheapest_274 ⟨lt, rfl, hI, hE, hM⟩
      · have c_3' : be.toInt = (-1) := i_eq c_3 rfl (by decide)
        refine lv_iconst (v := (-1)) hx hb dX7_cheapest_259 (by decide) ?_
        refine lv_goto (tgt := 274) hx hb dX7_cheapest_260 (by decide) ?_
        exact t_iret hB hr hT (Nat.le_of_ble_eq_true rfl) (Nat.le_of_ble_eq_true rfl) dX7_cheapest_274 ⟨(-1), rfl, hI, hE, hM⟩
    · have c_2' : i.toInt < 6 := i_nle c_2 (by decide) rfl
      refine lv_aload_n hx hb dX7_cheapest_233 rfl (lv_at hl 3 rfl) ?_
      obtain ⟨v_5, e_v_5, r_v_5, n_v_5⟩ := f_8_5 hI r_1
      refine t_get (ci := 7) (v := .ref v_5) hB hT (ro_ci r_1 rfl) rfl 5 (by decide) k_750 e_v_5 dX7_cheapest_234 ?_
      refine lv_iload hx hb dX7_cheapest_237 (lv_at hl 0 rfl) ?_
      refine lv_aload_n hx hb dX7_cheapest_239 rfl (lv_at hl 3 rfl) ?_
      obtain ⟨v_6, e_v_6, r_v_6, n_v_6⟩ := f_8_66 hI r_1
      refine t_get (ci := 7) (v := .ref v_6) hB hT (ro_ci r_1 rfl) rfl 66 (by decide) k_811 e_v_6 dX7_cheapest_240 ?_
      refine lv_iload hx hb dX7_cheapest_243 (lv_at hl 0 rfl) ?_
      have i_u_7 : vp_in i 6 := (i_in (n := 6) rfl (by omega) (by omega))
      refine t_iald hB hT (ro_in r_v_6 (by decide)) n_v_6 i_u_7 rfl dX7_cheapest_245 ?_
      refine lv_topi (fun u_7 e_u_7 => ?_)
      have i_8 : vp_in i 6 := (i_in (n := 6) rfl (by omega) (by omega))
      refine t_iast hB hT (ro_in r_v_5 (by decide)) n_v_5 i_8 dX7_cheapest_246 (fun H locs hT => ?_)
      have hI : Inv (sC g1 v_5 i.toNatClampNeg u_7) := hI.sC (ck r_v_5 trivial)
      have hM : Sm md_m_cheapest g (sC g1 v_5 i.toNatClampNeg u_7) := hM.tr hE (Sm_sC (by rw [r_v_5]; rfl))
      have hE : Ex g (sC g1 v_5 i.toNatClampNeg u_7) := hE
      obtain ⟨z_9, ez_9⟩ : ∃ z : Int32, z = i + 1 := ⟨_, rfl⟩
      have e_z_9 : z_9.toInt = i.toInt + 1 := i_add ez_9 rfl (by decide) (by omega) (by omega)
      refine lv_iinc (v := z_9) (lv' := [(6, .int z_9), (5, .int lt), (4, .int be), (0, .ref h), (1, .int n)]) hx hb dX7_cheapest_247 hl (k := 0) rfl (by rw [ez_9]; rfl) (by decide) rfl (fun ls hl => ?_)
      refine lv_goto (tgt := 226) hx hb dX7_cheapest_250 (by decide) ?_
      exact ih (kf - 1) (by omega) (sC g1 v_5 i.toNatClampNeg u_7) z_9 be lt H locs ls hT hI hE hM (by omega) (by omega) (by have e0_ : (0 : Int32).toInt = 0 := (by decide); omega) (lv_sub hl [0, 1, 2, 3, 4] rfl)
set_option maxHeartbeats 4000000 in
set_option maxRecDepth 100000 in
theorem lt_m_cheapest_c (l : Launch) (D : va_G) (cI cZ cS cR : ClassId) (N0 : NT) (g : GS) (h : Nat) (n : Int32) (r_h : g.1 h = 8) (hw : PX 48 2 3 71 72 g h) {p : Program} {e : Env} {s : State} {m : MethodId} {args : Array Value} {below : List Frame} {meth : Method} {c : Code} (hB : Tz p s m meth c args cX7_cheapest 10 RX7 D cI cZ cS cR N0) (hr : meth.sig.returnType = (some .int)) (xx : Int32) (lt : Int32) (be : Int32) (mo : Int32) (se : Int32) (nb : Int32) (l_xx : 0 ≤ xx.toInt) (u_xx : xx.toInt ≤ 2147483646)      (K : ∀ (g1 : GS) (co : Int32)  (H : Heap) (locs : List Loc) (ls : Array Slot), Tv D cI cZ cS cR N0 s.heap H locs g1 → Inv g1 → Ex g g1 → Sm md_m_cheapest g g1 → lv_has ls 10 [(8, .int co), (6, .int xx), (5, .int lt), (4, .int be), (7, .int mo), (2, .int se), (3, .int nb), (0, .ref h), (1, .int n)] → W p l e (rmx 9 0 0) s m args below meth c H locs 0 0 (MQ below (tQ D cI cZ cS cR N0 (fun v g' => ∃ (r : Int32), v = some (.int r) ∧ Inv g' ∧ Ex g g' ∧ Sm md_m_cheapest g g')) args s 0 0 (fun q => N0.1 ≤ q)) (F0 m 147 ls [])) : ∀ (kf : Nat) (g1 : GS) (i : Int32) (co : Int32)  (H : Heap) (locs : List Loc) (ls : Array Slot), Tv D cI cZ cS cR N0 s.heap H locs g1 → Inv g1 → Ex g g1 → Sm md_m_cheapest g g1 → 0 ≤ i.toInt → i.toInt ≤ 24 → (24 ≤ i.toInt + kf) → lv_has ls 10 [(9, .int i), (8, .int co), (6, .int xx), (5, .int lt), (4, .int be), (7, .int mo), (2, .int se), (3, .int nb), (0, .ref h), (1, .int n)] → W p l e (rmx 9 0 0) s m args below meth c H locs 0 0 (MQ below (tQ D cI cZ cS cR N0 (fun v g' => ∃ (r : Int32), v = some (.int r) ∧ Inv g' ∧ Ex g g' ∧ Sm md_m_cheapest g g')) args s 0 0 (fun q => N0.1 ≤ q)) (F0 m 105 ls []) := by
  have hx := hB.1
  have hb := hB.2.1
  intro kf
  induction kf using Nat.strongRecOn with
  | ind kf ih =>
    intro g1 i co H locs ls hT hI hE hM l_i u_i hk hl
    have r_1 : g1.1 h = 8 := Ex.r hE r_h (by decide)
    refine lv_iload hx hb dX7_cheapest_105 (lv_at hl 0 rfl) ?_
    refine lv_bipush (v := 24) hx hb dX7_cheapest_107 (by decide) ?_
    refine lv_icmp_ge (tgt := 147) hx hb dX7_cheapest_109 (by decide) (fun c_2 => ?_) (fun c_2 => ?_)
    · have c_2' : 24 ≤ i.toInt := i_le c_2 (by decide) rfl
      exact K g1 co H locs ls hT hI hE hM (lv_sub hl [1, 2, 3, 4, 5, 6, 7, 8, 9] rfl)
    · have c_2' : i.toInt < 24 := i_nle c_2 (by decide) rfl
      refine lv_iload hx hb dX7_cheapest_112 (lv_at hl 1 rfl) ?_
      refine lv_iload hx hb dX7_cheapest_114 (lv_at hl 5 rfl) ?_
      refine lv_iload hx hb dX7_cheapest_116 (lv_at hl 0 rfl) ?_
      refine lv_ishr hx hb dX7_cheapest_118 ?_
      refine lv_topi (fun z_3 ez_3 => ?_)
      refine lv_iconst (v := 1) hx hb dX7_cheapest_119 (by decide) ?_
      refine lv_iand hx hb dX7_cheapest_120 ?_
      refine lv_topi (fun z_4 ez_4 => ?_)
      have e_z_4 := i_and 1 (b := 1) ez_4 (by decide) (by decide) (by decide)
      refine lv_iconst (v := 1) hx hb dX7_cheapest_121 (by decide) ?_
      refine lv_icmp_ne (tgt := 137) hx hb dX7_cheapest_122 (by decide) (fun c_5 => ?_) (fun c_5 => ?_)
      · have c_5' : z_4.toInt ≠ 1 := i_ne c_5 rfl (by decide)
        refine lv_iconst (v := 0) hx hb dX7_cheapest_137 (by decide) ?_
        refine lv_iadd hx hb dX7_cheapest_138 ?_
        refine lv_topi (fun z_6 ez_6 => ?_)
        refine lv_istore (lv' := [(8, .int z_6), (9, .int i), (6, .int xx), (5, .int lt), (4, .int be), (7, .int mo), (2, .int se), (3, .int nb), (0, .ref h), (1, .int n)]) hx hb dX7_cheapest_139 hl (by decide) rfl (fun ls hl => ?_)
        obtain ⟨z_7, ez_7⟩ : ∃ z : Int32, z = i + 1 := ⟨_, rfl⟩
        have e_z_7 : z_7.toInt = i.toInt + 1 := i_add ez_7 rfl (by decide) (by omega) (by omega)
        refine lv_iinc (v := z_7) (lv' := [(9, .int z_7), (8, .int z_6), (6, .int xx), (5, .int lt), (4, .int be), (7, .int mo), (2, .int se), (3, .int nb), (0, .ref h), (1, .int n)]) hx hb dX7_cheapest_141 hl (k := 1) rfl (by rw [ez_7]; rfl) (by decide) rfl (fun ls hl => ?_)
        refine lv_goto (tgt := 105) hx hb dX7_cheapest_144 (by decide) ?_
        exact ih (kf - 1) (by omega) g1 z_7 z_6 H locs ls hT hI hE hM (by omega) (by omega) (by have e0_ : (0 : Int32).toInt = 0 := (by decide); omega) (lv_sub hl [0, 1, 2, 3, 4, 5, 6, 7, 8, 9] rfl)
      · have c_5' : z_4.toInt = 1 := i_eq c_5 rfl (by decide)
        refine lv_aload_n hx hb dX7_cheapest_125 rfl (lv_at hl 8 rfl) ?_
        obtain ⟨v_8, e_v_8, r_v_8, n_v_8⟩ := f_8_35 hI r_1
        refine t_get (ci := 7) (v := .ref v_8) hB hT (ro_ci r_1 rfl) rfl 35 (by decide) k_780 e_v_8 dX7_cheapest_126 ?_
        refine lv_iload hx hb dX7_cheapest_129 (lv_at hl 0 rfl) ?_
        refine lv_iconst (v := 4) hx hb dX7_cheapest_131 (by decide) ?_
        refine lv_irem hx hb dX7_cheapest_132 (by decide) ?_
        refine lv_topi (fun z_9 ez_9 => ?_)
        have e_z_9 := i_rem (a := i.toInt) (b := 4) ez_9 rfl (by decide) (by omega) (by omega)
        have i_u_10 : vp_in z_9 4 := (i_in (n := 4) rfl (by omega) (by omega))
        refine t_iald hB hT (ro_in r_v_8 (by decide)) n_v_8 i_u_10 rfl dX7_cheapest_133 ?_
        refine lv_topi (fun u_10 e_u_10 => ?_)
        refine lv_goto (tgt := 138) hx hb dX7_cheapest_134 (by decide) ?_
        refine lv_iadd hx hb dX7_cheapest_138 ?_
        refine lv_topi (fun z_11 ez_11 => ?_)
        refine lv_istore (lv' := [(8, .int z_11), (9, .int i), (6, .int xx), (5, .int lt), (4, .int be), (7, .int mo), (2, .int se), (3, .int nb), (0, .ref h), (1, .int n)]) hx hb dX7_cheapest_139 hl (by decide) rfl (fun ls hl => ?_)
        obtain ⟨z_12, ez_12⟩ : ∃ z : Int32, z = i + 1 := ⟨_, rfl⟩
        have e_z_12 : z_12.toInt = i.toInt + 1 := i_add ez_12 rfl (by decide) (by omega) (by omega)
        refine lv_iinc (v := z_12) (lv' := [(9, .int z_12), (8, .int z_11), (6, .int xx), (5, .int lt), (4, .int be), (7, .int mo), (2, .int se), (3, .int nb), (0, .ref h), (1, .int n)]) hx hb dX7_cheapest_141 hl (k := 1) rfl (by rw [ez_12]; rfl) (by decide) rfl (fun ls hl => ?_)
        refine lv_goto (tgt := 105) hx hb dX7_cheapest_144 (by decide) ?_
        exact ih (kf - 1) (by omega) g1 z_12 z_11 H locs ls hT hI hE hM (by omega) (by omega) (by have e0_ : (0 : Int32).toInt = 0 := (by decide); omega) (lv_sub hl [0, 1, 2, 3, 4, 5, 6, 7, 8, 9] rfl)
set_option maxHeartbeats 4000000 in
set_option maxRecDepth 100000 in
theorem lt_m_cheapest_d (l : Launch) (D : va_G) (cI cZ cS cR : ClassId) (N0 : NT) (g : GS) (h : Nat) (n : Int32) (r_h : g.1 h = 8) (hw : PX 48 2 3 71 72 g h) {p : Program} {e : Env} {s : State} {m : MethodId} {args : Array Value} {below : List Frame} {meth : Method} {c : Code} (hB : Tz p s m meth c args cX7_cheapest 10 RX7 D cI cZ cS cR N0) (hr : meth.sig.returnType = (some .int)) (xx : Int32) (lt : Int32) (be : Int32) (mo : Int32) (se : Int32) (nb : Int32) (co : Int32) (l_xx : 0 ≤ xx.toInt) (u_xx : xx.toInt ≤ 2147483646)       (K : ∀ (g1 : GS)   (H : Heap) (locs : List Loc) (ls : Array Slot), Tv D cI cZ cS cR N0 s.heap H locs g1 → Inv g1 → Ex g g1 → Sm md_m_cheapest g g1 → lv_has ls 10 [(8, .int co), (6, .int xx), (5, .int lt), (4, .int be), (7, .int mo), (2, .int se), (3, .int nb), (0, .ref h), (1, .int n)] → W p l e (rmx 9 0 0) s m args below meth c H locs 0 0 (MQ below (tQ D cI cZ cS cR N0 (fun v g' => ∃ (r : Int32), v = some (.int r) ∧ Inv g' ∧ Ex g g' ∧ Sm md_m_cheapest g g')) args s 0 0 (fun q => N0.1 ≤ q)) (F0 m 201 ls [])) : ∀ (kf : Nat) (g1 : GS) (i : Int32)  (H : Heap) (locs : List Loc) (ls : Array Slot), Tv D cI cZ cS cR N0 s.heap H locs g1 → Inv g1 → Ex g g1 → Sm md_m_cheapest g g1 → 0 ≤ i.toInt → i.toInt ≤ 6 → (6 ≤ i.toInt + kf) → lv_has ls 10 [(9, .int i), (8, .int co), (6, .int xx), (5, .int lt), (4, .int be), (7, .int mo), (2, .int se), (3, .int nb), (0, .ref h), (1, .int n)] → W p l e (rmx 9 0 0) s m args below meth c H locs 0 0 (MQ below (tQ D cI cZ cS cR N0 (fun v g' => ∃ (r : Int32), v = some (.int r) ∧ Inv g' ∧ Ex g g' ∧ Sm md_m_cheapest g g')) args s 0 0 (fun q => N0.1 ≤ q)) (F0 m 163 ls []) := by
  have hx := hB.1
  have hb := hB.2.1
  intro kf
  induction kf using Nat.strongRecOn with
  | ind kf ih =>
    intro g1 i H locs ls hT hI hE hM l_i u_i hk hl
    have r_1 : g1.1 h = 8 := Ex.r hE r_h (by decide)
    refine lv_iload hx hb dX7_cheapest_163 (lv_at hl 0 rfl) ?_
    refine lv_bipush (v := 6) hx hb dX7_cheapest_165 (by decide) ?_
    refine lv_icmp_ge (tgt := 201) hx hb dX7_cheapest_167 (by decide) (fun c_2 => ?_) (fun c_2 => ?_)
    · have c_2' : 6 ≤ i.toInt := i_le c_2 (by decide) rfl
      exact K g1 H locs ls hT hI hE hM (lv_sub hl [1, 2, 3, 4, 5, 6, 7, 8, 9] rfl)
    · have c_2' : i.toInt < 6 := i_nle c_2 (by decide) rfl
      refine lv_aload_n hx hb dX7_cheapest_170 rfl (lv_at hl 8 rfl) ?_
      obtain ⟨v_3, e_v_3, r_v_3, n_v_3⟩ := f_8_5 hI r_1
      refine t_get (ci := 7) (v := .ref v_3) hB hT (ro_ci r_1 rfl) rfl 5 (by decide) k_750 e_v_3 dX7_cheapest_171 ?_
      refine lv_iload hx hb dX7_cheapest_174 (lv_at hl 0 rfl) ?_
      refine lv_aload_n hx hb dX7_cheapest_176 rfl (lv_at hl 8 rfl) ?_
      obtain ⟨v_4, e_v_4, r_v_4, n_v_4⟩ := f_8_66 hI r_1
      refine t_get (ci := 7) (v := .ref v_4) hB hT (ro_ci r_1 rfl) rfl 66 (by decide) k_811 e_v_4 dX7_cheapest_177 ?_
      refine lv_iload hx hb dX7_cheapest_180 (lv_at hl 0 rfl) ?_
      have i_u_5 : vp_in i 6 := (i_in (n := 6) rfl (by omega) (by omega))
      refine t_iald hB hT (ro_in r_v_4 (by decide)) n_v_4 i_u_5 rfl dX7_cheapest_182 ?_
      refine lv_topi (fun u_5 e_u_5 => ?_)
      refine lv_iload hx hb dX7_cheapest_183 (lv_at hl 5 rfl) ?_
      refine lv_iconst (v := 4) hx hb dX7_cheapest_185 (by decide) ?_
      refine lv_iload hx hb dX7_cheapest_186 (lv_at hl 0 rfl) ?_
      refine lv_imul hx hb dX7_cheapest_188 ?_
      refine lv_topi (fun z_6 ez_6 => ?_)
      have e_z_6 : z_6.toInt = 4 * i.toInt := i_mul ez_6 (by decide) rfl (by omega) (by omega)
      refine lv_ishr hx hb dX7_cheapest_189 ?_
      refine lv_topi (fun z_7 ez_7 => ?_)
      refine lv_bipush (v := 15) hx hb dX7_cheapest_190 (by decide) ?_
      refine lv_iand hx hb dX7_cheapest_192 ?_
      refine lv_topi (fun z_8 ez_8 => ?_)
      have e_z_8 := i_and 4 (b := 15) ez_8 (by decide) (by decide) (by decide)
      refine lv_ior hx hb dX7_cheapest_193 ?_
      refine lv_topi (fun z_9 ez_9 => ?_)
      have i_10 : vp_in i 6 := (i_in (n := 6) rfl (by omega) (by omega))
      refine t_iast hB hT (ro_in r_v_3 (by decide)) n_v_3 i_10 dX7_cheapest_194 (fun H locs hT => ?_)
      have hI : Inv (sC g1 v_3 i.toNatClampNeg z_9) := hI.sC (ck r_v_3 trivial)
      have hM : Sm md_m_cheapest g (sC g1 v_3 i.toNatClampNeg z_9) := hM.tr hE (Sm_sC (by rw [r_v_3]; rfl))
      have hE : Ex g (sC g1 v_3 i.toNatClampNeg z_9) := hE
      obtain ⟨z_11, ez_11⟩ : ∃ z : Int32, z = i + 1 := ⟨_, rfl⟩
      have e_z_11 : z_11.toInt = i.toInt + 1 := i_add ez_11 rfl (by decide) (by omega) (by omega)
      refine lv_iinc (v := z_11) (lv' := [(9, .int z_11), (8, .int co), (6, .int xx), (5, .int lt), (4, .int be), (7, .int mo), (2, .int se), (3, .int nb), (0, .ref h), (1, .int n)]) hx hb dX7_cheapest_195 hl (k := 0) rfl (by rw [ez_11]; rfl) (by decide) rfl (fun ls hl => ?_)
      refine lv_goto (tgt := 163) hx hb dX7_cheapest_198 (by decide) ?_
      exact ih (kf - 1) (by omega) (sC g1 v_3 i.toNatClampNeg z_9) z_11 H locs ls hT hI hE hM (by omega) (by omega) (by have e0_ : (0 : Int32).toInt = 0 := (by decide); omega) (lv_sub hl [0, 1, 2, 3, 4, 5, 6, 7, 8, 9] rfl)
set_option maxHeartbeats 4000000 in
set_option maxRecDepth 100000 in
theorem lt_m_cheapest_b (l : Launch) (D : va_G) (cI cZ cS cR : ClassId) (N0 : NT) (g : GS) (h : Nat) (n : Int32) (r_h : g.1 h = 8) (hw : PX 48 2 3 71 72 g h) {p : Program} {e : Env} {s : State} {m : MethodId} {args : Array Value} {below : List Frame} {meth : Method} {c : Code} (hB : Tz p s m meth c args cX7_cheapest 10 RX7 D cI cZ cS cR N0) (hr : meth.sig.returnType = (some .int))    : ∀ (kf : Nat) (g1 : GS) (xx : Int32) (be : Int32) (lt : Int32) (se : Int32) (nb : Int32)  (H : Heap) (locs : List Loc) (ls : Array Slot), Tv D cI cZ cS cR N0 s.heap H locs g1 → Inv g1 → Ex g g1 → Sm md_m_cheapest g g1 → 0 ≤ xx.toInt → xx.toInt ≤ 2147483647 → (2147483648 ≤ xx.toInt + kf) → lv_has ls 10 [(6, .int xx), (5, .int lt), (4, .int be), (2, .int se), (3, .int nb), (0, .ref h), (1, .int n)] → W p l e (rmx 9 0 0) s m args below meth c H locs 0 0 (MQ below (tQ D cI cZ cS cR N0 (fun v g' => ∃ (r : Int32), v = some (.int r) ∧ Inv g' ∧ Ex g g' ∧ Sm md_m_cheapest g g')) args s 0 0 (fun q => N0.1 ≤ q)) (F0 m 79 ls []) := by
  have hx := hB.1
  have hb := hB.2.1
  intro kf
  induction kf using Nat.strongRecOn with
  | ind kf ih =>
    intro g1 xx be lt se nb H locs ls hT hI hE hM l_xx u_xx hk hl
    have r_1 : g1.1 h = 8 := Ex.r hE r_h (by decide)
    refine lv_iload hx hb dX7_cheapest_79 (lv_at hl 0 rfl) ?_
    refine lv_bipush (v := 16) hx hb dX7_cheapest_81 (by decide) ?_
    refine lv_iload_n hx hb dX7_cheapest_83 rfl (lv_at hl 4 rfl) ?_
    refine t_callS (n := 2) (As := [.int 16, .int nb]) (rest := [.int xx]) hB hT hl.1 (m_power l D cI cZ cS cR N0 g1 hI 16 nb ) k_1134 k_65 k_1132 k_1133 (by decide +kernel) ⟨(Nat.le_of_ble_eq_true rfl), (Nat.le_of_ble_eq_true rfl)⟩ rfl (Nat.le_of_ble_eq_true rfl) ⟨(Nat.le_of_ble_eq_true rfl), (Nat.le_of_ble_eq_true rfl)⟩ dX7_cheapest_84 (fun v g_2 H locs hp hT => ?_)
    obtain ⟨r_3, rfl, eg⟩ := hp
    rw [eg] at hT
    clear eg
    refine W.eq (g2 := F0 m 87 ls [.int r_3, .int xx]) rfl ?_
    have rg_6 := i_rng r_3
    refine lv_icmp_ge (tgt := 223) hx hb dX7_cheapest_87 (by decide) (fun c_7 => ?_) (fun c_7 => ?_)
    · have c_7' : r_3.toInt ≤ xx.toInt := i_le c_7 rfl rfl
      refine lv_iconst (v := 0) hx hb dX7_cheapest_223 (by decide) ?_
      refine lv_istore (lv' := [(6, .int 0), (5, .int lt), (4, .int be), (2, .int se), (3, .int nb), (0, .ref h), (1, .int n)]) hx hb dX7_cheapest_224 hl (by decide) rfl (fun ls hl => ?_)
      exact lt_m_cheapest_e l D cI cZ cS cR N0 g h n r_h hw hB hr   6 g1 (0 : Int32) be lt H locs ls hT hI hE hM (by decide) (by decide) (by have e0_ : (0 : Int32).toInt = 0 := (by decide); omega) (lv_sub hl [0, 1, 2, 5, 6] rfl)
    · have c_7' : xx.toInt < r_3.toInt := i_nle c_7 rfl rfl
      refine lv_aload_n hx hb dX7_cheapest_90 rfl (lv_at hl 5 rfl) ?_
      refine lv_iload hx hb dX7_cheapest_91 (lv_at hl 0 rfl) ?_
      refine lv_iload_n hx hb dX7_cheapest_93 rfl (lv_at hl 3 rfl) ?_
      refine t_callV (n := 2) (As := [.int xx, .int se]) (rest := []) (ci := 7) hB hT hl.1 (m_spread l D cI cZ cS cR N0 g1 hI h xx se r_1) (ro_ci r_1 rfl) rfl k_1173 k_65 k_1170 k_1172 k_55 (by decide +kernel) ⟨(Nat.le_of_ble_eq_true rfl), (Nat.le_of_ble_eq_true rfl)⟩ rfl (Nat.le_of_ble_eq_true rfl) ⟨(Nat.le_of_ble_eq_true rfl), (Nat.le_of_ble_eq_true rfl)⟩ dX7_cheapest_94 (fun v g_8 H locs hp hT => ?_)
      obtain ⟨r_9, rfl, eg⟩ := hp
      rw [eg] at hT
      clear eg
      refine W.eq (g2 := F0 m 97 ls [.int r_9]) rfl ?_
      refine lv_istore (lv' := [(7, .int r_9), (6, .int xx), (5, .int lt), (4, .int be), (2, .int se), (3, .int nb), (0, .ref h), (1, .int n)]) hx hb dX7_cheapest_97 hl (by decide) rfl (fun ls hl => ?_)
      refine lv_iconst (v := 0) hx hb dX7_cheapest_99 (by decide) ?_
      refine lv_istore (lv' := [(8, .int 0), (7, .int r_9), (6, .int xx), (5, .int lt), (4, .int be), (2, .int se), (3, .int nb), (0, .ref h), (1, .int n)]) hx hb dX7_cheapest_100 hl (by decide) rfl (fun ls hl => ?_)
      refine lv_iconst (v := 0) hx hb dX7_cheapest_102 (by decide) ?_
      refine lv_istore (lv' := [(9, .int 0), (8, .int 0), (7, .int r_9), (6, .int xx), (5, .int lt), (4, .int be), (2, .int se), (3, .int nb), (0, .ref h), (1, .int n)]) hx hb dX7_cheapest_103 hl (by decide) rfl (fun ls hl => ?_)
      refine lt_m_cheapest_c l D cI cZ cS cR N0 g h n r_h hw hB hr xx lt be r_9 se nb (by omega) (by omega)      (fun g1_b_12 co_b_12 H locs ls hT hI hE hM hl => ?_) 24 g1 (0 : Int32) (0 : Int32) H locs ls hT hI hE hM (by decide) (by decide) (by have e0_ : (0 : Int32).toInt = 0 := (by decide); omega) (lv_sub hl [0, 1, 3, 4, 5, 2, 6, 7, 8, 9] rfl)
      have r_13 : g1_b_12.1 h = 8 := Ex.r hE r_h (by decide)
      refine lv_iload hx hb dX7_cheapest_147 (lv_at hl 3 rfl) ?_
      refine lv_iconst (v := (-1)) hx hb dX7_cheapest_149 (by decide) ?_
      refine lv_icmp_eq (tgt := 160) hx hb dX7_cheapest_150 (by decide) (fun c_14 => ?_) (fun c_14 => ?_)
      · have c_14' : be.toInt = (-1) := i_eq c_14 rfl (by decide)
        refine lv_iconst (v := 0) hx hb dX7_cheapest_160 (by decide) ?_
        refine lv_istore (lv' := [(9, .int 0), (8, .int co_b_12), (6, .int xx), (5, .int lt), (4, .int be), (7, .int r_9), (2, .int se), (3, .int nb), (0, .ref h), (1, .int n)]) hx hb dX7_cheapest_161 hl (by decide) rfl (fun ls hl => ?_)
        refine lt_m_cheapest_d l D cI cZ cS cR N0 g h n r_h hw hB hr xx lt be r_9 se nb co_b_12 (by omega) (by omega)       (fun g1_b_15 H locs ls hT hI hE hM hl => ?_) 6 g1_b_12 (0 : Int32) H locs ls hT hI hE hM (by decide) (by decide) (by have e0_ : (0 : Int32).toInt = 0 := (by decide); omega) (lv_sub hl [0, 1, 2, 3, 4, 5, 6, 7, 8, 9] rfl)
        have r_16 : g1_b_15.1 h = 8 := Ex.r hE r_h (by decide)
        refine lv_aload_n hx hb dX7_cheapest_201 rfl (lv_at hl 7 rfl) ?_
        refine t_callV (n := 0) (As := []) (rest := []) (ci := 7) hB hT hl.1 (m_worstOf l D cI cZ cS cR N0 g1_b_15 hI h r_16 (hw.mono hM hE r_h (by decide) (by decide) rfl rfl rfl rfl)) (ro_ci r_16 rfl) rfl k_1123 k_65 k_1120 k_1122 k_48 (by decide +kernel) ⟨(Nat.le_of_ble_eq_true rfl), (Nat.le_of_ble_eq_true rfl)⟩ rfl (Nat.le_of_ble_eq_true rfl) ⟨(Nat.le_of_ble_eq_true rfl), (Nat.le_of_ble_eq_true rfl)⟩ dX7_cheapest_202 (fun v g_17 H locs hp hT => ?_)
        obtain ⟨r_18, rfl, hI, x_20, m_19⟩ := hp
        have hM : Sm md_m_cheapest g g_17 := hM.tr hE (m_19.mo (fun r k h => mdle_m_cheapest_m_worstOf h))
        have hE : Ex g g_17 := hE.tr x_20
        have r_21 : g_17.1 h = 8 := (Ex.r x_20 r_16 (by decide))
        refine W.eq (g2 := F0 m 205 ls [.int r_18]) rfl ?_
        refine lv_iconst (v := (-1)) hx hb dX7_cheapest_205 (by decide) ?_
        refine lv_icmp_ne (tgt := 217) hx hb dX7_cheapest_206 (by decide) (fun c_22 => ?_) (fun c_22 => ?_)
        · have c_22' : r_18.toInt ≠ (-1) := i_ne c_22 rfl (by decide)
          obtain ⟨z_23, ez_23⟩ : ∃ z : Int32, z = xx + 1 := ⟨_, rfl⟩
          have e_z_23 : z_23.toInt = xx.toInt + 1 := i_add ez_23 rfl (by decide) (by omega) (by omega)
          refine lv_iinc (v := z_23) (lv' := [(6, .int z_23), (8, .int co_b_12), (5, .int lt), (4, .int be), (7, .int r_9), (2, .int se), (3, .int nb), (0, .ref h), (1, .int n)]) hx hb dX7_cheapest_217 hl (k := 1) rfl (by rw [ez_23]; rfl) (by decide) rfl (fun ls hl => ?_)
          refine lv_goto (tgt := 79) hx hb dX7_cheapest_220 (by decide) ?_
          exact ih (kf - 1) (by omega) g_17 z_23 be lt se nb H locs ls hT hI hE hM (by omega) (by omega) (by have e0_ : (0 : Int32).toInt = 0 := (by decide); omega) (lv_sub hl [0, 2, 3, 5, 6, 7, 8] rfl)
        · have c_22' : r_18.toInt = (-1) := i_eq c_22 rfl (by decide)
          refine lv_iload hx hb dX7_cheapest_209 (lv_at hl 4 rfl) ?_
          refine lv_istore (lv' := [(4, .int r_9), (8, .int co_b_12), (6, .int xx), (5, .int lt), (7, .int r_9), (2, .int se), (3, .int nb), (0, .ref h), (1, .int n)]) hx hb dX7_cheapest_211 hl (by decide) rfl (fun ls hl => ?_)
          refine lv_iload hx hb dX7_cheapest_213 (lv_at hl 1 rfl) ?_
          refine lv_istore (lv' := [(5, .int co_b_12), (4, .int r_9), (8, .int co_b_12), (6, .int xx), (7, .int r_9), (2, .int se), (3, .int nb), (0, .ref h), (1, .int n)]) hx hb dX7_cheapest_215 hl (by decide) rfl (fun ls hl => ?_)
          obtain ⟨z_24, ez_24⟩ : ∃ z : Int32, z = xx + 1 := ⟨_, rfl⟩
          have e_z_24 : z_24.toInt = xx.toInt + 1 := i_add ez_24 rfl (by decide) (by omega) (by omega)
          refine lv_iinc (v := z_24) (lv' := [(6, .int z_24), (5, .int co_b_12), (4, .int r_9), (8, .int co_b_12), (7, .int r_9), (2, .int se), (3, .int nb), (0, .ref h), (1, .int n)]) hx hb dX7_cheapest_217 hl (k := 3) rfl (by rw [ez_24]; rfl) (by decide) rfl (fun ls hl => ?_)
          refine lv_goto (tgt := 79) hx hb dX7_cheapest_220 (by decide) ?_
          exact ih (kf - 1) (by omega) g_17 z_24 r_9 co_b_12 se nb H locs ls hT hI hE hM (by omega) (by omega) (by have e0_ : (0 : Int32).toInt = 0 := (by decide); omega) (lv_sub hl [0, 1, 2, 5, 6, 7, 8] rfl)
      · have c_14' : be.toInt ≠ (-1) := i_ne c_14 rfl (by decide)
        refine lv_iload hx hb dX7_cheapest_153 (lv_at hl 0 rfl) ?_
        refine lv_iload hx hb dX7_cheapest_155 (lv_at hl 2 rfl) ?_
        refine lv_icmp_ge (tgt := 217) hx hb dX7_cheapest_157 (by decide) (fun c_25 => ?_) (fun c_25 => ?_)
        · have c_25' : lt.toInt ≤ co_b_12.toInt := i_le c_25 rfl rfl
          obtain ⟨z_26, ez_26⟩ : ∃ z : Int32, z = xx + 1 := ⟨_, rfl⟩
          have e_z_26 : z_26.toInt = xx.toInt + 1 := i_add ez_26 rfl (by decide) (by omega) (by omega)
          refine lv_iinc (v := z_26) (lv' := [(6, .int z_26), (8, .int co_b_12), (5, .int lt), (4, .int be), (7, .int r_9), (2, .int se), (3, .int nb), (0, .ref h), (1, .int n)]) hx hb dX7_cheapest_217 hl (k := 1) rfl (by rw [ez_26]; rfl) (by decide) rfl (fun ls hl => ?_)
          refine lv_goto (tgt := 79) hx hb dX7_cheapest_220 (by decide) ?_
          exact ih (kf - 1) (by omega) g1_b_12 z_26 be lt se nb H locs ls hT hI hE hM (by omega) (by omega) (by have e0_ : (0 : Int32).toInt = 0 := (by decide); omega) (lv_sub hl [0, 2, 3, 5, 6, 7, 8] rfl)
        · have c_25' : co_b_12.toInt < lt.toInt := i_nle c_25 rfl rfl
          refine lv_iconst (v := 0) hx hb dX7_cheapest_160 (by decide) ?_
          refine lv_istore (lv' := [(9, .int 0), (8, .int co_b_12), (6, .int xx), (5, .int lt), (4, .int be), (7, .int r_9), (2, .int se), (3, .int nb), (0, .ref h), (1, .int n)]) hx hb dX7_cheapest_161 hl (by decide) rfl (fun ls hl => ?_)
          refine lt_m_cheapest_d l D cI cZ cS cR N0 g h n r_h hw hB hr xx lt be r_9 se nb co_b_12 (by omega) (by omega)       (fun g1_b_27 H locs ls hT hI hE hM hl => ?_) 6 g1_b_12 (0 : Int32) H locs ls hT hI hE hM (by decide) (by decide) (by have e0_ : (0 : Int32).toInt = 0 := (by decide); omega) (lv_sub hl [0, 1, 2, 3, 4, 5, 6, 7, 8, 9] rfl)
          have r_28 : g1_b_27.1 h = 8 := Ex.r hE r_h (by decide)
          refine lv_aload_n hx hb dX7_cheapest_201 rfl (lv_at hl 7 rfl) ?_
          refine t_callV (n := 0) (As := []) (rest := []) (ci := 7) hB hT hl.1 (m_worstOf l D cI cZ cS cR N0 g1_b_27 hI h r_28 (hw.mono hM hE r_h (by decide) (by decide) rfl rfl rfl rfl)) (ro_ci r_28 rfl) rfl k_1123 k_65 k_1120 k_1122 k_48 (by decide +kernel) ⟨(Nat.le_of_ble_eq_true rfl), (Nat.le_of_ble_eq_true rfl)⟩ rfl (Nat.le_of_ble_eq_true rfl) ⟨(Nat.le_of_ble_eq_true rfl), (Nat.le_of_ble_eq_true rfl)⟩ dX7_cheapest_202 (fun v g_29 H locs hp hT => ?_)
          obtain ⟨r_30, rfl, hI, x_32, m_31⟩ := hp
          have hM : Sm md_m_cheapest g g_29 := hM.tr hE (m_31.mo (fun r k h => mdle_m_cheapest_m_worstOf h))
          have hE : Ex g g_29 := hE.tr x_32
          have r_33 : g_29.1 h = 8 := (Ex.r x_32 r_28 (by decide))
          refine W.eq (g2 := F0 m 205 ls [.int r_30]) rfl ?_
          refine lv_iconst (v := (-1)) hx hb dX7_cheapest_205 (by decide) ?_
          refine lv_icmp_ne (tgt := 217) hx hb dX7_cheapest_206 (by decide) (fun c_34 => ?_) (fun c_34 => ?_)
          · have c_34' : r_30.toInt ≠ (-1) := i_ne c_34 rfl (by decide)
            obtain ⟨z_35, ez_35⟩ : ∃ z : Int32, z = xx + 1 := ⟨_, rfl⟩
            have e_z_35 : z_35.toInt = xx.toInt + 1 := i_add ez_35 rfl (by decide) (by omega) (by omega)
            refine lv_iinc (v := z_35) (lv' := [(6, .int z_35), (8, .int co_b_12), (5, .int lt), (4, .int be), (7, .int r_9), (2, .int se), (3, .int nb), (0, .ref h), (1, .int n)]) hx hb dX7_cheapest_217 hl (k := 1) rfl (by rw [ez_35]; rfl) (by decide) rfl (fun ls hl => ?_)
            refine lv_goto (tgt := 79) hx hb dX7_cheapest_220 (by decide) ?_
            exact ih (kf - 1) (by omega) g_29 z_35 be lt se nb H locs ls hT hI hE hM (by omega) (by omega) (by have e0_ : (0 : Int32).toInt = 0 := (by decide); omega) (lv_sub hl [0, 2, 3, 5, 6, 7, 8] rfl)
          · have c_34' : r_30.toInt = (-1) := i_eq c_34 rfl (by decide)
            refine lv_iload hx hb dX7_cheapest_209 (lv_at hl 4 rfl) ?_
            refine lv_istore (lv' := [(4, .int r_9), (8, .int co_b_12), (6, .int xx), (5, .int lt), (7, .int r_9), (2, .int se), (3, .int nb), (0, .ref h), (1, .int n)]) hx hb dX7_cheapest_211 hl (by decide) rfl (fun ls hl => ?_)
            refine lv_iload hx hb dX7_cheapest_213 (lv_at hl 1 rfl) ?_
            refine lv_istore (lv' := [(5, .int co_b_12), (4, .int r_9), (8, .int co_b_12), (6, .int xx), (7, .int r_9), (2, .int se), (3, .int nb), (0, .ref h), (1, .int n)]) hx hb dX7_cheapest_215 hl (by decide) rfl (fun ls hl => ?_)
            obtain ⟨z_36, ez_36⟩ : ∃ z : Int32, z = xx + 1 := ⟨_, rfl⟩
            have e_z_36 : z_36.toInt = xx.toInt + 1 := i_add ez_36 rfl (by decide) (by omega) (by omega)
            refine lv_iinc (v := z_36) (lv' := [(6, .int z_36), (5, .int co_b_12), (4, .int r_9), (8, .int co_b_12), (7, .int r_9), (2, .int se), (3, .int nb), (0, .ref h), (1, .int n)]) hx hb dX7_cheapest_217 hl (k := 3) rfl (by rw [ez_36]; rfl) (by decide) rfl (fun ls hl => ?_)
            refine lv_goto (tgt := 79) hx hb dX7_cheapest_220 (by decide) ?_
            exact ih (kf - 1) (by omega) g_29 z_36 r_9 co_b_12 se nb H locs ls hT hI hE hM (by omega) (by omega) (by have e0_ : (0 : Int32).toInt = 0 := (by decide); omega) (lv_sub hl [0, 1, 2, 5, 6, 7, 8] rfl)
set_option maxHeartbeats 4000000 in
set_option maxRecDepth 100000 in
theorem lt_m_cheapest_a (l : Launch) (D : va_G) (cI cZ cS cR : ClassId) (N0 : NT) (g : GS) (h : Nat) (n : Int32) (r_h : g.1 h = 8) (hw : PX 48 2 3 71 72 g h) {p : Program} {e : Env} {s : State} {m : MethodId} {args : Array Value} {below : List Frame} {meth : Method} {c : Code} (hB : Tz p s m meth c args cX7_cheapest 10 RX7 D cI cZ cS cR N0) (hr : meth.sig.returnType = (some .int))    : ∀ (kf : Nat) (g1 : GS) (i : Int32) (se : Int32) (nb : Int32)  (H : Heap) (locs : List Loc) (ls : Array Slot), Tv D cI cZ cS cR N0 s.heap H locs g1 → Inv g1 → Ex g g1 → Sm md_m_cheapest g g1 → 0 ≤ i.toInt → i.toInt ≤ 6 → (6 ≤ i.toInt + kf) → lv_has ls 10 [(4, .int i), (2, .int se), (3, .int nb), (0, .ref h), (1, .int n)] → W p l e (rmx 9 0 0) s m args below meth c H locs 0 0 (MQ below (tQ D cI cZ cS cR N0 (fun v g' => ∃ (r : Int32), v = some (.int r) ∧ Inv g' ∧ Ex g g' ∧ Sm md_m_cheapest g g')) args s 0 0 (fun q => N0.1 ≤ q)) (F0 m 43 ls []) := by
  have hx := hB.1
  have hb := hB.2.1
  intro kf
  induction kf using Nat.strongRecOn with
  | ind kf ih =>
    intro g1 i se nb H locs ls hT hI hE hM l_i u_i hk hl
    have r_1 : g1.1 h = 8 := Ex.r hE r_h (by decide)
    refine lv_iload hx hb dX7_cheapest_43 (lv_at hl 0 rfl) ?_
    refine lv_bipush (v := 6) hx hb dX7_cheapest_45 (by decide) ?_
    refine lv_icmp_ge (tgt := 70) hx hb dX7_cheapest_47 (by decide) (fun c_2 => ?_) (fun c_2 => ?_)
    · have c_2' : 6 ≤ i.toInt := i_le c_2 (by decide) rfl
      refine lv_iconst (v := (-1)) hx hb dX7_cheapest_70 (by decide) ?_
      refine lv_istore (lv' := [(4, .int (-1)), (2, .int se), (3, .int nb), (0, .ref h), (1, .int n)]) hx hb dX7_cheapest_71 hl (by decide) rfl (fun ls hl => ?_)
      refine lv_iconst (v := 0) hx hb dX7_cheapest_73 (by decide) ?_
      refine lv_istore (lv' := [(5, .int 0), (4, .int (-1)), (2, .int se), (3, .int nb), (0, .ref h), (1, .int n)]) hx hb dX7_cheapest_74 hl (by decide) rfl (fun ls hl => ?_)
      refine lv_iconst (v := 0) hx hb dX7_cheapest_76 (by decide) ?_
      refine lv_istore (lv' := [(6, .int 0), (5, .int 0), (4, .int (-1)), (2, .int se), (3, .int nb), (0, .ref h), (1, .int n)]) hx hb dX7_cheapest_77 hl (by decide) rfl (fun ls hl => ?_)
      exact lt_m_cheapest_b l D cI cZ cS cR N0 g h n r_h hw hB hr   2147483648 g1 (0 : Int32) ((-1) : Int32) (0 : Int32) se nb H locs ls hT hI hE hM (by decide) (by decide) (by have e0_ : ((-1) : Int32).toInt = (-1) := (by decide); have e1_ : (0 : Int32).toInt = 0 := (by decide); omega) (lv_sub hl [0, 1, 2, 3, 4, 5, 6] rfl)
    · have c_2' : i.toInt < 6 := i_nle c_2 (by decide) rfl
      refine lv_aload_n hx hb dX7_cheapest_50 rfl (lv_at hl 3 rfl) ?_
      obtain ⟨v_3, e_v_3, r_v_3, n_v_3⟩ := f_8_66 hI r_1
      refine t_get (ci := 7) (v := .ref v_3) hB hT (ro_ci r_1 rfl) rfl 66 (by decide) k_811 e_v_3 dX7_cheapest_51 ?_
      refine lv_iload hx hb dX7_cheapest_54 (lv_at hl 0 rfl) ?_
      refine lv_aload_n hx hb dX7_cheapest_56 rfl (lv_at hl 3 rfl) ?_
      obtain ⟨v_4, e_v_4, r_v_4, n_v_4⟩ := f_8_5 hI r_1
      refine t_get (ci := 7) (v := .ref v_4) hB hT (ro_ci r_1 rfl) rfl 5 (by decide) k_750 e_v_4 dX7_cheapest_57 ?_
      refine lv_iload hx hb dX7_cheapest_60 (lv_at hl 0 rfl) ?_
      have i_u_5 : vp_in i 6 := (i_in (n := 6) rfl (by omega) (by omega))
      refine t_iald hB hT (ro_in r_v_4 (by decide)) n_v_4 i_u_5 rfl dX7_cheapest_62 ?_
      refine lv_topi (fun u_5 e_u_5 => ?_)
      have i_6 : vp_in i 6 := (i_in (n := 6) rfl (by omega) (by omega))
      refine t_iast hB hT (ro_in r_v_3 (by decide)) n_v_3 i_6 dX7_cheapest_63 (fun H locs hT => ?_)
      have hI : Inv (sC g1 v_3 i.toNatClampNeg u_5) := hI.sC (ck r_v_3 trivial)
      have hM : Sm md_m_cheapest g (sC g1 v_3 i.toNatClampNeg u_5) := hM.tr hE (Sm_sC (by rw [r_v_3]; rfl))
      have hE : Ex g (sC g1 v_3 i.toNatClampNeg u_5) := hE
      obtain ⟨z_7, ez_7⟩ : ∃ z : Int32, z = i + 1 := ⟨_, rfl⟩
      have e_z_7 : z_7.toInt = i.toInt + 1 := i_add ez_7 rfl (by decide) (by omega) (by omega)
      refine lv_iinc (v := z_7) (lv' := [(4, .int z_7), (2, .int se), (3, .int nb), (0, .ref h), (1, .int n)]) hx hb dX7_cheapest_64 hl (k := 0) rfl (by rw [ez_7]; rfl) (by decide) rfl (fun ls hl => ?_)
      refine lv_goto (tgt := 43) hx hb dX7_cheapest_67 (by decide) ?_
      exact ih (kf - 1) (by omega) (sC g1 v_3 i.toNatClampNeg u_5) z_7 se nb H locs ls hT hI hE hM (by omega) (by omega) (by have e0_ : (0 : Int32).toInt = 0 := (by decide); omega) (lv_sub hl [0, 1, 2, 3, 4] rfl)
set_option maxHeartbeats 4000000 in
set_option maxRecDepth 100000 in
theorem m_cheapest (l : Launch) (D : va_G) (cI cZ cS cR : ClassId) (N0 : NT) (g : GS) (hI : Inv g) (h : Nat) (n : Int32) (r_h : g.1 h = 8) (hw : PX 48 2 3 71 72 g h) : Ty l D cI cZ cS cR N0 yX7_cheapest cX7_cheapest 10 (some .int) 9 0 0 [.ref h, .int n] g (fun v g' => ∃ (r : Int32), v = some (.int r) ∧ Inv g' ∧ Ex g g' ∧ Sm md_m_cheapest g g') := by
  refine t_enter (by decide) (Nat.le_of_ble_eq_true rfl) ?_
  intro p e s m args below meth c ls H locs hB hr hin hl hT
  have hx := hB.1
  have hb := hB.2.1
  have hl : lv_has ls 10 [(0, .ref h), (1, .int n)] := hl
  have hE : Ex g g := Ex.rf
  have hM : Sm md_m_cheapest g g := Sm.rf
  refine lv_iload_n hx hb dX7_cheapest_0 rfl (lv_at hl 1 rfl) ?_
  refine lv_iconst (v := 0) hx hb dX7_cheapest_1 (by decide) ?_
  refine lv_iconst (v := 1) hx hb dX7_cheapest_2 (by decide) ?_
  refine t_callS (n := 3) (As := [.int n, .int 0, .int 1]) (rest := []) hB hT hl.1 (m_in l D cI cZ cS cR N0 g hI n 0 1 ) k_954 k_65 k_952 k_953 (by decide +kernel) ⟨(Nat.le_of_ble_eq_true rfl), (Nat.le_of_ble_eq_true rfl)⟩ rfl (Nat.le_of_ble_eq_true rfl) ⟨(Nat.le_of_ble_eq_true rfl), (Nat.le_of_ble_eq_true rfl)⟩ dX7_cheapest_3 (fun v g_1 H locs hp hT => ?_)
  obtain ⟨r_2, rfl, eg, f_3⟩ := hp
  rw [eg] at hT
  clear eg
  refine W.eq (g2 := F0 m 6 ls [.int r_2]) rfl ?_
  have qc_6 : (0 : Int32).toInt = 0 := (by decide)
  have qc_7 : (1 : Int32).toInt = 1 := (by decide)
  rcases f_3 with ⟨rfl, hw_8, hw_9⟩ | ⟨rfl, hw_10⟩
  · refine W.eq (g2 := F0 m 6 ls [.int 1]) rfl ?_
    refine lv_if_ne (tgt := 11) hx hb dX7_cheapest_6 (by decide) (fun c_ => ?_) (fun c_ => absurd c_ (by decide))
    refine lv_aload_n hx hb dX7_cheapest_11 rfl (lv_at hl 0 rfl) ?_
    obtain ⟨v_11, e_v_11, l_v_11, u_v_11⟩ := f_8_30 hI r_h
    refine t_get (ci := 7) (v := .int v_11) hB hT (ro_ci r_h rfl) rfl 30 (by decide) k_775 e_v_11 dX7_cheapest_12 ?_
    refine lv_iconst (v := 3) hx hb dX7_cheapest_15 (by decide) ?_
    refine lv_icmp_le (tgt := 22) hx hb dX7_cheapest_16 (by decide) (fun c_12 => ?_) (fun c_12 => ?_)
    · have c_12' : v_11.toInt ≤ 3 := i_le c_12 rfl (by decide)
      refine lv_aload_n hx hb dX7_cheapest_22 rfl (lv_at hl 0 rfl) ?_
      refine t_callV (n := 0) (As := []) (rest := []) (ci := 7) hB hT hl.1 (m_reached l D cI cZ cS cR N0 g hI h r_h) (ro_ci r_h rfl) rfl k_1166 k_65 k_1163 k_1165 k_54 (by decide +kernel) ⟨(Nat.le_of_ble_eq_true rfl), (Nat.le_of_ble_eq_true rfl)⟩ rfl (Nat.le_of_ble_eq_true rfl) ⟨(Nat.le_of_ble_eq_true rfl), (Nat.le_of_ble_eq_true rfl)⟩ dX7_cheapest_23 (fun v g_13 H locs hp hT => ?_)
      obtain ⟨r_14, rfl, eg⟩ := hp
      rw [eg] at hT
      clear eg
      refine W.eq (g2 := F0 m 26 ls [.int r_14]) rfl ?_
      refine lv_istore_n (lv' := [(2, .int r_14), (0, .ref h), (1, .int n)]) hx hb dX7_cheapest_26 rfl hl (by decide) rfl (fun ls hl => ?_)
      refine lv_iload_n hx hb dX7_cheapest_27 rfl (lv_at hl 0 rfl) ?_
      refine t_callS (n := 1) (As := [.int r_14]) (rest := []) hB hT hl.1 (m_bits l D cI cZ cS cR N0 g hI r_14 ) k_1169 k_65 k_1167 k_1168 (by decide +kernel) ⟨(Nat.le_of_ble_eq_true rfl), (Nat.le_of_ble_eq_true rfl)⟩ rfl (Nat.le_of_ble_eq_true rfl) ⟨(Nat.le_of_ble_eq_true rfl), (Nat.le_of_ble_eq_true rfl)⟩ dX7_cheapest_28 (fun v g_17 H locs hp hT => ?_)
      obtain ⟨r_18, rfl, eg⟩ := hp
      rw [eg] at hT
      clear eg
      refine W.eq (g2 := F0 m 31 ls [.int r_18]) rfl ?_
      refine lv_istore_n (lv' := [(3, .int r_18), (2, .int r_14), (0, .ref h), (1, .int n)]) hx hb dX7_cheapest_31 rfl hl (by decide) rfl (fun ls hl => ?_)
      refine lv_iload_n hx hb dX7_cheapest_32 rfl (lv_at hl 0 rfl) ?_
      refine lv_iconst (v := 2) hx hb dX7_cheapest_33 (by decide) ?_
      refine lv_icmp_le (tgt := 40) hx hb dX7_cheapest_34 (by decide) (fun c_21 => ?_) (fun c_21 => ?_)
      · have c_21' : r_18.toInt ≤ 2 := i_le c_21 rfl (by decide)
        refine lv_iconst (v := 0) hx hb dX7_cheapest_40 (by decide) ?_
        refine lv_istore (lv' := [(4, .int 0), (3, .int r_18), (2, .int r_14), (0, .ref h), (1, .int n)]) hx hb dX7_cheapest_41 hl (by decide) rfl (fun ls hl => ?_)
        exact lt_m_cheapest_a l D cI cZ cS cR N0 g h n r_h hw hB hr   6 g (0 : Int32) r_14 r_18 H locs ls hT hI hE hM (by decide) (by decide) (by have e0_ : (0 : Int32).toInt = 0 := (by decide); omega) (lv_sub hl [0, 2, 1, 3, 4] rfl)
      · have c_21' : 2 < r_18.toInt := i_nle c_21 rfl (by decide)
        refine lv_bipush (v := (-5)) hx hb dX7_cheapest_37 (by decide) ?_
        exact t_iret hB hr hT (Nat.le_of_ble_eq_true rfl) (Nat.le_of_ble_eq_true rfl) dX7_cheapest_39 ⟨(-5), rfl, hI, hE, hM⟩
    · have c_12' : 3 < v_11.toInt := i_nle c_12 rfl (by decide)
      refine lv_bipush (v := (-3)) hx hb dX7_cheapest_19 (by decide) ?_
      exact t_iret hB hr hT (Nat.le_of_ble_eq_true rfl) (Nat.le_of_ble_eq_true rfl) dX7_cheapest_21 ⟨(-3), rfl, hI, hE, hM⟩
  · refine W.eq (g2 := F0 m 6 ls [.int 0]) rfl ?_
    refine lv_if_ne (tgt := 11) hx hb dX7_cheapest_6 (by decide) (fun c_ => absurd (by decide) c_) (fun c_ => ?_)
    refine lv_iconst (v := (-1)) hx hb dX7_cheapest_9 (by decide) ?_
    exact t_iret hB hr hT (Nat.le_of_ble_eq_true rfl) (Nat.le_of_ble_eq_true rfl) dX7_cheapest_10 ⟨(-1), rfl, hI, hE, hM⟩
