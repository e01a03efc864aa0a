theorem k_21 : Cond.selects RX7 yX7_reads yX7_reads ∈ tb := mt 21 (by decide +kernel) rfl
theorem k_22 : Cond.selects RX7 yX7_readsAct yX7_readsAct ∈ tb := mt 22 (by decide +kernel) rfl
theorem k_23 : Cond.selects RX7 yX7_byteAt yX7_byteAt ∈ tb := mt 23 (by decide +kernel) rfl
theorem k_24 : Cond.selects RX7 yX7_must yX7_must ∈ tb := mt 24 (by decide +kernel) rfl
theorem k_25 : Cond.selects RX7 yX7_readsWorth yX7_readsWorth ∈ tb := mt 25 (by decide +kernel) rfl
theorem k_54 : Cond.selects RX7 yX7_reached yX7_reached ∈ tb := mt 54 (by decide +kernel) rfl
theorem k_55 : Cond.selects RX7 yX7_spread yX7_spread ∈ tb := mt 55 (by decide +kernel) rfl
theorem k_781 : Cond.fieldLink RX7 184 "TwiceOnceModel" "spot" "I" ∈ tb := mt 781 (by decide +kernel) rfl
theorem k_782 : Cond.fieldLink RX7 180 "TwiceOnceModel" "isWrong" "Z" ∈ tb := mt 782 (by decide +kernel) rfl
theorem k_783 : Cond.fieldLink RX7 199 "TwiceOnceModel" "read" "I" ∈ tb := mt 783 (by decide +kernel) rfl
theorem k_955 : Cond.constantLong RX7 178 255 ∈ tb := mt 955 (by decide +kernel) rfl
theorem k_960 : Cond.methodLink RX7 205 yX7_reads ∈ tb := mt 960 (by decide +kernel) rfl
theorem k_962 : Cond.instanceMethod yX7_reads ∈ tb := mt 962 (by decide +kernel) rfl
set_option maxRecDepth 20000 in
theorem k_963 : Cond.code yX7_reads cX7_reads 2 (some .boolean) ∈ tb := mt 963 rfl rfl
theorem k_964 : Cond.methodLink RX7 202 yX7_readsAct ∈ tb := mt 964 (by decide +kernel) rfl
theorem k_966 : Cond.instanceMethod yX7_readsAct ∈ tb := mt 966 (by decide +kernel) rfl
set_option maxRecDepth 20000 in
theorem k_967 : Cond.code yX7_readsAct cX7_readsAct 4 none ∈ tb := mt 967 rfl rfl
theorem k_968 : Cond.methodLink RX7 187 yX7_byteAt ∈ tb := mt 968 (by decide +kernel) rfl
theorem k_970 : Cond.instanceMethod yX7_byteAt ∈ tb := mt 970 (by decide +kernel) rfl
set_option maxRecDepth 20000 in
theorem k_971 : Cond.code yX7_byteAt cX7_byteAt 2 (some .int) ∈ tb := mt 971 rfl rfl
theorem k_972 : Cond.methodLink RX7 191 yX7_must ∈ tb := mt 972 (by decide +kernel) rfl
theorem k_974 : Cond.instanceMethod yX7_must ∈ tb := mt 974 (by decide +kernel) rfl
set_option maxRecDepth 20000 in
theorem k_975 : Cond.code yX7_must cX7_must 2 none ∈ tb := mt 975 rfl rfl
theorem k_976 : Cond.methodLink RX7 195 yX7_readsWorth ∈ tb := mt 976 (by decide +kernel) rfl
theorem k_978 : Cond.instanceMethod yX7_readsWorth ∈ tb := mt 978 (by decide +kernel) rfl
set_option maxRecDepth 20000 in
theorem k_979 : Cond.code yX7_readsWorth cX7_readsWorth 4 (some .int) ∈ tb := mt 979 rfl rfl
theorem k_1132 : Cond.methodLink RX7 314 yX7_power ∈ tb := mt 1132 (by decide +kernel) rfl
theorem k_1133 : Cond.static yX7_power ∈ tb := mt 1133 (by decide +kernel) rfl
set_option maxRecDepth 20000 in
theorem k_1134 : Cond.code yX7_power cX7_power 4 (some .int) ∈ tb := mt 1134 rfl rfl
theorem k_1163 : Cond.methodLink RX7 331 yX7_reached ∈ tb := mt 1163 (by decide +kernel) rfl
theorem k_1165 : Cond.instanceMethod yX7_reached ∈ tb := mt 1165 (by decide +kernel) rfl
set_option maxRecDepth 20000 in
theorem k_1166 : Cond.code yX7_reached cX7_reached 4 (some .int) ∈ tb := mt 1166 rfl rfl
theorem k_1167 : Cond.methodLink RX7 334 yX7_bits ∈ tb := mt 1167 (by decide +kernel) rfl
theorem k_1168 : Cond.static yX7_bits ∈ tb := mt 1168 (by decide +kernel) rfl
set_option maxRecDepth 20000 in
theorem k_1169 : Cond.code yX7_bits cX7_bits 3 (some .int) ∈ tb := mt 1169 rfl rfl
theorem k_1170 : Cond.methodLink RX7 337 yX7_spread ∈ tb := mt 1170 (by decide +kernel) rfl
theorem k_1172 : Cond.instanceMethod yX7_spread ∈ tb := mt 1172 (by decide +kernel) rfl
set_option maxRecDepth 20000 in
theorem k_1173 : Cond.code yX7_spread cX7_spread 6 (some .int) ∈ tb := mt 1173 rfl rfl
theorem dX7_reached_0 : decode cX7_reached 0 = .ok (.iconst 0, 1) := by decide +kernel
theorem dX7_reached_1 : decode cX7_reached 1 = .ok (.istore_n 1, 1) := by decide +kernel
theorem dX7_reached_2 : decode cX7_reached 2 = .ok (.iconst 0, 1) := by decide +kernel
theorem dX7_reached_3 : decode cX7_reached 3 = .ok (.istore_n 2, 1) := by decide +kernel
theorem dX7_reached_4 : decode cX7_reached 4 = .ok (.iload_n 2, 1) := by decide +kernel
theorem dX7_reached_5 : decode cX7_reached 5 = .ok (.aload_n 0, 1) := by decide +kernel
theorem dX7_reached_6 : decode cX7_reached 6 = .ok (.getfield 290, 3) := by decide +kernel
theorem dX7_reached_9 : decode cX7_reached 9 = .ok (.if_icmp .ge 20, 3) := by decide +kernel
theorem dX7_reached_29 : decode cX7_reached 29 = .ok (.iconst 0, 1) := by decide +kernel
theorem dX7_reached_30 : decode cX7_reached 30 = .ok (.istore_n 2, 1) := by decide +kernel
theorem dX7_reached_31 : decode cX7_reached 31 = .ok (.iload_n 2, 1) := by decide +kernel
theorem dX7_reached_32 : decode cX7_reached 32 = .ok (.aload_n 0, 1) := by decide +kernel
theorem dX7_reached_33 : decode cX7_reached 33 = .ok (.getfield 167, 3) := by decide +kernel
theorem dX7_reached_36 : decode cX7_reached 36 = .ok (.if_icmp .ge 68, 3) := by decide +kernel
theorem dX7_reached_104 : decode cX7_reached 104 = .ok (.iload_n 1, 1) := by decide +kernel
theorem dX7_reached_105 : decode cX7_reached 105 = .ok (.ireturn, 1) := by decide +kernel
theorem dX7_bits_0 : decode cX7_bits 0 = .ok (.iconst 0, 1) := by decide +kernel
theorem dX7_bits_1 : decode cX7_bits 1 = .ok (.istore_n 1, 1) := by decide +kernel
theorem dX7_bits_2 : decode cX7_bits 2 = .ok (.iconst 0, 1) := by decide +kernel
theorem dX7_bits_3 : decode cX7_bits 3 = .ok (.istore_n 2, 1) := by decide +kernel
theorem dX7_bits_4 : decode cX7_bits 4 = .ok (.iload_n 2, 1) := by decide +kernel
theorem dX7_bits_5 : decode cX7_bits 5 = .ok (.bipush 6, 2) := by decide +kernel
theorem dX7_bits_7 : decode cX7_bits 7 = .ok (.if_icmp .ge 17, 3) := by decide +kernel
theorem dX7_bits_10 : decode cX7_bits 10 = .ok (.iload_n 1, 1) := by decide +kernel
theorem dX7_bits_11 : decode cX7_bits 11 = .ok (.iload_n 0, 1) := by decide +kernel
theorem dX7_bits_12 : decode cX7_bits 12 = .ok (.iload_n 2, 1) := by decide +kernel
theorem dX7_bits_13 : decode cX7_bits 13 = .ok (.ishr, 1) := by decide +kernel
theorem dX7_bits_14 : decode cX7_bits 14 = .ok (.iconst 1, 1) := by decide +kernel
theorem dX7_bits_15 : decode cX7_bits 15 = .ok (.iand, 1) := by decide +kernel
theorem dX7_bits_16 : decode cX7_bits 16 = .ok (.iadd, 1) := by decide +kernel
theorem dX7_bits_17 : decode cX7_bits 17 = .ok (.istore_n 1, 1) := by decide +kernel
theorem dX7_bits_18 : decode cX7_bits 18 = .ok (.iinc 2 1, 3) := by decide +kernel
theorem dX7_bits_21 : decode cX7_bits 21 = .ok (.goto (-17), 3) := by decide +kernel
theorem dX7_bits_24 : decode cX7_bits 24 = .ok (.iload_n 1, 1) := by decide +kernel
theorem dX7_bits_25 : decode cX7_bits 25 = .ok (.ireturn, 1) := by decide +kernel
theorem dX7_power_0 : decode cX7_power 0 = .ok (.iconst 1, 1) := by decide +kernel
theorem dX7_power_1 : decode cX7_power 1 = .ok (.istore_n 2, 1) := by decide +kernel
theorem dX7_power_2 : decode cX7_power 2 = .ok (.iconst 0, 1) := by decide +kernel
theorem dX7_power_3 : decode cX7_power 3 = .ok (.istore_n 3, 1) := by decide +kernel
theorem dX7_power_4 : decode cX7_power 4 = .ok (.iload_n 3, 1) := by decide +kernel
theorem dX7_power_5 : decode cX7_power 5 = .ok (.iload_n 1, 1) := by decide +kernel
theorem dX7_power_6 : decode cX7_power 6 = .ok (.if_icmp .ge 13, 3) := by decide +kernel
theorem dX7_power_19 : decode cX7_power 19 = .ok (.iload_n 2, 1) := by decide +kernel
theorem dX7_power_20 : decode cX7_power 20 = .ok (.ireturn, 1) := by decide +kernel
theorem dX7_spread_0 : decode cX7_spread 0 = .ok (.iload_n 1, 1) := by decide +kernel
theorem dX7_spread_1 : decode cX7_spread 1 = .ok (.istore_n 3, 1) := by decide +kernel
theorem dX7_spread_2 : decode cX7_spread 2 = .ok (.iconst 0, 1) := by decide +kernel
theorem dX7_spread_3 : decode cX7_spread 3 = .ok (.istore 4, 2) := by decide +kernel
theorem dX7_spread_5 : decode cX7_spread 5 = .ok (.iconst 0, 1) := by decide +kernel
theorem dX7_spread_6 : decode cX7_spread 6 = .ok (.istore 5, 2) := by decide +kernel
theorem dX7_spread_8 : decode cX7_spread 8 = .ok (.iload 5, 2) := by decide +kernel
theorem dX7_spread_10 : decode cX7_spread 10 = .ok (.bipush 6, 2) := by decide +kernel
theorem dX7_spread_12 : decode cX7_spread 12 = .ok (.if_icmp .ge 38, 3) := by decide +kernel
theorem dX7_spread_15 : decode cX7_spread 15 = .ok (.iload_n 2, 1) := by decide +kernel
theorem dX7_spread_16 : decode cX7_spread 16 = .ok (.iload 5, 2) := by decide +kernel
theorem dX7_spread_18 : decode cX7_spread 18 = .ok (.ishr, 1) := by decide +kernel
theorem dX7_spread_19 : decode cX7_spread 19 = .ok (.iconst 1, 1) := by decide +kernel
theorem dX7_spread_20 : decode cX7_spread 20 = .ok (.iand, 1) := by decide +kernel
theorem dX7_spread_21 : decode cX7_spread 21 = .ok (.iconst 1, 1) := by decide +kernel
theorem dX7_spread_22 : decode cX7_spread 22 = .ok (.if_icmp .ne 22, 3) := by decide +kernel
theorem dX7_spread_44 : decode cX7_spread 44 = .ok (.iinc 5 1, 3) := by decide +kernel
theorem dX7_spread_47 : decode cX7_spread 47 = .ok (.goto (-39), 3) := by decide +kernel
theorem dX7_spread_50 : decode cX7_spread 50 = .ok (.iload 4, 2) := by decide +kernel
theorem dX7_spread_52 : decode cX7_spread 52 = .ok (.ireturn, 1) := by decide +kernel
theorem dX7_cheapest_105 : decode cX7_cheapest 105 = .ok (.iload 9, 2) := by decide +kernel
theorem dX7_cheapest_107 : decode cX7_cheapest 107 = .ok (.bipush 24, 2) := by decide +kernel
theorem dX7_cheapest_109 : decode cX7_cheapest 109 = .ok (.if_icmp .ge 38, 3) := by decide +kernel
theorem dX7_cheapest_112 : decode cX7_cheapest 112 = .ok (.iload 8, 2) := by decide +kernel
theorem dX7_cheapest_114 : decode cX7_cheapest 114 = .ok (.iload 7, 2) := by decide +kernel
theorem dX7_cheapest_116 : decode cX7_cheapest 116 = .ok (.iload 9, 2) := by decide +kernel
theorem dX7_cheapest_118 : decode cX7_cheapest 118 = .ok (.ishr, 1) := by decide +kernel
theorem dX7_cheapest_119 : decode cX7_cheapest 119 = .ok (.iconst 1, 1) := by decide +kernel
theorem dX7_cheapest_120 : decode cX7_cheapest 120 = .ok (.iand, 1) := by decide +kernel
theorem dX7_cheapest_121 : decode cX7_cheapest 121 = .ok (.iconst 1, 1) := by decide +kernel
theorem dX7_cheapest_122 : decode cX7_cheapest 122 = .ok (.if_icmp .ne 15, 3) := by decide +kernel
theorem dX7_cheapest_137 : decode cX7_cheapest 137 = .ok (.iconst 0, 1) := by decide +kernel
theorem dX7_cheapest_138 : decode cX7_cheapest 138 = .ok (.iadd, 1) := by decide +kernel
theorem dX7_cheapest_139 : decode cX7_cheapest 139 = .ok (.istore 8, 2) := by decide +kernel
theorem dX7_cheapest_141 : decode cX7_cheapest 141 = .ok (.iinc 9 1, 3) := by decide +kernel
theorem dX7_cheapest_144 : decode cX7_cheapest 144 = .ok (.goto (-39), 3) := by decide +kernel
theorem dX7_cheapest_0 : decode cX7_cheapest 0 = .ok (.iload_n 1, 1) := by decide +kernel
theorem dX7_cheapest_1 : decode cX7_cheapest 1 = .ok (.iconst 0, 1) := by decide +kernel
theorem dX7_cheapest_2 : decode cX7_cheapest 2 = .ok (.iconst 1, 1) := by decide +kernel
theorem dX7_cheapest_3 : decode cX7_cheapest 3 = .ok (.invokestatic 171, 3) := by decide +kernel
theorem dX7_cheapest_6 : decode cX7_cheapest 6 = .ok (.ifCond .ne 5, 3) := by decide +kernel
theorem dX7_cheapest_11 : decode cX7_cheapest 11 = .ok (.aload_n 0, 1) := by decide +kernel
theorem dX7_cheapest_12 : decode cX7_cheapest 12 = .ok (.getfield 290, 3) := by decide +kernel
theorem dX7_cheapest_15 : decode cX7_cheapest 15 = .ok (.iconst 3, 1) := by decide +kernel
theorem dX7_cheapest_16 : decode cX7_cheapest 16 = .ok (.if_icmp .le 6, 3) := by decide +kernel
theorem dX7_cheapest_22 : decode cX7_cheapest 22 = .ok (.aload_n 0, 1) := by decide +kernel
theorem dX7_cheapest_23 : decode cX7_cheapest 23 = .ok (.invokevirtual 331, 3) := by decide +kernel
theorem dX7_cheapest_26 : decode cX7_cheapest 26 = .ok (.istore_n 2, 1) := by decide +kernel
theorem dX7_cheapest_27 : decode cX7_cheapest 27 = .ok (.iload_n 2, 1) := by decide +kernel
theorem dX7_cheapest_28 : decode cX7_cheapest 28 = .ok (.invokestatic 334, 3) := by decide +kernel
theorem dX7_cheapest_31 : decode cX7_cheapest 31 = .ok (.istore_n 3, 1) := by decide +kernel
theorem dX7_cheapest_32 : decode cX7_cheapest 32 = .ok (.iload_n 3, 1) := by decide +kernel
theorem dX7_cheapest_33 : decode cX7_cheapest 33 = .ok (.iconst 2, 1) := by decide +kernel
theorem dX7_cheapest_34 : decode cX7_cheapest 34 = .ok (.if_icmp .le 6, 3) := by decide +kernel
theorem dX7_cheapest_40 : decode cX7_cheapest 40 = .ok (.iconst 0, 1) := by decide +kernel
theorem dX7_cheapest_41 : decode cX7_cheapest 41 = .ok (.istore 4, 2) := by decide +kernel
theorem dX7_cheapest_43 : decode cX7_cheapest 43 = .ok (.iload 4, 2) := by decide +kernel
theorem dX7_cheapest_45 : decode cX7_cheapest 45 = .ok (.bipush 6, 2) := by decide +kernel
theorem dX7_cheapest_47 : decode cX7_cheapest 47 = .ok (.if_icmp .ge 23, 3) := by decide +kernel
theorem dX7_cheapest_50 : decode cX7_cheapest 50 = .ok (.aload_n 0, 1) := by decide +kernel
theorem dX7_cheapest_51 : decode cX7_cheapest 51 = .ok (.getfield 164, 3) := by decide +kernel
theorem dX7_cheapest_54 : decode cX7_cheapest 54 = .ok (.iload 4, 2) := by decide +kernel
theorem dX7_cheapest_56 : decode cX7_cheapest 56 = .ok (.aload_n 0, 1) := by decide +kernel
theorem dX7_cheapest_57 : decode cX7_cheapest 57 = .ok (.getfield 22, 3) := by decide +kernel
theorem dX7_cheapest_60 : decode cX7_cheapest 60 = .ok (.iload 4, 2) := by decide +kernel
theorem dX7_cheapest_62 : decode cX7_cheapest 62 = .ok (.iaload, 1) := by decide +kernel
theorem dX7_cheapest_63 : decode cX7_cheapest 63 = .ok (.iastore, 1) := by decide +kernel
theorem dX7_cheapest_64 : decode cX7_cheapest 64 = .ok (.iinc 4 1, 3) := by decide +kernel
theorem dX7_cheapest_67 : decode cX7_cheapest 67 = .ok (.goto (-24), 3) := by decide +kernel
theorem dX7_cheapest_70 : decode cX7_cheapest 70 = .ok (.iconst (-1), 1) := by decide +kernel
theorem dX7_cheapest_71 : decode cX7_cheapest 71 = .ok (.istore 4, 2) := by decide +kernel
theorem dX7_cheapest_73 : decode cX7_cheapest 73 = .ok (.iconst 0, 1) := by decide +kernel
theorem dX7_cheapest_74 : decode cX7_cheapest 74 = .ok (.istore 5, 2) := by decide +kernel
theorem dX7_cheapest_76 : decode cX7_cheapest 76 = .ok (.iconst 0, 1) := by decide +kernel
theorem dX7_cheapest_77 : decode cX7_cheapest 77 = .ok (.istore 6, 2) := by decide +kernel
theorem dX7_cheapest_79 : decode cX7_cheapest 79 = .ok (.iload 6, 2) := by decide +kernel
theorem dX7_cheapest_81 : decode cX7_cheapest 81 = .ok (.bipush 16, 2) := by decide +kernel
theorem dX7_cheapest_83 : decode cX7_cheapest 83 = .ok (.iload_n 3, 1) := by decide +kernel
theorem dX7_cheapest_84 : decode cX7_cheapest 84 = .ok (.invokestatic 314, 3) := by decide +kernel
theorem dX7_cheapest_87 : decode cX7_cheapest 87 = .ok (.if_icmp .ge 136, 3) := by decide +kernel
theorem dX7_cheapest_90 : decode cX7_cheapest 90 = .ok (.aload_n 0, 1) := by decide +kernel
theorem dX7_cheapest_91 : decode cX7_cheapest 91 = .ok (.iload 6, 2) := by decide +kernel
theorem dX7_cheapest_93 : decode cX7_cheapest 93 = .ok (.iload_n 2, 1) := by decide +kernel
theorem dX7_cheapest_94 : decode cX7_cheapest 94 = .ok (.invokevirtual 337, 3) := by decide +kernel
theorem dX7_cheapest_97 : decode cX7_cheapest 97 = .ok (.istore 7, 2) := by decide +kernel
theorem dX7_cheapest_99 : decode cX7_cheapest 99 = .ok (.iconst 0, 1) := by decide +kernel
theorem dX7_cheapest_100 : decode cX7_cheapest 100 = .ok (.istore 8, 2) := by decide +kernel
theorem dX7_cheapest_102 : decode cX7_cheapest 102 = .ok (.iconst 0, 1) := by decide +kernel
theorem dX7_cheapest_103 : decode cX7_cheapest 103 = .ok (.istore 9, 2) := by decide +kernel
theorem dX7_cheapest_147 : decode cX7_cheapest 147 = .ok (.iload 4, 2) := by decide +kernel
theorem dX7_cheapest_149 : decode cX7_cheapest 149 = .ok (.iconst (-1), 1) := by decide +kernel
theorem dX7_cheapest_150 : decode cX7_cheapest 150 = .ok (.if_icmp .eq 10, 3) := by decide +kernel
theorem dX7_cheapest_160 : decode cX7_cheapest 160 = .ok (.iconst 0, 1) := by decide +kernel
theorem dX7_cheapest_161 : decode cX7_cheapest 161 = .ok (.istore 9, 2) := by decide +kernel
theorem dX7_cheapest_163 : decode cX7_cheapest 163 = .ok (.iload 9, 2) := by decide +kernel
theorem dX7_cheapest_165 : decode cX7_cheapest 165 = .ok (.bipush 6, 2) := by decide +kernel
theorem dX7_cheapest_167 : decode cX7_cheapest 167 = .ok (.if_icmp .ge 34, 3) := by decide +kernel
theorem dX7_cheapest_170 : decode cX7_cheapest 170 = .ok (.aload_n 0, 1) := by decide +kernel
theorem dX7_cheapest_171 : decode cX7_cheapest 171 = .ok (.getfield 22, 3) := by decide +kernel
theorem dX7_cheapest_174 : decode cX7_cheapest 174 = .ok (.iload 9, 2) := by decide +kernel
theorem dX7_cheapest_176 : decode cX7_cheapest 176 = .ok (.aload_n 0, 1) := by decide +kernel
theorem dX7_cheapest_177 : decode cX7_cheapest 177 = .ok (.getfield 164, 3) := by decide +kernel
theorem dX7_cheapest_180 : decode cX7_cheapest 180 = .ok (.iload 9, 2) := by decide +kernel
theorem dX7_cheapest_182 : decode cX7_cheapest 182 = .ok (.iaload, 1) := by decide +kernel
theorem dX7_cheapest_183 : decode cX7_cheapest 183 = .ok (.iload 7, 2) := by decide +kernel
theorem dX7_cheapest_185 : decode cX7_cheapest 185 = .ok (.iconst 4, 1) := by decide +kernel
theorem dX7_cheapest_186 : decode cX7_cheapest 186 = .ok (.iload 9, 2) := by decide +kernel
theorem dX7_cheapest_188 : decode cX7_cheapest 188 = .ok (.imul, 1) := by decide +kernel
theorem dX7_cheapest_189 : decode cX7_cheapest 189 = .ok (.ishr, 1) := by decide +kernel
theorem dX7_cheapest_190 : decode cX7_cheapest 190 = .ok (.bipush 15, 2) := by decide +kernel
theorem dX7_cheapest_192 : decode cX7_cheapest 192 = .ok (.iand, 1) := by decide +kernel
theorem dX7_cheapest_193 : decode cX7_cheapest 193 = .ok (.ior, 1) := by decide +kernel
theorem dX7_cheapest_194 : decode cX7_cheapest 194 = .ok (.iastore, 1) := by decide +kernel
theorem dX7_cheapest_195 : decode cX7_cheapest 195 = .ok (.iinc 9 1, 3) := by decide +kernel
theorem dX7_cheapest_198 : decode cX7_cheapest 198 = .ok (.goto (-35), 3) := by decide +kernel
theorem dX7_cheapest_201 : decode cX7_cheapest 201 = .ok (.aload_n 0, 1) := by decide +kernel
theorem dX7_cheapest_202 : decode cX7_cheapest 202 = .ok (.invokevirtual 311, 3) := by decide +kernel
theorem dX7_cheapest_205 : decode cX7_cheapest 205 = .ok (.iconst (-1), 1) := by decide +kernel
theorem dX7_cheapest_206 : decode cX7_cheapest 206 = .ok (.if_icmp .ne 11, 3) := by decide +kernel
theorem dX7_cheapest_209 : decode cX7_cheapest 209 = .ok (.iload 7, 2) := by decide +kernel
theorem dX7_cheapest_211 : decode cX7_cheapest 211 = .ok (.istore 4, 2) := by decide +kernel
theorem dX7_cheapest_213 : decode cX7_cheapest 213 = .ok (.iload 8, 2) := by decide +kernel
theorem dX7_cheapest_215 : decode cX7_cheapest 215 = .ok (.istore 5, 2) := by decide +kernel
theorem dX7_cheapest_217 : decode cX7_cheapest 217 = .ok (.iinc 6 1, 3) := by decide +kernel
theorem dX7_cheapest_220 : decode cX7_cheapest 220 = .ok (.goto (-141), 3) := by decide +kernel
theorem dX7_cheapest_223 : decode cX7_cheapest 223 = .ok (.iconst 0, 1) := by decide +kernel
theorem dX7_cheapest_224 : decode cX7_cheapest 224 = .ok (.istore 6, 2) := by decide +kernel
theorem dX7_cheapest_226 : decode cX7_cheapest 226 = .ok (.iload 6, 2) := by decide +kernel
theorem dX7_cheapest_228 : decode cX7_cheapest 228 = .ok (.bipush 6, 2) := by decide +kernel
theorem dX7_cheapest_230 : decode cX7_cheapest 230 = .ok (.if_icmp .ge 23, 3) := by decide +kernel
theorem dX7_cheapest_233 : decode cX7_cheapest 233 = .ok (.aload_n 0, 1) := by decide +kernel
theorem dX7_cheapest_234 : decode cX7_cheapest 234 = .ok (.getfield 22, 3) := by decide +kernel
theorem dX7_cheapest_237 : decode cX7_cheapest 237 = .ok (.iload 6, 2) := by decide +kernel
theorem dX7_cheapest_239 : decode cX7_cheapest 239 = .ok (.aload_n 0, 1) := by decide +kernel
theorem dX7_cheapest_240 : decode cX7_cheapest 240 = .ok (.getfield 164, 3) := by decide +kernel
theorem dX7_cheapest_243 : decode cX7_cheapest 243 = .ok (.iload 6, 2) := by decide +kernel
theorem dX7_cheapest_245 : decode cX7_cheapest 245 = .ok (.iaload, 1) := by decide +kernel
theorem dX7_cheapest_246 : decode cX7_cheapest 246 = .ok (.iastore, 1) := by decide +kernel
theorem dX7_cheapest_247 : decode cX7_cheapest 247 = .ok (.iinc 6 1, 3) := by decide +kernel
theorem dX7_cheapest_250 : decode cX7_cheapest 250 = .ok (.goto (-24), 3) := by decide +kernel
theorem dX7_cheapest_253 : decode cX7_cheapest 253 = .ok (.iload 4, 2) := by decide +kernel
theorem dX7_cheapest_255 : decode cX7_cheapest 255 = .ok (.iconst (-1), 1) := by decide +kernel
theorem dX7_cheapest_256 : decode cX7_cheapest 256 = .ok (.if_icmp .ne 7, 3) := by decide +kernel
theorem dX7_cheapest_263 : decode cX7_cheapest 263 = .ok (.iload_n 1, 1) := by decide +kernel
theorem dX7_cheapest_264 : decode cX7_cheapest 264 = .ok (.ifCond .ne 8, 3) := by decide +kernel
theorem dX7_cheapest_272 : decode cX7_cheapest 272 = .ok (.iload 4, 2) := by decide +kernel
theorem dX7_cheapest_274 : decode cX7_cheapest 274 = .ok (.ireturn, 1) := by decide +kernel
theorem dX7_cheapest_267 : decode cX7_cheapest 267 = .ok (.iload 5, 2) := by decide +kernel
theorem dX7_cheapest_269 : decode cX7_cheapest 269 = .ok (.goto 5, 3) := by decide +kernel
theorem dX7_cheapest_9 : decode cX7_cheapest 9 = .ok (.iconst (-1), 1) := by decide +kernel
theorem dX7_cheapest_10 : decode cX7_cheapest 10 = .ok (.ireturn, 1) := by decide +kernel
theorem dX7_feed_32 : decode cX7_feed 32 = .ok (.iload 4, 2) := by decide +kernel
theorem dX7_feed_34 : decode cX7_feed 34 = .ok (.ifCond .lt 40, 3) := by decide +kernel
theorem dX7_feed_37 : decode cX7_feed 37 = .ok (.aload_n 0, 1) := by decide +kernel
theorem dX7_feed_38 : decode cX7_feed 38 = .ok (.getfield 83, 3) := by decide +kernel
theorem dX7_feed_41 : decode cX7_feed 41 = .ok (.aload_n 0, 1) := by decide +kernel
theorem dX7_feed_42 : decode cX7_feed 42 = .ok (.getfield 175, 3) := by decide +kernel
theorem dX7_feed_45 : decode cX7_feed 45 = .ok (.lload_n 1, 1) := by decide +kernel
theorem dX7_feed_46 : decode cX7_feed 46 = .ok (.bipush 8, 2) := by decide +kernel
theorem dX7_feed_48 : decode cX7_feed 48 = .ok (.iload 4, 2) := by decide +kernel
theorem dX7_feed_50 : decode cX7_feed 50 = .ok (.imul, 1) := by decide +kernel
theorem dX7_feed_51 : decode cX7_feed 51 = .ok (.lshr, 1) := by decide +kernel
theorem dX7_feed_52 : decode cX7_feed 52 = .ok (.ldc2_w 178, 3) := by decide +kernel
theorem dX7_feed_55 : decode cX7_feed 55 = .ok (.land, 1) := by decide +kernel
theorem dX7_feed_56 : decode cX7_feed 56 = .ok (.l2i, 1) := by decide +kernel
theorem dX7_feed_57 : decode cX7_feed 57 = .ok (.iastore, 1) := by decide +kernel
theorem dX7_feed_58 : decode cX7_feed 58 = .ok (.aload_n 0, 1) := by decide +kernel
theorem dX7_feed_59 : decode cX7_feed 59 = .ok (.dup, 1) := by decide +kernel
theorem dX7_feed_60 : decode cX7_feed 60 = .ok (.getfield 175, 3) := by decide +kernel
theorem dX7_feed_63 : decode cX7_feed 63 = .ok (.iconst 1, 1) := by decide +kernel
theorem dX7_feed_64 : decode cX7_feed 64 = .ok (.iadd, 1) := by decide +kernel
theorem dX7_feed_65 : decode cX7_feed 65 = .ok (.putfield 175, 3) := by decide +kernel
theorem dX7_feed_68 : decode cX7_feed 68 = .ok (.iinc 4 (-1), 3) := by decide +kernel
theorem dX7_feed_71 : decode cX7_feed 71 = .ok (.goto (-39), 3) := by decide +kernel
theorem dX7_feed_0 : decode cX7_feed 0 = .ok (.iload_n 3, 1) := by decide +kernel
theorem dX7_feed_1 : decode cX7_feed 1 = .ok (.iconst 1, 1) := by decide +kernel
theorem dX7_feed_2 : decode cX7_feed 2 = .ok (.bipush 8, 2) := by decide +kernel
theorem dX7_feed_4 : decode cX7_feed 4 = .ok (.invokestatic 171, 3) := by decide +kernel
theorem dX7_feed_7 : decode cX7_feed 7 = .ok (.ifCond .ne 6, 3) := by decide +kernel
theorem dX7_feed_13 : decode cX7_feed 13 = .ok (.aload_n 0, 1) := by decide +kernel
theorem dX7_feed_14 : decode cX7_feed 14 = .ok (.getfield 175, 3) := by decide +kernel
theorem dX7_feed_17 : decode cX7_feed 17 = .ok (.iload_n 3, 1) := by decide +kernel
theorem dX7_feed_18 : decode cX7_feed 18 = .ok (.iadd, 1) := by decide +kernel
theorem dX7_feed_19 : decode cX7_feed 19 = .ok (.bipush 100, 2) := by decide +kernel
theorem dX7_feed_21 : decode cX7_feed 21 = .ok (.if_icmp .le 6, 3) := by decide +kernel
theorem dX7_feed_27 : decode cX7_feed 27 = .ok (.iload_n 3, 1) := by decide +kernel
theorem dX7_feed_28 : decode cX7_feed 28 = .ok (.iconst 1, 1) := by decide +kernel
theorem dX7_feed_29 : decode cX7_feed 29 = .ok (.isub, 1) := by decide +kernel
theorem dX7_feed_30 : decode cX7_feed 30 = .ok (.istore 4, 2) := by decide +kernel
theorem dX7_feed_74 : decode cX7_feed 74 = .ok (.aload_n 0, 1) := by decide +kernel
theorem dX7_feed_75 : decode cX7_feed 75 = .ok (.getfield 175, 3) := by decide +kernel
theorem dX7_feed_78 : decode cX7_feed 78 = .ok (.ireturn, 1) := by decide +kernel
theorem dX7_feed_10 : decode cX7_feed 10 = .ok (.bipush (-2), 2) := by decide +kernel
theorem dX7_feed_12 : decode cX7_feed 12 = .ok (.ireturn, 1) := by decide +kernel
theorem dX7_byteAt_0 : decode cX7_byteAt 0 = .ok (.iload_n 1, 1) := by decide +kernel
theorem dX7_byteAt_1 : decode cX7_byteAt 1 = .ok (.aload_n 0, 1) := by decide +kernel
theorem dX7_byteAt_2 : decode cX7_byteAt 2 = .ok (.getfield 175, 3) := by decide +kernel
theorem dX7_byteAt_5 : decode cX7_byteAt 5 = .ok (.if_icmp .ge 12, 3) := by decide +kernel
theorem dX7_byteAt_17 : decode cX7_byteAt 17 = .ok (.iconst (-1), 1) := by decide +kernel
theorem dX7_byteAt_18 : decode cX7_byteAt 18 = .ok (.ireturn, 1) := by decide +kernel
theorem dX7_must_0 : decode cX7_must 0 = .ok (.aload_n 0, 1) := by decide +kernel
theorem dX7_must_1 : decode cX7_must 1 = .ok (.aload_n 0, 1) := by decide +kernel
theorem dX7_must_2 : decode cX7_must 2 = .ok (.getfield 180, 3) := by decide +kernel
theorem dX7_must_5 : decode cX7_must 5 = .ok (.ifCond .ne 15, 3) := by decide +kernel
theorem dX7_must_20 : decode cX7_must 20 = .ok (.iconst 1, 1) := by decide +kernel
theorem dX7_must_21 : decode cX7_must 21 = .ok (.goto 4, 3) := by decide +kernel
theorem dX7_must_25 : decode cX7_must 25 = .ok (.putfield 180, 3) := by decide +kernel
theorem dX7_must_28 : decode cX7_must 28 = .ok (.aload_n 0, 1) := by decide +kernel
theorem dX7_must_29 : decode cX7_must 29 = .ok (.dup, 1) := by decide +kernel
theorem dX7_must_30 : decode cX7_must 30 = .ok (.getfield 184, 3) := by decide +kernel
theorem dX7_must_33 : decode cX7_must 33 = .ok (.aload_n 0, 1) := by decide +kernel
theorem dX7_must_34 : decode cX7_must 34 = .ok (.getfield 180, 3) := by decide +kernel
theorem dX7_must_37 : decode cX7_must 37 = .ok (.ifCond .eq 7, 3) := by decide +kernel
theorem dX7_must_40 : decode cX7_must 40 = .ok (.iconst 0, 1) := by decide +kernel
theorem dX7_must_41 : decode cX7_must 41 = .ok (.goto 4, 3) := by decide +kernel
theorem dX7_must_45 : decode cX7_must 45 = .ok (.iadd, 1) := by decide +kernel
theorem dX7_must_46 : decode cX7_must 46 = .ok (.putfield 184, 3) := by decide +kernel
theorem dX7_must_49 : decode cX7_must 49 = .ok (.return_, 1) := by decide +kernel
theorem dX7_readsWorth_0 : decode cX7_readsWorth 0 = .ok (.aload_n 0, 1) := by decide +kernel
theorem dX7_readsWorth_1 : decode cX7_readsWorth 1 = .ok (.getfield 180, 3) := by decide +kernel
theorem dX7_readsWorth_4 : decode cX7_readsWorth 4 = .ok (.ifCond .eq 7, 3) := by decide +kernel
theorem dX7_readsWorth_7 : decode cX7_readsWorth 7 = .ok (.iconst (-1), 1) := by decide +kernel
theorem dX7_readsWorth_8 : decode cX7_readsWorth 8 = .ok (.goto 11, 3) := by decide +kernel
theorem dX7_readsWorth_19 : decode cX7_readsWorth 19 = .ok (.istore_n 1, 1) := by decide +kernel
theorem dX7_readsWorth_20 : decode cX7_readsWorth 20 = .ok (.iload_n 1, 1) := by decide +kernel
theorem dX7_readsWorth_21 : decode cX7_readsWorth 21 = .ok (.bipush 120, 2) := by decide +kernel
theorem dX7_readsWorth_23 : decode cX7_readsWorth 23 = .ok (.if_icmp .eq 9, 3) := by decide +kernel
theorem dX7_readsWorth_26 : decode cX7_readsWorth 26 = .ok (.iload_n 1, 1) := by decide +kernel
theorem dX7_readsWorth_27 : decode cX7_readsWorth 27 = .ok (.bipush 114, 2) := by decide +kernel
theorem dX7_readsWorth_29 : decode cX7_readsWorth 29 = .ok (.if_icmp .ne 29, 3) := by decide +kernel
theorem dX7_readsWorth_58 : decode cX7_readsWorth 58 = .ok (.iconst 0, 1) := by decide +kernel
theorem dX7_readsWorth_59 : decode cX7_readsWorth 59 = .ok (.istore_n 2, 1) := by decide +kernel
theorem dX7_readsWorth_60 : decode cX7_readsWorth 60 = .ok (.iconst 0, 1) := by decide +kernel
theorem dX7_readsWorth_61 : decode cX7_readsWorth 61 = .ok (.istore_n 3, 1) := by decide +kernel
theorem dX7_readsWorth_62 : decode cX7_readsWorth 62 = .ok (.aload_n 0, 1) := by decide +kernel
theorem dX7_readsWorth_63 : decode cX7_readsWorth 63 = .ok (.getfield 180, 3) := by decide +kernel
theorem dX7_readsWorth_66 : decode cX7_readsWorth 66 = .ok (.ifCond .ne 59, 3) := by decide +kernel
theorem dX7_readsWorth_125 : decode cX7_readsWorth 125 = .ok (.aload_n 0, 1) := by decide +kernel
theorem dX7_readsWorth_126 : decode cX7_readsWorth 126 = .ok (.aload_n 0, 1) := by decide +kernel
theorem dX7_readsWorth_127 : decode cX7_readsWorth 127 = .ok (.getfield 180, 3) := by decide +kernel
theorem dX7_readsWorth_130 : decode cX7_readsWorth 130 = .ok (.ifCond .ne 7, 3) := by decide +kernel
theorem dX7_readsWorth_137 : decode cX7_readsWorth 137 = .ok (.iconst 1, 1) := by decide +kernel
theorem dX7_readsWorth_138 : decode cX7_readsWorth 138 = .ok (.goto 4, 3) := by decide +kernel
theorem dX7_readsWorth_142 : decode cX7_readsWorth 142 = .ok (.putfield 180, 3) := by decide +kernel
theorem dX7_readsWorth_145 : decode cX7_readsWorth 145 = .ok (.iload_n 3, 1) := by decide +kernel
theorem dX7_readsWorth_146 : decode cX7_readsWorth 146 = .ok (.ireturn, 1) := by decide +kernel
theorem dX7_readsAct_0 : decode cX7_readsAct 0 = .ok (.aload_n 0, 1) := by decide +kernel
theorem dX7_readsAct_1 : decode cX7_readsAct 1 = .ok (.aload_n 0, 1) := by decide +kernel
theorem dX7_readsAct_2 : decode cX7_readsAct 2 = .ok (.getfield 184, 3) := by decide +kernel
theorem dX7_readsAct_5 : decode cX7_readsAct 5 = .ok (.invokevirtual 187, 3) := by decide +kernel
theorem dX7_readsAct_8 : decode cX7_readsAct 8 = .ok (.bipush 97, 2) := by decide +kernel
theorem dX7_readsAct_10 : decode cX7_readsAct 10 = .ok (.if_icmp .ne 22, 3) := by decide +kernel
theorem dX7_readsAct_32 : decode cX7_readsAct 32 = .ok (.iconst 0, 1) := by decide +kernel
theorem dX7_readsAct_33 : decode cX7_readsAct 33 = .ok (.istore_n 1, 1) := by decide +kernel
theorem dX7_readsAct_34 : decode cX7_readsAct 34 = .ok (.iload_n 1, 1) := by decide +kernel
theorem dX7_readsAct_35 : decode cX7_readsAct 35 = .ok (.bipush 8, 2) := by decide +kernel
theorem dX7_readsAct_37 : decode cX7_readsAct 37 = .ok (.if_icmp .ge 28, 3) := by decide +kernel
theorem dX7_readsAct_40 : decode cX7_readsAct 40 = .ok (.aload_n 0, 1) := by decide +kernel
theorem dX7_readsAct_41 : decode cX7_readsAct 41 = .ok (.aload_n 0, 1) := by decide +kernel
theorem dX7_readsAct_42 : decode cX7_readsAct 42 = .ok (.getfield 184, 3) := by decide +kernel
theorem dX7_readsAct_45 : decode cX7_readsAct 45 = .ok (.invokevirtual 187, 3) := by decide +kernel
theorem dX7_readsAct_48 : decode cX7_readsAct 48 = .ok (.aload_n 0, 1) := by decide +kernel
theorem dX7_readsAct_49 : decode cX7_readsAct 49 = .ok (.getfield 107, 3) := by decide +kernel
theorem dX7_readsAct_52 : decode cX7_readsAct 52 = .ok (.iconst 3, 1) := by decide +kernel
theorem dX7_readsAct_53 : decode cX7_readsAct 53 = .ok (.iload_n 1, 1) := by decide +kernel
theorem dX7_readsAct_54 : decode cX7_readsAct 54 = .ok (.imul, 1) := by decide +kernel
theorem dX7_readsAct_55 : decode cX7_readsAct 55 = .ok (.iaload, 1) := by decide +kernel
theorem dX7_readsAct_56 : decode cX7_readsAct 56 = .ok (.if_icmp .eq 9, 3) := by decide +kernel
theorem dX7_readsAct_59 : decode cX7_readsAct 59 = .ok (.iinc 1 1, 3) := by decide +kernel
theorem dX7_readsAct_62 : decode cX7_readsAct 62 = .ok (.goto (-28), 3) := by decide +kernel
theorem dX7_readsAct_65 : decode cX7_readsAct 65 = .ok (.aload_n 0, 1) := by decide +kernel
theorem dX7_readsAct_66 : decode cX7_readsAct 66 = .ok (.aload_n 0, 1) := by decide +kernel
theorem dX7_readsAct_67 : decode cX7_readsAct 67 = .ok (.getfield 180, 3) := by decide +kernel
theorem dX7_readsAct_70 : decode cX7_readsAct 70 = .ok (.ifCond .ne 9, 3) := by decide +kernel
theorem dX7_readsAct_73 : decode cX7_readsAct 73 = .ok (.iload_n 1, 1) := by decide +kernel
theorem dX7_readsAct_74 : decode cX7_readsAct 74 = .ok (.bipush 8, 2) := by decide +kernel
theorem dX7_readsAct_76 : decode cX7_readsAct 76 = .ok (.if_icmp .ne 7, 3) := by decide +kernel
theorem dX7_readsAct_79 : decode cX7_readsAct 79 = .ok (.iconst 1, 1) := by decide +kernel
theorem dX7_readsAct_80 : decode cX7_readsAct 80 = .ok (.goto 4, 3) := by decide +kernel
theorem dX7_readsAct_84 : decode cX7_readsAct 84 = .ok (.putfield 180, 3) := by decide +kernel
theorem dX7_readsAct_87 : decode cX7_readsAct 87 = .ok (.iconst 0, 1) := by decide +kernel
theorem dX7_readsAct_88 : decode cX7_readsAct 88 = .ok (.istore_n 2, 1) := by decide +kernel
theorem dX7_readsAct_89 : decode cX7_readsAct 89 = .ok (.iload_n 2, 1) := by decide +kernel
theorem dX7_readsAct_90 : decode cX7_readsAct 90 = .ok (.iconst 3, 1) := by decide +kernel
theorem dX7_readsAct_91 : decode cX7_readsAct 91 = .ok (.if_icmp .ge 43, 3) := by decide +kernel
theorem dX7_readsAct_94 : decode cX7_readsAct 94 = .ok (.aload_n 0, 1) := by decide +kernel
theorem dX7_readsAct_95 : decode cX7_readsAct 95 = .ok (.getfield 180, 3) := by decide +kernel
theorem dX7_readsAct_98 : decode cX7_readsAct 98 = .ok (.ifCond .ne 36, 3) := by decide +kernel
theorem dX7_readsAct_134 : decode cX7_readsAct 134 = .ok (.aload_n 0, 1) := by decide +kernel
theorem dX7_readsAct_135 : decode cX7_readsAct 135 = .ok (.bipush 32, 2) := by decide +kernel
theorem dX7_readsAct_137 : decode cX7_readsAct 137 = .ok (.invokevirtual 191, 3) := by decide +kernel
theorem dX7_readsAct_140 : decode cX7_readsAct 140 = .ok (.iconst 0, 1) := by decide +kernel
theorem dX7_readsAct_141 : decode cX7_readsAct 141 = .ok (.istore_n 2, 1) := by decide +kernel
theorem dX7_readsAct_142 : decode cX7_readsAct 142 = .ok (.iload_n 1, 1) := by decide +kernel
theorem dX7_readsAct_143 : decode cX7_readsAct 143 = .ok (.bipush 6, 2) := by decide +kernel
theorem dX7_readsAct_145 : decode cX7_readsAct 145 = .ok (.if_icmp .eq 91, 3) := by decide +kernel
theorem dX7_readsAct_148 : decode cX7_readsAct 148 = .ok (.aload_n 0, 1) := by decide +kernel
theorem dX7_readsAct_149 : decode cX7_readsAct 149 = .ok (.aload_n 0, 1) := by decide +kernel
theorem dX7_readsAct_150 : decode cX7_readsAct 150 = .ok (.getfield 180, 3) := by decide +kernel
theorem dX7_readsAct_153 : decode cX7_readsAct 153 = .ok (.ifCond .ne 31, 3) := by decide +kernel
theorem dX7_readsAct_184 : decode cX7_readsAct 184 = .ok (.iconst 1, 1) := by decide +kernel
theorem dX7_readsAct_185 : decode cX7_readsAct 185 = .ok (.goto 4, 3) := by decide +kernel
theorem dX7_readsAct_189 : decode cX7_readsAct 189 = .ok (.putfield 180, 3) := by decide +kernel
theorem dX7_readsAct_192 : decode cX7_readsAct 192 = .ok (.aload_n 0, 1) := by decide +kernel
theorem dX7_readsAct_193 : decode cX7_readsAct 193 = .ok (.getfield 180, 3) := by decide +kernel
theorem dX7_readsAct_196 : decode cX7_readsAct 196 = .ok (.ifCond .eq 7, 3) := by decide +kernel
theorem dX7_readsAct_199 : decode cX7_readsAct 199 = .ok (.iconst 0, 1) := by decide +kernel
theorem dX7_readsAct_200 : decode cX7_readsAct 200 = .ok (.goto 14, 3) := by decide +kernel
theorem dX7_readsAct_214 : decode cX7_readsAct 214 = .ok (.istore_n 2, 1) := by decide +kernel
theorem dX7_readsAct_215 : decode cX7_readsAct 215 = .ok (.aload_n 0, 1) := by decide +kernel
theorem dX7_readsAct_216 : decode cX7_readsAct 216 = .ok (.dup, 1) := by decide +kernel
theorem dX7_readsAct_217 : decode cX7_readsAct 217 = .ok (.getfield 184, 3) := by decide +kernel
theorem dX7_readsAct_220 : decode cX7_readsAct 220 = .ok (.aload_n 0, 1) := by decide +kernel
theorem dX7_readsAct_221 : decode cX7_readsAct 221 = .ok (.getfield 180, 3) := by decide +kernel
theorem dX7_readsAct_224 : decode cX7_readsAct 224 = .ok (.ifCond .eq 7, 3) := by decide +kernel
theorem dX7_readsAct_227 : decode cX7_readsAct 227 = .ok (.iconst 0, 1) := by decide +kernel
theorem dX7_readsAct_228 : decode cX7_readsAct 228 = .ok (.goto 4, 3) := by decide +kernel
theorem dX7_readsAct_232 : decode cX7_readsAct 232 = .ok (.iadd, 1) := by decide +kernel
theorem dX7_readsAct_233 : decode cX7_readsAct 233 = .ok (.putfield 184, 3) := by decide +kernel
theorem dX7_readsAct_236 : decode cX7_readsAct 236 = .ok (.iconst 0, 1) := by decide +kernel
theorem dX7_readsAct_237 : decode cX7_readsAct 237 = .ok (.istore_n 3, 1) := by decide +kernel
theorem dX7_readsAct_238 : decode cX7_readsAct 238 = .ok (.iload_n 1, 1) := by decide +kernel
theorem dX7_readsAct_239 : decode cX7_readsAct 239 = .ok (.iconst 3, 1) := by decide +kernel
theorem dX7_readsAct_240 : decode cX7_readsAct 240 = .ok (.if_icmp .eq 25, 3) := by decide +kernel
theorem dX7_readsAct_243 : decode cX7_readsAct 243 = .ok (.iload_n 1, 1) := by decide +kernel
theorem dX7_readsAct_244 : decode cX7_readsAct 244 = .ok (.iconst 4, 1) := by decide +kernel
theorem dX7_readsAct_245 : decode cX7_readsAct 245 = .ok (.if_icmp .eq 20, 3) := by decide +kernel
theorem dX7_readsAct_248 : decode cX7_readsAct 248 = .ok (.iload_n 1, 1) := by decide +kernel
theorem dX7_readsAct_249 : decode cX7_readsAct 249 = .ok (.bipush 6, 2) := by decide +kernel
theorem dX7_readsAct_251 : decode cX7_readsAct 251 = .ok (.if_icmp .eq 9, 3) := by decide +kernel
theorem dX7_readsAct_254 : decode cX7_readsAct 254 = .ok (.aload_n 0, 1) := by decide +kernel
theorem dX7_readsAct_255 : decode cX7_readsAct 255 = .ok (.bipush 32, 2) := by decide +kernel
theorem dX7_readsAct_257 : decode cX7_readsAct 257 = .ok (.invokevirtual 191, 3) := by decide +kernel
theorem dX7_readsAct_260 : decode cX7_readsAct 260 = .ok (.aload_n 0, 1) := by decide +kernel
theorem dX7_readsAct_261 : decode cX7_readsAct 261 = .ok (.invokevirtual 195, 3) := by decide +kernel
theorem dX7_readsAct_264 : decode cX7_readsAct 264 = .ok (.istore_n 3, 1) := by decide +kernel
theorem dX7_readsAct_265 : decode cX7_readsAct 265 = .ok (.aload_n 0, 1) := by decide +kernel
theorem dX7_readsAct_266 : decode cX7_readsAct 266 = .ok (.getfield 98, 3) := by decide +kernel
theorem dX7_readsAct_269 : decode cX7_readsAct 269 = .ok (.aload_n 0, 1) := by decide +kernel
theorem dX7_readsAct_270 : decode cX7_readsAct 270 = .ok (.getfield 199, 3) := by decide +kernel
theorem dX7_readsAct_273 : decode cX7_readsAct 273 = .ok (.iload_n 1, 1) := by decide +kernel
theorem dX7_readsAct_274 : decode cX7_readsAct 274 = .ok (.iastore, 1) := by decide +kernel
theorem dX7_readsAct_275 : decode cX7_readsAct 275 = .ok (.aload_n 0, 1) := by decide +kernel
theorem dX7_readsAct_276 : decode cX7_readsAct 276 = .ok (.getfield 101, 3) := by decide +kernel
theorem dX7_readsAct_279 : decode cX7_readsAct 279 = .ok (.aload_n 0, 1) := by decide +kernel
theorem dX7_readsAct_280 : decode cX7_readsAct 280 = .ok (.getfield 199, 3) := by decide +kernel
theorem dX7_readsAct_283 : decode cX7_readsAct 283 = .ok (.iload_n 2, 1) := by decide +kernel
theorem dX7_readsAct_284 : decode cX7_readsAct 284 = .ok (.iastore, 1) := by decide +kernel
theorem dX7_readsAct_285 : decode cX7_readsAct 285 = .ok (.aload_n 0, 1) := by decide +kernel
theorem dX7_readsAct_286 : decode cX7_readsAct 286 = .ok (.getfield 104, 3) := by decide +kernel
theorem dX7_readsAct_289 : decode cX7_readsAct 289 = .ok (.aload_n 0, 1) := by decide +kernel
theorem dX7_readsAct_290 : decode cX7_readsAct 290 = .ok (.getfield 199, 3) := by decide +kernel
theorem dX7_readsAct_293 : decode cX7_readsAct 293 = .ok (.iload_n 3, 1) := by decide +kernel
theorem dX7_readsAct_294 : decode cX7_readsAct 294 = .ok (.iastore, 1) := by decide +kernel
theorem dX7_readsAct_295 : decode cX7_readsAct 295 = .ok (.aload_n 0, 1) := by decide +kernel
theorem dX7_readsAct_296 : decode cX7_readsAct 296 = .ok (.dup, 1) := by decide +kernel
theorem dX7_readsAct_297 : decode cX7_readsAct 297 = .ok (.getfield 199, 3) := by decide +kernel
theorem dX7_readsAct_300 : decode cX7_readsAct 300 = .ok (.iconst 1, 1) := by decide +kernel
theorem dX7_readsAct_301 : decode cX7_readsAct 301 = .ok (.iadd, 1) := by decide +kernel
theorem dX7_readsAct_302 : decode cX7_readsAct 302 = .ok (.putfield 199, 3) := by decide +kernel
theorem dX7_readsAct_305 : decode cX7_readsAct 305 = .ok (.return_, 1) := by decide +kernel
theorem dX7_reads_0 : decode cX7_reads 0 = .ok (.aload_n 0, 1) := by decide +kernel
theorem dX7_reads_1 : decode cX7_reads 1 = .ok (.iconst 0, 1) := by decide +kernel
theorem dX7_reads_2 : decode cX7_reads 2 = .ok (.putfield 184, 3) := by decide +kernel
theorem dX7_reads_5 : decode cX7_reads 5 = .ok (.aload_n 0, 1) := by decide +kernel
theorem dX7_reads_6 : decode cX7_reads 6 = .ok (.iconst 0, 1) := by decide +kernel
theorem dX7_reads_7 : decode cX7_reads 7 = .ok (.putfield 180, 3) := by decide +kernel
theorem dX7_reads_10 : decode cX7_reads 10 = .ok (.aload_n 0, 1) := by decide +kernel
theorem dX7_reads_11 : decode cX7_reads 11 = .ok (.iconst 0, 1) := by decide +kernel
theorem dX7_reads_12 : decode cX7_reads 12 = .ok (.putfield 199, 3) := by decide +kernel
theorem dX7_reads_15 : decode cX7_reads 15 = .ok (.iconst 1, 1) := by decide +kernel
theorem dX7_reads_16 : decode cX7_reads 16 = .ok (.istore_n 1, 1) := by decide +kernel
theorem dX7_reads_17 : decode cX7_reads 17 = .ok (.iload_n 1, 1) := by decide +kernel
theorem dX7_reads_18 : decode cX7_reads 18 = .ok (.ifCond .eq 63, 3) := by decide +kernel
theorem dX7_reads_21 : decode cX7_reads 21 = .ok (.aload_n 0, 1) := by decide +kernel
theorem dX7_reads_22 : decode cX7_reads 22 = .ok (.invokevirtual 202, 3) := by decide +kernel
theorem dX7_reads_25 : decode cX7_reads 25 = .ok (.aload_n 0, 1) := by decide +kernel
theorem dX7_reads_26 : decode cX7_reads 26 = .ok (.getfield 180, 3) := by decide +kernel
theorem dX7_reads_29 : decode cX7_reads 29 = .ok (.ifCond .ne 29, 3) := by decide +kernel
theorem dX7_reads_58 : decode cX7_reads 58 = .ok (.iconst 0, 1) := by decide +kernel
theorem dX7_reads_59 : decode cX7_reads 59 = .ok (.istore_n 1, 1) := by decide +kernel
theorem dX7_reads_60 : decode cX7_reads 60 = .ok (.aload_n 0, 1) := by decide +kernel
theorem dX7_reads_61 : decode cX7_reads 61 = .ok (.dup, 1) := by decide +kernel
theorem dX7_reads_62 : decode cX7_reads 62 = .ok (.getfield 184, 3) := by decide +kernel
theorem dX7_reads_65 : decode cX7_reads 65 = .ok (.iload_n 1, 1) := by decide +kernel
theorem dX7_reads_66 : decode cX7_reads 66 = .ok (.ifCond .eq 7, 3) := by decide +kernel
theorem dX7_reads_73 : decode cX7_reads 73 = .ok (.iconst 0, 1) := by decide +kernel
theorem dX7_reads_74 : decode cX7_reads 74 = .ok (.iadd, 1) := by decide +kernel
theorem dX7_reads_75 : decode cX7_reads 75 = .ok (.putfield 184, 3) := by decide +kernel
theorem dX7_reads_78 : decode cX7_reads 78 = .ok (.goto (-61), 3) := by decide +kernel
theorem dX7_reads_81 : decode cX7_reads 81 = .ok (.aload_n 0, 1) := by decide +kernel
theorem dX7_reads_82 : decode cX7_reads 82 = .ok (.getfield 180, 3) := by decide +kernel
theorem dX7_reads_85 : decode cX7_reads 85 = .ok (.ifCond .ne 18, 3) := by decide +kernel
theorem dX7_reads_103 : decode cX7_reads 103 = .ok (.iconst 0, 1) := by decide +kernel
theorem dX7_reads_104 : decode cX7_reads 104 = .ok (.ireturn, 1) := by decide +kernel
theorem dX7_service_0 : decode cX7_service 0 = .ok (.aload_n 0, 1) := by decide +kernel
theorem dX7_service_1 : decode cX7_service 1 = .ok (.getfield 167, 3) := by decide +kernel
theorem dX7_service_4 : decode cX7_service 4 = .ok (.bipush 6, 2) := by decide +kernel
theorem dX7_service_6 : decode cX7_service 6 = .ok (.if_icmp .ne 6, 3) := by decide +kernel
theorem dX7_service_12 : decode cX7_service 12 = .ok (.aload_n 0, 1) := by decide +kernel
theorem dX7_service_13 : decode cX7_service 13 = .ok (.invokevirtual 205, 3) := by decide +kernel
theorem dX7_service_16 : decode cX7_service 16 = .ok (.ifCond .ne 16, 3) := by decide +kernel
theorem dX7_service_19 : decode cX7_service 19 = .ok (.aload_n 0, 1) := by decide +kernel
theorem dX7_service_20 : decode cX7_service 20 = .ok (.iconst 0, 1) := by decide +kernel
theorem dX7_service_21 : decode cX7_service 21 = .ok (.putfield 175, 3) := by decide +kernel
theorem dX7_service_24 : decode cX7_service 24 = .ok (.bipush (-10), 2) := by decide +kernel
theorem dX7_service_26 : decode cX7_service 26 = .ok (.aload_n 0, 1) := by decide +kernel
theorem dX7_service_27 : decode cX7_service 27 = .ok (.getfield 184, 3) := by decide +kernel
theorem dX7_service_30 : decode cX7_service 30 = .ok (.isub, 1) := by decide +kernel
theorem dX7_service_31 : decode cX7_service 31 = .ok (.ireturn, 1) := by decide +kernel
set_option maxHeartbeats 4000000 in
set_option maxRecDepth 100000 in
theorem c_reached (l : Launch) (D : va_G) (cI cZ cS : ClassId) (N0 : NT) (h : Nat) (fs : List Value) (h30 : fs[30]? = some (.int 0)) (h0 : fs[0]? = some (.int 0)) : Mx l D cI cZ cS N0 yX7_reached cX7_reached 4 (some .int) 1 0 0 [.ref h] [(h, .inr (7, fs))] (fun v w => v = some (.int 0) ∧ w = ([(h, .inr (7, fs))] : va_W)) := by
  refine x_enter (by decide) (Nat.le_of_ble_eq_true rfl) ?_
  intro p e s m args below meth c A ls H locs hB hr hin hl hV hA
  have hx := hB.1
  have hb := hB.2.1
  have hl : lv_has ls 4 [(0, .ref h)] := hl
  refine lv_iconst (v := 0) hx hb dX7_reached_0 (by decide) ?_
  refine lv_istore_n (lv' := [(1, .int 0), (0, .ref h)]) hx hb dX7_reached_1 rfl hl (by decide) rfl (fun ls hl => ?_)
  refine lv_iconst (v := 0) hx hb dX7_reached_2 (by decide) ?_
  refine lv_istore_n (lv' := [(2, .int 0), (1, .int 0), (0, .ref h)]) hx hb dX7_reached_3 rfl hl (by decide) rfl (fun ls hl => ?_)
  refine lv_iload_n hx hb dX7_reached_4 rfl (lv_at hl 0 rfl) ?_
  refine lv_aload_n hx hb dX7_reached_5 rfl (lv_at hl 2 rfl) ?_
  refine x_get (v := .int 0) hB hV 0 rfl rfl 30 (by decide) k_775 h30 dX7_reached_6 ?_
  refine lv_icmp_ge (tgt := 29) hx hb dX7_reached_9 (by decide) (fun c_ => ?_) (fun c_ => absurd (by decide) c_)
  refine lv_iconst (v := 0) hx hb dX7_reached_29 (by decide) ?_
  refine lv_istore_n (lv' := [(2, .int 0), (1, .int 0), (0, .ref h)]) hx hb dX7_reached_30 rfl hl (by decide) rfl (fun ls hl => ?_)
  refine lv_iload_n hx hb dX7_reached_31 rfl (lv_at hl 0 rfl) ?_
  refine lv_aload_n hx hb dX7_reached_32 rfl (lv_at hl 2 rfl) ?_
  refine x_get (v := .int 0) hB hV 0 rfl rfl 0 (by decide) k_745 h0 dX7_reached_33 ?_
  refine lv_icmp_ge (tgt := 104) hx hb dX7_reached_36 (by decide) (fun c_ => ?_) (fun c_ => absurd (by decide) c_)
  refine lv_iload_n hx hb dX7_reached_104 rfl (lv_at hl 1 rfl) ?_
  exact x_iret (w := [(h, .inr (7, fs))]) hB hr hV hA (Nat.le_of_ble_eq_true rfl) (Nat.le_of_ble_eq_true rfl) [0] rfl rfl (by decide) dX7_reached_105 ⟨rfl, rfl⟩
set_option maxHeartbeats 4000000 in
set_option maxRecDepth 100000 in
theorem c_bits (l : Launch) (D : va_G) (cI cZ cS : ClassId) (N0 : NT)   : Mx l D cI cZ cS N0 yX7_bits cX7_bits 3 (some .int) 0 0 0 [.int 0] [] (fun v w => v = some (.int 0) ∧ w = ([] : va_W)) := by
  refine x_enter (by decide) (Nat.le_of_ble_eq_true rfl) ?_
  intro p e s m args below meth c A ls H locs hB hr hin hl hV hA
  have hx := hB.1
  have hb := hB.2.1
  have hl : lv_has ls 3 [(0, .int 0)] := hl
  refine lv_iconst (v := 0) hx hb dX7_bits_0 (by decide) ?_
  refine lv_istore_n (lv' := [(1, .int 0), (0, .int 0)]) hx hb dX7_bits_1 rfl hl (by decide) rfl (fun ls hl => ?_)
  refine lv_iconst (v := 0) hx hb dX7_bits_2 (by decide) ?_
  refine lv_istore_n (lv' := [(2, .int 0), (1, .int 0), (0, .int 0)]) hx hb dX7_bits_3 rfl hl (by decide) rfl (fun ls hl => ?_)
  refine lv_iload_n hx hb dX7_bits_4 rfl (lv_at hl 0 rfl) ?_
  refine lv_bipush (v := 6) hx hb dX7_bits_5 (by decide) ?_
  refine lv_icmp_ge (tgt := 24) hx hb dX7_bits_7 (by decide) (fun c_ => absurd c_ (by decide)) (fun c_ => ?_)
  refine lv_iload_n hx hb dX7_bits_10 rfl (lv_at hl 1 rfl) ?_
  refine lv_iload_n hx hb dX7_bits_11 rfl (lv_at hl 2 rfl) ?_
  refine lv_iload_n hx hb dX7_bits_12 rfl (lv_at hl 0 rfl) ?_
  refine lv_ishr hx hb dX7_bits_13 ?_
  refine x_ev (y := 0) (by decide) ?_
  refine lv_iconst (v := 1) hx hb dX7_bits_14 (by decide) ?_
  refine lv_iand hx hb dX7_bits_15 ?_
  refine x_ev (y := 0) (by decide) ?_
  refine lv_iadd hx hb dX7_bits_16 ?_
  refine x_ev (y := 0) (by decide) ?_
  refine lv_istore_n (lv' := [(1, .int 0), (2, .int 0), (0, .int 0)]) hx hb dX7_bits_17 rfl hl (by decide) rfl (fun ls hl => ?_)
  refine lv_iinc (v := 1) (lv' := [(2, .int 1), (1, .int 0), (0, .int 0)]) hx hb dX7_bits_18 hl (k := 1) rfl (by decide) (by decide) rfl (fun ls hl => ?_)
  refine lv_goto (tgt := 4) hx hb dX7_bits_21 (by decide) ?_
  refine lv_iload_n hx hb dX7_bits_4 rfl (lv_at hl 0 rfl) ?_
  refine lv_bipush (v := 6) hx hb dX7_bits_5 (by decide) ?_
  refine lv_icmp_ge (tgt := 24) hx hb dX7_bits_7 (by decide) (fun c_ => absurd c_ (by decide)) (fun c_ => ?_)
  refine lv_iload_n hx hb dX7_bits_10 rfl (lv_at hl 1 rfl) ?_
  refine lv_iload_n hx hb dX7_bits_11 rfl (lv_at hl 2 rfl) ?_
  refine lv_iload_n hx hb dX7_bits_12 rfl (lv_at hl 0 rfl) ?_
  refine lv_ishr hx hb dX7_bits_13 ?_
  refine x_ev (y := 0) (by decide) ?_
  refine lv_iconst (v := 1) hx hb dX7_bits_14 (by decide) ?_
  refine lv_iand hx hb dX7_bits_15 ?_
  refine x_ev (y := 0) (by decide) ?_
  refine lv_iadd hx hb dX7_bits_16 ?_
  refine x_ev (y := 0) (by decide) ?_
  refine lv_istore_n (lv' := [(1, .int 0), (2, .int 1), (0, .int 0)]) hx hb dX7_bits_17 rfl hl (by decide) rfl (fun ls hl => ?_)
  refine lv_iinc (v := 2) (lv' := [(2, .int 2), (1, .int 0), (0, .int 0)]) hx hb dX7_bits_18 hl (k := 1) rfl (by decide) (by decide) rfl (fun ls hl => ?_)
  refine lv_goto (tgt := 4) hx hb dX7_bits_21 (by decide) ?_
  refine lv_iload_n hx hb dX7_bits_4 rfl (lv_at hl 0 rfl) ?_
  refine lv_bipush (v := 6) hx hb dX7_bits_5 (by decide) ?_
  refine lv_icmp_ge (tgt := 24) hx hb dX7_bits_7 (by decide) (fun c_ => absurd c_ (by decide)) (fun c_ => ?_)
  refine lv_iload_n hx hb dX7_bits_10 rfl (lv_at hl 1 rfl) ?_
  refine lv_iload_n hx hb dX7_bits_11 rfl (lv_at hl 2 rfl) ?_
  refine lv_iload_n hx hb dX7_bits_12 rfl (lv_at hl 0 rfl) ?_
  refine lv_ishr hx hb dX7_bits_13 ?_
  refine x_ev (y := 0) (by decide) ?_
  refine lv_iconst (v := 1) hx hb dX7_bits_14 (by decide) ?_
  refine lv_iand hx hb dX7_bits_15 ?_
  refine x_ev (y := 0) (by decide) ?_
  refine lv_iadd hx hb dX7_bits_16 ?_
  refine x_ev (y := 0) (by decide) ?_
  refine lv_istore_n (lv' := [(1, .int 0), (2, .int 2), (0, .int 0)]) hx hb dX7_bits_17 rfl hl (by decide) rfl (fun ls hl => ?_)
  refine lv_iinc (v := 3) (lv' := [(2, .int 3), (1, .int 0), (0, .int 0)]) hx hb dX7_bits_18 hl (k := 1) rfl (by decide) (by decide) rfl (fun ls hl => ?_)
  refine lv_goto (tgt := 4) hx hb dX7_bits_21 (by decide) ?_
  refine lv_iload_n hx hb dX7_bits_4 rfl (lv_at hl 0 rfl) ?_
  refine lv_bipush (v := 6) hx hb dX7_bits_5 (by decide) ?_
  refine lv_icmp_ge (tgt := 24) hx hb dX7_bits_7 (by decide) (fun c_ => absurd c_ (by decide)) (fun c_ => ?_)
  refine lv_iload_n hx hb dX7_bits_10 rfl (lv_at hl 1 rfl) ?_
  refine lv_iload_n hx hb dX7_bits_11 rfl (lv_at hl 2 rfl) ?_
  refine lv_iload_n hx hb dX7_bits_12 rfl (lv_at hl 0 rfl) ?_
  refine lv_ishr hx hb dX7_bits_13 ?_
  refine x_ev (y := 0) (by decide) ?_
  refine lv_iconst (v := 1) hx hb dX7_bits_14 (by decide) ?_
  refine lv_iand hx hb dX7_bits_15 ?_
  refine x_ev (y := 0) (by decide) ?_
  refine lv_iadd hx hb dX7_bits_16 ?_
  refine x_ev (y := 0) (by decide) ?_
  refine lv_istore_n (lv' := [(1, .int 0), (2, .int 3), (0, .int 0)]) hx hb dX7_bits_17 rfl hl (by decide) rfl (fun ls hl => ?_)
  refine lv_iinc (v := 4) (lv' := [(2, .int 4), (1, .int 0), (0, .int 0)]) hx hb dX7_bits_18 hl (k := 1) rfl (by decide) (by decide) rfl (fun ls hl => ?_)
  refine lv_goto (tgt := 4) hx hb dX7_bits_21 (by decide) ?_
  refine lv_iload_n hx hb dX7_bits_4 rfl (lv_at hl 0 rfl) ?_
  refine lv_bipush (v := 6) hx hb dX7_bits_5 (by decide) ?_
  refine lv_icmp_ge (tgt := 24) hx hb dX7_bits_7 (by decide) (fun c_ => absurd c_ (by decide)) (fun c_ => ?_)
  refine lv_iload_n hx hb dX7_bits_10 rfl (lv_at hl 1 rfl) ?_
  refine lv_iload_n hx hb dX7_bits_11 rfl (lv_at hl 2 rfl) ?_
  refine lv_iload_n hx hb dX7_bits_12 rfl (lv_at hl 0 rfl) ?_
  refine lv_ishr hx hb dX7_bits_13 ?_
  refine x_ev (y := 0) (by decide) ?_
  refine lv_iconst (v := 1) hx hb dX7_bits_14 (by decide) ?_
  refine lv_iand hx hb dX7_bits_15 ?_
  refine x_ev (y := 0) (by decide) ?_
  refine lv_iadd hx hb dX7_bits_16 ?_
  refine x_ev (y := 0) (by decide) ?_
  refine lv_istore_n (lv' := [(1, .int 0), (2, .int 4), (0, .int 0)]) hx hb dX7_bits_17 rfl hl (by decide) rfl (fun ls hl => ?_)
  refine lv_iinc (v := 5) (lv' := [(2, .int 5), (1, .int 0), (0, .int 0)]) hx hb dX7_bits_18 hl (k := 1) rfl (by decide) (by decide) rfl (fun ls hl => ?_)
  refine lv_goto (tgt := 4) hx hb dX7_bits_21 (by decide) ?_
  refine lv_iload_n hx hb dX7_bits_4 rfl (lv_at hl 0 rfl) ?_
  refine lv_bipush (v := 6) hx hb dX7_bits_5 (by decide) ?_
  refine lv_icmp_ge (tgt := 24) hx hb dX7_bits_7 (by decide) (fun c_ => absurd c_ (by decide)) (fun c_ => ?_)
  refine lv_iload_n hx hb dX7_bits_10 rfl (lv_at hl 1 rfl) ?_
  refine lv_iload_n hx hb dX7_bits_11 rfl (lv_at hl 2 rfl) ?_
  refine lv_iload_n hx hb dX7_bits_12 rfl (lv_at hl 0 rfl) ?_
  refine lv_ishr hx hb dX7_bits_13 ?_
  refine x_ev (y := 0) (by decide) ?_
  refine lv_iconst (v := 1) hx hb dX7_bits_14 (by decide) ?_
  refine lv_iand hx hb dX7_bits_15 ?_
  refine x_ev (y := 0) (by decide) ?_
  refine lv_iadd hx hb dX7_bits_16 ?_
  refine x_ev (y := 0) (by decide) ?_
  refine lv_istore_n (lv' := [(1, .int 0), (2, .int 5), (0, .int 0)]) hx hb dX7_bits_17 rfl hl (by decide) rfl (fun ls hl => ?_)
  refine lv_iinc (v := 6) (lv' := [(2, .int 6), (1, .int 0), (0, .int 0)]) hx hb dX7_bits_18 hl (k := 1) rfl (by decide) (by decide) rfl (fun ls hl => ?_)
  refine lv_goto (tgt := 4) hx hb dX7_bits_21 (by decide) ?_
  refine lv_iload_n hx hb dX7_bits_4 rfl (lv_at hl 0 rfl) ?_
  refine lv_bipush (v := 6) hx hb dX7_bits_5 (by decide) ?_
  refine lv_icmp_ge (tgt := 24) hx hb dX7_bits_7 (by decide) (fun c_ => ?_) (fun c_ => absurd (by decide) c_)
  refine lv_iload_n hx hb dX7_bits_24 rfl (lv_at hl 1 rfl) ?_
  exact x_iret (w := []) hB hr hV hA (Nat.le_of_ble_eq_true rfl) (Nat.le_of_ble_eq_true rfl) [] rfl rfl (by decide) dX7_bits_25 ⟨rfl, rfl⟩
set_option maxHeartbeats 4000000 in
set_option maxRecDepth 100000 in
theorem c_power (l : Launch) (D : va_G) (cI cZ cS : ClassId) (N0 : NT)   : Mx l D cI cZ cS N0 yX7_power cX7_power 4 (some .int) 0 0 0 [.int 16, .int 0] [] (fun v w => v = some (.int 1) ∧ w = ([] : va_W)) := by
  refine x_enter (by decide) (Nat.le_of_ble_eq_true rfl) ?_
  intro p e s m args below meth c A ls H locs hB hr hin hl hV hA
  have hx := hB.1
  have hb := hB.2.1
  have hl : lv_has ls 4 [(0, .int 16), (1, .int 0)] := hl
  refine lv_iconst (v := 1) hx hb dX7_power_0 (by decide) ?_
  refine lv_istore_n (lv' := [(2, .int 1), (0, .int 16), (1, .int 0)]) hx hb dX7_power_1 rfl hl (by decide) rfl (fun ls hl => ?_)
  refine lv_iconst (v := 0) hx hb dX7_power_2 (by decide) ?_
  refine lv_istore_n (lv' := [(3, .int 0), (2, .int 1), (0, .int 16), (1, .int 0)]) hx hb dX7_power_3 rfl hl (by decide) rfl (fun ls hl => ?_)
  refine lv_iload_n hx hb dX7_power_4 rfl (lv_at hl 0 rfl) ?_
  refine lv_iload_n hx hb dX7_power_5 rfl (lv_at hl 3 rfl) ?_
  refine lv_icmp_ge (tgt := 19) hx hb dX7_power_6 (by decide) (fun c_ => ?_) (fun c_ => absurd (by decide) c_)
  refine lv_iload_n hx hb dX7_power_19 rfl (lv_at hl 1 rfl) ?_
  exact x_iret (w := []) hB hr hV hA (Nat.le_of_ble_eq_true rfl) (Nat.le_of_ble_eq_true rfl) [] rfl rfl (by decide) dX7_power_20 ⟨rfl, rfl⟩
set_option maxHeartbeats 4000000 in
set_option maxRecDepth 100000 in
theorem c_spread (l : Launch) (D : va_G) (cI cZ cS : ClassId) (N0 : NT) (h : Nat) (fs : List Value)  : Mx l D cI cZ cS N0 yX7_spread cX7_spread 6 (some .int) 1 0 0 [.ref h, .int 0, .int 0] [(h, .inr (7, fs))] (fun v w => v = some (.int 0) ∧ w = ([(h, .inr (7, fs))] : va_W)) := by
  refine x_enter (by decide) (Nat.le_of_ble_eq_true rfl) ?_
  intro p e s m args below meth c A ls H locs hB hr hin hl hV hA
  have hx := hB.1
  have hb := hB.2.1
  have hl : lv_has ls 6 [(0, .ref h), (1, .int 0), (2, .int 0)] := hl
  refine lv_iload_n hx hb dX7_spread_0 rfl (lv_at hl 1 rfl) ?_
  refine lv_istore_n (lv' := [(3, .int 0), (0, .ref h), (1, .int 0), (2, .int 0)]) hx hb dX7_spread_1 rfl hl (by decide) rfl (fun ls hl => ?_)
  refine lv_iconst (v := 0) hx hb dX7_spread_2 (by decide) ?_
  refine lv_istore (lv' := [(4, .int 0), (3, .int 0), (0, .ref h), (1, .int 0), (2, .int 0)]) hx hb dX7_spread_3 hl (by decide) rfl (fun ls hl => ?_)
  refine lv_iconst (v := 0) hx hb dX7_spread_5 (by decide) ?_
  refine lv_istore (lv' := [(5, .int 0), (4, .int 0), (3, .int 0), (0, .ref h), (1, .int 0), (2, .int 0)]) hx hb dX7_spread_6 hl (by decide) rfl (fun ls hl => ?_)
  refine lv_iload hx hb dX7_spread_8 (lv_at hl 0 rfl) ?_
  refine lv_bipush (v := 6) hx hb dX7_spread_10 (by decide) ?_
  refine lv_icmp_ge (tgt := 50) hx hb dX7_spread_12 (by decide) (fun c_ => absurd c_ (by decide)) (fun c_ => ?_)
  refine lv_iload_n hx hb dX7_spread_15 rfl (lv_at hl 5 rfl) ?_
  refine lv_iload hx hb dX7_spread_16 (lv_at hl 0 rfl) ?_
  refine lv_ishr hx hb dX7_spread_18 ?_
  refine x_ev (y := 0) (by decide) ?_
  refine lv_iconst (v := 1) hx hb dX7_spread_19 (by decide) ?_
  refine lv_iand hx hb dX7_spread_20 ?_
  refine x_ev (y := 0) (by decide) ?_
  refine lv_iconst (v := 1) hx hb dX7_spread_21 (by decide) ?_
  refine lv_icmp_ne (tgt := 44) hx hb dX7_spread_22 (by decide) (fun c_ => ?_) (fun c_ => absurd c_ (by decide))
  refine lv_iinc (v := 1) (lv' := [(5, .int 1), (4, .int 0), (3, .int 0), (0, .ref h), (1, .int 0), (2, .int 0)]) hx hb dX7_spread_44 hl (k := 0) rfl (by decide) (by decide) rfl (fun ls hl => ?_)
  refine lv_goto (tgt := 8) hx hb dX7_spread_47 (by decide) ?_
  refine lv_iload hx hb dX7_spread_8 (lv_at hl 0 rfl) ?_
  refine lv_bipush (v := 6) hx hb dX7_spread_10 (by decide) ?_
  refine lv_icmp_ge (tgt := 50) hx hb dX7_spread_12 (by decide) (fun c_ => absurd c_ (by decide)) (fun c_ => ?_)
  refine lv_iload_n hx hb dX7_spread_15 rfl (lv_at hl 5 rfl) ?_
  refine lv_iload hx hb dX7_spread_16 (lv_at hl 0 rfl) ?_
  refine lv_ishr hx hb dX7_spread_18 ?_
  refine x_ev (y := 0) (by decide) ?_
  refine lv_iconst (v := 1) hx hb dX7_spread_19 (by decide) ?_
  refine lv_iand hx hb dX7_spread_20 ?_
  refine x_ev (y := 0) (by decide) ?_
  refine lv_iconst (v := 1) hx hb dX7_spread_21 (by decide) ?_
  refine lv_icmp_ne (tgt := 44) hx hb dX7_spread_22 (by decide) (fun c_ => ?_) (fun c_ => absurd c_ (by decide))
  refine lv_iinc (v := 2) (lv' := [(5, .int 2), (4, .int 0), (3, .int 0), (0, .ref h), (1, .int 0), (2, .int 0)]) hx hb dX7_spread_44 hl (k := 0) rfl (by decide) (by decide) rfl (fun ls hl => ?_)
  refine lv_goto (tgt := 8) hx hb dX7_spread_47 (by decide) ?_
  refine lv_iload hx hb dX7_spread_8 (lv_at hl 0 rfl) ?_
  refine lv_bipush (v := 6) hx hb dX7_spread_10 (by decide) ?_
  refine lv_icmp_ge (tgt := 50) hx hb dX7_spread_12 (by decide) (fun c_ => absurd c_ (by decide)) (fun c_ => ?_)
  refine lv_iload_n hx hb dX7_spread_15 rfl (lv_at hl 5 rfl) ?_
  refine lv_iload hx hb dX7_spread_16 (lv_at hl 0 rfl) ?_
  refine lv_ishr hx hb dX7_spread_18 ?_
  refine x_ev (y := 0) (by decide) ?_
  refine lv_iconst (v := 1) hx hb dX7_spread_19 (by decide) ?_
  refine lv_iand hx hb dX7_spread_20 ?_
  refine x_ev (y := 0) (by decide) ?_
  refine lv_iconst (v := 1) hx hb dX7_spread_21 (by decide) ?_
  refine lv_icmp_ne (tgt := 44) hx hb dX7_spread_22 (by decide) (fun c_ => ?_) (fun c_ => absurd c_ (by decide))
  refine lv_iinc (v := 3) (lv' := [(5, .int 3), (4, .int 0), (3, .int 0), (0, .ref h), (1, .int 0), (2, .int 0)]) hx hb dX7_spread_44 hl (k := 0) rfl (by decide) (by decide) rfl (fun ls hl => ?_)
  refine lv_goto (tgt := 8) hx hb dX7_spread_47 (by decide) ?_
  refine lv_iload hx hb dX7_spread_8 (lv_at hl 0 rfl) ?_
  refine lv_bipush (v := 6) hx hb dX7_spread_10 (by decide) ?_
  refine lv_icmp_ge (tgt := 50) hx hb dX7_spread_12 (by decide) (fun c_ => absurd c_ (by decide)) (fun c_ => ?_)
  refine lv_iload_n hx hb dX7_spread_15 rfl (lv_at hl 5 rfl) ?_
  refine lv_iload hx hb dX7_spread_16 (lv_at hl 0 rfl) ?_
  refine lv_ishr hx hb dX7_spread_18 ?_
  refine x_ev (y := 0) (by decide) ?_
  refine lv_iconst (v := 1) hx hb dX7_spread_19 (by decide) ?_
  refine lv_iand hx hb dX7_spread_20 ?_
  refine x_ev (y := 0) (by decide) ?_
  refine lv_iconst (v := 1) hx hb dX7_spread_21 (by decide) ?_
  refine lv_icmp_ne (tgt := 44) hx hb dX7_spread_22 (by decide) (fun c_ => ?_) (fun c_ => absurd c_ (by decide))
  refine lv_iinc (v := 4) (lv' := [(5, .int 4), (4, .int 0), (3, .int 0), (0, .ref h), (1, .int 0), (2, .int 0)]) hx hb dX7_spread_44 hl (k := 0) rfl (by decide) (by decide) rfl (fun ls hl => ?_)
  refine lv_goto (tgt := 8) hx hb dX7_spread_47 (by decide) ?_
  refine lv_iload hx hb dX7_spread_8 (lv_at hl 0 rfl) ?_
  refine lv_bipush (v := 6) hx hb dX7_spread_10 (by decide) ?_
  refine lv_icmp_ge (tgt := 50) hx hb dX7_spread_12 (by decide) (fun c_ => absurd c_ (by decide)) (fun c_ => ?_)
  refine lv_iload_n hx hb dX7_spread_15 rfl (lv_at hl 5 rfl) ?_
  refine lv_iload hx hb dX7_spread_16 (lv_at hl 0 rfl) ?_
  refine lv_ishr hx hb dX7_spread_18 ?_
  refine x_ev (y := 0) (by decide) ?_
  refine lv_iconst (v := 1) hx hb dX7_spread_19 (by decide) ?_
  refine lv_iand hx hb dX7_spread_20 ?_
  refine x_ev (y := 0) (by decide) ?_
  refine lv_iconst (v := 1) hx hb dX7_spread_21 (by decide) ?_
  refine lv_icmp_ne (tgt := 44) hx hb dX7_spread_22 (by decide) (fun c_ => ?_) (fun c_ => absurd c_ (by decide))
  refine lv_iinc (v := 5) (lv' := [(5, .int 5), (4, .int 0), (3, .int 0), (0, .ref h), (1, .int 0), (2, .int 0)]) hx hb dX7_spread_44 hl (k := 0) rfl (by decide) (by decide) rfl (fun ls hl => ?_)
  refine lv_goto (tgt := 8) hx hb dX7_spread_47 (by decide) ?_
  refine lv_iload hx hb dX7_spread_8 (lv_at hl 0 rfl) ?_
  refine lv_bipush (v := 6) hx hb dX7_spread_10 (by decide) ?_
  refine lv_icmp_ge (tgt := 50) hx hb dX7_spread_12 (by decide) (fun c_ => absurd c_ (by decide)) (fun c_ => ?_)
  refine lv_iload_n hx hb dX7_spread_15 rfl (lv_at hl 5 rfl) ?_
  refine lv_iload hx hb dX7_spread_16 (lv_at hl 0 rfl) ?_
  refine lv_ishr hx hb dX7_spread_18 ?_
  refine x_ev (y := 0) (by decide) ?_
  refine lv_iconst (v := 1) hx hb dX7_spread_19 (by decide) ?_
  refine lv_iand hx hb dX7_spread_20 ?_
  refine x_ev (y := 0) (by decide) ?_
  refine lv_iconst (v := 1) hx hb dX7_spread_21 (by decide) ?_
  refine lv_icmp_ne (tgt := 44) hx hb dX7_spread_22 (by decide) (fun c_ => ?_) (fun c_ => absurd c_ (by decide))
  refine lv_iinc (v := 6) (lv' := [(5, .int 6), (4, .int 0), (3, .int 0), (0, .ref h), (1, .int 0), (2, .int 0)]) hx hb dX7_spread_44 hl (k := 0) rfl (by decide) (by decide) rfl (fun ls hl => ?_)
  refine lv_goto (tgt := 8) hx hb dX7_spread_47 (by decide) ?_
  refine lv_iload hx hb dX7_spread_8 (lv_at hl 0 rfl) ?_
  refine lv_bipush (v := 6) hx hb dX7_spread_10 (by decide) ?_
  refine lv_icmp_ge (tgt := 50) hx hb dX7_spread_12 (by decide) (fun c_ => ?_) (fun c_ => absurd (by decide) c_)
  refine lv_iload hx hb dX7_spread_50 (lv_at hl 1 rfl) ?_
  exact x_iret (w := [(h, .inr (7, fs))]) hB hr hV hA (Nat.le_of_ble_eq_true rfl) (Nat.le_of_ble_eq_true rfl) [0] rfl rfl (by decide) dX7_spread_52 ⟨rfl, rfl⟩
set_option maxHeartbeats 4000000 in
set_option maxRecDepth 100000 in
theorem lp_c1 {p : Program} {l : Launch} {e : Env} {R : Room} {s : State} {m : MethodId} {args : Array Value} {below : List Frame} {meth : Method} {c : Code} {D : va_G} {cI cZ cS : ClassId} {A : Nat → Prop} {N0 : NT} {cells slots : Nat} {Q : State → Prop} (hB : Bx p s m meth c args cX7_cheapest 10 RX7 D cI cZ cS A N0) (h : Nat) (fs : List Value) (q_tick : Nat) (q_count : Nat) (q_kept : Nat) (q_isKnown : Nat) (q_knownX : Nat) (q_knownKey : Nat) (q_store : Nat) (q_key : Nat) (q_keyX : Nat) (q_keyAnswer : Nat) (q_keyTick : Nat) (q_knownWord : Nat) (q_knownPlace : Nat) (q_knownWorth : Nat) (q_onceStore : Nat) (q_mends : Nat) (q_keptMends : Nat) (x1 : Int32) (h14 : fs[14]? = some (.ref q_tick)) (h8 : fs[8]? = some (.ref q_count)) (h9 : fs[9]? = some (.ref q_kept)) (h20 : fs[20]? = some (.ref q_isKnown)) (h15 : fs[15]? = some (.ref q_knownX)) (h16 : fs[16]? = some (.ref q_knownKey)) (h7 : fs[7]? = some (.ref q_store)) (h10 : fs[10]? = some (.ref q_key)) (h11 : fs[11]? = some (.ref q_keyX)) (h12 : fs[12]? = some (.ref q_keyAnswer)) (h13 : fs[13]? = some (.ref q_keyTick)) (h17 : fs[17]? = some (.ref q_knownWord)) (h18 : fs[18]? = some (.ref q_knownPlace)) (h19 : fs[19]? = some (.ref q_knownWorth)) (h57 : fs[57]? = some (.ref q_onceStore)) (h5 : fs[5]? = some (.ref q_mends)) (h66 : fs[66]? = some (.ref q_keptMends)) (K : ∀ (H : Heap) (locs : List Loc) (ls : Array Slot), Vx D A s.heap H locs [(h, .inr (7, fs)), (q_tick, .inl (cI, 2, .inl (fun _ => 0))), (q_count, .inl (cI, 12, .inl (fun _ => 0))), (q_kept, .inl (cI, 12, .inl (fun _ => 0))), (q_isKnown, .inl (cZ, 12, .inl (fun _ => 0))), (q_knownX, .inl (cI, 12, .inl (fun _ => 0))), (q_knownKey, .inl (cI, 12, .inl (fun _ => 0))), (q_store, .inl (cI, 48, .inl (fun _ => 0))), (q_key, .inl (cI, 192, .inl (fun _ => 0))), (q_keyX, .inl (cI, 192, .inl (fun _ => 0))), (q_keyAnswer, .inl (cI, 192, .inl (fun _ => 0))), (q_keyTick, .inl (cI, 192, .inl (fun _ => 0))), (q_knownWord, .inl (cI, 96, .inl (fun _ => 0))), (q_knownPlace, .inl (cI, 96, .inl (fun _ => 0))), (q_knownWorth, .inl (cI, 96, .inl (fun _ => 0))), (q_onceStore, .inl (cI, 30, .inl (fun _ => 0))), (q_mends, .inl (cI, 6, .inl (fun _ => 0))), (q_keptMends, .inl (cI, 6, .inl (fun _ => 0)))] → lv_has ls 10 [(9, .int 24), (8, .int 0), (7, .int 0), (6, .int 0), (5, .int 0), (4, .int (-1)), (3, .int 0), (2, .int 0), (0, .ref h), (1, .int x1)] → W p l e R s m args below meth c H locs cells slots Q (F0 m 147 ls [])) :
    ∀ (k : Nat) (i : Nat) (H : Heap) (locs : List Loc) (ls : Array Slot), i + k = 24 → Vx D A s.heap H locs [(h, .inr (7, fs)), (q_tick, .inl (cI, 2, .inl (fun _ => 0))), (q_count, .inl (cI, 12, .inl (fun _ => 0))), (q_kept, .inl (cI, 12, .inl (fun _ => 0))), (q_isKnown, .inl (cZ, 12, .inl (fun _ => 0))), (q_knownX, .inl (cI, 12, .inl (fun _ => 0))), (q_knownKey, .inl (cI, 12, .inl (fun _ => 0))), (q_store, .inl (cI, 48, .inl (fun _ => 0))), (q_key, .inl (cI, 192, .inl (fun _ => 0))), (q_keyX, .inl (cI, 192, .inl (fun _ => 0))), (q_keyAnswer, .inl (cI, 192, .inl (fun _ => 0))), (q_keyTick, .inl (cI, 192, .inl (fun _ => 0))), (q_knownWord, .inl (cI, 96, .inl (fun _ => 0))), (q_knownPlace, .inl (cI, 96, .inl (fun _ => 0))), (q_knownWorth, .inl (cI, 96, .inl (fun _ => 0))), (q_onceStore, .inl (cI, 30, .inl (fun _ => 0))), (q_mends, .inl (cI, 6, .inl (fun _ => 0))), (q_keptMends, .inl (cI, 6, .inl (fun _ => 0)))] → lv_has ls 10 [(9, .int (nI i)), (8, .int 0), (7, .int 0), (6, .int 0), (5, .int 0), (4, .int (-1)), (3, .int 0), (2, .int 0), (0, .ref h), (1, .int x1)] → W p l e R s m args below meth c H locs cells slots Q (F0 m 105 ls []) := by
  have hx := hB.1
  have hb := hB.2.1
  intro k
  induction k with
  | zero =>
    intro i H locs ls hk hV hl
    obtain rfl : i = 24 := by omega
    have hV : Vx D A s.heap H locs [(h, .inr (7, fs)), (q_tick, .inl (cI, 2, .inl (fun _ => 0))), (q_count, .inl (cI, 12, .inl (fun _ => 0))), (q_kept, .inl (cI, 12, .inl (fun _ => 0))), (q_isKnown, .inl (cZ, 12, .inl (fun _ => 0))), (q_knownX, .inl (cI, 12, .inl (fun _ => 0))), (q_knownKey, .inl (cI, 12, .inl (fun _ => 0))), (q_store, .inl (cI, 48, .inl (fun _ => 0))), (q_key, .inl (cI, 192, .inl (fun _ => 0))), (q_keyX, .inl (cI, 192, .inl (fun _ => 0))), (q_keyAnswer, .inl (cI, 192, .inl (fun _ => 0))), (q_keyTick, .inl (cI, 192, .inl (fun _ => 0))), (q_knownWord, .inl (cI, 96, .inl (fun _ => 0))), (q_knownPlace, .inl (cI, 96, .inl (fun _ => 0))), (q_knownWorth, .inl (cI, 96, .inl (fun _ => 0))), (q_onceStore, .inl (cI, 30, .inl (fun _ => 0))), (q_mends, .inl (cI, 6, .inl (fun _ => 0))), (q_keptMends, .inl (cI, 6, .inl (fun _ => 0)))] := hV
    have hl : lv_has ls 10 [(9, .int 24), (8, .int 0), (7, .int 0), (6, .int 0), (5, .int 0), (4, .int (-1)), (3, .int 0), (2, .int 0), (0, .ref h), (1, .int x1)] := hl
    refine lv_iload hx hb dX7_cheapest_105 (lv_at hl 0 rfl) ?_
    refine lv_bipush (v := 24) hx hb dX7_cheapest_107 (by decide) ?_
    refine lv_icmp_ge (tgt := 147) hx hb dX7_cheapest_109 (by decide) (fun c_ => ?_) (fun c_ => absurd (by decide) c_)
    exact K  H locs ls hV (lv_sub hl [0, 1, 2, 3, 4, 5, 6, 7, 8, 9] rfl)
  | succ k ih =>
    intro i H locs ls hk hV hl
    have hV : Vx D A s.heap H locs [(h, .inr (7, fs)), (q_tick, .inl (cI, 2, .inl (fun _ => 0))), (q_count, .inl (cI, 12, .inl (fun _ => 0))), (q_kept, .inl (cI, 12, .inl (fun _ => 0))), (q_isKnown, .inl (cZ, 12, .inl (fun _ => 0))), (q_knownX, .inl (cI, 12, .inl (fun _ => 0))), (q_knownKey, .inl (cI, 12, .inl (fun _ => 0))), (q_store, .inl (cI, 48, .inl (fun _ => 0))), (q_key, .inl (cI, 192, .inl (fun _ => 0))), (q_keyX, .inl (cI, 192, .inl (fun _ => 0))), (q_keyAnswer, .inl (cI, 192, .inl (fun _ => 0))), (q_keyTick, .inl (cI, 192, .inl (fun _ => 0))), (q_knownWord, .inl (cI, 96, .inl (fun _ => 0))), (q_knownPlace, .inl (cI, 96, .inl (fun _ => 0))), (q_knownWorth, .inl (cI, 96, .inl (fun _ => 0))), (q_onceStore, .inl (cI, 30, .inl (fun _ => 0))), (q_mends, .inl (cI, 6, .inl (fun _ => 0))), (q_keptMends, .inl (cI, 6, .inl (fun _ => 0)))] := hV
    have hl : lv_has ls 10 [(9, .int (nI i)), (8, .int 0), (7, .int 0), (6, .int 0), (5, .int 0), (4, .int (-1)), (3, .int 0), (2, .int 0), (0, .ref h), (1, .int x1)] := hl
    refine lv_iload hx hb dX7_cheapest_105 (lv_at hl 0 rfl) ?_
    refine lv_bipush (v := 24) hx hb dX7_cheapest_107 (by decide) ?_
    refine lv_icmp_ge (tgt := 147) hx hb dX7_cheapest_109 (by decide) (fun c_ => absurd c_ (nI_ge (a := i) (b := 24) (by omega) (by decide))) (fun c_ => ?_)
    refine lv_iload hx hb dX7_cheapest_112 (lv_at hl 1 rfl) ?_
    refine lv_iload hx hb dX7_cheapest_114 (lv_at hl 2 rfl) ?_
    refine lv_iload hx hb dX7_cheapest_116 (lv_at hl 0 rfl) ?_
    refine lv_ishr hx hb dX7_cheapest_118 ?_
    refine x_ev (y := 0) (sh0 _) ?_
    refine lv_iconst (v := 1) hx hb dX7_cheapest_119 (by decide) ?_
    refine lv_iand hx hb dX7_cheapest_120 ?_
    refine x_ev (y := 0) (by decide) ?_
    refine lv_iconst (v := 1) hx hb dX7_cheapest_121 (by decide) ?_
    refine lv_icmp_ne (tgt := 137) hx hb dX7_cheapest_122 (by decide) (fun c_ => ?_) (fun c_ => absurd c_ (by decide))
    refine lv_iconst (v := 0) hx hb dX7_cheapest_137 (by decide) ?_
    refine lv_iadd hx hb dX7_cheapest_138 ?_
    refine x_ev (y := 0) (by decide) ?_
    refine lv_istore (lv' := [(8, .int 0), (9, .int (nI i)), (7, .int 0), (6, .int 0), (5, .int 0), (4, .int (-1)), (3, .int 0), (2, .int 0), (0, .ref h), (1, .int x1)]) hx hb dX7_cheapest_139 hl (by decide) rfl (fun ls hl => ?_)
    refine lv_iinc (v := nI (i + 1)) (lv' := [(9, .int (nI (i + 1))), (8, .int 0), (7, .int 0), (6, .int 0), (5, .int 0), (4, .int (-1)), (3, .int 0), (2, .int 0), (0, .ref h), (1, .int x1)]) hx hb dX7_cheapest_141 hl (k := 1) rfl (nI_1 i) (by decide) rfl (fun ls hl => ?_)
    refine lv_goto (tgt := 105) hx hb dX7_cheapest_144 (by decide) ?_
    exact ih (i + 1) H locs ls (by omega) hV (lv_sub hl [0, 1, 2, 3, 4, 5, 6, 7, 8, 9] rfl)
set_option maxHeartbeats 4000000 in
set_option maxRecDepth 100000 in
theorem m_cheapest (l : Launch) (D : va_G) (cI cZ cS : ClassId) (N0 : NT) (h : Nat) (fs : List Value) (q_tick : Nat) (q_count : Nat) (q_kept : Nat) (q_isKnown : Nat) (q_knownX : Nat) (q_knownKey : Nat) (q_store : Nat) (q_key : Nat) (q_keyX : Nat) (q_keyAnswer : Nat) (q_keyTick : Nat) (q_knownWord : Nat) (q_knownPlace : Nat) (q_knownWorth : Nat) (q_onceStore : Nat) (q_mends : Nat) (q_keptMends : Nat) (x1 : Int32) (h21 : fs[21]? = some (.int 0)) (h52 : fs[52]? = some (.int 0)) (h30 : fs[30]? = some (.int 0)) (h60 : fs[60]? = some (.int 0)) (h0 : fs[0]? = some (.int 0)) (h14 : fs[14]? = some (.ref q_tick)) (h8 : fs[8]? = some (.ref q_count)) (h9 : fs[9]? = some (.ref q_kept)) (h20 : fs[20]? = some (.ref q_isKnown)) (h15 : fs[15]? = some (.ref q_knownX)) (h16 : fs[16]? = some (.ref q_knownKey)) (h7 : fs[7]? = some (.ref q_store)) (h10 : fs[10]? = some (.ref q_key)) (h11 : fs[11]? = some (.ref q_keyX)) (h12 : fs[12]? = some (.ref q_keyAnswer)) (h13 : fs[13]? = some (.ref q_keyTick)) (h17 : fs[17]? = some (.ref q_knownWord)) (h18 : fs[18]? = some (.ref q_knownPlace)) (h19 : fs[19]? = some (.ref q_knownWorth)) (h57 : fs[57]? = some (.ref q_onceStore)) (h5 : fs[5]? = some (.ref q_mends)) (h66 : fs[66]? = some (.ref q_keptMends)) : Mx l D cI cZ cS N0 yX7_cheapest cX7_cheapest 10 (some .int) 4 0 0 [.ref h, .int x1] [(h, .inr (7, fs)), (q_tick, .inl (cI, 2, .inl (fun _ => 0))), (q_count, .inl (cI, 12, .inl (fun _ => 0))), (q_kept, .inl (cI, 12, .inl (fun _ => 0))), (q_isKnown, .inl (cZ, 12, .inl (fun _ => 0))), (q_knownX, .inl (cI, 12, .inl (fun _ => 0))), (q_knownKey, .inl (cI, 12, .inl (fun _ => 0))), (q_store, .inl (cI, 48, .inl (fun _ => 0))), (q_key, .inl (cI, 192, .inl (fun _ => 0))), (q_keyX, .inl (cI, 192, .inl (fun _ => 0))), (q_keyAnswer, .inl (cI, 192, .inl (fun _ => 0))), (q_keyTick, .inl (cI, 192, .inl (fun _ => 0))), (q_knownWord, .inl (cI, 96, .inl (fun _ => 0))), (q_knownPlace, .inl (cI, 96, .inl (fun _ => 0))), (q_knownWorth, .inl (cI, 96, .inl (fun _ => 0))), (q_onceStore, .inl (cI, 30, .inl (fun _ => 0))), (q_mends, .inl (cI, 6, .inl (fun _ => 0))), (q_keptMends, .inl (cI, 6, .inl (fun _ => 0)))] (fun v w => ∃ (r : Int32), v = some (.int r) ∧ w = ([] : va_W) ∧ (r = sp_cheap x1)) := by
  refine x_enter (by decide) (Nat.le_of_ble_eq_true rfl) ?_
  intro p e s m args below meth c A ls H locs hB hr hin hl hV hA
  have hx := hB.1
  have hb := hB.2.1
  have hl : lv_has ls 10 [(0, .ref h), (1, .int x1)] := hl
  refine lv_iload_n hx hb dX7_cheapest_0 rfl (lv_at hl 1 rfl) ?_
  refine lv_iconst (v := 0) hx hb dX7_cheapest_1 (by decide) ?_
  refine lv_iconst (v := 1) hx hb dX7_cheapest_2 (by decide) ?_
  refine x_callS (n := 3) (wr := [(h, .inr (7, fs)), (q_tick, .inl (cI, 2, .inl (fun _ => 0))), (q_count, .inl (cI, 12, .inl (fun _ => 0))), (q_kept, .inl (cI, 12, .inl (fun _ => 0))), (q_isKnown, .inl (cZ, 12, .inl (fun _ => 0))), (q_knownX, .inl (cI, 12, .inl (fun _ => 0))), (q_knownKey, .inl (cI, 12, .inl (fun _ => 0))), (q_store, .inl (cI, 48, .inl (fun _ => 0))), (q_key, .inl (cI, 192, .inl (fun _ => 0))), (q_keyX, .inl (cI, 192, .inl (fun _ => 0))), (q_keyAnswer, .inl (cI, 192, .inl (fun _ => 0))), (q_keyTick, .inl (cI, 192, .inl (fun _ => 0))), (q_knownWord, .inl (cI, 96, .inl (fun _ => 0))), (q_knownPlace, .inl (cI, 96, .inl (fun _ => 0))), (q_knownWorth, .inl (cI, 96, .inl (fun _ => 0))), (q_onceStore, .inl (cI, 30, .inl (fun _ => 0))), (q_mends, .inl (cI, 6, .inl (fun _ => 0))), (q_keptMends, .inl (cI, 6, .inl (fun _ => 0)))]) (As := [.int x1, .int 0, .int 1]) (rest := []) hB hV (x_N hB) hl.1 (c_in l D cI cZ cS N0 x1 0 1 ) k_954 k_65 k_952 k_953 (by decide +kernel) ⟨(Nat.le_of_ble_eq_true rfl), (Nat.le_of_ble_eq_true rfl)⟩ rfl (Nat.le_of_ble_eq_true rfl) ⟨(Nat.le_of_ble_eq_true rfl), (Nat.le_of_ble_eq_true rfl)⟩ [] [0, 1, 2, 3, 4, 5, 6, 7, 8, 9, 10, 11, 12, 13, 14, 15, 16, 17] rfl rfl rfl ⟨by decide, by decide, by decide⟩ dX7_cheapest_3 (fun v w H locs hp hV => ?_)
  obtain ⟨r_1, rfl, rfl, f_2⟩ := hp
  have hV : Vx D A s.heap H locs [(h, .inr (7, fs)), (q_tick, .inl (cI, 2, .inl (fun _ => 0))), (q_count, .inl (cI, 12, .inl (fun _ => 0))), (q_kept, .inl (cI, 12, .inl (fun _ => 0))), (q_isKnown, .inl (cZ, 12, .inl (fun _ => 0))), (q_knownX, .inl (cI, 12, .inl (fun _ => 0))), (q_knownKey, .inl (cI, 12, .inl (fun _ => 0))), (q_store, .inl (cI, 48, .inl (fun _ => 0))), (q_key, .inl (cI, 192, .inl (fun _ => 0))), (q_keyX, .inl (cI, 192, .inl (fun _ => 0))), (q_keyAnswer, .inl (cI, 192, .inl (fun _ => 0))), (q_keyTick, .inl (cI, 192, .inl (fun _ => 0))), (q_knownWord, .inl (cI, 96, .inl (fun _ => 0))), (q_knownPlace, .inl (cI, 96, .inl (fun _ => 0))), (q_knownWorth, .inl (cI, 96, .inl (fun _ => 0))), (q_onceStore, .inl (cI, 30, .inl (fun _ => 0))), (q_mends, .inl (cI, 6, .inl (fun _ => 0))), (q_keptMends, .inl (cI, 6, .inl (fun _ => 0)))] := hV
  refine W.eq (g2 := F0 m 6 ls [.int r_1]) rfl ?_
  rcases f_2 with ⟨rfl, hw_3⟩ | ⟨rfl, hw_3⟩
  · refine W.eq (g2 := F0 m 6 ls [.int 1]) rfl ?_
    refine lv_if_ne (tgt := 11) hx hb dX7_cheapest_6 (by decide) (fun c_ => ?_) (fun c_ => absurd c_ (by decide))
    refine lv_aload_n hx hb dX7_cheapest_11 rfl (lv_at hl 0 rfl) ?_
    refine x_get (v := .int 0) hB hV 0 rfl rfl 30 (by decide) k_775 h30 dX7_cheapest_12 ?_
    refine lv_iconst (v := 3) hx hb dX7_cheapest_15 (by decide) ?_
    refine lv_icmp_le (tgt := 22) hx hb dX7_cheapest_16 (by decide) (fun c_ => ?_) (fun c_ => absurd (by decide) c_)
    refine lv_aload_n hx hb dX7_cheapest_22 rfl (lv_at hl 0 rfl) ?_
    refine x_callV (n := 0) (wr := [(q_tick, .inl (cI, 2, .inl (fun _ => 0))), (q_count, .inl (cI, 12, .inl (fun _ => 0))), (q_kept, .inl (cI, 12, .inl (fun _ => 0))), (q_isKnown, .inl (cZ, 12, .inl (fun _ => 0))), (q_knownX, .inl (cI, 12, .inl (fun _ => 0))), (q_knownKey, .inl (cI, 12, .inl (fun _ => 0))), (q_store, .inl (cI, 48, .inl (fun _ => 0))), (q_key, .inl (cI, 192, .inl (fun _ => 0))), (q_keyX, .inl (cI, 192, .inl (fun _ => 0))), (q_keyAnswer, .inl (cI, 192, .inl (fun _ => 0))), (q_keyTick, .inl (cI, 192, .inl (fun _ => 0))), (q_knownWord, .inl (cI, 96, .inl (fun _ => 0))), (q_knownPlace, .inl (cI, 96, .inl (fun _ => 0))), (q_knownWorth, .inl (cI, 96, .inl (fun _ => 0))), (q_onceStore, .inl (cI, 30, .inl (fun _ => 0))), (q_mends, .inl (cI, 6, .inl (fun _ => 0))), (q_keptMends, .inl (cI, 6, .inl (fun _ => 0)))]) (q0 := 0) (As := []) (rest := []) hB hV (x_N hB) hl.1 (c_reached l D cI cZ cS N0 h fs h30 h0) rfl rfl k_1166 k_65 k_1163 k_1165 k_54 (by decide +kernel) ⟨(Nat.le_of_ble_eq_true rfl), (Nat.le_of_ble_eq_true rfl)⟩ rfl (Nat.le_of_ble_eq_true rfl) ⟨(Nat.le_of_ble_eq_true rfl), (Nat.le_of_ble_eq_true rfl)⟩ [0] [1, 2, 3, 4, 5, 6, 7, 8, 9, 10, 11, 12, 13, 14, 15, 16, 17] rfl rfl rfl ⟨by decide, by decide, by decide⟩ dX7_cheapest_23 (fun v w H locs hp hV => ?_)
    obtain ⟨rfl, rfl⟩ := hp
    have hV : Vx D A s.heap H locs [(q_tick, .inl (cI, 2, .inl (fun _ => 0))), (q_count, .inl (cI, 12, .inl (fun _ => 0))), (q_kept, .inl (cI, 12, .inl (fun _ => 0))), (q_isKnown, .inl (cZ, 12, .inl (fun _ => 0))), (q_knownX, .inl (cI, 12, .inl (fun _ => 0))), (q_knownKey, .inl (cI, 12, .inl (fun _ => 0))), (q_store, .inl (cI, 48, .inl (fun _ => 0))), (q_key, .inl (cI, 192, .inl (fun _ => 0))), (q_keyX, .inl (cI, 192, .inl (fun _ => 0))), (q_keyAnswer, .inl (cI, 192, .inl (fun _ => 0))), (q_keyTick, .inl (cI, 192, .inl (fun _ => 0))), (q_knownWord, .inl (cI, 96, .inl (fun _ => 0))), (q_knownPlace, .inl (cI, 96, .inl (fun _ => 0))), (q_knownWorth, .inl (cI, 96, .inl (fun _ => 0))), (q_onceStore, .inl (cI, 30, .inl (fun _ => 0))), (q_mends, .inl (cI, 6, .inl (fun _ => 0))), (q_keptMends, .inl (cI, 6, .inl (fun _ => 0))), (h, .inr (7, fs))] := hV
    refine W.eq (g2 := F0 m 26 ls [.int 0]) rfl ?_
    refine lv_istore_n (lv' := [(2, .int 0), (0, .ref h), (1, .int x1)]) hx hb dX7_cheapest_26 rfl hl (by decide) rfl (fun ls hl => ?_)
    refine lv_iload_n hx hb dX7_cheapest_27 rfl (lv_at hl 0 rfl) ?_
    refine x_callS (n := 1) (wr := [(q_tick, .inl (cI, 2, .inl (fun _ => 0))), (q_count, .inl (cI, 12, .inl (fun _ => 0))), (q_kept, .inl (cI, 12, .inl (fun _ => 0))), (q_isKnown, .inl (cZ, 12, .inl (fun _ => 0))), (q_knownX, .inl (cI, 12, .inl (fun _ => 0))), (q_knownKey, .inl (cI, 12, .inl (fun _ => 0))), (q_store, .inl (cI, 48, .inl (fun _ => 0))), (q_key, .inl (cI, 192, .inl (fun _ => 0))), (q_keyX, .inl (cI, 192, .inl (fun _ => 0))), (q_keyAnswer, .inl (cI, 192, .inl (fun _ => 0))), (q_keyTick, .inl (cI, 192, .inl (fun _ => 0))), (q_knownWord, .inl (cI, 96, .inl (fun _ => 0))), (q_knownPlace, .inl (cI, 96, .inl (fun _ => 0))), (q_knownWorth, .inl (cI, 96, .inl (fun _ => 0))), (q_onceStore, .inl (cI, 30, .inl (fun _ => 0))), (q_mends, .inl (cI, 6, .inl (fun _ => 0))), (q_keptMends, .inl (cI, 6, .inl (fun _ => 0))), (h, .inr (7, fs))]) (As := [.int 0]) (rest := []) hB hV (x_N hB) hl.1 (c_bits l D cI cZ cS N0  ) k_1169 k_65 k_1167 k_1168 (by decide +kernel) ⟨(Nat.le_of_ble_eq_true rfl), (Nat.le_of_ble_eq_true rfl)⟩ rfl (Nat.le_of_ble_eq_true rfl) ⟨(Nat.le_of_ble_eq_true rfl), (Nat.le_of_ble_eq_true rfl)⟩ [] [0, 1, 2, 3, 4, 5, 6, 7, 8, 9, 10, 11, 12, 13, 14, 15, 16, 17] rfl rfl rfl ⟨by decide, by decide, by decide⟩ dX7_cheapest_28 (fun v w H locs hp hV => ?_)
    obtain ⟨rfl, rfl⟩ := hp
    have hV : Vx D A s.heap H locs [(q_tick, .inl (cI, 2, .inl (fun _ => 0))), (q_count, .inl (cI, 12, .inl (fun _ => 0))), (q_kept, .inl (cI, 12, .inl (fun _ => 0))), (q_isKnown, .inl (cZ, 12, .inl (fun _ => 0))), (q_knownX, .inl (cI, 12, .inl (fun _ => 0))), (q_knownKey, .inl (cI, 12, .inl (fun _ => 0))), (q_store, .inl (cI, 48, .inl (fun _ => 0))), (q_key, .inl (cI, 192, .inl (fun _ => 0))), (q_keyX, .inl (cI, 192, .inl (fun _ => 0))), (q_keyAnswer, .inl (cI, 192, .inl (fun _ => 0))), (q_keyTick, .inl (cI, 192, .inl (fun _ => 0))), (q_knownWord, .inl (cI, 96, .inl (fun _ => 0))), (q_knownPlace, .inl (cI, 96, .inl (fun _ => 0))), (q_knownWorth, .inl (cI, 96, .inl (fun _ => 0))), (q_onceStore, .inl (cI, 30, .inl (fun _ => 0))), (q_mends, .inl (cI, 6, .inl (fun _ => 0))), (q_keptMends, .inl (cI, 6, .inl (fun _ => 0))), (h, .inr (7, fs))] := hV
    refine W.eq (g2 := F0 m 31 ls [.int 0]) rfl ?_
    refine lv_istore_n (lv' := [(3, .int 0), (2, .int 0), (0, .ref h), (1, .int x1)]) hx hb dX7_cheapest_31 rfl hl (by decide) rfl (fun ls hl => ?_)
    refine lv_iload_n hx hb dX7_cheapest_32 rfl (lv_at hl 0 rfl) ?_
    refine lv_iconst (v := 2) hx hb dX7_cheapest_33 (by decide) ?_
    refine lv_icmp_le (tgt := 40) hx hb dX7_cheapest_34 (by decide) (fun c_ => ?_) (fun c_ => absurd (by decide) c_)
    refine lv_iconst (v := 0) hx hb dX7_cheapest_40 (by decide) ?_
    refine lv_istore (lv' := [(4, .int 0), (3, .int 0), (2, .int 0), (0, .ref h), (1, .int x1)]) hx hb dX7_cheapest_41 hl (by decide) rfl (fun ls hl => ?_)
    refine lv_iload hx hb dX7_cheapest_43 (lv_at hl 0 rfl) ?_
    refine lv_bipush (v := 6) hx hb dX7_cheapest_45 (by decide) ?_
    refine lv_icmp_ge (tgt := 70) hx hb dX7_cheapest_47 (by decide) (fun c_ => absurd c_ (by decide)) (fun c_ => ?_)
    refine lv_aload_n hx hb dX7_cheapest_50 rfl (lv_at hl 3 rfl) ?_
    refine x_get (v := .ref q_keptMends) hB hV 17 rfl rfl 66 (by decide) k_811 h66 dX7_cheapest_51 ?_
    refine lv_iload hx hb dX7_cheapest_54 (lv_at hl 0 rfl) ?_
    refine lv_aload_n hx hb dX7_cheapest_56 rfl (lv_at hl 3 rfl) ?_
    refine x_get (v := .ref q_mends) hB hV 17 rfl rfl 5 (by decide) k_750 h5 dX7_cheapest_57 ?_
    refine lv_iload hx hb dX7_cheapest_60 (lv_at hl 0 rfl) ?_
    refine x_iald (v := 0) hB hV 15 rfl (by unfold vp_in; decide) rfl dX7_cheapest_62 ?_
    refine x_iast (g := (fun _ => 0)) hB hV 16 rfl (by unfold vp_in; decide) upd00 dX7_cheapest_63 (fun H locs hV => ?_)
    have hV : Vx D A s.heap H locs [(q_tick, .inl (cI, 2, .inl (fun _ => 0))), (q_count, .inl (cI, 12, .inl (fun _ => 0))), (q_kept, .inl (cI, 12, .inl (fun _ => 0))), (q_isKnown, .inl (cZ, 12, .inl (fun _ => 0))), (q_knownX, .inl (cI, 12, .inl (fun _ => 0))), (q_knownKey, .inl (cI, 12, .inl (fun _ => 0))), (q_store, .inl (cI, 48, .inl (fun _ => 0))), (q_key, .inl (cI, 192, .inl (fun _ => 0))), (q_keyX, .inl (cI, 192, .inl (fun _ => 0))), (q_keyAnswer, .inl (cI, 192, .inl (fun _ => 0))), (q_keyTick, .inl (cI, 192, .inl (fun _ => 0))), (q_knownWord, .inl (cI, 96, .inl (fun _ => 0))), (q_knownPlace, .inl (cI, 96, .inl (fun _ => 0))), (q_knownWorth, .inl (cI, 96, .inl (fun _ => 0))), (q_onceStore, .inl (cI, 30, .inl (fun _ => 0))), (q_mends, .inl (cI, 6, .inl (fun _ => 0))), (q_keptMends, .inl (cI, 6, .inl (fun _ => 0))), (h, .inr (7, fs))] := hV
    refine lv_iinc (v := 1) (lv' := [(4, .int 1), (3, .int 0), (2, .int 0), (0, .ref h), (1, .int x1)]) hx hb dX7_cheapest_64 hl (k := 0) rfl (by decide) (by decide) rfl (fun ls hl => ?_)
    refine lv_goto (tgt := 43) hx hb dX7_cheapest_67 (by decide) ?_
    refine lv_iload hx hb dX7_cheapest_43 (lv_at hl 0 rfl) ?_
    refine lv_bipush (v := 6) hx hb dX7_cheapest_45 (by decide) ?_
    refine lv_icmp_ge (tgt := 70) hx hb dX7_cheapest_47 (by decide) (fun c_ => absurd c_ (by decide)) (fun c_ => ?_)
    refine lv_aload_n hx hb dX7_cheapest_50 rfl (lv_at hl 3 rfl) ?_
    refine x_get (v := .ref q_keptMends) hB hV 17 rfl rfl 66 (by decide) k_811 h66 dX7_cheapest_51 ?_
    refine lv_iload hx hb dX7_cheapest_54 (lv_at hl 0 rfl) ?_
    refine lv_aload_n hx hb dX7_cheapest_56 rfl (lv_at hl 3 rfl) ?_
    refine x_get (v := .ref q_mends) hB hV 17 rfl rfl 5 (by decide) k_750 h5 dX7_cheapest_57 ?_
    refine lv_iload hx hb dX7_cheapest_60 (lv_at hl 0 rfl) ?_
    refine x_iald (v := 0) hB hV 15 rfl (by unfold vp_in; decide) rfl dX7_cheapest_62 ?_
    refine x_iast (g := (fun _ => 0)) hB hV 16 rfl (by unfold vp_in; decide) upd00 dX7_cheapest_63 (fun H locs hV => ?_)
    have hV : Vx D A s.heap H locs [(q_tick, .inl (cI, 2, .inl (fun _ => 0))), (q_count, .inl (cI, 12, .inl (fun _ => 0))), (q_kept, .inl (cI, 12, .inl (fun _ => 0))), (q_isKnown, .inl (cZ, 12, .inl (fun _ => 0))), (q_knownX, .inl (cI, 12, .inl (fun _ => 0))), (q_knownKey, .inl (cI, 12, .inl (fun _ => 0))), (q_store, .inl (cI, 48, .inl (fun _ => 0))), (q_key, .inl (cI, 192, .inl (fun _ => 0))), (q_keyX, .inl (cI, 192, .inl (fun _ => 0))), (q_keyAnswer, .inl (cI, 192, .inl (fun _ => 0))), (q_keyTick, .inl (cI, 192, .inl (fun _ => 0))), (q_knownWord, .inl (cI, 96, .inl (fun _ => 0))), (q_knownPlace, .inl (cI, 96, .inl (fun _ => 0))), (q_knownWorth, .inl (cI, 96, .inl (fun _ => 0))), (q_onceStore, .inl (cI, 30, .inl (fun _ => 0))), (q_mends, .inl (cI, 6, .inl (fun _ => 0))), (q_keptMends, .inl (cI, 6, .inl (fun _ => 0))), (h, .inr (7, fs))] := hV
    refine lv_iinc (v := 2) (lv' := [(4, .int 2), (3, .int 0), (2, .int 0), (0, .ref h), (1, .int x1)]) hx hb dX7_cheapest_64 hl (k := 0) rfl (by decide) (by decide) rfl (fun ls hl => ?_)
    refine lv_goto (tgt := 43) hx hb dX7_cheapest_67 (by decide) ?_
    refine lv_iload hx hb dX7_cheapest_43 (lv_at hl 0 rfl) ?_
    refine lv_bipush (v := 6) hx hb dX7_cheapest_45 (by decide) ?_
    refine lv_icmp_ge (tgt := 70) hx hb dX7_cheapest_47 (by decide) (fun c_ => absurd c_ (by decide)) (fun c_ => ?_)
    refine lv_aload_n hx hb dX7_cheapest_50 rfl (lv_at hl 3 rfl) ?_
    refine x_get (v := .ref q_keptMends) hB hV 17 rfl rfl 66 (by decide) k_811 h66 dX7_cheapest_51 ?_
    refine lv_iload hx hb dX7_cheapest_54 (lv_at hl 0 rfl) ?_
    refine lv_aload_n hx hb dX7_cheapest_56 rfl (lv_at hl 3 rfl) ?_
    refine x_get (v := .ref q_mends) hB hV 17 rfl rfl 5 (by decide) k_750 h5 dX7_cheapest_57 ?_
    refine lv_iload hx hb dX7_cheapest_60 (lv_at hl 0 rfl) ?_
    refine x_iald (v := 0) hB hV 15 rfl (by unfold vp_in; decide) rfl dX7_cheapest_62 ?_
    refine x_iast (g := (fun _ => 0)) hB hV 16 rfl (by unfold vp_in; decide) upd00 dX7_cheapest_63 (fun H locs hV => ?_)
    have hV : Vx D A s.heap H locs [(q_tick, .inl (cI, 2, .inl (fun _ => 0))), (q_count, .inl (cI, 12, .inl (fun _ => 0))), (q_kept, .inl (cI, 12, .inl (fun _ => 0))), (q_isKnown, .inl (cZ, 12, .inl (fun _ => 0))), (q_knownX, .inl (cI, 12, .inl (fun _ => 0))), (q_knownKey, .inl (cI, 12, .inl (fun _ => 0))), (q_store, .inl (cI, 48, .inl (fun _ => 0))), (q_key, .inl (cI, 192, .inl (fun _ => 0))), (q_keyX, .inl (cI, 192, .inl (fun _ => 0))), (q_keyAnswer, .inl (cI, 192, .inl (fun _ => 0))), (q_keyTick, .inl (cI, 192, .inl (fun _ => 0))), (q_knownWord, .inl (cI, 96, .inl (fun _ => 0))), (q_knownPlace, .inl (cI, 96, .inl (fun _ => 0))), (q_knownWorth, .inl (cI, 96, .inl (fun _ => 0))), (q_onceStore, .inl (cI, 30, .inl (fun _ => 0))), (q_mends, .inl (cI, 6, .inl (fun _ => 0))), (q_keptMends, .inl (cI, 6, .inl (fun _ => 0))), (h, .inr (7, fs))] := hV
    refine lv_iinc (v := 3) (lv' := [(4, .int 3), (3, .int 0), (2, .int 0), (0, .ref h), (1, .int x1)]) hx hb dX7_cheapest_64 hl (k := 0) rfl (by decide) (by decide) rfl (fun ls hl => ?_)
    refine lv_goto (tgt := 43) hx hb dX7_cheapest_67 (by decide) ?_
    refine lv_iload hx hb dX7_cheapest_43 (lv_at hl 0 rfl) ?_
    refine lv_bipush (v := 6) hx hb dX7_cheapest_45 (by decide) ?_
    refine lv_icmp_ge (tgt := 70) hx hb dX7_cheapest_47 (by decide) (fun c_ => absurd c_ (by decide)) (fun c_ => ?_)
    refine lv_aload_n hx hb dX7_cheapest_50 rfl (lv_at hl 3 rfl) ?_
    refine x_get (v := .ref q_keptMends) hB hV 17 rfl rfl 66 (by decide) k_811 h66 dX7_cheapest_51 ?_
    refine lv_iload hx hb dX7_cheapest_54 (lv_at hl 0 rfl) ?_
    refine lv_aload_n hx hb dX7_cheapest_56 rfl (lv_at hl 3 rfl) ?_
    refine x_get (v := .ref q_mends) hB hV 17 rfl rfl 5 (by decide) k_750 h5 dX7_cheapest_57 ?_
    refine lv_iload hx hb dX7_cheapest_60 (lv_at hl 0 rfl) ?_
    refine x_iald (v := 0) hB hV 15 rfl (by unfold vp_in; decide) rfl dX7_cheapest_62 ?_
    refine x_iast (g := (fun _ => 0)) hB hV 16 rfl (by unfold vp_in; decide) upd00 dX7_cheapest_63 (fun H locs hV => ?_)
    have hV : Vx D A s.heap H locs [(q_tick, .inl (cI, 2, .inl (fun _ => 0))), (q_count, .inl (cI, 12, .inl (fun _ => 0))), (q_kept, .inl (cI, 12, .inl (fun _ => 0))), (q_isKnown, .inl (cZ, 12, .inl (fun _ => 0))), (q_knownX, .inl (cI, 12, .inl (fun _ => 0))), (q_knownKey, .inl (cI, 12, .inl (fun _ => 0))), (q_store, .inl (cI, 48, .inl (fun _ => 0))), (q_key, .inl (cI, 192, .inl (fun _ => 0))), (q_keyX, .inl (cI, 192, .inl (fun _ => 0))), (q_keyAnswer, .inl (cI, 192, .inl (fun _ => 0))), (q_keyTick, .inl (cI, 192, .inl (fun _ => 0))), (q_knownWord, .inl (cI, 96, .inl (fun _ => 0))), (q_knownPlace, .inl (cI, 96, .inl (fun _ => 0))), (q_knownWorth, .inl (cI, 96, .inl (fun _ => 0))), (q_onceStore, .inl (cI, 30, .inl (fun _ => 0))), (q_mends, .inl (cI, 6, .inl (fun _ => 0))), (q_keptMends, .inl (cI, 6, .inl (fun _ => 0))), (h, .inr (7, fs))] := hV
    refine lv_iinc (v := 4) (lv' := [(4, .int 4), (3, .int 0), (2, .int 0), (0, .ref h), (1, .int x1)]) hx hb dX7_cheapest_64 hl (k := 0) rfl (by decide) (by decide) rfl (fun ls hl => ?_)
    refine lv_goto (tgt := 43) hx hb dX7_cheapest_67 (by decide) ?_
    refine lv_iload hx hb dX7_cheapest_43 (lv_at hl 0 rfl) ?_
    refine lv_bipush (v := 6) hx hb dX7_cheapest_45 (by decide) ?_
    refine lv_icmp_ge (tgt := 70) hx hb dX7_cheapest_47 (by decide) (fun c_ => absurd c_ (by decide)) (fun c_ => ?_)
    refine lv_aload_n hx hb dX7_cheapest_50 rfl (lv_at hl 3 rfl) ?_
    refine x_get (v := .ref q_keptMends) hB hV 17 rfl rfl 66 (by decide) k_811 h66 dX7_cheapest_51 ?_
    refine lv_iload hx hb dX7_cheapest_54 (lv_at hl 0 rfl) ?_
    refine lv_aload_n hx hb dX7_cheapest_56 rfl (lv_at hl 3 rfl) ?_
    refine x_get (v := .ref q_mends) hB hV 17 rfl rfl 5 (by decide) k_750 h5 dX7_cheapest_57 ?_
    refine lv_iload hx hb dX7_cheapest_60 (lv_at hl 0 rfl) ?_
    refine x_iald (v := 0) hB hV 15 rfl (by unfold vp_in; decide) rfl dX7_cheapest_62 ?_
    refine x_iast (g := (fun _ => 0)) hB hV 16 rfl (by unfold vp_in; decide) upd00 dX7_cheapest_63 (fun H locs hV => ?_)
    have hV : Vx D A s.heap H locs [(q_tick, .inl (cI, 2, .inl (fun _ => 0))), (q_count, .inl (cI, 12, .inl (fun _ => 0))), (q_kept, .inl (cI, 12, .inl (fun _ => 0))), (q_isKnown, .inl (cZ, 12, .inl (fun _ => 0))), (q_knownX, .inl (cI, 12, .inl (fun _ => 0))), (q_knownKey, .inl (cI, 12, .inl (fun _ => 0))), (q_store, .inl (cI, 48, .inl (fun _ => 0))), (q_key, .inl (cI, 192, .inl (fun _ => 0))), (q_keyX, .inl (cI, 192, .inl (fun _ => 0))), (q_keyAnswer, .inl (cI, 192, .inl (fun _ => 0))), (q_keyTick, .inl (cI, 192, .inl (fun _ => 0))), (q_knownWord, .inl (cI, 96, .inl (fun _ => 0))), (q_knownPlace, .inl (cI, 96, .inl (fun _ => 0))), (q_knownWorth, .inl (cI, 96, .inl (fun _ => 0))), (q_onceStore, .inl (cI, 30, .inl (fun _ => 0))), (q_mends, .inl (cI, 6, .inl (fun _ => 0))), (q_keptMends, .inl (cI, 6, .inl (fun _ => 0))), (h, .inr (7, fs))] := hV
    refine lv_iinc (v := 5) (lv' := [(4, .int 5), (3, .int 0), (2, .int 0), (0, .ref h), (1, .int x1)]) hx hb dX7_cheapest_64 hl (k := 0) rfl (by decide) (by decide) rfl (fun ls hl => ?_)
    refine lv_goto (tgt := 43) hx hb dX7_cheapest_67 (by decide) ?_
    refine lv_iload hx hb dX7_cheapest_43 (lv_at hl 0 rfl) ?_
    refine lv_bipush (v := 6) hx hb dX7_cheapest_45 (by decide) ?_
    refine lv_icmp_ge (tgt := 70) hx hb dX7_cheapest_47 (by decide) (fun c_ => absurd c_ (by decide)) (fun c_ => ?_)
    refine lv_aload_n hx hb dX7_cheapest_50 rfl (lv_at hl 3 rfl) ?_
    refine x_get (v := .ref q_keptMends) hB hV 17 rfl rfl 66 (by decide) k_811 h66 dX7_cheapest_51 ?_
    refine lv_iload hx hb dX7_cheapest_54 (lv_at hl 0 rfl) ?_
    refine lv_aload_n hx hb dX7_cheapest_56 rfl (lv_at hl 3 rfl) ?_
    refine x_get (v := .ref q_mends) hB hV 17 rfl rfl 5 (by decide) k_750 h5 dX7_cheapest_57 ?_
    refine lv_iload hx hb dX7_cheapest_60 (lv_at hl 0 rfl) ?_
    refine x_iald (v := 0) hB hV 15 rfl (by unfold vp_in; decide) rfl dX7_cheapest_62 ?_
    refine x_iast (g := (fun _ => 0)) hB hV 16 rfl (by unfold vp_in; decide) upd00 dX7_cheapest_63 (fun H locs hV => ?_)
    have hV : Vx D A s.heap H locs [(q_tick, .inl (cI, 2, .inl (fun _ => 0))), (q_count, .inl (cI, 12, .inl (fun _ => 0))), (q_kept, .inl (cI, 12, .inl (fun _ => 0))), (q_isKnown, .inl (cZ, 12, .inl (fun _ => 0))), (q_knownX, .inl (cI, 12, .inl (fun _ => 0))), (q_knownKey, .inl (cI, 12, .inl (fun _ => 0))), (q_store, .inl (cI, 48, .inl (fun _ => 0))), (q_key, .inl (cI, 192, .inl (fun _ => 0))), (q_keyX, .inl (cI, 192, .inl (fun _ => 0))), (q_keyAnswer, .inl (cI, 192, .inl (fun _ => 0))), (q_keyTick, .inl (cI, 192, .inl (fun _ => 0))), (q_knownWord, .inl (cI, 96, .inl (fun _ => 0))), (q_knownPlace, .inl (cI, 96, .inl (fun _ => 0))), (q_knownWorth, .inl (cI, 96, .inl (fun _ => 0))), (q_onceStore, .inl (cI, 30, .inl (fun _ => 0))), (q_mends, .inl (cI, 6, .inl (fun _ => 0))), (q_keptMends, .inl (cI, 6, .inl (fun _ => 0))), (h, .inr (7, fs))] := hV
    refine lv_iinc (v := 6) (lv' := [(4, .int 6), (3, .int 0), (2, .int 0), (0, .ref h), (1, .int x1)]) hx hb dX7_cheapest_64 hl (k := 0) rfl (by decide) (by decide) rfl (fun ls hl => ?_)
    refine lv_goto (tgt := 43) hx hb dX7_cheapest_67 (by decide) ?_
    refine lv_iload hx hb dX7_cheapest_43 (lv_at hl 0 rfl) ?_
    refine lv_bipush (v := 6) hx hb dX7_cheapest_45 (by decide) ?_
    refine lv_icmp_ge (tgt := 70) hx hb dX7_cheapest_47 (by decide) (fun c_ => ?_) (fun c_ => absurd (by decide) c_)
    refine lv_iconst (v := (-1)) hx hb dX7_cheapest_70 (by decide) ?_
    refine lv_istore (lv' := [(4, .int (-1)), (3, .int 0), (2, .int 0), (0, .ref h), (1, .int x1)]) hx hb dX7_cheapest_71 hl (by decide) rfl (fun ls hl => ?_)
    refine lv_iconst (v := 0) hx hb dX7_cheapest_73 (by decide) ?_
    refine lv_istore (lv' := [(5, .int 0), (4, .int (-1)), (3, .int 0), (2, .int 0), (0, .ref h), (1, .int x1)]) hx hb dX7_cheapest_74 hl (by decide) rfl (fun ls hl => ?_)
    refine lv_iconst (v := 0) hx hb dX7_cheapest_76 (by decide) ?_
    refine lv_istore (lv' := [(6, .int 0), (5, .int 0), (4, .int (-1)), (3, .int 0), (2, .int 0), (0, .ref h), (1, .int x1)]) hx hb dX7_cheapest_77 hl (by decide) rfl (fun ls hl => ?_)
    refine lv_iload hx hb dX7_cheapest_79 (lv_at hl 0 rfl) ?_
    refine lv_bipush (v := 16) hx hb dX7_cheapest_81 (by decide) ?_
    refine lv_iload_n hx hb dX7_cheapest_83 rfl (lv_at hl 3 rfl) ?_
    refine x_callS (n := 2) (wr := [(q_tick, .inl (cI, 2, .inl (fun _ => 0))), (q_count, .inl (cI, 12, .inl (fun _ => 0))), (q_kept, .inl (cI, 12, .inl (fun _ => 0))), (q_isKnown, .inl (cZ, 12, .inl (fun _ => 0))), (q_knownX, .inl (cI, 12, .inl (fun _ => 0))), (q_knownKey, .inl (cI, 12, .inl (fun _ => 0))), (q_store, .inl (cI, 48, .inl (fun _ => 0))), (q_key, .inl (cI, 192, .inl (fun _ => 0))), (q_keyX, .inl (cI, 192, .inl (fun _ => 0))), (q_keyAnswer, .inl (cI, 192, .inl (fun _ => 0))), (q_keyTick, .inl (cI, 192, .inl (fun _ => 0))), (q_knownWord, .inl (cI, 96, .inl (fun _ => 0))), (q_knownPlace, .inl (cI, 96, .inl (fun _ => 0))), (q_knownWorth, .inl (cI, 96, .inl (fun _ => 0))), (q_onceStore, .inl (cI, 30, .inl (fun _ => 0))), (q_mends, .inl (cI, 6, .inl (fun _ => 0))), (q_keptMends, .inl (cI, 6, .inl (fun _ => 0))), (h, .inr (7, fs))]) (As := [.int 16, .int 0]) (rest := [.int 0]) hB hV (x_N hB) hl.1 (c_power l D cI cZ cS N0  ) k_1134 k_65 k_1132 k_1133 (by decide +kernel) ⟨(Nat.le_of_ble_eq_true rfl), (Nat.le_of_ble_eq_true rfl)⟩ rfl (Nat.le_of_ble_eq_true rfl) ⟨(Nat.le_of_ble_eq_true rfl), (Nat.le_of_ble_eq_true rfl)⟩ [] [0, 1, 2, 3, 4, 5, 6, 7, 8, 9, 10, 11, 12, 13, 14, 15, 16, 17] rfl rfl rfl ⟨by decide, by decide, by decide⟩ dX7_cheapest_84 (fun v w H locs hp hV => ?_)
    obtain ⟨rfl, rfl⟩ := hp
    have hV : Vx D A s.heap H locs [(q_tick, .inl (cI, 2, .inl (fun _ => 0))), (q_count, .inl (cI, 12, .inl (fun _ => 0))), (q_kept, .inl (cI, 12, .inl (fun _ => 0))), (q_isKnown, .inl (cZ, 12, .inl (fun _ => 0))), (q_knownX, .inl (cI, 12, .inl (fun _ => 0))), (q_knownKey, .inl (cI, 12, .inl (fun _ => 0))), (q_store, .inl (cI, 48, .inl (fun _ => 0))), (q_key, .inl (cI, 192, .inl (fun _ => 0))), (q_keyX, .inl (cI, 192, .inl (fun _ => 0))), (q_keyAnswer, .inl (cI, 192, .inl (fun _ => 0))), (q_keyTick, .inl (cI, 192, .inl (fun _ => 0))), (q_knownWord, .inl (cI, 96, .inl (fun _ => 0))), (q_knownPlace, .inl (cI, 96, .inl (fun _ => 0))), (q_knownWorth, .inl (cI, 96, .inl (fun _ => 0))), (q_onceStore, .inl (cI, 30, .inl (fun _ => 0))), (q_mends, .inl (cI, 6, .inl (fun _ => 0))), (q_keptMends, .inl (cI, 6, .inl (fun _ => 0))), (h, .inr (7, fs))] := hV
    refine W.eq (g2 := F0 m 87 ls [.int 1, .int 0]) rfl ?_
    refine lv_icmp_ge (tgt := 223) hx hb dX7_cheapest_87 (by decide) (fun c_ => absurd c_ (by decide)) (fun c_ => ?_)
    refine lv_aload_n hx hb dX7_cheapest_90 rfl (lv_at hl 5 rfl) ?_
    refine lv_iload hx hb dX7_cheapest_91 (lv_at hl 0 rfl) ?_
    refine lv_iload_n hx hb dX7_cheapest_93 rfl (lv_at hl 4 rfl) ?_
    refine x_callV (n := 2) (wr := [(q_tick, .inl (cI, 2, .inl (fun _ => 0))), (q_count, .inl (cI, 12, .inl (fun _ => 0))), (q_kept, .inl (cI, 12, .inl (fun _ => 0))), (q_isKnown, .inl (cZ, 12, .inl (fun _ => 0))), (q_knownX, .inl (cI, 12, .inl (fun _ => 0))), (q_knownKey, .inl (cI, 12, .inl (fun _ => 0))), (q_store, .inl (cI, 48, .inl (fun _ => 0))), (q_key, .inl (cI, 192, .inl (fun _ => 0))), (q_keyX, .inl (cI, 192, .inl (fun _ => 0))), (q_keyAnswer, .inl (cI, 192, .inl (fun _ => 0))), (q_keyTick, .inl (cI, 192, .inl (fun _ => 0))), (q_knownWord, .inl (cI, 96, .inl (fun _ => 0))), (q_knownPlace, .inl (cI, 96, .inl (fun _ => 0))), (q_knownWorth, .inl (cI, 96, .inl (fun _ => 0))), (q_onceStore, .inl (cI, 30, .inl (fun _ => 0))), (q_mends, .inl (cI, 6, .inl (fun _ => 0))), (q_keptMends, .inl (cI, 6, .inl (fun _ => 0)))]) (q0 := 17) (As := [.int 0, .int 0]) (rest := []) hB hV (x_N hB) hl.1 (c_spread l D cI cZ cS N0 h fs ) rfl rfl k_1173 k_65 k_1170 k_1172 k_55 (by decide +kernel) ⟨(Nat.le_of_ble_eq_true rfl), (Nat.le_of_ble_eq_true rfl)⟩ rfl (Nat.le_of_ble_eq_true rfl) ⟨(Nat.le_of_ble_eq_true rfl), (Nat.le_of_ble_eq_true rfl)⟩ [17] [0, 1, 2, 3, 4, 5, 6, 7, 8, 9, 10, 11, 12, 13, 14, 15, 16] rfl rfl rfl ⟨by decide, by decide, by decide⟩ dX7_cheapest_94 (fun v w H locs hp hV => ?_)
    obtain ⟨rfl, rfl⟩ := hp
    have hV : Vx D A s.heap H locs [(q_tick, .inl (cI, 2, .inl (fun _ => 0))), (q_count, .inl (cI, 12, .inl (fun _ => 0))), (q_kept, .inl (cI, 12, .inl (fun _ => 0))), (q_isKnown, .inl (cZ, 12, .inl (fun _ => 0))), (q_knownX, .inl (cI, 12, .inl (fun _ => 0))), (q_knownKey, .inl (cI, 12, .inl (fun _ => 0))), (q_store, .inl (cI, 48, .inl (fun _ => 0))), (q_key, .inl (cI, 192, .inl (fun _ => 0))), (q_keyX, .inl (cI, 192, .inl (fun _ => 0))), (q_keyAnswer, .inl (cI, 192, .inl (fun _ => 0))), (q_keyTick, .inl (cI, 192, .inl (fun _ => 0))), (q_knownWord, .inl (cI, 96, .inl (fun _ => 0))), (q_knownPlace, .inl (cI, 96, .inl (fun _ => 0))), (q_knownWorth, .inl (cI, 96, .inl (fun _ => 0))), (q_onceStore, .inl (cI, 30, .inl (fun _ => 0))), (q_mends, .inl (cI, 6, .inl (fun _ => 0))), (q_keptMends, .inl (cI, 6, .inl (fun _ => 0))), (h, .inr (7, fs))] := hV
    refine W.eq (g2 := F0 m 97 ls [.int 0]) rfl ?_
    refine lv_istore (lv' := [(7, .int 0), (6, .int 0), (5, .int 0), (4, .int (-1)), (3, .int 0), (2, .int 0), (0, .ref h), (1, .int x1)]) hx hb dX7_cheapest_97 hl (by decide) rfl (fun ls hl => ?_)
    refine lv_iconst (v := 0) hx hb dX7_cheapest_99 (by decide) ?_
    refine lv_istore (lv' := [(8, .int 0), (7, .int 0), (6, .int 0), (5, .int 0), (4, .int (-1)), (3, .int 0), (2, .int 0), (0, .ref h), (1, .int x1)]) hx hb dX7_cheapest_100 hl (by decide) rfl (fun ls hl => ?_)
    refine lv_iconst (v := 0) hx hb dX7_cheapest_102 (by decide) ?_
    refine lv_istore (lv' := [(9, .int 0), (8, .int 0), (7, .int 0), (6, .int 0), (5, .int 0), (4, .int (-1)), (3, .int 0), (2, .int 0), (0, .ref h), (1, .int x1)]) hx hb dX7_cheapest_103 hl (by decide) rfl (fun ls hl => ?_)
    have hV := Vx_sub (w := [(h, .inr (7, fs)), (q_tick, .inl (cI, 2, .inl (fun _ => 0))), (q_count, .inl (cI, 12, .inl (fun _ => 0))), (q_kept, .inl (cI, 12, .inl (fun _ => 0))), (q_isKnown, .inl (cZ, 12, .inl (fun _ => 0))), (q_knownX, .inl (cI, 12, .inl (fun _ => 0))), (q_knownKey, .inl (cI, 12, .inl (fun _ => 0))), (q_store, .inl (cI, 48, .inl (fun _ => 0))), (q_key, .inl (cI, 192, .inl (fun _ => 0))), (q_keyX, .inl (cI, 192, .inl (fun _ => 0))), (q_keyAnswer, .inl (cI, 192, .inl (fun _ => 0))), (q_keyTick, .inl (cI, 192, .inl (fun _ => 0))), (q_knownWord, .inl (cI, 96, .inl (fun _ => 0))), (q_knownPlace, .inl (cI, 96, .inl (fun _ => 0))), (q_knownWorth, .inl (cI, 96, .inl (fun _ => 0))), (q_onceStore, .inl (cI, 30, .inl (fun _ => 0))), (q_mends, .inl (cI, 6, .inl (fun _ => 0))), (q_keptMends, .inl (cI, 6, .inl (fun _ => 0)))]) hV [17, 0, 1, 2, 3, 4, 5, 6, 7, 8, 9, 10, 11, 12, 13, 14, 15, 16] rfl rfl (by decide)
    refine lp_c1 (x1 := x1) hB h fs q_tick q_count q_kept q_isKnown q_knownX q_knownKey q_store q_key q_keyX q_keyAnswer q_keyTick q_knownWord q_knownPlace q_knownWorth q_onceStore q_mends q_keptMends h14 h8 h9 h20 h15 h16 h7 h10 h11 h12 h13 h17 h18 h19 h57 h5 h66 (fun H locs ls hV hl => ?_) 24 0 H locs ls (by omega) hV (lv_sub hl [0, 1, 2, 3, 4, 5, 6, 7, 8, 9] rfl)
    refine lv_iload hx hb dX7_cheapest_147 (lv_at hl 5 rfl) ?_
    refine lv_iconst (v := (-1)) hx hb dX7_cheapest_149 (by decide) ?_
    refine lv_icmp_eq (tgt := 160) hx hb dX7_cheapest_150 (by decide) (fun c_ => ?_) (fun c_ => absurd (by decide) c_)
    refine lv_iconst (v := 0) hx hb dX7_cheapest_160 (by decide) ?_
    refine lv_istore (lv' := [(9, .int 0), (8, .int 0), (7, .int 0), (6, .int 0), (5, .int 0), (4, .int (-1)), (3, .int 0), (2, .int 0), (0, .ref h), (1, .int x1)]) hx hb dX7_cheapest_161 hl (by decide) rfl (fun ls hl => ?_)
    refine lv_iload hx hb dX7_cheapest_163 (lv_at hl 0 rfl) ?_
    refine lv_bipush (v := 6) hx hb dX7_cheapest_165 (by decide) ?_
    refine lv_icmp_ge (tgt := 201) hx hb dX7_cheapest_167 (by decide) (fun c_ => absurd c_ (by decide)) (fun c_ => ?_)
    refine lv_aload_n hx hb dX7_cheapest_170 rfl (lv_at hl 8 rfl) ?_
    refine x_get (v := .ref q_mends) hB hV 0 rfl rfl 5 (by decide) k_750 h5 dX7_cheapest_171 ?_
    refine lv_iload hx hb dX7_cheapest_174 (lv_at hl 0 rfl) ?_
    refine lv_aload_n hx hb dX7_cheapest_176 rfl (lv_at hl 8 rfl) ?_
    refine x_get (v := .ref q_keptMends) hB hV 0 rfl rfl 66 (by decide) k_811 h66 dX7_cheapest_177 ?_
    refine lv_iload hx hb dX7_cheapest_180 (lv_at hl 0 rfl) ?_
    refine x_iald (v := 0) hB hV 17 rfl (by unfold vp_in; decide) rfl dX7_cheapest_182 ?_
    refine lv_iload hx hb dX7_cheapest_183 (lv_at hl 2 rfl) ?_
    refine lv_iconst (v := 4) hx hb dX7_cheapest_185 (by decide) ?_
    refine lv_iload hx hb dX7_cheapest_186 (lv_at hl 0 rfl) ?_
    refine lv_imul hx hb dX7_cheapest_188 ?_
    refine x_ev (y := 0) (by decide) ?_
    refine lv_ishr hx hb dX7_cheapest_189 ?_
    refine x_ev (y := 0) (by decide) ?_
    refine lv_bipush (v := 15) hx hb dX7_cheapest_190 (by decide) ?_
    refine lv_iand hx hb dX7_cheapest_192 ?_
    refine x_ev (y := 0) (by decide) ?_
    refine lv_ior hx hb dX7_cheapest_193 ?_
    refine x_ev (y := 0) (by decide) ?_
    refine x_iast (g := (fun _ => 0)) hB hV 16 rfl (by unfold vp_in; decide) upd00 dX7_cheapest_194 (fun H locs hV => ?_)
    have hV : Vx D A s.heap H locs [(h, .inr (7, fs)), (q_tick, .inl (cI, 2, .inl (fun _ => 0))), (q_count, .inl (cI, 12, .inl (fun _ => 0))), (q_kept, .inl (cI, 12, .inl (fun _ => 0))), (q_isKnown, .inl (cZ, 12, .inl (fun _ => 0))), (q_knownX, .inl (cI, 12, .inl (fun _ => 0))), (q_knownKey, .inl (cI, 12, .inl (fun _ => 0))), (q_store, .inl (cI, 48, .inl (fun _ => 0))), (q_key, .inl (cI, 192, .inl (fun _ => 0))), (q_keyX, .inl (cI, 192, .inl (fun _ => 0))), (q_keyAnswer, .inl (cI, 192, .inl (fun _ => 0))), (q_keyTick, .inl (cI, 192, .inl (fun _ => 0))), (q_knownWord, .inl (cI, 96, .inl (fun _ => 0))), (q_knownPlace, .inl (cI, 96, .inl (fun _ => 0))), (q_knownWorth, .inl (cI, 96, .inl (fun _ => 0))), (q_onceStore, .inl (cI, 30, .inl (fun _ => 0))), (q_mends, .inl (cI, 6, .inl (fun _ => 0))), (q_keptMends, .inl (cI, 6, .inl (fun _ => 0)))] := hV
    refine lv_iinc (v := 1) (lv' := [(9, .int 1), (8, .int 0), (7, .int 0), (6, .int 0), (5, .int 0), (4, .int (-1)), (3, .int 0), (2, .int 0), (0, .ref h), (1, .int x1)]) hx hb dX7_cheapest_195 hl (k := 0) rfl (by decide) (by decide) rfl (fun ls hl => ?_)
    refine lv_goto (tgt := 163) hx hb dX7_cheapest_198 (by decide) ?_
    refine lv_iload hx hb dX7_cheapest_163 (lv_at hl 0 rfl) ?_
    refine lv_bipush (v := 6) hx hb dX7_cheapest_165 (by decide) ?_
    refine lv_icmp_ge (tgt := 201) hx hb dX7_cheapest_167 (by decide) (fun c_ => absurd c_ (by decide)) (fun c_ => ?_)
    refine lv_aload_n hx hb dX7_cheapest_170 rfl (lv_at hl 8 rfl) ?_
    refine x_get (v := .ref q_mends) hB hV 0 rfl rfl 5 (by decide) k_750 h5 dX7_cheapest_171 ?_
    refine lv_iload hx hb dX7_cheapest_174 (lv_at hl 0 rfl) ?_
    refine lv_aload_n hx hb dX7_cheapest_176 rfl (lv_at hl 8 rfl) ?_
    refine x_get (v := .ref q_keptMends) hB hV 0 rfl rfl 66 (by decide) k_811 h66 dX7_cheapest_177 ?_
    refine lv_iload hx hb dX7_cheapest_180 (lv_at hl 0 rfl) ?_
    refine x_iald (v := 0) hB hV 17 rfl (by unfold vp_in; decide) rfl dX7_cheapest_182 ?_
    refine lv_iload hx hb dX7_cheapest_183 (lv_at hl 2 rfl) ?_
    refine lv_iconst (v := 4) hx hb dX7_cheapest_185 (by decide) ?_
    refine lv_iload hx hb dX7_cheapest_186 (lv_at hl 0 rfl) ?_
    refine lv_imul hx hb dX7_cheapest_188 ?_
    refine x_ev (y := 4) (by decide) ?_
    refine lv_ishr hx hb dX7_cheapest_189 ?_
    refine x_ev (y := 0) (by decide) ?_
    refine lv_bipush (v := 15) hx hb dX7_cheapest_190 (by decide) ?_
    refine lv_iand hx hb dX7_cheapest_192 ?_
    refine x_ev (y := 0) (by decide) ?_
    refine lv_ior hx hb dX7_cheapest_193 ?_
    refine x_ev (y := 0) (by decide) ?_
    refine x_iast (g := (fun _ => 0)) hB hV 16 rfl (by unfold vp_in; decide) upd00 dX7_cheapest_194 (fun H locs hV => ?_)
    have hV : Vx D A s.heap H locs [(h, .inr (7, fs)), (q_tick, .inl (cI, 2, .inl (fun _ => 0))), (q_count, .inl (cI, 12, .inl (fun _ => 0))), (q_kept, .inl (cI, 12, .inl (fun _ => 0))), (q_isKnown, .inl (cZ, 12, .inl (fun _ => 0))), (q_knownX, .inl (cI, 12, .inl (fun _ => 0))), (q_knownKey, .inl (cI, 12, .inl (fun _ => 0))), (q_store, .inl (cI, 48, .inl (fun _ => 0))), (q_key, .inl (cI, 192, .inl (fun _ => 0))), (q_keyX, .inl (cI, 192, .inl (fun _ => 0))), (q_keyAnswer, .inl (cI, 192, .inl (fun _ => 0))), (q_keyTick, .inl (cI, 192, .inl (fun _ => 0))), (q_knownWord, .inl (cI, 96, .inl (fun _ => 0))), (q_knownPlace, .inl (cI, 96, .inl (fun _ => 0))), (q_knownWorth, .inl (cI, 96, .inl (fun _ => 0))), (q_onceStore, .inl (cI, 30, .inl (fun _ => 0))), (q_mends, .inl (cI, 6, .inl (fun _ => 0))), (q_keptMends, .inl (cI, 6, .inl (fun _ => 0)))] := hV
    refine lv_iinc (v := 2) (lv' := [(9, .int 2), (8, .int 0), (7, .int 0), (6, .int 0), (5, .int 0), (4, .int (-1)), (3, .int 0), (2, .int 0), (0, .ref h), (1, .int x1)]) hx hb dX7_cheapest_195 hl (k := 0) rfl (by decide) (by decide) rfl (fun ls hl => ?_)
    refine lv_goto (tgt := 163) hx hb dX7_cheapest_198 (by decide) ?_
    refine lv_iload hx hb dX7_cheapest_163 (lv_at hl 0 rfl) ?_
    refine lv_bipush (v := 6) hx hb dX7_cheapest_165 (by decide) ?_
    refine lv_icmp_ge (tgt := 201) hx hb dX7_cheapest_167 (by decide) (fun c_ => absurd c_ (by decide)) (fun c_ => ?_)
    refine lv_aload_n hx hb dX7_cheapest_170 rfl (lv_at hl 8 rfl) ?_
    refine x_get (v := .ref q_mends) hB hV 0 rfl rfl 5 (by decide) k_750 h5 dX7_cheapest_171 ?_
    refine lv_iload hx hb dX7_cheapest_174 (lv_at hl 0 rfl) ?_
    refine lv_aload_n hx hb dX7_cheapest_176 rfl (lv_at hl 8 rfl) ?_
    refine x_get (v := .ref q_keptMends) hB hV 0 rfl rfl 66 (by decide) k_811 h66 dX7_cheapest_177 ?_
    refine lv_iload hx hb dX7_cheapest_180 (lv_at hl 0 rfl) ?_
    refine x_iald (v := 0) hB hV 17 rfl (by unfold vp_in; decide) rfl dX7_cheapest_182 ?_
    refine lv_iload hx hb dX7_cheapest_183 (lv_at hl 2 rfl) ?_
    refine lv_iconst (v := 4) hx hb dX7_cheapest_185 (by decide) ?_
    refine lv_iload hx hb dX7_cheapest_186 (lv_at hl 0 rfl) ?_
    refine lv_imul hx hb dX7_cheapest_188 ?_
    refine x_ev (y := 8) (by decide) ?_
    refine lv_ishr hx hb dX7_cheapest_189 ?_
    refine x_ev (y := 0) (by decide) ?_
    refine lv_bipush (v := 15) hx hb dX7_cheapest_190 (by decide) ?_
    refine lv_iand hx hb dX7_cheapest_192 ?_
    refine x_ev (y := 0) (by decide) ?_
    refine lv_ior hx hb dX7_cheapest_193 ?_
    refine x_ev (y := 0) (by decide) ?_
    refine x_iast (g := (fun _ => 0)) hB hV 16 rfl (by unfold vp_in; decide) upd00 dX7_cheapest_194 (fun H locs hV => ?_)
    have hV : Vx D A s.heap H locs [(h, .inr (7, fs)), (q_tick, .inl (cI, 2, .inl (fun _ => 0))), (q_count, .inl (cI, 12, .inl (fun _ => 0))), (q_kept, .inl (cI, 12, .inl (fun _ => 0))), (q_isKnown, .inl (cZ, 12, .inl (fun _ => 0))), (q_knownX, .inl (cI, 12, .inl (fun _ => 0))), (q_knownKey, .inl (cI, 12, .inl (fun _ => 0))), (q_store, .inl (cI, 48, .inl (fun _ => 0))), (q_key, .inl (cI, 192, .inl (fun _ => 0))), (q_keyX, .inl (cI, 192, .inl (fun _ => 0))), (q_keyAnswer, .inl (cI, 192, .inl (fun _ => 0))), (q_keyTick, .inl (cI, 192, .inl (fun _ => 0))), (q_knownWord, .inl (cI, 96, .inl (fun _ => 0))), (q_knownPlace, .inl (cI, 96, .inl (fun _ => 0))), (q_knownWorth, .inl (cI, 96, .inl (fun _ => 0))), (q_onceStore, .inl (cI, 30, .inl (fun _ => 0))), (q_mends, .inl (cI, 6, .inl (fun _ => 0))), (q_keptMends, .inl (cI, 6, .inl (fun _ => 0)))] := hV
    refine lv_iinc (v := 3) (lv' := [(9, .int 3), (8, .int 0), (7, .int 0), (6, .int 0), (5, .int 0), (4, .int (-1)), (3, .int 0), (2, .int 0), (0, .ref h), (1, .int x1)]) hx hb dX7_cheapest_195 hl (k := 0) rfl (by decide) (by decide) rfl (fun ls hl => ?_)
    refine lv_goto (tgt := 163) hx hb dX7_cheapest_198 (by decide) ?_
    refine lv_iload hx hb dX7_cheapest_163 (lv_at hl 0 rfl) ?_
    refine lv_bipush (v := 6) hx hb dX7_cheapest_165 (by decide) ?_
    refine lv_icmp_ge (tgt := 201) hx hb dX7_cheapest_167 (by decide) (fun c_ => absurd c_ (by decide)) (fun c_ => ?_)
    refine lv_aload_n hx hb dX7_cheapest_170 rfl (lv_at hl 8 rfl) ?_
    refine x_get (v := .ref q_mends) hB hV 0 rfl rfl 5 (by decide) k_750 h5 dX7_cheapest_171 ?_
    refine lv_iload hx hb dX7_cheapest_174 (lv_at hl 0 rfl) ?_
    refine lv_aload_n hx hb dX7_cheapest_176 rfl (lv_at hl 8 rfl) ?_
    refine x_get (v := .ref q_keptMends) hB hV 0 rfl rfl 66 (by decide) k_811 h66 dX7_cheapest_177 ?_
    refine lv_iload hx hb dX7_cheapest_180 (lv_at hl 0 rfl) ?_
    refine x_iald (v := 0) hB hV 17 rfl (by unfold vp_in; decide) rfl dX7_cheapest_182 ?_
    refine lv_iload hx hb dX7_cheapest_183 (lv_at hl 2 rfl) ?_
    refine lv_iconst (v := 4) hx hb dX7_cheapest_185 (by decide) ?_
    refine lv_iload hx hb dX7_cheapest_186 (lv_at hl 0 rfl) ?_
    refine lv_imul hx hb dX7_cheapest_188 ?_
    refine x_ev (y := 12) (by decide) ?_
    refine lv_ishr hx hb dX7_cheapest_189 ?_
    refine x_ev (y := 0) (by decide) ?_
    refine lv_bipush (v := 15) hx hb dX7_cheapest_190 (by decide) ?_
    refine lv_iand hx hb dX7_cheapest_192 ?_
    refine x_ev (y := 0) (by decide) ?_
    refine lv_ior hx hb dX7_cheapest_193 ?_
    refine x_ev (y := 0) (by decide) ?_
    refine x_iast (g := (fun _ => 0)) hB hV 16 rfl (by unfold vp_in; decide) upd00 dX7_cheapest_194 (fun H locs hV => ?_)
    have hV : Vx D A s.heap H locs [(h, .inr (7, fs)), (q_tick, .inl (cI, 2, .inl (fun _ => 0))), (q_count, .inl (cI, 12, .inl (fun _ => 0))), (q_kept, .inl (cI, 12, .inl (fun _ => 0))), (q_isKnown, .inl (cZ, 12, .inl (fun _ => 0))), (q_knownX, .inl (cI, 12, .inl (fun _ => 0))), (q_knownKey, .inl (cI, 12, .inl (fun _ => 0))), (q_store, .inl (cI, 48, .inl (fun _ => 0))), (q_key, .inl (cI, 192, .inl (fun _ => 0))), (q_keyX, .inl (cI, 192, .inl (fun _ => 0))), (q_keyAnswer, .inl (cI, 192, .inl (fun _ => 0))), (q_keyTick, .inl (cI, 192, .inl (fun _ => 0))), (q_knownWord, .inl (cI, 96, .inl (fun _ => 0))), (q_knownPlace, .inl (cI, 96, .inl (fun _ => 0))), (q_knownWorth, .inl (cI, 96, .inl (fun _ => 0))), (q_onceStore, .inl (cI, 30, .inl (fun _ => 0))), (q_mends, .inl (cI, 6, .inl (fun _ => 0))), (q_keptMends, .inl (cI, 6, .inl (fun _ => 0)))] := hV
    refine lv_iinc (v := 4) (lv' := [(9, .int 4), (8, .int 0), (7, .int 0), (6, .int 0), (5, .int 0), (4, .int (-1)), (3, .int 0), (2, .int 0), (0, .ref h), (1, .int x1)]) hx hb dX7_cheapest_195 hl (k := 0) rfl (by decide) (by decide) rfl (fun ls hl => ?_)
    refine lv_goto (tgt := 163) hx hb dX7_cheapest_198 (by decide) ?_
    refine lv_iload hx hb dX7_cheapest_163 (lv_at hl 0 rfl) ?_
    refine lv_bipush (v := 6) hx hb dX7_cheapest_165 (by decide) ?_
    refine lv_icmp_ge (tgt := 201) hx hb dX7_cheapest_167 (by decide) (fun c_ => absurd c_ (by decide)) (fun c_ => ?_)
    refine lv_aload_n hx hb dX7_cheapest_170 rfl (lv_at hl 8 rfl) ?_
    refine x_get (v := .ref q_mends) hB hV 0 rfl rfl 5 (by decide) k_750 h5 dX7_cheapest_171 ?_
    refine lv_iload hx hb dX7_cheapest_174 (lv_at hl 0 rfl) ?_
    refine lv_aload_n hx hb dX7_cheapest_176 rfl (lv_at hl 8 rfl) ?_
    refine x_get (v := .ref q_keptMends) hB hV 0 rfl rfl 66 (by decide) k_811 h66 dX7_cheapest_177 ?_
    refine lv_iload hx hb dX7_cheapest_180 (lv_at hl 0 rfl) ?_
    refine x_iald (v := 0) hB hV 17 rfl (by unfold vp_in; decide) rfl dX7_cheapest_182 ?_
    refine lv_iload hx hb dX7_cheapest_183 (lv_at hl 2 rfl) ?_
    refine lv_iconst (v := 4) hx hb dX7_cheapest_185 (by decide) ?_
    refine lv_iload hx hb dX7_cheapest_186 (lv_at hl 0 rfl) ?_
    refine lv_imul hx hb dX7_cheapest_188 ?_
    refine x_ev (y := 16) (by decide) ?_
    refine lv_ishr hx hb dX7_cheapest_189 ?_
    refine x_ev (y := 0) (by decide) ?_
    refine lv_bipush (v := 15) hx hb dX7_cheapest_190 (by decide) ?_
    refine lv_iand hx hb dX7_cheapest_192 ?_
    refine x_ev (y := 0) (by decide) ?_
    refine lv_ior hx hb dX7_cheapest_193 ?_
    refine x_ev (y := 0) (by decide) ?_
    refine x_iast (g := (fun _ => 0)) hB hV 16 rfl (by unfold vp_in; decide) upd00 dX7_cheapest_194 (fun H locs hV => ?_)
    have hV : Vx D A s.heap H locs [(h, .inr (7, fs)), (q_tick, .inl (cI, 2, .inl (fun _ => 0))), (q_count, .inl (cI, 12, .inl (fun _ => 0))), (q_kept, .inl (cI, 12, .inl (fun _ => 0))), (q_isKnown, .inl (cZ, 12, .inl (fun _ => 0))), (q_knownX, .inl (cI, 12, .inl (fun _ => 0))), (q_knownKey, .inl (cI, 12, .inl (fun _ => 0))), (q_store, .inl (cI, 48, .inl (fun _ => 0))), (q_key, .inl (cI, 192, .inl (fun _ => 0))), (q_keyX, .inl (cI, 192, .inl (fun _ => 0))), (q_keyAnswer, .inl (cI, 192, .inl (fun _ => 0))), (q_keyTick, .inl (cI, 192, .inl (fun _ => 0))), (q_knownWord, .inl (cI, 96, .inl (fun _ => 0))), (q_knownPlace, .inl (cI, 96, .inl (fun _ => 0))), (q_knownWorth, .inl (cI, 96, .inl (fun _ => 0))), (q_onceStore, .inl (cI, 30, .inl (fun _ => 0))), (q_mends, .inl (cI, 6, .inl (fun _ => 0))), (q_keptMends, .inl (cI, 6, .inl (fun _ => 0)))] := hV
    refine lv_iinc (v := 5) (lv' := [(9, .int 5), (8, .int 0), (7, .int 0), (6, .int 0), (5, .int 0), (4, .int (-1)), (3, .int 0), (2, .int 0), (0, .ref h), (1, .int x1)]) hx hb dX7_cheapest_195 hl (k := 0) rfl (by decide) (by decide) rfl (fun ls hl => ?_)
    refine lv_goto (tgt := 163) hx hb dX7_cheapest_198 (by decide) ?_
    refine lv_iload hx hb dX7_cheapest_163 (lv_at hl 0 rfl) ?_
    refine lv_bipush (v := 6) hx hb dX7_cheapest_165 (by decide) ?_
    refine lv_icmp_ge (tgt := 201) hx hb dX7_cheapest_167 (by decide) (fun c_ => absurd c_ (by decide)) (fun c_ => ?_)
    refine lv_aload_n hx hb dX7_cheapest_170 rfl (lv_at hl 8 rfl) ?_
    refine x_get (v := .ref q_mends) hB hV 0 rfl rfl 5 (by decide) k_750 h5 dX7_cheapest_171 ?_
    refine lv_iload hx hb dX7_cheapest_174 (lv_at hl 0 rfl) ?_
    refine lv_aload_n hx hb dX7_cheapest_176 rfl (lv_at hl 8 rfl) ?_
    refine x_get (v := .ref q_keptMends) hB hV 0 rfl rfl 66 (by decide) k_811 h66 dX7_cheapest_177 ?_
    refine lv_iload hx hb dX7_cheapest_180 (lv_at hl 0 rfl) ?_
    refine x_iald (v := 0) hB hV 17 rfl (by unfold vp_in; decide) rfl dX7_cheapest_182 ?_
    refine lv_iload hx hb dX7_cheapest_183 (lv_at hl 2 rfl) ?_
    refine lv_iconst (v := 4) hx hb dX7_cheapest_185 (by decide) ?_
    refine lv_iload hx hb dX7_cheapest_186 (lv_at hl 0 rfl) ?_
    refine lv_imul hx hb dX7_cheapest_188 ?_
    refine x_ev (y := 20) (by decide) ?_
    refine lv_ishr hx hb dX7_cheapest_189 ?_
    refine x_ev (y := 0) (by decide) ?_
    refine lv_bipush (v := 15) hx hb dX7_cheapest_190 (by decide) ?_
    refine lv_iand hx hb dX7_cheapest_192 ?_
    refine x_ev (y := 0) (by decide) ?_
    refine lv_ior hx hb dX7_cheapest_193 ?_
    refine x_ev (y := 0) (by decide) ?_
    refine x_iast (g := (fun _ => 0)) hB hV 16 rfl (by unfold vp_in; decide) upd00 dX7_cheapest_194 (fun H locs hV => ?_)
    have hV : Vx D A s.heap H locs [(h, .inr (7, fs)), (q_tick, .inl (cI, 2, .inl (fun _ => 0))), (q_count, .inl (cI, 12, .inl (fun _ => 0))), (q_kept, .inl (cI, 12, .inl (fun _ => 0))), (q_isKnown, .inl (cZ, 12, .inl (fun _ => 0))), (q_knownX, .inl (cI, 12, .inl (fun _ => 0))), (q_knownKey, .inl (cI, 12, .inl (fun _ => 0))), (q_store, .inl (cI, 48, .inl (fun _ => 0))), (q_key, .inl (cI, 192, .inl (fun _ => 0))), (q_keyX, .inl (cI, 192, .inl (fun _ => 0))), (q_keyAnswer, .inl (cI, 192, .inl (fun _ => 0))), (q_keyTick, .inl (cI, 192, .inl (fun _ => 0))), (q_knownWord, .inl (cI, 96, .inl (fun _ => 0))), (q_knownPlace, .inl (cI, 96, .inl (fun _ => 0))), (q_knownWorth, .inl (cI, 96, .inl (fun _ => 0))), (q_onceStore, .inl (cI, 30, .inl (fun _ => 0))), (q_mends, .inl (cI, 6, .inl (fun _ => 0))), (q_keptMends, .inl (cI, 6, .inl (fun _ => 0)))] := hV
    refine lv_iinc (v := 6) (lv' := [(9, .int 6), (8, .int 0), (7, .int 0), (6, .int 0), (5, .int 0), (4, .int (-1)), (3, .int 0), (2, .int 0), (0, .ref h), (1, .int x1)]) hx hb dX7_cheapest_195 hl (k := 0) rfl (by decide) (by decide) rfl (fun ls hl => ?_)
    refine lv_goto (tgt := 163) hx hb dX7_cheapest_198 (by decide) ?_
    refine lv_iload hx hb dX7_cheapest_163 (lv_at hl 0 rfl) ?_
    refine lv_bipush (v := 6) hx hb dX7_cheapest_165 (by decide) ?_
    refine lv_icmp_ge (tgt := 201) hx hb dX7_cheapest_167 (by decide) (fun c_ => ?_) (fun c_ => absurd (by decide) c_)
    refine lv_aload_n hx hb dX7_cheapest_201 rfl (lv_at hl 8 rfl) ?_
    refine x_callV (n := 0) (wr := [(q_mends, .inl (cI, 6, .inl (fun _ => 0))), (q_keptMends, .inl (cI, 6, .inl (fun _ => 0)))]) (q0 := 0) (As := []) (rest := []) hB hV (x_N hB) hl.1 (c_worstOf l D cI cZ cS N0 h fs q_tick q_count q_kept q_isKnown q_knownX q_knownKey q_store q_key q_keyX q_keyAnswer q_keyTick q_knownWord q_knownPlace q_knownWorth q_onceStore h21 h52 h30 h60 h14 h8 h9 h20 h15 h16 h7 h10 h11 h12 h13 h17 h18 h19 h57) rfl rfl k_1123 k_65 k_1120 k_1122 k_48 (by decide +kernel) ⟨(Nat.le_of_ble_eq_true rfl), (Nat.le_of_ble_eq_true rfl)⟩ rfl (Nat.le_of_ble_eq_true rfl) ⟨(Nat.le_of_ble_eq_true rfl), (Nat.le_of_ble_eq_true rfl)⟩ [0, 1, 2, 3, 4, 5, 6, 7, 8, 9, 10, 11, 12, 13, 14, 15] [16, 17] rfl rfl rfl ⟨by decide, by decide, by decide⟩ dX7_cheapest_202 (fun v w H locs hp hV => ?_)
    obtain ⟨rfl, rfl⟩ := hp
    have hV : Vx D A s.heap H locs [(q_mends, .inl (cI, 6, .inl (fun _ => 0))), (q_keptMends, .inl (cI, 6, .inl (fun _ => 0))), (h, .inr (7, ((((fs.set 21 (.int 1)).set 52 (.int 0)).set 60 (.int 0)).set 21 (.int 0)))), (q_tick, .inl (cI, 2, .inl (fun _ => 0))), (q_count, .inl (cI, 12, .inl (fun _ => 0))), (q_kept, .inl (cI, 12, .inl (fun _ => 0))), (q_isKnown, .inl (cZ, 12, .inl (fun _ => 0))), (q_knownX, .inl (cI, 12, .inl (fun _ => 0))), (q_knownKey, .inl (cI, 12, .inl (fun _ => 0))), (q_store, .inl (cI, 48, .inl (fun _ => 0))), (q_key, .inl (cI, 192, .inl (fun _ => 0))), (q_keyX, .inl (cI, 192, .inl (fun _ => 0))), (q_keyAnswer, .inl (cI, 192, .inl (fun _ => 0))), (q_keyTick, .inl (cI, 192, .inl (fun _ => 0))), (q_knownWord, .inl (cI, 96, .inl (fun _ => 0))), (q_knownPlace, .inl (cI, 96, .inl (fun _ => 0))), (q_knownWorth, .inl (cI, 96, .inl (fun _ => 0))), (q_onceStore, .inl (cI, 30, .inl (fun _ => 0)))] := hV
    refine W.eq (g2 := F0 m 205 ls [.int (-1)]) rfl ?_
    refine lv_iconst (v := (-1)) hx hb dX7_cheapest_205 (by decide) ?_
    refine lv_icmp_ne (tgt := 217) hx hb dX7_cheapest_206 (by decide) (fun c_ => absurd (by decide) c_) (fun c_ => ?_)
    refine lv_iload hx hb dX7_cheapest_209 (lv_at hl 2 rfl) ?_
    refine lv_istore (lv' := [(4, .int 0), (9, .int 6), (8, .int 0), (7, .int 0), (6, .int 0), (5, .int 0), (3, .int 0), (2, .int 0), (0, .ref h), (1, .int x1)]) hx hb dX7_cheapest_211 hl (by decide) rfl (fun ls hl => ?_)
    refine lv_iload hx hb dX7_cheapest_213 (lv_at hl 2 rfl) ?_
    refine lv_istore (lv' := [(5, .int 0), (4, .int 0), (9, .int 6), (8, .int 0), (7, .int 0), (6, .int 0), (3, .int 0), (2, .int 0), (0, .ref h), (1, .int x1)]) hx hb dX7_cheapest_215 hl (by decide) rfl (fun ls hl => ?_)
    refine lv_iinc (v := 1) (lv' := [(6, .int 1), (5, .int 0), (4, .int 0), (9, .int 6), (8, .int 0), (7, .int 0), (3, .int 0), (2, .int 0), (0, .ref h), (1, .int x1)]) hx hb dX7_cheapest_217 hl (k := 5) rfl (by decide) (by decide) rfl (fun ls hl => ?_)
    refine lv_goto (tgt := 79) hx hb dX7_cheapest_220 (by decide) ?_
    refine lv_iload hx hb dX7_cheapest_79 (lv_at hl 0 rfl) ?_
    refine lv_bipush (v := 16) hx hb dX7_cheapest_81 (by decide) ?_
    refine lv_iload_n hx hb dX7_cheapest_83 rfl (lv_at hl 6 rfl) ?_
    refine x_callS (n := 2) (wr := [(q_mends, .inl (cI, 6, .inl (fun _ => 0))), (q_keptMends, .inl (cI, 6, .inl (fun _ => 0))), (h, .inr (7, ((((fs.set 21 (.int 1)).set 52 (.int 0)).set 60 (.int 0)).set 21 (.int 0)))), (q_tick, .inl (cI, 2, .inl (fun _ => 0))), (q_count, .inl (cI, 12, .inl (fun _ => 0))), (q_kept, .inl (cI, 12, .inl (fun _ => 0))), (q_isKnown, .inl (cZ, 12, .inl (fun _ => 0))), (q_knownX, .inl (cI, 12, .inl (fun _ => 0))), (q_knownKey, .inl (cI, 12, .inl (fun _ => 0))), (q_store, .inl (cI, 48, .inl (fun _ => 0))), (q_key, .inl (cI, 192, .inl (fun _ => 0))), (q_keyX, .inl (cI, 192, .inl (fun _ => 0))), (q_keyAnswer, .inl (cI, 192, .inl (fun _ => 0))), (q_keyTick, .inl (cI, 192, .inl (fun _ => 0))), (q_knownWord, .inl (cI, 96, .inl (fun _ => 0))), (q_knownPlace, .inl (cI, 96, .inl (fun _ => 0))), (q_knownWorth, .inl (cI, 96, .inl (fun _ => 0))), (q_onceStore, .inl (cI, 30, .inl (fun _ => 0)))]) (As := [.int 16, .int 0]) (rest := [.int 1]) hB hV (x_N hB) hl.1 (c_power l D cI cZ cS N0  ) k_1134 k_65 k_1132 k_1133 (by decide +kernel) ⟨(Nat.le_of_ble_eq_true rfl), (Nat.le_of_ble_eq_true rfl)⟩ rfl (Nat.le_of_ble_eq_true rfl) ⟨(Nat.le_of_ble_eq_true rfl), (Nat.le_of_ble_eq_true rfl)⟩ [] [0, 1, 2, 3, 4, 5, 6, 7, 8, 9, 10, 11, 12, 13, 14, 15, 16, 17] rfl rfl rfl ⟨by decide, by decide, by decide⟩ dX7_cheapest_84 (fun v w H locs hp hV => ?_)
    obtain ⟨rfl, rfl⟩ := hp
    have hV : Vx D A s.heap H locs [(q_mends, .inl (cI, 6, .inl (fun _ => 0))), (q_keptMends, .inl (cI, 6, .inl (fun _ => 0))), (h, .inr (7, ((((fs.set 21 (.int 1)).set 52 (.int 0)).set 60 (.int 0)).set 21 (.int 0)))), (q_tick, .inl (cI, 2, .inl (fun _ => 0))), (q_count, .inl (cI, 12, .inl (fun _ => 0))), (q_kept, .inl (cI, 12, .inl (fun _ => 0))), (q_isKnown, .inl (cZ, 12, .inl (fun _ => 0))), (q_knownX, .inl (cI, 12, .inl (fun _ => 0))), (q_knownKey, .inl (cI, 12, .inl (fun _ => 0))), (q_store, .inl (cI, 48, .inl (fun _ => 0))), (q_key, .inl (cI, 192, .inl (fun _ => 0))), (q_keyX, .inl (cI, 192, .inl (fun _ => 0))), (q_keyAnswer, .inl (cI, 192, .inl (fun _ => 0))), (q_keyTick, .inl (cI, 192, .inl (fun _ => 0))), (q_knownWord, .inl (cI, 96, .inl (fun _ => 0))), (q_knownPlace, .inl (cI, 96, .inl (fun _ => 0))), (q_knownWorth, .inl (cI, 96, .inl (fun _ => 0))), (q_onceStore, .inl (cI, 30, .inl (fun _ => 0)))] := hV
    refine W.eq (g2 := F0 m 87 ls [.int 1, .int 1]) rfl ?_
    refine lv_icmp_ge (tgt := 223) hx hb dX7_cheapest_87 (by decide) (fun c_ => ?_) (fun c_ => absurd (by decide) c_)
    refine lv_iconst (v := 0) hx hb dX7_cheapest_223 (by decide) ?_
    refine lv_istore (lv' := [(6, .int 0), (5, .int 0), (4, .int 0), (9, .int 6), (8, .int 0), (7, .int 0), (3, .int 0), (2, .int 0), (0, .ref h), (1, .int x1)]) hx hb dX7_cheapest_224 hl (by decide) rfl (fun ls hl => ?_)
    refine lv_iload hx hb dX7_cheapest_226 (lv_at hl 0 rfl) ?_
    refine lv_bipush (v := 6) hx hb dX7_cheapest_228 (by decide) ?_
    refine lv_icmp_ge (tgt := 253) hx hb dX7_cheapest_230 (by decide) (fun c_ => absurd c_ (by decide)) (fun c_ => ?_)
    refine lv_aload_n hx hb dX7_cheapest_233 rfl (lv_at hl 8 rfl) ?_
    refine x_get (v := .ref q_mends) hB hV 2 rfl rfl 5 (by decide) k_750 (fs_ne (fs_ne (fs_ne (fs_ne h5 (by decide)) (by decide)) (by decide)) (by decide)) dX7_cheapest_234 ?_
    refine lv_iload hx hb dX7_cheapest_237 (lv_at hl 0 rfl) ?_
    refine lv_aload_n hx hb dX7_cheapest_239 rfl (lv_at hl 8 rfl) ?_
    refine x_get (v := .ref q_keptMends) hB hV 2 rfl rfl 66 (by decide) k_811 (fs_ne (fs_ne (fs_ne (fs_ne h66 (by decide)) (by decide)) (by decide)) (by decide)) dX7_cheapest_240 ?_
    refine lv_iload hx hb dX7_cheapest_243 (lv_at hl 0 rfl) ?_
    refine x_iald (v := 0) hB hV 1 rfl (by unfold vp_in; decide) rfl dX7_cheapest_245 ?_
    refine x_iast (g := (fun _ => 0)) hB hV 0 rfl (by unfold vp_in; decide) upd00 dX7_cheapest_246 (fun H locs hV => ?_)
    have hV : Vx D A s.heap H locs [(q_mends, .inl (cI, 6, .inl (fun _ => 0))), (q_keptMends, .inl (cI, 6, .inl (fun _ => 0))), (h, .inr (7, ((((fs.set 21 (.int 1)).set 52 (.int 0)).set 60 (.int 0)).set 21 (.int 0)))), (q_tick, .inl (cI, 2, .inl (fun _ => 0))), (q_count, .inl (cI, 12, .inl (fun _ => 0))), (q_kept, .inl (cI, 12, .inl (fun _ => 0))), (q_isKnown, .inl (cZ, 12, .inl (fun _ => 0))), (q_knownX, .inl (cI, 12, .inl (fun _ => 0))), (q_knownKey, .inl (cI, 12, .inl (fun _ => 0))), (q_store, .inl (cI, 48, .inl (fun _ => 0))), (q_key, .inl (cI, 192, .inl (fun _ => 0))), (q_keyX, .inl (cI, 192, .inl (fun _ => 0))), (q_keyAnswer, .inl (cI, 192, .inl (fun _ => 0))), (q_keyTick, .inl (cI, 192, .inl (fun _ => 0))), (q_knownWord, .inl (cI, 96, .inl (fun _ => 0))), (q_knownPlace, .inl (cI, 96, .inl (fun _ => 0))), (q_knownWorth, .inl (cI, 96, .inl (fun _ => 0))), (q_onceStore, .inl (cI, 30, .inl (fun _ => 0)))] := hV
    refine lv_iinc (v := 1) (lv' := [(6, .int 1), (5, .int 0), (4, .int 0), (9, .int 6), (8, .int 0), (7, .int 0), (3, .int 0), (2, .int 0), (0, .ref h), (1, .int x1)]) hx hb dX7_cheapest_247 hl (k := 0) rfl (by decide) (by decide) rfl (fun ls hl => ?_)
    refine lv_goto (tgt := 226) hx hb dX7_cheapest_250 (by decide) ?_
    refine lv_iload hx hb dX7_cheapest_226 (lv_at hl 0 rfl) ?_
    refine lv_bipush (v := 6) hx hb dX7_cheapest_228 (by decide) ?_
    refine lv_icmp_ge (tgt := 253) hx hb dX7_cheapest_230 (by decide) (fun c_ => absurd c_ (by decide)) (fun c_ => ?_)
    refine lv_aload_n hx hb dX7_cheapest_233 rfl (lv_at hl 8 rfl) ?_
    refine x_get (v := .ref q_mends) hB hV 2 rfl rfl 5 (by decide) k_750 (fs_ne (fs_ne (fs_ne (fs_ne h5 (by decide)) (by decide)) (by decide)) (by decide)) dX7_cheapest_234 ?_
    refine lv_iload hx hb dX7_cheapest_237 (lv_at hl 0 rfl) ?_
    refine lv_aload_n hx hb dX7_cheapest_239 rfl (lv_at hl 8 rfl) ?_
    refine x_get (v := .ref q_keptMends) hB hV 2 rfl rfl 66 (by decide) k_811 (fs_ne (fs_ne (fs_ne (fs_ne h66 (by decide)) (by decide)) (by decide)) (by decide)) dX7_cheapest_240 ?_
    refine lv_iload hx hb dX7_cheapest_243 (lv_at hl 0 rfl) ?_
    refine x_iald (v := 0) hB hV 1 rfl (by unfold vp_in; decide) rfl dX7_cheapest_245 ?_
    refine x_iast (g := (fun _ => 0)) hB hV 0 rfl (by unfold vp_in; decide) upd00 dX7_cheapest_246 (fun H locs hV => ?_)
    have hV : Vx D A s.heap H locs [(q_mends, .inl (cI, 6, .inl (fun _ => 0))), (q_keptMends, .inl (cI, 6, .inl (fun _ => 0))), (h, .inr (7, ((((fs.set 21 (.int 1)).set 52 (.int 0)).set 60 (.int 0)).set 21 (.int 0)))), (q_tick, .inl (cI, 2, .inl (fun _ => 0))), (q_count, .inl (cI, 12, .inl (fun _ => 0))), (q_kept, .inl (cI, 12, .inl (fun _ => 0))), (q_isKnown, .inl (cZ, 12, .inl (fun _ => 0))), (q_knownX, .inl (cI, 12, .inl (fun _ => 0))), (q_knownKey, .inl (cI, 12, .inl (fun _ => 0))), (q_store, .inl (cI, 48, .inl (fun _ => 0))), (q_key, .inl (cI, 192, .inl (fun _ => 0))), (q_keyX, .inl (cI, 192, .inl (fun _ => 0))), (q_keyAnswer, .inl (cI, 192, .inl (fun _ => 0))), (q_keyTick, .inl (cI, 192, .inl (fun _ => 0))), (q_knownWord, .inl (cI, 96, .inl (fun _ => 0))), (q_knownPlace, .inl (cI, 96, .inl (fun _ => 0))), (q_knownWorth, .inl (cI, 96, .inl (fun _ => 0))), (q_onceStore, .inl (cI, 30, .inl (fun _ => 0)))] := hV
    refine lv_iinc (v := 2) (lv' := [(6, .int 2), (5, .int 0), (4, .int 0), (9, .int 6), (8, .int 0), (7, .int 0), (3, .int 0), (2, .int 0), (0, .ref h), (1, .int x1)]) hx hb dX7_cheapest_247 hl (k := 0) rfl (by decide) (by decide) rfl (fun ls hl => ?_)
    refine lv_goto (tgt := 226) hx hb dX7_cheapest_250 (by decide) ?_
    refine lv_iload hx hb dX7_cheapest_226 (lv_at hl 0 rfl) ?_
    refine lv_bipush (v := 6) hx hb dX7_cheapest_228 (by decide) ?_
    refine lv_icmp_ge (tgt := 253) hx hb dX7_cheapest_230 (by decide) (fun c_ => absurd c_ (by decide)) (fun c_ => ?_)
    refine lv_aload_n hx hb dX7_cheapest_233 rfl (lv_at hl 8 rfl) ?_
    refine x_get (v := .ref q_mends) hB hV 2 rfl rfl 5 (by decide) k_750 (fs_ne (fs_ne (fs_ne (fs_ne h5 (by decide)) (by decide)) (by decide)) (by decide)) dX7_cheapest_234 ?_
    refine lv_iload hx hb dX7_cheapest_237 (lv_at hl 0 rfl) ?_
    refine lv_aload_n hx hb dX7_cheapest_239 rfl (lv_at hl 8 rfl) ?_
    refine x_get (v := .ref q_keptMends) hB hV 2 rfl rfl 66 (by decide) k_811 (fs_ne (fs_ne (fs_ne (fs_ne h66 (by decide)) (by decide)) (by decide)) (by decide)) dX7_cheapest_240 ?_
    refine lv_iload hx hb dX7_cheapest_243 (lv_at hl 0 rfl) ?_
    refine x_iald (v := 0) hB hV 1 rfl (by unfold vp_in; decide) rfl dX7_cheapest_245 ?_
    refine x_iast (g := (fun _ => 0)) hB hV 0 rfl (by unfold vp_in; decide) upd00 dX7_cheapest_246 (fun H locs hV => ?_)
    have hV : Vx D A s.heap H locs [(q_mends, .inl (cI, 6, .inl (fun _ => 0))), (q_keptMends, .inl (cI, 6, .inl (fun _ => 0))), (h, .inr (7, ((((fs.set 21 (.int 1)).set 52 (.int 0)).set 60 (.int 0)).set 21 (.int 0)))), (q_tick, .inl (cI, 2, .inl (fun _ => 0))), (q_count, .inl (cI, 12, .inl (fun _ => 0))), (q_kept, .inl (cI, 12, .inl (fun _ => 0))), (q_isKnown, .inl (cZ, 12, .inl (fun _ => 0))), (q_knownX, .inl (cI, 12, .inl (fun _ => 0))), (q_knownKey, .inl (cI, 12, .inl (fun _ => 0))), (q_store, .inl (cI, 48, .inl (fun _ => 0))), (q_key, .inl (cI, 192, .inl (fun _ => 0))), (q_keyX, .inl (cI, 192, .inl (fun _ => 0))), (q_keyAnswer, .inl (cI, 192, .inl (fun _ => 0))), (q_keyTick, .inl (cI, 192, .inl (fun _ => 0))), (q_knownWord, .inl (cI, 96, .inl (fun _ => 0))), (q_knownPlace, .inl (cI, 96, .inl (fun _ => 0))), (q_knownWorth, .inl (cI, 96, .inl (fun _ => 0))), (q_onceStore, .inl (cI, 30, .inl (fun _ => 0)))] := hV
    refine lv_iinc (v := 3) (lv' := [(6, .int 3), (5, .int 0), (4, .int 0), (9, .int 6), (8, .int 0), (7, .int 0), (3, .int 0), (2, .int 0), (0, .ref h), (1, .int x1)]) hx hb dX7_cheapest_247 hl (k := 0) rfl (by decide) (by decide) rfl (fun ls hl => ?_)
    refine lv_goto (tgt := 226) hx hb dX7_cheapest_250 (by decide) ?_
    refine lv_iload hx hb dX7_cheapest_226 (lv_at hl 0 rfl) ?_
    refine lv_bipush (v := 6) hx hb dX7_cheapest_228 (by decide) ?_
    refine lv_icmp_ge (tgt := 253) hx hb dX7_cheapest_230 (by decide) (fun c_ => absurd c_ (by decide)) (fun c_ => ?_)
    refine lv_aload_n hx hb dX7_cheapest_233 rfl (lv_at hl 8 rfl) ?_
    refine x_get (v := .ref q_mends) hB hV 2 rfl rfl 5 (by decide) k_750 (fs_ne (fs_ne (fs_ne (fs_ne h5 (by decide)) (by decide)) (by decide)) (by decide)) dX7_cheapest_234 ?_
    refine lv_iload hx hb dX7_cheapest_237 (lv_at hl 0 rfl) ?_
    refine lv_aload_n hx hb dX7_cheapest_239 rfl (lv_at hl 8 rfl) ?_
    refine x_get (v := .ref q_keptMends) hB hV 2 rfl rfl 66 (by decide) k_811 (fs_ne (fs_ne (fs_ne (fs_ne h66 (by decide)) (by decide)) (by decide)) (by decide)) dX7_cheapest_240 ?_
    refine lv_iload hx hb dX7_cheapest_243 (lv_at hl 0 rfl) ?_
    refine x_iald (v := 0) hB hV 1 rfl (by unfold vp_in; decide) rfl dX7_cheapest_245 ?_
    refine x_iast (g := (fun _ => 0)) hB hV 0 rfl (by unfold vp_in; decide) upd00 dX7_cheapest_246 (fun H locs hV => ?_)
    have hV : Vx D A s.heap H locs [(q_mends, .inl (cI, 6, .inl (fun _ => 0))), (q_keptMends, .inl (cI, 6, .inl (fun _ => 0))), (h, .inr (7, ((((fs.set 21 (.int 1)).set 52 (.int 0)).set 60 (.int 0)).set 21 (.int 0)))), (q_tick, .inl (cI, 2, .inl (fun _ => 0))), (q_count, .inl (cI, 12, .inl (fun _ => 0))), (q_kept, .inl (cI, 12, .inl (fun _ => 0))), (q_isKnown, .inl (cZ, 12, .inl (fun _ => 0))), (q_knownX, .inl (cI, 12, .inl (fun _ => 0))), (q_knownKey, .inl (cI, 12, .inl (fun _ => 0))), (q_store, .inl (cI, 48, .inl (fun _ => 0))), (q_key, .inl (cI, 192, .inl (fun _ => 0))), (q_keyX, .inl (cI, 192, .inl (fun _ => 0))), (q_keyAnswer, .inl (cI, 192, .inl (fun _ => 0))), (q_keyTick, .inl (cI, 192, .inl (fun _ => 0))), (q_knownWord, .inl (cI, 96, .inl (fun _ => 0))), (q_knownPlace, .inl (cI, 96, .inl (fun _ => 0))), (q_knownWorth, .inl (cI, 96, .inl (fun _ => 0))), (q_onceStore, .inl (cI, 30, .inl (fun _ => 0)))] := hV
    refine lv_iinc (v := 4) (lv' := [(6, .int 4), (5, .int 0), (4, .int 0), (9, .int 6), (8, .int 0), (7, .int 0), (3, .int 0), (2, .int 0), (0, .ref h), (1, .int x1)]) hx hb dX7_cheapest_247 hl (k := 0) rfl (by decide) (by decide) rfl (fun ls hl => ?_)
    refine lv_goto (tgt := 226) hx hb dX7_cheapest_250 (by decide) ?_
    refine lv_iload hx hb dX7_cheapest_226 (lv_at hl 0 rfl) ?_
    refine lv_bipush (v := 6) hx hb dX7_cheapest_228 (by decide) ?_
    refine lv_icmp_ge (tgt := 253) hx hb dX7_cheapest_230 (by decide) (fun c_ => absurd c_ (by decide)) (fun c_ => ?_)
    refine lv_aload_n hx hb dX7_cheapest_233 rfl (lv_at hl 8 rfl) ?_
    refine x_get (v := .ref q_mends) hB hV 2 rfl rfl 5 (by decide) k_750 (fs_ne (fs_ne (fs_ne (fs_ne h5 (by decide)) (by decide)) (by decide)) (by decide)) dX7_cheapest_234 ?_
    refine lv_iload hx hb dX7_cheapest_237 (lv_at hl 0 rfl) ?_
    refine lv_aload_n hx hb dX7_cheapest_239 rfl (lv_at hl 8 rfl) ?_
    refine x_get (v := .ref q_keptMends) hB hV 2 rfl rfl 66 (by decide) k_811 (fs_ne (fs_ne (fs_ne (fs_ne h66 (by decide)) (by decide)) (by decide)) (by decide)) dX7_cheapest_240 ?_
    refine lv_iload hx hb dX7_cheapest_243 (lv_at hl 0 rfl) ?_
    refine x_iald (v := 0) hB hV 1 rfl (by unfold vp_in; decide) rfl dX7_cheapest_245 ?_
    refine x_iast (g := (fun _ => 0)) hB hV 0 rfl (by unfold vp_in; decide) upd00 dX7_cheapest_246 (fun H locs hV => ?_)
    have hV : Vx D A s.heap H locs [(q_mends, .inl (cI, 6, .inl (fun _ => 0))), (q_keptMends, .inl (cI, 6, .inl (fun _ => 0))), (h, .inr (7, ((((fs.set 21 (.int 1)).set 52 (.int 0)).set 60 (.int 0)).set 21 (.int 0)))), (q_tick, .inl (cI, 2, .inl (fun _ => 0))), (q_count, .inl (cI, 12, .inl (fun _ => 0))), (q_kept, .inl (cI, 12, .inl (fun _ => 0))), (q_isKnown, .inl (cZ, 12, .inl (fun _ => 0))), (q_knownX, .inl (cI, 12, .inl (fun _ => 0))), (q_knownKey, .inl (cI, 12, .inl (fun _ => 0))), (q_store, .inl (cI, 48, .inl (fun _ => 0))), (q_key, .inl (cI, 192, .inl (fun _ => 0))), (q_keyX, .inl (cI, 192, .inl (fun _ => 0))), (q_keyAnswer, .inl (cI, 192, .inl (fun _ => 0))), (q_keyTick, .inl (cI, 192, .inl (fun _ => 0))), (q_knownWord, .inl (cI, 96, .inl (fun _ => 0))), (q_knownPlace, .inl (cI, 96, .inl (fun _ => 0))), (q_knownWorth, .inl (cI, 96, .inl (fun _ => 0))), (q_onceStore, .inl (cI, 30, .inl (fun _ => 0)))] := hV
    refine lv_iinc (v := 5) (lv' := [(6, .int 5), (5, .int 0), (4, .int 0), (9, .int 6), (8, .int 0), (7, .int 0), (3, .int 0), (2, .int 0), (0, .ref h), (1, .int x1)]) hx hb dX7_cheapest_247 hl (k := 0) rfl (by decide) (by decide) rfl (fun ls hl => ?_)
    refine lv_goto (tgt := 226) hx hb dX7_cheapest_250 (by decide) ?_
    refine lv_iload hx hb dX7_cheapest_226 (lv_at hl 0 rfl) ?_
    refine lv_bipush (v := 6) hx hb dX7_cheapest_228 (by decide) ?_
    refine lv_icmp_ge (tgt := 253) hx hb dX7_cheapest_230 (by decide) (fun c_ => absurd c_ (by decide)) (fun c_ => ?_)
    refine lv_aload_n hx hb dX7_cheapest_233 rfl (lv_at hl 8 rfl) ?_
    refine x_get (v := .ref q_mends) hB hV 2 rfl rfl 5 (by decide) k_750 (fs_ne (fs_ne (fs_ne (fs_ne h5 (by decide)) (by decide)) (by decide)) (by decide)) dX7_cheapest_234 ?_
    refine lv_iload hx hb dX7_cheapest_237 (lv_at hl 0 rfl) ?_
    refine lv_aload_n hx hb dX7_cheapest_239 rfl (lv_at hl 8 rfl) ?_
    refine x_get (v := .ref q_keptMends) hB hV 2 rfl rfl 66 (by decide) k_811 (fs_ne (fs_ne (fs_ne (fs_ne h66 (by decide)) (by decide)) (by decide)) (by decide)) dX7_cheapest_240 ?_
    refine lv_iload hx hb dX7_cheapest_243 (lv_at hl 0 rfl) ?_
    refine x_iald (v := 0) hB hV 1 rfl (by unfold vp_in; decide) rfl dX7_cheapest_245 ?_
    refine x_iast (g := (fun _ => 0)) hB hV 0 rfl (by unfold vp_in; decide) upd00 dX7_cheapest_246 (fun H locs hV => ?_)
    have hV : Vx D A s.heap H locs [(q_mends, .inl (cI, 6, .inl (fun _ => 0))), (q_keptMends, .inl (cI, 6, .inl (fun _ => 0))), (h, .inr (7, ((((fs.set 21 (.int 1)).set 52 (.int 0)).set 60 (.int 0)).set 21 (.int 0)))), (q_tick, .inl (cI, 2, .inl (fun _ => 0))), (q_count, .inl (cI, 12, .inl (fun _ => 0))), (q_kept, .inl (cI, 12, .inl (fun _ => 0))), (q_isKnown, .inl (cZ, 12, .inl (fun _ => 0))), (q_knownX, .inl (cI, 12, .inl (fun _ => 0))), (q_knownKey, .inl (cI, 12, .inl (fun _ => 0))), (q_store, .inl (cI, 48, .inl (fun _ => 0))), (q_key, .inl (cI, 192, .inl (fun _ => 0))), (q_keyX, .inl (cI, 192, .inl (fun _ => 0))), (q_keyAnswer, .inl (cI, 192, .inl (fun _ => 0))), (q_keyTick, .inl (cI, 192, .inl (fun _ => 0))), (q_knownWord, .inl (cI, 96, .inl (fun _ => 0))), (q_knownPlace, .inl (cI, 96, .inl (fun _ => 0))), (q_knownWorth, .inl (cI, 96, .inl (fun _ => 0))), (q_onceStore, .inl (cI, 30, .inl (fun _ => 0)))] := hV
    refine lv_iinc (v := 6) (lv' := [(6, .int 6), (5, .int 0), (4, .int 0), (9, .int 6), (8, .int 0), (7, .int 0), (3, .int 0), (2, .int 0), (0, .ref h), (1, .int x1)]) hx hb dX7_cheapest_247 hl (k := 0) rfl (by decide) (by decide) rfl (fun ls hl => ?_)
    refine lv_goto (tgt := 226) hx hb dX7_cheapest_250 (by decide) ?_
    refine lv_iload hx hb dX7_cheapest_226 (lv_at hl 0 rfl) ?_
    refine lv_bipush (v := 6) hx hb dX7_cheapest_228 (by decide) ?_
    refine lv_icmp_ge (tgt := 253) hx hb dX7_cheapest_230 (by decide) (fun c_ => ?_) (fun c_ => absurd (by decide) c_)
    refine lv_iload hx hb dX7_cheapest_253 (lv_at hl 2 rfl) ?_
    refine lv_iconst (v := (-1)) hx hb dX7_cheapest_255 (by decide) ?_
    refine lv_icmp_ne (tgt := 263) hx hb dX7_cheapest_256 (by decide) (fun c_ => ?_) (fun c_ => absurd c_ (by decide))
    refine lv_iload_n hx hb dX7_cheapest_263 rfl (lv_at hl 9 rfl) ?_
    refine lv_if_ne (tgt := 272) hx hb dX7_cheapest_264 (by decide) (fun c5 => ?_) (fun c5 => ?_)
    · refine lv_iload hx hb dX7_cheapest_272 (lv_at hl 2 rfl) ?_
      exact x_iret (w := []) hB hr hV hA (Nat.le_of_ble_eq_true rfl) (Nat.le_of_ble_eq_true rfl) [] rfl rfl (by decide) dX7_cheapest_274 ⟨0, rfl, rfl, (if_neg hw_3).symm⟩
    · refine lv_iload hx hb dX7_cheapest_267 (lv_at hl 1 rfl) ?_
      refine lv_goto (tgt := 274) hx hb dX7_cheapest_269 (by decide) ?_
      exact x_iret (w := []) hB hr hV hA (Nat.le_of_ble_eq_true rfl) (Nat.le_of_ble_eq_true rfl) [] rfl rfl (by decide) dX7_cheapest_274 ⟨0, rfl, rfl, (if_neg hw_3).symm⟩
  · refine W.eq (g2 := F0 m 6 ls [.int 0]) rfl ?_
    refine lv_if_ne (tgt := 11) hx hb dX7_cheapest_6 (by decide) (fun c_ => absurd (by decide) c_) (fun c_ => ?_)
    refine lv_iconst (v := (-1)) hx hb dX7_cheapest_9 (by decide) ?_
    exact x_iret (w := []) hB hr hV hA (Nat.le_of_ble_eq_true rfl) (Nat.le_of_ble_eq_true rfl) [] rfl rfl (by decide) dX7_cheapest_10 ⟨(-1), rfl, rfl, (if_pos hw_3).symm⟩
set_option maxHeartbeats 4000000 in
set_option maxRecDepth 100000 in
theorem lp_f1 {p : Program} {l : Launch} {e : Env} {R : Room} {s : State} {m : MethodId} {args : Array Value} {below : List Frame} {meth : Method} {c : Code} {D : va_G} {cI cZ cS : ClassId} {A : Nat → Prop} {N0 : NT} {cells slots : Nat} {Q : State → Prop} (hB : Bx p s m meth c args cX7_feed 5 RX7 D cI cZ cS A N0) (h : Nat) (fs : List Value) (q_tape : Nat) (w : Int64) (x3 : Int32) (tt : Nat) (h29 : fs[29]? = some (.int 0)) (h28 : fs[28]? = some (.ref q_tape)) (K : ∀ (f : Nat → Int32) (H : Heap) (locs : List Loc) (ls : Array Slot), Vx D A s.heap H locs [(h, .inr (7, (fs.set 29 (.int (nI tt))))), (q_tape, .inl (cI, 100, .inl f))] → lv_has ls 5 [(4, .int (-1)), (0, .ref h), (1, .long w), (3, .int x3)] → W p l e R s m args below meth c H locs cells slots Q (F0 m 74 ls [])) :
    ∀ (k : Nat) (t : Nat) (f : Nat → Int32) (H : Heap) (locs : List Loc) (ls : Array Slot), t + k = tt → tt ≤ 8 → Vx D A s.heap H locs [(h, .inr (7, (fs.set 29 (.int (nI t))))), (q_tape, .inl (cI, 100, .inl f))] → lv_has ls 5 [(4, .int (dn k)), (0, .ref h), (1, .long w), (3, .int x3)] → W p l e R s m args below meth c H locs cells slots Q (F0 m 32 ls []) := by
  have hx := hB.1
  have hb := hB.2.1
  intro k
  induction k with
  | zero =>
    intro t f H locs ls hT h8 hV hl
    obtain rfl : tt = t := by omega
    have hV : Vx D A s.heap H locs [(h, .inr (7, (fs.set 29 (.int (nI tt))))), (q_tape, .inl (cI, 100, .inl f))] := hV
    have hl : lv_has ls 5 [(4, .int (-1)), (0, .ref h), (1, .long w), (3, .int x3)] := hl
    refine lv_iload hx hb dX7_feed_32 (lv_at hl 0 rfl) ?_
    refine lv_if_lt (tgt := 74) hx hb dX7_feed_34 (by decide) (fun c_ => ?_) (fun c_ => absurd (by decide) c_)
    exact K f H locs ls hV (lv_sub hl [0, 1, 2, 3] rfl)
  | succ k ih =>
    intro t f H locs ls hT h8 hV hl
    have hV : Vx D A s.heap H locs [(h, .inr (7, (fs.set 29 (.int (nI t))))), (q_tape, .inl (cI, 100, .inl f))] := hV
    have hl : lv_has ls 5 [(4, .int (nI k)), (0, .ref h), (1, .long w), (3, .int x3)] := hl
    refine lv_iload hx hb dX7_feed_32 (lv_at hl 0 rfl) ?_
    refine lv_if_lt (tgt := 74) hx hb dX7_feed_34 (by decide) (fun c_ => absurd c_ (nI_pos (by omega))) (fun c_ => ?_)
    refine lv_aload_n hx hb dX7_feed_37 rfl (lv_at hl 1 rfl) ?_
    refine x_get (v := .ref q_tape) hB hV 0 rfl rfl 28 (by decide) k_773 (fs_ne h28 (by decide)) dX7_feed_38 ?_
    refine lv_aload_n hx hb dX7_feed_41 rfl (lv_at hl 1 rfl) ?_
    refine x_get (v := .int (nI t)) hB hV 0 rfl rfl 29 (by decide) k_774 (fs_eq ((fs_lt h29))) dX7_feed_42 ?_
    refine lv_lload_n hx hb dX7_feed_45 rfl (lv_at hl 2 rfl) ?_
    refine lv_bipush (v := 8) hx hb dX7_feed_46 (by decide) ?_
    refine lv_iload hx hb dX7_feed_48 (lv_at hl 0 rfl) ?_
    refine lv_imul hx hb dX7_feed_50 ?_
    refine lv_topi (fun z_1 ez_1 => ?_)
    refine lv_lshr hx hb dX7_feed_51 rfl ?_
    refine lv_topl (fun z_2 ez_2 => ?_)
    refine lv_ldc2 (v := 255) hx hb hB.2.2.2.1 (hB.2.2.2.2.1 _ k_955) dX7_feed_52 ?_
    refine lv_land hx hb dX7_feed_55 ?_
    refine lv_topl (fun z_3 ez_3 => ?_)
    refine lv_l2i hx hb dX7_feed_56 rfl ?_
    refine lv_topi (fun z_4 ez_4 => ?_)
    refine x_iast (g := (upd f (nI t).toNatClampNeg z_4)) hB hV 1 rfl (vp_in_nI (by omega) (by decide)) rfl dX7_feed_57 (fun H locs hV => ?_)
    have hV : Vx D A s.heap H locs [(h, .inr (7, (fs.set 29 (.int (nI t))))), (q_tape, .inl (cI, 100, .inl (upd f (nI t).toNatClampNeg z_4)))] := hV
    refine lv_aload_n hx hb dX7_feed_58 rfl (lv_at hl 1 rfl) ?_
    refine lv_dup hx hb dX7_feed_59 rfl ?_
    refine x_get (v := .int (nI t)) hB hV 0 rfl rfl 29 (by decide) k_774 (fs_eq ((fs_lt h29))) dX7_feed_60 ?_
    refine lv_iconst (v := 1) hx hb dX7_feed_63 (by decide) ?_
    refine lv_iadd hx hb dX7_feed_64 ?_
    refine x_ev (y := nI (t + 1)) (nI_add t 1) ?_
    refine x_put (v := .int (nI (t + 1))) hB hV 0 rfl rfl 29 (by decide) k_774 rfl rfl rfl (fs_ls (fs_lt h29)) dX7_feed_65 (fun H locs hV => ?_)
    have hV : Vx D A s.heap H locs [(h, .inr (7, (fs.set 29 (.int (nI (t + 1)))))), (q_tape, .inl (cI, 100, .inl (upd f (nI t).toNatClampNeg z_4)))] := by rw [← fs_ss]; exact hV
    refine lv_iinc (v := dn k) (lv' := [(4, .int (dn k)), (0, .ref h), (1, .long w), (3, .int x3)]) hx hb dX7_feed_68 hl (k := 0) rfl (dn_dec k) (by decide) rfl (fun ls hl => ?_)
    refine lv_goto (tgt := 32) hx hb dX7_feed_71 (by decide) ?_
    exact ih (t + 1) _ H locs ls (by omega) h8 hV (lv_sub hl [0, 1, 2, 3] rfl)
set_option maxHeartbeats 4000000 in
set_option maxRecDepth 100000 in
theorem m_feed (l : Launch) (D : va_G) (cI cZ cS : ClassId) (N0 : NT) (h : Nat) (fs : List Value) (q_tape : Nat) (w : Int64) (x1 : Int32) (h29 : fs[29]? = some (.int 0)) (h28 : fs[28]? = some (.ref q_tape)) : Mx l D cI cZ cS N0 yX7_feed cX7_feed 5 (some .int) 1 0 0 [.ref h, .long w, .int x1] [(h, .inr (7, fs)), (q_tape, .inl (cI, 100, .inl (fun _ => 0)))] (fun v w => ∃ (r : Int32), v = some (.int r) ∧ w = ([] : va_W) ∧ (r = sp_feed x1)) := by
  refine x_enter (by decide) (Nat.le_of_ble_eq_true rfl) ?_
  intro p e s m args below meth c A ls H locs hB hr hin hl hV hA
  have hx := hB.1
  have hb := hB.2.1
  have hl : lv_has ls 5 [(0, .ref h), (1, .long w), (3, .int x1)] := hl
  refine lv_iload_n hx hb dX7_feed_0 rfl (lv_at hl 2 rfl) ?_
  refine lv_iconst (v := 1) hx hb dX7_feed_1 (by decide) ?_
  refine lv_bipush (v := 8) hx hb dX7_feed_2 (by decide) ?_
  refine x_callS (n := 3) (wr := [(h, .inr (7, fs)), (q_tape, .inl (cI, 100, .inl (fun _ => 0)))]) (As := [.int x1, .int 1, .int 8]) (rest := []) hB hV (x_N hB) hl.1 (c_in l D cI cZ cS N0 x1 1 8 ) k_954 k_65 k_952 k_953 (by decide +kernel) ⟨(Nat.le_of_ble_eq_true rfl), (Nat.le_of_ble_eq_true rfl)⟩ rfl (Nat.le_of_ble_eq_true rfl) ⟨(Nat.le_of_ble_eq_true rfl), (Nat.le_of_ble_eq_true rfl)⟩ [] [0, 1] rfl rfl rfl ⟨by decide, by decide, by decide⟩ dX7_feed_4 (fun v w H locs hp hV => ?_)
  obtain ⟨r_1, rfl, rfl, f_2⟩ := hp
  have hV : Vx D A s.heap H locs [(h, .inr (7, fs)), (q_tape, .inl (cI, 100, .inl (fun _ => 0)))] := hV
  refine W.eq (g2 := F0 m 7 ls [.int r_1]) rfl ?_
  rcases f_2 with ⟨rfl, hw_3⟩ | ⟨rfl, hw_3⟩
  · refine W.eq (g2 := F0 m 7 ls [.int 1]) rfl ?_
    refine lv_if_ne (tgt := 13) hx hb dX7_feed_7 (by decide) (fun c_ => ?_) (fun c_ => absurd c_ (by decide))
    obtain ⟨j, hj, e1⟩ := n_of (fun q => hw_3 (Or.inl q)) (Int32.not_lt.mp (fun q => hw_3 (Or.inr q)))
    refine lv_aload_n hx hb dX7_feed_13 rfl (lv_at hl 0 rfl) ?_
    refine x_get (v := .int 0) hB hV 0 rfl rfl 29 (by decide) k_774 h29 dX7_feed_14 ?_
    refine lv_iload_n hx hb dX7_feed_17 rfl (lv_at hl 2 rfl) ?_
    refine lv_iadd hx hb dX7_feed_18 ?_
    refine x_ev (y := nI (j + 1)) (by rw [e1, Int32.zero_add]) ?_
    refine lv_bipush (v := 100) hx hb dX7_feed_19 (by decide) ?_
    refine lv_icmp_le (tgt := 27) hx hb dX7_feed_21 (by decide) (fun c_ => ?_) (fun c_ => absurd (nI_le (a := j + 1) (b := 100) (by omega) (by decide)) c_)
    refine lv_iload_n hx hb dX7_feed_27 rfl (lv_at hl 2 rfl) ?_
    refine lv_iconst (v := 1) hx hb dX7_feed_28 (by decide) ?_
    refine lv_isub hx hb dX7_feed_29 ?_
    refine x_ev (y := nI j) (by rw [e1]; exact nI_pred j) ?_
    refine lv_istore (lv' := [(4, .int (nI j)), (0, .ref h), (1, .long w), (3, .int x1)]) hx hb dX7_feed_30 hl (by decide) rfl (fun ls hl => ?_)
    have hV : Vx D A s.heap H locs [(h, .inr (7, (fs.set 29 (.int (nI 0))))), (q_tape, .inl (cI, 100, .inl (fun _ => 0)))] := by
      have q : fs.set 29 (.int (nI 0)) = fs := fs_self h29
      rw [q]
      exact hV
    refine lp_f1 hB h fs q_tape w x1 (j + 1) h29 h28 (fun f H locs ls hV hl => ?_) (j + 1) 0 _ H locs ls (by omega) (by omega) hV (lv_sub hl [0, 1, 2, 3] rfl)
    refine lv_aload_n hx hb dX7_feed_74 rfl (lv_at hl 1 rfl) ?_
    refine x_get (v := .int (nI (j + 1))) hB hV 0 rfl rfl 29 (by decide) k_774 (fs_eq ((fs_lt h29))) dX7_feed_75 ?_
    exact x_iret (w := []) hB hr hV hA (Nat.le_of_ble_eq_true rfl) (Nat.le_of_ble_eq_true rfl) [] rfl rfl (by decide) dX7_feed_78 ⟨(nI (j + 1)), rfl, rfl, (by rw [← e1]; exact (if_neg hw_3).symm)⟩
  · refine W.eq (g2 := F0 m 7 ls [.int 0]) rfl ?_
    refine lv_if_ne (tgt := 13) hx hb dX7_feed_7 (by decide) (fun c_ => absurd (by decide) c_) (fun c_ => ?_)
    refine lv_bipush (v := (-2)) hx hb dX7_feed_10 (by decide) ?_
    exact x_iret (w := []) hB hr hV hA (Nat.le_of_ble_eq_true rfl) (Nat.le_of_ble_eq_true rfl) [] rfl rfl (by decide) dX7_feed_12 ⟨(-2), rfl, rfl, (if_pos hw_3).symm⟩
set_option maxHeartbeats 4000000 in
set_option maxRecDepth 100000 in
theorem c_mbyteAt (l : Launch) (D : va_G) (cI cZ cS : ClassId) (N0 : NT) (h : Nat) (fs : List Value) (h29 : fs[29]? = some (.int 0)) : Mx l D cI cZ cS N0 yX7_byteAt cX7_byteAt 2 (some .int) 0 0 0 [.ref h, .int 0] [(h, .inr (7, fs))] (fun v w => v = some (.int (-1)) ∧ w = ([(h, .inr (7, fs))] : va_W)) := by
  refine x_enter (by decide) (Nat.le_of_ble_eq_true rfl) ?_
  intro p e s m args below meth c A ls H locs hB hr hin hl hV hA
  have hx := hB.1
  have hb := hB.2.1
  have hl : lv_has ls 2 [(0, .ref h), (1, .int 0)] := hl
  refine lv_iload_n hx hb dX7_byteAt_0 rfl (lv_at hl 1 rfl) ?_
  refine lv_aload_n hx hb dX7_byteAt_1 rfl (lv_at hl 0 rfl) ?_
  refine x_get (v := .int 0) hB hV 0 rfl rfl 29 (by decide) k_774 h29 dX7_byteAt_2 ?_
  refine lv_icmp_ge (tgt := 17) hx hb dX7_byteAt_5 (by decide) (fun c_ => ?_) (fun c_ => absurd (by decide) c_)
  refine lv_iconst (v := (-1)) hx hb dX7_byteAt_17 (by decide) ?_
  exact x_iret (w := [(h, .inr (7, fs))]) hB hr hV hA (Nat.le_of_ble_eq_true rfl) (Nat.le_of_ble_eq_true rfl) [0] rfl rfl (by decide) dX7_byteAt_18 ⟨rfl, rfl⟩
set_option maxHeartbeats 4000000 in
set_option maxRecDepth 100000 in
theorem c_must (l : Launch) (D : va_G) (cI cZ cS : ClassId) (N0 : NT) (h : Nat) (fs : List Value) (x1 : Int32) (h37 : fs[37]? = some (.int 1)) (h36 : fs[36]? = some (.int 0)) : Mx l D cI cZ cS N0 yX7_must cX7_must 2 none 1 0 0 [.ref h, .int x1] [(h, .inr (7, fs))] (fun v w => v = none ∧ w = ([(h, .inr (7, ((fs.set 37 (.int 1)).set 36 (.int 0))))] : va_W)) := by
  refine x_enter (by decide) (Nat.le_of_ble_eq_true rfl) ?_
  intro p e s m args below meth c A ls H locs hB hr hin hl hV hA
  have hx := hB.1
  have hb := hB.2.1
  have hl : lv_has ls 2 [(0, .ref h), (1, .int x1)] := hl
  refine lv_aload_n hx hb dX7_must_0 rfl (lv_at hl 0 rfl) ?_
  refine lv_aload_n hx hb dX7_must_1 rfl (lv_at hl 0 rfl) ?_
  refine x_get (v := .int 1) hB hV 0 rfl rfl 37 (by decide) k_782 h37 dX7_must_2 ?_
  refine lv_if_ne (tgt := 20) hx hb dX7_must_5 (by decide) (fun c_ => ?_) (fun c_ => absurd c_ (by decide))
  refine lv_iconst (v := 1) hx hb dX7_must_20 (by decide) ?_
  refine lv_goto (tgt := 25) hx hb dX7_must_21 (by decide) ?_
  refine x_put (v := .int 1) hB hV 0 rfl rfl 37 (by decide) k_782 rfl rfl rfl (fs_lt h37) dX7_must_25 (fun H locs hV => ?_)
  have hV : Vx D A s.heap H locs [(h, .inr (7, (fs.set 37 (.int 1))))] := hV
  refine lv_aload_n hx hb dX7_must_28 rfl (lv_at hl 0 rfl) ?_
  refine lv_dup hx hb dX7_must_29 rfl ?_
  refine x_get (v := .int 0) hB hV 0 rfl rfl 36 (by decide) k_781 (fs_ne h36 (by decide)) dX7_must_30 ?_
  refine lv_aload_n hx hb dX7_must_33 rfl (lv_at hl 0 rfl) ?_
  refine x_get (v := .int 1) hB hV 0 rfl rfl 37 (by decide) k_782 (fs_eq ((fs_lt h37))) dX7_must_34 ?_
  refine lv_if_eq (tgt := 44) hx hb dX7_must_37 (by decide) (fun c_ => absurd c_ (by decide)) (fun c_ => ?_)
  refine lv_iconst (v := 0) hx hb dX7_must_40 (by decide) ?_
  refine lv_goto (tgt := 45) hx hb dX7_must_41 (by decide) ?_
  refine lv_iadd hx hb dX7_must_45 ?_
  refine x_ev (y := 0) (by decide) ?_
  refine x_put (v := .int 0) hB hV 0 rfl rfl 36 (by decide) k_781 rfl rfl rfl (fs_ls (fs_lt h36)) dX7_must_46 (fun H locs hV => ?_)
  have hV : Vx D A s.heap H locs [(h, .inr (7, ((fs.set 37 (.int 1)).set 36 (.int 0))))] := hV
  exact x_vret (w := [(h, .inr (7, ((fs.set 37 (.int 1)).set 36 (.int 0))))]) hB hr hV hA (Nat.le_of_ble_eq_true rfl) (Nat.le_of_ble_eq_true rfl) [0] rfl rfl (by decide) dX7_must_49 ⟨rfl, rfl⟩
set_option maxHeartbeats 4000000 in
set_option maxRecDepth 100000 in
theorem c_readsWorth (l : Launch) (D : va_G) (cI cZ cS : ClassId) (N0 : NT) (h : Nat) (fs : List Value) (h37 : fs[37]? = some (.int 1)) (h36 : fs[36]? = some (.int 0)) : Mx l D cI cZ cS N0 yX7_readsWorth cX7_readsWorth 4 (some .int) 1 0 0 [.ref h] [(h, .inr (7, fs))] (fun v w => v = some (.int 0) ∧ w = ([(h, .inr (7, (fs.set 37 (.int 1))))] : va_W)) := by
  refine x_enter (by decide) (Nat.le_of_ble_eq_true rfl) ?_
  intro p e s m args below meth c A ls H locs hB hr hin hl hV hA
  have hx := hB.1
  have hb := hB.2.1
  have hl : lv_has ls 4 [(0, .ref h)] := hl
  refine lv_aload_n hx hb dX7_readsWorth_0 rfl (lv_at hl 0 rfl) ?_
  refine x_get (v := .int 1) hB hV 0 rfl rfl 37 (by decide) k_782 h37 dX7_readsWorth_1 ?_
  refine lv_if_eq (tgt := 11) hx hb dX7_readsWorth_4 (by decide) (fun c_ => absurd c_ (by decide)) (fun c_ => ?_)
  refine lv_iconst (v := (-1)) hx hb dX7_readsWorth_7 (by decide) ?_
  refine lv_goto (tgt := 19) hx hb dX7_readsWorth_8 (by decide) ?_
  refine lv_istore_n (lv' := [(1, .int (-1)), (0, .ref h)]) hx hb dX7_readsWorth_19 rfl hl (by decide) rfl (fun ls hl => ?_)
  refine lv_iload_n hx hb dX7_readsWorth_20 rfl (lv_at hl 0 rfl) ?_
  refine lv_bipush (v := 120) hx hb dX7_readsWorth_21 (by decide) ?_
  refine lv_icmp_eq (tgt := 32) hx hb dX7_readsWorth_23 (by decide) (fun c_ => absurd c_ (by decide)) (fun c_ => ?_)
  refine lv_iload_n hx hb dX7_readsWorth_26 rfl (lv_at hl 0 rfl) ?_
  refine lv_bipush (v := 114) hx hb dX7_readsWorth_27 (by decide) ?_
  refine lv_icmp_ne (tgt := 58) hx hb dX7_readsWorth_29 (by decide) (fun c_ => ?_) (fun c_ => absurd c_ (by decide))
  refine lv_iconst (v := 0) hx hb dX7_readsWorth_58 (by decide) ?_
  refine lv_istore_n (lv' := [(2, .int 0), (1, .int (-1)), (0, .ref h)]) hx hb dX7_readsWorth_59 rfl hl (by decide) rfl (fun ls hl => ?_)
  refine lv_iconst (v := 0) hx hb dX7_readsWorth_60 (by decide) ?_
  refine lv_istore_n (lv' := [(3, .int 0), (2, .int 0), (1, .int (-1)), (0, .ref h)]) hx hb dX7_readsWorth_61 rfl hl (by decide) rfl (fun ls hl => ?_)
  refine lv_aload_n hx hb dX7_readsWorth_62 rfl (lv_at hl 3 rfl) ?_
  refine x_get (v := .int 1) hB hV 0 rfl rfl 37 (by decide) k_782 h37 dX7_readsWorth_63 ?_
  refine lv_if_ne (tgt := 125) hx hb dX7_readsWorth_66 (by decide) (fun c_ => ?_) (fun c_ => absurd c_ (by decide))
  refine lv_aload_n hx hb dX7_readsWorth_125 rfl (lv_at hl 3 rfl) ?_
  refine lv_aload_n hx hb dX7_readsWorth_126 rfl (lv_at hl 3 rfl) ?_
  refine x_get (v := .int 1) hB hV 0 rfl rfl 37 (by decide) k_782 h37 dX7_readsWorth_127 ?_
  refine lv_if_ne (tgt := 137) hx hb dX7_readsWorth_130 (by decide) (fun c_ => ?_) (fun c_ => absurd c_ (by decide))
  refine lv_iconst (v := 1) hx hb dX7_readsWorth_137 (by decide) ?_
  refine lv_goto (tgt := 142) hx hb dX7_readsWorth_138 (by decide) ?_
  refine x_put (v := .int 1) hB hV 0 rfl rfl 37 (by decide) k_782 rfl rfl rfl (fs_lt h37) dX7_readsWorth_142 (fun H locs hV => ?_)
  have hV : Vx D A s.heap H locs [(h, .inr (7, (fs.set 37 (.int 1))))] := hV
  refine lv_iload_n hx hb dX7_readsWorth_145 rfl (lv_at hl 0 rfl) ?_
  exact x_iret (w := [(h, .inr (7, (fs.set 37 (.int 1))))]) hB hr hV hA (Nat.le_of_ble_eq_true rfl) (Nat.le_of_ble_eq_true rfl) [0] rfl rfl (by decide) dX7_readsWorth_146 ⟨rfl, rfl⟩
set_option maxHeartbeats 4000000 in
set_option maxRecDepth 100000 in
theorem c_readsAct (l : Launch) (D : va_G) (cI cZ cS : ClassId) (N0 : NT) (h : Nat) (fs : List Value) (q_words : Nat) (q_newWord : Nat) (q_newPlace : Nat) (q_newWorth : Nat) (h37 : fs[37]? = some (.int 0)) (h36 : fs[36]? = some (.int 0)) (h29 : fs[29]? = some (.int 0)) (h38 : fs[38]? = some (.int 0)) (h42 : fs[42]? = some (.ref q_words)) (h39 : fs[39]? = some (.ref q_newWord)) (h40 : fs[40]? = some (.ref q_newPlace)) (h41 : fs[41]? = some (.ref q_newWorth)) : Mx l D cI cZ cS N0 yX7_readsAct cX7_readsAct 4 none 2 0 0 [.ref h] [(h, .inr (7, fs)), (q_words, .inl (cI, 24, .inl (upd (upd (upd (upd (upd (upd (upd (upd (upd (upd (upd (upd (upd (upd (upd (upd (upd (upd (upd (upd (upd (upd (upd (upd (fun _ => 0) 0 115) 1 101) 2 116) 3 97) 4 100) 5 100) 6 109) 7 97) 8 120) 9 110) 10 101) 11 119) 12 103) 13 101) 14 116) 15 97) 16 115) 17 107) 18 100) 19 111) 20 0) 21 105) 22 102) 23 0))), (q_newWord, .inl (cI, 8, .inl (fun _ => 0))), (q_newPlace, .inl (cI, 8, .inl (fun _ => 0))), (q_newWorth, .inl (cI, 8, .inl (fun _ => 0)))] (fun v w => v = none ∧ w = ([(h, .inr (7, (((((((((fs.set 37 (.int 1)).set 37 (.int 1)).set 36 (.int 0)).set 37 (.int 1)).set 36 (.int 0)).set 37 (.int 1)).set 36 (.int 0)).set 37 (.int 1)).set 38 (.int 1))))] : va_W)) := by
  refine x_enter (by decide) (Nat.le_of_ble_eq_true rfl) ?_
  intro p e s m args below meth c A ls H locs hB hr hin hl hV hA
  have hx := hB.1
  have hb := hB.2.1
  have hl : lv_has ls 4 [(0, .ref h)] := hl
  refine lv_aload_n hx hb dX7_readsAct_0 rfl (lv_at hl 0 rfl) ?_
  refine lv_aload_n hx hb dX7_readsAct_1 rfl (lv_at hl 0 rfl) ?_
  refine x_get (v := .int 0) hB hV 0 rfl rfl 36 (by decide) k_781 h36 dX7_readsAct_2 ?_
  refine x_callV (n := 1) (wr := [(q_words, .inl (cI, 24, .inl (upd (upd (upd (upd (upd (upd (upd (upd (upd (upd (upd (upd (upd (upd (upd (upd (upd (upd (upd (upd (upd (upd (upd (upd (fun _ => 0) 0 115) 1 101) 2 116) 3 97) 4 100) 5 100) 6 109) 7 97) 8 120) 9 110) 10 101) 11 119) 12 103) 13 101) 14 116) 15 97) 16 115) 17 107) 18 100) 19 111) 20 0) 21 105) 22 102) 23 0))), (q_newWord, .inl (cI, 8, .inl (fun _ => 0))), (q_newPlace, .inl (cI, 8, .inl (fun _ => 0))), (q_newWorth, .inl (cI, 8, .inl (fun _ => 0)))]) (q0 := 0) (As := [.int 0]) (rest := []) hB hV (x_N hB) hl.1 (c_mbyteAt l D cI cZ cS N0 h fs h29) rfl rfl k_971 k_65 k_968 k_970 k_23 (by decide +kernel) ⟨(Nat.le_of_ble_eq_true rfl), (Nat.le_of_ble_eq_true rfl)⟩ rfl (Nat.le_of_ble_eq_true rfl) ⟨(Nat.le_of_ble_eq_true rfl), (Nat.le_of_ble_eq_true rfl)⟩ [0] [1, 2, 3, 4] rfl rfl rfl ⟨by decide, by decide, by decide⟩ dX7_readsAct_5 (fun v w H locs hp hV => ?_)
  obtain ⟨rfl, rfl⟩ := hp
  have hV : Vx D A s.heap H locs [(q_words, .inl (cI, 24, .inl (upd (upd (upd (upd (upd (upd (upd (upd (upd (upd (upd (upd (upd (upd (upd (upd (upd (upd (upd (upd (upd (upd (upd (upd (fun _ => 0) 0 115) 1 101) 2 116) 3 97) 4 100) 5 100) 6 109) 7 97) 8 120) 9 110) 10 101) 11 119) 12 103) 13 101) 14 116) 15 97) 16 115) 17 107) 18 100) 19 111) 20 0) 21 105) 22 102) 23 0))), (q_newWord, .inl (cI, 8, .inl (fun _ => 0))), (q_newPlace, .inl (cI, 8, .inl (fun _ => 0))), (q_newWorth, .inl (cI, 8, .inl (fun _ => 0))), (h, .inr (7, fs))] := hV
  refine W.eq (g2 := F0 m 8 ls [.int (-1)]) rfl ?_
  refine lv_bipush (v := 97) hx hb dX7_readsAct_8 (by decide) ?_
  refine lv_icmp_ne (tgt := 32) hx hb dX7_readsAct_10 (by decide) (fun c_ => ?_) (fun c_ => absurd c_ (by decide))
  refine lv_iconst (v := 0) hx hb dX7_readsAct_32 (by decide) ?_
  refine lv_istore_n (lv' := [(1, .int 0), (0, .ref h)]) hx hb dX7_readsAct_33 rfl hl (by decide) rfl (fun ls hl => ?_)
  refine lv_iload_n hx hb dX7_readsAct_34 rfl (lv_at hl 0 rfl) ?_
  refine lv_bipush (v := 8) hx hb dX7_readsAct_35 (by decide) ?_
  refine lv_icmp_ge (tgt := 65) hx hb dX7_readsAct_37 (by decide) (fun c_ => absurd c_ (by decide)) (fun c_ => ?_)
  refine lv_aload_n hx hb dX7_readsAct_40 rfl (lv_at hl 1 rfl) ?_
  refine lv_aload_n hx hb dX7_readsAct_41 rfl (lv_at hl 1 rfl) ?_
  refine x_get (v := .int 0) hB hV 4 rfl rfl 36 (by decide) k_781 h36 dX7_readsAct_42 ?_
  refine x_callV (n := 1) (wr := [(q_words, .inl (cI, 24, .inl (upd (upd (upd (upd (upd (upd (upd (upd (upd (upd (upd (upd (upd (upd (upd (upd (upd (upd (upd (upd (upd (upd (upd (upd (fun _ => 0) 0 115) 1 101) 2 116) 3 97) 4 100) 5 100) 6 109) 7 97) 8 120) 9 110) 10 101) 11 119) 12 103) 13 101) 14 116) 15 97) 16 115) 17 107) 18 100) 19 111) 20 0) 21 105) 22 102) 23 0))), (q_newWord, .inl (cI, 8, .inl (fun _ => 0))), (q_newPlace, .inl (cI, 8, .inl (fun _ => 0))), (q_newWorth, .inl (cI, 8, .inl (fun _ => 0)))]) (q0 := 4) (As := [.int 0]) (rest := []) hB hV (x_N hB) hl.1 (c_mbyteAt l D cI cZ cS N0 h fs h29) rfl rfl k_971 k_65 k_968 k_970 k_23 (by decide +kernel) ⟨(Nat.le_of_ble_eq_true rfl), (Nat.le_of_ble_eq_true rfl)⟩ rfl (Nat.le_of_ble_eq_true rfl) ⟨(Nat.le_of_ble_eq_true rfl), (Nat.le_of_ble_eq_true rfl)⟩ [4] [0, 1, 2, 3] rfl rfl rfl ⟨by decide, by decide, by decide⟩ dX7_readsAct_45 (fun v w H locs hp hV => ?_)
  obtain ⟨rfl, rfl⟩ := hp
  have hV : Vx D A s.heap H locs [(q_words, .inl (cI, 24, .inl (upd (upd (upd (upd (upd (upd (upd (upd (upd (upd (upd (upd (upd (upd (upd (upd (upd (upd (upd (upd (upd (upd (upd (upd (fun _ => 0) 0 115) 1 101) 2 116) 3 97) 4 100) 5 100) 6 109) 7 97) 8 120) 9 110) 10 101) 11 119) 12 103) 13 101) 14 116) 15 97) 16 115) 17 107) 18 100) 19 111) 20 0) 21 105) 22 102) 23 0))), (q_newWord, .inl (cI, 8, .inl (fun _ => 0))), (q_newPlace, .inl (cI, 8, .inl (fun _ => 0))), (q_newWorth, .inl (cI, 8, .inl (fun _ => 0))), (h, .inr (7, fs))] := hV
  refine W.eq (g2 := F0 m 48 ls [.int (-1)]) rfl ?_
  refine lv_aload_n hx hb dX7_readsAct_48 rfl (lv_at hl 1 rfl) ?_
  refine x_get (v := .ref q_words) hB hV 4 rfl rfl 42 (by decide) k_787 h42 dX7_readsAct_49 ?_
  refine lv_iconst (v := 3) hx hb dX7_readsAct_52 (by decide) ?_
  refine lv_iload_n hx hb dX7_readsAct_53 rfl (lv_at hl 0 rfl) ?_
  refine lv_imul hx hb dX7_readsAct_54 ?_
  refine x_ev (y := 0) (by decide) ?_
  refine x_iald (v := 115) hB hV 0 rfl (by unfold vp_in; decide) rfl dX7_readsAct_55 ?_
  refine lv_icmp_eq (tgt := 65) hx hb dX7_readsAct_56 (by decide) (fun c_ => absurd c_ (by decide)) (fun c_ => ?_)
  refine lv_iinc (v := 1) (lv' := [(1, .int 1), (0, .ref h)]) hx hb dX7_readsAct_59 hl (k := 0) rfl (by decide) (by decide) rfl (fun ls hl => ?_)
  refine lv_goto (tgt := 34) hx hb dX7_readsAct_62 (by decide) ?_
  refine lv_iload_n hx hb dX7_readsAct_34 rfl (lv_at hl 0 rfl) ?_
  refine lv_bipush (v := 8) hx hb dX7_readsAct_35 (by decide) ?_
  refine lv_icmp_ge (tgt := 65) hx hb dX7_readsAct_37 (by decide) (fun c_ => absurd c_ (by decide)) (fun c_ => ?_)
  refine lv_aload_n hx hb dX7_readsAct_40 rfl (lv_at hl 1 rfl) ?_
  refine lv_aload_n hx hb dX7_readsAct_41 rfl (lv_at hl 1 rfl) ?_
  refine x_get (v := .int 0) hB hV 4 rfl rfl 36 (by decide) k_781 h36 dX7_readsAct_42 ?_
  refine x_callV (n := 1) (wr := [(q_words, .inl (cI, 24, .inl (upd (upd (upd (upd (upd (upd (upd (upd (upd (upd (upd (upd (upd (upd (upd (upd (upd (upd (upd (upd (upd (upd (upd (upd (fun _ => 0) 0 115) 1 101) 2 116) 3 97) 4 100) 5 100) 6 109) 7 97) 8 120) 9 110) 10 101) 11 119) 12 103) 13 101) 14 116) 15 97) 16 115) 17 107) 18 100) 19 111) 20 0) 21 105) 22 102) 23 0))), (q_newWord, .inl (cI, 8, .inl (fun _ => 0))), (q_newPlace, .inl (cI, 8, .inl (fun _ => 0))), (q_newWorth, .inl (cI, 8, .inl (fun _ => 0)))]) (q0 := 4) (As := [.int 0]) (rest := []) hB hV (x_N hB) hl.1 (c_mbyteAt l D cI cZ cS N0 h fs h29) rfl rfl k_971 k_65 k_968 k_970 k_23 (by decide +kernel) ⟨(Nat.le_of_ble_eq_true rfl), (Nat.le_of_ble_eq_true rfl)⟩ rfl (Nat.le_of_ble_eq_true rfl) ⟨(Nat.le_of_ble_eq_true rfl), (Nat.le_of_ble_eq_true rfl)⟩ [4] [0, 1, 2, 3] rfl rfl rfl ⟨by decide, by decide, by decide⟩ dX7_readsAct_45 (fun v w H locs hp hV => ?_)
  obtain ⟨rfl, rfl⟩ := hp
  have hV : Vx D A s.heap H locs [(q_words, .inl (cI, 24, .inl (upd (upd (upd (upd (upd (upd (upd (upd (upd (upd (upd (upd (upd (upd (upd (upd (upd (upd (upd (upd (upd (upd (upd (upd (fun _ => 0) 0 115) 1 101) 2 116) 3 97) 4 100) 5 100) 6 109) 7 97) 8 120) 9 110) 10 101) 11 119) 12 103) 13 101) 14 116) 15 97) 16 115) 17 107) 18 100) 19 111) 20 0) 21 105) 22 102) 23 0))), (q_newWord, .inl (cI, 8, .inl (fun _ => 0))), (q_newPlace, .inl (cI, 8, .inl (fun _ => 0))), (q_newWorth, .inl (cI, 8, .inl (fun _ => 0))), (h, .inr (7, fs))] := hV
  refine W.eq (g2 := F0 m 48 ls [.int (-1)]) rfl ?_
  refine lv_aload_n hx hb dX7_readsAct_48 rfl (lv_at hl 1 rfl) ?_
  refine x_get (v := .ref q_words) hB hV 4 rfl rfl 42 (by decide) k_787 h42 dX7_readsAct_49 ?_
  refine lv_iconst (v := 3) hx hb dX7_readsAct_52 (by decide) ?_
  refine lv_iload_n hx hb dX7_readsAct_53 rfl (lv_at hl 0 rfl) ?_
  refine lv_imul hx hb dX7_readsAct_54 ?_
  refine x_ev (y := 3) (by decide) ?_
  refine x_iald (v := 97) hB hV 0 rfl (by unfold vp_in; decide) rfl dX7_readsAct_55 ?_
  refine lv_icmp_eq (tgt := 65) hx hb dX7_readsAct_56 (by decide) (fun c_ => absurd c_ (by decide)) (fun c_ => ?_)
  refine lv_iinc (v := 2) (lv' := [(1, .int 2), (0, .ref h)]) hx hb dX7_readsAct_59 hl (k := 0) rfl (by decide) (by decide) rfl (fun ls hl => ?_)
  refine lv_goto (tgt := 34) hx hb dX7_readsAct_62 (by decide) ?_
  refine lv_iload_n hx hb dX7_readsAct_34 rfl (lv_at hl 0 rfl) ?_
  refine lv_bipush (v := 8) hx hb dX7_readsAct_35 (by decide) ?_
  refine lv_icmp_ge (tgt := 65) hx hb dX7_readsAct_37 (by decide) (fun c_ => absurd c_ (by decide)) (fun c_ => ?_)
  refine lv_aload_n hx hb dX7_readsAct_40 rfl (lv_at hl 1 rfl) ?_
  refine lv_aload_n hx hb dX7_readsAct_41 rfl (lv_at hl 1 rfl) ?_
  refine x_get (v := .int 0) hB hV 4 rfl rfl 36 (by decide) k_781 h36 dX7_readsAct_42 ?_
  refine x_callV (n := 1) (wr := [(q_words, .inl (cI, 24, .inl (upd (upd (upd (upd (upd (upd (upd (upd (upd (upd (upd (upd (upd (upd (upd (upd (upd (upd (upd (upd (upd (upd (upd (upd (fun _ => 0) 0 115) 1 101) 2 116) 3 97) 4 100) 5 100) 6 109) 7 97) 8 120) 9 110) 10 101) 11 119) 12 103) 13 101) 14 116) 15 97) 16 115) 17 107) 18 100) 19 111) 20 0) 21 105) 22 102) 23 0))), (q_newWord, .inl (cI, 8, .inl (fun _ => 0))), (q_newPlace, .inl (cI, 8, .inl (fun _ => 0))), (q_newWorth, .inl (cI, 8, .inl (fun _ => 0)))]) (q0 := 4) (As := [.int 0]) (rest := []) hB hV (x_N hB) hl.1 (c_mbyteAt l D cI cZ cS N0 h fs h29) rfl rfl k_971 k_65 k_968 k_970 k_23 (by decide +kernel) ⟨(Nat.le_of_ble_eq_true rfl), (Nat.le_of_ble_eq_true rfl)⟩ rfl (Nat.le_of_ble_eq_true rfl) ⟨(Nat.le_of_ble_eq_true rfl), (Nat.le_of_ble_eq_true rfl)⟩ [4] [0, 1, 2, 3] rfl rfl rfl ⟨by decide, by decide, by decide⟩ dX7_readsAct_45 (fun v w H locs hp hV => ?_)
  obtain ⟨rfl, rfl⟩ := hp
  have hV : Vx D A s.heap H locs [(q_words, .inl (cI, 24, .inl (upd (upd (upd (upd (upd (upd (upd (upd (upd (upd (upd (upd (upd (upd (upd (upd (upd (upd (upd (upd (upd (upd (upd (upd (fun _ => 0) 0 115) 1 101) 2 116) 3 97) 4 100) 5 100) 6 109) 7 97) 8 120) 9 110) 10 101) 11 119) 12 103) 13 101) 14 116) 15 97) 16 115) 17 107) 18 100) 19 111) 20 0) 21 105) 22 102) 23 0))), (q_newWord, .inl (cI, 8, .inl (fun _ => 0))), (q_newPlace, .inl (cI, 8, .inl (fun _ => 0))), (q_newWorth, .inl (cI, 8, .inl (fun _ => 0))), (h, .inr (7, fs))] := hV
  refine W.eq (g2 := F0 m 48 ls [.int (-1)]) rfl ?_
  refine lv_aload_n hx hb dX7_readsAct_48 rfl (lv_at hl 1 rfl) ?_
  refine x_get (v := .ref q_words) hB hV 4 rfl rfl 42 (by decide) k_787 h42 dX7_readsAct_49 ?_
  refine lv_iconst (v := 3) hx hb dX7_readsAct_52 (by decide) ?_
  refine lv_iload_n hx hb dX7_readsAct_53 rfl (lv_at hl 0 rfl) ?_
  refine lv_imul hx hb dX7_readsAct_54 ?_
  refine x_ev (y := 6) (by decide) ?_
  refine x_iald (v := 109) hB hV 0 rfl (by unfold vp_in; decide) rfl dX7_readsAct_55 ?_
  refine lv_icmp_eq (tgt := 65) hx hb dX7_readsAct_56 (by decide) (fun c_ => absurd c_ (by decide)) (fun c_ => ?_)
  refine lv_iinc (v := 3) (lv' := [(1, .int 3), (0, .ref h)]) hx hb dX7_readsAct_59 hl (k := 0) rfl (by decide) (by decide) rfl (fun ls hl => ?_)
  refine lv_goto (tgt := 34) hx hb dX7_readsAct_62 (by decide) ?_
  refine lv_iload_n hx hb dX7_readsAct_34 rfl (lv_at hl 0 rfl) ?_
  refine lv_bipush (v := 8) hx hb dX7_readsAct_35 (by decide) ?_
  refine lv_icmp_ge (tgt := 65) hx hb dX7_readsAct_37 (by decide) (fun c_ => absurd c_ (by decide)) (fun c_ => ?_)
  refine lv_aload_n hx hb dX7_readsAct_40 rfl (lv_at hl 1 rfl) ?_
  refine lv_aload_n hx hb dX7_readsAct_41 rfl (lv_at hl 1 rfl) ?_
  refine x_get (v := .int 0) hB hV 4 rfl rfl 36 (by decide) k_781 h36 dX7_readsAct_42 ?_
  refine x_callV (n := 1) (wr := [(q_words, .inl (cI, 24, .inl (upd (upd (upd (upd (upd (upd (upd (upd (upd (upd (upd (upd (upd (upd (upd (upd (upd (upd (upd (upd (upd (upd (upd (upd (fun _ => 0) 0 115) 1 101) 2 116) 3 97) 4 100) 5 100) 6 109) 7 97) 8 120) 9 110) 10 101) 11 119) 12 103) 13 101) 14 116) 15 97) 16 115) 17 107) 18 100) 19 111) 20 0) 21 105) 22 102) 23 0))), (q_newWord, .inl (cI, 8, .inl (fun _ => 0))), (q_newPlace, .inl (cI, 8, .inl (fun _ => 0))), (q_newWorth, .inl (cI, 8, .inl (fun _ => 0)))]) (q0 := 4) (As := [.int 0]) (rest := []) hB hV (x_N hB) hl.1 (c_mbyteAt l D cI cZ cS N0 h fs h29) rfl rfl k_971 k_65 k_968 k_970 k_23 (by decide +kernel) ⟨(Nat.le_of_ble_eq_true rfl), (Nat.le_of_ble_eq_true rfl)⟩ rfl (Nat.le_of_ble_eq_true rfl) ⟨(Nat.le_of_ble_eq_true rfl), (Nat.le_of_ble_eq_true rfl)⟩ [4] [0, 1, 2, 3] rfl rfl rfl ⟨by decide, by decide, by decide⟩ dX7_readsAct_45 (fun v w H locs hp hV => ?_)
  obtain ⟨rfl, rfl⟩ := hp
  have hV : Vx D A s.heap H locs [(q_words, .inl (cI, 24, .inl (upd (upd (upd (upd (upd (upd (upd (upd (upd (upd (upd (upd (upd (upd (upd (upd (upd (upd (upd (upd (upd (upd (upd (upd (fun _ => 0) 0 115) 1 101) 2 116) 3 97) 4 100) 5 100) 6 109) 7 97) 8 120) 9 110) 10 101) 11 119) 12 103) 13 101) 14 116) 15 97) 16 115) 17 107) 18 100) 19 111) 20 0) 21 105) 22 102) 23 0))), (q_newWord, .inl (cI, 8, .inl (fun _ => 0))), (q_newPlace, .inl (cI, 8, .inl (fun _ => 0))), (q_newWorth, .inl (cI, 8, .inl (fun _ => 0))), (h, .inr (7, fs))] := hV
  refine W.eq (g2 := F0 m 48 ls [.int (-1)]) rfl ?_
  refine lv_aload_n hx hb dX7_readsAct_48 rfl (lv_at hl 1 rfl) ?_
  refine x_get (v := .ref q_words) hB hV 4 rfl rfl 42 (by decide) k_787 h42 dX7_readsAct_49 ?_
  refine lv_iconst (v := 3) hx hb dX7_readsAct_52 (by decide) ?_
  refine lv_iload_n hx hb dX7_readsAct_53 rfl (lv_at hl 0 rfl) ?_
  refine lv_imul hx hb dX7_readsAct_54 ?_
  refine x_ev (y := 9) (by decide) ?_
  refine x_iald (v := 110) hB hV 0 rfl (by unfold vp_in; decide) rfl dX7_readsAct_55 ?_
  refine lv_icmp_eq (tgt := 65) hx hb dX7_readsAct_56 (by decide) (fun c_ => absurd c_ (by decide)) (fun c_ => ?_)
  refine lv_iinc (v := 4) (lv' := [(1, .int 4), (0, .ref h)]) hx hb dX7_readsAct_59 hl (k := 0) rfl (by decide) (by decide) rfl (fun ls hl => ?_)
  refine lv_goto (tgt := 34) hx hb dX7_readsAct_62 (by decide) ?_
  refine lv_iload_n hx hb dX7_readsAct_34 rfl (lv_at hl 0 rfl) ?_
  refine lv_bipush (v := 8) hx hb dX7_readsAct_35 (by decide) ?_
  refine lv_icmp_ge (tgt := 65) hx hb dX7_readsAct_37 (by decide) (fun c_ => absurd c_ (by decide)) (fun c_ => ?_)
  refine lv_aload_n hx hb dX7_readsAct_40 rfl (lv_at hl 1 rfl) ?_
  refine lv_aload_n hx hb dX7_readsAct_41 rfl (lv_at hl 1 rfl) ?_
  refine x_get (v := .int 0) hB hV 4 rfl rfl 36 (by decide) k_781 h36 dX7_readsAct_42 ?_
  refine x_callV (n := 1) (wr := [(q_words, .inl (cI, 24, .inl (upd (upd (upd (upd (upd (upd (upd (upd (upd (upd (upd (upd (upd (upd (upd (upd (upd (upd (upd (upd (upd (upd (upd (upd (fun _ => 0) 0 115) 1 101) 2 116) 3 97) 4 100) 5 100) 6 109) 7 97) 8 120) 9 110) 10 101) 11 119) 12 103) 13 101) 14 116) 15 97) 16 115) 17 107) 18 100) 19 111) 20 0) 21 105) 22 102) 23 0))), (q_newWord, .inl (cI, 8, .inl (fun _ => 0))), (q_newPlace, .inl (cI, 8, .inl (fun _ => 0))), (q_newWorth, .inl (cI, 8, .inl (fun _ => 0)))]) (q0 := 4) (As := [.int 0]) (rest := []) hB hV (x_N hB) hl.1 (c_mbyteAt l D cI cZ cS N0 h fs h29) rfl rfl k_971 k_65 k_968 k_970 k_23 (by decide +kernel) ⟨(Nat.le_of_ble_eq_true rfl), (Nat.le_of_ble_eq_true rfl)⟩ rfl (Nat.le_of_ble_eq_true rfl) ⟨(Nat.le_of_ble_eq_true rfl), (Nat.le_of_ble_eq_true rfl)⟩ [4] [0, 1, 2, 3] rfl rfl rfl ⟨by decide, by decide, by decide⟩ dX7_readsAct_45 (fun v w H locs hp hV => ?_)
  obtain ⟨rfl, rfl⟩ := hp
  have hV : Vx D A s.heap H locs [(q_words, .inl (cI, 24, .inl (upd (upd (upd (upd (upd (upd (upd (upd (upd (upd (upd (upd (upd (upd (upd (upd (upd (upd (upd (upd (upd (upd (upd (upd (fun _ => 0) 0 115) 1 101) 2 116) 3 97) 4 100) 5 100) 6 109) 7 97) 8 120) 9 110) 10 101) 11 119) 12 103) 13 101) 14 116) 15 97) 16 115) 17 107) 18 100) 19 111) 20 0) 21 105) 22 102) 23 0))), (q_newWord, .inl (cI, 8, .inl (fun _ => 0))), (q_newPlace, .inl (cI, 8, .inl (fun _ => 0))), (q_newWorth, .inl (cI, 8, .inl (fun _ => 0))), (h, .inr (7, fs))] := hV
  refine W.eq (g2 := F0 m 48 ls [.int (-1)]) rfl ?_
  refine lv_aload_n hx hb dX7_readsAct_48 rfl (lv_at hl 1 rfl) ?_
  refine x_get (v := .ref q_words) hB hV 4 rfl rfl 42 (by decide) k_787 h42 dX7_readsAct_49 ?_
  refine lv_iconst (v := 3) hx hb dX7_readsAct_52 (by decide) ?_
  refine lv_iload_n hx hb dX7_readsAct_53 rfl (lv_at hl 0 rfl) ?_
  refine lv_imul hx hb dX7_readsAct_54 ?_
  refine x_ev (y := 12) (by decide) ?_
  refine x_iald (v := 103) hB hV 0 rfl (by unfold vp_in; decide) rfl dX7_readsAct_55 ?_
  refine lv_icmp_eq (tgt := 65) hx hb dX7_readsAct_56 (by decide) (fun c_ => absurd c_ (by decide)) (fun c_ => ?_)
  refine lv_iinc (v := 5) (lv' := [(1, .int 5), (0, .ref h)]) hx hb dX7_readsAct_59 hl (k := 0) rfl (by decide) (by decide) rfl (fun ls hl => ?_)
  refine lv_goto (tgt := 34) hx hb dX7_readsAct_62 (by decide) ?_
  refine lv_iload_n hx hb dX7_readsAct_34 rfl (lv_at hl 0 rfl) ?_
  refine lv_bipush (v := 8) hx hb dX7_readsAct_35 (by decide) ?_
  refine lv_icmp_ge (tgt := 65) hx hb dX7_readsAct_37 (by decide) (fun c_ => absurd c_ (by decide)) (fun c_ => ?_)
  refine lv_aload_n hx hb dX7_readsAct_40 rfl (lv_at hl 1 rfl) ?_
  refine lv_aload_n hx hb dX7_readsAct_41 rfl (lv_at hl 1 rfl) ?_
  refine x_get (v := .int 0) hB hV 4 rfl rfl 36 (by decide) k_781 h36 dX7_readsAct_42 ?_
  refine x_callV (n := 1) (wr := [(q_words, .inl (cI, 24, .inl (upd (upd (upd (upd (upd (upd (upd (upd (upd (upd (upd (upd (upd (upd (upd (upd (upd (upd (upd (upd (upd (upd (upd (upd (fun _ => 0) 0 115) 1 101) 2 116) 3 97) 4 100) 5 100) 6 109) 7 97) 8 120) 9 110) 10 101) 11 119) 12 103) 13 101) 14 116) 15 97) 16 115) 17 107) 18 100) 19 111) 20 0) 21 105) 22 102) 23 0))), (q_newWord, .inl (cI, 8, .inl (fun _ => 0))), (q_newPlace, .inl (cI, 8, .inl (fun _ => 0))), (q_newWorth, .inl (cI, 8, .inl (fun _ => 0)))]) (q0 := 4) (As := [.int 0]) (rest := []) hB hV (x_N hB) hl.1 (c_mbyteAt l D cI cZ cS N0 h fs h29) rfl rfl k_971 k_65 k_968 k_970 k_23 (by decide +kernel) ⟨(Nat.le_of_ble_eq_true rfl), (Nat.le_of_ble_eq_true rfl)⟩ rfl (Nat.le_of_ble_eq_true rfl) ⟨(Nat.le_of_ble_eq_true rfl), (Nat.le_of_ble_eq_true rfl)⟩ [4] [0, 1, 2, 3] rfl rfl rfl ⟨by decide, by decide, by decide⟩ dX7_readsAct_45 (fun v w H locs hp hV => ?_)
  obtain ⟨rfl, rfl⟩ := hp
  have hV : Vx D A s.heap H locs [(q_words, .inl (cI, 24, .inl (upd (upd (upd (upd (upd (upd (upd (upd (upd (upd (upd (upd (upd (upd (upd (upd (upd (upd (upd (upd (upd (upd (upd (upd (fun _ => 0) 0 115) 1 101) 2 116) 3 97) 4 100) 5 100) 6 109) 7 97) 8 120) 9 110) 10 101) 11 119) 12 103) 13 101) 14 116) 15 97) 16 115) 17 107) 18 100) 19 111) 20 0) 21 105) 22 102) 23 0))), (q_newWord, .inl (cI, 8, .inl (fun _ => 0))), (q_newPlace, .inl (cI, 8, .inl (fun _ => 0))), (q_newWorth, .inl (cI, 8, .inl (fun _ => 0))), (h, .inr (7, fs))] := hV
  refine W.eq (g2 := F0 m 48 ls [.int (-1)]) rfl ?_
  refine lv_aload_n hx hb dX7_readsAct_48 rfl (lv_at hl 1 rfl) ?_
  refine x_get (v := .ref q_words) hB hV 4 rfl rfl 42 (by decide) k_787 h42 dX7_readsAct_49 ?_
  refine lv_iconst (v := 3) hx hb dX7_readsAct_52 (by decide) ?_
  refine lv_iload_n hx hb dX7_readsAct_53 rfl (lv_at hl 0 rfl) ?_
  refine lv_imul hx hb dX7_readsAct_54 ?_
  refine x_ev (y := 15) (by decide) ?_
  refine x_iald (v := 97) hB hV 0 rfl (by unfold vp_in; decide) rfl dX7_readsAct_55 ?_
  refine lv_icmp_eq (tgt := 65) hx hb dX7_readsAct_56 (by decide) (fun c_ => absurd c_ (by decide)) (fun c_ => ?_)
  refine lv_iinc (v := 6) (lv' := [(1, .int 6), (0, .ref h)]) hx hb dX7_readsAct_59 hl (k := 0) rfl (by decide) (by decide) rfl (fun ls hl => ?_)
  refine lv_goto (tgt := 34) hx hb dX7_readsAct_62 (by decide) ?_
  refine lv_iload_n hx hb dX7_readsAct_34 rfl (lv_at hl 0 rfl) ?_
  refine lv_bipush (v := 8) hx hb dX7_readsAct_35 (by decide) ?_
  refine lv_icmp_ge (tgt := 65) hx hb dX7_readsAct_37 (by decide) (fun c_ => absurd c_ (by decide)) (fun c_ => ?_)
  refine lv_aload_n hx hb dX7_readsAct_40 rfl (lv_at hl 1 rfl) ?_
  refine lv_aload_n hx hb dX7_readsAct_41 rfl (lv_at hl 1 rfl) ?_
  refine x_get (v := .int 0) hB hV 4 rfl rfl 36 (by decide) k_781 h36 dX7_readsAct_42 ?_
  refine x_callV (n := 1) (wr := [(q_words, .inl (cI, 24, .inl (upd (upd (upd (upd (upd (upd (upd (upd (upd (upd (upd (upd (upd (upd (upd (upd (upd (upd (upd (upd (upd (upd (upd (upd (fun _ => 0) 0 115) 1 101) 2 116) 3 97) 4 100) 5 100) 6 109) 7 97) 8 120) 9 110) 10 101) 11 119) 12 103) 13 101) 14 116) 15 97) 16 115) 17 107) 18 100) 19 111) 20 0) 21 105) 22 102) 23 0))), (q_newWord, .inl (cI, 8, .inl (fun _ => 0))), (q_newPlace, .inl (cI, 8, .inl (fun _ => 0))), (q_newWorth, .inl (cI, 8, .inl (fun _ => 0)))]) (q0 := 4) (As := [.int 0]) (rest := []) hB hV (x_N hB) hl.1 (c_mbyteAt l D cI cZ cS N0 h fs h29) rfl rfl k_971 k_65 k_968 k_970 k_23 (by decide +kernel) ⟨(Nat.le_of_ble_eq_true rfl), (Nat.le_of_ble_eq_true rfl)⟩ rfl (Nat.le_of_ble_eq_true rfl) ⟨(Nat.le_of_ble_eq_true rfl), (Nat.le_of_ble_eq_true rfl)⟩ [4] [0, 1, 2, 3] rfl rfl rfl ⟨by decide, by decide, by decide⟩ dX7_readsAct_45 (fun v w H locs hp hV => ?_)
  obtain ⟨rfl, rfl⟩ := hp
  have hV : Vx D A s.heap H locs [(q_words, .inl (cI, 24, .inl (upd (upd (upd (upd (upd (upd (upd (upd (upd (upd (upd (upd (upd (upd (upd (upd (upd (upd (upd (upd (upd (upd (upd (upd (fun _ => 0) 0 115) 1 101) 2 116) 3 97) 4 100) 5 100) 6 109) 7 97) 8 120) 9 110) 10 101) 11 119) 12 103) 13 101) 14 116) 15 97) 16 115) 17 107) 18 100) 19 111) 20 0) 21 105) 22 102) 23 0))), (q_newWord, .inl (cI, 8, .inl (fun _ => 0))), (q_newPlace, .inl (cI, 8, .inl (fun _ => 0))), (q_newWorth, .inl (cI, 8, .inl (fun _ => 0))), (h, .inr (7, fs))] := hV
  refine W.eq (g2 := F0 m 48 ls [.int (-1)]) rfl ?_
  refine lv_aload_n hx hb dX7_readsAct_48 rfl (lv_at hl 1 rfl) ?_
  refine x_get (v := .ref q_words) hB hV 4 rfl rfl 42 (by decide) k_787 h42 dX7_readsAct_49 ?_
  refine lv_iconst (v := 3) hx hb dX7_readsAct_52 (by decide) ?_
  refine lv_iload_n hx hb dX7_readsAct_53 rfl (lv_at hl 0 rfl) ?_
  refine lv_imul hx hb dX7_readsAct_54 ?_
  refine x_ev (y := 18) (by decide) ?_
  refine x_iald (v := 100) hB hV 0 rfl (by unfold vp_in; decide) rfl dX7_readsAct_55 ?_
  refine lv_icmp_eq (tgt := 65) hx hb dX7_readsAct_56 (by decide) (fun c_ => absurd c_ (by decide)) (fun c_ => ?_)
  refine lv_iinc (v := 7) (lv' := [(1, .int 7), (0, .ref h)]) hx hb dX7_readsAct_59 hl (k := 0) rfl (by decide) (by decide) rfl (fun ls hl => ?_)
  refine lv_goto (tgt := 34) hx hb dX7_readsAct_62 (by decide) ?_
  refine lv_iload_n hx hb dX7_readsAct_34 rfl (lv_at hl 0 rfl) ?_
  refine lv_bipush (v := 8) hx hb dX7_readsAct_35 (by decide) ?_
  refine lv_icmp_ge (tgt := 65) hx hb dX7_readsAct_37 (by decide) (fun c_ => absurd c_ (by decide)) (fun c_ => ?_)
  refine lv_aload_n hx hb dX7_readsAct_40 rfl (lv_at hl 1 rfl) ?_
  refine lv_aload_n hx hb dX7_readsAct_41 rfl (lv_at hl 1 rfl) ?_
  refine x_get (v := .int 0) hB hV 4 rfl rfl 36 (by decide) k_781 h36 dX7_readsAct_42 ?_
  refine x_callV (n := 1) (wr := [(q_words, .inl (cI, 24, .inl (upd (upd (upd (upd (upd (upd (upd (upd (upd (upd (upd (upd (upd (upd (upd (upd (upd (upd (upd (upd (upd (upd (upd (upd (fun _ => 0) 0 115) 1 101) 2 116) 3 97) 4 100) 5 100) 6 109) 7 97) 8 120) 9 110) 10 101) 11 119) 12 103) 13 101) 14 116) 15 97) 16 115) 17 107) 18 100) 19 111) 20 0) 21 105) 22 102) 23 0))), (q_newWord, .inl (cI, 8, .inl (fun _ => 0))), (q_newPlace, .inl (cI, 8, .inl (fun _ => 0))), (q_newWorth, .inl (cI, 8, .inl (fun _ => 0)))]) (q0 := 4) (As := [.int 0]) (rest := []) hB hV (x_N hB) hl.1 (c_mbyteAt l D cI cZ cS N0 h fs h29) rfl rfl k_971 k_65 k_968 k_970 k_23 (by decide +kernel) ⟨(Nat.le_of_ble_eq_true rfl), (Nat.le_of_ble_eq_true rfl)⟩ rfl (Nat.le_of_ble_eq_true rfl) ⟨(Nat.le_of_ble_eq_true rfl), (Nat.le_of_ble_eq_true rfl)⟩ [4] [0, 1, 2, 3] rfl rfl rfl ⟨by decide, by decide, by decide⟩ dX7_readsAct_45 (fun v w H locs hp hV => ?_)
  obtain ⟨rfl, rfl⟩ := hp
  have hV : Vx D A s.heap H locs [(q_words, .inl (cI, 24, .inl (upd (upd (upd (upd (upd (upd (upd (upd (upd (upd (upd (upd (upd (upd (upd (upd (upd (upd (upd (upd (upd (upd (upd (upd (fun _ => 0) 0 115) 1 101) 2 116) 3 97) 4 100) 5 100) 6 109) 7 97) 8 120) 9 110) 10 101) 11 119) 12 103) 13 101) 14 116) 15 97) 16 115) 17 107) 18 100) 19 111) 20 0) 21 105) 22 102) 23 0))), (q_newWord, .inl (cI, 8, .inl (fun _ => 0))), (q_newPlace, .inl (cI, 8, .inl (fun _ => 0))), (q_newWorth, .inl (cI, 8, .inl (fun _ => 0))), (h, .inr (7, fs))] := hV
  refine W.eq (g2 := F0 m 48 ls [.int (-1)]) rfl ?_
  refine lv_aload_n hx hb dX7_readsAct_48 rfl (lv_at hl 1 rfl) ?_
  refine x_get (v := .ref q_words) hB hV 4 rfl rfl 42 (by decide) k_787 h42 dX7_readsAct_49 ?_
  refine lv_iconst (v := 3) hx hb dX7_readsAct_52 (by decide) ?_
  refine lv_iload_n hx hb dX7_readsAct_53 rfl (lv_at hl 0 rfl) ?_
  refine lv_imul hx hb dX7_readsAct_54 ?_
  refine x_ev (y := 21) (by decide) ?_
  refine x_iald (v := 105) hB hV 0 rfl (by unfold vp_in; decide) rfl dX7_readsAct_55 ?_
  refine lv_icmp_eq (tgt := 65) hx hb dX7_readsAct_56 (by decide) (fun c_ => absurd c_ (by decide)) (fun c_ => ?_)
  refine lv_iinc (v := 8) (lv' := [(1, .int 8), (0, .ref h)]) hx hb dX7_readsAct_59 hl (k := 0) rfl (by decide) (by decide) rfl (fun ls hl => ?_)
  refine lv_goto (tgt := 34) hx hb dX7_readsAct_62 (by decide) ?_
  refine lv_iload_n hx hb dX7_readsAct_34 rfl (lv_at hl 0 rfl) ?_
  refine lv_bipush (v := 8) hx hb dX7_readsAct_35 (by decide) ?_
  refine lv_icmp_ge (tgt := 65) hx hb dX7_readsAct_37 (by decide) (fun c_ => ?_) (fun c_ => absurd (by decide) c_)
  refine lv_aload_n hx hb dX7_readsAct_65 rfl (lv_at hl 1 rfl) ?_
  refine lv_aload_n hx hb dX7_readsAct_66 rfl (lv_at hl 1 rfl) ?_
  refine x_get (v := .int 0) hB hV 4 rfl rfl 37 (by decide) k_782 h37 dX7_readsAct_67 ?_
  refine lv_if_ne (tgt := 79) hx hb dX7_readsAct_70 (by decide) (fun c_ => absurd (by decide) c_) (fun c_ => ?_)
  refine lv_iload_n hx hb dX7_readsAct_73 rfl (lv_at hl 0 rfl) ?_
  refine lv_bipush (v := 8) hx hb dX7_readsAct_74 (by decide) ?_
  refine lv_icmp_ne (tgt := 83) hx hb dX7_readsAct_76 (by decide) (fun c_ => absurd (by decide) c_) (fun c_ => ?_)
  refine lv_iconst (v := 1) hx hb dX7_readsAct_79 (by decide) ?_
  refine lv_goto (tgt := 84) hx hb dX7_readsAct_80 (by decide) ?_
  refine x_put (v := .int 1) hB hV 4 rfl rfl 37 (by decide) k_782 rfl rfl rfl (fs_lt h37) dX7_readsAct_84 (fun H locs hV => ?_)
  have hV : Vx D A s.heap H locs [(q_words, .inl (cI, 24, .inl (upd (upd (upd (upd (upd (upd (upd (upd (upd (upd (upd (upd (upd (upd (upd (upd (upd (upd (upd (upd (upd (upd (upd (upd (fun _ => 0) 0 115) 1 101) 2 116) 3 97) 4 100) 5 100) 6 109) 7 97) 8 120) 9 110) 10 101) 11 119) 12 103) 13 101) 14 116) 15 97) 16 115) 17 107) 18 100) 19 111) 20 0) 21 105) 22 102) 23 0))), (q_newWord, .inl (cI, 8, .inl (fun _ => 0))), (q_newPlace, .inl (cI, 8, .inl (fun _ => 0))), (q_newWorth, .inl (cI, 8, .inl (fun _ => 0))), (h, .inr (7, (fs.set 37 (.int 1))))] := hV
  refine lv_iconst (v := 0) hx hb dX7_readsAct_87 (by decide) ?_
  refine lv_istore_n (lv' := [(2, .int 0), (1, .int 8), (0, .ref h)]) hx hb dX7_readsAct_88 rfl hl (by decide) rfl (fun ls hl => ?_)
  refine lv_iload_n hx hb dX7_readsAct_89 rfl (lv_at hl 0 rfl) ?_
  refine lv_iconst (v := 3) hx hb dX7_readsAct_90 (by decide) ?_
  refine lv_icmp_ge (tgt := 134) hx hb dX7_readsAct_91 (by decide) (fun c_ => absurd c_ (by decide)) (fun c_ => ?_)
  refine lv_aload_n hx hb dX7_readsAct_94 rfl (lv_at hl 2 rfl) ?_
  refine x_get (v := .int 1) hB hV 4 rfl rfl 37 (by decide) k_782 (fs_eq ((fs_lt h37))) dX7_readsAct_95 ?_
  refine lv_if_ne (tgt := 134) hx hb dX7_readsAct_98 (by decide) (fun c_ => ?_) (fun c_ => absurd c_ (by decide))
  refine lv_aload_n hx hb dX7_readsAct_134 rfl (lv_at hl 2 rfl) ?_
  refine lv_bipush (v := 32) hx hb dX7_readsAct_135 (by decide) ?_
  refine x_callV (n := 1) (wr := [(q_words, .inl (cI, 24, .inl (upd (upd (upd (upd (upd (upd (upd (upd (upd (upd (upd (upd (upd (upd (upd (upd (upd (upd (upd (upd (upd (upd (upd (upd (fun _ => 0) 0 115) 1 101) 2 116) 3 97) 4 100) 5 100) 6 109) 7 97) 8 120) 9 110) 10 101) 11 119) 12 103) 13 101) 14 116) 15 97) 16 115) 17 107) 18 100) 19 111) 20 0) 21 105) 22 102) 23 0))), (q_newWord, .inl (cI, 8, .inl (fun _ => 0))), (q_newPlace, .inl (cI, 8, .inl (fun _ => 0))), (q_newWorth, .inl (cI, 8, .inl (fun _ => 0)))]) (q0 := 4) (As := [.int 32]) (rest := []) hB hV (x_N hB) hl.1 (c_must l D cI cZ cS N0 h (fs.set 37 (.int 1)) 32 (fs_eq ((fs_lt h37))) (fs_ne h36 (by decide))) rfl rfl k_975 k_65 k_972 k_974 k_24 (by decide +kernel) ⟨(Nat.le_of_ble_eq_true rfl), (Nat.le_of_ble_eq_true rfl)⟩ rfl (Nat.le_of_ble_eq_true rfl) ⟨(Nat.le_of_ble_eq_true rfl), (Nat.le_of_ble_eq_true rfl)⟩ [4] [0, 1, 2, 3] rfl rfl rfl ⟨by decide, by decide, by decide⟩ dX7_readsAct_137 (fun v w H locs hp hV => ?_)
  obtain ⟨rfl, rfl⟩ := hp
  have hV : Vx D A s.heap H locs [(q_words, .inl (cI, 24, .inl (upd (upd (upd (upd (upd (upd (upd (upd (upd (upd (upd (upd (upd (upd (upd (upd (upd (upd (upd (upd (upd (upd (upd (upd (fun _ => 0) 0 115) 1 101) 2 116) 3 97) 4 100) 5 100) 6 109) 7 97) 8 120) 9 110) 10 101) 11 119) 12 103) 13 101) 14 116) 15 97) 16 115) 17 107) 18 100) 19 111) 20 0) 21 105) 22 102) 23 0))), (q_newWord, .inl (cI, 8, .inl (fun _ => 0))), (q_newPlace, .inl (cI, 8, .inl (fun _ => 0))), (q_newWorth, .inl (cI, 8, .inl (fun _ => 0))), (h, .inr (7, (((fs.set 37 (.int 1)).set 37 (.int 1)).set 36 (.int 0))))] := hV
  refine W.eq (g2 := F0 m 140 ls []) rfl ?_
  refine lv_iconst (v := 0) hx hb dX7_readsAct_140 (by decide) ?_
  refine lv_istore_n (lv' := [(2, .int 0), (1, .int 8), (0, .ref h)]) hx hb dX7_readsAct_141 rfl hl (by decide) rfl (fun ls hl => ?_)
  refine lv_iload_n hx hb dX7_readsAct_142 rfl (lv_at hl 1 rfl) ?_
  refine lv_bipush (v := 6) hx hb dX7_readsAct_143 (by decide) ?_
  refine lv_icmp_eq (tgt := 236) hx hb dX7_readsAct_145 (by decide) (fun c_ => absurd c_ (by decide)) (fun c_ => ?_)
  refine lv_aload_n hx hb dX7_readsAct_148 rfl (lv_at hl 2 rfl) ?_
  refine lv_aload_n hx hb dX7_readsAct_149 rfl (lv_at hl 2 rfl) ?_
  refine x_get (v := .int 1) hB hV 4 rfl rfl 37 (by decide) k_782 (fs_ne (fs_eq ((fs_ls (fs_lt h37)))) (by decide)) dX7_readsAct_150 ?_
  refine lv_if_ne (tgt := 184) hx hb dX7_readsAct_153 (by decide) (fun c_ => ?_) (fun c_ => absurd c_ (by decide))
  refine lv_iconst (v := 1) hx hb dX7_readsAct_184 (by decide) ?_
  refine lv_goto (tgt := 189) hx hb dX7_readsAct_185 (by decide) ?_
  refine x_put (v := .int 1) hB hV 4 rfl rfl 37 (by decide) k_782 rfl rfl rfl (fs_ls (fs_ls (fs_ls (fs_lt h37)))) dX7_readsAct_189 (fun H locs hV => ?_)
  have hV : Vx D A s.heap H locs [(q_words, .inl (cI, 24, .inl (upd (upd (upd (upd (upd (upd (upd (upd (upd (upd (upd (upd (upd (upd (upd (upd (upd (upd (upd (upd (upd (upd (upd (upd (fun _ => 0) 0 115) 1 101) 2 116) 3 97) 4 100) 5 100) 6 109) 7 97) 8 120) 9 110) 10 101) 11 119) 12 103) 13 101) 14 116) 15 97) 16 115) 17 107) 18 100) 19 111) 20 0) 21 105) 22 102) 23 0))), (q_newWord, .inl (cI, 8, .inl (fun _ => 0))), (q_newPlace, .inl (cI, 8, .inl (fun _ => 0))), (q_newWorth, .inl (cI, 8, .inl (fun _ => 0))), (h, .inr (7, ((((fs.set 37 (.int 1)).set 37 (.int 1)).set 36 (.int 0)).set 37 (.int 1))))] := hV
  refine lv_aload_n hx hb dX7_readsAct_192 rfl (lv_at hl 2 rfl) ?_
  refine x_get (v := .int 1) hB hV 4 rfl rfl 37 (by decide) k_782 (fs_eq ((fs_ls (fs_ls (fs_ls (fs_lt h37)))))) dX7_readsAct_193 ?_
  refine lv_if_eq (tgt := 203) hx hb dX7_readsAct_196 (by decide) (fun c_ => absurd c_ (by decide)) (fun c_ => ?_)
  refine lv_iconst (v := 0) hx hb dX7_readsAct_199 (by decide) ?_
  refine lv_goto (tgt := 214) hx hb dX7_readsAct_200 (by decide) ?_
  refine lv_istore_n (lv' := [(2, .int 0), (1, .int 8), (0, .ref h)]) hx hb dX7_readsAct_214 rfl hl (by decide) rfl (fun ls hl => ?_)
  refine lv_aload_n hx hb dX7_readsAct_215 rfl (lv_at hl 2 rfl) ?_
  refine lv_dup hx hb dX7_readsAct_216 rfl ?_
  refine x_get (v := .int 0) hB hV 4 rfl rfl 36 (by decide) k_781 (fs_ne (fs_eq ((fs_ls (fs_ls (fs_lt h36))))) (by decide)) dX7_readsAct_217 ?_
  refine lv_aload_n hx hb dX7_readsAct_220 rfl (lv_at hl 2 rfl) ?_
  refine x_get (v := .int 1) hB hV 4 rfl rfl 37 (by decide) k_782 (fs_eq ((fs_ls (fs_ls (fs_ls (fs_lt h37)))))) dX7_readsAct_221 ?_
  refine lv_if_eq (tgt := 231) hx hb dX7_readsAct_224 (by decide) (fun c_ => absurd c_ (by decide)) (fun c_ => ?_)
  refine lv_iconst (v := 0) hx hb dX7_readsAct_227 (by decide) ?_
  refine lv_goto (tgt := 232) hx hb dX7_readsAct_228 (by decide) ?_
  refine lv_iadd hx hb dX7_readsAct_232 ?_
  refine x_ev (y := 0) (by decide) ?_
  refine x_put (v := .int 0) hB hV 4 rfl rfl 36 (by decide) k_781 rfl rfl rfl (fs_ls (fs_ls (fs_ls (fs_ls (fs_lt h36))))) dX7_readsAct_233 (fun H locs hV => ?_)
  have hV : Vx D A s.heap H locs [(q_words, .inl (cI, 24, .inl (upd (upd (upd (upd (upd (upd (upd (upd (upd (upd (upd (upd (upd (upd (upd (upd (upd (upd (upd (upd (upd (upd (upd (upd (fun _ => 0) 0 115) 1 101) 2 116) 3 97) 4 100) 5 100) 6 109) 7 97) 8 120) 9 110) 10 101) 11 119) 12 103) 13 101) 14 116) 15 97) 16 115) 17 107) 18 100) 19 111) 20 0) 21 105) 22 102) 23 0))), (q_newWord, .inl (cI, 8, .inl (fun _ => 0))), (q_newPlace, .inl (cI, 8, .inl (fun _ => 0))), (q_newWorth, .inl (cI, 8, .inl (fun _ => 0))), (h, .inr (7, (((((fs.set 37 (.int 1)).set 37 (.int 1)).set 36 (.int 0)).set 37 (.int 1)).set 36 (.int 0))))] := hV
  refine lv_iconst (v := 0) hx hb dX7_readsAct_236 (by decide) ?_
  refine lv_istore_n (lv' := [(3, .int 0), (2, .int 0), (1, .int 8), (0, .ref h)]) hx hb dX7_readsAct_237 rfl hl (by decide) rfl (fun ls hl => ?_)
  refine lv_iload_n hx hb dX7_readsAct_238 rfl (lv_at hl 2 rfl) ?_
  refine lv_iconst (v := 3) hx hb dX7_readsAct_239 (by decide) ?_
  refine lv_icmp_eq (tgt := 265) hx hb dX7_readsAct_240 (by decide) (fun c_ => absurd c_ (by decide)) (fun c_ => ?_)
  refine lv_iload_n hx hb dX7_readsAct_243 rfl (lv_at hl 2 rfl) ?_
  refine lv_iconst (v := 4) hx hb dX7_readsAct_244 (by decide) ?_
  refine lv_icmp_eq (tgt := 265) hx hb dX7_readsAct_245 (by decide) (fun c_ => absurd c_ (by decide)) (fun c_ => ?_)
  refine lv_iload_n hx hb dX7_readsAct_248 rfl (lv_at hl 2 rfl) ?_
  refine lv_bipush (v := 6) hx hb dX7_readsAct_249 (by decide) ?_
  refine lv_icmp_eq (tgt := 260) hx hb dX7_readsAct_251 (by decide) (fun c_ => absurd c_ (by decide)) (fun c_ => ?_)
  refine lv_aload_n hx hb dX7_readsAct_254 rfl (lv_at hl 3 rfl) ?_
  refine lv_bipush (v := 32) hx hb dX7_readsAct_255 (by decide) ?_
  refine x_callV (n := 1) (wr := [(q_words, .inl (cI, 24, .inl (upd (upd (upd (upd (upd (upd (upd (upd (upd (upd (upd (upd (upd (upd (upd (upd (upd (upd (upd (upd (upd (upd (upd (upd (fun _ => 0) 0 115) 1 101) 2 116) 3 97) 4 100) 5 100) 6 109) 7 97) 8 120) 9 110) 10 101) 11 119) 12 103) 13 101) 14 116) 15 97) 16 115) 17 107) 18 100) 19 111) 20 0) 21 105) 22 102) 23 0))), (q_newWord, .inl (cI, 8, .inl (fun _ => 0))), (q_newPlace, .inl (cI, 8, .inl (fun _ => 0))), (q_newWorth, .inl (cI, 8, .inl (fun _ => 0)))]) (q0 := 4) (As := [.int 32]) (rest := []) hB hV (x_N hB) hl.1 (c_must l D cI cZ cS N0 h (((((fs.set 37 (.int 1)).set 37 (.int 1)).set 36 (.int 0)).set 37 (.int 1)).set 36 (.int 0)) 32 (fs_ne (fs_eq ((fs_ls (fs_ls (fs_ls (fs_lt h37)))))) (by decide)) (fs_eq ((fs_ls (fs_ls (fs_ls (fs_ls (fs_lt h36)))))))) rfl rfl k_975 k_65 k_972 k_974 k_24 (by decide +kernel) ⟨(Nat.le_of_ble_eq_true rfl), (Nat.le_of_ble_eq_true rfl)⟩ rfl (Nat.le_of_ble_eq_true rfl) ⟨(Nat.le_of_ble_eq_true rfl), (Nat.le_of_ble_eq_true rfl)⟩ [4] [0, 1, 2, 3] rfl rfl rfl ⟨by decide, by decide, by decide⟩ dX7_readsAct_257 (fun v w H locs hp hV => ?_)
  obtain ⟨rfl, rfl⟩ := hp
  have hV : Vx D A s.heap H locs [(q_words, .inl (cI, 24, .inl (upd (upd (upd (upd (upd (upd (upd (upd (upd (upd (upd (upd (upd (upd (upd (upd (upd (upd (upd (upd (upd (upd (upd (upd (fun _ => 0) 0 115) 1 101) 2 116) 3 97) 4 100) 5 100) 6 109) 7 97) 8 120) 9 110) 10 101) 11 119) 12 103) 13 101) 14 116) 15 97) 16 115) 17 107) 18 100) 19 111) 20 0) 21 105) 22 102) 23 0))), (q_newWord, .inl (cI, 8, .inl (fun _ => 0))), (q_newPlace, .inl (cI, 8, .inl (fun _ => 0))), (q_newWorth, .inl (cI, 8, .inl (fun _ => 0))), (h, .inr (7, (((((((fs.set 37 (.int 1)).set 37 (.int 1)).set 36 (.int 0)).set 37 (.int 1)).set 36 (.int 0)).set 37 (.int 1)).set 36 (.int 0))))] := hV
  refine W.eq (g2 := F0 m 260 ls []) rfl ?_
  refine lv_aload_n hx hb dX7_readsAct_260 rfl (lv_at hl 3 rfl) ?_
  refine x_callV (n := 0) (wr := [(q_words, .inl (cI, 24, .inl (upd (upd (upd (upd (upd (upd (upd (upd (upd (upd (upd (upd (upd (upd (upd (upd (upd (upd (upd (upd (upd (upd (upd (upd (fun _ => 0) 0 115) 1 101) 2 116) 3 97) 4 100) 5 100) 6 109) 7 97) 8 120) 9 110) 10 101) 11 119) 12 103) 13 101) 14 116) 15 97) 16 115) 17 107) 18 100) 19 111) 20 0) 21 105) 22 102) 23 0))), (q_newWord, .inl (cI, 8, .inl (fun _ => 0))), (q_newPlace, .inl (cI, 8, .inl (fun _ => 0))), (q_newWorth, .inl (cI, 8, .inl (fun _ => 0)))]) (q0 := 4) (As := []) (rest := []) hB hV (x_N hB) hl.1 (c_readsWorth l D cI cZ cS N0 h (((((((fs.set 37 (.int 1)).set 37 (.int 1)).set 36 (.int 0)).set 37 (.int 1)).set 36 (.int 0)).set 37 (.int 1)).set 36 (.int 0)) (fs_ne (fs_eq ((fs_ls (fs_ls (fs_ls (fs_ls (fs_ls (fs_lt h37)))))))) (by decide)) (fs_eq ((fs_ls (fs_ls (fs_ls (fs_ls (fs_ls (fs_ls (fs_lt h36)))))))))) rfl rfl k_979 k_65 k_976 k_978 k_25 (by decide +kernel) ⟨(Nat.le_of_ble_eq_true rfl), (Nat.le_of_ble_eq_true rfl)⟩ rfl (Nat.le_of_ble_eq_true rfl) ⟨(Nat.le_of_ble_eq_true rfl), (Nat.le_of_ble_eq_true rfl)⟩ [4] [0, 1, 2, 3] rfl rfl rfl ⟨by decide, by decide, by decide⟩ dX7_readsAct_261 (fun v w H locs hp hV => ?_)
  obtain ⟨rfl, rfl⟩ := hp
  have hV : Vx D A s.heap H locs [(q_words, .inl (cI, 24, .inl (upd (upd (upd (upd (upd (upd (upd (upd (upd (upd (upd (upd (upd (upd (upd (upd (upd (upd (upd (upd (upd (upd (upd (upd (fun _ => 0) 0 115) 1 101) 2 116) 3 97) 4 100) 5 100) 6 109) 7 97) 8 120) 9 110) 10 101) 11 119) 12 103) 13 101) 14 116) 15 97) 16 115) 17 107) 18 100) 19 111) 20 0) 21 105) 22 102) 23 0))), (q_newWord, .inl (cI, 8, .inl (fun _ => 0))), (q_newPlace, .inl (cI, 8, .inl (fun _ => 0))), (q_newWorth, .inl (cI, 8, .inl (fun _ => 0))), (h, .inr (7, ((((((((fs.set 37 (.int 1)).set 37 (.int 1)).set 36 (.int 0)).set 37 (.int 1)).set 36 (.int 0)).set 37 (.int 1)).set 36 (.int 0)).set 37 (.int 1))))] := hV
  refine W.eq (g2 := F0 m 264 ls [.int 0]) rfl ?_
  refine lv_istore_n (lv' := [(3, .int 0), (2, .int 0), (1, .int 8), (0, .ref h)]) hx hb dX7_readsAct_264 rfl hl (by decide) rfl (fun ls hl => ?_)
  refine lv_aload_n hx hb dX7_readsAct_265 rfl (lv_at hl 3 rfl) ?_
  refine x_get (v := .ref q_newWord) hB hV 4 rfl rfl 39 (by decide) k_784 (fs_ne (fs_ne (fs_ne (fs_ne (fs_ne (fs_ne (fs_ne (fs_ne h39 (by decide)) (by decide)) (by decide)) (by decide)) (by decide)) (by decide)) (by decide)) (by decide)) dX7_readsAct_266 ?_
  refine lv_aload_n hx hb dX7_readsAct_269 rfl (lv_at hl 3 rfl) ?_
  refine x_get (v := .int 0) hB hV 4 rfl rfl 38 (by decide) k_783 (fs_ne (fs_ne (fs_ne (fs_ne (fs_ne (fs_ne (fs_ne (fs_ne h38 (by decide)) (by decide)) (by decide)) (by decide)) (by decide)) (by decide)) (by decide)) (by decide)) dX7_readsAct_270 ?_
  refine lv_iload_n hx hb dX7_readsAct_273 rfl (lv_at hl 2 rfl) ?_
  refine x_iast (g := (upd (fun _ => 0) 0 8)) hB hV 1 rfl (by unfold vp_in; decide) rfl dX7_readsAct_274 (fun H locs hV => ?_)
  have hV : Vx D A s.heap H locs [(q_words, .inl (cI, 24, .inl (upd (upd (upd (upd (upd (upd (upd (upd (upd (upd (upd (upd (upd (upd (upd (upd (upd (upd (upd (upd (upd (upd (upd (upd (fun _ => 0) 0 115) 1 101) 2 116) 3 97) 4 100) 5 100) 6 109) 7 97) 8 120) 9 110) 10 101) 11 119) 12 103) 13 101) 14 116) 15 97) 16 115) 17 107) 18 100) 19 111) 20 0) 21 105) 22 102) 23 0))), (q_newWord, .inl (cI, 8, .inl (upd (fun _ => 0) 0 8))), (q_newPlace, .inl (cI, 8, .inl (fun _ => 0))), (q_newWorth, .inl (cI, 8, .inl (fun _ => 0))), (h, .inr (7, ((((((((fs.set 37 (.int 1)).set 37 (.int 1)).set 36 (.int 0)).set 37 (.int 1)).set 36 (.int 0)).set 37 (.int 1)).set 36 (.int 0)).set 37 (.int 1))))] := hV
  refine lv_aload_n hx hb dX7_readsAct_275 rfl (lv_at hl 3 rfl) ?_
  refine x_get (v := .ref q_newPlace) hB hV 4 rfl rfl 40 (by decide) k_785 (fs_ne (fs_ne (fs_ne (fs_ne (fs_ne (fs_ne (fs_ne (fs_ne h40 (by decide)) (by decide)) (by decide)) (by decide)) (by decide)) (by decide)) (by decide)) (by decide)) dX7_readsAct_276 ?_
  refine lv_aload_n hx hb dX7_readsAct_279 rfl (lv_at hl 3 rfl) ?_
  refine x_get (v := .int 0) hB hV 4 rfl rfl 38 (by decide) k_783 (fs_ne (fs_ne (fs_ne (fs_ne (fs_ne (fs_ne (fs_ne (fs_ne h38 (by decide)) (by decide)) (by decide)) (by decide)) (by decide)) (by decide)) (by decide)) (by decide)) dX7_readsAct_280 ?_
  refine lv_iload_n hx hb dX7_readsAct_283 rfl (lv_at hl 1 rfl) ?_
  refine x_iast (g := (fun _ => 0)) hB hV 2 rfl (by unfold vp_in; decide) upd00 dX7_readsAct_284 (fun H locs hV => ?_)
  have hV : Vx D A s.heap H locs [(q_words, .inl (cI, 24, .inl (upd (upd (upd (upd (upd (upd (upd (upd (upd (upd (upd (upd (upd (upd (upd (upd (upd (upd (upd (upd (upd (upd (upd (upd (fun _ => 0) 0 115) 1 101) 2 116) 3 97) 4 100) 5 100) 6 109) 7 97) 8 120) 9 110) 10 101) 11 119) 12 103) 13 101) 14 116) 15 97) 16 115) 17 107) 18 100) 19 111) 20 0) 21 105) 22 102) 23 0))), (q_newWord, .inl (cI, 8, .inl (upd (fun _ => 0) 0 8))), (q_newPlace, .inl (cI, 8, .inl (fun _ => 0))), (q_newWorth, .inl (cI, 8, .inl (fun _ => 0))), (h, .inr (7, ((((((((fs.set 37 (.int 1)).set 37 (.int 1)).set 36 (.int 0)).set 37 (.int 1)).set 36 (.int 0)).set 37 (.int 1)).set 36 (.int 0)).set 37 (.int 1))))] := hV
  refine lv_aload_n hx hb dX7_readsAct_285 rfl (lv_at hl 3 rfl) ?_
  refine x_get (v := .ref q_newWorth) hB hV 4 rfl rfl 41 (by decide) k_786 (fs_ne (fs_ne (fs_ne (fs_ne (fs_ne (fs_ne (fs_ne (fs_ne h41 (by decide)) (by decide)) (by decide)) (by decide)) (by decide)) (by decide)) (by decide)) (by decide)) dX7_readsAct_286 ?_
  refine lv_aload_n hx hb dX7_readsAct_289 rfl (lv_at hl 3 rfl) ?_
  refine x_get (v := .int 0) hB hV 4 rfl rfl 38 (by decide) k_783 (fs_ne (fs_ne (fs_ne (fs_ne (fs_ne (fs_ne (fs_ne (fs_ne h38 (by decide)) (by decide)) (by decide)) (by decide)) (by decide)) (by decide)) (by decide)) (by decide)) dX7_readsAct_290 ?_
  refine lv_iload_n hx hb dX7_readsAct_293 rfl (lv_at hl 0 rfl) ?_
  refine x_iast (g := (fun _ => 0)) hB hV 3 rfl (by unfold vp_in; decide) upd00 dX7_readsAct_294 (fun H locs hV => ?_)
  have hV : Vx D A s.heap H locs [(q_words, .inl (cI, 24, .inl (upd (upd (upd (upd (upd (upd (upd (upd (upd (upd (upd (upd (upd (upd (upd (upd (upd (upd (upd (upd (upd (upd (upd (upd (fun _ => 0) 0 115) 1 101) 2 116) 3 97) 4 100) 5 100) 6 109) 7 97) 8 120) 9 110) 10 101) 11 119) 12 103) 13 101) 14 116) 15 97) 16 115) 17 107) 18 100) 19 111) 20 0) 21 105) 22 102) 23 0))), (q_newWord, .inl (cI, 8, .inl (upd (fun _ => 0) 0 8))), (q_newPlace, .inl (cI, 8, .inl (fun _ => 0))), (q_newWorth, .inl (cI, 8, .inl (fun _ => 0))), (h, .inr (7, ((((((((fs.set 37 (.int 1)).set 37 (.int 1)).set 36 (.int 0)).set 37 (.int 1)).set 36 (.int 0)).set 37 (.int 1)).set 36 (.int 0)).set 37 (.int 1))))] := hV
  refine lv_aload_n hx hb dX7_readsAct_295 rfl (lv_at hl 3 rfl) ?_
  refine lv_dup hx hb dX7_readsAct_296 rfl ?_
  refine x_get (v := .int 0) hB hV 4 rfl rfl 38 (by decide) k_783 (fs_ne (fs_ne (fs_ne (fs_ne (fs_ne (fs_ne (fs_ne (fs_ne h38 (by decide)) (by decide)) (by decide)) (by decide)) (by decide)) (by decide)) (by decide)) (by decide)) dX7_readsAct_297 ?_
  refine lv_iconst (v := 1) hx hb dX7_readsAct_300 (by decide) ?_
  refine lv_iadd hx hb dX7_readsAct_301 ?_
  refine x_ev (y := 1) (by decide) ?_
  refine x_put (v := .int 1) hB hV 4 rfl rfl 38 (by decide) k_783 rfl rfl rfl (fs_ls (fs_ls (fs_ls (fs_ls (fs_ls (fs_ls (fs_ls (fs_ls (fs_lt h38))))))))) dX7_readsAct_302 (fun H locs hV => ?_)
  have hV : Vx D A s.heap H locs [(q_words, .inl (cI, 24, .inl (upd (upd (upd (upd (upd (upd (upd (upd (upd (upd (upd (upd (upd (upd (upd (upd (upd (upd (upd (upd (upd (upd (upd (upd (fun _ => 0) 0 115) 1 101) 2 116) 3 97) 4 100) 5 100) 6 109) 7 97) 8 120) 9 110) 10 101) 11 119) 12 103) 13 101) 14 116) 15 97) 16 115) 17 107) 18 100) 19 111) 20 0) 21 105) 22 102) 23 0))), (q_newWord, .inl (cI, 8, .inl (upd (fun _ => 0) 0 8))), (q_newPlace, .inl (cI, 8, .inl (fun _ => 0))), (q_newWorth, .inl (cI, 8, .inl (fun _ => 0))), (h, .inr (7, (((((((((fs.set 37 (.int 1)).set 37 (.int 1)).set 36 (.int 0)).set 37 (.int 1)).set 36 (.int 0)).set 37 (.int 1)).set 36 (.int 0)).set 37 (.int 1)).set 38 (.int 1))))] := hV
  exact x_vret (w := [(h, .inr (7, (((((((((fs.set 37 (.int 1)).set 37 (.int 1)).set 36 (.int 0)).set 37 (.int 1)).set 36 (.int 0)).set 37 (.int 1)).set 36 (.int 0)).set 37 (.int 1)).set 38 (.int 1))))]) hB hr hV hA (Nat.le_of_ble_eq_true rfl) (Nat.le_of_ble_eq_true rfl) [4] rfl rfl (by decide) dX7_readsAct_305 ⟨rfl, rfl⟩
set_option maxHeartbeats 4000000 in
set_option maxRecDepth 100000 in
theorem c_reads (l : Launch) (D : va_G) (cI cZ cS : ClassId) (N0 : NT) (h : Nat) (fs : List Value) (q_words : Nat) (q_newWord : Nat) (q_newPlace : Nat) (q_newWorth : Nat) (h37 : fs[37]? = some (.int 0)) (h36 : fs[36]? = some (.int 0)) (h29 : fs[29]? = some (.int 0)) (h38 : fs[38]? = some (.int 0)) (h42 : fs[42]? = some (.ref q_words)) (h39 : fs[39]? = some (.ref q_newWord)) (h40 : fs[40]? = some (.ref q_newPlace)) (h41 : fs[41]? = some (.ref q_newWorth)) : Mx l D cI cZ cS N0 yX7_reads cX7_reads 2 (some .boolean) 3 0 0 [.ref h] [(h, .inr (7, fs)), (q_words, .inl (cI, 24, .inl (upd (upd (upd (upd (upd (upd (upd (upd (upd (upd (upd (upd (upd (upd (upd (upd (upd (upd (upd (upd (upd (upd (upd (upd (fun _ => 0) 0 115) 1 101) 2 116) 3 97) 4 100) 5 100) 6 109) 7 97) 8 120) 9 110) 10 101) 11 119) 12 103) 13 101) 14 116) 15 97) 16 115) 17 107) 18 100) 19 111) 20 0) 21 105) 22 102) 23 0))), (q_newWord, .inl (cI, 8, .inl (fun _ => 0))), (q_newPlace, .inl (cI, 8, .inl (fun _ => 0))), (q_newWorth, .inl (cI, 8, .inl (fun _ => 0)))] (fun v w => v = some (.int 0) ∧ w = ([(h, .inr (7, (((((((((((((fs.set 36 (.int 0)).set 37 (.int 0)).set 38 (.int 0)).set 37 (.int 1)).set 37 (.int 1)).set 36 (.int 0)).set 37 (.int 1)).set 36 (.int 0)).set 37 (.int 1)).set 36 (.int 0)).set 37 (.int 1)).set 38 (.int 1)).set 36 (.int 0))))] : va_W)) := by
  refine x_enter (by decide) (Nat.le_of_ble_eq_true rfl) ?_
  intro p e s m args below meth c A ls H locs hB hr hin hl hV hA
  have hx := hB.1
  have hb := hB.2.1
  have hl : lv_has ls 2 [(0, .ref h)] := hl
  refine lv_aload_n hx hb dX7_reads_0 rfl (lv_at hl 0 rfl) ?_
  refine lv_iconst (v := 0) hx hb dX7_reads_1 (by decide) ?_
  refine x_put (v := .int 0) hB hV 0 rfl rfl 36 (by decide) k_781 rfl rfl rfl (fs_lt h36) dX7_reads_2 (fun H locs hV => ?_)
  have hV : Vx D A s.heap H locs [(h, .inr (7, (fs.set 36 (.int 0)))), (q_words, .inl (cI, 24, .inl (upd (upd (upd (upd (upd (upd (upd (upd (upd (upd (upd (upd (upd (upd (upd (upd (upd (upd (upd (upd (upd (upd (upd (upd (fun _ => 0) 0 115) 1 101) 2 116) 3 97) 4 100) 5 100) 6 109) 7 97) 8 120) 9 110) 10 101) 11 119) 12 103) 13 101) 14 116) 15 97) 16 115) 17 107) 18 100) 19 111) 20 0) 21 105) 22 102) 23 0))), (q_newWord, .inl (cI, 8, .inl (fun _ => 0))), (q_newPlace, .inl (cI, 8, .inl (fun _ => 0))), (q_newWorth, .inl (cI, 8, .inl (fun _ => 0)))] := hV
  refine lv_aload_n hx hb dX7_reads_5 rfl (lv_at hl 0 rfl) ?_
  refine lv_iconst (v := 0) hx hb dX7_reads_6 (by decide) ?_
  refine x_put (v := .int 0) hB hV 0 rfl rfl 37 (by decide) k_782 rfl rfl rfl (fs_ls (fs_lt h37)) dX7_reads_7 (fun H locs hV => ?_)
  have hV : Vx D A s.heap H locs [(h, .inr (7, ((fs.set 36 (.int 0)).set 37 (.int 0)))), (q_words, .inl (cI, 24, .inl (upd (upd (upd (upd (upd (upd (upd (upd (upd (upd (upd (upd (upd (upd (upd (upd (upd (upd (upd (upd (upd (upd (upd (upd (fun _ => 0) 0 115) 1 101) 2 116) 3 97) 4 100) 5 100) 6 109) 7 97) 8 120) 9 110) 10 101) 11 119) 12 103) 13 101) 14 116) 15 97) 16 115) 17 107) 18 100) 19 111) 20 0) 21 105) 22 102) 23 0))), (q_newWord, .inl (cI, 8, .inl (fun _ => 0))), (q_newPlace, .inl (cI, 8, .inl (fun _ => 0))), (q_newWorth, .inl (cI, 8, .inl (fun _ => 0)))] := hV
  refine lv_aload_n hx hb dX7_reads_10 rfl (lv_at hl 0 rfl) ?_
  refine lv_iconst (v := 0) hx hb dX7_reads_11 (by decide) ?_
  refine x_put (v := .int 0) hB hV 0 rfl rfl 38 (by decide) k_783 rfl rfl rfl (fs_ls (fs_ls (fs_lt h38))) dX7_reads_12 (fun H locs hV => ?_)
  have hV : Vx D A s.heap H locs [(h, .inr (7, (((fs.set 36 (.int 0)).set 37 (.int 0)).set 38 (.int 0)))), (q_words, .inl (cI, 24, .inl (upd (upd (upd (upd (upd (upd (upd (upd (upd (upd (upd (upd (upd (upd (upd (upd (upd (upd (upd (upd (upd (upd (upd (upd (fun _ => 0) 0 115) 1 101) 2 116) 3 97) 4 100) 5 100) 6 109) 7 97) 8 120) 9 110) 10 101) 11 119) 12 103) 13 101) 14 116) 15 97) 16 115) 17 107) 18 100) 19 111) 20 0) 21 105) 22 102) 23 0))), (q_newWord, .inl (cI, 8, .inl (fun _ => 0))), (q_newPlace, .inl (cI, 8, .inl (fun _ => 0))), (q_newWorth, .inl (cI, 8, .inl (fun _ => 0)))] := hV
  refine lv_iconst (v := 1) hx hb dX7_reads_15 (by decide) ?_
  refine lv_istore_n (lv' := [(1, .int 1), (0, .ref h)]) hx hb dX7_reads_16 rfl hl (by decide) rfl (fun ls hl => ?_)
  refine lv_iload_n hx hb dX7_reads_17 rfl (lv_at hl 0 rfl) ?_
  refine lv_if_eq (tgt := 81) hx hb dX7_reads_18 (by decide) (fun c_ => absurd c_ (by decide)) (fun c_ => ?_)
  refine lv_aload_n hx hb dX7_reads_21 rfl (lv_at hl 1 rfl) ?_
  refine x_callV (n := 0) (wr := []) (q0 := 0) (As := []) (rest := []) hB hV (x_N hB) hl.1 (c_readsAct l D cI cZ cS N0 h (((fs.set 36 (.int 0)).set 37 (.int 0)).set 38 (.int 0)) q_words q_newWord q_newPlace q_newWorth (fs_ne (fs_eq ((fs_ls (fs_lt h37)))) (by decide)) (fs_ne (fs_ne (fs_eq ((fs_lt h36))) (by decide)) (by decide)) (fs_ne (fs_ne (fs_ne h29 (by decide)) (by decide)) (by decide)) (fs_eq ((fs_ls (fs_ls (fs_lt h38))))) (fs_ne (fs_ne (fs_ne h42 (by decide)) (by decide)) (by decide)) (fs_ne (fs_ne (fs_ne h39 (by decide)) (by decide)) (by decide)) (fs_ne (fs_ne (fs_ne h40 (by decide)) (by decide)) (by decide)) (fs_ne (fs_ne (fs_ne h41 (by decide)) (by decide)) (by decide))) rfl rfl k_967 k_65 k_964 k_966 k_22 (by decide +kernel) ⟨(Nat.le_of_ble_eq_true rfl), (Nat.le_of_ble_eq_true rfl)⟩ rfl (Nat.le_of_ble_eq_true rfl) ⟨(Nat.le_of_ble_eq_true rfl), (Nat.le_of_ble_eq_true rfl)⟩ [0, 1, 2, 3, 4] [] rfl rfl rfl ⟨by decide, by decide, by decide⟩ dX7_reads_22 (fun v w H locs hp hV => ?_)
  obtain ⟨rfl, rfl⟩ := hp
  have hV : Vx D A s.heap H locs [(h, .inr (7, ((((((((((((fs.set 36 (.int 0)).set 37 (.int 0)).set 38 (.int 0)).set 37 (.int 1)).set 37 (.int 1)).set 36 (.int 0)).set 37 (.int 1)).set 36 (.int 0)).set 37 (.int 1)).set 36 (.int 0)).set 37 (.int 1)).set 38 (.int 1))))] := hV
  refine W.eq (g2 := F0 m 25 ls []) rfl ?_
  refine lv_aload_n hx hb dX7_reads_25 rfl (lv_at hl 1 rfl) ?_
  refine x_get (v := .int 1) hB hV 0 rfl rfl 37 (by decide) k_782 (fs_ne (fs_eq ((fs_ls (fs_ls (fs_ls (fs_ls (fs_ls (fs_ls (fs_ls (fs_ls (fs_ls (fs_ls (fs_lt h37))))))))))))) (by decide)) dX7_reads_26 ?_
  refine lv_if_ne (tgt := 58) hx hb dX7_reads_29 (by decide) (fun c_ => ?_) (fun c_ => absurd c_ (by decide))
  refine lv_iconst (v := 0) hx hb dX7_reads_58 (by decide) ?_
  refine lv_istore_n (lv' := [(1, .int 0), (0, .ref h)]) hx hb dX7_reads_59 rfl hl (by decide) rfl (fun ls hl => ?_)
  refine lv_aload_n hx hb dX7_reads_60 rfl (lv_at hl 1 rfl) ?_
  refine lv_dup hx hb dX7_reads_61 rfl ?_
  refine x_get (v := .int 0) hB hV 0 rfl rfl 36 (by decide) k_781 (fs_ne (fs_ne (fs_eq ((fs_ls (fs_ls (fs_ls (fs_ls (fs_ls (fs_ls (fs_ls (fs_ls (fs_ls (fs_lt h36)))))))))))) (by decide)) (by decide)) dX7_reads_62 ?_
  refine lv_iload_n hx hb dX7_reads_65 rfl (lv_at hl 0 rfl) ?_
  refine lv_if_eq (tgt := 73) hx hb dX7_reads_66 (by decide) (fun c_ => ?_) (fun c_ => absurd (by decide) c_)
  refine lv_iconst (v := 0) hx hb dX7_reads_73 (by decide) ?_
  refine lv_iadd hx hb dX7_reads_74 ?_
  refine x_ev (y := 0) (by decide) ?_
  refine x_put (v := .int 0) hB hV 0 rfl rfl 36 (by decide) k_781 rfl rfl rfl (fs_ls (fs_ls (fs_ls (fs_ls (fs_ls (fs_ls (fs_ls (fs_ls (fs_ls (fs_ls (fs_ls (fs_ls (fs_lt h36))))))))))))) dX7_reads_75 (fun H locs hV => ?_)
  have hV : Vx D A s.heap H locs [(h, .inr (7, (((((((((((((fs.set 36 (.int 0)).set 37 (.int 0)).set 38 (.int 0)).set 37 (.int 1)).set 37 (.int 1)).set 36 (.int 0)).set 37 (.int 1)).set 36 (.int 0)).set 37 (.int 1)).set 36 (.int 0)).set 37 (.int 1)).set 38 (.int 1)).set 36 (.int 0))))] := hV
  refine lv_goto (tgt := 17) hx hb dX7_reads_78 (by decide) ?_
  refine lv_iload_n hx hb dX7_reads_17 rfl (lv_at hl 0 rfl) ?_
  refine lv_if_eq (tgt := 81) hx hb dX7_reads_18 (by decide) (fun c_ => ?_) (fun c_ => absurd (by decide) c_)
  refine lv_aload_n hx hb dX7_reads_81 rfl (lv_at hl 1 rfl) ?_
  refine x_get (v := .int 1) hB hV 0 rfl rfl 37 (by decide) k_782 (fs_ne (fs_ne (fs_eq ((fs_ls (fs_ls (fs_ls (fs_ls (fs_ls (fs_ls (fs_ls (fs_ls (fs_ls (fs_ls (fs_lt h37))))))))))))) (by decide)) (by decide)) dX7_reads_82 ?_
  refine lv_if_ne (tgt := 103) hx hb dX7_reads_85 (by decide) (fun c_ => ?_) (fun c_ => absurd c_ (by decide))
  refine lv_iconst (v := 0) hx hb dX7_reads_103 (by decide) ?_
  exact x_zret (w := [(h, .inr (7, (((((((((((((fs.set 36 (.int 0)).set 37 (.int 0)).set 38 (.int 0)).set 37 (.int 1)).set 37 (.int 1)).set 36 (.int 0)).set 37 (.int 1)).set 36 (.int 0)).set 37 (.int 1)).set 36 (.int 0)).set 37 (.int 1)).set 38 (.int 1)).set 36 (.int 0))))]) hB hr rfl hV hA (Nat.le_of_ble_eq_true rfl) (Nat.le_of_ble_eq_true rfl) [0] rfl rfl (by decide) dX7_reads_104 ⟨rfl, rfl⟩
set_option maxHeartbeats 4000000 in
set_option maxRecDepth 100000 in
theorem m_service (l : Launch) (D : va_G) (cI cZ cS : ClassId) (N0 : NT) (h : Nat) (fs : List Value) (q_words : Nat) (q_newWord : Nat) (q_newPlace : Nat) (q_newWorth : Nat) (h37 : fs[37]? = some (.int 0)) (h36 : fs[36]? = some (.int 0)) (h29 : fs[29]? = some (.int 0)) (h38 : fs[38]? = some (.int 0)) (h0 : fs[0]? = some (.int 0)) (h42 : fs[42]? = some (.ref q_words)) (h39 : fs[39]? = some (.ref q_newWord)) (h40 : fs[40]? = some (.ref q_newPlace)) (h41 : fs[41]? = some (.ref q_newWorth)) : Mx l D cI cZ cS N0 yX7_service cX7_service 1 (some .int) 4 0 0 [.ref h] [(h, .inr (7, fs)), (q_words, .inl (cI, 24, .inl (upd (upd (upd (upd (upd (upd (upd (upd (upd (upd (upd (upd (upd (upd (upd (upd (upd (upd (upd (upd (upd (upd (upd (upd (fun _ => 0) 0 115) 1 101) 2 116) 3 97) 4 100) 5 100) 6 109) 7 97) 8 120) 9 110) 10 101) 11 119) 12 103) 13 101) 14 116) 15 97) 16 115) 17 107) 18 100) 19 111) 20 0) 21 105) 22 102) 23 0))), (q_newWord, .inl (cI, 8, .inl (fun _ => 0))), (q_newPlace, .inl (cI, 8, .inl (fun _ => 0))), (q_newWorth, .inl (cI, 8, .inl (fun _ => 0)))] (fun v w => v = some (.int (-10)) ∧ w = ([] : va_W)) := by
  refine x_enter (by decide) (Nat.le_of_ble_eq_true rfl) ?_
  intro p e s m args below meth c A ls H locs hB hr hin hl hV hA
  have hx := hB.1
  have hb := hB.2.1
  have hl : lv_has ls 1 [(0, .ref h)] := hl
  refine lv_aload_n hx hb dX7_service_0 rfl (lv_at hl 0 rfl) ?_
  refine x_get (v := .int 0) hB hV 0 rfl rfl 0 (by decide) k_745 h0 dX7_service_1 ?_
  refine lv_bipush (v := 6) hx hb dX7_service_4 (by decide) ?_
  refine lv_icmp_ne (tgt := 12) hx hb dX7_service_6 (by decide) (fun c_ => ?_) (fun c_ => absurd c_ (by decide))
  refine lv_aload_n hx hb dX7_service_12 rfl (lv_at hl 0 rfl) ?_
  refine x_callV (n := 0) (wr := []) (q0 := 0) (As := []) (rest := []) hB hV (x_N hB) hl.1 (c_reads l D cI cZ cS N0 h fs q_words q_newWord q_newPlace q_newWorth h37 h36 h29 h38 h42 h39 h40 h41) rfl rfl k_963 k_65 k_960 k_962 k_21 (by decide +kernel) ⟨(Nat.le_of_ble_eq_true rfl), (Nat.le_of_ble_eq_true rfl)⟩ rfl (Nat.le_of_ble_eq_true rfl) ⟨(Nat.le_of_ble_eq_true rfl), (Nat.le_of_ble_eq_true rfl)⟩ [0, 1, 2, 3, 4] [] rfl rfl rfl ⟨by decide, by decide, by decide⟩ dX7_service_13 (fun v w H locs hp hV => ?_)
  obtain ⟨rfl, rfl⟩ := hp
  have hV : Vx D A s.heap H locs [(h, .inr (7, (((((((((((((fs.set 36 (.int 0)).set 37 (.int 0)).set 38 (.int 0)).set 37 (.int 1)).set 37 (.int 1)).set 36 (.int 0)).set 37 (.int 1)).set 36 (.int 0)).set 37 (.int 1)).set 36 (.int 0)).set 37 (.int 1)).set 38 (.int 1)).set 36 (.int 0))))] := hV
  refine W.eq (g2 := F0 m 16 ls [.int 0]) rfl ?_
  refine lv_if_ne (tgt := 32) hx hb dX7_service_16 (by decide) (fun c_ => absurd (by decide) c_) (fun c_ => ?_)
  refine lv_aload_n hx hb dX7_service_19 rfl (lv_at hl 0 rfl) ?_
  refine lv_iconst (v := 0) hx hb dX7_service_20 (by decide) ?_
  refine x_put (v := .int 0) hB hV 0 rfl rfl 29 (by decide) k_774 rfl rfl rfl (fs_ls (fs_ls (fs_ls (fs_ls (fs_ls (fs_ls (fs_ls (fs_ls (fs_ls (fs_ls (fs_ls (fs_ls (fs_ls (fs_lt h29)))))))))))))) dX7_service_21 (fun H locs hV => ?_)
  have hV : Vx D A s.heap H locs [(h, .inr (7, ((((((((((((((fs.set 36 (.int 0)).set 37 (.int 0)).set 38 (.int 0)).set 37 (.int 1)).set 37 (.int 1)).set 36 (.int 0)).set 37 (.int 1)).set 36 (.int 0)).set 37 (.int 1)).set 36 (.int 0)).set 37 (.int 1)).set 38 (.int 1)).set 36 (.int 0)).set 29 (.int 0))))] := hV
  refine lv_bipush (v := (-10)) hx hb dX7_service_24 (by decide) ?_
  refine lv_aload_n hx hb dX7_service_26 rfl (lv_at hl 0 rfl) ?_
  refine x_get (v := .int 0) hB hV 0 rfl rfl 36 (by decide) k_781 (fs_ne (fs_eq ((fs_ls (fs_ls (fs_ls (fs_ls (fs_ls (fs_ls (fs_ls (fs_ls (fs_ls (fs_ls (fs_ls (fs_ls (fs_lt h36))))))))))))))) (by decide)) dX7_service_27 ?_
  refine lv_isub hx hb dX7_service_30 ?_
  refine x_ev (y := (-10)) (by decide) ?_
  exact x_iret (w := []) hB hr hV hA (Nat.le_of_ble_eq_true rfl) (Nat.le_of_ble_eq_true rfl) [] rfl rfl (by decide) dX7_service_31 ⟨rfl, rfl⟩
