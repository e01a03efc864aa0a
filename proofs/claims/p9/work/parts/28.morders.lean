theorem k_49 : Cond.selects RX7 yX7_onces yX7_onces ∈ tb := mt 49 (by decide +kernel) rfl
theorem k_50 : Cond.selects RX7 yX7_reads_ yX7_reads_ ∈ tb := mt 50 (by decide +kernel) rfl
theorem k_51 : Cond.selects RX7 yX7_isOrder yX7_isOrder ∈ tb := mt 51 (by decide +kernel) rfl
theorem k_52 : Cond.selects RX7 yX7_does yX7_does ∈ tb := mt 52 (by decide +kernel) rfl
theorem k_53 : Cond.selects RX7 yX7_endsLike yX7_endsLike ∈ tb := mt 53 (by decide +kernel) rfl
theorem k_807 : Cond.fieldLink RX7 152 "TwiceOnceModel" "ended" "[I" ∈ tb := mt 807 (by decide +kernel) rfl
theorem k_808 : Cond.fieldLink RX7 155 "TwiceOnceModel" "heap" "[I" ∈ tb := mt 808 (by decide +kernel) rfl
theorem k_809 : Cond.fieldLink RX7 158 "TwiceOnceModel" "ownHeap" "[I" ∈ tb := mt 809 (by decide +kernel) rfl
theorem k_1128 : Cond.methodLink RX7 325 yX7_onces ∈ tb := mt 1128 (by decide +kernel) rfl
theorem k_1130 : Cond.instanceMethod yX7_onces ∈ tb := mt 1130 (by decide +kernel) rfl
set_option maxRecDepth 20000 in
theorem k_1131 : Cond.code yX7_onces cX7_onces 4 (some .int) ∈ tb := mt 1131 rfl rfl
theorem k_1132 : Cond.methodLink RX7 314 yX7_power ∈ tb := mt 1132 (by decide +kernel) rfl
theorem k_1133 : Cond.static yX7_power ∈ tb := mt 1133 (by decide +kernel) rfl
set_option maxRecDepth 20000 in
theorem k_1134 : Cond.code yX7_power cX7_power 4 (some .int) ∈ tb := mt 1134 rfl rfl
theorem k_1135 : Cond.methodLink RX7 317 yX7_reads_ ∈ tb := mt 1135 (by decide +kernel) rfl
theorem k_1137 : Cond.instanceMethod yX7_reads_ ∈ tb := mt 1137 (by decide +kernel) rfl
set_option maxRecDepth 20000 in
theorem k_1138 : Cond.code yX7_reads_ cX7_reads_ 5 none ∈ tb := mt 1138 rfl rfl
theorem k_1139 : Cond.methodLink RX7 319 yX7_isOrder ∈ tb := mt 1139 (by decide +kernel) rfl
theorem k_1141 : Cond.instanceMethod yX7_isOrder ∈ tb := mt 1141 (by decide +kernel) rfl
set_option maxRecDepth 20000 in
theorem k_1142 : Cond.code yX7_isOrder cX7_isOrder 7 (some .boolean) ∈ tb := mt 1142 rfl rfl
theorem k_1143 : Cond.methodLink RX7 322 yX7_does ∈ tb := mt 1143 (by decide +kernel) rfl
theorem k_1145 : Cond.instanceMethod yX7_does ∈ tb := mt 1145 (by decide +kernel) rfl
set_option maxRecDepth 20000 in
theorem k_1146 : Cond.code yX7_does cX7_does 3 none ∈ tb := mt 1146 rfl rfl
theorem k_1147 : Cond.methodLink RX7 328 yX7_endsLike ∈ tb := mt 1147 (by decide +kernel) rfl
theorem k_1149 : Cond.instanceMethod yX7_endsLike ∈ tb := mt 1149 (by decide +kernel) rfl
set_option maxRecDepth 20000 in
theorem k_1150 : Cond.code yX7_endsLike cX7_endsLike 5 (some .boolean) ∈ tb := mt 1150 rfl rfl
theorem dX7_onces_50 : decode cX7_onces 50 = .ok (.iload_n 3, 1) := by decide +kernel
theorem dX7_onces_51 : decode cX7_onces 51 = .ok (.bipush 24, 2) := by decide +kernel
theorem dX7_onces_53 : decode cX7_onces 53 = .ok (.if_icmp .ge 29, 3) := by decide +kernel
theorem dX7_onces_56 : decode cX7_onces 56 = .ok (.aload_n 0, 1) := by decide +kernel
theorem dX7_onces_57 : decode cX7_onces 57 = .ok (.getfield 152, 3) := by decide +kernel
theorem dX7_onces_60 : decode cX7_onces 60 = .ok (.bipush 24, 2) := by decide +kernel
theorem dX7_onces_62 : decode cX7_onces 62 = .ok (.iload_n 1, 1) := by decide +kernel
theorem dX7_onces_63 : decode cX7_onces 63 = .ok (.imul, 1) := by decide +kernel
theorem dX7_onces_64 : decode cX7_onces 64 = .ok (.iload_n 3, 1) := by decide +kernel
theorem dX7_onces_65 : decode cX7_onces 65 = .ok (.iadd, 1) := by decide +kernel
theorem dX7_onces_66 : decode cX7_onces 66 = .ok (.aload_n 0, 1) := by decide +kernel
theorem dX7_onces_67 : decode cX7_onces 67 = .ok (.getfield 28, 3) := by decide +kernel
theorem dX7_onces_70 : decode cX7_onces 70 = .ok (.bipush 24, 2) := by decide +kernel
theorem dX7_onces_72 : decode cX7_onces 72 = .ok (.iload_n 3, 1) := by decide +kernel
theorem dX7_onces_73 : decode cX7_onces 73 = .ok (.iadd, 1) := by decide +kernel
theorem dX7_onces_74 : decode cX7_onces 74 = .ok (.iaload, 1) := by decide +kernel
theorem dX7_onces_75 : decode cX7_onces 75 = .ok (.iastore, 1) := by decide +kernel
theorem dX7_onces_76 : decode cX7_onces 76 = .ok (.iinc 3 1, 3) := by decide +kernel
theorem dX7_onces_79 : decode cX7_onces 79 = .ok (.goto (-29), 3) := by decide +kernel
theorem dX7_onces_84 : decode cX7_onces 84 = .ok (.iload_n 3, 1) := by decide +kernel
theorem dX7_onces_85 : decode cX7_onces 85 = .ok (.sipush 1000, 3) := by decide +kernel
theorem dX7_onces_88 : decode cX7_onces 88 = .ok (.if_icmp .ge 22, 3) := by decide +kernel
theorem dX7_onces_91 : decode cX7_onces 91 = .ok (.aload_n 0, 1) := by decide +kernel
theorem dX7_onces_92 : decode cX7_onces 92 = .ok (.getfield 155, 3) := by decide +kernel
theorem dX7_onces_95 : decode cX7_onces 95 = .ok (.sipush 1000, 3) := by decide +kernel
theorem dX7_onces_98 : decode cX7_onces 98 = .ok (.iload_n 1, 1) := by decide +kernel
theorem dX7_onces_99 : decode cX7_onces 99 = .ok (.imul, 1) := by decide +kernel
theorem dX7_onces_100 : decode cX7_onces 100 = .ok (.iload_n 3, 1) := by decide +kernel
theorem dX7_onces_101 : decode cX7_onces 101 = .ok (.iadd, 1) := by decide +kernel
theorem dX7_onces_102 : decode cX7_onces 102 = .ok (.iconst 0, 1) := by decide +kernel
theorem dX7_onces_103 : decode cX7_onces 103 = .ok (.iastore, 1) := by decide +kernel
theorem dX7_onces_104 : decode cX7_onces 104 = .ok (.iinc 3 1, 3) := by decide +kernel
theorem dX7_onces_107 : decode cX7_onces 107 = .ok (.goto (-23), 3) := by decide +kernel
theorem dX7_onces_112 : decode cX7_onces 112 = .ok (.iload_n 3, 1) := by decide +kernel
theorem dX7_onces_113 : decode cX7_onces 113 = .ok (.aload_n 0, 1) := by decide +kernel
theorem dX7_onces_114 : decode cX7_onces 114 = .ok (.getfield 259, 3) := by decide +kernel
theorem dX7_onces_117 : decode cX7_onces 117 = .ok (.if_icmp .ge 30, 3) := by decide +kernel
theorem dX7_onces_120 : decode cX7_onces 120 = .ok (.aload_n 0, 1) := by decide +kernel
theorem dX7_onces_121 : decode cX7_onces 121 = .ok (.getfield 155, 3) := by decide +kernel
theorem dX7_onces_124 : decode cX7_onces 124 = .ok (.sipush 1000, 3) := by decide +kernel
theorem dX7_onces_127 : decode cX7_onces 127 = .ok (.iload_n 1, 1) := by decide +kernel
theorem dX7_onces_128 : decode cX7_onces 128 = .ok (.imul, 1) := by decide +kernel
theorem dX7_onces_129 : decode cX7_onces 129 = .ok (.aload_n 0, 1) := by decide +kernel
theorem dX7_onces_130 : decode cX7_onces 130 = .ok (.getfield 128, 3) := by decide +kernel
theorem dX7_onces_133 : decode cX7_onces 133 = .ok (.iload_n 3, 1) := by decide +kernel
theorem dX7_onces_134 : decode cX7_onces 134 = .ok (.iaload, 1) := by decide +kernel
theorem dX7_onces_135 : decode cX7_onces 135 = .ok (.iadd, 1) := by decide +kernel
theorem dX7_onces_136 : decode cX7_onces 136 = .ok (.dup2, 1) := by decide +kernel
theorem dX7_onces_137 : decode cX7_onces 137 = .ok (.iaload, 1) := by decide +kernel
theorem dX7_onces_138 : decode cX7_onces 138 = .ok (.iconst 1, 1) := by decide +kernel
theorem dX7_onces_139 : decode cX7_onces 139 = .ok (.iadd, 1) := by decide +kernel
theorem dX7_onces_140 : decode cX7_onces 140 = .ok (.iastore, 1) := by decide +kernel
theorem dX7_onces_141 : decode cX7_onces 141 = .ok (.iinc 3 1, 3) := by decide +kernel
theorem dX7_onces_144 : decode cX7_onces 144 = .ok (.goto (-32), 3) := by decide +kernel
theorem dX7_onces_4 : decode cX7_onces 4 = .ok (.iload_n 2, 1) := by decide +kernel
theorem dX7_onces_5 : decode cX7_onces 5 = .ok (.aload_n 0, 1) := by decide +kernel
theorem dX7_onces_6 : decode cX7_onces 6 = .ok (.getfield 290, 3) := by decide +kernel
theorem dX7_onces_9 : decode cX7_onces 9 = .ok (.aload_n 0, 1) := by decide +kernel
theorem dX7_onces_10 : decode cX7_onces 10 = .ok (.getfield 290, 3) := by decide +kernel
theorem dX7_onces_13 : decode cX7_onces 13 = .ok (.invokestatic 314, 3) := by decide +kernel
theorem dX7_onces_16 : decode cX7_onces 16 = .ok (.if_icmp .ge 140, 3) := by decide +kernel
theorem dX7_onces_156 : decode cX7_onces 156 = .ok (.iload_n 1, 1) := by decide +kernel
theorem dX7_onces_157 : decode cX7_onces 157 = .ok (.ireturn, 1) := by decide +kernel
theorem dX7_onces_19 : decode cX7_onces 19 = .ok (.aload_n 0, 1) := by decide +kernel
theorem dX7_onces_20 : decode cX7_onces 20 = .ok (.iload_n 2, 1) := by decide +kernel
theorem dX7_onces_21 : decode cX7_onces 21 = .ok (.aload_n 0, 1) := by decide +kernel
theorem dX7_onces_22 : decode cX7_onces 22 = .ok (.getfield 290, 3) := by decide +kernel
theorem dX7_onces_25 : decode cX7_onces 25 = .ok (.invokevirtual 317, 3) := by decide +kernel
theorem dX7_onces_28 : decode cX7_onces 28 = .ok (.aload_n 0, 1) := by decide +kernel
theorem dX7_onces_29 : decode cX7_onces 29 = .ok (.aload_n 0, 1) := by decide +kernel
theorem dX7_onces_30 : decode cX7_onces 30 = .ok (.getfield 290, 3) := by decide +kernel
theorem dX7_onces_33 : decode cX7_onces 33 = .ok (.iconst (-1), 1) := by decide +kernel
theorem dX7_onces_34 : decode cX7_onces 34 = .ok (.invokevirtual 319, 3) := by decide +kernel
theorem dX7_onces_37 : decode cX7_onces 37 = .ok (.ifCond .eq 113, 3) := by decide +kernel
theorem dX7_onces_40 : decode cX7_onces 40 = .ok (.aload_n 0, 1) := by decide +kernel
theorem dX7_onces_41 : decode cX7_onces 41 = .ok (.aload_n 0, 1) := by decide +kernel
theorem dX7_onces_42 : decode cX7_onces 42 = .ok (.getfield 290, 3) := by decide +kernel
theorem dX7_onces_45 : decode cX7_onces 45 = .ok (.invokevirtual 322, 3) := by decide +kernel
theorem dX7_onces_48 : decode cX7_onces 48 = .ok (.iconst 0, 1) := by decide +kernel
theorem dX7_onces_49 : decode cX7_onces 49 = .ok (.istore_n 3, 1) := by decide +kernel
theorem dX7_onces_82 : decode cX7_onces 82 = .ok (.iconst 0, 1) := by decide +kernel
theorem dX7_onces_83 : decode cX7_onces 83 = .ok (.istore_n 3, 1) := by decide +kernel
theorem dX7_onces_110 : decode cX7_onces 110 = .ok (.iconst 0, 1) := by decide +kernel
theorem dX7_onces_111 : decode cX7_onces 111 = .ok (.istore_n 3, 1) := by decide +kernel
theorem dX7_onces_147 : decode cX7_onces 147 = .ok (.iinc 1 1, 3) := by decide +kernel
theorem dX7_onces_150 : decode cX7_onces 150 = .ok (.iinc 2 1, 3) := by decide +kernel
theorem dX7_onces_153 : decode cX7_onces 153 = .ok (.goto (-149), 3) := by decide +kernel
theorem dX7_onces_0 : decode cX7_onces 0 = .ok (.iconst 0, 1) := by decide +kernel
theorem dX7_onces_1 : decode cX7_onces 1 = .ok (.istore_n 1, 1) := by decide +kernel
theorem dX7_onces_2 : decode cX7_onces 2 = .ok (.iconst 0, 1) := by decide +kernel
theorem dX7_onces_3 : decode cX7_onces 3 = .ok (.istore_n 2, 1) := by decide +kernel
theorem dX7_endsLike_65 : decode cX7_endsLike 65 = .ok (.iload 4, 2) := by decide +kernel
theorem dX7_endsLike_67 : decode cX7_endsLike 67 = .ok (.bipush 24, 2) := by decide +kernel
theorem dX7_endsLike_69 : decode cX7_endsLike 69 = .ok (.if_icmp .ge 44, 3) := by decide +kernel
theorem dX7_endsLike_72 : decode cX7_endsLike 72 = .ok (.iload_n 3, 1) := by decide +kernel
theorem dX7_endsLike_73 : decode cX7_endsLike 73 = .ok (.ifCond .eq 32, 3) := by decide +kernel
theorem dX7_endsLike_105 : decode cX7_endsLike 105 = .ok (.iconst 0, 1) := by decide +kernel
theorem dX7_endsLike_106 : decode cX7_endsLike 106 = .ok (.istore_n 3, 1) := by decide +kernel
theorem dX7_endsLike_107 : decode cX7_endsLike 107 = .ok (.iinc 4 1, 3) := by decide +kernel
theorem dX7_endsLike_110 : decode cX7_endsLike 110 = .ok (.goto (-45), 3) := by decide +kernel
theorem dX7_endsLike_76 : decode cX7_endsLike 76 = .ok (.aload_n 0, 1) := by decide +kernel
theorem dX7_endsLike_77 : decode cX7_endsLike 77 = .ok (.getfield 152, 3) := by decide +kernel
theorem dX7_endsLike_80 : decode cX7_endsLike 80 = .ok (.bipush 24, 2) := by decide +kernel
theorem dX7_endsLike_82 : decode cX7_endsLike 82 = .ok (.iload_n 2, 1) := by decide +kernel
theorem dX7_endsLike_83 : decode cX7_endsLike 83 = .ok (.imul, 1) := by decide +kernel
theorem dX7_endsLike_84 : decode cX7_endsLike 84 = .ok (.iload 4, 2) := by decide +kernel
theorem dX7_endsLike_86 : decode cX7_endsLike 86 = .ok (.iadd, 1) := by decide +kernel
theorem dX7_endsLike_87 : decode cX7_endsLike 87 = .ok (.iaload, 1) := by decide +kernel
theorem dX7_endsLike_88 : decode cX7_endsLike 88 = .ok (.aload_n 0, 1) := by decide +kernel
theorem dX7_endsLike_89 : decode cX7_endsLike 89 = .ok (.getfield 28, 3) := by decide +kernel
theorem dX7_endsLike_92 : decode cX7_endsLike 92 = .ok (.bipush 24, 2) := by decide +kernel
theorem dX7_endsLike_94 : decode cX7_endsLike 94 = .ok (.iload 4, 2) := by decide +kernel
theorem dX7_endsLike_96 : decode cX7_endsLike 96 = .ok (.iadd, 1) := by decide +kernel
theorem dX7_endsLike_97 : decode cX7_endsLike 97 = .ok (.iaload, 1) := by decide +kernel
theorem dX7_endsLike_98 : decode cX7_endsLike 98 = .ok (.if_icmp .ne 7, 3) := by decide +kernel
theorem dX7_endsLike_101 : decode cX7_endsLike 101 = .ok (.iconst 1, 1) := by decide +kernel
theorem dX7_endsLike_102 : decode cX7_endsLike 102 = .ok (.goto 4, 3) := by decide +kernel
theorem dX7_endsLike_116 : decode cX7_endsLike 116 = .ok (.iload 4, 2) := by decide +kernel
theorem dX7_endsLike_118 : decode cX7_endsLike 118 = .ok (.sipush 1000, 3) := by decide +kernel
theorem dX7_endsLike_121 : decode cX7_endsLike 121 = .ok (.if_icmp .ge 42, 3) := by decide +kernel
theorem dX7_endsLike_124 : decode cX7_endsLike 124 = .ok (.iload_n 3, 1) := by decide +kernel
theorem dX7_endsLike_125 : decode cX7_endsLike 125 = .ok (.ifCond .eq 38, 3) := by decide +kernel
theorem dX7_endsLike_128 : decode cX7_endsLike 128 = .ok (.aload_n 0, 1) := by decide +kernel
theorem dX7_endsLike_129 : decode cX7_endsLike 129 = .ok (.getfield 155, 3) := by decide +kernel
theorem dX7_endsLike_132 : decode cX7_endsLike 132 = .ok (.sipush 1000, 3) := by decide +kernel
theorem dX7_endsLike_135 : decode cX7_endsLike 135 = .ok (.iload_n 2, 1) := by decide +kernel
theorem dX7_endsLike_136 : decode cX7_endsLike 136 = .ok (.imul, 1) := by decide +kernel
theorem dX7_endsLike_137 : decode cX7_endsLike 137 = .ok (.iload 4, 2) := by decide +kernel
theorem dX7_endsLike_139 : decode cX7_endsLike 139 = .ok (.iadd, 1) := by decide +kernel
theorem dX7_endsLike_140 : decode cX7_endsLike 140 = .ok (.iaload, 1) := by decide +kernel
theorem dX7_endsLike_141 : decode cX7_endsLike 141 = .ok (.aload_n 0, 1) := by decide +kernel
theorem dX7_endsLike_142 : decode cX7_endsLike 142 = .ok (.getfield 158, 3) := by decide +kernel
theorem dX7_endsLike_145 : decode cX7_endsLike 145 = .ok (.iload 4, 2) := by decide +kernel
theorem dX7_endsLike_147 : decode cX7_endsLike 147 = .ok (.iaload, 1) := by decide +kernel
theorem dX7_endsLike_148 : decode cX7_endsLike 148 = .ok (.if_icmp .ne 7, 3) := by decide +kernel
theorem dX7_endsLike_155 : decode cX7_endsLike 155 = .ok (.iconst 0, 1) := by decide +kernel
theorem dX7_endsLike_156 : decode cX7_endsLike 156 = .ok (.istore_n 3, 1) := by decide +kernel
theorem dX7_endsLike_157 : decode cX7_endsLike 157 = .ok (.iinc 4 1, 3) := by decide +kernel
theorem dX7_endsLike_160 : decode cX7_endsLike 160 = .ok (.goto (-44), 3) := by decide +kernel
theorem dX7_endsLike_151 : decode cX7_endsLike 151 = .ok (.iconst 1, 1) := by decide +kernel
theorem dX7_endsLike_152 : decode cX7_endsLike 152 = .ok (.goto 4, 3) := by decide +kernel
theorem dX7_endsLike_55 : decode cX7_endsLike 55 = .ok (.iload_n 2, 1) := by decide +kernel
theorem dX7_endsLike_56 : decode cX7_endsLike 56 = .ok (.iload_n 1, 1) := by decide +kernel
theorem dX7_endsLike_57 : decode cX7_endsLike 57 = .ok (.if_icmp .ge 118, 3) := by decide +kernel
theorem dX7_endsLike_175 : decode cX7_endsLike 175 = .ok (.iconst 0, 1) := by decide +kernel
theorem dX7_endsLike_176 : decode cX7_endsLike 176 = .ok (.ireturn, 1) := by decide +kernel
theorem dX7_endsLike_60 : decode cX7_endsLike 60 = .ok (.iconst 1, 1) := by decide +kernel
theorem dX7_endsLike_61 : decode cX7_endsLike 61 = .ok (.istore_n 3, 1) := by decide +kernel
theorem dX7_endsLike_62 : decode cX7_endsLike 62 = .ok (.iconst 0, 1) := by decide +kernel
theorem dX7_endsLike_63 : decode cX7_endsLike 63 = .ok (.istore 4, 2) := by decide +kernel
theorem dX7_endsLike_113 : decode cX7_endsLike 113 = .ok (.iconst 0, 1) := by decide +kernel
theorem dX7_endsLike_114 : decode cX7_endsLike 114 = .ok (.istore 4, 2) := by decide +kernel
theorem dX7_endsLike_163 : decode cX7_endsLike 163 = .ok (.iload_n 3, 1) := by decide +kernel
theorem dX7_endsLike_164 : decode cX7_endsLike 164 = .ok (.ifCond .eq 5, 3) := by decide +kernel
theorem dX7_endsLike_169 : decode cX7_endsLike 169 = .ok (.iinc 2 1, 3) := by decide +kernel
theorem dX7_endsLike_172 : decode cX7_endsLike 172 = .ok (.goto (-117), 3) := by decide +kernel
theorem dX7_endsLike_167 : decode cX7_endsLike 167 = .ok (.iconst 1, 1) := by decide +kernel
theorem dX7_endsLike_168 : decode cX7_endsLike 168 = .ok (.ireturn, 1) := by decide +kernel
theorem dX7_endsLike_24 : decode cX7_endsLike 24 = .ok (.iload_n 2, 1) := by decide +kernel
theorem dX7_endsLike_25 : decode cX7_endsLike 25 = .ok (.aload_n 0, 1) := by decide +kernel
theorem dX7_endsLike_26 : decode cX7_endsLike 26 = .ok (.getfield 259, 3) := by decide +kernel
theorem dX7_endsLike_29 : decode cX7_endsLike 29 = .ok (.if_icmp .ge 24, 3) := by decide +kernel
theorem dX7_endsLike_53 : decode cX7_endsLike 53 = .ok (.iconst 0, 1) := by decide +kernel
theorem dX7_endsLike_54 : decode cX7_endsLike 54 = .ok (.istore_n 2, 1) := by decide +kernel
theorem dX7_endsLike_32 : decode cX7_endsLike 32 = .ok (.aload_n 0, 1) := by decide +kernel
theorem dX7_endsLike_33 : decode cX7_endsLike 33 = .ok (.getfield 158, 3) := by decide +kernel
theorem dX7_endsLike_36 : decode cX7_endsLike 36 = .ok (.aload_n 0, 1) := by decide +kernel
theorem dX7_endsLike_37 : decode cX7_endsLike 37 = .ok (.getfield 128, 3) := by decide +kernel
theorem dX7_endsLike_40 : decode cX7_endsLike 40 = .ok (.iload_n 2, 1) := by decide +kernel
theorem dX7_endsLike_41 : decode cX7_endsLike 41 = .ok (.iaload, 1) := by decide +kernel
theorem dX7_endsLike_42 : decode cX7_endsLike 42 = .ok (.dup2, 1) := by decide +kernel
theorem dX7_endsLike_43 : decode cX7_endsLike 43 = .ok (.iaload, 1) := by decide +kernel
theorem dX7_endsLike_44 : decode cX7_endsLike 44 = .ok (.iconst 1, 1) := by decide +kernel
theorem dX7_endsLike_45 : decode cX7_endsLike 45 = .ok (.iadd, 1) := by decide +kernel
theorem dX7_endsLike_46 : decode cX7_endsLike 46 = .ok (.iastore, 1) := by decide +kernel
theorem dX7_endsLike_47 : decode cX7_endsLike 47 = .ok (.iinc 2 1, 3) := by decide +kernel
theorem dX7_endsLike_50 : decode cX7_endsLike 50 = .ok (.goto (-26), 3) := by decide +kernel
theorem dX7_endsLike_2 : decode cX7_endsLike 2 = .ok (.iload_n 2, 1) := by decide +kernel
theorem dX7_endsLike_3 : decode cX7_endsLike 3 = .ok (.sipush 1000, 3) := by decide +kernel
theorem dX7_endsLike_6 : decode cX7_endsLike 6 = .ok (.if_icmp .ge 16, 3) := by decide +kernel
theorem dX7_endsLike_22 : decode cX7_endsLike 22 = .ok (.iconst 0, 1) := by decide +kernel
theorem dX7_endsLike_23 : decode cX7_endsLike 23 = .ok (.istore_n 2, 1) := by decide +kernel
theorem dX7_endsLike_9 : decode cX7_endsLike 9 = .ok (.aload_n 0, 1) := by decide +kernel
theorem dX7_endsLike_10 : decode cX7_endsLike 10 = .ok (.getfield 158, 3) := by decide +kernel
theorem dX7_endsLike_13 : decode cX7_endsLike 13 = .ok (.iload_n 2, 1) := by decide +kernel
theorem dX7_endsLike_14 : decode cX7_endsLike 14 = .ok (.iconst 0, 1) := by decide +kernel
theorem dX7_endsLike_15 : decode cX7_endsLike 15 = .ok (.iastore, 1) := by decide +kernel
theorem dX7_endsLike_16 : decode cX7_endsLike 16 = .ok (.iinc 2 1, 3) := by decide +kernel
theorem dX7_endsLike_19 : decode cX7_endsLike 19 = .ok (.goto (-17), 3) := by decide +kernel
theorem dX7_endsLike_0 : decode cX7_endsLike 0 = .ok (.iconst 0, 1) := by decide +kernel
theorem dX7_endsLike_1 : decode cX7_endsLike 1 = .ok (.istore_n 2, 1) := by decide +kernel
theorem dX7_orders_54 : decode cX7_orders 54 = .ok (.iload 6, 2) := by decide +kernel
theorem dX7_orders_56 : decode cX7_orders 56 = .ok (.aload_n 0, 1) := by decide +kernel
theorem dX7_orders_57 : decode cX7_orders 57 = .ok (.getfield 290, 3) := by decide +kernel
theorem dX7_orders_60 : decode cX7_orders 60 = .ok (.aload_n 0, 1) := by decide +kernel
theorem dX7_orders_61 : decode cX7_orders 61 = .ok (.getfield 290, 3) := by decide +kernel
theorem dX7_orders_64 : decode cX7_orders 64 = .ok (.iconst 1, 1) := by decide +kernel
theorem dX7_orders_65 : decode cX7_orders 65 = .ok (.iadd, 1) := by decide +kernel
theorem dX7_orders_66 : decode cX7_orders 66 = .ok (.invokestatic 314, 3) := by decide +kernel
theorem dX7_orders_69 : decode cX7_orders 69 = .ok (.if_icmp .ge 66, 3) := by decide +kernel
theorem dX7_orders_135 : decode cX7_orders 135 = .ok (.iload_n 2, 1) := by decide +kernel
theorem dX7_orders_136 : decode cX7_orders 136 = .ok (.ifCond .ne 8, 3) := by decide +kernel
theorem dX7_orders_144 : decode cX7_orders 144 = .ok (.iload 5, 2) := by decide +kernel
theorem dX7_orders_146 : decode cX7_orders 146 = .ok (.ireturn, 1) := by decide +kernel
theorem dX7_orders_139 : decode cX7_orders 139 = .ok (.iload 4, 2) := by decide +kernel
theorem dX7_orders_141 : decode cX7_orders 141 = .ok (.goto 5, 3) := by decide +kernel
theorem dX7_orders_72 : decode cX7_orders 72 = .ok (.aload_n 0, 1) := by decide +kernel
theorem dX7_orders_73 : decode cX7_orders 73 = .ok (.iload 6, 2) := by decide +kernel
theorem dX7_orders_75 : decode cX7_orders 75 = .ok (.aload_n 0, 1) := by decide +kernel
theorem dX7_orders_76 : decode cX7_orders 76 = .ok (.getfield 290, 3) := by decide +kernel
theorem dX7_orders_79 : decode cX7_orders 79 = .ok (.iconst 1, 1) := by decide +kernel
theorem dX7_orders_80 : decode cX7_orders 80 = .ok (.iadd, 1) := by decide +kernel
theorem dX7_orders_81 : decode cX7_orders 81 = .ok (.invokevirtual 317, 3) := by decide +kernel
theorem dX7_orders_84 : decode cX7_orders 84 = .ok (.aload_n 0, 1) := by decide +kernel
theorem dX7_orders_85 : decode cX7_orders 85 = .ok (.aload_n 0, 1) := by decide +kernel
theorem dX7_orders_86 : decode cX7_orders 86 = .ok (.getfield 290, 3) := by decide +kernel
theorem dX7_orders_89 : decode cX7_orders 89 = .ok (.iconst 1, 1) := by decide +kernel
theorem dX7_orders_90 : decode cX7_orders 90 = .ok (.iadd, 1) := by decide +kernel
theorem dX7_orders_91 : decode cX7_orders 91 = .ok (.iload_n 1, 1) := by decide +kernel
theorem dX7_orders_92 : decode cX7_orders 92 = .ok (.invokevirtual 319, 3) := by decide +kernel
theorem dX7_orders_95 : decode cX7_orders 95 = .ok (.ifCond .eq 34, 3) := by decide +kernel
theorem dX7_orders_98 : decode cX7_orders 98 = .ok (.aload_n 0, 1) := by decide +kernel
theorem dX7_orders_99 : decode cX7_orders 99 = .ok (.aload_n 0, 1) := by decide +kernel
theorem dX7_orders_100 : decode cX7_orders 100 = .ok (.getfield 290, 3) := by decide +kernel
theorem dX7_orders_103 : decode cX7_orders 103 = .ok (.iconst 1, 1) := by decide +kernel
theorem dX7_orders_104 : decode cX7_orders 104 = .ok (.iadd, 1) := by decide +kernel
theorem dX7_orders_105 : decode cX7_orders 105 = .ok (.invokevirtual 322, 3) := by decide +kernel
theorem dX7_orders_108 : decode cX7_orders 108 = .ok (.iinc 4 1, 3) := by decide +kernel
theorem dX7_orders_111 : decode cX7_orders 111 = .ok (.iload 5, 2) := by decide +kernel
theorem dX7_orders_113 : decode cX7_orders 113 = .ok (.aload_n 0, 1) := by decide +kernel
theorem dX7_orders_114 : decode cX7_orders 114 = .ok (.iload_n 3, 1) := by decide +kernel
theorem dX7_orders_115 : decode cX7_orders 115 = .ok (.invokevirtual 328, 3) := by decide +kernel
theorem dX7_orders_118 : decode cX7_orders 118 = .ok (.ifCond .eq 7, 3) := by decide +kernel
theorem dX7_orders_121 : decode cX7_orders 121 = .ok (.iconst 1, 1) := by decide +kernel
theorem dX7_orders_122 : decode cX7_orders 122 = .ok (.goto 4, 3) := by decide +kernel
theorem dX7_orders_126 : decode cX7_orders 126 = .ok (.iadd, 1) := by decide +kernel
theorem dX7_orders_127 : decode cX7_orders 127 = .ok (.istore 5, 2) := by decide +kernel
theorem dX7_orders_129 : decode cX7_orders 129 = .ok (.iinc 6 1, 3) := by decide +kernel
theorem dX7_orders_132 : decode cX7_orders 132 = .ok (.goto (-78), 3) := by decide +kernel
theorem dX7_orders_125 : decode cX7_orders 125 = .ok (.iconst 0, 1) := by decide +kernel
theorem dX7_orders_0 : decode cX7_orders 0 = .ok (.iload_n 1, 1) := by decide +kernel
theorem dX7_orders_1 : decode cX7_orders 1 = .ok (.iconst 0, 1) := by decide +kernel
theorem dX7_orders_2 : decode cX7_orders 2 = .ok (.aload_n 0, 1) := by decide +kernel
theorem dX7_orders_3 : decode cX7_orders 3 = .ok (.getfield 290, 3) := by decide +kernel
theorem dX7_orders_6 : decode cX7_orders 6 = .ok (.iconst 1, 1) := by decide +kernel
theorem dX7_orders_7 : decode cX7_orders 7 = .ok (.isub, 1) := by decide +kernel
theorem dX7_orders_8 : decode cX7_orders 8 = .ok (.invokestatic 171, 3) := by decide +kernel
theorem dX7_orders_11 : decode cX7_orders 11 = .ok (.ifCond .eq 12, 3) := by decide +kernel
theorem dX7_orders_14 : decode cX7_orders 14 = .ok (.iload_n 2, 1) := by decide +kernel
theorem dX7_orders_15 : decode cX7_orders 15 = .ok (.iconst 0, 1) := by decide +kernel
theorem dX7_orders_16 : decode cX7_orders 16 = .ok (.iconst 1, 1) := by decide +kernel
theorem dX7_orders_17 : decode cX7_orders 17 = .ok (.invokestatic 171, 3) := by decide +kernel
theorem dX7_orders_20 : decode cX7_orders 20 = .ok (.ifCond .ne 5, 3) := by decide +kernel
theorem dX7_orders_25 : decode cX7_orders 25 = .ok (.aload_n 0, 1) := by decide +kernel
theorem dX7_orders_26 : decode cX7_orders 26 = .ok (.getfield 290, 3) := by decide +kernel
theorem dX7_orders_29 : decode cX7_orders 29 = .ok (.iconst 2, 1) := by decide +kernel
theorem dX7_orders_30 : decode cX7_orders 30 = .ok (.iconst 4, 1) := by decide +kernel
theorem dX7_orders_31 : decode cX7_orders 31 = .ok (.invokestatic 171, 3) := by decide +kernel
theorem dX7_orders_34 : decode cX7_orders 34 = .ok (.ifCond .ne 6, 3) := by decide +kernel
theorem dX7_orders_40 : decode cX7_orders 40 = .ok (.aload_n 0, 1) := by decide +kernel
theorem dX7_orders_41 : decode cX7_orders 41 = .ok (.invokevirtual 325, 3) := by decide +kernel
theorem dX7_orders_44 : decode cX7_orders 44 = .ok (.istore_n 3, 1) := by decide +kernel
theorem dX7_orders_45 : decode cX7_orders 45 = .ok (.iconst 0, 1) := by decide +kernel
theorem dX7_orders_46 : decode cX7_orders 46 = .ok (.istore 4, 2) := by decide +kernel
theorem dX7_orders_48 : decode cX7_orders 48 = .ok (.iconst 0, 1) := by decide +kernel
theorem dX7_orders_49 : decode cX7_orders 49 = .ok (.istore 5, 2) := by decide +kernel
theorem dX7_orders_51 : decode cX7_orders 51 = .ok (.iconst 0, 1) := by decide +kernel
theorem dX7_orders_52 : decode cX7_orders 52 = .ok (.istore 6, 2) := by decide +kernel
theorem dX7_orders_37 : decode cX7_orders 37 = .ok (.bipush (-3), 2) := by decide +kernel
theorem dX7_orders_39 : decode cX7_orders 39 = .ok (.ireturn, 1) := by decide +kernel
theorem dX7_orders_23 : decode cX7_orders 23 = .ok (.iconst (-1), 1) := by decide +kernel
theorem dX7_orders_24 : decode cX7_orders 24 = .ok (.ireturn, 1) := by decide +kernel
abbrev md_m_onces2 : Nat → Nat → Bool := mdf [(8, 21), (8, 49), (8, 50), (8, 51), (8, 52), (40, 99), (50, 99), (51, 99), (52, 99), (54, 99), (55, 99), (56, 99), (58, 99)]
theorem mdle_m_onces2_m_does {r k : Nat} (h : md_m_onces2 r k = false) : md_m_does r k = false := mdf_le (by decide +kernel) h
theorem mdle_m_onces2_m_readsX {r k : Nat} (h : md_m_onces2 r k = false) : md_m_readsX r k = false := mdf_le (by decide +kernel) h
set_option maxHeartbeats 4000000 in
set_option maxRecDepth 100000 in
theorem lt_m_onces2_b (l : Launch) (D : va_G) (cI cZ cS cR : ClassId) (N0 : NT) (g : GS) (h : Nat) (r_h : g.1 h = 8) (kr : g.2.1 h 30 = .int 2) (hw : PX 48 2 3 71 72 g h) {p : Program} {e : Env} {s : State} {m : MethodId} {args : Array Value} {below : List Frame} {meth : Method} {c : Code} (hB : Tz p s m meth c args cX7_onces 4 RX7 D cI cZ cS cR N0) (hr : meth.sig.returnType = (some .int)) (nn : Int32) (xx : Int32) (l_nn : 0 ≤ nn.toInt) (u_nn : nn.toInt ≤ 23) (l_xx : 0 ≤ xx.toInt) (u_xx : xx.toInt ≤ 3) (K : ∀ (g1 : GS)   (H : Heap) (locs : List Loc) (ls : Array Slot), Tv D cI cZ cS cR N0 s.heap H locs g1 → Inv g1 → Ex g g1 → Sm md_m_onces2 g g1 → lv_has ls 4 [(1, .int nn), (2, .int xx), (0, .ref h)] → W p l e (rmx 8 0 0) s m args below meth c H locs 0 0 (MQ below (tQ D cI cZ cS cR N0 (fun v g' => ∃ (r : Int32), v = some (.int r) ∧ Inv g' ∧ Ex g g' ∧ Sm md_m_onces2 g g' ∧ (0 ≤ r.toInt ∧ r.toInt ≤ 24))) args s 0 0 (fun q => N0.1 ≤ q)) (F0 m 82 ls [])) : ∀ (kf : Nat) (g1 : GS) (i : Int32)  (H : Heap) (locs : List Loc) (ls : Array Slot), Tv D cI cZ cS cR N0 s.heap H locs g1 → Inv g1 → Ex g g1 → Sm md_m_onces2 g g1 → 0 ≤ i.toInt → i.toInt ≤ 24 → (24 ≤ i.toInt + kf) → lv_has ls 4 [(3, .int i), (1, .int nn), (2, .int xx), (0, .ref h)] → W p l e (rmx 8 0 0) s m args below meth c H locs 0 0 (MQ below (tQ D cI cZ cS cR N0 (fun v g' => ∃ (r : Int32), v = some (.int r) ∧ Inv g' ∧ Ex g g' ∧ Sm md_m_onces2 g g' ∧ (0 ≤ r.toInt ∧ r.toInt ≤ 24))) args s 0 0 (fun q => N0.1 ≤ q)) (F0 m 50 ls []) := by
  have hx := hB.1
  have hb := hB.2.1
  intro kf
  induction kf using Nat.strongRecOn with
  | ind kf ih =>
    intro g1 i H locs ls hT hI hE hM l_i u_i hk hl
    have r_1 : g1.1 h = 8 := Ex.r hE r_h (by decide)
    have kn_2 : g1.2.1 h 30 = .int 2 := Sm.v hM r_h (by decide) rfl kr
    refine lv_iload_n hx hb dX7_onces_50 rfl (lv_at hl 0 rfl) ?_
    refine lv_bipush (v := 24) hx hb dX7_onces_51 (by decide) ?_
    refine lv_icmp_ge (tgt := 82) hx hb dX7_onces_53 (by decide) (fun c_3 => ?_) (fun c_3 => ?_)
    · have c_3' : 24 ≤ i.toInt := i_le c_3 (by decide) rfl
      exact K g1 H locs ls hT hI hE hM (lv_sub hl [1, 2, 3] rfl)
    · have c_3' : i.toInt < 24 := i_nle c_3 (by decide) rfl
      refine lv_aload_n hx hb dX7_onces_56 rfl (lv_at hl 3 rfl) ?_
      obtain ⟨v_4, e_v_4, r_v_4, n_v_4⟩ := f_8_62 hI r_1
      refine t_get (ci := 7) (v := .ref v_4) hB hT (ro_ci r_1 rfl) rfl 62 (by decide) k_807 e_v_4 dX7_onces_57 ?_
      refine lv_bipush (v := 24) hx hb dX7_onces_60 (by decide) ?_
      refine lv_iload_n hx hb dX7_onces_62 rfl (lv_at hl 1 rfl) ?_
      refine lv_imul hx hb dX7_onces_63 ?_
      refine lv_topi (fun z_5 ez_5 => ?_)
      have e_z_5 : z_5.toInt = 24 * nn.toInt := i_mul ez_5 (by decide) rfl (by omega) (by omega)
      refine lv_iload_n hx hb dX7_onces_64 rfl (lv_at hl 0 rfl) ?_
      refine lv_iadd hx hb dX7_onces_65 ?_
      refine lv_topi (fun z_6 ez_6 => ?_)
      have e_z_6 : z_6.toInt = z_5.toInt + i.toInt := i_add ez_6 rfl rfl (by omega) (by omega)
      refine lv_aload_n hx hb dX7_onces_66 rfl (lv_at hl 3 rfl) ?_
      obtain ⟨v_7, e_v_7, r_v_7, n_v_7⟩ := f_8_7 hI r_1
      refine t_get (ci := 7) (v := .ref v_7) hB hT (ro_ci r_1 rfl) rfl 7 (by decide) k_752 e_v_7 dX7_onces_67 ?_
      refine lv_bipush (v := 24) hx hb dX7_onces_70 (by decide) ?_
      refine lv_iload_n hx hb dX7_onces_72 rfl (lv_at hl 0 rfl) ?_
      refine lv_iadd hx hb dX7_onces_73 ?_
      refine lv_topi (fun z_8 ez_8 => ?_)
      have e_z_8 : z_8.toInt = 24 + i.toInt := i_add ez_8 (by decide) rfl (by omega) (by omega)
      have i_u_9 : vp_in z_8 48 := (i_in (n := 48) rfl (by omega) (by omega))
      refine t_iald hB hT (ro_in r_v_7 (by decide)) n_v_7 i_u_9 rfl dX7_onces_74 ?_
      have c_u_9 := hI.c r_v_7 n_v_7 (i_cl i_u_9)
      refine lv_topi (fun u_9 e_u_9 => ?_)
      obtain ⟨l_u_9, u_u_9⟩ := c_u_9
      rw [← e_u_9] at l_u_9 u_u_9
      have i_10 : vp_in z_6 624 := (i_in (n := 624) rfl (by omega) (by omega))
      refine t_iast hB hT (ro_in r_v_4 (by decide)) n_v_4 i_10 dX7_onces_75 (fun H locs hT => ?_)
      have hI : Inv (sC g1 v_4 z_6.toNatClampNeg u_9) := hI.sC (ck r_v_4 trivial)
      have hM : Sm md_m_onces2 g (sC g1 v_4 z_6.toNatClampNeg u_9) := hM.tr hE (Sm_sC (by rw [r_v_4]; rfl))
      have hE : Ex g (sC g1 v_4 z_6.toNatClampNeg u_9) := hE
      obtain ⟨z_11, ez_11⟩ : ∃ z : Int32, z = i + 1 := ⟨_, rfl⟩
      have e_z_11 : z_11.toInt = i.toInt + 1 := i_add ez_11 rfl (by decide) (by omega) (by omega)
      refine lv_iinc (v := z_11) (lv' := [(3, .int z_11), (1, .int nn), (2, .int xx), (0, .ref h)]) hx hb dX7_onces_76 hl (k := 0) rfl (by rw [ez_11]; rfl) (by decide) rfl (fun ls hl => ?_)
      refine lv_goto (tgt := 50) hx hb dX7_onces_79 (by decide) ?_
      exact ih (kf - 1) (by omega) (sC g1 v_4 z_6.toNatClampNeg u_9) z_11 H locs ls hT hI hE hM (by omega) (by omega) (by have e0_ : (0 : Int32).toInt = 0 := (by decide); omega) (lv_sub hl [0, 1, 2, 3] rfl)
set_option maxHeartbeats 4000000 in
set_option maxRecDepth 100000 in
theorem lt_m_onces2_c (l : Launch) (D : va_G) (cI cZ cS cR : ClassId) (N0 : NT) (g : GS) (h : Nat) (r_h : g.1 h = 8) (kr : g.2.1 h 30 = .int 2) (hw : PX 48 2 3 71 72 g h) {p : Program} {e : Env} {s : State} {m : MethodId} {args : Array Value} {below : List Frame} {meth : Method} {c : Code} (hB : Tz p s m meth c args cX7_onces 4 RX7 D cI cZ cS cR N0) (hr : meth.sig.returnType = (some .int)) (nn : Int32) (xx : Int32) (l_nn : 0 ≤ nn.toInt) (u_nn : nn.toInt ≤ 23) (l_xx : 0 ≤ xx.toInt) (u_xx : xx.toInt ≤ 3) (K : ∀ (g1 : GS)   (H : Heap) (locs : List Loc) (ls : Array Slot), Tv D cI cZ cS cR N0 s.heap H locs g1 → Inv g1 → Ex g g1 → Sm md_m_onces2 g g1 → lv_has ls 4 [(1, .int nn), (2, .int xx), (0, .ref h)] → W p l e (rmx 8 0 0) s m args below meth c H locs 0 0 (MQ below (tQ D cI cZ cS cR N0 (fun v g' => ∃ (r : Int32), v = some (.int r) ∧ Inv g' ∧ Ex g g' ∧ Sm md_m_onces2 g g' ∧ (0 ≤ r.toInt ∧ r.toInt ≤ 24))) args s 0 0 (fun q => N0.1 ≤ q)) (F0 m 110 ls [])) : ∀ (kf : Nat) (g1 : GS) (i : Int32)  (H : Heap) (locs : List Loc) (ls : Array Slot), Tv D cI cZ cS cR N0 s.heap H locs g1 → Inv g1 → Ex g g1 → Sm md_m_onces2 g g1 → 0 ≤ i.toInt → i.toInt ≤ 1000 → (1000 ≤ i.toInt + kf) → lv_has ls 4 [(3, .int i), (1, .int nn), (2, .int xx), (0, .ref h)] → W p l e (rmx 8 0 0) s m args below meth c H locs 0 0 (MQ below (tQ D cI cZ cS cR N0 (fun v g' => ∃ (r : Int32), v = some (.int r) ∧ Inv g' ∧ Ex g g' ∧ Sm md_m_onces2 g g' ∧ (0 ≤ r.toInt ∧ r.toInt ≤ 24))) args s 0 0 (fun q => N0.1 ≤ q)) (F0 m 84 ls []) := by
  have hx := hB.1
  have hb := hB.2.1
  intro kf
  induction kf using Nat.strongRecOn with
  | ind kf ih =>
    intro g1 i H locs ls hT hI hE hM l_i u_i hk hl
    have r_1 : g1.1 h = 8 := Ex.r hE r_h (by decide)
    have kn_2 : g1.2.1 h 30 = .int 2 := Sm.v hM r_h (by decide) rfl kr
    refine lv_iload_n hx hb dX7_onces_84 rfl (lv_at hl 0 rfl) ?_
    refine lv_sipush (v := 1000) hx hb dX7_onces_85 (by decide) ?_
    refine lv_icmp_ge (tgt := 110) hx hb dX7_onces_88 (by decide) (fun c_3 => ?_) (fun c_3 => ?_)
    · have c_3' : 1000 ≤ i.toInt := i_le c_3 (by decide) rfl
      exact K g1 H locs ls hT hI hE hM (lv_sub hl [1, 2, 3] rfl)
    · have c_3' : i.toInt < 1000 := i_nle c_3 (by decide) rfl
      refine lv_aload_n hx hb dX7_onces_91 rfl (lv_at hl 3 rfl) ?_
      obtain ⟨v_4, e_v_4, r_v_4, n_v_4⟩ := f_8_63 hI r_1
      refine t_get (ci := 7) (v := .ref v_4) hB hT (ro_ci r_1 rfl) rfl 63 (by decide) k_808 e_v_4 dX7_onces_92 ?_
      refine lv_sipush (v := 1000) hx hb dX7_onces_95 (by decide) ?_
      refine lv_iload_n hx hb dX7_onces_98 rfl (lv_at hl 1 rfl) ?_
      refine lv_imul hx hb dX7_onces_99 ?_
      refine lv_topi (fun z_5 ez_5 => ?_)
      have e_z_5 : z_5.toInt = 1000 * nn.toInt := i_mul ez_5 (by decide) rfl (by omega) (by omega)
      refine lv_iload_n hx hb dX7_onces_100 rfl (lv_at hl 0 rfl) ?_
      refine lv_iadd hx hb dX7_onces_101 ?_
      refine lv_topi (fun z_6 ez_6 => ?_)
      have e_z_6 : z_6.toInt = z_5.toInt + i.toInt := i_add ez_6 rfl rfl (by omega) (by omega)
      refine lv_iconst (v := 0) hx hb dX7_onces_102 (by decide) ?_
      have i_7 : vp_in z_6 24000 := (i_in (n := 24000) rfl (by omega) (by omega))
      refine t_iast hB hT (ro_in r_v_4 (by decide)) n_v_4 i_7 dX7_onces_103 (fun H locs hT => ?_)
      have hI : Inv (sC g1 v_4 z_6.toNatClampNeg (0 : Int32)) := hI.sC (ck r_v_4 trivial)
      have hM : Sm md_m_onces2 g (sC g1 v_4 z_6.toNatClampNeg (0 : Int32)) := hM.tr hE (Sm_sC (by rw [r_v_4]; rfl))
      have hE : Ex g (sC g1 v_4 z_6.toNatClampNeg (0 : Int32)) := hE
      obtain ⟨z_8, ez_8⟩ : ∃ z : Int32, z = i + 1 := ⟨_, rfl⟩
      have e_z_8 : z_8.toInt = i.toInt + 1 := i_add ez_8 rfl (by decide) (by omega) (by omega)
      refine lv_iinc (v := z_8) (lv' := [(3, .int z_8), (1, .int nn), (2, .int xx), (0, .ref h)]) hx hb dX7_onces_104 hl (k := 0) rfl (by rw [ez_8]; rfl) (by decide) rfl (fun ls hl => ?_)
      refine lv_goto (tgt := 84) hx hb dX7_onces_107 (by decide) ?_
      exact ih (kf - 1) (by omega) (sC g1 v_4 z_6.toNatClampNeg (0 : Int32)) z_8 H locs ls hT hI hE hM (by omega) (by omega) (by have e0_ : (0 : Int32).toInt = 0 := (by decide); omega) (lv_sub hl [0, 1, 2, 3] rfl)
set_option maxHeartbeats 4000000 in
set_option maxRecDepth 100000 in
theorem lt_m_onces2_d (l : Launch) (D : va_G) (cI cZ cS cR : ClassId) (N0 : NT) (g : GS) (h : Nat) (r_h : g.1 h = 8) (kr : g.2.1 h 30 = .int 2) (hw : PX 48 2 3 71 72 g h) {p : Program} {e : Env} {s : State} {m : MethodId} {args : Array Value} {below : List Frame} {meth : Method} {c : Code} (hB : Tz p s m meth c args cX7_onces 4 RX7 D cI cZ cS cR N0) (hr : meth.sig.returnType = (some .int)) (nn : Int32) (xx : Int32) (l_nn : 0 ≤ nn.toInt) (u_nn : nn.toInt ≤ 23) (l_xx : 0 ≤ xx.toInt) (u_xx : xx.toInt ≤ 3) (K : ∀ (g1 : GS)   (H : Heap) (locs : List Loc) (ls : Array Slot), Tv D cI cZ cS cR N0 s.heap H locs g1 → Inv g1 → Ex g g1 → Sm md_m_onces2 g g1 → lv_has ls 4 [(1, .int nn), (2, .int xx), (0, .ref h)] → W p l e (rmx 8 0 0) s m args below meth c H locs 0 0 (MQ below (tQ D cI cZ cS cR N0 (fun v g' => ∃ (r : Int32), v = some (.int r) ∧ Inv g' ∧ Ex g g' ∧ Sm md_m_onces2 g g' ∧ (0 ≤ r.toInt ∧ r.toInt ≤ 24))) args s 0 0 (fun q => N0.1 ≤ q)) (F0 m 147 ls [])) : ∀ (kf : Nat) (g1 : GS) (i : Int32)  (H : Heap) (locs : List Loc) (ls : Array Slot), Tv D cI cZ cS cR N0 s.heap H locs g1 → Inv g1 → Ex g g1 → Sm md_m_onces2 g g1 → 0 ≤ i.toInt → i.toInt ≤ 1200 → (1200 ≤ i.toInt + kf) → lv_has ls 4 [(3, .int i), (1, .int nn), (2, .int xx), (0, .ref h)] → W p l e (rmx 8 0 0) s m args below meth c H locs 0 0 (MQ below (tQ D cI cZ cS cR N0 (fun v g' => ∃ (r : Int32), v = some (.int r) ∧ Inv g' ∧ Ex g g' ∧ Sm md_m_onces2 g g' ∧ (0 ≤ r.toInt ∧ r.toInt ≤ 24))) args s 0 0 (fun q => N0.1 ≤ q)) (F0 m 112 ls []) := by
  have hx := hB.1
  have hb := hB.2.1
  intro kf
  induction kf using Nat.strongRecOn with
  | ind kf ih =>
    intro g1 i H locs ls hT hI hE hM l_i u_i hk hl
    have r_1 : g1.1 h = 8 := Ex.r hE r_h (by decide)
    have kn_2 : g1.2.1 h 30 = .int 2 := Sm.v hM r_h (by decide) rfl kr
    refine lv_iload_n hx hb dX7_onces_112 rfl (lv_at hl 0 rfl) ?_
    refine lv_aload_n hx hb dX7_onces_113 rfl (lv_at hl 3 rfl) ?_
    obtain ⟨v_3, e_v_3, l_v_3, u_v_3⟩ := f_8_52 hI r_1
    refine t_get (ci := 7) (v := .int v_3) hB hT (ro_ci r_1 rfl) rfl 52 (by decide) k_797 e_v_3 dX7_onces_114 ?_
    refine lv_icmp_ge (tgt := 147) hx hb dX7_onces_117 (by decide) (fun c_4 => ?_) (fun c_4 => ?_)
    · have c_4' : v_3.toInt ≤ i.toInt := i_le c_4 rfl rfl
      exact K g1 H locs ls hT hI hE hM (lv_sub hl [1, 2, 3] rfl)
    · have c_4' : i.toInt < v_3.toInt := i_nle c_4 rfl rfl
      refine lv_aload_n hx hb dX7_onces_120 rfl (lv_at hl 3 rfl) ?_
      obtain ⟨v_5, e_v_5, r_v_5, n_v_5⟩ := f_8_63 hI r_1
      refine t_get (ci := 7) (v := .ref v_5) hB hT (ro_ci r_1 rfl) rfl 63 (by decide) k_808 e_v_5 dX7_onces_121 ?_
      refine lv_sipush (v := 1000) hx hb dX7_onces_124 (by decide) ?_
      refine lv_iload_n hx hb dX7_onces_127 rfl (lv_at hl 1 rfl) ?_
      refine lv_imul hx hb dX7_onces_128 ?_
      refine lv_topi (fun z_6 ez_6 => ?_)
      have e_z_6 : z_6.toInt = 1000 * nn.toInt := i_mul ez_6 (by decide) rfl (by omega) (by omega)
      refine lv_aload_n hx hb dX7_onces_129 rfl (lv_at hl 3 rfl) ?_
      obtain ⟨v_7, e_v_7, r_v_7, n_v_7⟩ := f_8_53 hI r_1
      refine t_get (ci := 7) (v := .ref v_7) hB hT (ro_ci r_1 rfl) rfl 53 (by decide) k_798 e_v_7 dX7_onces_130 ?_
      refine lv_iload_n hx hb dX7_onces_133 rfl (lv_at hl 0 rfl) ?_
      have i_u_8 : vp_in i 1200 := (i_in (n := 1200) rfl (by omega) (by omega))
      refine t_iald hB hT (ro_in r_v_7 (by decide)) n_v_7 i_u_8 rfl dX7_onces_134 ?_
      have c_u_8 := hI.c r_v_7 n_v_7 (i_cl i_u_8)
      refine lv_topi (fun u_8 e_u_8 => ?_)
      obtain ⟨l_u_8, u_u_8⟩ := c_u_8
      rw [← e_u_8] at l_u_8 u_u_8
      refine lv_iadd hx hb dX7_onces_135 ?_
      refine lv_topi (fun z_9 ez_9 => ?_)
      have e_z_9 : z_9.toInt = z_6.toInt + u_8.toInt := i_add ez_9 rfl rfl (by omega) (by omega)
      refine lv_dup2_11 hx hb dX7_onces_136 rfl rfl ?_
      have i_u_10 : vp_in z_9 24000 := (i_in (n := 24000) rfl (by omega) (by omega))
      refine t_iald hB hT (ro_in r_v_5 (by decide)) n_v_5 i_u_10 rfl dX7_onces_137 ?_
      refine lv_topi (fun u_10 e_u_10 => ?_)
      refine lv_iconst (v := 1) hx hb dX7_onces_138 (by decide) ?_
      refine lv_iadd hx hb dX7_onces_139 ?_
      refine lv_topi (fun z_11 ez_11 => ?_)
      have i_12 : vp_in z_9 24000 := (i_in (n := 24000) rfl (by omega) (by omega))
      refine t_iast hB hT (ro_in r_v_5 (by decide)) n_v_5 i_12 dX7_onces_140 (fun H locs hT => ?_)
      have hI : Inv (sC g1 v_5 z_9.toNatClampNeg z_11) := hI.sC (ck r_v_5 trivial)
      have hM : Sm md_m_onces2 g (sC g1 v_5 z_9.toNatClampNeg z_11) := hM.tr hE (Sm_sC (by rw [r_v_5]; rfl))
      have hE : Ex g (sC g1 v_5 z_9.toNatClampNeg z_11) := hE
      obtain ⟨z_13, ez_13⟩ : ∃ z : Int32, z = i + 1 := ⟨_, rfl⟩
      have e_z_13 : z_13.toInt = i.toInt + 1 := i_add ez_13 rfl (by decide) (by omega) (by omega)
      refine lv_iinc (v := z_13) (lv' := [(3, .int z_13), (1, .int nn), (2, .int xx), (0, .ref h)]) hx hb dX7_onces_141 hl (k := 0) rfl (by rw [ez_13]; rfl) (by decide) rfl (fun ls hl => ?_)
      refine lv_goto (tgt := 112) hx hb dX7_onces_144 (by decide) ?_
      exact ih (kf - 1) (by omega) (sC g1 v_5 z_9.toNatClampNeg z_11) z_13 H locs ls hT hI hE hM (by omega) (by omega) (by have e0_ : (0 : Int32).toInt = 0 := (by decide); omega) (lv_sub hl [0, 1, 2, 3] rfl)
set_option maxHeartbeats 4000000 in
set_option maxRecDepth 100000 in
theorem lt_m_onces2_a (l : Launch) (D : va_G) (cI cZ cS cR : ClassId) (N0 : NT) (g : GS) (h : Nat) (r_h : g.1 h = 8) (kr : g.2.1 h 30 = .int 2) (hw : PX 48 2 3 71 72 g h) {p : Program} {e : Env} {s : State} {m : MethodId} {args : Array Value} {below : List Frame} {meth : Method} {c : Code} (hB : Tz p s m meth c args cX7_onces 4 RX7 D cI cZ cS cR N0) (hr : meth.sig.returnType = (some .int))    : ∀ (kf : Nat) (g1 : GS) (nn : Int32) (xx : Int32)  (H : Heap) (locs : List Loc) (ls : Array Slot), Tv D cI cZ cS cR N0 s.heap H locs g1 → Inv g1 → Ex g g1 → Sm md_m_onces2 g g1 → 0 ≤ nn.toInt → nn.toInt ≤ 24 → 0 ≤ xx.toInt → xx.toInt ≤ 4 → (nn.toNatClampNeg ≤ pC 2 xx.toNatClampNeg) → (4 ≤ xx.toInt + kf) → lv_has ls 4 [(1, .int nn), (2, .int xx), (0, .ref h)] → W p l e (rmx 8 0 0) s m args below meth c H locs 0 0 (MQ below (tQ D cI cZ cS cR N0 (fun v g' => ∃ (r : Int32), v = some (.int r) ∧ Inv g' ∧ Ex g g' ∧ Sm md_m_onces2 g g' ∧ (0 ≤ r.toInt ∧ r.toInt ≤ 24))) args s 0 0 (fun q => N0.1 ≤ q)) (F0 m 4 ls []) := by
  have hx := hB.1
  have hb := hB.2.1
  intro kf
  induction kf using Nat.strongRecOn with
  | ind kf ih =>
    intro g1 nn xx H locs ls hT hI hE hM l_nn u_nn l_xx u_xx hp hk hl
    have r_1 : g1.1 h = 8 := Ex.r hE r_h (by decide)
    have kn_2 : g1.2.1 h 30 = .int 2 := Sm.v hM r_h (by decide) rfl kr
    refine lv_iload_n hx hb dX7_onces_4 rfl (lv_at hl 1 rfl) ?_
    refine lv_aload_n hx hb dX7_onces_5 rfl (lv_at hl 2 rfl) ?_
    refine t_get (ci := 7) (v := .int 2) hB hT (ro_ci r_1 rfl) rfl 30 (by decide) k_775 kn_2 dX7_onces_6 ?_
    refine lv_aload_n hx hb dX7_onces_9 rfl (lv_at hl 2 rfl) ?_
    refine t_get (ci := 7) (v := .int 2) hB hT (ro_ci r_1 rfl) rfl 30 (by decide) k_775 kn_2 dX7_onces_10 ?_
    refine t_callS (n := 2) (As := [.int 2, .int 2]) (rest := [.int xx]) hB hT hl.1 (m_power2 l D cI cZ cS cR N0 g1 hI  ) k_1134 k_65 k_1132 k_1133 (by decide +kernel) ⟨(Nat.le_of_ble_eq_true rfl), (Nat.le_of_ble_eq_true rfl)⟩ rfl (Nat.le_of_ble_eq_true rfl) ⟨(Nat.le_of_ble_eq_true rfl), (Nat.le_of_ble_eq_true rfl)⟩ dX7_onces_13 (fun v g_3 H locs hp hT => ?_)
    obtain ⟨rfl, eg⟩ := hp
    rw [eg] at hT
    clear eg
    refine W.eq (g2 := F0 m 16 ls [.int 4, .int xx]) rfl ?_
    refine lv_icmp_ge (tgt := 156) hx hb dX7_onces_16 (by decide) (fun c_6 => ?_) (fun c_6 => ?_)
    · have c_6' : 4 ≤ xx.toInt := i_le c_6 (by decide) rfl
      refine lv_iload_n hx hb dX7_onces_156 rfl (lv_at hl 0 rfl) ?_
      exact t_iret hB hr hT (Nat.le_of_ble_eq_true rfl) (Nat.le_of_ble_eq_true rfl) dX7_onces_157 ⟨nn, rfl, hI, hE, hM, ⟨by omega, by omega⟩⟩
    · have c_6' : xx.toInt < 4 := i_nle c_6 (by decide) rfl
      refine lv_aload_n hx hb dX7_onces_19 rfl (lv_at hl 2 rfl) ?_
      refine lv_iload_n hx hb dX7_onces_20 rfl (lv_at hl 1 rfl) ?_
      refine lv_aload_n hx hb dX7_onces_21 rfl (lv_at hl 2 rfl) ?_
      refine t_get (ci := 7) (v := .int 2) hB hT (ro_ci r_1 rfl) rfl 30 (by decide) k_775 kn_2 dX7_onces_22 ?_
      obtain ⟨v_7, e_v_7, r_v_7, n_v_7⟩ := f_8_61 hI r_1
      refine t_callV (n := 2) (As := [.int xx, .int 2]) (rest := []) (ci := 7) hB hT hl.1 (m_readsX l D cI cZ cS cR N0 g1 hI h xx 2 v_7 2 r_1 r_v_7 n_v_7 e_v_7 kn_2 (by have q0 : (2 : Int32).toInt = 2 := (by decide); omega) (by have q0 : (2 : Int32).toInt = 2 := (by decide); omega) (by have q0 : (2 : Int32).toInt = 2 := (by decide); omega) (by have q0 : (2 : Int32).toInt = 2 := (by decide); omega) (by have q0 : (2 : Int32).toInt = 2 := (by decide); omega) (by have q0 : (2 : Int32).toInt = 2 := (by decide); omega)) (ro_ci r_1 rfl) rfl k_1138 k_65 k_1135 k_1137 k_50 (by decide +kernel) ⟨(Nat.le_of_ble_eq_true rfl), (Nat.le_of_ble_eq_true rfl)⟩ rfl (Nat.le_of_ble_eq_true rfl) ⟨(Nat.le_of_ble_eq_true rfl), (Nat.le_of_ble_eq_true rfl)⟩ dX7_onces_25 (fun v g_8 H locs hp hT => ?_)
      obtain ⟨rfl, hI, x_11, m_10, f_9⟩ := hp
      have hM : Sm md_m_onces2 g g_8 := hM.tr hE (m_10.mo (fun r k h => mdle_m_onces2_m_readsX h))
      have hE : Ex g g_8 := hE.tr x_11
      have r_12 : g_8.1 h = 8 := (Ex.r x_11 r_1 (by decide))
      have r_13 : g_8.1 v_7 = 52 := (Ex.r x_11 r_v_7 (by decide))
      have n_14 : g_8.2.2.1 v_7 = 5 := (Ex.n x_11 r_v_7 (by decide) n_v_7)
      have kn_15 : g_8.2.1 h 30 = .int 2 := (Sm.v m_10 r_1 (by decide) rfl kn_2)
      have kn_16 : g_8.2.1 h 61 = .ref v_7 := (Sm.v m_10 r_1 (by decide) rfl e_v_7)
      refine W.eq (g2 := F0 m 28 ls []) rfl ?_
      have qc_17 : (2 : Int32).toInt = 2 := (by decide)
      refine lv_aload_n hx hb dX7_onces_28 rfl (lv_at hl 2 rfl) ?_
      refine lv_aload_n hx hb dX7_onces_29 rfl (lv_at hl 2 rfl) ?_
      refine t_get (ci := 7) (v := .int 2) hB hT (ro_ci r_12 rfl) rfl 30 (by decide) k_775 kn_15 dX7_onces_30 ?_
      refine lv_iconst (v := (-1)) hx hb dX7_onces_33 (by decide) ?_
      refine t_callV (n := 2) (As := [.int 2, .int (-1)]) (rest := []) (ci := 7) hB hT hl.1 (m_isOrder l D cI cZ cS cR N0 g_8 hI h 2 (-1) v_7 2 r_12 r_13 n_14 kn_16 kn_15 (by have q0 : ((-1) : Int32).toInt = (-1) := (by decide); have q1 : (2 : Int32).toInt = 2 := (by decide); omega) (by have q0 : ((-1) : Int32).toInt = (-1) := (by decide); have q1 : (2 : Int32).toInt = 2 := (by decide); omega) (by have q0 : ((-1) : Int32).toInt = (-1) := (by decide); have q1 : (2 : Int32).toInt = 2 := (by decide); omega) (by have q0 : ((-1) : Int32).toInt = (-1) := (by decide); have q1 : (2 : Int32).toInt = 2 := (by decide); omega)) (ro_ci r_12 rfl) rfl k_1142 k_65 k_1139 k_1141 k_51 (by decide +kernel) ⟨(Nat.le_of_ble_eq_true rfl), (Nat.le_of_ble_eq_true rfl)⟩ rfl (Nat.le_of_ble_eq_true rfl) ⟨(Nat.le_of_ble_eq_true rfl), (Nat.le_of_ble_eq_true rfl)⟩ dX7_onces_34 (fun v g_18 H locs hp hT => ?_)
      obtain ⟨r_19, rfl, eg, f_20⟩ := hp
      rw [eg] at hT
      clear eg
      refine W.eq (g2 := F0 m 37 ls [.int r_19]) rfl ?_
      have qc_23 : ((-1) : Int32).toInt = (-1) := (by decide)
      have qc_24 : (2 : Int32).toInt = 2 := (by decide)
      rcases f_20 with ⟨rfl, hw_25⟩ | rfl
      · refine W.eq (g2 := F0 m 37 ls [.int 1]) rfl ?_
        refine lv_if_eq (tgt := 150) hx hb dX7_onces_37 (by decide) (fun c_ => absurd c_ (by decide)) (fun c_ => ?_)
        have a0_ := i_nn (x := xx) (by omega)
        have a1_ := i_nn (x := nn) (by omega)
        have hpc := pC_in (M := 4) hp (pB_of (z := 2) (n := 2) (by decide) hw_25 (by decide) f_9 (by omega)) (by omega) pC_2
        refine lv_aload_n hx hb dX7_onces_40 rfl (lv_at hl 2 rfl) ?_
        refine lv_aload_n hx hb dX7_onces_41 rfl (lv_at hl 2 rfl) ?_
        refine t_get (ci := 7) (v := .int 2) hB hT (ro_ci r_12 rfl) rfl 30 (by decide) k_775 kn_15 dX7_onces_42 ?_
        refine t_callV (n := 1) (As := [.int 2]) (rest := []) (ci := 7) hB hT hl.1 (m_does l D cI cZ cS cR N0 g_8 hI h 2 r_12 (by have q0 : (2 : Int32).toInt = 2 := (by decide); omega) (by have q0 : (2 : Int32).toInt = 2 := (by decide); omega) (hw.mono hM hE r_h (by decide) (by decide) rfl rfl rfl rfl)) (ro_ci r_12 rfl) rfl k_1146 k_65 k_1143 k_1145 k_52 (by decide +kernel) ⟨(Nat.le_of_ble_eq_true rfl), (Nat.le_of_ble_eq_true rfl)⟩ rfl (Nat.le_of_ble_eq_true rfl) ⟨(Nat.le_of_ble_eq_true rfl), (Nat.le_of_ble_eq_true rfl)⟩ dX7_onces_45 (fun v g_26 H locs hp hT => ?_)
        obtain ⟨rfl, hI, x_28, m_27⟩ := hp
        have hM : Sm md_m_onces2 g g_26 := hM.tr hE (m_27.mo (fun r k h => mdle_m_onces2_m_does h))
        have hE : Ex g g_26 := hE.tr x_28
        have r_29 : g_26.1 h = 8 := (Ex.r x_28 r_12 (by decide))
        have r_30 : g_26.1 v_7 = 52 := (Ex.r x_28 r_13 (by decide))
        have n_31 : g_26.2.2.1 v_7 = 5 := (Ex.n x_28 r_13 (by decide) n_14)
        have kn_32 : g_26.2.1 h 30 = .int 2 := (Sm.v m_27 r_12 (by decide) rfl kn_15)
        have kn_33 : g_26.2.1 h 61 = .ref v_7 := (Sm.v m_27 r_12 (by decide) rfl kn_16)
        refine W.eq (g2 := F0 m 48 ls []) rfl ?_
        refine lv_iconst (v := 0) hx hb dX7_onces_48 (by decide) ?_
        refine lv_istore_n (lv' := [(3, .int 0), (1, .int nn), (2, .int xx), (0, .ref h)]) hx hb dX7_onces_49 rfl hl (by decide) rfl (fun ls hl => ?_)
        refine lt_m_onces2_b l D cI cZ cS cR N0 g h r_h kr hw hB hr nn xx (by omega) (by omega) (by omega) (by omega) (fun g1_b_34 H locs ls hT hI hE hM hl => ?_) 24 g_26 (0 : Int32) H locs ls hT hI hE hM (by decide) (by decide) (by have e0_ : (0 : Int32).toInt = 0 := (by decide); omega) (lv_sub hl [0, 1, 2, 3] rfl)
        have r_35 : g1_b_34.1 h = 8 := Ex.r hE r_h (by decide)
        have kn_36 : g1_b_34.2.1 h 30 = .int 2 := Sm.v hM r_h (by decide) rfl kr
        refine lv_iconst (v := 0) hx hb dX7_onces_82 (by decide) ?_
        refine lv_istore_n (lv' := [(3, .int 0), (1, .int nn), (2, .int xx), (0, .ref h)]) hx hb dX7_onces_83 rfl hl (by decide) rfl (fun ls hl => ?_)
        refine lt_m_onces2_c l D cI cZ cS cR N0 g h r_h kr hw hB hr nn xx (by omega) (by omega) (by omega) (by omega) (fun g1_b_37 H locs ls hT hI hE hM hl => ?_) 1000 g1_b_34 (0 : Int32) H locs ls hT hI hE hM (by decide) (by decide) (by have e0_ : (0 : Int32).toInt = 0 := (by decide); omega) (lv_sub hl [0, 1, 2, 3] rfl)
        have r_38 : g1_b_37.1 h = 8 := Ex.r hE r_h (by decide)
        have kn_39 : g1_b_37.2.1 h 30 = .int 2 := Sm.v hM r_h (by decide) rfl kr
        refine lv_iconst (v := 0) hx hb dX7_onces_110 (by decide) ?_
        refine lv_istore_n (lv' := [(3, .int 0), (1, .int nn), (2, .int xx), (0, .ref h)]) hx hb dX7_onces_111 rfl hl (by decide) rfl (fun ls hl => ?_)
        refine lt_m_onces2_d l D cI cZ cS cR N0 g h r_h kr hw hB hr nn xx (by omega) (by omega) (by omega) (by omega) (fun g1_b_40 H locs ls hT hI hE hM hl => ?_) 1200 g1_b_37 (0 : Int32) H locs ls hT hI hE hM (by decide) (by decide) (by have e0_ : (0 : Int32).toInt = 0 := (by decide); omega) (lv_sub hl [0, 1, 2, 3] rfl)
        have r_41 : g1_b_40.1 h = 8 := Ex.r hE r_h (by decide)
        have kn_42 : g1_b_40.2.1 h 30 = .int 2 := Sm.v hM r_h (by decide) rfl kr
        obtain ⟨z_43, ez_43⟩ : ∃ z : Int32, z = nn + 1 := ⟨_, rfl⟩
        have e_z_43 : z_43.toInt = nn.toInt + 1 := i_add ez_43 rfl (by decide) (by omega) (by omega)
        refine lv_iinc (v := z_43) (lv' := [(1, .int z_43), (2, .int xx), (0, .ref h)]) hx hb dX7_onces_147 hl (k := 0) rfl (by rw [ez_43]; rfl) (by decide) rfl (fun ls hl => ?_)
        obtain ⟨z_44, ez_44⟩ : ∃ z : Int32, z = xx + 1 := ⟨_, rfl⟩
        have e_z_44 : z_44.toInt = xx.toInt + 1 := i_add ez_44 rfl (by decide) (by omega) (by omega)
        refine lv_iinc (v := z_44) (lv' := [(2, .int z_44), (1, .int z_43), (0, .ref h)]) hx hb dX7_onces_150 hl (k := 1) rfl (by rw [ez_44]; rfl) (by decide) rfl (fun ls hl => ?_)
        refine lv_goto (tgt := 4) hx hb dX7_onces_153 (by decide) ?_
        exact ih (kf - 1) (by omega) g1_b_40 z_43 z_44 H locs ls hT hI hE hM (by omega) (by omega) (by omega) (by omega) (by have a1_ := i_nn (x := xx) (by omega); have a2_ := i_nn (x := z_44) (by omega); have a3_ : z_44.toNatClampNeg = xx.toNatClampNeg + 1 := (by omega); have a4_ := i_nn (x := nn) (by omega); have a5_ := i_nn (x := z_43) (by omega); rw [a3_]; have a6_ := hpc.2; omega) (by have e0_ : (0 : Int32).toInt = 0 := (by decide); omega) (lv_sub hl [1, 0, 2] rfl)
      · refine W.eq (g2 := F0 m 37 ls [.int 0]) rfl ?_
        refine lv_if_eq (tgt := 150) hx hb dX7_onces_37 (by decide) (fun c_ => ?_) (fun c_ => absurd (by decide) c_)
        obtain ⟨z_45, ez_45⟩ : ∃ z : Int32, z = xx + 1 := ⟨_, rfl⟩
        have e_z_45 : z_45.toInt = xx.toInt + 1 := i_add ez_45 rfl (by decide) (by omega) (by omega)
        refine lv_iinc (v := z_45) (lv' := [(2, .int z_45), (1, .int nn), (0, .ref h)]) hx hb dX7_onces_150 hl (k := 1) rfl (by rw [ez_45]; rfl) (by decide) rfl (fun ls hl => ?_)
        refine lv_goto (tgt := 4) hx hb dX7_onces_153 (by decide) ?_
        exact ih (kf - 1) (by omega) g_8 nn z_45 H locs ls hT hI hE hM (by omega) (by omega) (by omega) (by omega) (by have a1_ := i_nn (x := xx) (by omega); have a2_ := i_nn (x := z_45) (by omega); have a3_ : z_45.toNatClampNeg = xx.toNatClampNeg + 1 := (by omega); rw [a3_]; exact pC_no hp) (by have e0_ : (0 : Int32).toInt = 0 := (by decide); omega) (lv_sub hl [1, 0, 2] rfl)
set_option maxHeartbeats 4000000 in
set_option maxRecDepth 100000 in
theorem m_onces2 (l : Launch) (D : va_G) (cI cZ cS cR : ClassId) (N0 : NT) (g : GS) (hI : Inv g) (h : Nat) (r_h : g.1 h = 8) (kr : g.2.1 h 30 = .int 2) (hw : PX 48 2 3 71 72 g h) : Ty l D cI cZ cS cR N0 yX7_onces cX7_onces 4 (some .int) 8 0 0 [.ref h] g (fun v g' => ∃ (r : Int32), v = some (.int r) ∧ Inv g' ∧ Ex g g' ∧ Sm md_m_onces2 g g' ∧ (0 ≤ r.toInt ∧ r.toInt ≤ 24)) := by
  refine t_enter (by decide) (Nat.le_of_ble_eq_true rfl) ?_
  intro p e s m args below meth c ls H locs hB hr hin hl hT
  have hx := hB.1
  have hb := hB.2.1
  have hl : lv_has ls 4 [(0, .ref h)] := hl
  have hE : Ex g g := Ex.rf
  have hM : Sm md_m_onces2 g g := Sm.rf
  refine lv_iconst (v := 0) hx hb dX7_onces_0 (by decide) ?_
  refine lv_istore_n (lv' := [(1, .int 0), (0, .ref h)]) hx hb dX7_onces_1 rfl hl (by decide) rfl (fun ls hl => ?_)
  refine lv_iconst (v := 0) hx hb dX7_onces_2 (by decide) ?_
  refine lv_istore_n (lv' := [(2, .int 0), (1, .int 0), (0, .ref h)]) hx hb dX7_onces_3 rfl hl (by decide) rfl (fun ls hl => ?_)
  exact lt_m_onces2_a l D cI cZ cS cR N0 g h r_h kr hw hB hr   4 g (0 : Int32) (0 : Int32) H locs ls hT hI hE hM (by decide) (by decide) (by decide) (by decide) (by exact Nat.zero_le _) (by have e0_ : (0 : Int32).toInt = 0 := (by decide); omega) (lv_sub hl [1, 0, 2] rfl)
abbrev md_m_onces3 : Nat → Nat → Bool := mdf [(8, 21), (8, 49), (8, 50), (8, 51), (8, 52), (40, 99), (50, 99), (51, 99), (52, 99), (54, 99), (55, 99), (56, 99), (58, 99)]
theorem mdle_m_onces3_m_does {r k : Nat} (h : md_m_onces3 r k = false) : md_m_does r k = false := mdf_le (by decide +kernel) h
theorem mdle_m_onces3_m_readsX {r k : Nat} (h : md_m_onces3 r k = false) : md_m_readsX r k = false := mdf_le (by decide +kernel) h
set_option maxHeartbeats 4000000 in
set_option maxRecDepth 100000 in
theorem lt_m_onces3_b (l : Launch) (D : va_G) (cI cZ cS cR : ClassId) (N0 : NT) (g : GS) (h : Nat) (r_h : g.1 h = 8) (kr : g.2.1 h 30 = .int 3) (hw : PX 48 2 3 71 72 g h) {p : Program} {e : Env} {s : State} {m : MethodId} {args : Array Value} {below : List Frame} {meth : Method} {c : Code} (hB : Tz p s m meth c args cX7_onces 4 RX7 D cI cZ cS cR N0) (hr : meth.sig.returnType = (some .int)) (nn : Int32) (xx : Int32) (l_nn : 0 ≤ nn.toInt) (u_nn : nn.toInt ≤ 23) (l_xx : 0 ≤ xx.toInt) (u_xx : xx.toInt ≤ 26) (K : ∀ (g1 : GS)   (H : Heap) (locs : List Loc) (ls : Array Slot), Tv D cI cZ cS cR N0 s.heap H locs g1 → Inv g1 → Ex g g1 → Sm md_m_onces3 g g1 → lv_has ls 4 [(1, .int nn), (2, .int xx), (0, .ref h)] → W p l e (rmx 8 0 0) s m args below meth c H locs 0 0 (MQ below (tQ D cI cZ cS cR N0 (fun v g' => ∃ (r : Int32), v = some (.int r) ∧ Inv g' ∧ Ex g g' ∧ Sm md_m_onces3 g g' ∧ (0 ≤ r.toInt ∧ r.toInt ≤ 24))) args s 0 0 (fun q => N0.1 ≤ q)) (F0 m 82 ls [])) : ∀ (kf : Nat) (g1 : GS) (i : Int32)  (H : Heap) (locs : List Loc) (ls : Array Slot), Tv D cI cZ cS cR N0 s.heap H locs g1 → Inv g1 → Ex g g1 → Sm md_m_onces3 g g1 → 0 ≤ i.toInt → i.toInt ≤ 24 → (24 ≤ i.toInt + kf) → lv_has ls 4 [(3, .int i), (1, .int nn), (2, .int xx), (0, .ref h)] → W p l e (rmx 8 0 0) s m args below meth c H locs 0 0 (MQ below (tQ D cI cZ cS cR N0 (fun v g' => ∃ (r : Int32), v = some (.int r) ∧ Inv g' ∧ Ex g g' ∧ Sm md_m_onces3 g g' ∧ (0 ≤ r.toInt ∧ r.toInt ≤ 24))) args s 0 0 (fun q => N0.1 ≤ q)) (F0 m 50 ls []) := by
  have hx := hB.1
  have hb := hB.2.1
  intro kf
  induction kf using Nat.strongRecOn with
  | ind kf ih =>
    intro g1 i H locs ls hT hI hE hM l_i u_i hk hl
    have r_1 : g1.1 h = 8 := Ex.r hE r_h (by decide)
    have kn_2 : g1.2.1 h 30 = .int 3 := Sm.v hM r_h (by decide) rfl kr
    refine lv_iload_n hx hb dX7_onces_50 rfl (lv_at hl 0 rfl) ?_
    refine lv_bipush (v := 24) hx hb dX7_onces_51 (by decide) ?_
    refine lv_icmp_ge (tgt := 82) hx hb dX7_onces_53 (by decide) (fun c_3 => ?_) (fun c_3 => ?_)
    · have c_3' : 24 ≤ i.toInt := i_le c_3 (by decide) rfl
      exact K g1 H locs ls hT hI hE hM (lv_sub hl [1, 2, 3] rfl)
    · have c_3' : i.toInt < 24 := i_nle c_3 (by decide) rfl
      refine lv_aload_n hx hb dX7_onces_56 rfl (lv_at hl 3 rfl) ?_
      obtain ⟨v_4, e_v_4, r_v_4, n_v_4⟩ := f_8_62 hI r_1
      refine t_get (ci := 7) (v := .ref v_4) hB hT (ro_ci r_1 rfl) rfl 62 (by decide) k_807 e_v_4 dX7_onces_57 ?_
      refine lv_bipush (v := 24) hx hb dX7_onces_60 (by decide) ?_
      refine lv_iload_n hx hb dX7_onces_62 rfl (lv_at hl 1 rfl) ?_
      refine lv_imul hx hb dX7_onces_63 ?_
      refine lv_topi (fun z_5 ez_5 => ?_)
      have e_z_5 : z_5.toInt = 24 * nn.toInt := i_mul ez_5 (by decide) rfl (by omega) (by omega)
      refine lv_iload_n hx hb dX7_onces_64 rfl (lv_at hl 0 rfl) ?_
      refine lv_iadd hx hb dX7_onces_65 ?_
      refine lv_topi (fun z_6 ez_6 => ?_)
      have e_z_6 : z_6.toInt = z_5.toInt + i.toInt := i_add ez_6 rfl rfl (by omega) (by omega)
      refine lv_aload_n hx hb dX7_onces_66 rfl (lv_at hl 3 rfl) ?_
      obtain ⟨v_7, e_v_7, r_v_7, n_v_7⟩ := f_8_7 hI r_1
      refine t_get (ci := 7) (v := .ref v_7) hB hT (ro_ci r_1 rfl) rfl 7 (by decide) k_752 e_v_7 dX7_onces_67 ?_
      refine lv_bipush (v := 24) hx hb dX7_onces_70 (by decide) ?_
      refine lv_iload_n hx hb dX7_onces_72 rfl (lv_at hl 0 rfl) ?_
      refine lv_iadd hx hb dX7_onces_73 ?_
      refine lv_topi (fun z_8 ez_8 => ?_)
      have e_z_8 : z_8.toInt = 24 + i.toInt := i_add ez_8 (by decide) rfl (by omega) (by omega)
      have i_u_9 : vp_in z_8 48 := (i_in (n := 48) rfl (by omega) (by omega))
      refine t_iald hB hT (ro_in r_v_7 (by decide)) n_v_7 i_u_9 rfl dX7_onces_74 ?_
      have c_u_9 := hI.c r_v_7 n_v_7 (i_cl i_u_9)
      refine lv_topi (fun u_9 e_u_9 => ?_)
      obtain ⟨l_u_9, u_u_9⟩ := c_u_9
      rw [← e_u_9] at l_u_9 u_u_9
      have i_10 : vp_in z_6 624 := (i_in (n := 624) rfl (by omega) (by omega))
      refine t_iast hB hT (ro_in r_v_4 (by decide)) n_v_4 i_10 dX7_onces_75 (fun H locs hT => ?_)
      have hI : Inv (sC g1 v_4 z_6.toNatClampNeg u_9) := hI.sC (ck r_v_4 trivial)
      have hM : Sm md_m_onces3 g (sC g1 v_4 z_6.toNatClampNeg u_9) := hM.tr hE (Sm_sC (by rw [r_v_4]; rfl))
      have hE : Ex g (sC g1 v_4 z_6.toNatClampNeg u_9) := hE
      obtain ⟨z_11, ez_11⟩ : ∃ z : Int32, z = i + 1 := ⟨_, rfl⟩
      have e_z_11 : z_11.toInt = i.toInt + 1 := i_add ez_11 rfl (by decide) (by omega) (by omega)
      refine lv_iinc (v := z_11) (lv' := [(3, .int z_11), (1, .int nn), (2, .int xx), (0, .ref h)]) hx hb dX7_onces_76 hl (k := 0) rfl (by rw [ez_11]; rfl) (by decide) rfl (fun ls hl => ?_)
      refine lv_goto (tgt := 50) hx hb dX7_onces_79 (by decide) ?_
      exact ih (kf - 1) (by omega) (sC g1 v_4 z_6.toNatClampNeg u_9) z_11 H locs ls hT hI hE hM (by omega) (by omega) (by have e0_ : (0 : Int32).toInt = 0 := (by decide); omega) (lv_sub hl [0, 1, 2, 3] rfl)
set_option maxHeartbeats 4000000 in
set_option maxRecDepth 100000 in
theorem lt_m_onces3_c (l : Launch) (D : va_G) (cI cZ cS cR : ClassId) (N0 : NT) (g : GS) (h : Nat) (r_h : g.1 h = 8) (kr : g.2.1 h 30 = .int 3) (hw : PX 48 2 3 71 72 g h) {p : Program} {e : Env} {s : State} {m : MethodId} {args : Array Value} {below : List Frame} {meth : Method} {c : Code} (hB : Tz p s m meth c args cX7_onces 4 RX7 D cI cZ cS cR N0) (hr : meth.sig.returnType = (some .int)) (nn : Int32) (xx : Int32) (l_nn : 0 ≤ nn.toInt) (u_nn : nn.toInt ≤ 23) (l_xx : 0 ≤ xx.toInt) (u_xx : xx.toInt ≤ 26) (K : ∀ (g1 : GS)   (H : Heap) (locs : List Loc) (ls : Array Slot), Tv D cI cZ cS cR N0 s.heap H locs g1 → Inv g1 → Ex g g1 → Sm md_m_onces3 g g1 → lv_has ls 4 [(1, .int nn), (2, .int xx), (0, .ref h)] → W p l e (rmx 8 0 0) s m args below meth c H locs 0 0 (MQ below (tQ D cI cZ cS cR N0 (fun v g' => ∃ (r : Int32), v = some (.int r) ∧ Inv g' ∧ Ex g g' ∧ Sm md_m_onces3 g g' ∧ (0 ≤ r.toInt ∧ r.toInt ≤ 24))) args s 0 0 (fun q => N0.1 ≤ q)) (F0 m 110 ls [])) : ∀ (kf : Nat) (g1 : GS) (i : Int32)  (H : Heap) (locs : List Loc) (ls : Array Slot), Tv D cI cZ cS cR N0 s.heap H locs g1 → Inv g1 → Ex g g1 → Sm md_m_onces3 g g1 → 0 ≤ i.toInt → i.toInt ≤ 1000 → (1000 ≤ i.toInt + kf) → lv_has ls 4 [(3, .int i), (1, .int nn), (2, .int xx), (0, .ref h)] → W p l e (rmx 8 0 0) s m args below meth c H locs 0 0 (MQ below (tQ D cI cZ cS cR N0 (fun v g' => ∃ (r : Int32), v = some (.int r) ∧ Inv g' ∧ Ex g g' ∧ Sm md_m_onces3 g g' ∧ (0 ≤ r.toInt ∧ r.toInt ≤ 24))) args s 0 0 (fun q => N0.1 ≤ q)) (F0 m 84 ls []) := by
  have hx := hB.1
  have hb := hB.2.1
  intro kf
  induction kf using Nat.strongRecOn with
  | ind kf ih =>
    intro g1 i H locs ls hT hI hE hM l_i u_i hk hl
    have r_1 : g1.1 h = 8 := Ex.r hE r_h (by decide)
    have kn_2 : g1.2.1 h 30 = .int 3 := Sm.v hM r_h (by decide) rfl kr
    refine lv_iload_n hx hb dX7_onces_84 rfl (lv_at hl 0 rfl) ?_
    refine lv_sipush (v := 1000) hx hb dX7_onces_85 (by decide) ?_
    refine lv_icmp_ge (tgt := 110) hx hb dX7_onces_88 (by decide) (fun c_3 => ?_) (fun c_3 => ?_)
    · have c_3' : 1000 ≤ i.toInt := i_le c_3 (by decide) rfl
      exact K g1 H locs ls hT hI hE hM (lv_sub hl [1, 2, 3] rfl)
    · have c_3' : i.toInt < 1000 := i_nle c_3 (by decide) rfl
      refine lv_aload_n hx hb dX7_onces_91 rfl (lv_at hl 3 rfl) ?_
      obtain ⟨v_4, e_v_4, r_v_4, n_v_4⟩ := f_8_63 hI r_1
      refine t_get (ci := 7) (v := .ref v_4) hB hT (ro_ci r_1 rfl) rfl 63 (by decide) k_808 e_v_4 dX7_onces_92 ?_
      refine lv_sipush (v := 1000) hx hb dX7_onces_95 (by decide) ?_
      refine lv_iload_n hx hb dX7_onces_98 rfl (lv_at hl 1 rfl) ?_
      refine lv_imul hx hb dX7_onces_99 ?_
      refine lv_topi (fun z_5 ez_5 => ?_)
      have e_z_5 : z_5.toInt = 1000 * nn.toInt := i_mul ez_5 (by decide) rfl (by omega) (by omega)
      refine lv_iload_n hx hb dX7_onces_100 rfl (lv_at hl 0 rfl) ?_
      refine lv_iadd hx hb dX7_onces_101 ?_
      refine lv_topi (fun z_6 ez_6 => ?_)
      have e_z_6 : z_6.toInt = z_5.toInt + i.toInt := i_add ez_6 rfl rfl (by omega) (by omega)
      refine lv_iconst (v := 0) hx hb dX7_onces_102 (by decide) ?_
      have i_7 : vp_in z_6 24000 := (i_in (n := 24000) rfl (by omega) (by omega))
      refine t_iast hB hT (ro_in r_v_4 (by decide)) n_v_4 i_7 dX7_onces_103 (fun H locs hT => ?_)
      have hI : Inv (sC g1 v_4 z_6.toNatClampNeg (0 : Int32)) := hI.sC (ck r_v_4 trivial)
      have hM : Sm md_m_onces3 g (sC g1 v_4 z_6.toNatClampNeg (0 : Int32)) := hM.tr hE (Sm_sC (by rw [r_v_4]; rfl))
      have hE : Ex g (sC g1 v_4 z_6.toNatClampNeg (0 : Int32)) := hE
      obtain ⟨z_8, ez_8⟩ : ∃ z : Int32, z = i + 1 := ⟨_, rfl⟩
      have e_z_8 : z_8.toInt = i.toInt + 1 := i_add ez_8 rfl (by decide) (by omega) (by omega)
      refine lv_iinc (v := z_8) (lv' := [(3, .int z_8), (1, .int nn), (2, .int xx), (0, .ref h)]) hx hb dX7_onces_104 hl (k := 0) rfl (by rw [ez_8]; rfl) (by decide) rfl (fun ls hl => ?_)
      refine lv_goto (tgt := 84) hx hb dX7_onces_107 (by decide) ?_
      exact ih (kf - 1) (by omega) (sC g1 v_4 z_6.toNatClampNeg (0 : Int32)) z_8 H locs ls hT hI hE hM (by omega) (by omega) (by have e0_ : (0 : Int32).toInt = 0 := (by decide); omega) (lv_sub hl [0, 1, 2, 3] rfl)
set_option maxHeartbeats 4000000 in
set_option maxRecDepth 100000 in
theorem lt_m_onces3_d (l : Launch) (D : va_G) (cI cZ cS cR : ClassId) (N0 : NT) (g : GS) (h : Nat) (r_h : g.1 h = 8) (kr : g.2.1 h 30 = .int 3) (hw : PX 48 2 3 71 72 g h) {p : Program} {e : Env} {s : State} {m : MethodId} {args : Array Value} {below : List Frame} {meth : Method} {c : Code} (hB : Tz p s m meth c args cX7_onces 4 RX7 D cI cZ cS cR N0) (hr : meth.sig.returnType = (some .int)) (nn : Int32) (xx : Int32) (l_nn : 0 ≤ nn.toInt) (u_nn : nn.toInt ≤ 23) (l_xx : 0 ≤ xx.toInt) (u_xx : xx.toInt ≤ 26) (K : ∀ (g1 : GS)   (H : Heap) (locs : List Loc) (ls : Array Slot), Tv D cI cZ cS cR N0 s.heap H locs g1 → Inv g1 → Ex g g1 → Sm md_m_onces3 g g1 → lv_has ls 4 [(1, .int nn), (2, .int xx), (0, .ref h)] → W p l e (rmx 8 0 0) s m args below meth c H locs 0 0 (MQ below (tQ D cI cZ cS cR N0 (fun v g' => ∃ (r : Int32), v = some (.int r) ∧ Inv g' ∧ Ex g g' ∧ Sm md_m_onces3 g g' ∧ (0 ≤ r.toInt ∧ r.toInt ≤ 24))) args s 0 0 (fun q => N0.1 ≤ q)) (F0 m 147 ls [])) : ∀ (kf : Nat) (g1 : GS) (i : Int32)  (H : Heap) (locs : List Loc) (ls : Array Slot), Tv D cI cZ cS cR N0 s.heap H locs g1 → Inv g1 → Ex g g1 → Sm md_m_onces3 g g1 → 0 ≤ i.toInt → i.toInt ≤ 1200 → (1200 ≤ i.toInt + kf) → lv_has ls 4 [(3, .int i), (1, .int nn), (2, .int xx), (0, .ref h)] → W p l e (rmx 8 0 0) s m args below meth c H locs 0 0 (MQ below (tQ D cI cZ cS cR N0 (fun v g' => ∃ (r : Int32), v = some (.int r) ∧ Inv g' ∧ Ex g g' ∧ Sm md_m_onces3 g g' ∧ (0 ≤ r.toInt ∧ r.toInt ≤ 24))) args s 0 0 (fun q => N0.1 ≤ q)) (F0 m 112 ls []) := by
  have hx := hB.1
  have hb := hB.2.1
  intro kf
  induction kf using Nat.strongRecOn with
  | ind kf ih =>
    intro g1 i H locs ls hT hI hE hM l_i u_i hk hl
    have r_1 : g1.1 h = 8 := Ex.r hE r_h (by decide)
    have kn_2 : g1.2.1 h 30 = .int 3 := Sm.v hM r_h (by decide) rfl kr
    refine lv_iload_n hx hb dX7_onces_112 rfl (lv_at hl 0 rfl) ?_
    refine lv_aload_n hx hb dX7_onces_113 rfl (lv_at hl 3 rfl) ?_
    obtain ⟨v_3, e_v_3, l_v_3, u_v_3⟩ := f_8_52 hI r_1
    refine t_get (ci := 7) (v := .int v_3) hB hT (ro_ci r_1 rfl) rfl 52 (by decide) k_797 e_v_3 dX7_onces_114 ?_
    refine lv_icmp_ge (tgt := 147) hx hb dX7_onces_117 (by decide) (fun c_4 => ?_) (fun c_4 => ?_)
    · have c_4' : v_3.toInt ≤ i.toInt := i_le c_4 rfl rfl
      exact K g1 H locs ls hT hI hE hM (lv_sub hl [1, 2, 3] rfl)
    · have c_4' : i.toInt < v_3.toInt := i_nle c_4 rfl rfl
      refine lv_aload_n hx hb dX7_onces_120 rfl (lv_at hl 3 rfl) ?_
      obtain ⟨v_5, e_v_5, r_v_5, n_v_5⟩ := f_8_63 hI r_1
      refine t_get (ci := 7) (v := .ref v_5) hB hT (ro_ci r_1 rfl) rfl 63 (by decide) k_808 e_v_5 dX7_onces_121 ?_
      refine lv_sipush (v := 1000) hx hb dX7_onces_124 (by decide) ?_
      refine lv_iload_n hx hb dX7_onces_127 rfl (lv_at hl 1 rfl) ?_
      refine lv_imul hx hb dX7_onces_128 ?_
      refine lv_topi (fun z_6 ez_6 => ?_)
      have e_z_6 : z_6.toInt = 1000 * nn.toInt := i_mul ez_6 (by decide) rfl (by omega) (by omega)
      refine lv_aload_n hx hb dX7_onces_129 rfl (lv_at hl 3 rfl) ?_
      obtain ⟨v_7, e_v_7, r_v_7, n_v_7⟩ := f_8_53 hI r_1
      refine t_get (ci := 7) (v := .ref v_7) hB hT (ro_ci r_1 rfl) rfl 53 (by decide) k_798 e_v_7 dX7_onces_130 ?_
      refine lv_iload_n hx hb dX7_onces_133 rfl (lv_at hl 0 rfl) ?_
      have i_u_8 : vp_in i 1200 := (i_in (n := 1200) rfl (by omega) (by omega))
      refine t_iald hB hT (ro_in r_v_7 (by decide)) n_v_7 i_u_8 rfl dX7_onces_134 ?_
      have c_u_8 := hI.c r_v_7 n_v_7 (i_cl i_u_8)
      refine lv_topi (fun u_8 e_u_8 => ?_)
      obtain ⟨l_u_8, u_u_8⟩ := c_u_8
      rw [← e_u_8] at l_u_8 u_u_8
      refine lv_iadd hx hb dX7_onces_135 ?_
      refine lv_topi (fun z_9 ez_9 => ?_)
      have e_z_9 : z_9.toInt = z_6.toInt + u_8.toInt := i_add ez_9 rfl rfl (by omega) (by omega)
      refine lv_dup2_11 hx hb dX7_onces_136 rfl rfl ?_
      have i_u_10 : vp_in z_9 24000 := (i_in (n := 24000) rfl (by omega) (by omega))
      refine t_iald hB hT (ro_in r_v_5 (by decide)) n_v_5 i_u_10 rfl dX7_onces_137 ?_
      refine lv_topi (fun u_10 e_u_10 => ?_)
      refine lv_iconst (v := 1) hx hb dX7_onces_138 (by decide) ?_
      refine lv_iadd hx hb dX7_onces_139 ?_
      refine lv_topi (fun z_11 ez_11 => ?_)
      have i_12 : vp_in z_9 24000 := (i_in (n := 24000) rfl (by omega) (by omega))
      refine t_iast hB hT (ro_in r_v_5 (by decide)) n_v_5 i_12 dX7_onces_140 (fun H locs hT => ?_)
      have hI : Inv (sC g1 v_5 z_9.toNatClampNeg z_11) := hI.sC (ck r_v_5 trivial)
      have hM : Sm md_m_onces3 g (sC g1 v_5 z_9.toNatClampNeg z_11) := hM.tr hE (Sm_sC (by rw [r_v_5]; rfl))
      have hE : Ex g (sC g1 v_5 z_9.toNatClampNeg z_11) := hE
      obtain ⟨z_13, ez_13⟩ : ∃ z : Int32, z = i + 1 := ⟨_, rfl⟩
      have e_z_13 : z_13.toInt = i.toInt + 1 := i_add ez_13 rfl (by decide) (by omega) (by omega)
      refine lv_iinc (v := z_13) (lv' := [(3, .int z_13), (1, .int nn), (2, .int xx), (0, .ref h)]) hx hb dX7_onces_141 hl (k := 0) rfl (by rw [ez_13]; rfl) (by decide) rfl (fun ls hl => ?_)
      refine lv_goto (tgt := 112) hx hb dX7_onces_144 (by decide) ?_
      exact ih (kf - 1) (by omega) (sC g1 v_5 z_9.toNatClampNeg z_11) z_13 H locs ls hT hI hE hM (by omega) (by omega) (by have e0_ : (0 : Int32).toInt = 0 := (by decide); omega) (lv_sub hl [0, 1, 2, 3] rfl)
set_option maxHeartbeats 4000000 in
set_option maxRecDepth 100000 in
theorem lt_m_onces3_a (l : Launch) (D : va_G) (cI cZ cS cR : ClassId) (N0 : NT) (g : GS) (h : Nat) (r_h : g.1 h = 8) (kr : g.2.1 h 30 = .int 3) (hw : PX 48 2 3 71 72 g h) {p : Program} {e : Env} {s : State} {m : MethodId} {args : Array Value} {below : List Frame} {meth : Method} {c : Code} (hB : Tz p s m meth c args cX7_onces 4 RX7 D cI cZ cS cR N0) (hr : meth.sig.returnType = (some .int))    : ∀ (kf : Nat) (g1 : GS) (nn : Int32) (xx : Int32)  (H : Heap) (locs : List Loc) (ls : Array Slot), Tv D cI cZ cS cR N0 s.heap H locs g1 → Inv g1 → Ex g g1 → Sm md_m_onces3 g g1 → 0 ≤ nn.toInt → nn.toInt ≤ 24 → 0 ≤ xx.toInt → xx.toInt ≤ 27 → (nn.toNatClampNeg ≤ pC 3 xx.toNatClampNeg) → (27 ≤ xx.toInt + kf) → lv_has ls 4 [(1, .int nn), (2, .int xx), (0, .ref h)] → W p l e (rmx 8 0 0) s m args below meth c H locs 0 0 (MQ below (tQ D cI cZ cS cR N0 (fun v g' => ∃ (r : Int32), v = some (.int r) ∧ Inv g' ∧ Ex g g' ∧ Sm md_m_onces3 g g' ∧ (0 ≤ r.toInt ∧ r.toInt ≤ 24))) args s 0 0 (fun q => N0.1 ≤ q)) (F0 m 4 ls []) := by
  have hx := hB.1
  have hb := hB.2.1
  intro kf
  induction kf using Nat.strongRecOn with
  | ind kf ih =>
    intro g1 nn xx H locs ls hT hI hE hM l_nn u_nn l_xx u_xx hp hk hl
    have r_1 : g1.1 h = 8 := Ex.r hE r_h (by decide)
    have kn_2 : g1.2.1 h 30 = .int 3 := Sm.v hM r_h (by decide) rfl kr
    refine lv_iload_n hx hb dX7_onces_4 rfl (lv_at hl 1 rfl) ?_
    refine lv_aload_n hx hb dX7_onces_5 rfl (lv_at hl 2 rfl) ?_
    refine t_get (ci := 7) (v := .int 3) hB hT (ro_ci r_1 rfl) rfl 30 (by decide) k_775 kn_2 dX7_onces_6 ?_
    refine lv_aload_n hx hb dX7_onces_9 rfl (lv_at hl 2 rfl) ?_
    refine t_get (ci := 7) (v := .int 3) hB hT (ro_ci r_1 rfl) rfl 30 (by decide) k_775 kn_2 dX7_onces_10 ?_
    refine t_callS (n := 2) (As := [.int 3, .int 3]) (rest := [.int xx]) hB hT hl.1 (m_power3 l D cI cZ cS cR N0 g1 hI  ) k_1134 k_65 k_1132 k_1133 (by decide +kernel) ⟨(Nat.le_of_ble_eq_true rfl), (Nat.le_of_ble_eq_true rfl)⟩ rfl (Nat.le_of_ble_eq_true rfl) ⟨(Nat.le_of_ble_eq_true rfl), (Nat.le_of_ble_eq_true rfl)⟩ dX7_onces_13 (fun v g_3 H locs hp hT => ?_)
    obtain ⟨rfl, eg⟩ := hp
    rw [eg] at hT
    clear eg
    refine W.eq (g2 := F0 m 16 ls [.int 27, .int xx]) rfl ?_
    refine lv_icmp_ge (tgt := 156) hx hb dX7_onces_16 (by decide) (fun c_6 => ?_) (fun c_6 => ?_)
    · have c_6' : 27 ≤ xx.toInt := i_le c_6 (by decide) rfl
      refine lv_iload_n hx hb dX7_onces_156 rfl (lv_at hl 0 rfl) ?_
      exact t_iret hB hr hT (Nat.le_of_ble_eq_true rfl) (Nat.le_of_ble_eq_true rfl) dX7_onces_157 ⟨nn, rfl, hI, hE, hM, ⟨by omega, by omega⟩⟩
    · have c_6' : xx.toInt < 27 := i_nle c_6 (by decide) rfl
      refine lv_aload_n hx hb dX7_onces_19 rfl (lv_at hl 2 rfl) ?_
      refine lv_iload_n hx hb dX7_onces_20 rfl (lv_at hl 1 rfl) ?_
      refine lv_aload_n hx hb dX7_onces_21 rfl (lv_at hl 2 rfl) ?_
      refine t_get (ci := 7) (v := .int 3) hB hT (ro_ci r_1 rfl) rfl 30 (by decide) k_775 kn_2 dX7_onces_22 ?_
      obtain ⟨v_7, e_v_7, r_v_7, n_v_7⟩ := f_8_61 hI r_1
      refine t_callV (n := 2) (As := [.int xx, .int 3]) (rest := []) (ci := 7) hB hT hl.1 (m_readsX l D cI cZ cS cR N0 g1 hI h xx 3 v_7 3 r_1 r_v_7 n_v_7 e_v_7 kn_2 (by have q0 : (3 : Int32).toInt = 3 := (by decide); omega) (by have q0 : (3 : Int32).toInt = 3 := (by decide); omega) (by have q0 : (3 : Int32).toInt = 3 := (by decide); omega) (by have q0 : (3 : Int32).toInt = 3 := (by decide); omega) (by have q0 : (3 : Int32).toInt = 3 := (by decide); omega) (by have q0 : (3 : Int32).toInt = 3 := (by decide); omega)) (ro_ci r_1 rfl) rfl k_1138 k_65 k_1135 k_1137 k_50 (by decide +kernel) ⟨(Nat.le_of_ble_eq_true rfl), (Nat.le_of_ble_eq_true rfl)⟩ rfl (Nat.le_of_ble_eq_true rfl) ⟨(Nat.le_of_ble_eq_true rfl), (Nat.le_of_ble_eq_true rfl)⟩ dX7_onces_25 (fun v g_8 H locs hp hT => ?_)
      obtain ⟨rfl, hI, x_11, m_10, f_9⟩ := hp
      have hM : Sm md_m_onces3 g g_8 := hM.tr hE (m_10.mo (fun r k h => mdle_m_onces3_m_readsX h))
      have hE : Ex g g_8 := hE.tr x_11
      have r_12 : g_8.1 h = 8 := (Ex.r x_11 r_1 (by decide))
      have r_13 : g_8.1 v_7 = 52 := (Ex.r x_11 r_v_7 (by decide))
      have n_14 : g_8.2.2.1 v_7 = 5 := (Ex.n x_11 r_v_7 (by decide) n_v_7)
      have kn_15 : g_8.2.1 h 30 = .int 3 := (Sm.v m_10 r_1 (by decide) rfl kn_2)
      have kn_16 : g_8.2.1 h 61 = .ref v_7 := (Sm.v m_10 r_1 (by decide) rfl e_v_7)
      refine W.eq (g2 := F0 m 28 ls []) rfl ?_
      have qc_17 : (3 : Int32).toInt = 3 := (by decide)
      refine lv_aload_n hx hb dX7_onces_28 rfl (lv_at hl 2 rfl) ?_
      refine lv_aload_n hx hb dX7_onces_29 rfl (lv_at hl 2 rfl) ?_
      refine t_get (ci := 7) (v := .int 3) hB hT (ro_ci r_12 rfl) rfl 30 (by decide) k_775 kn_15 dX7_onces_30 ?_
      refine lv_iconst (v := (-1)) hx hb dX7_onces_33 (by decide) ?_
      refine t_callV (n := 2) (As := [.int 3, .int (-1)]) (rest := []) (ci := 7) hB hT hl.1 (m_isOrder l D cI cZ cS cR N0 g_8 hI h 3 (-1) v_7 3 r_12 r_13 n_14 kn_16 kn_15 (by have q0 : ((-1) : Int32).toInt = (-1) := (by decide); have q1 : (3 : Int32).toInt = 3 := (by decide); omega) (by have q0 : ((-1) : Int32).toInt = (-1) := (by decide); have q1 : (3 : Int32).toInt = 3 := (by decide); omega) (by have q0 : ((-1) : Int32).toInt = (-1) := (by decide); have q1 : (3 : Int32).toInt = 3 := (by decide); omega) (by have q0 : ((-1) : Int32).toInt = (-1) := (by decide); have q1 : (3 : Int32).toInt = 3 := (by decide); omega)) (ro_ci r_12 rfl) rfl k_1142 k_65 k_1139 k_1141 k_51 (by decide +kernel) ⟨(Nat.le_of_ble_eq_true rfl), (Nat.le_of_ble_eq_true rfl)⟩ rfl (Nat.le_of_ble_eq_true rfl) ⟨(Nat.le_of_ble_eq_true rfl), (Nat.le_of_ble_eq_true rfl)⟩ dX7_onces_34 (fun v g_18 H locs hp hT => ?_)
      obtain ⟨r_19, rfl, eg, f_20⟩ := hp
      rw [eg] at hT
      clear eg
      refine W.eq (g2 := F0 m 37 ls [.int r_19]) rfl ?_
      have qc_23 : ((-1) : Int32).toInt = (-1) := (by decide)
      have qc_24 : (3 : Int32).toInt = 3 := (by decide)
      rcases f_20 with ⟨rfl, hw_25⟩ | rfl
      · refine W.eq (g2 := F0 m 37 ls [.int 1]) rfl ?_
        refine lv_if_eq (tgt := 150) hx hb dX7_onces_37 (by decide) (fun c_ => absurd c_ (by decide)) (fun c_ => ?_)
        have a0_ := i_nn (x := xx) (by omega)
        have a1_ := i_nn (x := nn) (by omega)
        have hpc := pC_in (M := 27) hp (pB_of (z := 3) (n := 3) (by decide) hw_25 (by decide) f_9 (by omega)) (by omega) pC_3
        refine lv_aload_n hx hb dX7_onces_40 rfl (lv_at hl 2 rfl) ?_
        refine lv_aload_n hx hb dX7_onces_41 rfl (lv_at hl 2 rfl) ?_
        refine t_get (ci := 7) (v := .int 3) hB hT (ro_ci r_12 rfl) rfl 30 (by decide) k_775 kn_15 dX7_onces_42 ?_
        refine t_callV (n := 1) (As := [.int 3]) (rest := []) (ci := 7) hB hT hl.1 (m_does l D cI cZ cS cR N0 g_8 hI h 3 r_12 (by have q0 : (3 : Int32).toInt = 3 := (by decide); omega) (by have q0 : (3 : Int32).toInt = 3 := (by decide); omega) (hw.mono hM hE r_h (by decide) (by decide) rfl rfl rfl rfl)) (ro_ci r_12 rfl) rfl k_1146 k_65 k_1143 k_1145 k_52 (by decide +kernel) ⟨(Nat.le_of_ble_eq_true rfl), (Nat.le_of_ble_eq_true rfl)⟩ rfl (Nat.le_of_ble_eq_true rfl) ⟨(Nat.le_of_ble_eq_true rfl), (Nat.le_of_ble_eq_true rfl)⟩ dX7_onces_45 (fun v g_26 H locs hp hT => ?_)
        obtain ⟨rfl, hI, x_28, m_27⟩ := hp
        have hM : Sm md_m_onces3 g g_26 := hM.tr hE (m_27.mo (fun r k h => mdle_m_onces3_m_does h))
        have hE : Ex g g_26 := hE.tr x_28
        have r_29 : g_26.1 h = 8 := (Ex.r x_28 r_12 (by decide))
        have r_30 : g_26.1 v_7 = 52 := (Ex.r x_28 r_13 (by decide))
        have n_31 : g_26.2.2.1 v_7 = 5 := (Ex.n x_28 r_13 (by decide) n_14)
        have kn_32 : g_26.2.1 h 30 = .int 3 := (Sm.v m_27 r_12 (by decide) rfl kn_15)
        have kn_33 : g_26.2.1 h 61 = .ref v_7 := (Sm.v m_27 r_12 (by decide) rfl kn_16)
        refine W.eq (g2 := F0 m 48 ls []) rfl ?_
        refine lv_iconst (v := 0) hx hb dX7_onces_48 (by decide) ?_
        refine lv_istore_n (lv' := [(3, .int 0), (1, .int nn), (2, .int xx), (0, .ref h)]) hx hb dX7_onces_49 rfl hl (by decide) rfl (fun ls hl => ?_)
        refine lt_m_onces3_b l D cI cZ cS cR N0 g h r_h kr hw hB hr nn xx (by omega) (by omega) (by omega) (by omega) (fun g1_b_34 H locs ls hT hI hE hM hl => ?_) 24 g_26 (0 : Int32) H locs ls hT hI hE hM (by decide) (by decide) (by have e0_ : (0 : Int32).toInt = 0 := (by decide); omega) (lv_sub hl [0, 1, 2, 3] rfl)
        have r_35 : g1_b_34.1 h = 8 := Ex.r hE r_h (by decide)
        have kn_36 : g1_b_34.2.1 h 30 = .int 3 := Sm.v hM r_h (by decide) rfl kr
        refine lv_iconst (v := 0) hx hb dX7_onces_82 (by decide) ?_
        refine lv_istore_n (lv' := [(3, .int 0), (1, .int nn), (2, .int xx), (0, .ref h)]) hx hb dX7_onces_83 rfl hl (by decide) rfl (fun ls hl => ?_)
        refine lt_m_onces3_c l D cI cZ cS cR N0 g h r_h kr hw hB hr nn xx (by omega) (by omega) (by omega) (by omega) (fun g1_b_37 H locs ls hT hI hE hM hl => ?_) 1000 g1_b_34 (0 : Int32) H locs ls hT hI hE hM (by decide) (by decide) (by have e0_ : (0 : Int32).toInt = 0 := (by decide); omega) (lv_sub hl [0, 1, 2, 3] rfl)
        have r_38 : g1_b_37.1 h = 8 := Ex.r hE r_h (by decide)
        have kn_39 : g1_b_37.2.1 h 30 = .int 3 := Sm.v hM r_h (by decide) rfl kr
        refine lv_iconst (v := 0) hx hb dX7_onces_110 (by decide) ?_
        refine lv_istore_n (lv' := [(3, .int 0), (1, .int nn), (2, .int xx), (0, .ref h)]) hx hb dX7_onces_111 rfl hl (by decide) rfl (fun ls hl => ?_)
        refine lt_m_onces3_d l D cI cZ cS cR N0 g h r_h kr hw hB hr nn xx (by omega) (by omega) (by omega) (by omega) (fun g1_b_40 H locs ls hT hI hE hM hl => ?_) 1200 g1_b_37 (0 : Int32) H locs ls hT hI hE hM (by decide) (by decide) (by have e0_ : (0 : Int32).toInt = 0 := (by decide); omega) (lv_sub hl [0, 1, 2, 3] rfl)
        have r_41 : g1_b_40.1 h = 8 := Ex.r hE r_h (by decide)
        have kn_42 : g1_b_40.2.1 h 30 = .int 3 := Sm.v hM r_h (by decide) rfl kr
        obtain ⟨z_43, ez_43⟩ : ∃ z : Int32, z = nn + 1 := ⟨_, rfl⟩
        have e_z_43 : z_43.toInt = nn.toInt + 1 := i_add ez_43 rfl (by decide) (by omega) (by omega)
        refine lv_iinc (v := z_43) (lv' := [(1, .int z_43), (2, .int xx), (0, .ref h)]) hx hb dX7_onces_147 hl (k := 0) rfl (by rw [ez_43]; rfl) (by decide) rfl (fun ls hl => ?_)
        obtain ⟨z_44, ez_44⟩ : ∃ z : Int32, z = xx + 1 := ⟨_, rfl⟩
        have e_z_44 : z_44.toInt = xx.toInt + 1 := i_add ez_44 rfl (by decide) (by omega) (by omega)
        refine lv_iinc (v := z_44) (lv' := [(2, .int z_44), (1, .int z_43), (0, .ref h)]) hx hb dX7_onces_150 hl (k := 1) rfl (by rw [ez_44]; rfl) (by decide) rfl (fun ls hl => ?_)
        refine lv_goto (tgt := 4) hx hb dX7_onces_153 (by decide) ?_
        exact ih (kf - 1) (by omega) g1_b_40 z_43 z_44 H locs ls hT hI hE hM (by omega) (by omega) (by omega) (by omega) (by have a1_ := i_nn (x := xx) (by omega); have a2_ := i_nn (x := z_44) (by omega); have a3_ : z_44.toNatClampNeg = xx.toNatClampNeg + 1 := (by omega); have a4_ := i_nn (x := nn) (by omega); have a5_ := i_nn (x := z_43) (by omega); rw [a3_]; have a6_ := hpc.2; omega) (by have e0_ : (0 : Int32).toInt = 0 := (by decide); omega) (lv_sub hl [1, 0, 2] rfl)
      · refine W.eq (g2 := F0 m 37 ls [.int 0]) rfl ?_
        refine lv_if_eq (tgt := 150) hx hb dX7_onces_37 (by decide) (fun c_ => ?_) (fun c_ => absurd (by decide) c_)
        obtain ⟨z_45, ez_45⟩ : ∃ z : Int32, z = xx + 1 := ⟨_, rfl⟩
        have e_z_45 : z_45.toInt = xx.toInt + 1 := i_add ez_45 rfl (by decide) (by omega) (by omega)
        refine lv_iinc (v := z_45) (lv' := [(2, .int z_45), (1, .int nn), (0, .ref h)]) hx hb dX7_onces_150 hl (k := 1) rfl (by rw [ez_45]; rfl) (by decide) rfl (fun ls hl => ?_)
        refine lv_goto (tgt := 4) hx hb dX7_onces_153 (by decide) ?_
        exact ih (kf - 1) (by omega) g_8 nn z_45 H locs ls hT hI hE hM (by omega) (by omega) (by omega) (by omega) (by have a1_ := i_nn (x := xx) (by omega); have a2_ := i_nn (x := z_45) (by omega); have a3_ : z_45.toNatClampNeg = xx.toNatClampNeg + 1 := (by omega); rw [a3_]; exact pC_no hp) (by have e0_ : (0 : Int32).toInt = 0 := (by decide); omega) (lv_sub hl [1, 0, 2] rfl)
set_option maxHeartbeats 4000000 in
set_option maxRecDepth 100000 in
theorem m_onces3 (l : Launch) (D : va_G) (cI cZ cS cR : ClassId) (N0 : NT) (g : GS) (hI : Inv g) (h : Nat) (r_h : g.1 h = 8) (kr : g.2.1 h 30 = .int 3) (hw : PX 48 2 3 71 72 g h) : Ty l D cI cZ cS cR N0 yX7_onces cX7_onces 4 (some .int) 8 0 0 [.ref h] g (fun v g' => ∃ (r : Int32), v = some (.int r) ∧ Inv g' ∧ Ex g g' ∧ Sm md_m_onces3 g g' ∧ (0 ≤ r.toInt ∧ r.toInt ≤ 24)) := by
  refine t_enter (by decide) (Nat.le_of_ble_eq_true rfl) ?_
  intro p e s m args below meth c ls H locs hB hr hin hl hT
  have hx := hB.1
  have hb := hB.2.1
  have hl : lv_has ls 4 [(0, .ref h)] := hl
  have hE : Ex g g := Ex.rf
  have hM : Sm md_m_onces3 g g := Sm.rf
  refine lv_iconst (v := 0) hx hb dX7_onces_0 (by decide) ?_
  refine lv_istore_n (lv' := [(1, .int 0), (0, .ref h)]) hx hb dX7_onces_1 rfl hl (by decide) rfl (fun ls hl => ?_)
  refine lv_iconst (v := 0) hx hb dX7_onces_2 (by decide) ?_
  refine lv_istore_n (lv' := [(2, .int 0), (1, .int 0), (0, .ref h)]) hx hb dX7_onces_3 rfl hl (by decide) rfl (fun ls hl => ?_)
  exact lt_m_onces3_a l D cI cZ cS cR N0 g h r_h kr hw hB hr   27 g (0 : Int32) (0 : Int32) H locs ls hT hI hE hM (by decide) (by decide) (by decide) (by decide) (by exact Nat.zero_le _) (by have e0_ : (0 : Int32).toInt = 0 := (by decide); omega) (lv_sub hl [1, 0, 2] rfl)
abbrev md_m_onces4 : Nat → Nat → Bool := mdf [(8, 21), (8, 49), (8, 50), (8, 51), (8, 52), (40, 99), (50, 99), (51, 99), (52, 99), (54, 99), (55, 99), (56, 99), (58, 99)]
theorem mdle_m_onces4_m_does {r k : Nat} (h : md_m_onces4 r k = false) : md_m_does r k = false := mdf_le (by decide +kernel) h
theorem mdle_m_onces4_m_readsX {r k : Nat} (h : md_m_onces4 r k = false) : md_m_readsX r k = false := mdf_le (by decide +kernel) h
set_option maxHeartbeats 4000000 in
set_option maxRecDepth 100000 in
theorem lt_m_onces4_b (l : Launch) (D : va_G) (cI cZ cS cR : ClassId) (N0 : NT) (g : GS) (h : Nat) (r_h : g.1 h = 8) (kr : g.2.1 h 30 = .int 4) (hw : PX 48 2 3 71 72 g h) {p : Program} {e : Env} {s : State} {m : MethodId} {args : Array Value} {below : List Frame} {meth : Method} {c : Code} (hB : Tz p s m meth c args cX7_onces 4 RX7 D cI cZ cS cR N0) (hr : meth.sig.returnType = (some .int)) (nn : Int32) (xx : Int32) (l_nn : 0 ≤ nn.toInt) (u_nn : nn.toInt ≤ 23) (l_xx : 0 ≤ xx.toInt) (u_xx : xx.toInt ≤ 255) (K : ∀ (g1 : GS)   (H : Heap) (locs : List Loc) (ls : Array Slot), Tv D cI cZ cS cR N0 s.heap H locs g1 → Inv g1 → Ex g g1 → Sm md_m_onces4 g g1 → lv_has ls 4 [(1, .int nn), (2, .int xx), (0, .ref h)] → W p l e (rmx 8 0 0) s m args below meth c H locs 0 0 (MQ below (tQ D cI cZ cS cR N0 (fun v g' => ∃ (r : Int32), v = some (.int r) ∧ Inv g' ∧ Ex g g' ∧ Sm md_m_onces4 g g' ∧ (0 ≤ r.toInt ∧ r.toInt ≤ 24))) args s 0 0 (fun q => N0.1 ≤ q)) (F0 m 82 ls [])) : ∀ (kf : Nat) (g1 : GS) (i : Int32)  (H : Heap) (locs : List Loc) (ls : Array Slot), Tv D cI cZ cS cR N0 s.heap H locs g1 → Inv g1 → Ex g g1 → Sm md_m_onces4 g g1 → 0 ≤ i.toInt → i.toInt ≤ 24 → (24 ≤ i.toInt + kf) → lv_has ls 4 [(3, .int i), (1, .int nn), (2, .int xx), (0, .ref h)] → W p l e (rmx 8 0 0) s m args below meth c H locs 0 0 (MQ below (tQ D cI cZ cS cR N0 (fun v g' => ∃ (r : Int32), v = some (.int r) ∧ Inv g' ∧ Ex g g' ∧ Sm md_m_onces4 g g' ∧ (0 ≤ r.toInt ∧ r.toInt ≤ 24))) args s 0 0 (fun q => N0.1 ≤ q)) (F0 m 50 ls []) := by
  have hx := hB.1
  have hb := hB.2.1
  intro kf
  induction kf using Nat.strongRecOn with
  | ind kf ih =>
    intro g1 i H locs ls hT hI hE hM l_i u_i hk hl
    have r_1 : g1.1 h = 8 := Ex.r hE r_h (by decide)
    have kn_2 : g1.2.1 h 30 = .int 4 := Sm.v hM r_h (by decide) rfl kr
    refine lv_iload_n hx hb dX7_onces_50 rfl (lv_at hl 0 rfl) ?_
    refine lv_bipush (v := 24) hx hb dX7_onces_51 (by decide) ?_
    refine lv_icmp_ge (tgt := 82) hx hb dX7_onces_53 (by decide) (fun c_3 => ?_) (fun c_3 => ?_)
    · have c_3' : 24 ≤ i.toInt := i_le c_3 (by decide) rfl
      exact K g1 H locs ls hT hI hE hM (lv_sub hl [1, 2, 3] rfl)
    · have c_3' : i.toInt < 24 := i_nle c_3 (by decide) rfl
      refine lv_aload_n hx hb dX7_onces_56 rfl (lv_at hl 3 rfl) ?_
      obtain ⟨v_4, e_v_4, r_v_4, n_v_4⟩ := f_8_62 hI r_1
      refine t_get (ci := 7) (v := .ref v_4) hB hT (ro_ci r_1 rfl) rfl 62 (by decide) k_807 e_v_4 dX7_onces_57 ?_
      refine lv_bipush (v := 24) hx hb dX7_onces_60 (by decide) ?_
      refine lv_iload_n hx hb dX7_onces_62 rfl (lv_at hl 1 rfl) ?_
      refine lv_imul hx hb dX7_onces_63 ?_
      refine lv_topi (fun z_5 ez_5 => ?_)
      have e_z_5 : z_5.toInt = 24 * nn.toInt := i_mul ez_5 (by decide) rfl (by omega) (by omega)
      refine lv_iload_n hx hb dX7_onces_64 rfl (lv_at hl 0 rfl) ?_
      refine lv_iadd hx hb dX7_onces_65 ?_
      refine lv_topi (fun z_6 ez_6 => ?_)
      have e_z_6 : z_6.toInt = z_5.toInt + i.toInt := i_add ez_6 rfl rfl (by omega) (by omega)
      refine lv_aload_n hx hb dX7_onces_66 rfl (lv_at hl 3 rfl) ?_
      obtain ⟨v_7, e_v_7, r_v_7, n_v_7⟩ := f_8_7 hI r_1
      refine t_get (ci := 7) (v := .ref v_7) hB hT (ro_ci r_1 rfl) rfl 7 (by decide) k_752 e_v_7 dX7_onces_67 ?_
      refine lv_bipush (v := 24) hx hb dX7_onces_70 (by decide) ?_
      refine lv_iload_n hx hb dX7_onces_72 rfl (lv_at hl 0 rfl) ?_
      refine lv_iadd hx hb dX7_onces_73 ?_
      refine lv_topi (fun z_8 ez_8 => ?_)
      have e_z_8 : z_8.toInt = 24 + i.toInt := i_add ez_8 (by decide) rfl (by omega) (by omega)
      have i_u_9 : vp_in z_8 48 := (i_in (n := 48) rfl (by omega) (by omega))
      refine t_iald hB hT (ro_in r_v_7 (by decide)) n_v_7 i_u_9 rfl dX7_onces_74 ?_
      have c_u_9 := hI.c r_v_7 n_v_7 (i_cl i_u_9)
      refine lv_topi (fun u_9 e_u_9 => ?_)
      obtain ⟨l_u_9, u_u_9⟩ := c_u_9
      rw [← e_u_9] at l_u_9 u_u_9
      have i_10 : vp_in z_6 624 := (i_in (n := 624) rfl (by omega) (by omega))
      refine t_iast hB hT (ro_in r_v_4 (by decide)) n_v_4 i_10 dX7_onces_75 (fun H locs hT => ?_)
      have hI : Inv (sC g1 v_4 z_6.toNatClampNeg u_9) := hI.sC (ck r_v_4 trivial)
      have hM : Sm md_m_onces4 g (sC g1 v_4 z_6.toNatClampNeg u_9) := hM.tr hE (Sm_sC (by rw [r_v_4]; rfl))
      have hE : Ex g (sC g1 v_4 z_6.toNatClampNeg u_9) := hE
      obtain ⟨z_11, ez_11⟩ : ∃ z : Int32, z = i + 1 := ⟨_, rfl⟩
      have e_z_11 : z_11.toInt = i.toInt + 1 := i_add ez_11 rfl (by decide) (by omega) (by omega)
      refine lv_iinc (v := z_11) (lv' := [(3, .int z_11), (1, .int nn), (2, .int xx), (0, .ref h)]) hx hb dX7_onces_76 hl (k := 0) rfl (by rw [ez_11]; rfl) (by decide) rfl (fun ls hl => ?_)
      refine lv_goto (tgt := 50) hx hb dX7_onces_79 (by decide) ?_
      exact ih (kf - 1) (by omega) (sC g1 v_4 z_6.toNatClampNeg u_9) z_11 H locs ls hT hI hE hM (by omega) (by omega) (by have e0_ : (0 : Int32).toInt = 0 := (by decide); omega) (lv_sub hl [0, 1, 2, 3] rfl)
set_option maxHeartbeats 4000000 in
set_option maxRecDepth 100000 in
theorem lt_m_onces4_c (l : Launch) (D : va_G) (cI cZ cS cR : ClassId) (N0 : NT) (g : GS) (h : Nat) (r_h : g.1 h = 8) (kr : g.2.1 h 30 = .int 4) (hw : PX 48 2 3 71 72 g h) {p : Program} {e : Env} {s : State} {m : MethodId} {args : Array Value} {below : List Frame} {meth : Method} {c : Code} (hB : Tz p s m meth c args cX7_onces 4 RX7 D cI cZ cS cR N0) (hr : meth.sig.returnType = (some .int)) (nn : Int32) (xx : Int32) (l_nn : 0 ≤ nn.toInt) (u_nn : nn.toInt ≤ 23) (l_xx : 0 ≤ xx.toInt) (u_xx : xx.toInt ≤ 255) (K : ∀ (g1 : GS)   (H : Heap) (locs : List Loc) (ls : Array Slot), Tv D cI cZ cS cR N0 s.heap H locs g1 → Inv g1 → Ex g g1 → Sm md_m_onces4 g g1 → lv_has ls 4 [(1, .int nn), (2, .int xx), (0, .ref h)] → W p l e (rmx 8 0 0) s m args below meth c H locs 0 0 (MQ below (tQ D cI cZ cS cR N0 (fun v g' => ∃ (r : Int32), v = some (.int r) ∧ Inv g' ∧ Ex g g' ∧ Sm md_m_onces4 g g' ∧ (0 ≤ r.toInt ∧ r.toInt ≤ 24))) args s 0 0 (fun q => N0.1 ≤ q)) (F0 m 110 ls [])) : ∀ (kf : Nat) (g1 : GS) (i : Int32)  (H : Heap) (locs : List Loc) (ls : Array Slot), Tv D cI cZ cS cR N0 s.heap H locs g1 → Inv g1 → Ex g g1 → Sm md_m_onces4 g g1 → 0 ≤ i.toInt → i.toInt ≤ 1000 → (1000 ≤ i.toInt + kf) → lv_has ls 4 [(3, .int i), (1, .int nn), (2, .int xx), (0, .ref h)] → W p l e (rmx 8 0 0) s m args below meth c H locs 0 0 (MQ below (tQ D cI cZ cS cR N0 (fun v g' => ∃ (r : Int32), v = some (.int r) ∧ Inv g' ∧ Ex g g' ∧ Sm md_m_onces4 g g' ∧ (0 ≤ r.toInt ∧ r.toInt ≤ 24))) args s 0 0 (fun q => N0.1 ≤ q)) (F0 m 84 ls []) := by
  have hx := hB.1
  have hb := hB.2.1
  intro kf
  induction kf using Nat.strongRecOn with
  | ind kf ih =>
    intro g1 i H locs ls hT hI hE hM l_i u_i hk hl
    have r_1 : g1.1 h = 8 := Ex.r hE r_h (by decide)
    have kn_2 : g1.2.1 h 30 = .int 4 := Sm.v hM r_h (by decide) rfl kr
    refine lv_iload_n hx hb dX7_onces_84 rfl (lv_at hl 0 rfl) ?_
    refine lv_sipush (v := 1000) hx hb dX7_onces_85 (by decide) ?_
    refine lv_icmp_ge (tgt := 110) hx hb dX7_onces_88 (by decide) (fun c_3 => ?_) (fun c_3 => ?_)
    · have c_3' : 1000 ≤ i.toInt := i_le c_3 (by decide) rfl
      exact K g1 H locs ls hT hI hE hM (lv_sub hl [1, 2, 3] rfl)
    · have c_3' : i.toInt < 1000 := i_nle c_3 (by decide) rfl
      refine lv_aload_n hx hb dX7_onces_91 rfl (lv_at hl 3 rfl) ?_
      obtain ⟨v_4, e_v_4, r_v_4, n_v_4⟩ := f_8_63 hI r_1
      refine t_get (ci := 7) (v := .ref v_4) hB hT (ro_ci r_1 rfl) rfl 63 (by decide) k_808 e_v_4 dX7_onces_92 ?_
      refine lv_sipush (v := 1000) hx hb dX7_onces_95 (by decide) ?_
      refine lv_iload_n hx hb dX7_onces_98 rfl (lv_at hl 1 rfl) ?_
      refine lv_imul hx hb dX7_onces_99 ?_
      refine lv_topi (fun z_5 ez_5 => ?_)
      have e_z_5 : z_5.toInt = 1000 * nn.toInt := i_mul ez_5 (by decide) rfl (by omega) (by omega)
      refine lv_iload_n hx hb dX7_onces_100 rfl (lv_at hl 0 rfl) ?_
      refine lv_iadd hx hb dX7_onces_101 ?_
      refine lv_topi (fun z_6 ez_6 => ?_)
      have e_z_6 : z_6.toInt = z_5.toInt + i.toInt := i_add ez_6 rfl rfl (by omega) (by omega)
      refine lv_iconst (v := 0) hx hb dX7_onces_102 (by decide) ?_
      have i_7 : vp_in z_6 24000 := (i_in (n := 24000) rfl (by omega) (by omega))
      refine t_iast hB hT (ro_in r_v_4 (by decide)) n_v_4 i_7 dX7_onces_103 (fun H locs hT => ?_)
      have hI : Inv (sC g1 v_4 z_6.toNatClampNeg (0 : Int32)) := hI.sC (ck r_v_4 trivial)
      have hM : Sm md_m_onces4 g (sC g1 v_4 z_6.toNatClampNeg (0 : Int32)) := hM.tr hE (Sm_sC (by rw [r_v_4]; rfl))
      have hE : Ex g (sC g1 v_4 z_6.toNatClampNeg (0 : Int32)) := hE
      obtain ⟨z_8, ez_8⟩ : ∃ z : Int32, z = i + 1 := ⟨_, rfl⟩
      have e_z_8 : z_8.toInt = i.toInt + 1 := i_add ez_8 rfl (by decide) (by omega) (by omega)
      refine lv_iinc (v := z_8) (lv' := [(3, .int z_8), (1, .int nn), (2, .int xx), (0, .ref h)]) hx hb dX7_onces_104 hl (k := 0) rfl (by rw [ez_8]; rfl) (by decide) rfl (fun ls hl => ?_)
      refine lv_goto (tgt := 84) hx hb dX7_onces_107 (by decide) ?_
      exact ih (kf - 1) (by omega) (sC g1 v_4 z_6.toNatClampNeg (0 : Int32)) z_8 H locs ls hT hI hE hM (by omega) (by omega) (by have e0_ : (0 : Int32).toInt = 0 := (by decide); omega) (lv_sub hl [0, 1, 2, 3] rfl)
set_option maxHeartbeats 4000000 in
set_option maxRecDepth 100000 in
theorem lt_m_onces4_d (l : Launch) (D : va_G) (cI cZ cS cR : ClassId) (N0 : NT) (g : GS) (h : Nat) (r_h : g.1 h = 8) (kr : g.2.1 h 30 = .int 4) (hw : PX 48 2 3 71 72 g h) {p : Program} {e : Env} {s : State} {m : MethodId} {args : Array Value} {below : List Frame} {meth : Method} {c : Code} (hB : Tz p s m meth c args cX7_onces 4 RX7 D cI cZ cS cR N0) (hr : meth.sig.returnType = (some .int)) (nn : Int32) (xx : Int32) (l_nn : 0 ≤ nn.toInt) (u_nn : nn.toInt ≤ 23) (l_xx : 0 ≤ xx.toInt) (u_xx : xx.toInt ≤ 255) (K : ∀ (g1 : GS)   (H : Heap) (locs : List Loc) (ls : Array Slot), Tv D cI cZ cS cR N0 s.heap H locs g1 → Inv g1 → Ex g g1 → Sm md_m_onces4 g g1 → lv_has ls 4 [(1, .int nn), (2, .int xx), (0, .ref h)] → W p l e (rmx 8 0 0) s m args below meth c H locs 0 0 (MQ below (tQ D cI cZ cS cR N0 (fun v g' => ∃ (r : Int32), v = some (.int r) ∧ Inv g' ∧ Ex g g' ∧ Sm md_m_onces4 g g' ∧ (0 ≤ r.toInt ∧ r.toInt ≤ 24))) args s 0 0 (fun q => N0.1 ≤ q)) (F0 m 147 ls [])) : ∀ (kf : Nat) (g1 : GS) (i : Int32)  (H : Heap) (locs : List Loc) (ls : Array Slot), Tv D cI cZ cS cR N0 s.heap H locs g1 → Inv g1 → Ex g g1 → Sm md_m_onces4 g g1 → 0 ≤ i.toInt → i.toInt ≤ 1200 → (1200 ≤ i.toInt + kf) → lv_has ls 4 [(3, .int i), (1, .int nn), (2, .int xx), (0, .ref h)] → W p l e (rmx 8 0 0) s m args below meth c H locs 0 0 (MQ below (tQ D cI cZ cS cR N0 (fun v g' => ∃ (r : Int32), v = some (.int r) ∧ Inv g' ∧ Ex g g' ∧ Sm md_m_onces4 g g' ∧ (0 ≤ r.toInt ∧ r.toInt ≤ 24))) args s 0 0 (fun q => N0.1 ≤ q)) (F0 m 112 ls []) := by
  have hx := hB.1
  have hb := hB.2.1
  intro kf
  induction kf using Nat.strongRecOn with
  | ind kf ih =>
    intro g1 i H locs ls hT hI hE hM l_i u_i hk hl
    have r_1 : g1.1 h = 8 := Ex.r hE r_h (by decide)
    have kn_2 : g1.2.1 h 30 = .int 4 := Sm.v hM r_h (by decide) rfl kr
    refine lv_iload_n hx hb dX7_onces_112 rfl (lv_at hl 0 rfl) ?_
    refine lv_aload_n hx hb dX7_onces_113 rfl (lv_at hl 3 rfl) ?_
    obtain ⟨v_3, e_v_3, l_v_3, u_v_3⟩ := f_8_52 hI r_1
    refine t_get (ci := 7) (v := .int v_3) hB hT (ro_ci r_1 rfl) rfl 52 (by decide) k_797 e_v_3 dX7_onces_114 ?_
    refine lv_icmp_ge (tgt := 147) hx hb dX7_onces_117 (by decide) (fun c_4 => ?_) (fun c_4 => ?_)
    · have c_4' : v_3.toInt ≤ i.toInt := i_le c_4 rfl rfl
      exact K g1 H locs ls hT hI hE hM (lv_sub hl [1, 2, 3] rfl)
    · have c_4' : i.toInt < v_3.toInt := i_nle c_4 rfl rfl
      refine lv_aload_n hx hb dX7_onces_120 rfl (lv_at hl 3 rfl) ?_
      obtain ⟨v_5, e_v_5, r_v_5, n_v_5⟩ := f_8_63 hI r_1
      refine t_get (ci := 7) (v := .ref v_5) hB hT (ro_ci r_1 rfl) rfl 63 (by decide) k_808 e_v_5 dX7_onces_121 ?_
      refine lv_sipush (v := 1000) hx hb dX7_onces_124 (by decide) ?_
      refine lv_iload_n hx hb dX7_onces_127 rfl (lv_at hl 1 rfl) ?_
      refine lv_imul hx hb dX7_onces_128 ?_
      refine lv_topi (fun z_6 ez_6 => ?_)
      have e_z_6 : z_6.toInt = 1000 * nn.toInt := i_mul ez_6 (by decide) rfl (by omega) (by omega)
      refine lv_aload_n hx hb dX7_onces_129 rfl (lv_at hl 3 rfl) ?_
      obtain ⟨v_7, e_v_7, r_v_7, n_v_7⟩ := f_8_53 hI r_1
      refine t_get (ci := 7) (v := .ref v_7) hB hT (ro_ci r_1 rfl) rfl 53 (by decide) k_798 e_v_7 dX7_onces_130 ?_
      refine lv_iload_n hx hb dX7_onces_133 rfl (lv_at hl 0 rfl) ?_
      have i_u_8 : vp_in i 1200 := (i_in (n := 1200) rfl (by omega) (by omega))
      refine t_iald hB hT (ro_in r_v_7 (by decide)) n_v_7 i_u_8 rfl dX7_onces_134 ?_
      have c_u_8 := hI.c r_v_7 n_v_7 (i_cl i_u_8)
      refine lv_topi (fun u_8 e_u_8 => ?_)
      obtain ⟨l_u_8, u_u_8⟩ := c_u_8
      rw [← e_u_8] at l_u_8 u_u_8
      refine lv_iadd hx hb dX7_onces_135 ?_
      refine lv_topi (fun z_9 ez_9 => ?_)
      have e_z_9 : z_9.toInt = z_6.toInt + u_8.toInt := i_add ez_9 rfl rfl (by omega) (by omega)
      refine lv_dup2_11 hx hb dX7_onces_136 rfl rfl ?_
      have i_u_10 : vp_in z_9 24000 := (i_in (n := 24000) rfl (by omega) (by omega))
      refine t_iald hB hT (ro_in r_v_5 (by decide)) n_v_5 i_u_10 rfl dX7_onces_137 ?_
      refine lv_topi (fun u_10 e_u_10 => ?_)
      refine lv_iconst (v := 1) hx hb dX7_onces_138 (by decide) ?_
      refine lv_iadd hx hb dX7_onces_139 ?_
      refine lv_topi (fun z_11 ez_11 => ?_)
      have i_12 : vp_in z_9 24000 := (i_in (n := 24000) rfl (by omega) (by omega))
      refine t_iast hB hT (ro_in r_v_5 (by decide)) n_v_5 i_12 dX7_onces_140 (fun H locs hT => ?_)
      have hI : Inv (sC g1 v_5 z_9.toNatClampNeg z_11) := hI.sC (ck r_v_5 trivial)
      have hM : Sm md_m_onces4 g (sC g1 v_5 z_9.toNatClampNeg z_11) := hM.tr hE (Sm_sC (by rw [r_v_5]; rfl))
      have hE : Ex g (sC g1 v_5 z_9.toNatClampNeg z_11) := hE
      obtain ⟨z_13, ez_13⟩ : ∃ z : Int32, z = i + 1 := ⟨_, rfl⟩
      have e_z_13 : z_13.toInt = i.toInt + 1 := i_add ez_13 rfl (by decide) (by omega) (by omega)
      refine lv_iinc (v := z_13) (lv' := [(3, .int z_13), (1, .int nn), (2, .int xx), (0, .ref h)]) hx hb dX7_onces_141 hl (k := 0) rfl (by rw [ez_13]; rfl) (by decide) rfl (fun ls hl => ?_)
      refine lv_goto (tgt := 112) hx hb dX7_onces_144 (by decide) ?_
      exact ih (kf - 1) (by omega) (sC g1 v_5 z_9.toNatClampNeg z_11) z_13 H locs ls hT hI hE hM (by omega) (by omega) (by have e0_ : (0 : Int32).toInt = 0 := (by decide); omega) (lv_sub hl [0, 1, 2, 3] rfl)
set_option maxHeartbeats 4000000 in
set_option maxRecDepth 100000 in
theorem lt_m_onces4_a (l : Launch) (D : va_G) (cI cZ cS cR : ClassId) (N0 : NT) (g : GS) (h : Nat) (r_h : g.1 h = 8) (kr : g.2.1 h 30 = .int 4) (hw : PX 48 2 3 71 72 g h) {p : Program} {e : Env} {s : State} {m : MethodId} {args : Array Value} {below : List Frame} {meth : Method} {c : Code} (hB : Tz p s m meth c args cX7_onces 4 RX7 D cI cZ cS cR N0) (hr : meth.sig.returnType = (some .int))    : ∀ (kf : Nat) (g1 : GS) (nn : Int32) (xx : Int32)  (H : Heap) (locs : List Loc) (ls : Array Slot), Tv D cI cZ cS cR N0 s.heap H locs g1 → Inv g1 → Ex g g1 → Sm md_m_onces4 g g1 → 0 ≤ nn.toInt → nn.toInt ≤ 24 → 0 ≤ xx.toInt → xx.toInt ≤ 256 → (nn.toNatClampNeg ≤ pC 4 xx.toNatClampNeg) → (256 ≤ xx.toInt + kf) → lv_has ls 4 [(1, .int nn), (2, .int xx), (0, .ref h)] → W p l e (rmx 8 0 0) s m args below meth c H locs 0 0 (MQ below (tQ D cI cZ cS cR N0 (fun v g' => ∃ (r : Int32), v = some (.int r) ∧ Inv g' ∧ Ex g g' ∧ Sm md_m_onces4 g g' ∧ (0 ≤ r.toInt ∧ r.toInt ≤ 24))) args s 0 0 (fun q => N0.1 ≤ q)) (F0 m 4 ls []) := by
  have hx := hB.1
  have hb := hB.2.1
  intro kf
  induction kf using Nat.strongRecOn with
  | ind kf ih =>
    intro g1 nn xx H locs ls hT hI hE hM l_nn u_nn l_xx u_xx hp hk hl
    have r_1 : g1.1 h = 8 := Ex.r hE r_h (by decide)
    have kn_2 : g1.2.1 h 30 = .int 4 := Sm.v hM r_h (by decide) rfl kr
    refine lv_iload_n hx hb dX7_onces_4 rfl (lv_at hl 1 rfl) ?_
    refine lv_aload_n hx hb dX7_onces_5 rfl (lv_at hl 2 rfl) ?_
    refine t_get (ci := 7) (v := .int 4) hB hT (ro_ci r_1 rfl) rfl 30 (by decide) k_775 kn_2 dX7_onces_6 ?_
    refine lv_aload_n hx hb dX7_onces_9 rfl (lv_at hl 2 rfl) ?_
    refine t_get (ci := 7) (v := .int 4) hB hT (ro_ci r_1 rfl) rfl 30 (by decide) k_775 kn_2 dX7_onces_10 ?_
    refine t_callS (n := 2) (As := [.int 4, .int 4]) (rest := [.int xx]) hB hT hl.1 (m_power4 l D cI cZ cS cR N0 g1 hI  ) k_1134 k_65 k_1132 k_1133 (by decide +kernel) ⟨(Nat.le_of_ble_eq_true rfl), (Nat.le_of_ble_eq_true rfl)⟩ rfl (Nat.le_of_ble_eq_true rfl) ⟨(Nat.le_of_ble_eq_true rfl), (Nat.le_of_ble_eq_true rfl)⟩ dX7_onces_13 (fun v g_3 H locs hp hT => ?_)
    obtain ⟨rfl, eg⟩ := hp
    rw [eg] at hT
    clear eg
    refine W.eq (g2 := F0 m 16 ls [.int 256, .int xx]) rfl ?_
    refine lv_icmp_ge (tgt := 156) hx hb dX7_onces_16 (by decide) (fun c_6 => ?_) (fun c_6 => ?_)
    · have c_6' : 256 ≤ xx.toInt := i_le c_6 (by decide) rfl
      refine lv_iload_n hx hb dX7_onces_156 rfl (lv_at hl 0 rfl) ?_
      exact t_iret hB hr hT (Nat.le_of_ble_eq_true rfl) (Nat.le_of_ble_eq_true rfl) dX7_onces_157 ⟨nn, rfl, hI, hE, hM, ⟨by omega, by omega⟩⟩
    · have c_6' : xx.toInt < 256 := i_nle c_6 (by decide) rfl
      refine lv_aload_n hx hb dX7_onces_19 rfl (lv_at hl 2 rfl) ?_
      refine lv_iload_n hx hb dX7_onces_20 rfl (lv_at hl 1 rfl) ?_
      refine lv_aload_n hx hb dX7_onces_21 rfl (lv_at hl 2 rfl) ?_
      refine t_get (ci := 7) (v := .int 4) hB hT (ro_ci r_1 rfl) rfl 30 (by decide) k_775 kn_2 dX7_onces_22 ?_
      obtain ⟨v_7, e_v_7, r_v_7, n_v_7⟩ := f_8_61 hI r_1
      refine t_callV (n := 2) (As := [.int xx, .int 4]) (rest := []) (ci := 7) hB hT hl.1 (m_readsX l D cI cZ cS cR N0 g1 hI h xx 4 v_7 4 r_1 r_v_7 n_v_7 e_v_7 kn_2 (by have q0 : (4 : Int32).toInt = 4 := (by decide); omega) (by have q0 : (4 : Int32).toInt = 4 := (by decide); omega) (by have q0 : (4 : Int32).toInt = 4 := (by decide); omega) (by have q0 : (4 : Int32).toInt = 4 := (by decide); omega) (by have q0 : (4 : Int32).toInt = 4 := (by decide); omega) (by have q0 : (4 : Int32).toInt = 4 := (by decide); omega)) (ro_ci r_1 rfl) rfl k_1138 k_65 k_1135 k_1137 k_50 (by decide +kernel) ⟨(Nat.le_of_ble_eq_true rfl), (Nat.le_of_ble_eq_true rfl)⟩ rfl (Nat.le_of_ble_eq_true rfl) ⟨(Nat.le_of_ble_eq_true rfl), (Nat.le_of_ble_eq_true rfl)⟩ dX7_onces_25 (fun v g_8 H locs hp hT => ?_)
      obtain ⟨rfl, hI, x_11, m_10, f_9⟩ := hp
      have hM : Sm md_m_onces4 g g_8 := hM.tr hE (m_10.mo (fun r k h => mdle_m_onces4_m_readsX h))
      have hE : Ex g g_8 := hE.tr x_11
      have r_12 : g_8.1 h = 8 := (Ex.r x_11 r_1 (by decide))
      have r_13 : g_8.1 v_7 = 52 := (Ex.r x_11 r_v_7 (by decide))
      have n_14 : g_8.2.2.1 v_7 = 5 := (Ex.n x_11 r_v_7 (by decide) n_v_7)
      have kn_15 : g_8.2.1 h 30 = .int 4 := (Sm.v m_10 r_1 (by decide) rfl kn_2)
      have kn_16 : g_8.2.1 h 61 = .ref v_7 := (Sm.v m_10 r_1 (by decide) rfl e_v_7)
      refine W.eq (g2 := F0 m 28 ls []) rfl ?_
      have qc_17 : (4 : Int32).toInt = 4 := (by decide)
      refine lv_aload_n hx hb dX7_onces_28 rfl (lv_at hl 2 rfl) ?_
      refine lv_aload_n hx hb dX7_onces_29 rfl (lv_at hl 2 rfl) ?_
      refine t_get (ci := 7) (v := .int 4) hB hT (ro_ci r_12 rfl) rfl 30 (by decide) k_775 kn_15 dX7_onces_30 ?_
      refine lv_iconst (v := (-1)) hx hb dX7_onces_33 (by decide) ?_
      refine t_callV (n := 2) (As := [.int 4, .int (-1)]) (rest := []) (ci := 7) hB hT hl.1 (m_isOrder l D cI cZ cS cR N0 g_8 hI h 4 (-1) v_7 4 r_12 r_13 n_14 kn_16 kn_15 (by have q0 : ((-1) : Int32).toInt = (-1) := (by decide); have q1 : (4 : Int32).toInt = 4 := (by decide); omega) (by have q0 : ((-1) : Int32).toInt = (-1) := (by decide); have q1 : (4 : Int32).toInt = 4 := (by decide); omega) (by have q0 : ((-1) : Int32).toInt = (-1) := (by decide); have q1 : (4 : Int32).toInt = 4 := (by decide); omega) (by have q0 : ((-1) : Int32).toInt = (-1) := (by decide); have q1 : (4 : Int32).toInt = 4 := (by decide); omega)) (ro_ci r_12 rfl) rfl k_1142 k_65 k_1139 k_1141 k_51 (by decide +kernel) ⟨(Nat.le_of_ble_eq_true rfl), (Nat.le_of_ble_eq_true rfl)⟩ rfl (Nat.le_of_ble_eq_true rfl) ⟨(Nat.le_of_ble_eq_true rfl), (Nat.le_of_ble_eq_true rfl)⟩ dX7_onces_34 (fun v g_18 H locs hp hT => ?_)
      obtain ⟨r_19, rfl, eg, f_20⟩ := hp
      rw [eg] at hT
      clear eg
      refine W.eq (g2 := F0 m 37 ls [.int r_19]) rfl ?_
      have qc_23 : ((-1) : Int32).toInt = (-1) := (by decide)
      have qc_24 : (4 : Int32).toInt = 4 := (by decide)
      rcases f_20 with ⟨rfl, hw_25⟩ | rfl
      · refine W.eq (g2 := F0 m 37 ls [.int 1]) rfl ?_
        refine lv_if_eq (tgt := 150) hx hb dX7_onces_37 (by decide) (fun c_ => absurd c_ (by decide)) (fun c_ => ?_)
        have a0_ := i_nn (x := xx) (by omega)
        have a1_ := i_nn (x := nn) (by omega)
        have hpc := pC_in (M := 256) hp (pB_of (z := 4) (n := 4) (by decide) hw_25 (by decide) f_9 (by omega)) (by omega) pC_4
        refine lv_aload_n hx hb dX7_onces_40 rfl (lv_at hl 2 rfl) ?_
        refine lv_aload_n hx hb dX7_onces_41 rfl (lv_at hl 2 rfl) ?_
        refine t_get (ci := 7) (v := .int 4) hB hT (ro_ci r_12 rfl) rfl 30 (by decide) k_775 kn_15 dX7_onces_42 ?_
        refine t_callV (n := 1) (As := [.int 4]) (rest := []) (ci := 7) hB hT hl.1 (m_does l D cI cZ cS cR N0 g_8 hI h 4 r_12 (by have q0 : (4 : Int32).toInt = 4 := (by decide); omega) (by have q0 : (4 : Int32).toInt = 4 := (by decide); omega) (hw.mono hM hE r_h (by decide) (by decide) rfl rfl rfl rfl)) (ro_ci r_12 rfl) rfl k_1146 k_65 k_1143 k_1145 k_52 (by decide +kernel) ⟨(Nat.le_of_ble_eq_true rfl), (Nat.le_of_ble_eq_true rfl)⟩ rfl (Nat.le_of_ble_eq_true rfl) ⟨(Nat.le_of_ble_eq_true rfl), (Nat.le_of_ble_eq_true rfl)⟩ dX7_onces_45 (fun v g_26 H locs hp hT => ?_)
        obtain ⟨rfl, hI, x_28, m_27⟩ := hp
        have hM : Sm md_m_onces4 g g_26 := hM.tr hE (m_27.mo (fun r k h => mdle_m_onces4_m_does h))
        have hE : Ex g g_26 := hE.tr x_28
        have r_29 : g_26.1 h = 8 := (Ex.r x_28 r_12 (by decide))
        have r_30 : g_26.1 v_7 = 52 := (Ex.r x_28 r_13 (by decide))
        have n_31 : g_26.2.2.1 v_7 = 5 := (Ex.n x_28 r_13 (by decide) n_14)
        have kn_32 : g_26.2.1 h 30 = .int 4 := (Sm.v m_27 r_12 (by decide) rfl kn_15)
        have kn_33 : g_26.2.1 h 61 = .ref v_7 := (Sm.v m_27 r_12 (by decide) rfl kn_16)
        refine W.eq (g2 := F0 m 48 ls []) rfl ?_
        refine lv_iconst (v := 0) hx hb dX7_onces_48 (by decide) ?_
        refine lv_istore_n (lv' := [(3, .int 0), (1, .int nn), (2, .int xx), (0, .ref h)]) hx hb dX7_onces_49 rfl hl (by decide) rfl (fun ls hl => ?_)
        refine lt_m_onces4_b l D cI cZ cS cR N0 g h r_h kr hw hB hr nn xx (by omega) (by omega) (by omega) (by omega) (fun g1_b_34 H locs ls hT hI hE hM hl => ?_) 24 g_26 (0 : Int32) H locs ls hT hI hE hM (by decide) (by decide) (by have e0_ : (0 : Int32).toInt = 0 := (by decide); omega) (lv_sub hl [0, 1, 2, 3] rfl)
        have r_35 : g1_b_34.1 h = 8 := Ex.r hE r_h (by decide)
        have kn_36 : g1_b_34.2.1 h 30 = .int 4 := Sm.v hM r_h (by decide) rfl kr
        refine lv_iconst (v := 0) hx hb dX7_onces_82 (by decide) ?_
        refine lv_istore_n (lv' := [(3, .int 0), (1, .int nn), (2, .int xx), (0, .ref h)]) hx hb dX7_onces_83 rfl hl (by decide) rfl (fun ls hl => ?_)
        refine lt_m_onces4_c l D cI cZ cS cR N0 g h r_h kr hw hB hr nn xx (by omega) (by omega) (by omega) (by omega) (fun g1_b_37 H locs ls hT hI hE hM hl => ?_) 1000 g1_b_34 (0 : Int32) H locs ls hT hI hE hM (by decide) (by decide) (by have e0_ : (0 : Int32).toInt = 0 := (by decide); omega) (lv_sub hl [0, 1, 2, 3] rfl)
        have r_38 : g1_b_37.1 h = 8 := Ex.r hE r_h (by decide)
        have kn_39 : g1_b_37.2.1 h 30 = .int 4 := Sm.v hM r_h (by decide) rfl kr
        refine lv_iconst (v := 0) hx hb dX7_onces_110 (by decide) ?_
        refine lv_istore_n (lv' := [(3, .int 0), (1, .int nn), (2, .int xx), (0, .ref h)]) hx hb dX7_onces_111 rfl hl (by decide) rfl (fun ls hl => ?_)
        refine lt_m_onces4_d l D cI cZ cS cR N0 g h r_h kr hw hB hr nn xx (by omega) (by omega) (by omega) (by omega) (fun g1_b_40 H locs ls hT hI hE hM hl => ?_) 1200 g1_b_37 (0 : Int32) H locs ls hT hI hE hM (by decide) (by decide) (by have e0_ : (0 : Int32).toInt = 0 := (by decide); omega) (lv_sub hl [0, 1, 2, 3] rfl)
        have r_41 : g1_b_40.1 h = 8 := Ex.r hE r_h (by decide)
        have kn_42 : g1_b_40.2.1 h 30 = .int 4 := Sm.v hM r_h (by decide) rfl kr
        obtain ⟨z_43, ez_43⟩ : ∃ z : Int32, z = nn + 1 := ⟨_, rfl⟩
        have e_z_43 : z_43.toInt = nn.toInt + 1 := i_add ez_43 rfl (by decide) (by omega) (by omega)
        refine lv_iinc (v := z_43) (lv' := [(1, .int z_43), (2, .int xx), (0, .ref h)]) hx hb dX7_onces_147 hl (k := 0) rfl (by rw [ez_43]; rfl) (by decide) rfl (fun ls hl => ?_)
        obtain ⟨z_44, ez_44⟩ : ∃ z : Int32, z = xx + 1 := ⟨_, rfl⟩
        have e_z_44 : z_44.toInt = xx.toInt + 1 := i_add ez_44 rfl (by decide) (by omega) (by omega)
        refine lv_iinc (v := z_44) (lv' := [(2, .int z_44), (1, .int z_43), (0, .ref h)]) hx hb dX7_onces_150 hl (k := 1) rfl (by rw [ez_44]; rfl) (by decide) rfl (fun ls hl => ?_)
        refine lv_goto (tgt := 4) hx hb dX7_onces_153 (by decide) ?_
        exact ih (kf - 1) (by omega) g1_b_40 z_43 z_44 H locs ls hT hI hE hM (by omega) (by omega) (by omega) (by omega) (by have a1_ := i_nn (x := xx) (by omega); have a2_ := i_nn (x := z_44) (by omega); have a3_ : z_44.toNatClampNeg = xx.toNatClampNeg + 1 := (by omega); have a4_ := i_nn (x := nn) (by omega); have a5_ := i_nn (x := z_43) (by omega); rw [a3_]; have a6_ := hpc.2; omega) (by have e0_ : (0 : Int32).toInt = 0 := (by decide); omega) (lv_sub hl [1, 0, 2] rfl)
      · refine W.eq (g2 := F0 m 37 ls [.int 0]) rfl ?_
        refine lv_if_eq (tgt := 150) hx hb dX7_onces_37 (by decide) (fun c_ => ?_) (fun c_ => absurd (by decide) c_)
        obtain ⟨z_45, ez_45⟩ : ∃ z : Int32, z = xx + 1 := ⟨_, rfl⟩
        have e_z_45 : z_45.toInt = xx.toInt + 1 := i_add ez_45 rfl (by decide) (by omega) (by omega)
        refine lv_iinc (v := z_45) (lv' := [(2, .int z_45), (1, .int nn), (0, .ref h)]) hx hb dX7_onces_150 hl (k := 1) rfl (by rw [ez_45]; rfl) (by decide) rfl (fun ls hl => ?_)
        refine lv_goto (tgt := 4) hx hb dX7_onces_153 (by decide) ?_
        exact ih (kf - 1) (by omega) g_8 nn z_45 H locs ls hT hI hE hM (by omega) (by omega) (by omega) (by omega) (by have a1_ := i_nn (x := xx) (by omega); have a2_ := i_nn (x := z_45) (by omega); have a3_ : z_45.toNatClampNeg = xx.toNatClampNeg + 1 := (by omega); rw [a3_]; exact pC_no hp) (by have e0_ : (0 : Int32).toInt = 0 := (by decide); omega) (lv_sub hl [1, 0, 2] rfl)
set_option maxHeartbeats 4000000 in
set_option maxRecDepth 100000 in
theorem m_onces4 (l : Launch) (D : va_G) (cI cZ cS cR : ClassId) (N0 : NT) (g : GS) (hI : Inv g) (h : Nat) (r_h : g.1 h = 8) (kr : g.2.1 h 30 = .int 4) (hw : PX 48 2 3 71 72 g h) : Ty l D cI cZ cS cR N0 yX7_onces cX7_onces 4 (some .int) 8 0 0 [.ref h] g (fun v g' => ∃ (r : Int32), v = some (.int r) ∧ Inv g' ∧ Ex g g' ∧ Sm md_m_onces4 g g' ∧ (0 ≤ r.toInt ∧ r.toInt ≤ 24)) := by
  refine t_enter (by decide) (Nat.le_of_ble_eq_true rfl) ?_
  intro p e s m args below meth c ls H locs hB hr hin hl hT
  have hx := hB.1
  have hb := hB.2.1
  have hl : lv_has ls 4 [(0, .ref h)] := hl
  have hE : Ex g g := Ex.rf
  have hM : Sm md_m_onces4 g g := Sm.rf
  refine lv_iconst (v := 0) hx hb dX7_onces_0 (by decide) ?_
  refine lv_istore_n (lv' := [(1, .int 0), (0, .ref h)]) hx hb dX7_onces_1 rfl hl (by decide) rfl (fun ls hl => ?_)
  refine lv_iconst (v := 0) hx hb dX7_onces_2 (by decide) ?_
  refine lv_istore_n (lv' := [(2, .int 0), (1, .int 0), (0, .ref h)]) hx hb dX7_onces_3 rfl hl (by decide) rfl (fun ls hl => ?_)
  exact lt_m_onces4_a l D cI cZ cS cR N0 g h r_h kr hw hB hr   256 g (0 : Int32) (0 : Int32) H locs ls hT hI hE hM (by decide) (by decide) (by decide) (by decide) (by exact Nat.zero_le _) (by have e0_ : (0 : Int32).toInt = 0 := (by decide); omega) (lv_sub hl [1, 0, 2] rfl)
abbrev md_m_endsLike : Nat → Nat → Bool := mdf [(50, 99)]
set_option maxHeartbeats 4000000 in
set_option maxRecDepth 100000 in
theorem lt_m_endsLike_d (l : Launch) (D : va_G) (cI cZ cS cR : ClassId) (N0 : NT) (g : GS) (h : Nat) (n : Int32) (r_h : g.1 h = 8) (l_n : 0 ≤ n.toInt) (u_n : n.toInt ≤ 24) {p : Program} {e : Env} {s : State} {m : MethodId} {args : Array Value} {below : List Frame} {meth : Method} {c : Code} (hB : Tz p s m meth c args cX7_endsLike 5 RX7 D cI cZ cS cR N0) (hr : meth.sig.returnType = (some .boolean)) (nn : Int32) (l_nn : 0 ≤ nn.toInt) (u_nn : nn.toInt ≤ 23) (K : ∀ (g1 : GS) (li : Int32)  (H : Heap) (locs : List Loc) (ls : Array Slot), Tv D cI cZ cS cR N0 s.heap H locs g1 → Inv g1 → Ex g g1 → Sm md_m_endsLike g g1 → 0 ≤ li.toInt → li.toInt ≤ 1 → lv_has ls 5 [(3, .int li), (2, .int nn), (0, .ref h), (1, .int n)] → W p l e (rmx 0 0 0) s m args below meth c H locs 0 0 (MQ below (tQ D cI cZ cS cR N0 (fun v g' => ∃ (r : Int32), v = some (.int r) ∧ Inv g' ∧ Ex g g' ∧ Sm md_m_endsLike g g' ∧ (r = 1 ∨ r = 0))) args s 0 0 (fun q => N0.1 ≤ q)) (F0 m 113 ls [])) : ∀ (kf : Nat) (g1 : GS) (i : Int32) (li : Int32)  (H : Heap) (locs : List Loc) (ls : Array Slot), Tv D cI cZ cS cR N0 s.heap H locs g1 → Inv g1 → Ex g g1 → Sm md_m_endsLike g g1 → 0 ≤ i.toInt → i.toInt ≤ 24 → 0 ≤ li.toInt → li.toInt ≤ 1 → (24 ≤ i.toInt + kf) → lv_has ls 5 [(4, .int i), (3, .int li), (2, .int nn), (0, .ref h), (1, .int n)] → W p l e (rmx 0 0 0) s m args below meth c H locs 0 0 (MQ below (tQ D cI cZ cS cR N0 (fun v g' => ∃ (r : Int32), v = some (.int r) ∧ Inv g' ∧ Ex g g' ∧ Sm md_m_endsLike g g' ∧ (r = 1 ∨ r = 0))) args s 0 0 (fun q => N0.1 ≤ q)) (F0 m 65 ls []) := by
  have hx := hB.1
  have hb := hB.2.1
  intro kf
  induction kf using Nat.strongRecOn with
  | ind kf ih =>
    intro g1 i li H locs ls hT hI hE hM l_i u_i l_li u_li hk hl
    have r_1 : g1.1 h = 8 := Ex.r hE r_h (by decide)
    refine lv_iload hx hb dX7_endsLike_65 (lv_at hl 0 rfl) ?_
    refine lv_bipush (v := 24) hx hb dX7_endsLike_67 (by decide) ?_
    refine lv_icmp_ge (tgt := 113) hx hb dX7_endsLike_69 (by decide) (fun c_2 => ?_) (fun c_2 => ?_)
    · have c_2' : 24 ≤ i.toInt := i_le c_2 (by decide) rfl
      exact K g1 li H locs ls hT hI hE hM (by omega) (by omega) (lv_sub hl [1, 2, 3, 4] rfl)
    · have c_2' : i.toInt < 24 := i_nle c_2 (by decide) rfl
      refine lv_iload_n hx hb dX7_endsLike_72 rfl (lv_at hl 1 rfl) ?_
      refine lv_if_eq (tgt := 105) hx hb dX7_endsLike_73 (by decide) (fun c_3 => ?_) (fun c_3 => ?_)
      · have c_3' : li.toInt = 0 := i_eq c_3 rfl (by decide)
        refine lv_iconst (v := 0) hx hb dX7_endsLike_105 (by decide) ?_
        refine lv_istore_n (lv' := [(3, .int 0), (4, .int i), (2, .int nn), (0, .ref h), (1, .int n)]) hx hb dX7_endsLike_106 rfl hl (by decide) rfl (fun ls hl => ?_)
        obtain ⟨z_4, ez_4⟩ : ∃ z : Int32, z = i + 1 := ⟨_, rfl⟩
        have e_z_4 : z_4.toInt = i.toInt + 1 := i_add ez_4 rfl (by decide) (by omega) (by omega)
        refine lv_iinc (v := z_4) (lv' := [(4, .int z_4), (3, .int 0), (2, .int nn), (0, .ref h), (1, .int n)]) hx hb dX7_endsLike_107 hl (k := 1) rfl (by rw [ez_4]; rfl) (by decide) rfl (fun ls hl => ?_)
        refine lv_goto (tgt := 65) hx hb dX7_endsLike_110 (by decide) ?_
        exact ih (kf - 1) (by omega) g1 z_4 (0 : Int32) H locs ls hT hI hE hM (by omega) (by omega) (by decide) (by decide) (by have e0_ : (0 : Int32).toInt = 0 := (by decide); omega) (lv_sub hl [0, 1, 2, 3, 4] rfl)
      · have c_3' : li.toInt ≠ 0 := i_ne c_3 rfl (by decide)
        refine lv_aload_n hx hb dX7_endsLike_76 rfl (lv_at hl 3 rfl) ?_
        obtain ⟨v_5, e_v_5, r_v_5, n_v_5⟩ := f_8_62 hI r_1
        refine t_get (ci := 7) (v := .ref v_5) hB hT (ro_ci r_1 rfl) rfl 62 (by decide) k_807 e_v_5 dX7_endsLike_77 ?_
        refine lv_bipush (v := 24) hx hb dX7_endsLike_80 (by decide) ?_
        refine lv_iload_n hx hb dX7_endsLike_82 rfl (lv_at hl 2 rfl) ?_
        refine lv_imul hx hb dX7_endsLike_83 ?_
        refine lv_topi (fun z_6 ez_6 => ?_)
        have e_z_6 : z_6.toInt = 24 * nn.toInt := i_mul ez_6 (by decide) rfl (by omega) (by omega)
        refine lv_iload hx hb dX7_endsLike_84 (lv_at hl 0 rfl) ?_
        refine lv_iadd hx hb dX7_endsLike_86 ?_
        refine lv_topi (fun z_7 ez_7 => ?_)
        have e_z_7 : z_7.toInt = z_6.toInt + i.toInt := i_add ez_7 rfl rfl (by omega) (by omega)
        have i_u_8 : vp_in z_7 624 := (i_in (n := 624) rfl (by omega) (by omega))
        refine t_iald hB hT (ro_in r_v_5 (by decide)) n_v_5 i_u_8 rfl dX7_endsLike_87 ?_
        refine lv_topi (fun u_8 e_u_8 => ?_)
        refine lv_aload_n hx hb dX7_endsLike_88 rfl (lv_at hl 3 rfl) ?_
        obtain ⟨v_9, e_v_9, r_v_9, n_v_9⟩ := f_8_7 hI r_1
        refine t_get (ci := 7) (v := .ref v_9) hB hT (ro_ci r_1 rfl) rfl 7 (by decide) k_752 e_v_9 dX7_endsLike_89 ?_
        refine lv_bipush (v := 24) hx hb dX7_endsLike_92 (by decide) ?_
        refine lv_iload hx hb dX7_endsLike_94 (lv_at hl 0 rfl) ?_
        refine lv_iadd hx hb dX7_endsLike_96 ?_
        refine lv_topi (fun z_10 ez_10 => ?_)
        have e_z_10 : z_10.toInt = 24 + i.toInt := i_add ez_10 (by decide) rfl (by omega) (by omega)
        have i_u_11 : vp_in z_10 48 := (i_in (n := 48) rfl (by omega) (by omega))
        refine t_iald hB hT (ro_in r_v_9 (by decide)) n_v_9 i_u_11 rfl dX7_endsLike_97 ?_
        have c_u_11 := hI.c r_v_9 n_v_9 (i_cl i_u_11)
        refine lv_topi (fun u_11 e_u_11 => ?_)
        obtain ⟨l_u_11, u_u_11⟩ := c_u_11
        rw [← e_u_11] at l_u_11 u_u_11
        refine lv_icmp_ne (tgt := 105) hx hb dX7_endsLike_98 (by decide) (fun c_12 => ?_) (fun c_12 => ?_)
        · have c_12' : u_8.toInt ≠ u_11.toInt := i_ne c_12 rfl rfl
          refine lv_iconst (v := 0) hx hb dX7_endsLike_105 (by decide) ?_
          refine lv_istore_n (lv' := [(3, .int 0), (4, .int i), (2, .int nn), (0, .ref h), (1, .int n)]) hx hb dX7_endsLike_106 rfl hl (by decide) rfl (fun ls hl => ?_)
          obtain ⟨z_13, ez_13⟩ : ∃ z : Int32, z = i + 1 := ⟨_, rfl⟩
          have e_z_13 : z_13.toInt = i.toInt + 1 := i_add ez_13 rfl (by decide) (by omega) (by omega)
          refine lv_iinc (v := z_13) (lv' := [(4, .int z_13), (3, .int 0), (2, .int nn), (0, .ref h), (1, .int n)]) hx hb dX7_endsLike_107 hl (k := 1) rfl (by rw [ez_13]; rfl) (by decide) rfl (fun ls hl => ?_)
          refine lv_goto (tgt := 65) hx hb dX7_endsLike_110 (by decide) ?_
          exact ih (kf - 1) (by omega) g1 z_13 (0 : Int32) H locs ls hT hI hE hM (by omega) (by omega) (by decide) (by decide) (by have e0_ : (0 : Int32).toInt = 0 := (by decide); omega) (lv_sub hl [0, 1, 2, 3, 4] rfl)
        · have c_12' : u_8.toInt = u_11.toInt := i_eq c_12 rfl rfl
          refine lv_iconst (v := 1) hx hb dX7_endsLike_101 (by decide) ?_
          refine lv_goto (tgt := 106) hx hb dX7_endsLike_102 (by decide) ?_
          refine lv_istore_n (lv' := [(3, .int 1), (4, .int i), (2, .int nn), (0, .ref h), (1, .int n)]) hx hb dX7_endsLike_106 rfl hl (by decide) rfl (fun ls hl => ?_)
          obtain ⟨z_14, ez_14⟩ : ∃ z : Int32, z = i + 1 := ⟨_, rfl⟩
          have e_z_14 : z_14.toInt = i.toInt + 1 := i_add ez_14 rfl (by decide) (by omega) (by omega)
          refine lv_iinc (v := z_14) (lv' := [(4, .int z_14), (3, .int 1), (2, .int nn), (0, .ref h), (1, .int n)]) hx hb dX7_endsLike_107 hl (k := 1) rfl (by rw [ez_14]; rfl) (by decide) rfl (fun ls hl => ?_)
          refine lv_goto (tgt := 65) hx hb dX7_endsLike_110 (by decide) ?_
          exact ih (kf - 1) (by omega) g1 z_14 (1 : Int32) H locs ls hT hI hE hM (by omega) (by omega) (by decide) (by decide) (by have e0_ : (0 : Int32).toInt = 0 := (by decide); have e1_ : (1 : Int32).toInt = 1 := (by decide); omega) (lv_sub hl [0, 1, 2, 3, 4] rfl)
set_option maxHeartbeats 4000000 in
set_option maxRecDepth 100000 in
theorem lt_m_endsLike_e (l : Launch) (D : va_G) (cI cZ cS cR : ClassId) (N0 : NT) (g : GS) (h : Nat) (n : Int32) (r_h : g.1 h = 8) (l_n : 0 ≤ n.toInt) (u_n : n.toInt ≤ 24) {p : Program} {e : Env} {s : State} {m : MethodId} {args : Array Value} {below : List Frame} {meth : Method} {c : Code} (hB : Tz p s m meth c args cX7_endsLike 5 RX7 D cI cZ cS cR N0) (hr : meth.sig.returnType = (some .boolean)) (nn : Int32) (l_nn : 0 ≤ nn.toInt) (u_nn : nn.toInt ≤ 23) (K : ∀ (g1 : GS) (li : Int32)  (H : Heap) (locs : List Loc) (ls : Array Slot), Tv D cI cZ cS cR N0 s.heap H locs g1 → Inv g1 → Ex g g1 → Sm md_m_endsLike g g1 → 0 ≤ li.toInt → li.toInt ≤ 1 → lv_has ls 5 [(3, .int li), (2, .int nn), (0, .ref h), (1, .int n)] → W p l e (rmx 0 0 0) s m args below meth c H locs 0 0 (MQ below (tQ D cI cZ cS cR N0 (fun v g' => ∃ (r : Int32), v = some (.int r) ∧ Inv g' ∧ Ex g g' ∧ Sm md_m_endsLike g g' ∧ (r = 1 ∨ r = 0))) args s 0 0 (fun q => N0.1 ≤ q)) (F0 m 163 ls [])) : ∀ (kf : Nat) (g1 : GS) (i : Int32) (li : Int32)  (H : Heap) (locs : List Loc) (ls : Array Slot), Tv D cI cZ cS cR N0 s.heap H locs g1 → Inv g1 → Ex g g1 → Sm md_m_endsLike g g1 → 0 ≤ i.toInt → i.toInt ≤ 1000 → 0 ≤ li.toInt → li.toInt ≤ 1 → (1000 ≤ i.toInt + kf) → lv_has ls 5 [(4, .int i), (3, .int li), (2, .int nn), (0, .ref h), (1, .int n)] → W p l e (rmx 0 0 0) s m args below meth c H locs 0 0 (MQ below (tQ D cI cZ cS cR N0 (fun v g' => ∃ (r : Int32), v = some (.int r) ∧ Inv g' ∧ Ex g g' ∧ Sm md_m_endsLike g g' ∧ (r = 1 ∨ r = 0))) args s 0 0 (fun q => N0.1 ≤ q)) (F0 m 116 ls []) := by
  have hx := hB.1
  have hb := hB.2.1
  intro kf
  induction kf using Nat.strongRecOn with
  | ind kf ih =>
    intro g1 i li H locs ls hT hI hE hM l_i u_i l_li u_li hk hl
    have r_1 : g1.1 h = 8 := Ex.r hE r_h (by decide)
    refine lv_iload hx hb dX7_endsLike_116 (lv_at hl 0 rfl) ?_
    refine lv_sipush (v := 1000) hx hb dX7_endsLike_118 (by decide) ?_
    refine lv_icmp_ge (tgt := 163) hx hb dX7_endsLike_121 (by decide) (fun c_2 => ?_) (fun c_2 => ?_)
    · have c_2' : 1000 ≤ i.toInt := i_le c_2 (by decide) rfl
      exact K g1 li H locs ls hT hI hE hM (by omega) (by omega) (lv_sub hl [1, 2, 3, 4] rfl)
    · have c_2' : i.toInt < 1000 := i_nle c_2 (by decide) rfl
      refine lv_iload_n hx hb dX7_endsLike_124 rfl (lv_at hl 1 rfl) ?_
      refine lv_if_eq (tgt := 163) hx hb dX7_endsLike_125 (by decide) (fun c_3 => ?_) (fun c_3 => ?_)
      · have c_3' : li.toInt = 0 := i_eq c_3 rfl (by decide)
        exact K g1 li H locs ls hT hI hE hM (by omega) (by omega) (lv_sub hl [1, 2, 3, 4] rfl)
      · have c_3' : li.toInt ≠ 0 := i_ne c_3 rfl (by decide)
        refine lv_aload_n hx hb dX7_endsLike_128 rfl (lv_at hl 3 rfl) ?_
        obtain ⟨v_4, e_v_4, r_v_4, n_v_4⟩ := f_8_63 hI r_1
        refine t_get (ci := 7) (v := .ref v_4) hB hT (ro_ci r_1 rfl) rfl 63 (by decide) k_808 e_v_4 dX7_endsLike_129 ?_
        refine lv_sipush (v := 1000) hx hb dX7_endsLike_132 (by decide) ?_
        refine lv_iload_n hx hb dX7_endsLike_135 rfl (lv_at hl 2 rfl) ?_
        refine lv_imul hx hb dX7_endsLike_136 ?_
        refine lv_topi (fun z_5 ez_5 => ?_)
        have e_z_5 : z_5.toInt = 1000 * nn.toInt := i_mul ez_5 (by decide) rfl (by omega) (by omega)
        refine lv_iload hx hb dX7_endsLike_137 (lv_at hl 0 rfl) ?_
        refine lv_iadd hx hb dX7_endsLike_139 ?_
        refine lv_topi (fun z_6 ez_6 => ?_)
        have e_z_6 : z_6.toInt = z_5.toInt + i.toInt := i_add ez_6 rfl rfl (by omega) (by omega)
        have i_u_7 : vp_in z_6 24000 := (i_in (n := 24000) rfl (by omega) (by omega))
        refine t_iald hB hT (ro_in r_v_4 (by decide)) n_v_4 i_u_7 rfl dX7_endsLike_140 ?_
        refine lv_topi (fun u_7 e_u_7 => ?_)
        refine lv_aload_n hx hb dX7_endsLike_141 rfl (lv_at hl 3 rfl) ?_
        obtain ⟨v_8, e_v_8, r_v_8, n_v_8⟩ := f_8_64 hI r_1
        refine t_get (ci := 7) (v := .ref v_8) hB hT (ro_ci r_1 rfl) rfl 64 (by decide) k_809 e_v_8 dX7_endsLike_142 ?_
        refine lv_iload hx hb dX7_endsLike_145 (lv_at hl 0 rfl) ?_
        have i_u_9 : vp_in i 1000 := (i_in (n := 1000) rfl (by omega) (by omega))
        refine t_iald hB hT (ro_in r_v_8 (by decide)) n_v_8 i_u_9 rfl dX7_endsLike_147 ?_
        refine lv_topi (fun u_9 e_u_9 => ?_)
        refine lv_icmp_ne (tgt := 155) hx hb dX7_endsLike_148 (by decide) (fun c_10 => ?_) (fun c_10 => ?_)
        · have c_10' : u_7.toInt ≠ u_9.toInt := i_ne c_10 rfl rfl
          refine lv_iconst (v := 0) hx hb dX7_endsLike_155 (by decide) ?_
          refine lv_istore_n (lv' := [(3, .int 0), (4, .int i), (2, .int nn), (0, .ref h), (1, .int n)]) hx hb dX7_endsLike_156 rfl hl (by decide) rfl (fun ls hl => ?_)
          obtain ⟨z_11, ez_11⟩ : ∃ z : Int32, z = i + 1 := ⟨_, rfl⟩
          have e_z_11 : z_11.toInt = i.toInt + 1 := i_add ez_11 rfl (by decide) (by omega) (by omega)
          refine lv_iinc (v := z_11) (lv' := [(4, .int z_11), (3, .int 0), (2, .int nn), (0, .ref h), (1, .int n)]) hx hb dX7_endsLike_157 hl (k := 1) rfl (by rw [ez_11]; rfl) (by decide) rfl (fun ls hl => ?_)
          refine lv_goto (tgt := 116) hx hb dX7_endsLike_160 (by decide) ?_
          exact ih (kf - 1) (by omega) g1 z_11 (0 : Int32) H locs ls hT hI hE hM (by omega) (by omega) (by decide) (by decide) (by have e0_ : (0 : Int32).toInt = 0 := (by decide); omega) (lv_sub hl [0, 1, 2, 3, 4] rfl)
        · have c_10' : u_7.toInt = u_9.toInt := i_eq c_10 rfl rfl
          refine lv_iconst (v := 1) hx hb dX7_endsLike_151 (by decide) ?_
          refine lv_goto (tgt := 156) hx hb dX7_endsLike_152 (by decide) ?_
          refine lv_istore_n (lv' := [(3, .int 1), (4, .int i), (2, .int nn), (0, .ref h), (1, .int n)]) hx hb dX7_endsLike_156 rfl hl (by decide) rfl (fun ls hl => ?_)
          obtain ⟨z_12, ez_12⟩ : ∃ z : Int32, z = i + 1 := ⟨_, rfl⟩
          have e_z_12 : z_12.toInt = i.toInt + 1 := i_add ez_12 rfl (by decide) (by omega) (by omega)
          refine lv_iinc (v := z_12) (lv' := [(4, .int z_12), (3, .int 1), (2, .int nn), (0, .ref h), (1, .int n)]) hx hb dX7_endsLike_157 hl (k := 1) rfl (by rw [ez_12]; rfl) (by decide) rfl (fun ls hl => ?_)
          refine lv_goto (tgt := 116) hx hb dX7_endsLike_160 (by decide) ?_
          exact ih (kf - 1) (by omega) g1 z_12 (1 : Int32) H locs ls hT hI hE hM (by omega) (by omega) (by decide) (by decide) (by have e0_ : (0 : Int32).toInt = 0 := (by decide); have e1_ : (1 : Int32).toInt = 1 := (by decide); omega) (lv_sub hl [0, 1, 2, 3, 4] rfl)
set_option maxHeartbeats 4000000 in
set_option maxRecDepth 100000 in
theorem lt_m_endsLike_c (l : Launch) (D : va_G) (cI cZ cS cR : ClassId) (N0 : NT) (g : GS) (h : Nat) (n : Int32) (r_h : g.1 h = 8) (l_n : 0 ≤ n.toInt) (u_n : n.toInt ≤ 24) {p : Program} {e : Env} {s : State} {m : MethodId} {args : Array Value} {below : List Frame} {meth : Method} {c : Code} (hB : Tz p s m meth c args cX7_endsLike 5 RX7 D cI cZ cS cR N0) (hr : meth.sig.returnType = (some .boolean))    : ∀ (kf : Nat) (g1 : GS) (nn : Int32)  (H : Heap) (locs : List Loc) (ls : Array Slot), Tv D cI cZ cS cR N0 s.heap H locs g1 → Inv g1 → Ex g g1 → Sm md_m_endsLike g g1 → 0 ≤ nn.toInt → nn.toInt ≤ 24 → (24 ≤ nn.toInt + kf) → lv_has ls 5 [(2, .int nn), (0, .ref h), (1, .int n)] → W p l e (rmx 0 0 0) s m args below meth c H locs 0 0 (MQ below (tQ D cI cZ cS cR N0 (fun v g' => ∃ (r : Int32), v = some (.int r) ∧ Inv g' ∧ Ex g g' ∧ Sm md_m_endsLike g g' ∧ (r = 1 ∨ r = 0))) args s 0 0 (fun q => N0.1 ≤ q)) (F0 m 55 ls []) := by
  have hx := hB.1
  have hb := hB.2.1
  intro kf
  induction kf using Nat.strongRecOn with
  | ind kf ih =>
    intro g1 nn H locs ls hT hI hE hM l_nn u_nn hk hl
    have r_1 : g1.1 h = 8 := Ex.r hE r_h (by decide)
    refine lv_iload_n hx hb dX7_endsLike_55 rfl (lv_at hl 0 rfl) ?_
    refine lv_iload_n hx hb dX7_endsLike_56 rfl (lv_at hl 2 rfl) ?_
    refine lv_icmp_ge (tgt := 175) hx hb dX7_endsLike_57 (by decide) (fun c_2 => ?_) (fun c_2 => ?_)
    · have c_2' : n.toInt ≤ nn.toInt := i_le c_2 rfl rfl
      refine lv_iconst (v := 0) hx hb dX7_endsLike_175 (by decide) ?_
      exact t_zret hB hr rfl hT (Nat.le_of_ble_eq_true rfl) (Nat.le_of_ble_eq_true rfl) dX7_endsLike_176 ⟨0, rfl, hI, hE, hM, (Or.inr rfl)⟩
    · have c_2' : nn.toInt < n.toInt := i_nle c_2 rfl rfl
      refine lv_iconst (v := 1) hx hb dX7_endsLike_60 (by decide) ?_
      refine lv_istore_n (lv' := [(3, .int 1), (2, .int nn), (0, .ref h), (1, .int n)]) hx hb dX7_endsLike_61 rfl hl (by decide) rfl (fun ls hl => ?_)
      refine lv_iconst (v := 0) hx hb dX7_endsLike_62 (by decide) ?_
      refine lv_istore (lv' := [(4, .int 0), (3, .int 1), (2, .int nn), (0, .ref h), (1, .int n)]) hx hb dX7_endsLike_63 hl (by decide) rfl (fun ls hl => ?_)
      refine lt_m_endsLike_d l D cI cZ cS cR N0 g h n r_h l_n u_n hB hr nn (by omega) (by omega) (fun g1_b_3 li_b_3 H locs ls hT hI hE hM l_li_b_3 u_li_b_3 hl => ?_) 24 g1 (0 : Int32) (1 : Int32) H locs ls hT hI hE hM (by decide) (by decide) (by decide) (by decide) (by have e0_ : (0 : Int32).toInt = 0 := (by decide); have e1_ : (1 : Int32).toInt = 1 := (by decide); omega) (lv_sub hl [0, 1, 2, 3, 4] rfl)
      have r_4 : g1_b_3.1 h = 8 := Ex.r hE r_h (by decide)
      refine lv_iconst (v := 0) hx hb dX7_endsLike_113 (by decide) ?_
      refine lv_istore (lv' := [(4, .int 0), (3, .int li_b_3), (2, .int nn), (0, .ref h), (1, .int n)]) hx hb dX7_endsLike_114 hl (by decide) rfl (fun ls hl => ?_)
      refine lt_m_endsLike_e l D cI cZ cS cR N0 g h n r_h l_n u_n hB hr nn (by omega) (by omega) (fun g1_b_5 li_b_5 H locs ls hT hI hE hM l_li_b_5 u_li_b_5 hl => ?_) 1000 g1_b_3 (0 : Int32) li_b_3 H locs ls hT hI hE hM (by decide) (by decide) (by omega) (by omega) (by have e0_ : (0 : Int32).toInt = 0 := (by decide); omega) (lv_sub hl [0, 1, 2, 3, 4] rfl)
      have r_6 : g1_b_5.1 h = 8 := Ex.r hE r_h (by decide)
      refine lv_iload_n hx hb dX7_endsLike_163 rfl (lv_at hl 0 rfl) ?_
      refine lv_if_eq (tgt := 169) hx hb dX7_endsLike_164 (by decide) (fun c_7 => ?_) (fun c_7 => ?_)
      · have c_7' : li_b_5.toInt = 0 := i_eq c_7 rfl (by decide)
        obtain ⟨z_8, ez_8⟩ : ∃ z : Int32, z = nn + 1 := ⟨_, rfl⟩
        have e_z_8 : z_8.toInt = nn.toInt + 1 := i_add ez_8 rfl (by decide) (by omega) (by omega)
        refine lv_iinc (v := z_8) (lv' := [(2, .int z_8), (3, .int li_b_5), (0, .ref h), (1, .int n)]) hx hb dX7_endsLike_169 hl (k := 1) rfl (by rw [ez_8]; rfl) (by decide) rfl (fun ls hl => ?_)
        refine lv_goto (tgt := 55) hx hb dX7_endsLike_172 (by decide) ?_
        exact ih (kf - 1) (by omega) g1_b_5 z_8 H locs ls hT hI hE hM (by omega) (by omega) (by have e0_ : (0 : Int32).toInt = 0 := (by decide); omega) (lv_sub hl [0, 2, 3] rfl)
      · have c_7' : li_b_5.toInt ≠ 0 := i_ne c_7 rfl (by decide)
        refine lv_iconst (v := 1) hx hb dX7_endsLike_167 (by decide) ?_
        exact t_zret hB hr rfl hT (Nat.le_of_ble_eq_true rfl) (Nat.le_of_ble_eq_true rfl) dX7_endsLike_168 ⟨1, rfl, hI, hE, hM, (Or.inl rfl)⟩
set_option maxHeartbeats 4000000 in
set_option maxRecDepth 100000 in
theorem lt_m_endsLike_b (l : Launch) (D : va_G) (cI cZ cS cR : ClassId) (N0 : NT) (g : GS) (h : Nat) (n : Int32) (r_h : g.1 h = 8) (l_n : 0 ≤ n.toInt) (u_n : n.toInt ≤ 24) {p : Program} {e : Env} {s : State} {m : MethodId} {args : Array Value} {below : List Frame} {meth : Method} {c : Code} (hB : Tz p s m meth c args cX7_endsLike 5 RX7 D cI cZ cS cR N0) (hr : meth.sig.returnType = (some .boolean))    : ∀ (kf : Nat) (g1 : GS) (i : Int32)  (H : Heap) (locs : List Loc) (ls : Array Slot), Tv D cI cZ cS cR N0 s.heap H locs g1 → Inv g1 → Ex g g1 → Sm md_m_endsLike g g1 → 0 ≤ i.toInt → i.toInt ≤ 1200 → (1200 ≤ i.toInt + kf) → lv_has ls 5 [(2, .int i), (0, .ref h), (1, .int n)] → W p l e (rmx 0 0 0) s m args below meth c H locs 0 0 (MQ below (tQ D cI cZ cS cR N0 (fun v g' => ∃ (r : Int32), v = some (.int r) ∧ Inv g' ∧ Ex g g' ∧ Sm md_m_endsLike g g' ∧ (r = 1 ∨ r = 0))) args s 0 0 (fun q => N0.1 ≤ q)) (F0 m 24 ls []) := by
  have hx := hB.1
  have hb := hB.2.1
  intro kf
  induction kf using Nat.strongRecOn with
  | ind kf ih =>
    intro g1 i H locs ls hT hI hE hM l_i u_i hk hl
    have r_1 : g1.1 h = 8 := Ex.r hE r_h (by decide)
    refine lv_iload_n hx hb dX7_endsLike_24 rfl (lv_at hl 0 rfl) ?_
    refine lv_aload_n hx hb dX7_endsLike_25 rfl (lv_at hl 1 rfl) ?_
    obtain ⟨v_2, e_v_2, l_v_2, u_v_2⟩ := f_8_52 hI r_1
    refine t_get (ci := 7) (v := .int v_2) hB hT (ro_ci r_1 rfl) rfl 52 (by decide) k_797 e_v_2 dX7_endsLike_26 ?_
    refine lv_icmp_ge (tgt := 53) hx hb dX7_endsLike_29 (by decide) (fun c_3 => ?_) (fun c_3 => ?_)
    · have c_3' : v_2.toInt ≤ i.toInt := i_le c_3 rfl rfl
      refine lv_iconst (v := 0) hx hb dX7_endsLike_53 (by decide) ?_
      refine lv_istore_n (lv' := [(2, .int 0), (0, .ref h), (1, .int n)]) hx hb dX7_endsLike_54 rfl hl (by decide) rfl (fun ls hl => ?_)
      exact lt_m_endsLike_c l D cI cZ cS cR N0 g h n r_h l_n u_n hB hr   24 g1 (0 : Int32) H locs ls hT hI hE hM (by decide) (by decide) (by have e0_ : (0 : Int32).toInt = 0 := (by decide); omega) (lv_sub hl [0, 1, 2] rfl)
    · have c_3' : i.toInt < v_2.toInt := i_nle c_3 rfl rfl
      refine lv_aload_n hx hb dX7_endsLike_32 rfl (lv_at hl 1 rfl) ?_
      obtain ⟨v_4, e_v_4, r_v_4, n_v_4⟩ := f_8_64 hI r_1
      refine t_get (ci := 7) (v := .ref v_4) hB hT (ro_ci r_1 rfl) rfl 64 (by decide) k_809 e_v_4 dX7_endsLike_33 ?_
      refine lv_aload_n hx hb dX7_endsLike_36 rfl (lv_at hl 1 rfl) ?_
      obtain ⟨v_5, e_v_5, r_v_5, n_v_5⟩ := f_8_53 hI r_1
      refine t_get (ci := 7) (v := .ref v_5) hB hT (ro_ci r_1 rfl) rfl 53 (by decide) k_798 e_v_5 dX7_endsLike_37 ?_
      refine lv_iload_n hx hb dX7_endsLike_40 rfl (lv_at hl 0 rfl) ?_
      have i_u_6 : vp_in i 1200 := (i_in (n := 1200) rfl (by omega) (by omega))
      refine t_iald hB hT (ro_in r_v_5 (by decide)) n_v_5 i_u_6 rfl dX7_endsLike_41 ?_
      have c_u_6 := hI.c r_v_5 n_v_5 (i_cl i_u_6)
      refine lv_topi (fun u_6 e_u_6 => ?_)
      obtain ⟨l_u_6, u_u_6⟩ := c_u_6
      rw [← e_u_6] at l_u_6 u_u_6
      refine lv_dup2_11 hx hb dX7_endsLike_42 rfl rfl ?_
      have i_u_7 : vp_in u_6 1000 := (i_in (n := 1000) rfl (by omega) (by omega))
      refine t_iald hB hT (ro_in r_v_4 (by decide)) n_v_4 i_u_7 rfl dX7_endsLike_43 ?_
      refine lv_topi (fun u_7 e_u_7 => ?_)
      refine lv_iconst (v := 1) hx hb dX7_endsLike_44 (by decide) ?_
      refine lv_iadd hx hb dX7_endsLike_45 ?_
      refine lv_topi (fun z_8 ez_8 => ?_)
      have i_9 : vp_in u_6 1000 := (i_in (n := 1000) rfl (by omega) (by omega))
      refine t_iast hB hT (ro_in r_v_4 (by decide)) n_v_4 i_9 dX7_endsLike_46 (fun H locs hT => ?_)
      have hI : Inv (sC g1 v_4 u_6.toNatClampNeg z_8) := hI.sC (ck r_v_4 trivial)
      have hM : Sm md_m_endsLike g (sC g1 v_4 u_6.toNatClampNeg z_8) := hM.tr hE (Sm_sC (by rw [r_v_4]; rfl))
      have hE : Ex g (sC g1 v_4 u_6.toNatClampNeg z_8) := hE
      obtain ⟨z_10, ez_10⟩ : ∃ z : Int32, z = i + 1 := ⟨_, rfl⟩
      have e_z_10 : z_10.toInt = i.toInt + 1 := i_add ez_10 rfl (by decide) (by omega) (by omega)
      refine lv_iinc (v := z_10) (lv' := [(2, .int z_10), (0, .ref h), (1, .int n)]) hx hb dX7_endsLike_47 hl (k := 0) rfl (by rw [ez_10]; rfl) (by decide) rfl (fun ls hl => ?_)
      refine lv_goto (tgt := 24) hx hb dX7_endsLike_50 (by decide) ?_
      exact ih (kf - 1) (by omega) (sC g1 v_4 u_6.toNatClampNeg z_8) z_10 H locs ls hT hI hE hM (by omega) (by omega) (by have e0_ : (0 : Int32).toInt = 0 := (by decide); omega) (lv_sub hl [0, 1, 2] rfl)
set_option maxHeartbeats 4000000 in
set_option maxRecDepth 100000 in
theorem lt_m_endsLike_a (l : Launch) (D : va_G) (cI cZ cS cR : ClassId) (N0 : NT) (g : GS) (h : Nat) (n : Int32) (r_h : g.1 h = 8) (l_n : 0 ≤ n.toInt) (u_n : n.toInt ≤ 24) {p : Program} {e : Env} {s : State} {m : MethodId} {args : Array Value} {below : List Frame} {meth : Method} {c : Code} (hB : Tz p s m meth c args cX7_endsLike 5 RX7 D cI cZ cS cR N0) (hr : meth.sig.returnType = (some .boolean))    : ∀ (kf : Nat) (g1 : GS) (i : Int32)  (H : Heap) (locs : List Loc) (ls : Array Slot), Tv D cI cZ cS cR N0 s.heap H locs g1 → Inv g1 → Ex g g1 → Sm md_m_endsLike g g1 → 0 ≤ i.toInt → i.toInt ≤ 1000 → (1000 ≤ i.toInt + kf) → lv_has ls 5 [(2, .int i), (0, .ref h), (1, .int n)] → W p l e (rmx 0 0 0) s m args below meth c H locs 0 0 (MQ below (tQ D cI cZ cS cR N0 (fun v g' => ∃ (r : Int32), v = some (.int r) ∧ Inv g' ∧ Ex g g' ∧ Sm md_m_endsLike g g' ∧ (r = 1 ∨ r = 0))) args s 0 0 (fun q => N0.1 ≤ q)) (F0 m 2 ls []) := by
  have hx := hB.1
  have hb := hB.2.1
  intro kf
  induction kf using Nat.strongRecOn with
  | ind kf ih =>
    intro g1 i H locs ls hT hI hE hM l_i u_i hk hl
    have r_1 : g1.1 h = 8 := Ex.r hE r_h (by decide)
    refine lv_iload_n hx hb dX7_endsLike_2 rfl (lv_at hl 0 rfl) ?_
    refine lv_sipush (v := 1000) hx hb dX7_endsLike_3 (by decide) ?_
    refine lv_icmp_ge (tgt := 22) hx hb dX7_endsLike_6 (by decide) (fun c_2 => ?_) (fun c_2 => ?_)
    · have c_2' : 1000 ≤ i.toInt := i_le c_2 (by decide) rfl
      refine lv_iconst (v := 0) hx hb dX7_endsLike_22 (by decide) ?_
      refine lv_istore_n (lv' := [(2, .int 0), (0, .ref h), (1, .int n)]) hx hb dX7_endsLike_23 rfl hl (by decide) rfl (fun ls hl => ?_)
      exact lt_m_endsLike_b l D cI cZ cS cR N0 g h n r_h l_n u_n hB hr   1200 g1 (0 : Int32) H locs ls hT hI hE hM (by decide) (by decide) (by have e0_ : (0 : Int32).toInt = 0 := (by decide); omega) (lv_sub hl [0, 1, 2] rfl)
    · have c_2' : i.toInt < 1000 := i_nle c_2 (by decide) rfl
      refine lv_aload_n hx hb dX7_endsLike_9 rfl (lv_at hl 1 rfl) ?_
      obtain ⟨v_3, e_v_3, r_v_3, n_v_3⟩ := f_8_64 hI r_1
      refine t_get (ci := 7) (v := .ref v_3) hB hT (ro_ci r_1 rfl) rfl 64 (by decide) k_809 e_v_3 dX7_endsLike_10 ?_
      refine lv_iload_n hx hb dX7_endsLike_13 rfl (lv_at hl 0 rfl) ?_
      refine lv_iconst (v := 0) hx hb dX7_endsLike_14 (by decide) ?_
      have i_4 : vp_in i 1000 := (i_in (n := 1000) rfl (by omega) (by omega))
      refine t_iast hB hT (ro_in r_v_3 (by decide)) n_v_3 i_4 dX7_endsLike_15 (fun H locs hT => ?_)
      have hI : Inv (sC g1 v_3 i.toNatClampNeg (0 : Int32)) := hI.sC (ck r_v_3 trivial)
      have hM : Sm md_m_endsLike g (sC g1 v_3 i.toNatClampNeg (0 : Int32)) := hM.tr hE (Sm_sC (by rw [r_v_3]; rfl))
      have hE : Ex g (sC g1 v_3 i.toNatClampNeg (0 : Int32)) := hE
      obtain ⟨z_5, ez_5⟩ : ∃ z : Int32, z = i + 1 := ⟨_, rfl⟩
      have e_z_5 : z_5.toInt = i.toInt + 1 := i_add ez_5 rfl (by decide) (by omega) (by omega)
      refine lv_iinc (v := z_5) (lv' := [(2, .int z_5), (0, .ref h), (1, .int n)]) hx hb dX7_endsLike_16 hl (k := 0) rfl (by rw [ez_5]; rfl) (by decide) rfl (fun ls hl => ?_)
      refine lv_goto (tgt := 2) hx hb dX7_endsLike_19 (by decide) ?_
      exact ih (kf - 1) (by omega) (sC g1 v_3 i.toNatClampNeg (0 : Int32)) z_5 H locs ls hT hI hE hM (by omega) (by omega) (by have e0_ : (0 : Int32).toInt = 0 := (by decide); omega) (lv_sub hl [0, 1, 2] rfl)
set_option maxHeartbeats 4000000 in
set_option maxRecDepth 100000 in
theorem m_endsLike (l : Launch) (D : va_G) (cI cZ cS cR : ClassId) (N0 : NT) (g : GS) (hI : Inv g) (h : Nat) (n : Int32) (r_h : g.1 h = 8) (l_n : 0 ≤ n.toInt) (u_n : n.toInt ≤ 24) : Ty l D cI cZ cS cR N0 yX7_endsLike cX7_endsLike 5 (some .boolean) 0 0 0 [.ref h, .int n] g (fun v g' => ∃ (r : Int32), v = some (.int r) ∧ Inv g' ∧ Ex g g' ∧ Sm md_m_endsLike g g' ∧ (r = 1 ∨ r = 0)) := by
  refine t_enter (by decide) (Nat.le_of_ble_eq_true rfl) ?_
  intro p e s m args below meth c ls H locs hB hr hin hl hT
  have hx := hB.1
  have hb := hB.2.1
  have hl : lv_has ls 5 [(0, .ref h), (1, .int n)] := hl
  have hE : Ex g g := Ex.rf
  have hM : Sm md_m_endsLike g g := Sm.rf
  refine lv_iconst (v := 0) hx hb dX7_endsLike_0 (by decide) ?_
  refine lv_istore_n (lv' := [(2, .int 0), (0, .ref h), (1, .int n)]) hx hb dX7_endsLike_1 rfl hl (by decide) rfl (fun ls hl => ?_)
  exact lt_m_endsLike_a l D cI cZ cS cR N0 g h n r_h l_n u_n hB hr   1000 g (0 : Int32) H locs ls hT hI hE hM (by decide) (by decide) (by have e0_ : (0 : Int32).toInt = 0 := (by decide); omega) (lv_sub hl [0, 1, 2] rfl)
abbrev md_m_orders : Nat → Nat → Bool := mdf [(8, 21), (8, 49), (8, 50), (8, 51), (8, 52), (40, 99), (50, 99), (51, 99), (52, 99), (54, 99), (55, 99), (56, 99), (58, 99)]
theorem mdle_m_orders_m_does {r k : Nat} (h : md_m_orders r k = false) : md_m_does r k = false := mdf_le (by decide +kernel) h
theorem mdle_m_orders_m_endsLike {r k : Nat} (h : md_m_orders r k = false) : md_m_endsLike r k = false := mdf_le (by decide +kernel) h
theorem mdle_m_orders_m_onces2 {r k : Nat} (h : md_m_orders r k = false) : md_m_onces2 r k = false := mdf_le (by decide +kernel) h
theorem mdle_m_orders_m_onces3 {r k : Nat} (h : md_m_orders r k = false) : md_m_onces3 r k = false := mdf_le (by decide +kernel) h
theorem mdle_m_orders_m_onces4 {r k : Nat} (h : md_m_orders r k = false) : md_m_onces4 r k = false := mdf_le (by decide +kernel) h
theorem mdle_m_orders_m_readsX {r k : Nat} (h : md_m_orders r k = false) : md_m_readsX r k = false := mdf_le (by decide +kernel) h
set_option maxHeartbeats 4000000 in
set_option maxRecDepth 100000 in
theorem lt_m_orders_a (l : Launch) (D : va_G) (cI cZ cS cR : ClassId) (N0 : NT) (g : GS) (h : Nat) (n : Int32) (k : Int32) (r_h : g.1 h = 8) (hw : PX 48 2 3 71 72 g h) {p : Program} {e : Env} {s : State} {m : MethodId} {args : Array Value} {below : List Frame} {meth : Method} {c : Code} (hB : Tz p s m meth c args cX7_orders 7 RX7 D cI cZ cS cR N0) (hr : meth.sig.returnType = (some .int))    : ∀ (kf : Nat) (g1 : GS) (xx : Int32) (al : Int32) (li : Int32) (on : Int32) (rw : Int32)  (H : Heap) (locs : List Loc) (ls : Array Slot), Tv D cI cZ cS cR N0 s.heap H locs g1 → Inv g1 → Ex g g1 → Sm md_m_orders g g1 → 0 ≤ xx.toInt → xx.toInt ≤ 2147483647 → 0 ≤ on.toInt → on.toInt ≤ 24 → 2 ≤ rw.toInt → rw.toInt ≤ 4 → g1.2.1 h 30 = .int rw → (2147483648 ≤ xx.toInt + kf) → lv_has ls 7 [(6, .int xx), (5, .int li), (4, .int al), (3, .int on), (0, .ref h), (1, .int n), (2, .int k)] → W p l e (rmx 9 0 0) s m args below meth c H locs 0 0 (MQ below (tQ D cI cZ cS cR N0 (fun v g' => ∃ (r : Int32), v = some (.int r) ∧ Inv g' ∧ Ex g g' ∧ Sm md_m_orders g g')) args s 0 0 (fun q => N0.1 ≤ q)) (F0 m 54 ls []) := by
  have hx := hB.1
  have hb := hB.2.1
  intro kf
  induction kf using Nat.strongRecOn with
  | ind kf ih =>
    intro g1 xx al li on rw H locs ls hT hI hE hM l_xx u_xx l_on u_on l_rw u_rw kp0 hk hl
    have r_1 : g1.1 h = 8 := Ex.r hE r_h (by decide)
    refine lv_iload hx hb dX7_orders_54 (lv_at hl 0 rfl) ?_
    refine lv_aload_n hx hb dX7_orders_56 rfl (lv_at hl 4 rfl) ?_
    refine t_get (ci := 7) (v := .int rw) hB hT (ro_ci r_1 rfl) rfl 30 (by decide) k_775 kp0 dX7_orders_57 ?_
    refine lv_aload_n hx hb dX7_orders_60 rfl (lv_at hl 4 rfl) ?_
    refine t_get (ci := 7) (v := .int rw) hB hT (ro_ci r_1 rfl) rfl 30 (by decide) k_775 kp0 dX7_orders_61 ?_
    refine lv_iconst (v := 1) hx hb dX7_orders_64 (by decide) ?_
    refine lv_iadd hx hb dX7_orders_65 ?_
    refine lv_topi (fun z_2 ez_2 => ?_)
    have e_z_2 : z_2.toInt = rw.toInt + 1 := i_add ez_2 rfl (by decide) (by omega) (by omega)
    refine t_callS (n := 2) (As := [.int rw, .int z_2]) (rest := [.int xx]) hB hT hl.1 (m_power l D cI cZ cS cR N0 g1 hI rw z_2 ) k_1134 k_65 k_1132 k_1133 (by decide +kernel) ⟨(Nat.le_of_ble_eq_true rfl), (Nat.le_of_ble_eq_true rfl)⟩ rfl (Nat.le_of_ble_eq_true rfl) ⟨(Nat.le_of_ble_eq_true rfl), (Nat.le_of_ble_eq_true rfl)⟩ dX7_orders_66 (fun v g_3 H locs hp hT => ?_)
    obtain ⟨r_4, rfl, eg⟩ := hp
    rw [eg] at hT
    clear eg
    refine W.eq (g2 := F0 m 69 ls [.int r_4, .int xx]) rfl ?_
    have rg_7 := i_rng r_4
    refine lv_icmp_ge (tgt := 135) hx hb dX7_orders_69 (by decide) (fun c_8 => ?_) (fun c_8 => ?_)
    · have c_8' : r_4.toInt ≤ xx.toInt := i_le c_8 rfl rfl
      refine lv_iload_n hx hb dX7_orders_135 rfl (lv_at hl 6 rfl) ?_
      refine lv_if_ne (tgt := 144) hx hb dX7_orders_136 (by decide) (fun c_9 => ?_) (fun c_9 => ?_)
      · have c_9' : k.toInt ≠ 0 := i_ne c_9 rfl (by decide)
        refine lv_iload hx hb dX7_orders_144 (lv_at hl 1 rfl) ?_
        exact t_iret hB hr hT (Nat.le_of_ble_eq_true rfl) (Nat.le_of_ble_eq_true rfl) dX7_orders_146 ⟨li, rfl, hI, hE, hM⟩
      · have c_9' : k.toInt = 0 := i_eq c_9 rfl (by decide)
        refine lv_iload hx hb dX7_orders_139 (lv_at hl 2 rfl) ?_
        refine lv_goto (tgt := 146) hx hb dX7_orders_141 (by decide) ?_
        exact t_iret hB hr hT (Nat.le_of_ble_eq_true rfl) (Nat.le_of_ble_eq_true rfl) dX7_orders_146 ⟨al, rfl, hI, hE, hM⟩
    · have c_8' : xx.toInt < r_4.toInt := i_nle c_8 rfl rfl
      refine lv_aload_n hx hb dX7_orders_72 rfl (lv_at hl 4 rfl) ?_
      refine lv_iload hx hb dX7_orders_73 (lv_at hl 0 rfl) ?_
      refine lv_aload_n hx hb dX7_orders_75 rfl (lv_at hl 4 rfl) ?_
      refine t_get (ci := 7) (v := .int rw) hB hT (ro_ci r_1 rfl) rfl 30 (by decide) k_775 kp0 dX7_orders_76 ?_
      refine lv_iconst (v := 1) hx hb dX7_orders_79 (by decide) ?_
      refine lv_iadd hx hb dX7_orders_80 ?_
      refine lv_topi (fun z_10 ez_10 => ?_)
      have e_z_10 : z_10.toInt = rw.toInt + 1 := i_add ez_10 rfl (by decide) (by omega) (by omega)
      obtain ⟨v_11, e_v_11, r_v_11, n_v_11⟩ := f_8_61 hI r_1
      refine t_callV (n := 2) (As := [.int xx, .int z_10]) (rest := []) (ci := 7) hB hT hl.1 (m_readsX l D cI cZ cS cR N0 g1 hI h xx z_10 v_11 rw r_1 r_v_11 n_v_11 e_v_11 kp0 (by omega) (by omega) (by omega) (by omega) (by omega) (by omega)) (ro_ci r_1 rfl) rfl k_1138 k_65 k_1135 k_1137 k_50 (by decide +kernel) ⟨(Nat.le_of_ble_eq_true rfl), (Nat.le_of_ble_eq_true rfl)⟩ rfl (Nat.le_of_ble_eq_true rfl) ⟨(Nat.le_of_ble_eq_true rfl), (Nat.le_of_ble_eq_true rfl)⟩ dX7_orders_81 (fun v g_12 H locs hp hT => ?_)
      obtain ⟨rfl, hI, x_15, m_14, f_13⟩ := hp
      have hM : Sm md_m_orders g g_12 := hM.tr hE (m_14.mo (fun r k h => mdle_m_orders_m_readsX h))
      have hE : Ex g g_12 := hE.tr x_15
      have r_16 : g_12.1 h = 8 := (Ex.r x_15 r_1 (by decide))
      have r_17 : g_12.1 v_11 = 52 := (Ex.r x_15 r_v_11 (by decide))
      have n_18 : g_12.2.2.1 v_11 = 5 := (Ex.n x_15 r_v_11 (by decide) n_v_11)
      have kn_19 : g_12.2.1 h 30 = .int rw := (Sm.v m_14 r_1 (by decide) rfl kp0)
      have kn_20 : g_12.2.1 h 61 = .ref v_11 := (Sm.v m_14 r_1 (by decide) rfl e_v_11)
      refine W.eq (g2 := F0 m 84 ls []) rfl ?_
      refine lv_aload_n hx hb dX7_orders_84 rfl (lv_at hl 4 rfl) ?_
      refine lv_aload_n hx hb dX7_orders_85 rfl (lv_at hl 4 rfl) ?_
      refine t_get (ci := 7) (v := .int rw) hB hT (ro_ci r_16 rfl) rfl 30 (by decide) k_775 kn_19 dX7_orders_86 ?_
      refine lv_iconst (v := 1) hx hb dX7_orders_89 (by decide) ?_
      refine lv_iadd hx hb dX7_orders_90 ?_
      refine lv_topi (fun z_21 ez_21 => ?_)
      have e_z_21 : z_21.toInt = rw.toInt + 1 := i_add ez_21 rfl (by decide) (by omega) (by omega)
      refine lv_iload_n hx hb dX7_orders_91 rfl (lv_at hl 5 rfl) ?_
      refine t_callV (n := 2) (As := [.int z_21, .int n]) (rest := []) (ci := 7) hB hT hl.1 (m_isOrder l D cI cZ cS cR N0 g_12 hI h z_21 n v_11 rw r_16 r_17 n_18 kn_20 kn_19 (by omega) (by omega) (by omega) (by omega)) (ro_ci r_16 rfl) rfl k_1142 k_65 k_1139 k_1141 k_51 (by decide +kernel) ⟨(Nat.le_of_ble_eq_true rfl), (Nat.le_of_ble_eq_true rfl)⟩ rfl (Nat.le_of_ble_eq_true rfl) ⟨(Nat.le_of_ble_eq_true rfl), (Nat.le_of_ble_eq_true rfl)⟩ dX7_orders_92 (fun v g_22 H locs hp hT => ?_)
      obtain ⟨r_23, rfl, eg, f_24⟩ := hp
      rw [eg] at hT
      clear eg
      refine W.eq (g2 := F0 m 95 ls [.int r_23]) rfl ?_
      rcases f_24 with ⟨rfl, hw_27⟩ | rfl
      · refine W.eq (g2 := F0 m 95 ls [.int 1]) rfl ?_
        refine lv_if_eq (tgt := 129) hx hb dX7_orders_95 (by decide) (fun c_ => absurd c_ (by decide)) (fun c_ => ?_)
        refine lv_aload_n hx hb dX7_orders_98 rfl (lv_at hl 4 rfl) ?_
        refine lv_aload_n hx hb dX7_orders_99 rfl (lv_at hl 4 rfl) ?_
        refine t_get (ci := 7) (v := .int rw) hB hT (ro_ci r_16 rfl) rfl 30 (by decide) k_775 kn_19 dX7_orders_100 ?_
        refine lv_iconst (v := 1) hx hb dX7_orders_103 (by decide) ?_
        refine lv_iadd hx hb dX7_orders_104 ?_
        refine lv_topi (fun z_28 ez_28 => ?_)
        have e_z_28 : z_28.toInt = rw.toInt + 1 := i_add ez_28 rfl (by decide) (by omega) (by omega)
        refine t_callV (n := 1) (As := [.int z_28]) (rest := []) (ci := 7) hB hT hl.1 (m_does l D cI cZ cS cR N0 g_12 hI h z_28 r_16 (by omega) (by omega) (hw.mono hM hE r_h (by decide) (by decide) rfl rfl rfl rfl)) (ro_ci r_16 rfl) rfl k_1146 k_65 k_1143 k_1145 k_52 (by decide +kernel) ⟨(Nat.le_of_ble_eq_true rfl), (Nat.le_of_ble_eq_true rfl)⟩ rfl (Nat.le_of_ble_eq_true rfl) ⟨(Nat.le_of_ble_eq_true rfl), (Nat.le_of_ble_eq_true rfl)⟩ dX7_orders_105 (fun v g_29 H locs hp hT => ?_)
        obtain ⟨rfl, hI, x_31, m_30⟩ := hp
        have hM : Sm md_m_orders g g_29 := hM.tr hE (m_30.mo (fun r k h => mdle_m_orders_m_does h))
        have hE : Ex g g_29 := hE.tr x_31
        have r_32 : g_29.1 h = 8 := (Ex.r x_31 r_16 (by decide))
        have r_33 : g_29.1 v_11 = 52 := (Ex.r x_31 r_17 (by decide))
        have n_34 : g_29.2.2.1 v_11 = 5 := (Ex.n x_31 r_17 (by decide) n_18)
        have kn_35 : g_29.2.1 h 30 = .int rw := (Sm.v m_30 r_16 (by decide) rfl kn_19)
        have kn_36 : g_29.2.1 h 61 = .ref v_11 := (Sm.v m_30 r_16 (by decide) rfl kn_20)
        refine W.eq (g2 := F0 m 108 ls []) rfl ?_
        obtain ⟨z_37, ez_37⟩ : ∃ z : Int32, z = al + 1 := ⟨_, rfl⟩
        refine lv_iinc (v := z_37) (lv' := [(4, .int z_37), (6, .int xx), (5, .int li), (3, .int on), (0, .ref h), (1, .int n), (2, .int k)]) hx hb dX7_orders_108 hl (k := 2) rfl (by rw [ez_37]; rfl) (by decide) rfl (fun ls hl => ?_)
        refine lv_iload hx hb dX7_orders_111 (lv_at hl 2 rfl) ?_
        refine lv_aload_n hx hb dX7_orders_113 rfl (lv_at hl 4 rfl) ?_
        refine lv_iload_n hx hb dX7_orders_114 rfl (lv_at hl 3 rfl) ?_
        refine t_callV (n := 1) (As := [.int on]) (rest := [.int li]) (ci := 7) hB hT hl.1 (m_endsLike l D cI cZ cS cR N0 g_29 hI h on r_32 (by omega) (by omega)) (ro_ci r_32 rfl) rfl k_1150 k_65 k_1147 k_1149 k_53 (by decide +kernel) ⟨(Nat.le_of_ble_eq_true rfl), (Nat.le_of_ble_eq_true rfl)⟩ rfl (Nat.le_of_ble_eq_true rfl) ⟨(Nat.le_of_ble_eq_true rfl), (Nat.le_of_ble_eq_true rfl)⟩ dX7_orders_115 (fun v g_38 H locs hp hT => ?_)
        obtain ⟨r_39, rfl, hI, x_42, m_41, f_40⟩ := hp
        have hM : Sm md_m_orders g g_38 := hM.tr hE (m_41.mo (fun r k h => mdle_m_orders_m_endsLike h))
        have hE : Ex g g_38 := hE.tr x_42
        have r_43 : g_38.1 h = 8 := (Ex.r x_42 r_32 (by decide))
        have r_44 : g_38.1 v_11 = 52 := (Ex.r x_42 r_33 (by decide))
        have n_45 : g_38.2.2.1 v_11 = 5 := (Ex.n x_42 r_33 (by decide) n_34)
        have kn_46 : g_38.2.1 h 30 = .int rw := (Sm.v m_41 r_32 (by decide) rfl kn_35)
        have kn_47 : g_38.2.1 h 61 = .ref v_11 := (Sm.v m_41 r_32 (by decide) rfl kn_36)
        refine W.eq (g2 := F0 m 118 ls [.int r_39, .int li]) rfl ?_
        rcases f_40 with rfl | rfl
        · refine W.eq (g2 := F0 m 118 ls [.int 1, .int li]) rfl ?_
          refine lv_if_eq (tgt := 125) hx hb dX7_orders_118 (by decide) (fun c_ => absurd c_ (by decide)) (fun c_ => ?_)
          refine lv_iconst (v := 1) hx hb dX7_orders_121 (by decide) ?_
          refine lv_goto (tgt := 126) hx hb dX7_orders_122 (by decide) ?_
          refine lv_iadd hx hb dX7_orders_126 ?_
          refine lv_topi (fun z_48 ez_48 => ?_)
          refine lv_istore (lv' := [(5, .int z_48), (4, .int z_37), (6, .int xx), (3, .int on), (0, .ref h), (1, .int n), (2, .int k)]) hx hb dX7_orders_127 hl (by decide) rfl (fun ls hl => ?_)
          obtain ⟨z_49, ez_49⟩ : ∃ z : Int32, z = xx + 1 := ⟨_, rfl⟩
          have e_z_49 : z_49.toInt = xx.toInt + 1 := i_add ez_49 rfl (by decide) (by omega) (by omega)
          refine lv_iinc (v := z_49) (lv' := [(6, .int z_49), (5, .int z_48), (4, .int z_37), (3, .int on), (0, .ref h), (1, .int n), (2, .int k)]) hx hb dX7_orders_129 hl (k := 2) rfl (by rw [ez_49]; rfl) (by decide) rfl (fun ls hl => ?_)
          refine lv_goto (tgt := 54) hx hb dX7_orders_132 (by decide) ?_
          exact ih (kf - 1) (by omega) g_38 z_49 z_37 z_48 on rw H locs ls hT hI hE hM (by omega) (by omega) (by omega) (by omega) (by omega) (by omega) kn_46 (by have e0_ : (0 : Int32).toInt = 0 := (by decide); omega) (lv_sub hl [0, 1, 2, 3, 4, 5, 6] rfl)
        · refine W.eq (g2 := F0 m 118 ls [.int 0, .int li]) rfl ?_
          refine lv_if_eq (tgt := 125) hx hb dX7_orders_118 (by decide) (fun c_ => ?_) (fun c_ => absurd (by decide) c_)
          refine lv_iconst (v := 0) hx hb dX7_orders_125 (by decide) ?_
          refine lv_iadd hx hb dX7_orders_126 ?_
          refine lv_topi (fun z_50 ez_50 => ?_)
          refine lv_istore (lv' := [(5, .int z_50), (4, .int z_37), (6, .int xx), (3, .int on), (0, .ref h), (1, .int n), (2, .int k)]) hx hb dX7_orders_127 hl (by decide) rfl (fun ls hl => ?_)
          obtain ⟨z_51, ez_51⟩ : ∃ z : Int32, z = xx + 1 := ⟨_, rfl⟩
          have e_z_51 : z_51.toInt = xx.toInt + 1 := i_add ez_51 rfl (by decide) (by omega) (by omega)
          refine lv_iinc (v := z_51) (lv' := [(6, .int z_51), (5, .int z_50), (4, .int z_37), (3, .int on), (0, .ref h), (1, .int n), (2, .int k)]) hx hb dX7_orders_129 hl (k := 2) rfl (by rw [ez_51]; rfl) (by decide) rfl (fun ls hl => ?_)
          refine lv_goto (tgt := 54) hx hb dX7_orders_132 (by decide) ?_
          exact ih (kf - 1) (by omega) g_38 z_51 z_37 z_50 on rw H locs ls hT hI hE hM (by omega) (by omega) (by omega) (by omega) (by omega) (by omega) kn_46 (by have e0_ : (0 : Int32).toInt = 0 := (by decide); omega) (lv_sub hl [0, 1, 2, 3, 4, 5, 6] rfl)
      · refine W.eq (g2 := F0 m 95 ls [.int 0]) rfl ?_
        refine lv_if_eq (tgt := 129) hx hb dX7_orders_95 (by decide) (fun c_ => ?_) (fun c_ => absurd (by decide) c_)
        obtain ⟨z_52, ez_52⟩ : ∃ z : Int32, z = xx + 1 := ⟨_, rfl⟩
        have e_z_52 : z_52.toInt = xx.toInt + 1 := i_add ez_52 rfl (by decide) (by omega) (by omega)
        refine lv_iinc (v := z_52) (lv' := [(6, .int z_52), (5, .int li), (4, .int al), (3, .int on), (0, .ref h), (1, .int n), (2, .int k)]) hx hb dX7_orders_129 hl (k := 0) rfl (by rw [ez_52]; rfl) (by decide) rfl (fun ls hl => ?_)
        refine lv_goto (tgt := 54) hx hb dX7_orders_132 (by decide) ?_
        exact ih (kf - 1) (by omega) g_12 z_52 al li on rw H locs ls hT hI hE hM (by omega) (by omega) (by omega) (by omega) (by omega) (by omega) kn_19 (by have e0_ : (0 : Int32).toInt = 0 := (by decide); omega) (lv_sub hl [0, 1, 2, 3, 4, 5, 6] rfl)
set_option maxHeartbeats 4000000 in
set_option maxRecDepth 100000 in
theorem m_orders (l : Launch) (D : va_G) (cI cZ cS cR : ClassId) (N0 : NT) (g : GS) (hI : Inv g) (h : Nat) (n : Int32) (k : Int32) (r_h : g.1 h = 8) (hw : PX 48 2 3 71 72 g h) : Ty l D cI cZ cS cR N0 yX7_orders cX7_orders 7 (some .int) 9 0 0 [.ref h, .int n, .int k] g (fun v g' => ∃ (r : Int32), v = some (.int r) ∧ Inv g' ∧ Ex g g' ∧ Sm md_m_orders g g') := by
  refine t_enter (by decide) (Nat.le_of_ble_eq_true rfl) ?_
  intro p e s m args below meth c ls H locs hB hr hin hl hT
  have hx := hB.1
  have hb := hB.2.1
  have hl : lv_has ls 7 [(0, .ref h), (1, .int n), (2, .int k)] := hl
  have hE : Ex g g := Ex.rf
  have hM : Sm md_m_orders g g := Sm.rf
  refine lv_iload_n hx hb dX7_orders_0 rfl (lv_at hl 1 rfl) ?_
  refine lv_iconst (v := 0) hx hb dX7_orders_1 (by decide) ?_
  refine lv_aload_n hx hb dX7_orders_2 rfl (lv_at hl 0 rfl) ?_
  obtain ⟨v_1, e_v_1, l_v_1, u_v_1⟩ := f_8_30 hI r_h
  refine t_get (ci := 7) (v := .int v_1) hB hT (ro_ci r_h rfl) rfl 30 (by decide) k_775 e_v_1 dX7_orders_3 ?_
  refine lv_iconst (v := 1) hx hb dX7_orders_6 (by decide) ?_
  refine lv_isub hx hb dX7_orders_7 ?_
  refine lv_topi (fun z_2 ez_2 => ?_)
  have e_z_2 : z_2.toInt = v_1.toInt - 1 := i_sub ez_2 rfl (by decide) (by omega) (by omega)
  refine t_callS (n := 3) (As := [.int n, .int 0, .int z_2]) (rest := []) hB hT hl.1 (m_in l D cI cZ cS cR N0 g hI n 0 z_2 ) k_954 k_65 k_952 k_953 (by decide +kernel) ⟨(Nat.le_of_ble_eq_true rfl), (Nat.le_of_ble_eq_true rfl)⟩ rfl (Nat.le_of_ble_eq_true rfl) ⟨(Nat.le_of_ble_eq_true rfl), (Nat.le_of_ble_eq_true rfl)⟩ dX7_orders_8 (fun v g_3 H locs hp hT => ?_)
  obtain ⟨r_4, rfl, eg, f_5⟩ := hp
  rw [eg] at hT
  clear eg
  refine W.eq (g2 := F0 m 11 ls [.int r_4]) rfl ?_
  have qc_8 : (0 : Int32).toInt = 0 := (by decide)
  rcases f_5 with ⟨rfl, hw_9, hw_10⟩ | ⟨rfl, hw_11⟩
  · refine W.eq (g2 := F0 m 11 ls [.int 1]) rfl ?_
    refine lv_if_eq (tgt := 23) hx hb dX7_orders_11 (by decide) (fun c_ => absurd c_ (by decide)) (fun c_ => ?_)
    refine lv_iload_n hx hb dX7_orders_14 rfl (lv_at hl 2 rfl) ?_
    refine lv_iconst (v := 0) hx hb dX7_orders_15 (by decide) ?_
    refine lv_iconst (v := 1) hx hb dX7_orders_16 (by decide) ?_
    refine t_callS (n := 3) (As := [.int k, .int 0, .int 1]) (rest := []) hB hT hl.1 (m_in l D cI cZ cS cR N0 g hI k 0 1 ) k_954 k_65 k_952 k_953 (by decide +kernel) ⟨(Nat.le_of_ble_eq_true rfl), (Nat.le_of_ble_eq_true rfl)⟩ rfl (Nat.le_of_ble_eq_true rfl) ⟨(Nat.le_of_ble_eq_true rfl), (Nat.le_of_ble_eq_true rfl)⟩ dX7_orders_17 (fun v g_12 H locs hp hT => ?_)
    obtain ⟨r_13, rfl, eg, f_14⟩ := hp
    rw [eg] at hT
    clear eg
    refine W.eq (g2 := F0 m 20 ls [.int r_13]) rfl ?_
    have qc_17 : (0 : Int32).toInt = 0 := (by decide)
    have qc_18 : (1 : Int32).toInt = 1 := (by decide)
    rcases f_14 with ⟨rfl, hw_19, hw_20⟩ | ⟨rfl, hw_21⟩
    · refine W.eq (g2 := F0 m 20 ls [.int 1]) rfl ?_
      refine lv_if_ne (tgt := 25) hx hb dX7_orders_20 (by decide) (fun c_ => ?_) (fun c_ => absurd c_ (by decide))
      refine lv_aload_n hx hb dX7_orders_25 rfl (lv_at hl 0 rfl) ?_
      refine t_get (ci := 7) (v := .int v_1) hB hT (ro_ci r_h rfl) rfl 30 (by decide) k_775 e_v_1 dX7_orders_26 ?_
      refine lv_iconst (v := 2) hx hb dX7_orders_29 (by decide) ?_
      refine lv_iconst (v := 4) hx hb dX7_orders_30 (by decide) ?_
      refine t_callS (n := 3) (As := [.int v_1, .int 2, .int 4]) (rest := []) hB hT hl.1 (m_in l D cI cZ cS cR N0 g hI v_1 2 4 ) k_954 k_65 k_952 k_953 (by decide +kernel) ⟨(Nat.le_of_ble_eq_true rfl), (Nat.le_of_ble_eq_true rfl)⟩ rfl (Nat.le_of_ble_eq_true rfl) ⟨(Nat.le_of_ble_eq_true rfl), (Nat.le_of_ble_eq_true rfl)⟩ dX7_orders_31 (fun v g_22 H locs hp hT => ?_)
      obtain ⟨r_23, rfl, eg, f_24⟩ := hp
      rw [eg] at hT
      clear eg
      refine W.eq (g2 := F0 m 34 ls [.int r_23]) rfl ?_
      have qc_27 : (2 : Int32).toInt = 2 := (by decide)
      have qc_28 : (4 : Int32).toInt = 4 := (by decide)
      rcases f_24 with ⟨rfl, hw_29, hw_30⟩ | ⟨rfl, hw_31⟩
      · refine W.eq (g2 := F0 m 34 ls [.int 1]) rfl ?_
        refine lv_if_ne (tgt := 40) hx hb dX7_orders_34 (by decide) (fun c_ => ?_) (fun c_ => absurd c_ (by decide))
        have h3_ : v_1.toInt = 2 ∨ v_1.toInt = 3 ∨ v_1.toInt = 4 := (by omega)
        rcases h3_ with h3_ | h3_ | h3_
        · have kn_32 : g.2.1 h 30 = .int 2 := by rw [e_v_1, show v_1 = 2 from i_inj (by rw [h3_]; decide)]
          refine lv_aload_n hx hb dX7_orders_40 rfl (lv_at hl 0 rfl) ?_
          refine t_callV (n := 0) (As := []) (rest := []) (ci := 7) hB hT hl.1 (m_onces2 l D cI cZ cS cR N0 g hI h r_h kn_32 hw) (ro_ci r_h rfl) rfl k_1131 k_65 k_1128 k_1130 k_49 (by decide +kernel) ⟨(Nat.le_of_ble_eq_true rfl), (Nat.le_of_ble_eq_true rfl)⟩ rfl (Nat.le_of_ble_eq_true rfl) ⟨(Nat.le_of_ble_eq_true rfl), (Nat.le_of_ble_eq_true rfl)⟩ dX7_orders_41 (fun v g_33 H locs hp hT => ?_)
          obtain ⟨r_34, rfl, hI, x_37, m_36, f_35⟩ := hp
          have hM : Sm md_m_orders g g_33 := hM.tr hE (m_36.mo (fun r k h => mdle_m_orders_m_onces2 h))
          have hE : Ex g g_33 := hE.tr x_37
          have r_38 : g_33.1 h = 8 := (Ex.r x_37 r_h (by decide))
          have kn_39 : g_33.2.1 h 30 = .int 2 := (Sm.v m_36 r_h (by decide) rfl kn_32)
          refine W.eq (g2 := F0 m 44 ls [.int r_34]) rfl ?_
          refine lv_istore_n (lv' := [(3, .int r_34), (0, .ref h), (1, .int n), (2, .int k)]) hx hb dX7_orders_44 rfl hl (by decide) rfl (fun ls hl => ?_)
          refine lv_iconst (v := 0) hx hb dX7_orders_45 (by decide) ?_
          refine lv_istore (lv' := [(4, .int 0), (3, .int r_34), (0, .ref h), (1, .int n), (2, .int k)]) hx hb dX7_orders_46 hl (by decide) rfl (fun ls hl => ?_)
          refine lv_iconst (v := 0) hx hb dX7_orders_48 (by decide) ?_
          refine lv_istore (lv' := [(5, .int 0), (4, .int 0), (3, .int r_34), (0, .ref h), (1, .int n), (2, .int k)]) hx hb dX7_orders_49 hl (by decide) rfl (fun ls hl => ?_)
          refine lv_iconst (v := 0) hx hb dX7_orders_51 (by decide) ?_
          refine lv_istore (lv' := [(6, .int 0), (5, .int 0), (4, .int 0), (3, .int r_34), (0, .ref h), (1, .int n), (2, .int k)]) hx hb dX7_orders_52 hl (by decide) rfl (fun ls hl => ?_)
          exact lt_m_orders_a l D cI cZ cS cR N0 g h n k r_h hw hB hr   2147483648 g_33 (0 : Int32) (0 : Int32) (0 : Int32) r_34 (2 : Int32) H locs ls hT hI hE hM (by decide) (by decide) (by omega) (by omega) (by decide) (by decide) kn_39 (by have e0_ : (0 : Int32).toInt = 0 := (by decide); have e1_ : (2 : Int32).toInt = 2 := (by decide); omega) (lv_sub hl [0, 1, 2, 3, 4, 5, 6] rfl)
        · have kn_40 : g.2.1 h 30 = .int 3 := by rw [e_v_1, show v_1 = 3 from i_inj (by rw [h3_]; decide)]
          refine lv_aload_n hx hb dX7_orders_40 rfl (lv_at hl 0 rfl) ?_
          refine t_callV (n := 0) (As := []) (rest := []) (ci := 7) hB hT hl.1 (m_onces3 l D cI cZ cS cR N0 g hI h r_h kn_40 hw) (ro_ci r_h rfl) rfl k_1131 k_65 k_1128 k_1130 k_49 (by decide +kernel) ⟨(Nat.le_of_ble_eq_true rfl), (Nat.le_of_ble_eq_true rfl)⟩ rfl (Nat.le_of_ble_eq_true rfl) ⟨(Nat.le_of_ble_eq_true rfl), (Nat.le_of_ble_eq_true rfl)⟩ dX7_orders_41 (fun v g_41 H locs hp hT => ?_)
          obtain ⟨r_42, rfl, hI, x_45, m_44, f_43⟩ := hp
          have hM : Sm md_m_orders g g_41 := hM.tr hE (m_44.mo (fun r k h => mdle_m_orders_m_onces3 h))
          have hE : Ex g g_41 := hE.tr x_45
          have r_46 : g_41.1 h = 8 := (Ex.r x_45 r_h (by decide))
          have kn_47 : g_41.2.1 h 30 = .int 3 := (Sm.v m_44 r_h (by decide) rfl kn_40)
          refine W.eq (g2 := F0 m 44 ls [.int r_42]) rfl ?_
          refine lv_istore_n (lv' := [(3, .int r_42), (0, .ref h), (1, .int n), (2, .int k)]) hx hb dX7_orders_44 rfl hl (by decide) rfl (fun ls hl => ?_)
          refine lv_iconst (v := 0) hx hb dX7_orders_45 (by decide) ?_
          refine lv_istore (lv' := [(4, .int 0), (3, .int r_42), (0, .ref h), (1, .int n), (2, .int k)]) hx hb dX7_orders_46 hl (by decide) rfl (fun ls hl => ?_)
          refine lv_iconst (v := 0) hx hb dX7_orders_48 (by decide) ?_
          refine lv_istore (lv' := [(5, .int 0), (4, .int 0), (3, .int r_42), (0, .ref h), (1, .int n), (2, .int k)]) hx hb dX7_orders_49 hl (by decide) rfl (fun ls hl => ?_)
          refine lv_iconst (v := 0) hx hb dX7_orders_51 (by decide) ?_
          refine lv_istore (lv' := [(6, .int 0), (5, .int 0), (4, .int 0), (3, .int r_42), (0, .ref h), (1, .int n), (2, .int k)]) hx hb dX7_orders_52 hl (by decide) rfl (fun ls hl => ?_)
          exact lt_m_orders_a l D cI cZ cS cR N0 g h n k r_h hw hB hr   2147483648 g_41 (0 : Int32) (0 : Int32) (0 : Int32) r_42 (3 : Int32) H locs ls hT hI hE hM (by decide) (by decide) (by omega) (by omega) (by decide) (by decide) kn_47 (by have e0_ : (0 : Int32).toInt = 0 := (by decide); have e1_ : (3 : Int32).toInt = 3 := (by decide); omega) (lv_sub hl [0, 1, 2, 3, 4, 5, 6] rfl)
        · have kn_48 : g.2.1 h 30 = .int 4 := by rw [e_v_1, show v_1 = 4 from i_inj (by rw [h3_]; decide)]
          refine lv_aload_n hx hb dX7_orders_40 rfl (lv_at hl 0 rfl) ?_
          refine t_callV (n := 0) (As := []) (rest := []) (ci := 7) hB hT hl.1 (m_onces4 l D cI cZ cS cR N0 g hI h r_h kn_48 hw) (ro_ci r_h rfl) rfl k_1131 k_65 k_1128 k_1130 k_49 (by decide +kernel) ⟨(Nat.le_of_ble_eq_true rfl), (Nat.le_of_ble_eq_true rfl)⟩ rfl (Nat.le_of_ble_eq_true rfl) ⟨(Nat.le_of_ble_eq_true rfl), (Nat.le_of_ble_eq_true rfl)⟩ dX7_orders_41 (fun v g_49 H locs hp hT => ?_)
          obtain ⟨r_50, rfl, hI, x_53, m_52, f_51⟩ := hp
          have hM : Sm md_m_orders g g_49 := hM.tr hE (m_52.mo (fun r k h => mdle_m_orders_m_onces4 h))
          have hE : Ex g g_49 := hE.tr x_53
          have r_54 : g_49.1 h = 8 := (Ex.r x_53 r_h (by decide))
          have kn_55 : g_49.2.1 h 30 = .int 4 := (Sm.v m_52 r_h (by decide) rfl kn_48)
          refine W.eq (g2 := F0 m 44 ls [.int r_50]) rfl ?_
          refine lv_istore_n (lv' := [(3, .int r_50), (0, .ref h), (1, .int n), (2, .int k)]) hx hb dX7_orders_44 rfl hl (by decide) rfl (fun ls hl => ?_)
          refine lv_iconst (v := 0) hx hb dX7_orders_45 (by decide) ?_
          refine lv_istore (lv' := [(4, .int 0), (3, .int r_50), (0, .ref h), (1, .int n), (2, .int k)]) hx hb dX7_orders_46 hl (by decide) rfl (fun ls hl => ?_)
          refine lv_iconst (v := 0) hx hb dX7_orders_48 (by decide) ?_
          refine lv_istore (lv' := [(5, .int 0), (4, .int 0), (3, .int r_50), (0, .ref h), (1, .int n), (2, .int k)]) hx hb dX7_orders_49 hl (by decide) rfl (fun ls hl => ?_)
          refine lv_iconst (v := 0) hx hb dX7_orders_51 (by decide) ?_
          refine lv_istore (lv' := [(6, .int 0), (5, .int 0), (4, .int 0), (3, .int r_50), (0, .ref h), (1, .int n), (2, .int k)]) hx hb dX7_orders_52 hl (by decide) rfl (fun ls hl => ?_)
          exact lt_m_orders_a l D cI cZ cS cR N0 g h n k r_h hw hB hr   2147483648 g_49 (0 : Int32) (0 : Int32) (0 : Int32) r_50 (4 : Int32) H locs ls hT hI hE hM (by decide) (by decide) (by omega) (by omega) (by decide) (by decide) kn_55 (by have e0_ : (0 : Int32).toInt = 0 := (by decide); have e1_ : (4 : Int32).toInt = 4 := (by decide); omega) (lv_sub hl [0, 1, 2, 3, 4, 5, 6] rfl)
      · refine W.eq (g2 := F0 m 34 ls [.int 0]) rfl ?_
        refine lv_if_ne (tgt := 40) hx hb dX7_orders_34 (by decide) (fun c_ => absurd (by decide) c_) (fun c_ => ?_)
        refine lv_bipush (v := (-3)) hx hb dX7_orders_37 (by decide) ?_
        exact t_iret hB hr hT (Nat.le_of_ble_eq_true rfl) (Nat.le_of_ble_eq_true rfl) dX7_orders_39 ⟨(-3), rfl, hI, hE, hM⟩
    · refine W.eq (g2 := F0 m 20 ls [.int 0]) rfl ?_
      refine lv_if_ne (tgt := 25) hx hb dX7_orders_20 (by decide) (fun c_ => absurd (by decide) c_) (fun c_ => ?_)
      refine lv_iconst (v := (-1)) hx hb dX7_orders_23 (by decide) ?_
      exact t_iret hB hr hT (Nat.le_of_ble_eq_true rfl) (Nat.le_of_ble_eq_true rfl) dX7_orders_24 ⟨(-1), rfl, hI, hE, hM⟩
  · refine W.eq (g2 := F0 m 11 ls [.int 0]) rfl ?_
    refine lv_if_eq (tgt := 23) hx hb dX7_orders_11 (by decide) (fun c_ => ?_) (fun c_ => absurd (by decide) c_)
    refine lv_iconst (v := (-1)) hx hb dX7_orders_23 (by decide) ?_
    exact t_iret hB hr hT (Nat.le_of_ble_eq_true rfl) (Nat.le_of_ble_eq_true rfl) dX7_orders_24 ⟨(-1), rfl, hI, hE, hM⟩
