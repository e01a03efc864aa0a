theorem k_36 : Cond.selects RX7 yX7_moves yX7_moves ∈ tb := mt 36 (by decide +kernel) rfl
theorem k_44 : Cond.selects RX7 yX7_once yX7_once ∈ tb := mt 44 (by decide +kernel) rfl
theorem k_45 : Cond.selects RX7 yX7_tries yX7_tries ∈ tb := mt 45 (by decide +kernel) rfl
theorem k_48 : Cond.selects RX7 yX7_worstOf yX7_worstOf ∈ tb := mt 48 (by decide +kernel) rfl
theorem k_766 : Cond.fieldLink RX7 223 "TwiceOnceModel" "world" "I" ∈ tb := mt 766 (by decide +kernel) rfl
theorem k_797 : Cond.fieldLink RX7 259 "TwiceOnceModel" "triedOuts" "I" ∈ tb := mt 797 (by decide +kernel) rfl
theorem k_805 : Cond.fieldLink RX7 302 "TwiceOnceModel" "onceOuts" "I" ∈ tb := mt 805 (by decide +kernel) rfl
theorem k_1048 : Cond.methodLink RX7 235 yX7_moves ∈ tb := mt 1048 (by decide +kernel) rfl
theorem k_1050 : Cond.instanceMethod yX7_moves ∈ tb := mt 1050 (by decide +kernel) rfl
set_option maxRecDepth 20000 in
theorem k_1051 : Cond.code yX7_moves cX7_moves 3 none ∈ tb := mt 1051 rfl rfl
theorem k_1100 : Cond.methodLink RX7 305 yX7_once ∈ tb := mt 1100 (by decide +kernel) rfl
theorem k_1102 : Cond.instanceMethod yX7_once ∈ tb := mt 1102 (by decide +kernel) rfl
set_option maxRecDepth 20000 in
theorem k_1103 : Cond.code yX7_once cX7_once 2 none ∈ tb := mt 1103 rfl rfl
theorem k_1104 : Cond.methodLink RX7 296 yX7_tries ∈ tb := mt 1104 (by decide +kernel) rfl
theorem k_1106 : Cond.instanceMethod yX7_tries ∈ tb := mt 1106 (by decide +kernel) rfl
set_option maxRecDepth 20000 in
theorem k_1107 : Cond.code yX7_tries cX7_tries 2 none ∈ tb := mt 1107 rfl rfl
theorem k_1120 : Cond.methodLink RX7 311 yX7_worstOf ∈ tb := mt 1120 (by decide +kernel) rfl
theorem k_1122 : Cond.instanceMethod yX7_worstOf ∈ tb := mt 1122 (by decide +kernel) rfl
set_option maxRecDepth 20000 in
theorem k_1123 : Cond.code yX7_worstOf cX7_worstOf 4 (some .int) ∈ tb := mt 1123 rfl rfl
theorem dX7_moves_0 : decode cX7_moves 0 = .ok (.aload_n 0, 1) := by decide +kernel
theorem dX7_moves_1 : decode cX7_moves 1 = .ok (.getfield 37, 3) := by decide +kernel
theorem dX7_moves_4 : decode cX7_moves 4 = .ok (.iload_n 2, 1) := by decide +kernel
theorem dX7_moves_5 : decode cX7_moves 5 = .ok (.aload_n 0, 1) := by decide +kernel
theorem dX7_moves_6 : decode cX7_moves 6 = .ok (.getfield 37, 3) := by decide +kernel
theorem dX7_moves_9 : decode cX7_moves 9 = .ok (.iload_n 1, 1) := by decide +kernel
theorem dX7_moves_10 : decode cX7_moves 10 = .ok (.iaload, 1) := by decide +kernel
theorem dX7_moves_11 : decode cX7_moves 11 = .ok (.iastore, 1) := by decide +kernel
theorem dX7_moves_12 : decode cX7_moves 12 = .ok (.aload_n 0, 1) := by decide +kernel
theorem dX7_moves_13 : decode cX7_moves 13 = .ok (.getfield 40, 3) := by decide +kernel
theorem dX7_moves_16 : decode cX7_moves 16 = .ok (.iload_n 2, 1) := by decide +kernel
theorem dX7_moves_17 : decode cX7_moves 17 = .ok (.aload_n 0, 1) := by decide +kernel
theorem dX7_moves_18 : decode cX7_moves 18 = .ok (.getfield 40, 3) := by decide +kernel
theorem dX7_moves_21 : decode cX7_moves 21 = .ok (.iload_n 1, 1) := by decide +kernel
theorem dX7_moves_22 : decode cX7_moves 22 = .ok (.iaload, 1) := by decide +kernel
theorem dX7_moves_23 : decode cX7_moves 23 = .ok (.iastore, 1) := by decide +kernel
theorem dX7_moves_24 : decode cX7_moves 24 = .ok (.aload_n 0, 1) := by decide +kernel
theorem dX7_moves_25 : decode cX7_moves 25 = .ok (.getfield 43, 3) := by decide +kernel
theorem dX7_moves_28 : decode cX7_moves 28 = .ok (.iload_n 2, 1) := by decide +kernel
theorem dX7_moves_29 : decode cX7_moves 29 = .ok (.aload_n 0, 1) := by decide +kernel
theorem dX7_moves_30 : decode cX7_moves 30 = .ok (.getfield 43, 3) := by decide +kernel
theorem dX7_moves_33 : decode cX7_moves 33 = .ok (.iload_n 1, 1) := by decide +kernel
theorem dX7_moves_34 : decode cX7_moves 34 = .ok (.iaload, 1) := by decide +kernel
theorem dX7_moves_35 : decode cX7_moves 35 = .ok (.iastore, 1) := by decide +kernel
theorem dX7_moves_36 : decode cX7_moves 36 = .ok (.aload_n 0, 1) := by decide +kernel
theorem dX7_moves_37 : decode cX7_moves 37 = .ok (.getfield 46, 3) := by decide +kernel
theorem dX7_moves_40 : decode cX7_moves 40 = .ok (.iload_n 2, 1) := by decide +kernel
theorem dX7_moves_41 : decode cX7_moves 41 = .ok (.aload_n 0, 1) := by decide +kernel
theorem dX7_moves_42 : decode cX7_moves 42 = .ok (.getfield 46, 3) := by decide +kernel
theorem dX7_moves_45 : decode cX7_moves 45 = .ok (.iload_n 1, 1) := by decide +kernel
theorem dX7_moves_46 : decode cX7_moves 46 = .ok (.iaload, 1) := by decide +kernel
theorem dX7_moves_47 : decode cX7_moves 47 = .ok (.iastore, 1) := by decide +kernel
theorem dX7_moves_48 : decode cX7_moves 48 = .ok (.return_, 1) := by decide +kernel
theorem dX7_tries_24 : decode cX7_tries 24 = .ok (.iload_n 1, 1) := by decide +kernel
theorem dX7_tries_25 : decode cX7_tries 25 = .ok (.bipush 6, 2) := by decide +kernel
theorem dX7_tries_27 : decode cX7_tries 27 = .ok (.if_icmp .ge 84, 3) := by decide +kernel
theorem dX7_tries_30 : decode cX7_tries 30 = .ok (.aload_n 0, 1) := by decide +kernel
theorem dX7_tries_31 : decode cX7_tries 31 = .ok (.getfield 31, 3) := by decide +kernel
theorem dX7_tries_34 : decode cX7_tries 34 = .ok (.bipush 6, 2) := by decide +kernel
theorem dX7_tries_36 : decode cX7_tries 36 = .ok (.iload_n 1, 1) := by decide +kernel
theorem dX7_tries_37 : decode cX7_tries 37 = .ok (.iadd, 1) := by decide +kernel
theorem dX7_tries_38 : decode cX7_tries 38 = .ok (.aload_n 0, 1) := by decide +kernel
theorem dX7_tries_39 : decode cX7_tries 39 = .ok (.getfield 31, 3) := by decide +kernel
theorem dX7_tries_42 : decode cX7_tries 42 = .ok (.iload_n 1, 1) := by decide +kernel
theorem dX7_tries_43 : decode cX7_tries 43 = .ok (.iaload, 1) := by decide +kernel
theorem dX7_tries_44 : decode cX7_tries 44 = .ok (.iastore, 1) := by decide +kernel
theorem dX7_tries_45 : decode cX7_tries 45 = .ok (.aload_n 0, 1) := by decide +kernel
theorem dX7_tries_46 : decode cX7_tries 46 = .ok (.getfield 34, 3) := by decide +kernel
theorem dX7_tries_49 : decode cX7_tries 49 = .ok (.bipush 6, 2) := by decide +kernel
theorem dX7_tries_51 : decode cX7_tries 51 = .ok (.iload_n 1, 1) := by decide +kernel
theorem dX7_tries_52 : decode cX7_tries 52 = .ok (.iadd, 1) := by decide +kernel
theorem dX7_tries_53 : decode cX7_tries 53 = .ok (.aload_n 0, 1) := by decide +kernel
theorem dX7_tries_54 : decode cX7_tries 54 = .ok (.getfield 34, 3) := by decide +kernel
theorem dX7_tries_57 : decode cX7_tries 57 = .ok (.iload_n 1, 1) := by decide +kernel
theorem dX7_tries_58 : decode cX7_tries 58 = .ok (.iaload, 1) := by decide +kernel
theorem dX7_tries_59 : decode cX7_tries 59 = .ok (.iastore, 1) := by decide +kernel
theorem dX7_tries_60 : decode cX7_tries 60 = .ok (.aload_n 0, 1) := by decide +kernel
theorem dX7_tries_61 : decode cX7_tries 61 = .ok (.getfield 67, 3) := by decide +kernel
theorem dX7_tries_64 : decode cX7_tries 64 = .ok (.bipush 6, 2) := by decide +kernel
theorem dX7_tries_66 : decode cX7_tries 66 = .ok (.iload_n 1, 1) := by decide +kernel
theorem dX7_tries_67 : decode cX7_tries 67 = .ok (.iadd, 1) := by decide +kernel
theorem dX7_tries_68 : decode cX7_tries 68 = .ok (.aload_n 0, 1) := by decide +kernel
theorem dX7_tries_69 : decode cX7_tries 69 = .ok (.getfield 67, 3) := by decide +kernel
theorem dX7_tries_72 : decode cX7_tries 72 = .ok (.iload_n 1, 1) := by decide +kernel
theorem dX7_tries_73 : decode cX7_tries 73 = .ok (.baload, 1) := by decide +kernel
theorem dX7_tries_74 : decode cX7_tries 74 = .ok (.bastore, 1) := by decide +kernel
theorem dX7_tries_75 : decode cX7_tries 75 = .ok (.aload_n 0, 1) := by decide +kernel
theorem dX7_tries_76 : decode cX7_tries 76 = .ok (.getfield 52, 3) := by decide +kernel
theorem dX7_tries_79 : decode cX7_tries 79 = .ok (.bipush 6, 2) := by decide +kernel
theorem dX7_tries_81 : decode cX7_tries 81 = .ok (.iload_n 1, 1) := by decide +kernel
theorem dX7_tries_82 : decode cX7_tries 82 = .ok (.iadd, 1) := by decide +kernel
theorem dX7_tries_83 : decode cX7_tries 83 = .ok (.aload_n 0, 1) := by decide +kernel
theorem dX7_tries_84 : decode cX7_tries 84 = .ok (.getfield 52, 3) := by decide +kernel
theorem dX7_tries_87 : decode cX7_tries 87 = .ok (.iload_n 1, 1) := by decide +kernel
theorem dX7_tries_88 : decode cX7_tries 88 = .ok (.iaload, 1) := by decide +kernel
theorem dX7_tries_89 : decode cX7_tries 89 = .ok (.iastore, 1) := by decide +kernel
theorem dX7_tries_90 : decode cX7_tries 90 = .ok (.aload_n 0, 1) := by decide +kernel
theorem dX7_tries_91 : decode cX7_tries 91 = .ok (.getfield 55, 3) := by decide +kernel
theorem dX7_tries_94 : decode cX7_tries 94 = .ok (.bipush 6, 2) := by decide +kernel
theorem dX7_tries_96 : decode cX7_tries 96 = .ok (.iload_n 1, 1) := by decide +kernel
theorem dX7_tries_97 : decode cX7_tries 97 = .ok (.iadd, 1) := by decide +kernel
theorem dX7_tries_98 : decode cX7_tries 98 = .ok (.aload_n 0, 1) := by decide +kernel
theorem dX7_tries_99 : decode cX7_tries 99 = .ok (.getfield 55, 3) := by decide +kernel
theorem dX7_tries_102 : decode cX7_tries 102 = .ok (.iload_n 1, 1) := by decide +kernel
theorem dX7_tries_103 : decode cX7_tries 103 = .ok (.iaload, 1) := by decide +kernel
theorem dX7_tries_104 : decode cX7_tries 104 = .ok (.iastore, 1) := by decide +kernel
theorem dX7_tries_105 : decode cX7_tries 105 = .ok (.iinc 1 1, 3) := by decide +kernel
theorem dX7_tries_108 : decode cX7_tries 108 = .ok (.goto (-84), 3) := by decide +kernel
theorem dX7_tries_113 : decode cX7_tries 113 = .ok (.iload_n 1, 1) := by decide +kernel
theorem dX7_tries_114 : decode cX7_tries 114 = .ok (.bipush 24, 2) := by decide +kernel
theorem dX7_tries_116 : decode cX7_tries 116 = .ok (.if_icmp .ge 24, 3) := by decide +kernel
theorem dX7_tries_119 : decode cX7_tries 119 = .ok (.aload_n 0, 1) := by decide +kernel
theorem dX7_tries_120 : decode cX7_tries 120 = .ok (.getfield 28, 3) := by decide +kernel
theorem dX7_tries_123 : decode cX7_tries 123 = .ok (.bipush 24, 2) := by decide +kernel
theorem dX7_tries_125 : decode cX7_tries 125 = .ok (.iload_n 1, 1) := by decide +kernel
theorem dX7_tries_126 : decode cX7_tries 126 = .ok (.iadd, 1) := by decide +kernel
theorem dX7_tries_127 : decode cX7_tries 127 = .ok (.aload_n 0, 1) := by decide +kernel
theorem dX7_tries_128 : decode cX7_tries 128 = .ok (.getfield 28, 3) := by decide +kernel
theorem dX7_tries_131 : decode cX7_tries 131 = .ok (.iload_n 1, 1) := by decide +kernel
theorem dX7_tries_132 : decode cX7_tries 132 = .ok (.iaload, 1) := by decide +kernel
theorem dX7_tries_133 : decode cX7_tries 133 = .ok (.iastore, 1) := by decide +kernel
theorem dX7_tries_134 : decode cX7_tries 134 = .ok (.iinc 1 1, 3) := by decide +kernel
theorem dX7_tries_137 : decode cX7_tries 137 = .ok (.goto (-24), 3) := by decide +kernel
theorem dX7_tries_142 : decode cX7_tries 142 = .ok (.iload_n 1, 1) := by decide +kernel
theorem dX7_tries_143 : decode cX7_tries 143 = .ok (.bipush 96, 2) := by decide +kernel
theorem dX7_tries_145 : decode cX7_tries 145 = .ok (.if_icmp .ge 18, 3) := by decide +kernel
theorem dX7_tries_148 : decode cX7_tries 148 = .ok (.aload_n 0, 1) := by decide +kernel
theorem dX7_tries_149 : decode cX7_tries 149 = .ok (.iload_n 1, 1) := by decide +kernel
theorem dX7_tries_150 : decode cX7_tries 150 = .ok (.bipush 96, 2) := by decide +kernel
theorem dX7_tries_152 : decode cX7_tries 152 = .ok (.iload_n 1, 1) := by decide +kernel
theorem dX7_tries_153 : decode cX7_tries 153 = .ok (.iadd, 1) := by decide +kernel
theorem dX7_tries_154 : decode cX7_tries 154 = .ok (.invokevirtual 235, 3) := by decide +kernel
theorem dX7_tries_157 : decode cX7_tries 157 = .ok (.iinc 1 1, 3) := by decide +kernel
theorem dX7_tries_160 : decode cX7_tries 160 = .ok (.goto (-18), 3) := by decide +kernel
theorem dX7_tries_165 : decode cX7_tries 165 = .ok (.iload_n 1, 1) := by decide +kernel
theorem dX7_tries_166 : decode cX7_tries 166 = .ok (.bipush 48, 2) := by decide +kernel
theorem dX7_tries_168 : decode cX7_tries 168 = .ok (.if_icmp .ge 54, 3) := by decide +kernel
theorem dX7_tries_171 : decode cX7_tries 171 = .ok (.aload_n 0, 1) := by decide +kernel
theorem dX7_tries_172 : decode cX7_tries 172 = .ok (.getfield 58, 3) := by decide +kernel
theorem dX7_tries_175 : decode cX7_tries 175 = .ok (.bipush 48, 2) := by decide +kernel
theorem dX7_tries_177 : decode cX7_tries 177 = .ok (.iload_n 1, 1) := by decide +kernel
theorem dX7_tries_178 : decode cX7_tries 178 = .ok (.iadd, 1) := by decide +kernel
theorem dX7_tries_179 : decode cX7_tries 179 = .ok (.aload_n 0, 1) := by decide +kernel
theorem dX7_tries_180 : decode cX7_tries 180 = .ok (.getfield 58, 3) := by decide +kernel
theorem dX7_tries_183 : decode cX7_tries 183 = .ok (.iload_n 1, 1) := by decide +kernel
theorem dX7_tries_184 : decode cX7_tries 184 = .ok (.iaload, 1) := by decide +kernel
theorem dX7_tries_185 : decode cX7_tries 185 = .ok (.iastore, 1) := by decide +kernel
theorem dX7_tries_186 : decode cX7_tries 186 = .ok (.aload_n 0, 1) := by decide +kernel
theorem dX7_tries_187 : decode cX7_tries 187 = .ok (.getfield 61, 3) := by decide +kernel
theorem dX7_tries_190 : decode cX7_tries 190 = .ok (.bipush 48, 2) := by decide +kernel
theorem dX7_tries_192 : decode cX7_tries 192 = .ok (.iload_n 1, 1) := by decide +kernel
theorem dX7_tries_193 : decode cX7_tries 193 = .ok (.iadd, 1) := by decide +kernel
theorem dX7_tries_194 : decode cX7_tries 194 = .ok (.aload_n 0, 1) := by decide +kernel
theorem dX7_tries_195 : decode cX7_tries 195 = .ok (.getfield 61, 3) := by decide +kernel
theorem dX7_tries_198 : decode cX7_tries 198 = .ok (.iload_n 1, 1) := by decide +kernel
theorem dX7_tries_199 : decode cX7_tries 199 = .ok (.iaload, 1) := by decide +kernel
theorem dX7_tries_200 : decode cX7_tries 200 = .ok (.iastore, 1) := by decide +kernel
theorem dX7_tries_201 : decode cX7_tries 201 = .ok (.aload_n 0, 1) := by decide +kernel
theorem dX7_tries_202 : decode cX7_tries 202 = .ok (.getfield 64, 3) := by decide +kernel
theorem dX7_tries_205 : decode cX7_tries 205 = .ok (.bipush 48, 2) := by decide +kernel
theorem dX7_tries_207 : decode cX7_tries 207 = .ok (.iload_n 1, 1) := by decide +kernel
theorem dX7_tries_208 : decode cX7_tries 208 = .ok (.iadd, 1) := by decide +kernel
theorem dX7_tries_209 : decode cX7_tries 209 = .ok (.aload_n 0, 1) := by decide +kernel
theorem dX7_tries_210 : decode cX7_tries 210 = .ok (.getfield 64, 3) := by decide +kernel
theorem dX7_tries_213 : decode cX7_tries 213 = .ok (.iload_n 1, 1) := by decide +kernel
theorem dX7_tries_214 : decode cX7_tries 214 = .ok (.iaload, 1) := by decide +kernel
theorem dX7_tries_215 : decode cX7_tries 215 = .ok (.iastore, 1) := by decide +kernel
theorem dX7_tries_216 : decode cX7_tries 216 = .ok (.iinc 1 1, 3) := by decide +kernel
theorem dX7_tries_219 : decode cX7_tries 219 = .ok (.goto (-54), 3) := by decide +kernel
theorem dX7_tries_0 : decode cX7_tries 0 = .ok (.aload_n 0, 1) := by decide +kernel
theorem dX7_tries_1 : decode cX7_tries 1 = .ok (.iconst 1, 1) := by decide +kernel
theorem dX7_tries_2 : decode cX7_tries 2 = .ok (.putfield 223, 3) := by decide +kernel
theorem dX7_tries_5 : decode cX7_tries 5 = .ok (.aload_n 0, 1) := by decide +kernel
theorem dX7_tries_6 : decode cX7_tries 6 = .ok (.iconst 0, 1) := by decide +kernel
theorem dX7_tries_7 : decode cX7_tries 7 = .ok (.putfield 259, 3) := by decide +kernel
theorem dX7_tries_10 : decode cX7_tries 10 = .ok (.aload_n 0, 1) := by decide +kernel
theorem dX7_tries_11 : decode cX7_tries 11 = .ok (.getfield 49, 3) := by decide +kernel
theorem dX7_tries_14 : decode cX7_tries 14 = .ok (.iconst 1, 1) := by decide +kernel
theorem dX7_tries_15 : decode cX7_tries 15 = .ok (.aload_n 0, 1) := by decide +kernel
theorem dX7_tries_16 : decode cX7_tries 16 = .ok (.getfield 49, 3) := by decide +kernel
theorem dX7_tries_19 : decode cX7_tries 19 = .ok (.iconst 0, 1) := by decide +kernel
theorem dX7_tries_20 : decode cX7_tries 20 = .ok (.iaload, 1) := by decide +kernel
theorem dX7_tries_21 : decode cX7_tries 21 = .ok (.iastore, 1) := by decide +kernel
theorem dX7_tries_22 : decode cX7_tries 22 = .ok (.iconst 0, 1) := by decide +kernel
theorem dX7_tries_23 : decode cX7_tries 23 = .ok (.istore_n 1, 1) := by decide +kernel
theorem dX7_tries_111 : decode cX7_tries 111 = .ok (.iconst 0, 1) := by decide +kernel
theorem dX7_tries_112 : decode cX7_tries 112 = .ok (.istore_n 1, 1) := by decide +kernel
theorem dX7_tries_140 : decode cX7_tries 140 = .ok (.iconst 0, 1) := by decide +kernel
theorem dX7_tries_141 : decode cX7_tries 141 = .ok (.istore_n 1, 1) := by decide +kernel
theorem dX7_tries_163 : decode cX7_tries 163 = .ok (.iconst 0, 1) := by decide +kernel
theorem dX7_tries_164 : decode cX7_tries 164 = .ok (.istore_n 1, 1) := by decide +kernel
theorem dX7_tries_222 : decode cX7_tries 222 = .ok (.return_, 1) := by decide +kernel
theorem dX7_once_34 : decode cX7_once 34 = .ok (.iload_n 1, 1) := by decide +kernel
theorem dX7_once_35 : decode cX7_once 35 = .ok (.bipush 24, 2) := by decide +kernel
theorem dX7_once_37 : decode cX7_once 37 = .ok (.if_icmp .ge 24, 3) := by decide +kernel
theorem dX7_once_40 : decode cX7_once 40 = .ok (.aload_n 0, 1) := by decide +kernel
theorem dX7_once_41 : decode cX7_once 41 = .ok (.getfield 140, 3) := by decide +kernel
theorem dX7_once_44 : decode cX7_once 44 = .ok (.iload_n 1, 1) := by decide +kernel
theorem dX7_once_45 : decode cX7_once 45 = .ok (.aload_n 0, 1) := by decide +kernel
theorem dX7_once_46 : decode cX7_once 46 = .ok (.getfield 28, 3) := by decide +kernel
theorem dX7_once_49 : decode cX7_once 49 = .ok (.bipush 24, 2) := by decide +kernel
theorem dX7_once_51 : decode cX7_once 51 = .ok (.iload_n 1, 1) := by decide +kernel
theorem dX7_once_52 : decode cX7_once 52 = .ok (.iadd, 1) := by decide +kernel
theorem dX7_once_53 : decode cX7_once 53 = .ok (.iaload, 1) := by decide +kernel
theorem dX7_once_54 : decode cX7_once 54 = .ok (.iastore, 1) := by decide +kernel
theorem dX7_once_55 : decode cX7_once 55 = .ok (.iinc 1 1, 3) := by decide +kernel
theorem dX7_once_58 : decode cX7_once 58 = .ok (.goto (-24), 3) := by decide +kernel
theorem dX7_once_0 : decode cX7_once 0 = .ok (.aload_n 0, 1) := by decide +kernel
theorem dX7_once_1 : decode cX7_once 1 = .ok (.invokevirtual 296, 3) := by decide +kernel
theorem dX7_once_4 : decode cX7_once 4 = .ok (.iconst 0, 1) := by decide +kernel
theorem dX7_once_5 : decode cX7_once 5 = .ok (.istore_n 1, 1) := by decide +kernel
theorem dX7_once_6 : decode cX7_once 6 = .ok (.iload_n 1, 1) := by decide +kernel
theorem dX7_once_7 : decode cX7_once 7 = .ok (.aload_n 0, 1) := by decide +kernel
theorem dX7_once_8 : decode cX7_once 8 = .ok (.getfield 290, 3) := by decide +kernel
theorem dX7_once_11 : decode cX7_once 11 = .ok (.if_icmp .ge 21, 3) := by decide +kernel
theorem dX7_once_32 : decode cX7_once 32 = .ok (.iconst 0, 1) := by decide +kernel
theorem dX7_once_33 : decode cX7_once 33 = .ok (.istore_n 1, 1) := by decide +kernel
theorem dX7_once_61 : decode cX7_once 61 = .ok (.iconst 0, 1) := by decide +kernel
theorem dX7_once_62 : decode cX7_once 62 = .ok (.istore_n 1, 1) := by decide +kernel
theorem dX7_once_63 : decode cX7_once 63 = .ok (.iload_n 1, 1) := by decide +kernel
theorem dX7_once_64 : decode cX7_once 64 = .ok (.bipush 6, 2) := by decide +kernel
theorem dX7_once_66 : decode cX7_once 66 = .ok (.if_icmp .ge 27, 3) := by decide +kernel
theorem dX7_once_69 : decode cX7_once 69 = .ok (.aload_n 0, 1) := by decide +kernel
theorem dX7_once_70 : decode cX7_once 70 = .ok (.getfield 140, 3) := by decide +kernel
theorem dX7_once_73 : decode cX7_once 73 = .ok (.bipush 24, 2) := by decide +kernel
theorem dX7_once_75 : decode cX7_once 75 = .ok (.iload_n 1, 1) := by decide +kernel
theorem dX7_once_76 : decode cX7_once 76 = .ok (.iadd, 1) := by decide +kernel
theorem dX7_once_77 : decode cX7_once 77 = .ok (.aload_n 0, 1) := by decide +kernel
theorem dX7_once_78 : decode cX7_once 78 = .ok (.getfield 31, 3) := by decide +kernel
theorem dX7_once_81 : decode cX7_once 81 = .ok (.bipush 6, 2) := by decide +kernel
theorem dX7_once_83 : decode cX7_once 83 = .ok (.iload_n 1, 1) := by decide +kernel
theorem dX7_once_84 : decode cX7_once 84 = .ok (.iadd, 1) := by decide +kernel
theorem dX7_once_85 : decode cX7_once 85 = .ok (.iaload, 1) := by decide +kernel
theorem dX7_once_86 : decode cX7_once 86 = .ok (.iastore, 1) := by decide +kernel
theorem dX7_once_87 : decode cX7_once 87 = .ok (.iinc 1 1, 3) := by decide +kernel
theorem dX7_once_90 : decode cX7_once 90 = .ok (.goto (-27), 3) := by decide +kernel
theorem dX7_once_93 : decode cX7_once 93 = .ok (.aload_n 0, 1) := by decide +kernel
theorem dX7_once_94 : decode cX7_once 94 = .ok (.aload_n 0, 1) := by decide +kernel
theorem dX7_once_95 : decode cX7_once 95 = .ok (.getfield 259, 3) := by decide +kernel
theorem dX7_once_98 : decode cX7_once 98 = .ok (.putfield 302, 3) := by decide +kernel
theorem dX7_once_101 : decode cX7_once 101 = .ok (.iconst 0, 1) := by decide +kernel
theorem dX7_once_102 : decode cX7_once 102 = .ok (.istore_n 1, 1) := by decide +kernel
theorem dX7_once_103 : decode cX7_once 103 = .ok (.iload_n 1, 1) := by decide +kernel
theorem dX7_once_104 : decode cX7_once 104 = .ok (.aload_n 0, 1) := by decide +kernel
theorem dX7_once_105 : decode cX7_once 105 = .ok (.getfield 259, 3) := by decide +kernel
theorem dX7_once_108 : decode cX7_once 108 = .ok (.if_icmp .ge 21, 3) := by decide +kernel
theorem dX7_once_129 : decode cX7_once 129 = .ok (.aload_n 0, 1) := by decide +kernel
theorem dX7_once_130 : decode cX7_once 130 = .ok (.iconst 0, 1) := by decide +kernel
theorem dX7_once_131 : decode cX7_once 131 = .ok (.putfield 223, 3) := by decide +kernel
theorem dX7_once_134 : decode cX7_once 134 = .ok (.return_, 1) := by decide +kernel
theorem dX7_worstOf_0 : decode cX7_worstOf 0 = .ok (.aload_n 0, 1) := by decide +kernel
theorem dX7_worstOf_1 : decode cX7_worstOf 1 = .ok (.invokevirtual 305, 3) := by decide +kernel
theorem dX7_worstOf_4 : decode cX7_worstOf 4 = .ok (.iconst 0, 1) := by decide +kernel
theorem dX7_worstOf_5 : decode cX7_worstOf 5 = .ok (.istore_n 1, 1) := by decide +kernel
theorem dX7_worstOf_6 : decode cX7_worstOf 6 = .ok (.iload_n 1, 1) := by decide +kernel
theorem dX7_worstOf_7 : decode cX7_worstOf 7 = .ok (.aload_n 0, 1) := by decide +kernel
theorem dX7_worstOf_8 : decode cX7_worstOf 8 = .ok (.getfield 290, 3) := by decide +kernel
theorem dX7_worstOf_11 : decode cX7_worstOf 11 = .ok (.if_icmp .ge 63, 3) := by decide +kernel
theorem dX7_worstOf_74 : decode cX7_worstOf 74 = .ok (.iconst (-1), 1) := by decide +kernel
theorem dX7_worstOf_75 : decode cX7_worstOf 75 = .ok (.ireturn, 1) := by decide +kernel
theorem dX7_worst_0 : decode cX7_worst 0 = .ok (.aload_n 0, 1) := by decide +kernel
theorem dX7_worst_1 : decode cX7_worst 1 = .ok (.invokevirtual 311, 3) := by decide +kernel
theorem dX7_worst_4 : decode cX7_worst 4 = .ok (.ireturn, 1) := by decide +kernel
theorem dX7_enough_0 : decode cX7_enough 0 = .ok (.iconst 0, 1) := by decide +kernel
theorem dX7_enough_1 : decode cX7_enough 1 = .ok (.istore_n 1, 1) := by decide +kernel
theorem dX7_enough_2 : decode cX7_enough 2 = .ok (.iload_n 1, 1) := by decide +kernel
theorem dX7_enough_3 : decode cX7_enough 3 = .ok (.bipush 6, 2) := by decide +kernel
theorem dX7_enough_5 : decode cX7_enough 5 = .ok (.if_icmp .ge 21, 3) := by decide +kernel
theorem dX7_enough_8 : decode cX7_enough 8 = .ok (.aload_n 0, 1) := by decide +kernel
theorem dX7_enough_9 : decode cX7_enough 9 = .ok (.getfield 161, 3) := by decide +kernel
theorem dX7_enough_12 : decode cX7_enough 12 = .ok (.iload_n 1, 1) := by decide +kernel
theorem dX7_enough_13 : decode cX7_enough 13 = .ok (.aload_n 0, 1) := by decide +kernel
theorem dX7_enough_14 : decode cX7_enough 14 = .ok (.getfield 25, 3) := by decide +kernel
theorem dX7_enough_17 : decode cX7_enough 17 = .ok (.iload_n 1, 1) := by decide +kernel
theorem dX7_enough_18 : decode cX7_enough 18 = .ok (.iaload, 1) := by decide +kernel
theorem dX7_enough_19 : decode cX7_enough 19 = .ok (.iastore, 1) := by decide +kernel
theorem dX7_enough_20 : decode cX7_enough 20 = .ok (.iinc 1 1, 3) := by decide +kernel
theorem dX7_enough_23 : decode cX7_enough 23 = .ok (.goto (-21), 3) := by decide +kernel
theorem dX7_enough_26 : decode cX7_enough 26 = .ok (.iconst (-1), 1) := by decide +kernel
theorem dX7_enough_27 : decode cX7_enough 27 = .ok (.istore_n 1, 1) := by decide +kernel
theorem dX7_enough_28 : decode cX7_enough 28 = .ok (.iconst 0, 1) := by decide +kernel
theorem dX7_enough_29 : decode cX7_enough 29 = .ok (.istore_n 2, 1) := by decide +kernel
theorem dX7_enough_30 : decode cX7_enough 30 = .ok (.iload_n 2, 1) := by decide +kernel
theorem dX7_enough_31 : decode cX7_enough 31 = .ok (.bipush 20, 2) := by decide +kernel
theorem dX7_enough_33 : decode cX7_enough 33 = .ok (.if_icmp .gt 49, 3) := by decide +kernel
theorem dX7_enough_36 : decode cX7_enough 36 = .ok (.iload_n 1, 1) := by decide +kernel
theorem dX7_enough_37 : decode cX7_enough 37 = .ok (.iconst (-1), 1) := by decide +kernel
theorem dX7_enough_38 : decode cX7_enough 38 = .ok (.if_icmp .ne 44, 3) := by decide +kernel
theorem dX7_enough_41 : decode cX7_enough 41 = .ok (.iconst 0, 1) := by decide +kernel
theorem dX7_enough_42 : decode cX7_enough 42 = .ok (.istore_n 3, 1) := by decide +kernel
theorem dX7_enough_43 : decode cX7_enough 43 = .ok (.iload_n 3, 1) := by decide +kernel
theorem dX7_enough_44 : decode cX7_enough 44 = .ok (.bipush 6, 2) := by decide +kernel
theorem dX7_enough_46 : decode cX7_enough 46 = .ok (.if_icmp .ge 16, 3) := by decide +kernel
theorem dX7_enough_49 : decode cX7_enough 49 = .ok (.aload_n 0, 1) := by decide +kernel
theorem dX7_enough_50 : decode cX7_enough 50 = .ok (.getfield 25, 3) := by decide +kernel
theorem dX7_enough_53 : decode cX7_enough 53 = .ok (.iload_n 3, 1) := by decide +kernel
theorem dX7_enough_54 : decode cX7_enough 54 = .ok (.iload_n 2, 1) := by decide +kernel
theorem dX7_enough_55 : decode cX7_enough 55 = .ok (.iastore, 1) := by decide +kernel
theorem dX7_enough_56 : decode cX7_enough 56 = .ok (.iinc 3 1, 3) := by decide +kernel
theorem dX7_enough_59 : decode cX7_enough 59 = .ok (.goto (-16), 3) := by decide +kernel
theorem dX7_enough_62 : decode cX7_enough 62 = .ok (.aload_n 0, 1) := by decide +kernel
theorem dX7_enough_63 : decode cX7_enough 63 = .ok (.invokevirtual 311, 3) := by decide +kernel
theorem dX7_enough_66 : decode cX7_enough 66 = .ok (.iconst (-1), 1) := by decide +kernel
theorem dX7_enough_67 : decode cX7_enough 67 = .ok (.if_icmp .ne 7, 3) := by decide +kernel
theorem dX7_enough_70 : decode cX7_enough 70 = .ok (.iload_n 2, 1) := by decide +kernel
theorem dX7_enough_71 : decode cX7_enough 71 = .ok (.goto 4, 3) := by decide +kernel
theorem dX7_enough_75 : decode cX7_enough 75 = .ok (.istore_n 1, 1) := by decide +kernel
theorem dX7_enough_76 : decode cX7_enough 76 = .ok (.iinc 2 1, 3) := by decide +kernel
theorem dX7_enough_79 : decode cX7_enough 79 = .ok (.goto (-49), 3) := by decide +kernel
theorem dX7_enough_82 : decode cX7_enough 82 = .ok (.iconst 0, 1) := by decide +kernel
theorem dX7_enough_83 : decode cX7_enough 83 = .ok (.istore_n 2, 1) := by decide +kernel
theorem dX7_enough_84 : decode cX7_enough 84 = .ok (.iload_n 2, 1) := by decide +kernel
theorem dX7_enough_85 : decode cX7_enough 85 = .ok (.bipush 6, 2) := by decide +kernel
theorem dX7_enough_87 : decode cX7_enough 87 = .ok (.if_icmp .ge 21, 3) := by decide +kernel
theorem dX7_enough_90 : decode cX7_enough 90 = .ok (.aload_n 0, 1) := by decide +kernel
theorem dX7_enough_91 : decode cX7_enough 91 = .ok (.getfield 25, 3) := by decide +kernel
theorem dX7_enough_94 : decode cX7_enough 94 = .ok (.iload_n 2, 1) := by decide +kernel
theorem dX7_enough_95 : decode cX7_enough 95 = .ok (.aload_n 0, 1) := by decide +kernel
theorem dX7_enough_96 : decode cX7_enough 96 = .ok (.getfield 161, 3) := by decide +kernel
theorem dX7_enough_99 : decode cX7_enough 99 = .ok (.iload_n 2, 1) := by decide +kernel
theorem dX7_enough_100 : decode cX7_enough 100 = .ok (.iaload, 1) := by decide +kernel
theorem dX7_enough_101 : decode cX7_enough 101 = .ok (.iastore, 1) := by decide +kernel
theorem dX7_enough_102 : decode cX7_enough 102 = .ok (.iinc 2 1, 3) := by decide +kernel
theorem dX7_enough_105 : decode cX7_enough 105 = .ok (.goto (-21), 3) := by decide +kernel
theorem dX7_enough_108 : decode cX7_enough 108 = .ok (.iload_n 1, 1) := by decide +kernel
theorem dX7_enough_109 : decode cX7_enough 109 = .ok (.ireturn, 1) := by decide +kernel
theorem dX7_again_62 : decode cX7_again 62 = .ok (.iload_n 2, 1) := by decide +kernel
theorem dX7_again_63 : decode cX7_again 63 = .ok (.bipush 24, 2) := by decide +kernel
theorem dX7_again_65 : decode cX7_again 65 = .ok (.if_icmp .ge 37, 3) := by decide +kernel
theorem dX7_again_68 : decode cX7_again 68 = .ok (.iload_n 1, 1) := by decide +kernel
theorem dX7_again_69 : decode cX7_again 69 = .ok (.ifCond .eq 25, 3) := by decide +kernel
theorem dX7_again_72 : decode cX7_again 72 = .ok (.aload_n 0, 1) := by decide +kernel
theorem dX7_again_73 : decode cX7_again 73 = .ok (.getfield 28, 3) := by decide +kernel
theorem dX7_again_76 : decode cX7_again 76 = .ok (.bipush 24, 2) := by decide +kernel
theorem dX7_again_78 : decode cX7_again 78 = .ok (.iload_n 2, 1) := by decide +kernel
theorem dX7_again_79 : decode cX7_again 79 = .ok (.iadd, 1) := by decide +kernel
theorem dX7_again_80 : decode cX7_again 80 = .ok (.iaload, 1) := by decide +kernel
theorem dX7_again_81 : decode cX7_again 81 = .ok (.aload_n 0, 1) := by decide +kernel
theorem dX7_again_82 : decode cX7_again 82 = .ok (.getfield 28, 3) := by decide +kernel
theorem dX7_again_85 : decode cX7_again 85 = .ok (.iload_n 2, 1) := by decide +kernel
theorem dX7_again_86 : decode cX7_again 86 = .ok (.iaload, 1) := by decide +kernel
theorem dX7_again_87 : decode cX7_again 87 = .ok (.if_icmp .ne 7, 3) := by decide +kernel
theorem dX7_again_90 : decode cX7_again 90 = .ok (.iconst 1, 1) := by decide +kernel
theorem dX7_again_91 : decode cX7_again 91 = .ok (.goto 4, 3) := by decide +kernel
theorem dX7_again_95 : decode cX7_again 95 = .ok (.istore_n 1, 1) := by decide +kernel
theorem dX7_again_96 : decode cX7_again 96 = .ok (.iinc 2 1, 3) := by decide +kernel
theorem dX7_again_99 : decode cX7_again 99 = .ok (.goto (-37), 3) := by decide +kernel
theorem dX7_again_0 : decode cX7_again 0 = .ok (.aload_n 0, 1) := by decide +kernel
theorem dX7_again_1 : decode cX7_again 1 = .ok (.invokevirtual 296, 3) := by decide +kernel
theorem dX7_again_4 : decode cX7_again 4 = .ok (.iconst 0, 1) := by decide +kernel
theorem dX7_again_5 : decode cX7_again 5 = .ok (.istore_n 1, 1) := by decide +kernel
theorem dX7_again_6 : decode cX7_again 6 = .ok (.iload_n 1, 1) := by decide +kernel
theorem dX7_again_7 : decode cX7_again 7 = .ok (.aload_n 0, 1) := by decide +kernel
theorem dX7_again_8 : decode cX7_again 8 = .ok (.getfield 283, 3) := by decide +kernel
theorem dX7_again_11 : decode cX7_again 11 = .ok (.if_icmp .ge 36, 3) := by decide +kernel
theorem dX7_again_47 : decode cX7_again 47 = .ok (.aload_n 0, 1) := by decide +kernel
theorem dX7_again_48 : decode cX7_again 48 = .ok (.getfield 259, 3) := by decide +kernel
theorem dX7_again_51 : decode cX7_again 51 = .ok (.ifCond .ne 7, 3) := by decide +kernel
theorem dX7_again_54 : decode cX7_again 54 = .ok (.iconst 1, 1) := by decide +kernel
theorem dX7_again_55 : decode cX7_again 55 = .ok (.goto 4, 3) := by decide +kernel
theorem dX7_again_59 : decode cX7_again 59 = .ok (.istore_n 1, 1) := by decide +kernel
theorem dX7_again_60 : decode cX7_again 60 = .ok (.iconst 0, 1) := by decide +kernel
theorem dX7_again_61 : decode cX7_again 61 = .ok (.istore_n 2, 1) := by decide +kernel
theorem dX7_again_102 : decode cX7_again 102 = .ok (.iconst 0, 1) := by decide +kernel
theorem dX7_again_103 : decode cX7_again 103 = .ok (.istore_n 2, 1) := by decide +kernel
theorem dX7_again_104 : decode cX7_again 104 = .ok (.iload_n 2, 1) := by decide +kernel
theorem dX7_again_105 : decode cX7_again 105 = .ok (.bipush 6, 2) := by decide +kernel
theorem dX7_again_107 : decode cX7_again 107 = .ok (.if_icmp .ge 37, 3) := by decide +kernel
theorem dX7_again_110 : decode cX7_again 110 = .ok (.iload_n 1, 1) := by decide +kernel
theorem dX7_again_111 : decode cX7_again 111 = .ok (.ifCond .eq 25, 3) := by decide +kernel
theorem dX7_again_114 : decode cX7_again 114 = .ok (.aload_n 0, 1) := by decide +kernel
theorem dX7_again_115 : decode cX7_again 115 = .ok (.getfield 31, 3) := by decide +kernel
theorem dX7_again_118 : decode cX7_again 118 = .ok (.bipush 6, 2) := by decide +kernel
theorem dX7_again_120 : decode cX7_again 120 = .ok (.iload_n 2, 1) := by decide +kernel
theorem dX7_again_121 : decode cX7_again 121 = .ok (.iadd, 1) := by decide +kernel
theorem dX7_again_122 : decode cX7_again 122 = .ok (.iaload, 1) := by decide +kernel
theorem dX7_again_123 : decode cX7_again 123 = .ok (.aload_n 0, 1) := by decide +kernel
theorem dX7_again_124 : decode cX7_again 124 = .ok (.getfield 31, 3) := by decide +kernel
theorem dX7_again_127 : decode cX7_again 127 = .ok (.iload_n 2, 1) := by decide +kernel
theorem dX7_again_128 : decode cX7_again 128 = .ok (.iaload, 1) := by decide +kernel
theorem dX7_again_129 : decode cX7_again 129 = .ok (.if_icmp .ne 7, 3) := by decide +kernel
theorem dX7_again_132 : decode cX7_again 132 = .ok (.iconst 1, 1) := by decide +kernel
theorem dX7_again_133 : decode cX7_again 133 = .ok (.goto 4, 3) := by decide +kernel
theorem dX7_again_137 : decode cX7_again 137 = .ok (.istore_n 1, 1) := by decide +kernel
theorem dX7_again_138 : decode cX7_again 138 = .ok (.iinc 2 1, 3) := by decide +kernel
theorem dX7_again_141 : decode cX7_again 141 = .ok (.goto (-37), 3) := by decide +kernel
theorem dX7_again_144 : decode cX7_again 144 = .ok (.aload_n 0, 1) := by decide +kernel
theorem dX7_again_145 : decode cX7_again 145 = .ok (.iconst 0, 1) := by decide +kernel
theorem dX7_again_146 : decode cX7_again 146 = .ok (.putfield 223, 3) := by decide +kernel
theorem dX7_again_149 : decode cX7_again 149 = .ok (.iload_n 1, 1) := by decide +kernel
theorem dX7_again_150 : decode cX7_again 150 = .ok (.ifCond .eq 7, 3) := by decide +kernel
theorem dX7_again_153 : decode cX7_again 153 = .ok (.iconst 1, 1) := by decide +kernel
theorem dX7_again_154 : decode cX7_again 154 = .ok (.goto 4, 3) := by decide +kernel
theorem dX7_again_158 : decode cX7_again 158 = .ok (.ireturn, 1) := by decide +kernel
theorem dX7_reset_59 : decode cX7_reset 59 = .ok (.iload_n 2, 1) := by decide +kernel
theorem dX7_reset_60 : decode cX7_reset 60 = .ok (.bipush 24, 2) := by decide +kernel
theorem dX7_reset_62 : decode cX7_reset 62 = .ok (.if_icmp .ge 16, 3) := by decide +kernel
theorem dX7_reset_65 : decode cX7_reset 65 = .ok (.aload_n 0, 1) := by decide +kernel
theorem dX7_reset_66 : decode cX7_reset 66 = .ok (.getfield 28, 3) := by decide +kernel
theorem dX7_reset_69 : decode cX7_reset 69 = .ok (.iload_n 2, 1) := by decide +kernel
theorem dX7_reset_70 : decode cX7_reset 70 = .ok (.iconst 0, 1) := by decide +kernel
theorem dX7_reset_71 : decode cX7_reset 71 = .ok (.iastore, 1) := by decide +kernel
theorem dX7_reset_72 : decode cX7_reset 72 = .ok (.iinc 2 1, 3) := by decide +kernel
theorem dX7_reset_75 : decode cX7_reset 75 = .ok (.goto (-16), 3) := by decide +kernel
theorem dX7_reset_0 : decode cX7_reset 0 = .ok (.aload_n 0, 1) := by decide +kernel
theorem dX7_reset_1 : decode cX7_reset 1 = .ok (.getfield 283, 3) := by decide +kernel
theorem dX7_reset_4 : decode cX7_reset 4 = .ok (.istore_n 1, 1) := by decide +kernel
theorem dX7_reset_5 : decode cX7_reset 5 = .ok (.aload_n 0, 1) := by decide +kernel
theorem dX7_reset_6 : decode cX7_reset 6 = .ok (.iconst 0, 1) := by decide +kernel
theorem dX7_reset_7 : decode cX7_reset 7 = .ok (.putfield 283, 3) := by decide +kernel
theorem dX7_reset_10 : decode cX7_reset 10 = .ok (.aload_n 0, 1) := by decide +kernel
theorem dX7_reset_11 : decode cX7_reset 11 = .ok (.iconst 0, 1) := by decide +kernel
theorem dX7_reset_12 : decode cX7_reset 12 = .ok (.putfield 256, 3) := by decide +kernel
theorem dX7_reset_15 : decode cX7_reset 15 = .ok (.aload_n 0, 1) := by decide +kernel
theorem dX7_reset_16 : decode cX7_reset 16 = .ok (.getfield 49, 3) := by decide +kernel
theorem dX7_reset_19 : decode cX7_reset 19 = .ok (.iconst 0, 1) := by decide +kernel
theorem dX7_reset_20 : decode cX7_reset 20 = .ok (.iconst 0, 1) := by decide +kernel
theorem dX7_reset_21 : decode cX7_reset 21 = .ok (.iastore, 1) := by decide +kernel
theorem dX7_reset_22 : decode cX7_reset 22 = .ok (.iconst 0, 1) := by decide +kernel
theorem dX7_reset_23 : decode cX7_reset 23 = .ok (.istore_n 2, 1) := by decide +kernel
theorem dX7_reset_24 : decode cX7_reset 24 = .ok (.iload_n 2, 1) := by decide +kernel
theorem dX7_reset_25 : decode cX7_reset 25 = .ok (.bipush 6, 2) := by decide +kernel
theorem dX7_reset_27 : decode cX7_reset 27 = .ok (.if_icmp .ge 30, 3) := by decide +kernel
theorem dX7_reset_30 : decode cX7_reset 30 = .ok (.aload_n 0, 1) := by decide +kernel
theorem dX7_reset_31 : decode cX7_reset 31 = .ok (.getfield 31, 3) := by decide +kernel
theorem dX7_reset_34 : decode cX7_reset 34 = .ok (.iload_n 2, 1) := by decide +kernel
theorem dX7_reset_35 : decode cX7_reset 35 = .ok (.iconst 0, 1) := by decide +kernel
theorem dX7_reset_36 : decode cX7_reset 36 = .ok (.iastore, 1) := by decide +kernel
theorem dX7_reset_37 : decode cX7_reset 37 = .ok (.aload_n 0, 1) := by decide +kernel
theorem dX7_reset_38 : decode cX7_reset 38 = .ok (.getfield 34, 3) := by decide +kernel
theorem dX7_reset_41 : decode cX7_reset 41 = .ok (.iload_n 2, 1) := by decide +kernel
theorem dX7_reset_42 : decode cX7_reset 42 = .ok (.iconst 0, 1) := by decide +kernel
theorem dX7_reset_43 : decode cX7_reset 43 = .ok (.iastore, 1) := by decide +kernel
theorem dX7_reset_44 : decode cX7_reset 44 = .ok (.aload_n 0, 1) := by decide +kernel
theorem dX7_reset_45 : decode cX7_reset 45 = .ok (.getfield 67, 3) := by decide +kernel
theorem dX7_reset_48 : decode cX7_reset 48 = .ok (.iload_n 2, 1) := by decide +kernel
theorem dX7_reset_49 : decode cX7_reset 49 = .ok (.iconst 0, 1) := by decide +kernel
theorem dX7_reset_50 : decode cX7_reset 50 = .ok (.bastore, 1) := by decide +kernel
theorem dX7_reset_51 : decode cX7_reset 51 = .ok (.iinc 2 1, 3) := by decide +kernel
theorem dX7_reset_54 : decode cX7_reset 54 = .ok (.goto (-30), 3) := by decide +kernel
theorem dX7_reset_57 : decode cX7_reset 57 = .ok (.iconst 0, 1) := by decide +kernel
theorem dX7_reset_58 : decode cX7_reset 58 = .ok (.istore_n 2, 1) := by decide +kernel
theorem dX7_reset_78 : decode cX7_reset 78 = .ok (.iload_n 1, 1) := by decide +kernel
theorem dX7_reset_79 : decode cX7_reset 79 = .ok (.ireturn, 1) := by decide +kernel
theorem sh0 (z : Int32) : (0 : Int32) >>> z = 0 := by
  apply Int32.toBitVec_inj.mp
  rw [Int32.toBitVec_shiftRight]
  simp
set_option maxHeartbeats 4000000 in
set_option maxRecDepth 100000 in
theorem c_moves (l : Launch) (D : va_G) (cI cZ cS : ClassId) (N0 : NT) (h : Nat) (fs : List Value) (q_key : Nat) (q_keyX : Nat) (q_keyAnswer : Nat) (q_keyTick : Nat) (x1 : Int32) (x2 : Int32) (h10 : fs[10]? = some (.ref q_key)) (h11 : fs[11]? = some (.ref q_keyX)) (h12 : fs[12]? = some (.ref q_keyAnswer)) (h13 : fs[13]? = some (.ref q_keyTick)) (i1 : vp_in x1 192) (i2 : vp_in x2 192) : Mx l D cI cZ cS N0 yX7_moves cX7_moves 3 none 0 0 0 [.ref h, .int x1, .int x2] [(h, .inr (7, fs)), (q_key, .inl (cI, 192, .inl (fun _ => 0))), (q_keyX, .inl (cI, 192, .inl (fun _ => 0))), (q_keyAnswer, .inl (cI, 192, .inl (fun _ => 0))), (q_keyTick, .inl (cI, 192, .inl (fun _ => 0)))] (fun v w => v = none ∧ w = ([(h, .inr (7, fs)), (q_key, .inl (cI, 192, .inl (fun _ => 0))), (q_keyX, .inl (cI, 192, .inl (fun _ => 0))), (q_keyAnswer, .inl (cI, 192, .inl (fun _ => 0))), (q_keyTick, .inl (cI, 192, .inl (fun _ => 0)))] : va_W)) := by
  refine x_enter (by decide) (Nat.le_of_ble_eq_true rfl) ?_
  intro p e s m args below meth c A ls H locs hB hr hin hl hV hA
  have hx := hB.1
  have hb := hB.2.1
  have hl : lv_has ls 3 [(0, .ref h), (1, .int x1), (2, .int x2)] := hl
  refine lv_aload_n hx hb dX7_moves_0 rfl (lv_at hl 0 rfl) ?_
  refine x_get (v := .ref q_key) hB hV 0 rfl rfl 10 (by decide) k_755 h10 dX7_moves_1 ?_
  refine lv_iload_n hx hb dX7_moves_4 rfl (lv_at hl 2 rfl) ?_
  refine lv_aload_n hx hb dX7_moves_5 rfl (lv_at hl 0 rfl) ?_
  refine x_get (v := .ref q_key) hB hV 0 rfl rfl 10 (by decide) k_755 h10 dX7_moves_6 ?_
  refine lv_iload_n hx hb dX7_moves_9 rfl (lv_at hl 1 rfl) ?_
  refine x_iald (v := 0) hB hV 1 rfl (by assumption) rfl dX7_moves_10 ?_
  refine x_iast (g := (fun _ => 0)) hB hV 1 rfl (by assumption) upd00 dX7_moves_11 (fun H locs hV => ?_)
  have hV : Vx D A s.heap H locs [(h, .inr (7, fs)), (q_key, .inl (cI, 192, .inl (fun _ => 0))), (q_keyX, .inl (cI, 192, .inl (fun _ => 0))), (q_keyAnswer, .inl (cI, 192, .inl (fun _ => 0))), (q_keyTick, .inl (cI, 192, .inl (fun _ => 0)))] := hV
  refine lv_aload_n hx hb dX7_moves_12 rfl (lv_at hl 0 rfl) ?_
  refine x_get (v := .ref q_keyX) hB hV 0 rfl rfl 11 (by decide) k_756 h11 dX7_moves_13 ?_
  refine lv_iload_n hx hb dX7_moves_16 rfl (lv_at hl 2 rfl) ?_
  refine lv_aload_n hx hb dX7_moves_17 rfl (lv_at hl 0 rfl) ?_
  refine x_get (v := .ref q_keyX) hB hV 0 rfl rfl 11 (by decide) k_756 h11 dX7_moves_18 ?_
  refine lv_iload_n hx hb dX7_moves_21 rfl (lv_at hl 1 rfl) ?_
  refine x_iald (v := 0) hB hV 2 rfl (by assumption) rfl dX7_moves_22 ?_
  refine x_iast (g := (fun _ => 0)) hB hV 2 rfl (by assumption) upd00 dX7_moves_23 (fun H locs hV => ?_)
  have hV : Vx D A s.heap H locs [(h, .inr (7, fs)), (q_key, .inl (cI, 192, .inl (fun _ => 0))), (q_keyX, .inl (cI, 192, .inl (fun _ => 0))), (q_keyAnswer, .inl (cI, 192, .inl (fun _ => 0))), (q_keyTick, .inl (cI, 192, .inl (fun _ => 0)))] := hV
  refine lv_aload_n hx hb dX7_moves_24 rfl (lv_at hl 0 rfl) ?_
  refine x_get (v := .ref q_keyAnswer) hB hV 0 rfl rfl 12 (by decide) k_757 h12 dX7_moves_25 ?_
  refine lv_iload_n hx hb dX7_moves_28 rfl (lv_at hl 2 rfl) ?_
  refine lv_aload_n hx hb dX7_moves_29 rfl (lv_at hl 0 rfl) ?_
  refine x_get (v := .ref q_keyAnswer) hB hV 0 rfl rfl 12 (by decide) k_757 h12 dX7_moves_30 ?_
  refine lv_iload_n hx hb dX7_moves_33 rfl (lv_at hl 1 rfl) ?_
  refine x_iald (v := 0) hB hV 3 rfl (by assumption) rfl dX7_moves_34 ?_
  refine x_iast (g := (fun _ => 0)) hB hV 3 rfl (by assumption) upd00 dX7_moves_35 (fun H locs hV => ?_)
  have hV : Vx D A s.heap H locs [(h, .inr (7, fs)), (q_key, .inl (cI, 192, .inl (fun _ => 0))), (q_keyX, .inl (cI, 192, .inl (fun _ => 0))), (q_keyAnswer, .inl (cI, 192, .inl (fun _ => 0))), (q_keyTick, .inl (cI, 192, .inl (fun _ => 0)))] := hV
  refine lv_aload_n hx hb dX7_moves_36 rfl (lv_at hl 0 rfl) ?_
  refine x_get (v := .ref q_keyTick) hB hV 0 rfl rfl 13 (by decide) k_758 h13 dX7_moves_37 ?_
  refine lv_iload_n hx hb dX7_moves_40 rfl (lv_at hl 2 rfl) ?_
  refine lv_aload_n hx hb dX7_moves_41 rfl (lv_at hl 0 rfl) ?_
  refine x_get (v := .ref q_keyTick) hB hV 0 rfl rfl 13 (by decide) k_758 h13 dX7_moves_42 ?_
  refine lv_iload_n hx hb dX7_moves_45 rfl (lv_at hl 1 rfl) ?_
  refine x_iald (v := 0) hB hV 4 rfl (by assumption) rfl dX7_moves_46 ?_
  refine x_iast (g := (fun _ => 0)) hB hV 4 rfl (by assumption) upd00 dX7_moves_47 (fun H locs hV => ?_)
  have hV : Vx D A s.heap H locs [(h, .inr (7, fs)), (q_key, .inl (cI, 192, .inl (fun _ => 0))), (q_keyX, .inl (cI, 192, .inl (fun _ => 0))), (q_keyAnswer, .inl (cI, 192, .inl (fun _ => 0))), (q_keyTick, .inl (cI, 192, .inl (fun _ => 0)))] := hV
  exact x_vret (w := [(h, .inr (7, fs)), (q_key, .inl (cI, 192, .inl (fun _ => 0))), (q_keyX, .inl (cI, 192, .inl (fun _ => 0))), (q_keyAnswer, .inl (cI, 192, .inl (fun _ => 0))), (q_keyTick, .inl (cI, 192, .inl (fun _ => 0)))]) hB hr hV hA (Nat.le_of_ble_eq_true rfl) (Nat.le_of_ble_eq_true rfl) [0, 1, 2, 3, 4] rfl rfl (by decide) dX7_moves_48 ⟨rfl, rfl⟩
set_option maxHeartbeats 4000000 in
set_option maxRecDepth 100000 in
theorem lp_t1 {p : Program} {l : Launch} {e : Env} {R : Room} {s : State} {m : MethodId} {args : Array Value} {below : List Frame} {meth : Method} {c : Code} {D : va_G} {cI cZ cS : ClassId} {A : Nat → Prop} {N0 : NT} {cells slots : Nat} {Q : State → Prop} (hB : Bx p s m meth c args cX7_tries 2 RX7 D cI cZ cS A N0) (h : Nat) (fs : List Value) (q_tick : Nat) (q_count : Nat) (q_kept : Nat) (q_isKnown : Nat) (q_knownX : Nat) (q_knownKey : Nat) (q_store : Nat) (q_key : Nat) (q_keyX : Nat) (q_keyAnswer : Nat) (q_keyTick : Nat) (q_knownWord : Nat) (q_knownPlace : Nat) (q_knownWorth : Nat) (h14 : fs[14]? = some (.ref q_tick)) (h8 : fs[8]? = some (.ref q_count)) (h9 : fs[9]? = some (.ref q_kept)) (h20 : fs[20]? = some (.ref q_isKnown)) (h15 : fs[15]? = some (.ref q_knownX)) (h16 : fs[16]? = some (.ref q_knownKey)) (h7 : fs[7]? = some (.ref q_store)) (h10 : fs[10]? = some (.ref q_key)) (h11 : fs[11]? = some (.ref q_keyX)) (h12 : fs[12]? = some (.ref q_keyAnswer)) (h13 : fs[13]? = some (.ref q_keyTick)) (h17 : fs[17]? = some (.ref q_knownWord)) (h18 : fs[18]? = some (.ref q_knownPlace)) (h19 : fs[19]? = some (.ref q_knownWorth)) (K : ∀ (H : Heap) (locs : List Loc) (ls : Array Slot), Vx D A s.heap H locs [(h, .inr (7, fs)), (q_tick, .inl (cI, 2, .inl (fun _ => 0))), (q_count, .inl (cI, 12, .inl (fun _ => 0))), (q_kept, .inl (cI, 12, .inl (fun _ => 0))), (q_isKnown, .inl (cZ, 12, .inl (fun _ => 0))), (q_knownX, .inl (cI, 12, .inl (fun _ => 0))), (q_knownKey, .inl (cI, 12, .inl (fun _ => 0))), (q_store, .inl (cI, 48, .inl (fun _ => 0))), (q_key, .inl (cI, 192, .inl (fun _ => 0))), (q_keyX, .inl (cI, 192, .inl (fun _ => 0))), (q_keyAnswer, .inl (cI, 192, .inl (fun _ => 0))), (q_keyTick, .inl (cI, 192, .inl (fun _ => 0))), (q_knownWord, .inl (cI, 96, .inl (fun _ => 0))), (q_knownPlace, .inl (cI, 96, .inl (fun _ => 0))), (q_knownWorth, .inl (cI, 96, .inl (fun _ => 0)))] → lv_has ls 2 [(1, .int 6), (0, .ref h)] → W p l e R s m args below meth c H locs cells slots Q (F0 m 111 ls [])) :
    ∀ (k : Nat) (i : Nat) (H : Heap) (locs : List Loc) (ls : Array Slot), i + k = 6 → Vx D A s.heap H locs [(h, .inr (7, fs)), (q_tick, .inl (cI, 2, .inl (fun _ => 0))), (q_count, .inl (cI, 12, .inl (fun _ => 0))), (q_kept, .inl (cI, 12, .inl (fun _ => 0))), (q_isKnown, .inl (cZ, 12, .inl (fun _ => 0))), (q_knownX, .inl (cI, 12, .inl (fun _ => 0))), (q_knownKey, .inl (cI, 12, .inl (fun _ => 0))), (q_store, .inl (cI, 48, .inl (fun _ => 0))), (q_key, .inl (cI, 192, .inl (fun _ => 0))), (q_keyX, .inl (cI, 192, .inl (fun _ => 0))), (q_keyAnswer, .inl (cI, 192, .inl (fun _ => 0))), (q_keyTick, .inl (cI, 192, .inl (fun _ => 0))), (q_knownWord, .inl (cI, 96, .inl (fun _ => 0))), (q_knownPlace, .inl (cI, 96, .inl (fun _ => 0))), (q_knownWorth, .inl (cI, 96, .inl (fun _ => 0)))] → lv_has ls 2 [(1, .int (nI i)), (0, .ref h)] → W p l e R s m args below meth c H locs cells slots Q (F0 m 24 ls []) := by
  have hx := hB.1
  have hb := hB.2.1
  intro k
  induction k with
  | zero =>
    intro i H locs ls hk hV hl
    obtain rfl : i = 6 := by omega
    have hV : Vx D A s.heap H locs [(h, .inr (7, fs)), (q_tick, .inl (cI, 2, .inl (fun _ => 0))), (q_count, .inl (cI, 12, .inl (fun _ => 0))), (q_kept, .inl (cI, 12, .inl (fun _ => 0))), (q_isKnown, .inl (cZ, 12, .inl (fun _ => 0))), (q_knownX, .inl (cI, 12, .inl (fun _ => 0))), (q_knownKey, .inl (cI, 12, .inl (fun _ => 0))), (q_store, .inl (cI, 48, .inl (fun _ => 0))), (q_key, .inl (cI, 192, .inl (fun _ => 0))), (q_keyX, .inl (cI, 192, .inl (fun _ => 0))), (q_keyAnswer, .inl (cI, 192, .inl (fun _ => 0))), (q_keyTick, .inl (cI, 192, .inl (fun _ => 0))), (q_knownWord, .inl (cI, 96, .inl (fun _ => 0))), (q_knownPlace, .inl (cI, 96, .inl (fun _ => 0))), (q_knownWorth, .inl (cI, 96, .inl (fun _ => 0)))] := hV
    have hl : lv_has ls 2 [(1, .int 6), (0, .ref h)] := hl
    refine lv_iload_n hx hb dX7_tries_24 rfl (lv_at hl 0 rfl) ?_
    refine lv_bipush (v := 6) hx hb dX7_tries_25 (by decide) ?_
    refine lv_icmp_ge (tgt := 111) hx hb dX7_tries_27 (by decide) (fun c_ => ?_) (fun c_ => absurd (by decide) c_)
    exact K  H locs ls hV (lv_sub hl [0, 1] rfl)
  | succ k ih =>
    intro i H locs ls hk hV hl
    have hV : Vx D A s.heap H locs [(h, .inr (7, fs)), (q_tick, .inl (cI, 2, .inl (fun _ => 0))), (q_count, .inl (cI, 12, .inl (fun _ => 0))), (q_kept, .inl (cI, 12, .inl (fun _ => 0))), (q_isKnown, .inl (cZ, 12, .inl (fun _ => 0))), (q_knownX, .inl (cI, 12, .inl (fun _ => 0))), (q_knownKey, .inl (cI, 12, .inl (fun _ => 0))), (q_store, .inl (cI, 48, .inl (fun _ => 0))), (q_key, .inl (cI, 192, .inl (fun _ => 0))), (q_keyX, .inl (cI, 192, .inl (fun _ => 0))), (q_keyAnswer, .inl (cI, 192, .inl (fun _ => 0))), (q_keyTick, .inl (cI, 192, .inl (fun _ => 0))), (q_knownWord, .inl (cI, 96, .inl (fun _ => 0))), (q_knownPlace, .inl (cI, 96, .inl (fun _ => 0))), (q_knownWorth, .inl (cI, 96, .inl (fun _ => 0)))] := hV
    have hl : lv_has ls 2 [(1, .int (nI i)), (0, .ref h)] := hl
    refine lv_iload_n hx hb dX7_tries_24 rfl (lv_at hl 0 rfl) ?_
    refine lv_bipush (v := 6) hx hb dX7_tries_25 (by decide) ?_
    refine lv_icmp_ge (tgt := 111) hx hb dX7_tries_27 (by decide) (fun c_ => absurd c_ (nI_ge (a := i) (b := 6) (by omega) (by decide))) (fun c_ => ?_)
    refine lv_aload_n hx hb dX7_tries_30 rfl (lv_at hl 1 rfl) ?_
    refine x_get (v := .ref q_count) hB hV 0 rfl rfl 8 (by decide) k_753 h8 dX7_tries_31 ?_
    refine lv_bipush (v := 6) hx hb dX7_tries_34 (by decide) ?_
    refine lv_iload_n hx hb dX7_tries_36 rfl (lv_at hl 0 rfl) ?_
    refine lv_iadd hx hb dX7_tries_37 ?_
    refine x_ev (y := nI (6 + i)) (nI_add 6 i) ?_
    refine lv_aload_n hx hb dX7_tries_38 rfl (lv_at hl 1 rfl) ?_
    refine x_get (v := .ref q_count) hB hV 0 rfl rfl 8 (by decide) k_753 h8 dX7_tries_39 ?_
    refine lv_iload_n hx hb dX7_tries_42 rfl (lv_at hl 0 rfl) ?_
    refine x_iald (v := 0) hB hV 2 rfl (vp_in_nI (by omega) (by decide)) rfl dX7_tries_43 ?_
    refine x_iast (g := (fun _ => 0)) hB hV 2 rfl (vp_in_nI (by omega) (by decide)) upd00 dX7_tries_44 (fun H locs hV => ?_)
    have hV : Vx D A s.heap H locs [(h, .inr (7, fs)), (q_tick, .inl (cI, 2, .inl (fun _ => 0))), (q_count, .inl (cI, 12, .inl (fun _ => 0))), (q_kept, .inl (cI, 12, .inl (fun _ => 0))), (q_isKnown, .inl (cZ, 12, .inl (fun _ => 0))), (q_knownX, .inl (cI, 12, .inl (fun _ => 0))), (q_knownKey, .inl (cI, 12, .inl (fun _ => 0))), (q_store, .inl (cI, 48, .inl (fun _ => 0))), (q_key, .inl (cI, 192, .inl (fun _ => 0))), (q_keyX, .inl (cI, 192, .inl (fun _ => 0))), (q_keyAnswer, .inl (cI, 192, .inl (fun _ => 0))), (q_keyTick, .inl (cI, 192, .inl (fun _ => 0))), (q_knownWord, .inl (cI, 96, .inl (fun _ => 0))), (q_knownPlace, .inl (cI, 96, .inl (fun _ => 0))), (q_knownWorth, .inl (cI, 96, .inl (fun _ => 0)))] := hV
    refine lv_aload_n hx hb dX7_tries_45 rfl (lv_at hl 1 rfl) ?_
    refine x_get (v := .ref q_kept) hB hV 0 rfl rfl 9 (by decide) k_754 h9 dX7_tries_46 ?_
    refine lv_bipush (v := 6) hx hb dX7_tries_49 (by decide) ?_
    refine lv_iload_n hx hb dX7_tries_51 rfl (lv_at hl 0 rfl) ?_
    refine lv_iadd hx hb dX7_tries_52 ?_
    refine x_ev (y := nI (6 + i)) (nI_add 6 i) ?_
    refine lv_aload_n hx hb dX7_tries_53 rfl (lv_at hl 1 rfl) ?_
    refine x_get (v := .ref q_kept) hB hV 0 rfl rfl 9 (by decide) k_754 h9 dX7_tries_54 ?_
    refine lv_iload_n hx hb dX7_tries_57 rfl (lv_at hl 0 rfl) ?_
    refine x_iald (v := 0) hB hV 3 rfl (vp_in_nI (by omega) (by decide)) rfl dX7_tries_58 ?_
    refine x_iast (g := (fun _ => 0)) hB hV 3 rfl (vp_in_nI (by omega) (by decide)) upd00 dX7_tries_59 (fun H locs hV => ?_)
    have hV : Vx D A s.heap H locs [(h, .inr (7, fs)), (q_tick, .inl (cI, 2, .inl (fun _ => 0))), (q_count, .inl (cI, 12, .inl (fun _ => 0))), (q_kept, .inl (cI, 12, .inl (fun _ => 0))), (q_isKnown, .inl (cZ, 12, .inl (fun _ => 0))), (q_knownX, .inl (cI, 12, .inl (fun _ => 0))), (q_knownKey, .inl (cI, 12, .inl (fun _ => 0))), (q_store, .inl (cI, 48, .inl (fun _ => 0))), (q_key, .inl (cI, 192, .inl (fun _ => 0))), (q_keyX, .inl (cI, 192, .inl (fun _ => 0))), (q_keyAnswer, .inl (cI, 192, .inl (fun _ => 0))), (q_keyTick, .inl (cI, 192, .inl (fun _ => 0))), (q_knownWord, .inl (cI, 96, .inl (fun _ => 0))), (q_knownPlace, .inl (cI, 96, .inl (fun _ => 0))), (q_knownWorth, .inl (cI, 96, .inl (fun _ => 0)))] := hV
    refine lv_aload_n hx hb dX7_tries_60 rfl (lv_at hl 1 rfl) ?_
    refine x_get (v := .ref q_isKnown) hB hV 0 rfl rfl 20 (by decide) k_765 h20 dX7_tries_61 ?_
    refine lv_bipush (v := 6) hx hb dX7_tries_64 (by decide) ?_
    refine lv_iload_n hx hb dX7_tries_66 rfl (lv_at hl 0 rfl) ?_
    refine lv_iadd hx hb dX7_tries_67 ?_
    refine x_ev (y := nI (6 + i)) (nI_add 6 i) ?_
    refine lv_aload_n hx hb dX7_tries_68 rfl (lv_at hl 1 rfl) ?_
    refine x_get (v := .ref q_isKnown) hB hV 0 rfl rfl 20 (by decide) k_765 h20 dX7_tries_69 ?_
    refine lv_iload_n hx hb dX7_tries_72 rfl (lv_at hl 0 rfl) ?_
    refine x_zald (v := 0) hB hV 4 rfl (vp_in_nI (by omega) (by decide)) rfl dX7_tries_73 ?_
    refine x_zast (g := (fun _ => 0)) hB hV 4 rfl (vp_in_nI (by omega) (by decide)) updz0 dX7_tries_74 (fun H locs hV => ?_)
    have hV : Vx D A s.heap H locs [(h, .inr (7, fs)), (q_tick, .inl (cI, 2, .inl (fun _ => 0))), (q_count, .inl (cI, 12, .inl (fun _ => 0))), (q_kept, .inl (cI, 12, .inl (fun _ => 0))), (q_isKnown, .inl (cZ, 12, .inl (fun _ => 0))), (q_knownX, .inl (cI, 12, .inl (fun _ => 0))), (q_knownKey, .inl (cI, 12, .inl (fun _ => 0))), (q_store, .inl (cI, 48, .inl (fun _ => 0))), (q_key, .inl (cI, 192, .inl (fun _ => 0))), (q_keyX, .inl (cI, 192, .inl (fun _ => 0))), (q_keyAnswer, .inl (cI, 192, .inl (fun _ => 0))), (q_keyTick, .inl (cI, 192, .inl (fun _ => 0))), (q_knownWord, .inl (cI, 96, .inl (fun _ => 0))), (q_knownPlace, .inl (cI, 96, .inl (fun _ => 0))), (q_knownWorth, .inl (cI, 96, .inl (fun _ => 0)))] := hV
    refine lv_aload_n hx hb dX7_tries_75 rfl (lv_at hl 1 rfl) ?_
    refine x_get (v := .ref q_knownX) hB hV 0 rfl rfl 15 (by decide) k_760 h15 dX7_tries_76 ?_
    refine lv_bipush (v := 6) hx hb dX7_tries_79 (by decide) ?_
    refine lv_iload_n hx hb dX7_tries_81 rfl (lv_at hl 0 rfl) ?_
    refine lv_iadd hx hb dX7_tries_82 ?_
    refine x_ev (y := nI (6 + i)) (nI_add 6 i) ?_
    refine lv_aload_n hx hb dX7_tries_83 rfl (lv_at hl 1 rfl) ?_
    refine x_get (v := .ref q_knownX) hB hV 0 rfl rfl 15 (by decide) k_760 h15 dX7_tries_84 ?_
    refine lv_iload_n hx hb dX7_tries_87 rfl (lv_at hl 0 rfl) ?_
    refine x_iald (v := 0) hB hV 5 rfl (vp_in_nI (by omega) (by decide)) rfl dX7_tries_88 ?_
    refine x_iast (g := (fun _ => 0)) hB hV 5 rfl (vp_in_nI (by omega) (by decide)) upd00 dX7_tries_89 (fun H locs hV => ?_)
    have hV : Vx D A s.heap H locs [(h, .inr (7, fs)), (q_tick, .inl (cI, 2, .inl (fun _ => 0))), (q_count, .inl (cI, 12, .inl (fun _ => 0))), (q_kept, .inl (cI, 12, .inl (fun _ => 0))), (q_isKnown, .inl (cZ, 12, .inl (fun _ => 0))), (q_knownX, .inl (cI, 12, .inl (fun _ => 0))), (q_knownKey, .inl (cI, 12, .inl (fun _ => 0))), (q_store, .inl (cI, 48, .inl (fun _ => 0))), (q_key, .inl (cI, 192, .inl (fun _ => 0))), (q_keyX, .inl (cI, 192, .inl (fun _ => 0))), (q_keyAnswer, .inl (cI, 192, .inl (fun _ => 0))), (q_keyTick, .inl (cI, 192, .inl (fun _ => 0))), (q_knownWord, .inl (cI, 96, .inl (fun _ => 0))), (q_knownPlace, .inl (cI, 96, .inl (fun _ => 0))), (q_knownWorth, .inl (cI, 96, .inl (fun _ => 0)))] := hV
    refine lv_aload_n hx hb dX7_tries_90 rfl (lv_at hl 1 rfl) ?_
    refine x_get (v := .ref q_knownKey) hB hV 0 rfl rfl 16 (by decide) k_761 h16 dX7_tries_91 ?_
    refine lv_bipush (v := 6) hx hb dX7_tries_94 (by decide) ?_
    refine lv_iload_n hx hb dX7_tries_96 rfl (lv_at hl 0 rfl) ?_
    refine lv_iadd hx hb dX7_tries_97 ?_
    refine x_ev (y := nI (6 + i)) (nI_add 6 i) ?_
    refine lv_aload_n hx hb dX7_tries_98 rfl (lv_at hl 1 rfl) ?_
    refine x_get (v := .ref q_knownKey) hB hV 0 rfl rfl 16 (by decide) k_761 h16 dX7_tries_99 ?_
    refine lv_iload_n hx hb dX7_tries_102 rfl (lv_at hl 0 rfl) ?_
    refine x_iald (v := 0) hB hV 6 rfl (vp_in_nI (by omega) (by decide)) rfl dX7_tries_103 ?_
    refine x_iast (g := (fun _ => 0)) hB hV 6 rfl (vp_in_nI (by omega) (by decide)) upd00 dX7_tries_104 (fun H locs hV => ?_)
    have hV : Vx D A s.heap H locs [(h, .inr (7, fs)), (q_tick, .inl (cI, 2, .inl (fun _ => 0))), (q_count, .inl (cI, 12, .inl (fun _ => 0))), (q_kept, .inl (cI, 12, .inl (fun _ => 0))), (q_isKnown, .inl (cZ, 12, .inl (fun _ => 0))), (q_knownX, .inl (cI, 12, .inl (fun _ => 0))), (q_knownKey, .inl (cI, 12, .inl (fun _ => 0))), (q_store, .inl (cI, 48, .inl (fun _ => 0))), (q_key, .inl (cI, 192, .inl (fun _ => 0))), (q_keyX, .inl (cI, 192, .inl (fun _ => 0))), (q_keyAnswer, .inl (cI, 192, .inl (fun _ => 0))), (q_keyTick, .inl (cI, 192, .inl (fun _ => 0))), (q_knownWord, .inl (cI, 96, .inl (fun _ => 0))), (q_knownPlace, .inl (cI, 96, .inl (fun _ => 0))), (q_knownWorth, .inl (cI, 96, .inl (fun _ => 0)))] := hV
    refine lv_iinc (v := nI (i + 1)) (lv' := [(1, .int (nI (i + 1))), (0, .ref h)]) hx hb dX7_tries_105 hl (k := 0) rfl (nI_1 i) (by decide) rfl (fun ls hl => ?_)
    refine lv_goto (tgt := 24) hx hb dX7_tries_108 (by decide) ?_
    exact ih (i + 1) H locs ls (by omega) hV (lv_sub hl [0, 1] rfl)
set_option maxHeartbeats 4000000 in
set_option maxRecDepth 100000 in
theorem lp_t2 {p : Program} {l : Launch} {e : Env} {R : Room} {s : State} {m : MethodId} {args : Array Value} {below : List Frame} {meth : Method} {c : Code} {D : va_G} {cI cZ cS : ClassId} {A : Nat → Prop} {N0 : NT} {cells slots : Nat} {Q : State → Prop} (hB : Bx p s m meth c args cX7_tries 2 RX7 D cI cZ cS A N0) (h : Nat) (fs : List Value) (q_tick : Nat) (q_count : Nat) (q_kept : Nat) (q_isKnown : Nat) (q_knownX : Nat) (q_knownKey : Nat) (q_store : Nat) (q_key : Nat) (q_keyX : Nat) (q_keyAnswer : Nat) (q_keyTick : Nat) (q_knownWord : Nat) (q_knownPlace : Nat) (q_knownWorth : Nat) (h14 : fs[14]? = some (.ref q_tick)) (h8 : fs[8]? = some (.ref q_count)) (h9 : fs[9]? = some (.ref q_kept)) (h20 : fs[20]? = some (.ref q_isKnown)) (h15 : fs[15]? = some (.ref q_knownX)) (h16 : fs[16]? = some (.ref q_knownKey)) (h7 : fs[7]? = some (.ref q_store)) (h10 : fs[10]? = some (.ref q_key)) (h11 : fs[11]? = some (.ref q_keyX)) (h12 : fs[12]? = some (.ref q_keyAnswer)) (h13 : fs[13]? = some (.ref q_keyTick)) (h17 : fs[17]? = some (.ref q_knownWord)) (h18 : fs[18]? = some (.ref q_knownPlace)) (h19 : fs[19]? = some (.ref q_knownWorth)) (K : ∀ (H : Heap) (locs : List Loc) (ls : Array Slot), Vx D A s.heap H locs [(h, .inr (7, fs)), (q_tick, .inl (cI, 2, .inl (fun _ => 0))), (q_count, .inl (cI, 12, .inl (fun _ => 0))), (q_kept, .inl (cI, 12, .inl (fun _ => 0))), (q_isKnown, .inl (cZ, 12, .inl (fun _ => 0))), (q_knownX, .inl (cI, 12, .inl (fun _ => 0))), (q_knownKey, .inl (cI, 12, .inl (fun _ => 0))), (q_store, .inl (cI, 48, .inl (fun _ => 0))), (q_key, .inl (cI, 192, .inl (fun _ => 0))), (q_keyX, .inl (cI, 192, .inl (fun _ => 0))), (q_keyAnswer, .inl (cI, 192, .inl (fun _ => 0))), (q_keyTick, .inl (cI, 192, .inl (fun _ => 0))), (q_knownWord, .inl (cI, 96, .inl (fun _ => 0))), (q_knownPlace, .inl (cI, 96, .inl (fun _ => 0))), (q_knownWorth, .inl (cI, 96, .inl (fun _ => 0)))] → lv_has ls 2 [(1, .int 24), (0, .ref h)] → W p l e R s m args below meth c H locs cells slots Q (F0 m 140 ls [])) :
    ∀ (k : Nat) (i : Nat) (H : Heap) (locs : List Loc) (ls : Array Slot), i + k = 24 → Vx D A s.heap H locs [(h, .inr (7, fs)), (q_tick, .inl (cI, 2, .inl (fun _ => 0))), (q_count, .inl (cI, 12, .inl (fun _ => 0))), (q_kept, .inl (cI, 12, .inl (fun _ => 0))), (q_isKnown, .inl (cZ, 12, .inl (fun _ => 0))), (q_knownX, .inl (cI, 12, .inl (fun _ => 0))), (q_knownKey, .inl (cI, 12, .inl (fun _ => 0))), (q_store, .inl (cI, 48, .inl (fun _ => 0))), (q_key, .inl (cI, 192, .inl (fun _ => 0))), (q_keyX, .inl (cI, 192, .inl (fun _ => 0))), (q_keyAnswer, .inl (cI, 192, .inl (fun _ => 0))), (q_keyTick, .inl (cI, 192, .inl (fun _ => 0))), (q_knownWord, .inl (cI, 96, .inl (fun _ => 0))), (q_knownPlace, .inl (cI, 96, .inl (fun _ => 0))), (q_knownWorth, .inl (cI, 96, .inl (fun _ => 0)))] → lv_has ls 2 [(1, .int (nI i)), (0, .ref h)] → W p l e R s m args below meth c H locs cells slots Q (F0 m 113 ls []) := by
  have hx := hB.1
  have hb := hB.2.1
  intro k
  induction k with
  | zero =>
    intro i H locs ls hk hV hl
    obtain rfl : i = 24 := by omega
    have hV : Vx D A s.heap H locs [(h, .inr (7, fs)), (q_tick, .inl (cI, 2, .inl (fun _ => 0))), (q_count, .inl (cI, 12, .inl (fun _ => 0))), (q_kept, .inl (cI, 12, .inl (fun _ => 0))), (q_isKnown, .inl (cZ, 12, .inl (fun _ => 0))), (q_knownX, .inl (cI, 12, .inl (fun _ => 0))), (q_knownKey, .inl (cI, 12, .inl (fun _ => 0))), (q_store, .inl (cI, 48, .inl (fun _ => 0))), (q_key, .inl (cI, 192, .inl (fun _ => 0))), (q_keyX, .inl (cI, 192, .inl (fun _ => 0))), (q_keyAnswer, .inl (cI, 192, .inl (fun _ => 0))), (q_keyTick, .inl (cI, 192, .inl (fun _ => 0))), (q_knownWord, .inl (cI, 96, .inl (fun _ => 0))), (q_knownPlace, .inl (cI, 96, .inl (fun _ => 0))), (q_knownWorth, .inl (cI, 96, .inl (fun _ => 0)))] := hV
    have hl : lv_has ls 2 [(1, .int 24), (0, .ref h)] := hl
    refine lv_iload_n hx hb dX7_tries_113 rfl (lv_at hl 0 rfl) ?_
    refine lv_bipush (v := 24) hx hb dX7_tries_114 (by decide) ?_
    refine lv_icmp_ge (tgt := 140) hx hb dX7_tries_116 (by decide) (fun c_ => ?_) (fun c_ => absurd (by decide) c_)
    exact K  H locs ls hV (lv_sub hl [0, 1] rfl)
  | succ k ih =>
    intro i H locs ls hk hV hl
    have hV : Vx D A s.heap H locs [(h, .inr (7, fs)), (q_tick, .inl (cI, 2, .inl (fun _ => 0))), (q_count, .inl (cI, 12, .inl (fun _ => 0))), (q_kept, .inl (cI, 12, .inl (fun _ => 0))), (q_isKnown, .inl (cZ, 12, .inl (fun _ => 0))), (q_knownX, .inl (cI, 12, .inl (fun _ => 0))), (q_knownKey, .inl (cI, 12, .inl (fun _ => 0))), (q_store, .inl (cI, 48, .inl (fun _ => 0))), (q_key, .inl (cI, 192, .inl (fun _ => 0))), (q_keyX, .inl (cI, 192, .inl (fun _ => 0))), (q_keyAnswer, .inl (cI, 192, .inl (fun _ => 0))), (q_keyTick, .inl (cI, 192, .inl (fun _ => 0))), (q_knownWord, .inl (cI, 96, .inl (fun _ => 0))), (q_knownPlace, .inl (cI, 96, .inl (fun _ => 0))), (q_knownWorth, .inl (cI, 96, .inl (fun _ => 0)))] := hV
    have hl : lv_has ls 2 [(1, .int (nI i)), (0, .ref h)] := hl
    refine lv_iload_n hx hb dX7_tries_113 rfl (lv_at hl 0 rfl) ?_
    refine lv_bipush (v := 24) hx hb dX7_tries_114 (by decide) ?_
    refine lv_icmp_ge (tgt := 140) hx hb dX7_tries_116 (by decide) (fun c_ => absurd c_ (nI_ge (a := i) (b := 24) (by omega) (by decide))) (fun c_ => ?_)
    refine lv_aload_n hx hb dX7_tries_119 rfl (lv_at hl 1 rfl) ?_
    refine x_get (v := .ref q_store) hB hV 0 rfl rfl 7 (by decide) k_752 h7 dX7_tries_120 ?_
    refine lv_bipush (v := 24) hx hb dX7_tries_123 (by decide) ?_
    refine lv_iload_n hx hb dX7_tries_125 rfl (lv_at hl 0 rfl) ?_
    refine lv_iadd hx hb dX7_tries_126 ?_
    refine x_ev (y := nI (24 + i)) (nI_add 24 i) ?_
    refine lv_aload_n hx hb dX7_tries_127 rfl (lv_at hl 1 rfl) ?_
    refine x_get (v := .ref q_store) hB hV 0 rfl rfl 7 (by decide) k_752 h7 dX7_tries_128 ?_
    refine lv_iload_n hx hb dX7_tries_131 rfl (lv_at hl 0 rfl) ?_
    refine x_iald (v := 0) hB hV 7 rfl (vp_in_nI (by omega) (by decide)) rfl dX7_tries_132 ?_
    refine x_iast (g := (fun _ => 0)) hB hV 7 rfl (vp_in_nI (by omega) (by decide)) upd00 dX7_tries_133 (fun H locs hV => ?_)
    have hV : Vx D A s.heap H locs [(h, .inr (7, fs)), (q_tick, .inl (cI, 2, .inl (fun _ => 0))), (q_count, .inl (cI, 12, .inl (fun _ => 0))), (q_kept, .inl (cI, 12, .inl (fun _ => 0))), (q_isKnown, .inl (cZ, 12, .inl (fun _ => 0))), (q_knownX, .inl (cI, 12, .inl (fun _ => 0))), (q_knownKey, .inl (cI, 12, .inl (fun _ => 0))), (q_store, .inl (cI, 48, .inl (fun _ => 0))), (q_key, .inl (cI, 192, .inl (fun _ => 0))), (q_keyX, .inl (cI, 192, .inl (fun _ => 0))), (q_keyAnswer, .inl (cI, 192, .inl (fun _ => 0))), (q_keyTick, .inl (cI, 192, .inl (fun _ => 0))), (q_knownWord, .inl (cI, 96, .inl (fun _ => 0))), (q_knownPlace, .inl (cI, 96, .inl (fun _ => 0))), (q_knownWorth, .inl (cI, 96, .inl (fun _ => 0)))] := hV
    refine lv_iinc (v := nI (i + 1)) (lv' := [(1, .int (nI (i + 1))), (0, .ref h)]) hx hb dX7_tries_134 hl (k := 0) rfl (nI_1 i) (by decide) rfl (fun ls hl => ?_)
    refine lv_goto (tgt := 113) hx hb dX7_tries_137 (by decide) ?_
    exact ih (i + 1) H locs ls (by omega) hV (lv_sub hl [0, 1] rfl)
set_option maxHeartbeats 4000000 in
set_option maxRecDepth 100000 in
theorem lp_t3 {p : Program} {l : Launch} {e : Env} {s : State} {m : MethodId} {args : Array Value} {below : List Frame} {meth : Method} {c : Code} {D : va_G} {cI cZ cS : ClassId} {A : Nat → Prop} {N0 : NT} {Q : State → Prop} (hB : Bx p s m meth c args cX7_tries 2 RX7 D cI cZ cS A N0) (h : Nat) (fs : List Value) (q_tick : Nat) (q_count : Nat) (q_kept : Nat) (q_isKnown : Nat) (q_knownX : Nat) (q_knownKey : Nat) (q_store : Nat) (q_key : Nat) (q_keyX : Nat) (q_keyAnswer : Nat) (q_keyTick : Nat) (q_knownWord : Nat) (q_knownPlace : Nat) (q_knownWorth : Nat) (h14 : fs[14]? = some (.ref q_tick)) (h8 : fs[8]? = some (.ref q_count)) (h9 : fs[9]? = some (.ref q_kept)) (h20 : fs[20]? = some (.ref q_isKnown)) (h15 : fs[15]? = some (.ref q_knownX)) (h16 : fs[16]? = some (.ref q_knownKey)) (h7 : fs[7]? = some (.ref q_store)) (h10 : fs[10]? = some (.ref q_key)) (h11 : fs[11]? = some (.ref q_keyX)) (h12 : fs[12]? = some (.ref q_keyAnswer)) (h13 : fs[13]? = some (.ref q_keyTick)) (h17 : fs[17]? = some (.ref q_knownWord)) (h18 : fs[18]? = some (.ref q_knownPlace)) (h19 : fs[19]? = some (.ref q_knownWorth)) (K : ∀ (H : Heap) (locs : List Loc) (ls : Array Slot), Vx D A s.heap H locs [(h, .inr (7, fs)), (q_tick, .inl (cI, 2, .inl (fun _ => 0))), (q_count, .inl (cI, 12, .inl (fun _ => 0))), (q_kept, .inl (cI, 12, .inl (fun _ => 0))), (q_isKnown, .inl (cZ, 12, .inl (fun _ => 0))), (q_knownX, .inl (cI, 12, .inl (fun _ => 0))), (q_knownKey, .inl (cI, 12, .inl (fun _ => 0))), (q_store, .inl (cI, 48, .inl (fun _ => 0))), (q_key, .inl (cI, 192, .inl (fun _ => 0))), (q_keyX, .inl (cI, 192, .inl (fun _ => 0))), (q_keyAnswer, .inl (cI, 192, .inl (fun _ => 0))), (q_keyTick, .inl (cI, 192, .inl (fun _ => 0))), (q_knownWord, .inl (cI, 96, .inl (fun _ => 0))), (q_knownPlace, .inl (cI, 96, .inl (fun _ => 0))), (q_knownWorth, .inl (cI, 96, .inl (fun _ => 0)))] → lv_has ls 2 [(1, .int 96), (0, .ref h)] → W p l e (rmx 1 0 0) s m args below meth c H locs 0 0 Q (F0 m 163 ls [])) :
    ∀ (k : Nat) (i : Nat) (H : Heap) (locs : List Loc) (ls : Array Slot), i + k = 96 → Vx D A s.heap H locs [(h, .inr (7, fs)), (q_tick, .inl (cI, 2, .inl (fun _ => 0))), (q_count, .inl (cI, 12, .inl (fun _ => 0))), (q_kept, .inl (cI, 12, .inl (fun _ => 0))), (q_isKnown, .inl (cZ, 12, .inl (fun _ => 0))), (q_knownX, .inl (cI, 12, .inl (fun _ => 0))), (q_knownKey, .inl (cI, 12, .inl (fun _ => 0))), (q_store, .inl (cI, 48, .inl (fun _ => 0))), (q_key, .inl (cI, 192, .inl (fun _ => 0))), (q_keyX, .inl (cI, 192, .inl (fun _ => 0))), (q_keyAnswer, .inl (cI, 192, .inl (fun _ => 0))), (q_keyTick, .inl (cI, 192, .inl (fun _ => 0))), (q_knownWord, .inl (cI, 96, .inl (fun _ => 0))), (q_knownPlace, .inl (cI, 96, .inl (fun _ => 0))), (q_knownWorth, .inl (cI, 96, .inl (fun _ => 0)))] → lv_has ls 2 [(1, .int (nI i)), (0, .ref h)] → W p l e (rmx 1 0 0) s m args below meth c H locs 0 0 Q (F0 m 142 ls []) := by
  have hx := hB.1
  have hb := hB.2.1
  intro k
  induction k with
  | zero =>
    intro i H locs ls hk hV hl
    obtain rfl : i = 96 := by omega
    have hV : Vx D A s.heap H locs [(h, .inr (7, fs)), (q_tick, .inl (cI, 2, .inl (fun _ => 0))), (q_count, .inl (cI, 12, .inl (fun _ => 0))), (q_kept, .inl (cI, 12, .inl (fun _ => 0))), (q_isKnown, .inl (cZ, 12, .inl (fun _ => 0))), (q_knownX, .inl (cI, 12, .inl (fun _ => 0))), (q_knownKey, .inl (cI, 12, .inl (fun _ => 0))), (q_store, .inl (cI, 48, .inl (fun _ => 0))), (q_key, .inl (cI, 192, .inl (fun _ => 0))), (q_keyX, .inl (cI, 192, .inl (fun _ => 0))), (q_keyAnswer, .inl (cI, 192, .inl (fun _ => 0))), (q_keyTick, .inl (cI, 192, .inl (fun _ => 0))), (q_knownWord, .inl (cI, 96, .inl (fun _ => 0))), (q_knownPlace, .inl (cI, 96, .inl (fun _ => 0))), (q_knownWorth, .inl (cI, 96, .inl (fun _ => 0)))] := hV
    have hl : lv_has ls 2 [(1, .int 96), (0, .ref h)] := hl
    refine lv_iload_n hx hb dX7_tries_142 rfl (lv_at hl 0 rfl) ?_
    refine lv_bipush (v := 96) hx hb dX7_tries_143 (by decide) ?_
    refine lv_icmp_ge (tgt := 163) hx hb dX7_tries_145 (by decide) (fun c_ => ?_) (fun c_ => absurd (by decide) c_)
    exact K  H locs ls hV (lv_sub hl [0, 1] rfl)
  | succ k ih =>
    intro i H locs ls hk hV hl
    have hV : Vx D A s.heap H locs [(h, .inr (7, fs)), (q_tick, .inl (cI, 2, .inl (fun _ => 0))), (q_count, .inl (cI, 12, .inl (fun _ => 0))), (q_kept, .inl (cI, 12, .inl (fun _ => 0))), (q_isKnown, .inl (cZ, 12, .inl (fun _ => 0))), (q_knownX, .inl (cI, 12, .inl (fun _ => 0))), (q_knownKey, .inl (cI, 12, .inl (fun _ => 0))), (q_store, .inl (cI, 48, .inl (fun _ => 0))), (q_key, .inl (cI, 192, .inl (fun _ => 0))), (q_keyX, .inl (cI, 192, .inl (fun _ => 0))), (q_keyAnswer, .inl (cI, 192, .inl (fun _ => 0))), (q_keyTick, .inl (cI, 192, .inl (fun _ => 0))), (q_knownWord, .inl (cI, 96, .inl (fun _ => 0))), (q_knownPlace, .inl (cI, 96, .inl (fun _ => 0))), (q_knownWorth, .inl (cI, 96, .inl (fun _ => 0)))] := hV
    have hl : lv_has ls 2 [(1, .int (nI i)), (0, .ref h)] := hl
    refine lv_iload_n hx hb dX7_tries_142 rfl (lv_at hl 0 rfl) ?_
    refine lv_bipush (v := 96) hx hb dX7_tries_143 (by decide) ?_
    refine lv_icmp_ge (tgt := 163) hx hb dX7_tries_145 (by decide) (fun c_ => absurd c_ (nI_ge (a := i) (b := 96) (by omega) (by decide))) (fun c_ => ?_)
    refine lv_aload_n hx hb dX7_tries_148 rfl (lv_at hl 1 rfl) ?_
    refine lv_iload_n hx hb dX7_tries_149 rfl (lv_at hl 0 rfl) ?_
    refine lv_bipush (v := 96) hx hb dX7_tries_150 (by decide) ?_
    refine lv_iload_n hx hb dX7_tries_152 rfl (lv_at hl 0 rfl) ?_
    refine lv_iadd hx hb dX7_tries_153 ?_
    refine x_ev (y := nI (96 + i)) (nI_add 96 i) ?_
    refine x_callV (n := 2) (wr := [(q_tick, .inl (cI, 2, .inl (fun _ => 0))), (q_count, .inl (cI, 12, .inl (fun _ => 0))), (q_kept, .inl (cI, 12, .inl (fun _ => 0))), (q_isKnown, .inl (cZ, 12, .inl (fun _ => 0))), (q_knownX, .inl (cI, 12, .inl (fun _ => 0))), (q_knownKey, .inl (cI, 12, .inl (fun _ => 0))), (q_store, .inl (cI, 48, .inl (fun _ => 0))), (q_knownWord, .inl (cI, 96, .inl (fun _ => 0))), (q_knownPlace, .inl (cI, 96, .inl (fun _ => 0))), (q_knownWorth, .inl (cI, 96, .inl (fun _ => 0)))]) (q0 := 0) (As := [.int (nI i), .int (nI (96 + i))]) (rest := []) hB hV (x_N hB) hl.1 (c_moves l D cI cZ cS N0 h fs q_key q_keyX q_keyAnswer q_keyTick (nI i) (nI (96 + i)) h10 h11 h12 h13 (vp_in_nI (by omega) (by decide)) (vp_in_nI (by omega) (by decide))) rfl rfl k_1051 k_65 k_1048 k_1050 k_36 (by decide +kernel) ⟨(Nat.le_of_ble_eq_true rfl), (Nat.le_of_ble_eq_true rfl)⟩ rfl (Nat.le_of_ble_eq_true rfl) ⟨(Nat.le_of_ble_eq_true rfl), (Nat.le_of_ble_eq_true rfl)⟩ [0, 8, 9, 10, 11] [1, 2, 3, 4, 5, 6, 7, 12, 13, 14] rfl rfl rfl ⟨by decide, by decide, by decide⟩ dX7_tries_154 (fun v w H locs hp hV => ?_)
    obtain ⟨rfl, rfl⟩ := hp
    have hV : Vx D A s.heap H locs [(q_tick, .inl (cI, 2, .inl (fun _ => 0))), (q_count, .inl (cI, 12, .inl (fun _ => 0))), (q_kept, .inl (cI, 12, .inl (fun _ => 0))), (q_isKnown, .inl (cZ, 12, .inl (fun _ => 0))), (q_knownX, .inl (cI, 12, .inl (fun _ => 0))), (q_knownKey, .inl (cI, 12, .inl (fun _ => 0))), (q_store, .inl (cI, 48, .inl (fun _ => 0))), (q_knownWord, .inl (cI, 96, .inl (fun _ => 0))), (q_knownPlace, .inl (cI, 96, .inl (fun _ => 0))), (q_knownWorth, .inl (cI, 96, .inl (fun _ => 0))), (h, .inr (7, fs)), (q_key, .inl (cI, 192, .inl (fun _ => 0))), (q_keyX, .inl (cI, 192, .inl (fun _ => 0))), (q_keyAnswer, .inl (cI, 192, .inl (fun _ => 0))), (q_keyTick, .inl (cI, 192, .inl (fun _ => 0)))] := hV
    refine W.eq (g2 := F0 m 157 ls []) rfl ?_
    have hV := Vx_sub (w := [(h, .inr (7, fs)), (q_tick, .inl (cI, 2, .inl (fun _ => 0))), (q_count, .inl (cI, 12, .inl (fun _ => 0))), (q_kept, .inl (cI, 12, .inl (fun _ => 0))), (q_isKnown, .inl (cZ, 12, .inl (fun _ => 0))), (q_knownX, .inl (cI, 12, .inl (fun _ => 0))), (q_knownKey, .inl (cI, 12, .inl (fun _ => 0))), (q_store, .inl (cI, 48, .inl (fun _ => 0))), (q_key, .inl (cI, 192, .inl (fun _ => 0))), (q_keyX, .inl (cI, 192, .inl (fun _ => 0))), (q_keyAnswer, .inl (cI, 192, .inl (fun _ => 0))), (q_keyTick, .inl (cI, 192, .inl (fun _ => 0))), (q_knownWord, .inl (cI, 96, .inl (fun _ => 0))), (q_knownPlace, .inl (cI, 96, .inl (fun _ => 0))), (q_knownWorth, .inl (cI, 96, .inl (fun _ => 0)))]) hV [10, 0, 1, 2, 3, 4, 5, 6, 11, 12, 13, 14, 7, 8, 9] rfl rfl (by decide)
    refine lv_iinc (v := nI (i + 1)) (lv' := [(1, .int (nI (i + 1))), (0, .ref h)]) hx hb dX7_tries_157 hl (k := 0) rfl (nI_1 i) (by decide) rfl (fun ls hl => ?_)
    refine lv_goto (tgt := 142) hx hb dX7_tries_160 (by decide) ?_
    exact ih (i + 1) H locs ls (by omega) hV (lv_sub hl [0, 1] rfl)
set_option maxHeartbeats 4000000 in
set_option maxRecDepth 100000 in
theorem lp_t4 {p : Program} {l : Launch} {e : Env} {R : Room} {s : State} {m : MethodId} {args : Array Value} {below : List Frame} {meth : Method} {c : Code} {D : va_G} {cI cZ cS : ClassId} {A : Nat → Prop} {N0 : NT} {cells slots : Nat} {Q : State → Prop} (hB : Bx p s m meth c args cX7_tries 2 RX7 D cI cZ cS A N0) (h : Nat) (fs : List Value) (q_tick : Nat) (q_count : Nat) (q_kept : Nat) (q_isKnown : Nat) (q_knownX : Nat) (q_knownKey : Nat) (q_store : Nat) (q_key : Nat) (q_keyX : Nat) (q_keyAnswer : Nat) (q_keyTick : Nat) (q_knownWord : Nat) (q_knownPlace : Nat) (q_knownWorth : Nat) (h14 : fs[14]? = some (.ref q_tick)) (h8 : fs[8]? = some (.ref q_count)) (h9 : fs[9]? = some (.ref q_kept)) (h20 : fs[20]? = some (.ref q_isKnown)) (h15 : fs[15]? = some (.ref q_knownX)) (h16 : fs[16]? = some (.ref q_knownKey)) (h7 : fs[7]? = some (.ref q_store)) (h10 : fs[10]? = some (.ref q_key)) (h11 : fs[11]? = some (.ref q_keyX)) (h12 : fs[12]? = some (.ref q_keyAnswer)) (h13 : fs[13]? = some (.ref q_keyTick)) (h17 : fs[17]? = some (.ref q_knownWord)) (h18 : fs[18]? = some (.ref q_knownPlace)) (h19 : fs[19]? = some (.ref q_knownWorth)) (K : ∀ (H : Heap) (locs : List Loc) (ls : Array Slot), Vx D A s.heap H locs [(h, .inr (7, fs)), (q_tick, .inl (cI, 2, .inl (fun _ => 0))), (q_count, .inl (cI, 12, .inl (fun _ => 0))), (q_kept, .inl (cI, 12, .inl (fun _ => 0))), (q_isKnown, .inl (cZ, 12, .inl (fun _ => 0))), (q_knownX, .inl (cI, 12, .inl (fun _ => 0))), (q_knownKey, .inl (cI, 12, .inl (fun _ => 0))), (q_store, .inl (cI, 48, .inl (fun _ => 0))), (q_key, .inl (cI, 192, .inl (fun _ => 0))), (q_keyX, .inl (cI, 192, .inl (fun _ => 0))), (q_keyAnswer, .inl (cI, 192, .inl (fun _ => 0))), (q_keyTick, .inl (cI, 192, .inl (fun _ => 0))), (q_knownWord, .inl (cI, 96, .inl (fun _ => 0))), (q_knownPlace, .inl (cI, 96, .inl (fun _ => 0))), (q_knownWorth, .inl (cI, 96, .inl (fun _ => 0)))] → lv_has ls 2 [(1, .int 48), (0, .ref h)] → W p l e R s m args below meth c H locs cells slots Q (F0 m 222 ls [])) :
    ∀ (k : Nat) (i : Nat) (H : Heap) (locs : List Loc) (ls : Array Slot), i + k = 48 → Vx D A s.heap H locs [(h, .inr (7, fs)), (q_tick, .inl (cI, 2, .inl (fun _ => 0))), (q_count, .inl (cI, 12, .inl (fun _ => 0))), (q_kept, .inl (cI, 12, .inl (fun _ => 0))), (q_isKnown, .inl (cZ, 12, .inl (fun _ => 0))), (q_knownX, .inl (cI, 12, .inl (fun _ => 0))), (q_knownKey, .inl (cI, 12, .inl (fun _ => 0))), (q_store, .inl (cI, 48, .inl (fun _ => 0))), (q_key, .inl (cI, 192, .inl (fun _ => 0))), (q_keyX, .inl (cI, 192, .inl (fun _ => 0))), (q_keyAnswer, .inl (cI, 192, .inl (fun _ => 0))), (q_keyTick, .inl (cI, 192, .inl (fun _ => 0))), (q_knownWord, .inl (cI, 96, .inl (fun _ => 0))), (q_knownPlace, .inl (cI, 96, .inl (fun _ => 0))), (q_knownWorth, .inl (cI, 96, .inl (fun _ => 0)))] → lv_has ls 2 [(1, .int (nI i)), (0, .ref h)] → W p l e R s m args below meth c H locs cells slots Q (F0 m 165 ls []) := by
  have hx := hB.1
  have hb := hB.2.1
  intro k
  induction k with
  | zero =>
    intro i H locs ls hk hV hl
    obtain rfl : i = 48 := by omega
    have hV : Vx D A s.heap H locs [(h, .inr (7, fs)), (q_tick, .inl (cI, 2, .inl (fun _ => 0))), (q_count, .inl (cI, 12, .inl (fun _ => 0))), (q_kept, .inl (cI, 12, .inl (fun _ => 0))), (q_isKnown, .inl (cZ, 12, .inl (fun _ => 0))), (q_knownX, .inl (cI, 12, .inl (fun _ => 0))), (q_knownKey, .inl (cI, 12, .inl (fun _ => 0))), (q_store, .inl (cI, 48, .inl (fun _ => 0))), (q_key, .inl (cI, 192, .inl (fun _ => 0))), (q_keyX, .inl (cI, 192, .inl (fun _ => 0))), (q_keyAnswer, .inl (cI, 192, .inl (fun _ => 0))), (q_keyTick, .inl (cI, 192, .inl (fun _ => 0))), (q_knownWord, .inl (cI, 96, .inl (fun _ => 0))), (q_knownPlace, .inl (cI, 96, .inl (fun _ => 0))), (q_knownWorth, .inl (cI, 96, .inl (fun _ => 0)))] := hV
    have hl : lv_has ls 2 [(1, .int 48), (0, .ref h)] := hl
    refine lv_iload_n hx hb dX7_tries_165 rfl (lv_at hl 0 rfl) ?_
    refine lv_bipush (v := 48) hx hb dX7_tries_166 (by decide) ?_
    refine lv_icmp_ge (tgt := 222) hx hb dX7_tries_168 (by decide) (fun c_ => ?_) (fun c_ => absurd (by decide) c_)
    exact K  H locs ls hV (lv_sub hl [0, 1] rfl)
  | succ k ih =>
    intro i H locs ls hk hV hl
    have hV : Vx D A s.heap H locs [(h, .inr (7, fs)), (q_tick, .inl (cI, 2, .inl (fun _ => 0))), (q_count, .inl (cI, 12, .inl (fun _ => 0))), (q_kept, .inl (cI, 12, .inl (fun _ => 0))), (q_isKnown, .inl (cZ, 12, .inl (fun _ => 0))), (q_knownX, .inl (cI, 12, .inl (fun _ => 0))), (q_knownKey, .inl (cI, 12, .inl (fun _ => 0))), (q_store, .inl (cI, 48, .inl (fun _ => 0))), (q_key, .inl (cI, 192, .inl (fun _ => 0))), (q_keyX, .inl (cI, 192, .inl (fun _ => 0))), (q_keyAnswer, .inl (cI, 192, .inl (fun _ => 0))), (q_keyTick, .inl (cI, 192, .inl (fun _ => 0))), (q_knownWord, .inl (cI, 96, .inl (fun _ => 0))), (q_knownPlace, .inl (cI, 96, .inl (fun _ => 0))), (q_knownWorth, .inl (cI, 96, .inl (fun _ => 0)))] := hV
    have hl : lv_has ls 2 [(1, .int (nI i)), (0, .ref h)] := hl
    refine lv_iload_n hx hb dX7_tries_165 rfl (lv_at hl 0 rfl) ?_
    refine lv_bipush (v := 48) hx hb dX7_tries_166 (by decide) ?_
    refine lv_icmp_ge (tgt := 222) hx hb dX7_tries_168 (by decide) (fun c_ => absurd c_ (nI_ge (a := i) (b := 48) (by omega) (by decide))) (fun c_ => ?_)
    refine lv_aload_n hx hb dX7_tries_171 rfl (lv_at hl 1 rfl) ?_
    refine x_get (v := .ref q_knownWord) hB hV 0 rfl rfl 17 (by decide) k_762 h17 dX7_tries_172 ?_
    refine lv_bipush (v := 48) hx hb dX7_tries_175 (by decide) ?_
    refine lv_iload_n hx hb dX7_tries_177 rfl (lv_at hl 0 rfl) ?_
    refine lv_iadd hx hb dX7_tries_178 ?_
    refine x_ev (y := nI (48 + i)) (nI_add 48 i) ?_
    refine lv_aload_n hx hb dX7_tries_179 rfl (lv_at hl 1 rfl) ?_
    refine x_get (v := .ref q_knownWord) hB hV 0 rfl rfl 17 (by decide) k_762 h17 dX7_tries_180 ?_
    refine lv_iload_n hx hb dX7_tries_183 rfl (lv_at hl 0 rfl) ?_
    refine x_iald (v := 0) hB hV 12 rfl (vp_in_nI (by omega) (by decide)) rfl dX7_tries_184 ?_
    refine x_iast (g := (fun _ => 0)) hB hV 12 rfl (vp_in_nI (by omega) (by decide)) upd00 dX7_tries_185 (fun H locs hV => ?_)
    have hV : Vx D A s.heap H locs [(h, .inr (7, fs)), (q_tick, .inl (cI, 2, .inl (fun _ => 0))), (q_count, .inl (cI, 12, .inl (fun _ => 0))), (q_kept, .inl (cI, 12, .inl (fun _ => 0))), (q_isKnown, .inl (cZ, 12, .inl (fun _ => 0))), (q_knownX, .inl (cI, 12, .inl (fun _ => 0))), (q_knownKey, .inl (cI, 12, .inl (fun _ => 0))), (q_store, .inl (cI, 48, .inl (fun _ => 0))), (q_key, .inl (cI, 192, .inl (fun _ => 0))), (q_keyX, .inl (cI, 192, .inl (fun _ => 0))), (q_keyAnswer, .inl (cI, 192, .inl (fun _ => 0))), (q_keyTick, .inl (cI, 192, .inl (fun _ => 0))), (q_knownWord, .inl (cI, 96, .inl (fun _ => 0))), (q_knownPlace, .inl (cI, 96, .inl (fun _ => 0))), (q_knownWorth, .inl (cI, 96, .inl (fun _ => 0)))] := hV
    refine lv_aload_n hx hb dX7_tries_186 rfl (lv_at hl 1 rfl) ?_
    refine x_get (v := .ref q_knownPlace) hB hV 0 rfl rfl 18 (by decide) k_763 h18 dX7_tries_187 ?_
    refine lv_bipush (v := 48) hx hb dX7_tries_190 (by decide) ?_
    refine lv_iload_n hx hb dX7_tries_192 rfl (lv_at hl 0 rfl) ?_
    refine lv_iadd hx hb dX7_tries_193 ?_
    refine x_ev (y := nI (48 + i)) (nI_add 48 i) ?_
    refine lv_aload_n hx hb dX7_tries_194 rfl (lv_at hl 1 rfl) ?_
    refine x_get (v := .ref q_knownPlace) hB hV 0 rfl rfl 18 (by decide) k_763 h18 dX7_tries_195 ?_
    refine lv_iload_n hx hb dX7_tries_198 rfl (lv_at hl 0 rfl) ?_
    refine x_iald (v := 0) hB hV 13 rfl (vp_in_nI (by omega) (by decide)) rfl dX7_tries_199 ?_
    refine x_iast (g := (fun _ => 0)) hB hV 13 rfl (vp_in_nI (by omega) (by decide)) upd00 dX7_tries_200 (fun H locs hV => ?_)
    have hV : Vx D A s.heap H locs [(h, .inr (7, fs)), (q_tick, .inl (cI, 2, .inl (fun _ => 0))), (q_count, .inl (cI, 12, .inl (fun _ => 0))), (q_kept, .inl (cI, 12, .inl (fun _ => 0))), (q_isKnown, .inl (cZ, 12, .inl (fun _ => 0))), (q_knownX, .inl (cI, 12, .inl (fun _ => 0))), (q_knownKey, .inl (cI, 12, .inl (fun _ => 0))), (q_store, .inl (cI, 48, .inl (fun _ => 0))), (q_key, .inl (cI, 192, .inl (fun _ => 0))), (q_keyX, .inl (cI, 192, .inl (fun _ => 0))), (q_keyAnswer, .inl (cI, 192, .inl (fun _ => 0))), (q_keyTick, .inl (cI, 192, .inl (fun _ => 0))), (q_knownWord, .inl (cI, 96, .inl (fun _ => 0))), (q_knownPlace, .inl (cI, 96, .inl (fun _ => 0))), (q_knownWorth, .inl (cI, 96, .inl (fun _ => 0)))] := hV
    refine lv_aload_n hx hb dX7_tries_201 rfl (lv_at hl 1 rfl) ?_
    refine x_get (v := .ref q_knownWorth) hB hV 0 rfl rfl 19 (by decide) k_764 h19 dX7_tries_202 ?_
    refine lv_bipush (v := 48) hx hb dX7_tries_205 (by decide) ?_
    refine lv_iload_n hx hb dX7_tries_207 rfl (lv_at hl 0 rfl) ?_
    refine lv_iadd hx hb dX7_tries_208 ?_
    refine x_ev (y := nI (48 + i)) (nI_add 48 i) ?_
    refine lv_aload_n hx hb dX7_tries_209 rfl (lv_at hl 1 rfl) ?_
    refine x_get (v := .ref q_knownWorth) hB hV 0 rfl rfl 19 (by decide) k_764 h19 dX7_tries_210 ?_
    refine lv_iload_n hx hb dX7_tries_213 rfl (lv_at hl 0 rfl) ?_
    refine x_iald (v := 0) hB hV 14 rfl (vp_in_nI (by omega) (by decide)) rfl dX7_tries_214 ?_
    refine x_iast (g := (fun _ => 0)) hB hV 14 rfl (vp_in_nI (by omega) (by decide)) upd00 dX7_tries_215 (fun H locs hV => ?_)
    have hV : Vx D A s.heap H locs [(h, .inr (7, fs)), (q_tick, .inl (cI, 2, .inl (fun _ => 0))), (q_count, .inl (cI, 12, .inl (fun _ => 0))), (q_kept, .inl (cI, 12, .inl (fun _ => 0))), (q_isKnown, .inl (cZ, 12, .inl (fun _ => 0))), (q_knownX, .inl (cI, 12, .inl (fun _ => 0))), (q_knownKey, .inl (cI, 12, .inl (fun _ => 0))), (q_store, .inl (cI, 48, .inl (fun _ => 0))), (q_key, .inl (cI, 192, .inl (fun _ => 0))), (q_keyX, .inl (cI, 192, .inl (fun _ => 0))), (q_keyAnswer, .inl (cI, 192, .inl (fun _ => 0))), (q_keyTick, .inl (cI, 192, .inl (fun _ => 0))), (q_knownWord, .inl (cI, 96, .inl (fun _ => 0))), (q_knownPlace, .inl (cI, 96, .inl (fun _ => 0))), (q_knownWorth, .inl (cI, 96, .inl (fun _ => 0)))] := hV
    refine lv_iinc (v := nI (i + 1)) (lv' := [(1, .int (nI (i + 1))), (0, .ref h)]) hx hb dX7_tries_216 hl (k := 0) rfl (nI_1 i) (by decide) rfl (fun ls hl => ?_)
    refine lv_goto (tgt := 165) hx hb dX7_tries_219 (by decide) ?_
    exact ih (i + 1) H locs ls (by omega) hV (lv_sub hl [0, 1] rfl)
set_option maxHeartbeats 4000000 in
set_option maxRecDepth 100000 in
theorem c_tries (l : Launch) (D : va_G) (cI cZ cS : ClassId) (N0 : NT) (h : Nat) (fs : List Value) (q_tick : Nat) (q_count : Nat) (q_kept : Nat) (q_isKnown : Nat) (q_knownX : Nat) (q_knownKey : Nat) (q_store : Nat) (q_key : Nat) (q_keyX : Nat) (q_keyAnswer : Nat) (q_keyTick : Nat) (q_knownWord : Nat) (q_knownPlace : Nat) (q_knownWorth : Nat) (h21 : fs[21]? = some (.int 0)) (h52 : fs[52]? = some (.int 0)) (h14 : fs[14]? = some (.ref q_tick)) (h8 : fs[8]? = some (.ref q_count)) (h9 : fs[9]? = some (.ref q_kept)) (h20 : fs[20]? = some (.ref q_isKnown)) (h15 : fs[15]? = some (.ref q_knownX)) (h16 : fs[16]? = some (.ref q_knownKey)) (h7 : fs[7]? = some (.ref q_store)) (h10 : fs[10]? = some (.ref q_key)) (h11 : fs[11]? = some (.ref q_keyX)) (h12 : fs[12]? = some (.ref q_keyAnswer)) (h13 : fs[13]? = some (.ref q_keyTick)) (h17 : fs[17]? = some (.ref q_knownWord)) (h18 : fs[18]? = some (.ref q_knownPlace)) (h19 : fs[19]? = some (.ref q_knownWorth)) : Mx l D cI cZ cS N0 yX7_tries cX7_tries 2 none 1 0 0 [.ref h] [(h, .inr (7, fs)), (q_tick, .inl (cI, 2, .inl (fun _ => 0))), (q_count, .inl (cI, 12, .inl (fun _ => 0))), (q_kept, .inl (cI, 12, .inl (fun _ => 0))), (q_isKnown, .inl (cZ, 12, .inl (fun _ => 0))), (q_knownX, .inl (cI, 12, .inl (fun _ => 0))), (q_knownKey, .inl (cI, 12, .inl (fun _ => 0))), (q_store, .inl (cI, 48, .inl (fun _ => 0))), (q_key, .inl (cI, 192, .inl (fun _ => 0))), (q_keyX, .inl (cI, 192, .inl (fun _ => 0))), (q_keyAnswer, .inl (cI, 192, .inl (fun _ => 0))), (q_keyTick, .inl (cI, 192, .inl (fun _ => 0))), (q_knownWord, .inl (cI, 96, .inl (fun _ => 0))), (q_knownPlace, .inl (cI, 96, .inl (fun _ => 0))), (q_knownWorth, .inl (cI, 96, .inl (fun _ => 0)))] (fun v w => v = none ∧ w = ([(h, .inr (7, ((fs.set 21 (.int 1)).set 52 (.int 0)))), (q_tick, .inl (cI, 2, .inl (fun _ => 0))), (q_count, .inl (cI, 12, .inl (fun _ => 0))), (q_kept, .inl (cI, 12, .inl (fun _ => 0))), (q_isKnown, .inl (cZ, 12, .inl (fun _ => 0))), (q_knownX, .inl (cI, 12, .inl (fun _ => 0))), (q_knownKey, .inl (cI, 12, .inl (fun _ => 0))), (q_store, .inl (cI, 48, .inl (fun _ => 0))), (q_key, .inl (cI, 192, .inl (fun _ => 0))), (q_keyX, .inl (cI, 192, .inl (fun _ => 0))), (q_keyAnswer, .inl (cI, 192, .inl (fun _ => 0))), (q_keyTick, .inl (cI, 192, .inl (fun _ => 0))), (q_knownWord, .inl (cI, 96, .inl (fun _ => 0))), (q_knownPlace, .inl (cI, 96, .inl (fun _ => 0))), (q_knownWorth, .inl (cI, 96, .inl (fun _ => 0)))] : va_W)) := by
  refine x_enter (by decide) (Nat.le_of_ble_eq_true rfl) ?_
  intro p e s m args below meth c A ls H locs hB hr hin hl hV hA
  have hx := hB.1
  have hb := hB.2.1
  have hl : lv_has ls 2 [(0, .ref h)] := hl
  refine lv_aload_n hx hb dX7_tries_0 rfl (lv_at hl 0 rfl) ?_
  refine lv_iconst (v := 1) hx hb dX7_tries_1 (by decide) ?_
  refine x_put (v := .int 1) hB hV 0 rfl rfl 21 (by decide) k_766 rfl rfl rfl (fs_lt h21) dX7_tries_2 (fun H locs hV => ?_)
  have hV : Vx D A s.heap H locs [(h, .inr (7, (fs.set 21 (.int 1)))), (q_tick, .inl (cI, 2, .inl (fun _ => 0))), (q_count, .inl (cI, 12, .inl (fun _ => 0))), (q_kept, .inl (cI, 12, .inl (fun _ => 0))), (q_isKnown, .inl (cZ, 12, .inl (fun _ => 0))), (q_knownX, .inl (cI, 12, .inl (fun _ => 0))), (q_knownKey, .inl (cI, 12, .inl (fun _ => 0))), (q_store, .inl (cI, 48, .inl (fun _ => 0))), (q_key, .inl (cI, 192, .inl (fun _ => 0))), (q_keyX, .inl (cI, 192, .inl (fun _ => 0))), (q_keyAnswer, .inl (cI, 192, .inl (fun _ => 0))), (q_keyTick, .inl (cI, 192, .inl (fun _ => 0))), (q_knownWord, .inl (cI, 96, .inl (fun _ => 0))), (q_knownPlace, .inl (cI, 96, .inl (fun _ => 0))), (q_knownWorth, .inl (cI, 96, .inl (fun _ => 0)))] := hV
  refine lv_aload_n hx hb dX7_tries_5 rfl (lv_at hl 0 rfl) ?_
  refine lv_iconst (v := 0) hx hb dX7_tries_6 (by decide) ?_
  refine x_put (v := .int 0) hB hV 0 rfl rfl 52 (by decide) k_797 rfl rfl rfl (fs_ls (fs_lt h52)) dX7_tries_7 (fun H locs hV => ?_)
  have hV : Vx D A s.heap H locs [(h, .inr (7, ((fs.set 21 (.int 1)).set 52 (.int 0)))), (q_tick, .inl (cI, 2, .inl (fun _ => 0))), (q_count, .inl (cI, 12, .inl (fun _ => 0))), (q_kept, .inl (cI, 12, .inl (fun _ => 0))), (q_isKnown, .inl (cZ, 12, .inl (fun _ => 0))), (q_knownX, .inl (cI, 12, .inl (fun _ => 0))), (q_knownKey, .inl (cI, 12, .inl (fun _ => 0))), (q_store, .inl (cI, 48, .inl (fun _ => 0))), (q_key, .inl (cI, 192, .inl (fun _ => 0))), (q_keyX, .inl (cI, 192, .inl (fun _ => 0))), (q_keyAnswer, .inl (cI, 192, .inl (fun _ => 0))), (q_keyTick, .inl (cI, 192, .inl (fun _ => 0))), (q_knownWord, .inl (cI, 96, .inl (fun _ => 0))), (q_knownPlace, .inl (cI, 96, .inl (fun _ => 0))), (q_knownWorth, .inl (cI, 96, .inl (fun _ => 0)))] := hV
  refine lv_aload_n hx hb dX7_tries_10 rfl (lv_at hl 0 rfl) ?_
  refine x_get (v := .ref q_tick) hB hV 0 rfl rfl 14 (by decide) k_759 (fs_ne (fs_ne h14 (by decide)) (by decide)) dX7_tries_11 ?_
  refine lv_iconst (v := 1) hx hb dX7_tries_14 (by decide) ?_
  refine lv_aload_n hx hb dX7_tries_15 rfl (lv_at hl 0 rfl) ?_
  refine x_get (v := .ref q_tick) hB hV 0 rfl rfl 14 (by decide) k_759 (fs_ne (fs_ne h14 (by decide)) (by decide)) dX7_tries_16 ?_
  refine lv_iconst (v := 0) hx hb dX7_tries_19 (by decide) ?_
  refine x_iald (v := 0) hB hV 1 rfl (by unfold vp_in; decide) rfl dX7_tries_20 ?_
  refine x_iast (g := (fun _ => 0)) hB hV 1 rfl (by unfold vp_in; decide) upd00 dX7_tries_21 (fun H locs hV => ?_)
  have hV : Vx D A s.heap H locs [(h, .inr (7, ((fs.set 21 (.int 1)).set 52 (.int 0)))), (q_tick, .inl (cI, 2, .inl (fun _ => 0))), (q_count, .inl (cI, 12, .inl (fun _ => 0))), (q_kept, .inl (cI, 12, .inl (fun _ => 0))), (q_isKnown, .inl (cZ, 12, .inl (fun _ => 0))), (q_knownX, .inl (cI, 12, .inl (fun _ => 0))), (q_knownKey, .inl (cI, 12, .inl (fun _ => 0))), (q_store, .inl (cI, 48, .inl (fun _ => 0))), (q_key, .inl (cI, 192, .inl (fun _ => 0))), (q_keyX, .inl (cI, 192, .inl (fun _ => 0))), (q_keyAnswer, .inl (cI, 192, .inl (fun _ => 0))), (q_keyTick, .inl (cI, 192, .inl (fun _ => 0))), (q_knownWord, .inl (cI, 96, .inl (fun _ => 0))), (q_knownPlace, .inl (cI, 96, .inl (fun _ => 0))), (q_knownWorth, .inl (cI, 96, .inl (fun _ => 0)))] := hV
  refine lv_iconst (v := 0) hx hb dX7_tries_22 (by decide) ?_
  refine lv_istore_n (lv' := [(1, .int 0), (0, .ref h)]) hx hb dX7_tries_23 rfl hl (by decide) rfl (fun ls hl => ?_)
  refine lp_t1 hB h ((fs.set 21 (.int 1)).set 52 (.int 0)) q_tick q_count q_kept q_isKnown q_knownX q_knownKey q_store q_key q_keyX q_keyAnswer q_keyTick q_knownWord q_knownPlace q_knownWorth (fs_ne (fs_ne h14 (by decide)) (by decide)) (fs_ne (fs_ne h8 (by decide)) (by decide)) (fs_ne (fs_ne h9 (by decide)) (by decide)) (fs_ne (fs_ne h20 (by decide)) (by decide)) (fs_ne (fs_ne h15 (by decide)) (by decide)) (fs_ne (fs_ne h16 (by decide)) (by decide)) (fs_ne (fs_ne h7 (by decide)) (by decide)) (fs_ne (fs_ne h10 (by decide)) (by decide)) (fs_ne (fs_ne h11 (by decide)) (by decide)) (fs_ne (fs_ne h12 (by decide)) (by decide)) (fs_ne (fs_ne h13 (by decide)) (by decide)) (fs_ne (fs_ne h17 (by decide)) (by decide)) (fs_ne (fs_ne h18 (by decide)) (by decide)) (fs_ne (fs_ne h19 (by decide)) (by decide)) (fun H locs ls hV hl => ?_) 6 0 H locs ls (by omega) hV (lv_sub hl [0, 1] rfl)
  refine lv_iconst (v := 0) hx hb dX7_tries_111 (by decide) ?_
  refine lv_istore_n (lv' := [(1, .int 0), (0, .ref h)]) hx hb dX7_tries_112 rfl hl (by decide) rfl (fun ls hl => ?_)
  refine lp_t2 hB h ((fs.set 21 (.int 1)).set 52 (.int 0)) q_tick q_count q_kept q_isKnown q_knownX q_knownKey q_store q_key q_keyX q_keyAnswer q_keyTick q_knownWord q_knownPlace q_knownWorth (fs_ne (fs_ne h14 (by decide)) (by decide)) (fs_ne (fs_ne h8 (by decide)) (by decide)) (fs_ne (fs_ne h9 (by decide)) (by decide)) (fs_ne (fs_ne h20 (by decide)) (by decide)) (fs_ne (fs_ne h15 (by decide)) (by decide)) (fs_ne (fs_ne h16 (by decide)) (by decide)) (fs_ne (fs_ne h7 (by decide)) (by decide)) (fs_ne (fs_ne h10 (by decide)) (by decide)) (fs_ne (fs_ne h11 (by decide)) (by decide)) (fs_ne (fs_ne h12 (by decide)) (by decide)) (fs_ne (fs_ne h13 (by decide)) (by decide)) (fs_ne (fs_ne h17 (by decide)) (by decide)) (fs_ne (fs_ne h18 (by decide)) (by decide)) (fs_ne (fs_ne h19 (by decide)) (by decide)) (fun H locs ls hV hl => ?_) 24 0 H locs ls (by omega) hV (lv_sub hl [0, 1] rfl)
  refine lv_iconst (v := 0) hx hb dX7_tries_140 (by decide) ?_
  refine lv_istore_n (lv' := [(1, .int 0), (0, .ref h)]) hx hb dX7_tries_141 rfl hl (by decide) rfl (fun ls hl => ?_)
  refine lp_t3 hB h ((fs.set 21 (.int 1)).set 52 (.int 0)) q_tick q_count q_kept q_isKnown q_knownX q_knownKey q_store q_key q_keyX q_keyAnswer q_keyTick q_knownWord q_knownPlace q_knownWorth (fs_ne (fs_ne h14 (by decide)) (by decide)) (fs_ne (fs_ne h8 (by decide)) (by decide)) (fs_ne (fs_ne h9 (by decide)) (by decide)) (fs_ne (fs_ne h20 (by decide)) (by decide)) (fs_ne (fs_ne h15 (by decide)) (by decide)) (fs_ne (fs_ne h16 (by decide)) (by decide)) (fs_ne (fs_ne h7 (by decide)) (by decide)) (fs_ne (fs_ne h10 (by decide)) (by decide)) (fs_ne (fs_ne h11 (by decide)) (by decide)) (fs_ne (fs_ne h12 (by decide)) (by decide)) (fs_ne (fs_ne h13 (by decide)) (by decide)) (fs_ne (fs_ne h17 (by decide)) (by decide)) (fs_ne (fs_ne h18 (by decide)) (by decide)) (fs_ne (fs_ne h19 (by decide)) (by decide)) (fun H locs ls hV hl => ?_) 96 0 H locs ls (by omega) hV (lv_sub hl [0, 1] rfl)
  refine lv_iconst (v := 0) hx hb dX7_tries_163 (by decide) ?_
  refine lv_istore_n (lv' := [(1, .int 0), (0, .ref h)]) hx hb dX7_tries_164 rfl hl (by decide) rfl (fun ls hl => ?_)
  refine lp_t4 hB h ((fs.set 21 (.int 1)).set 52 (.int 0)) q_tick q_count q_kept q_isKnown q_knownX q_knownKey q_store q_key q_keyX q_keyAnswer q_keyTick q_knownWord q_knownPlace q_knownWorth (fs_ne (fs_ne h14 (by decide)) (by decide)) (fs_ne (fs_ne h8 (by decide)) (by decide)) (fs_ne (fs_ne h9 (by decide)) (by decide)) (fs_ne (fs_ne h20 (by decide)) (by decide)) (fs_ne (fs_ne h15 (by decide)) (by decide)) (fs_ne (fs_ne h16 (by decide)) (by decide)) (fs_ne (fs_ne h7 (by decide)) (by decide)) (fs_ne (fs_ne h10 (by decide)) (by decide)) (fs_ne (fs_ne h11 (by decide)) (by decide)) (fs_ne (fs_ne h12 (by decide)) (by decide)) (fs_ne (fs_ne h13 (by decide)) (by decide)) (fs_ne (fs_ne h17 (by decide)) (by decide)) (fs_ne (fs_ne h18 (by decide)) (by decide)) (fs_ne (fs_ne h19 (by decide)) (by decide)) (fun H locs ls hV hl => ?_) 48 0 H locs ls (by omega) hV (lv_sub hl [0, 1] rfl)
  exact x_vret (w := [(h, .inr (7, ((fs.set 21 (.int 1)).set 52 (.int 0)))), (q_tick, .inl (cI, 2, .inl (fun _ => 0))), (q_count, .inl (cI, 12, .inl (fun _ => 0))), (q_kept, .inl (cI, 12, .inl (fun _ => 0))), (q_isKnown, .inl (cZ, 12, .inl (fun _ => 0))), (q_knownX, .inl (cI, 12, .inl (fun _ => 0))), (q_knownKey, .inl (cI, 12, .inl (fun _ => 0))), (q_store, .inl (cI, 48, .inl (fun _ => 0))), (q_key, .inl (cI, 192, .inl (fun _ => 0))), (q_keyX, .inl (cI, 192, .inl (fun _ => 0))), (q_keyAnswer, .inl (cI, 192, .inl (fun _ => 0))), (q_keyTick, .inl (cI, 192, .inl (fun _ => 0))), (q_knownWord, .inl (cI, 96, .inl (fun _ => 0))), (q_knownPlace, .inl (cI, 96, .inl (fun _ => 0))), (q_knownWorth, .inl (cI, 96, .inl (fun _ => 0)))]) hB hr hV hA (Nat.le_of_ble_eq_true rfl) (Nat.le_of_ble_eq_true rfl) [0, 1, 2, 3, 4, 5, 6, 7, 8, 9, 10, 11, 12, 13, 14] rfl rfl (by decide) dX7_tries_222 ⟨rfl, rfl⟩
set_option maxHeartbeats 4000000 in
set_option maxRecDepth 100000 in
theorem lp_o1 {p : Program} {l : Launch} {e : Env} {R : Room} {s : State} {m : MethodId} {args : Array Value} {below : List Frame} {meth : Method} {c : Code} {D : va_G} {cI cZ cS : ClassId} {A : Nat → Prop} {N0 : NT} {cells slots : Nat} {Q : State → Prop} (hB : Bx p s m meth c args cX7_once 2 RX7 D cI cZ cS A N0) (h : Nat) (fs : List Value) (q_tick : Nat) (q_count : Nat) (q_kept : Nat) (q_isKnown : Nat) (q_knownX : Nat) (q_knownKey : Nat) (q_store : Nat) (q_key : Nat) (q_keyX : Nat) (q_keyAnswer : Nat) (q_keyTick : Nat) (q_knownWord : Nat) (q_knownPlace : Nat) (q_knownWorth : Nat) (q_onceStore : Nat) (h14 : fs[14]? = some (.ref q_tick)) (h8 : fs[8]? = some (.ref q_count)) (h9 : fs[9]? = some (.ref q_kept)) (h20 : fs[20]? = some (.ref q_isKnown)) (h15 : fs[15]? = some (.ref q_knownX)) (h16 : fs[16]? = some (.ref q_knownKey)) (h7 : fs[7]? = some (.ref q_store)) (h10 : fs[10]? = some (.ref q_key)) (h11 : fs[11]? = some (.ref q_keyX)) (h12 : fs[12]? = some (.ref q_keyAnswer)) (h13 : fs[13]? = some (.ref q_keyTick)) (h17 : fs[17]? = some (.ref q_knownWord)) (h18 : fs[18]? = some (.ref q_knownPlace)) (h19 : fs[19]? = some (.ref q_knownWorth)) (h57 : fs[57]? = some (.ref q_onceStore)) (K : ∀ (H : Heap) (locs : List Loc) (ls : Array Slot), Vx D A s.heap H locs [(h, .inr (7, fs)), (q_tick, .inl (cI, 2, .inl (fun _ => 0))), (q_count, .inl (cI, 12, .inl (fun _ => 0))), (q_kept, .inl (cI, 12, .inl (fun _ => 0))), (q_isKnown, .inl (cZ, 12, .inl (fun _ => 0))), (q_knownX, .inl (cI, 12, .inl (fun _ => 0))), (q_knownKey, .inl (cI, 12, .inl (fun _ => 0))), (q_store, .inl (cI, 48, .inl (fun _ => 0))), (q_key, .inl (cI, 192, .inl (fun _ => 0))), (q_keyX, .inl (cI, 192, .inl (fun _ => 0))), (q_keyAnswer, .inl (cI, 192, .inl (fun _ => 0))), (q_keyTick, .inl (cI, 192, .inl (fun _ => 0))), (q_knownWord, .inl (cI, 96, .inl (fun _ => 0))), (q_knownPlace, .inl (cI, 96, .inl (fun _ => 0))), (q_knownWorth, .inl (cI, 96, .inl (fun _ => 0))), (q_onceStore, .inl (cI, 30, .inl (fun _ => 0)))] → lv_has ls 2 [(1, .int 24), (0, .ref h)] → W p l e R s m args below meth c H locs cells slots Q (F0 m 61 ls [])) :
    ∀ (k : Nat) (i : Nat) (H : Heap) (locs : List Loc) (ls : Array Slot), i + k = 24 → Vx D A s.heap H locs [(h, .inr (7, fs)), (q_tick, .inl (cI, 2, .inl (fun _ => 0))), (q_count, .inl (cI, 12, .inl (fun _ => 0))), (q_kept, .inl (cI, 12, .inl (fun _ => 0))), (q_isKnown, .inl (cZ, 12, .inl (fun _ => 0))), (q_knownX, .inl (cI, 12, .inl (fun _ => 0))), (q_knownKey, .inl (cI, 12, .inl (fun _ => 0))), (q_store, .inl (cI, 48, .inl (fun _ => 0))), (q_key, .inl (cI, 192, .inl (fun _ => 0))), (q_keyX, .inl (cI, 192, .inl (fun _ => 0))), (q_keyAnswer, .inl (cI, 192, .inl (fun _ => 0))), (q_keyTick, .inl (cI, 192, .inl (fun _ => 0))), (q_knownWord, .inl (cI, 96, .inl (fun _ => 0))), (q_knownPlace, .inl (cI, 96, .inl (fun _ => 0))), (q_knownWorth, .inl (cI, 96, .inl (fun _ => 0))), (q_onceStore, .inl (cI, 30, .inl (fun _ => 0)))] → lv_has ls 2 [(1, .int (nI i)), (0, .ref h)] → W p l e R s m args below meth c H locs cells slots Q (F0 m 34 ls []) := by
  have hx := hB.1
  have hb := hB.2.1
  intro k
  induction k with
  | zero =>
    intro i H locs ls hk hV hl
    obtain rfl : i = 24 := by omega
    have hV : Vx D A s.heap H locs [(h, .inr (7, fs)), (q_tick, .inl (cI, 2, .inl (fun _ => 0))), (q_count, .inl (cI, 12, .inl (fun _ => 0))), (q_kept, .inl (cI, 12, .inl (fun _ => 0))), (q_isKnown, .inl (cZ, 12, .inl (fun _ => 0))), (q_knownX, .inl (cI, 12, .inl (fun _ => 0))), (q_knownKey, .inl (cI, 12, .inl (fun _ => 0))), (q_store, .inl (cI, 48, .inl (fun _ => 0))), (q_key, .inl (cI, 192, .inl (fun _ => 0))), (q_keyX, .inl (cI, 192, .inl (fun _ => 0))), (q_keyAnswer, .inl (cI, 192, .inl (fun _ => 0))), (q_keyTick, .inl (cI, 192, .inl (fun _ => 0))), (q_knownWord, .inl (cI, 96, .inl (fun _ => 0))), (q_knownPlace, .inl (cI, 96, .inl (fun _ => 0))), (q_knownWorth, .inl (cI, 96, .inl (fun _ => 0))), (q_onceStore, .inl (cI, 30, .inl (fun _ => 0)))] := hV
    have hl : lv_has ls 2 [(1, .int 24), (0, .ref h)] := hl
    refine lv_iload_n hx hb dX7_once_34 rfl (lv_at hl 0 rfl) ?_
    refine lv_bipush (v := 24) hx hb dX7_once_35 (by decide) ?_
    refine lv_icmp_ge (tgt := 61) hx hb dX7_once_37 (by decide) (fun c_ => ?_) (fun c_ => absurd (by decide) c_)
    exact K  H locs ls hV (lv_sub hl [0, 1] rfl)
  | succ k ih =>
    intro i H locs ls hk hV hl
    have hV : Vx D A s.heap H locs [(h, .inr (7, fs)), (q_tick, .inl (cI, 2, .inl (fun _ => 0))), (q_count, .inl (cI, 12, .inl (fun _ => 0))), (q_kept, .inl (cI, 12, .inl (fun _ => 0))), (q_isKnown, .inl (cZ, 12, .inl (fun _ => 0))), (q_knownX, .inl (cI, 12, .inl (fun _ => 0))), (q_knownKey, .inl (cI, 12, .inl (fun _ => 0))), (q_store, .inl (cI, 48, .inl (fun _ => 0))), (q_key, .inl (cI, 192, .inl (fun _ => 0))), (q_keyX, .inl (cI, 192, .inl (fun _ => 0))), (q_keyAnswer, .inl (cI, 192, .inl (fun _ => 0))), (q_keyTick, .inl (cI, 192, .inl (fun _ => 0))), (q_knownWord, .inl (cI, 96, .inl (fun _ => 0))), (q_knownPlace, .inl (cI, 96, .inl (fun _ => 0))), (q_knownWorth, .inl (cI, 96, .inl (fun _ => 0))), (q_onceStore, .inl (cI, 30, .inl (fun _ => 0)))] := hV
    have hl : lv_has ls 2 [(1, .int (nI i)), (0, .ref h)] := hl
    refine lv_iload_n hx hb dX7_once_34 rfl (lv_at hl 0 rfl) ?_
    refine lv_bipush (v := 24) hx hb dX7_once_35 (by decide) ?_
    refine lv_icmp_ge (tgt := 61) hx hb dX7_once_37 (by decide) (fun c_ => absurd c_ (nI_ge (a := i) (b := 24) (by omega) (by decide))) (fun c_ => ?_)
    refine lv_aload_n hx hb dX7_once_40 rfl (lv_at hl 1 rfl) ?_
    refine x_get (v := .ref q_onceStore) hB hV 0 rfl rfl 57 (by decide) k_802 h57 dX7_once_41 ?_
    refine lv_iload_n hx hb dX7_once_44 rfl (lv_at hl 0 rfl) ?_
    refine lv_aload_n hx hb dX7_once_45 rfl (lv_at hl 1 rfl) ?_
    refine x_get (v := .ref q_store) hB hV 0 rfl rfl 7 (by decide) k_752 h7 dX7_once_46 ?_
    refine lv_bipush (v := 24) hx hb dX7_once_49 (by decide) ?_
    refine lv_iload_n hx hb dX7_once_51 rfl (lv_at hl 0 rfl) ?_
    refine lv_iadd hx hb dX7_once_52 ?_
    refine x_ev (y := nI (24 + i)) (nI_add 24 i) ?_
    refine x_iald (v := 0) hB hV 7 rfl (vp_in_nI (by omega) (by decide)) rfl dX7_once_53 ?_
    refine x_iast (g := (fun _ => 0)) hB hV 15 rfl (vp_in_nI (by omega) (by decide)) upd00 dX7_once_54 (fun H locs hV => ?_)
    have hV : Vx D A s.heap H locs [(h, .inr (7, fs)), (q_tick, .inl (cI, 2, .inl (fun _ => 0))), (q_count, .inl (cI, 12, .inl (fun _ => 0))), (q_kept, .inl (cI, 12, .inl (fun _ => 0))), (q_isKnown, .inl (cZ, 12, .inl (fun _ => 0))), (q_knownX, .inl (cI, 12, .inl (fun _ => 0))), (q_knownKey, .inl (cI, 12, .inl (fun _ => 0))), (q_store, .inl (cI, 48, .inl (fun _ => 0))), (q_key, .inl (cI, 192, .inl (fun _ => 0))), (q_keyX, .inl (cI, 192, .inl (fun _ => 0))), (q_keyAnswer, .inl (cI, 192, .inl (fun _ => 0))), (q_keyTick, .inl (cI, 192, .inl (fun _ => 0))), (q_knownWord, .inl (cI, 96, .inl (fun _ => 0))), (q_knownPlace, .inl (cI, 96, .inl (fun _ => 0))), (q_knownWorth, .inl (cI, 96, .inl (fun _ => 0))), (q_onceStore, .inl (cI, 30, .inl (fun _ => 0)))] := hV
    refine lv_iinc (v := nI (i + 1)) (lv' := [(1, .int (nI (i + 1))), (0, .ref h)]) hx hb dX7_once_55 hl (k := 0) rfl (nI_1 i) (by decide) rfl (fun ls hl => ?_)
    refine lv_goto (tgt := 34) hx hb dX7_once_58 (by decide) ?_
    exact ih (i + 1) H locs ls (by omega) hV (lv_sub hl [0, 1] rfl)
set_option maxHeartbeats 4000000 in
set_option maxRecDepth 100000 in
theorem c_once (l : Launch) (D : va_G) (cI cZ cS : ClassId) (N0 : NT) (h : Nat) (fs : List Value) (q_tick : Nat) (q_count : Nat) (q_kept : Nat) (q_isKnown : Nat) (q_knownX : Nat) (q_knownKey : Nat) (q_store : Nat) (q_key : Nat) (q_keyX : Nat) (q_keyAnswer : Nat) (q_keyTick : Nat) (q_knownWord : Nat) (q_knownPlace : Nat) (q_knownWorth : Nat) (q_onceStore : Nat) (h21 : fs[21]? = some (.int 0)) (h52 : fs[52]? = some (.int 0)) (h30 : fs[30]? = some (.int 0)) (h60 : fs[60]? = some (.int 0)) (h14 : fs[14]? = some (.ref q_tick)) (h8 : fs[8]? = some (.ref q_count)) (h9 : fs[9]? = some (.ref q_kept)) (h20 : fs[20]? = some (.ref q_isKnown)) (h15 : fs[15]? = some (.ref q_knownX)) (h16 : fs[16]? = some (.ref q_knownKey)) (h7 : fs[7]? = some (.ref q_store)) (h10 : fs[10]? = some (.ref q_key)) (h11 : fs[11]? = some (.ref q_keyX)) (h12 : fs[12]? = some (.ref q_keyAnswer)) (h13 : fs[13]? = some (.ref q_keyTick)) (h17 : fs[17]? = some (.ref q_knownWord)) (h18 : fs[18]? = some (.ref q_knownPlace)) (h19 : fs[19]? = some (.ref q_knownWorth)) (h57 : fs[57]? = some (.ref q_onceStore)) : Mx l D cI cZ cS N0 yX7_once cX7_once 2 none 2 0 0 [.ref h] [(h, .inr (7, fs)), (q_tick, .inl (cI, 2, .inl (fun _ => 0))), (q_count, .inl (cI, 12, .inl (fun _ => 0))), (q_kept, .inl (cI, 12, .inl (fun _ => 0))), (q_isKnown, .inl (cZ, 12, .inl (fun _ => 0))), (q_knownX, .inl (cI, 12, .inl (fun _ => 0))), (q_knownKey, .inl (cI, 12, .inl (fun _ => 0))), (q_store, .inl (cI, 48, .inl (fun _ => 0))), (q_key, .inl (cI, 192, .inl (fun _ => 0))), (q_keyX, .inl (cI, 192, .inl (fun _ => 0))), (q_keyAnswer, .inl (cI, 192, .inl (fun _ => 0))), (q_keyTick, .inl (cI, 192, .inl (fun _ => 0))), (q_knownWord, .inl (cI, 96, .inl (fun _ => 0))), (q_knownPlace, .inl (cI, 96, .inl (fun _ => 0))), (q_knownWorth, .inl (cI, 96, .inl (fun _ => 0))), (q_onceStore, .inl (cI, 30, .inl (fun _ => 0)))] (fun v w => v = none ∧ w = ([(h, .inr (7, ((((fs.set 21 (.int 1)).set 52 (.int 0)).set 60 (.int 0)).set 21 (.int 0)))), (q_tick, .inl (cI, 2, .inl (fun _ => 0))), (q_count, .inl (cI, 12, .inl (fun _ => 0))), (q_kept, .inl (cI, 12, .inl (fun _ => 0))), (q_isKnown, .inl (cZ, 12, .inl (fun _ => 0))), (q_knownX, .inl (cI, 12, .inl (fun _ => 0))), (q_knownKey, .inl (cI, 12, .inl (fun _ => 0))), (q_store, .inl (cI, 48, .inl (fun _ => 0))), (q_key, .inl (cI, 192, .inl (fun _ => 0))), (q_keyX, .inl (cI, 192, .inl (fun _ => 0))), (q_keyAnswer, .inl (cI, 192, .inl (fun _ => 0))), (q_keyTick, .inl (cI, 192, .inl (fun _ => 0))), (q_knownWord, .inl (cI, 96, .inl (fun _ => 0))), (q_knownPlace, .inl (cI, 96, .inl (fun _ => 0))), (q_knownWorth, .inl (cI, 96, .inl (fun _ => 0))), (q_onceStore, .inl (cI, 30, .inl (fun _ => 0)))] : va_W)) := by
  refine x_enter (by decide) (Nat.le_of_ble_eq_true rfl) ?_
  intro p e s m args below meth c A ls H locs hB hr hin hl hV hA
  have hx := hB.1
  have hb := hB.2.1
  have hl : lv_has ls 2 [(0, .ref h)] := hl
  refine lv_aload_n hx hb dX7_once_0 rfl (lv_at hl 0 rfl) ?_
  refine x_callV (n := 0) (wr := [(q_onceStore, .inl (cI, 30, .inl (fun _ => 0)))]) (q0 := 0) (As := []) (rest := []) hB hV (x_N hB) hl.1 (c_tries l D cI cZ cS N0 h fs q_tick q_count q_kept q_isKnown q_knownX q_knownKey q_store q_key q_keyX q_keyAnswer q_keyTick q_knownWord q_knownPlace q_knownWorth h21 h52 h14 h8 h9 h20 h15 h16 h7 h10 h11 h12 h13 h17 h18 h19) rfl rfl k_1107 k_65 k_1104 k_1106 k_45 (by decide +kernel) ⟨(Nat.le_of_ble_eq_true rfl), (Nat.le_of_ble_eq_true rfl)⟩ rfl (Nat.le_of_ble_eq_true rfl) ⟨(Nat.le_of_ble_eq_true rfl), (Nat.le_of_ble_eq_true rfl)⟩ [0, 1, 2, 3, 4, 5, 6, 7, 8, 9, 10, 11, 12, 13, 14] [15] rfl rfl rfl ⟨by decide, by decide, by decide⟩ dX7_once_1 (fun v w H locs hp hV => ?_)
  obtain ⟨rfl, rfl⟩ := hp
  have hV : Vx D A s.heap H locs [(q_onceStore, .inl (cI, 30, .inl (fun _ => 0))), (h, .inr (7, ((fs.set 21 (.int 1)).set 52 (.int 0)))), (q_tick, .inl (cI, 2, .inl (fun _ => 0))), (q_count, .inl (cI, 12, .inl (fun _ => 0))), (q_kept, .inl (cI, 12, .inl (fun _ => 0))), (q_isKnown, .inl (cZ, 12, .inl (fun _ => 0))), (q_knownX, .inl (cI, 12, .inl (fun _ => 0))), (q_knownKey, .inl (cI, 12, .inl (fun _ => 0))), (q_store, .inl (cI, 48, .inl (fun _ => 0))), (q_key, .inl (cI, 192, .inl (fun _ => 0))), (q_keyX, .inl (cI, 192, .inl (fun _ => 0))), (q_keyAnswer, .inl (cI, 192, .inl (fun _ => 0))), (q_keyTick, .inl (cI, 192, .inl (fun _ => 0))), (q_knownWord, .inl (cI, 96, .inl (fun _ => 0))), (q_knownPlace, .inl (cI, 96, .inl (fun _ => 0))), (q_knownWorth, .inl (cI, 96, .inl (fun _ => 0)))] := hV
  refine W.eq (g2 := F0 m 4 ls []) rfl ?_
  refine lv_iconst (v := 0) hx hb dX7_once_4 (by decide) ?_
  refine lv_istore_n (lv' := [(1, .int 0), (0, .ref h)]) hx hb dX7_once_5 rfl hl (by decide) rfl (fun ls hl => ?_)
  refine lv_iload_n hx hb dX7_once_6 rfl (lv_at hl 0 rfl) ?_
  refine lv_aload_n hx hb dX7_once_7 rfl (lv_at hl 1 rfl) ?_
  refine x_get (v := .int 0) hB hV 1 rfl rfl 30 (by decide) k_775 (fs_ne (fs_ne h30 (by decide)) (by decide)) dX7_once_8 ?_
  refine lv_icmp_ge (tgt := 32) hx hb dX7_once_11 (by decide) (fun c_ => ?_) (fun c_ => absurd (by decide) c_)
  refine lv_iconst (v := 0) hx hb dX7_once_32 (by decide) ?_
  refine lv_istore_n (lv' := [(1, .int 0), (0, .ref h)]) hx hb dX7_once_33 rfl hl (by decide) rfl (fun ls hl => ?_)
  have hV := Vx_sub (w := [(h, .inr (7, ((fs.set 21 (.int 1)).set 52 (.int 0)))), (q_tick, .inl (cI, 2, .inl (fun _ => 0))), (q_count, .inl (cI, 12, .inl (fun _ => 0))), (q_kept, .inl (cI, 12, .inl (fun _ => 0))), (q_isKnown, .inl (cZ, 12, .inl (fun _ => 0))), (q_knownX, .inl (cI, 12, .inl (fun _ => 0))), (q_knownKey, .inl (cI, 12, .inl (fun _ => 0))), (q_store, .inl (cI, 48, .inl (fun _ => 0))), (q_key, .inl (cI, 192, .inl (fun _ => 0))), (q_keyX, .inl (cI, 192, .inl (fun _ => 0))), (q_keyAnswer, .inl (cI, 192, .inl (fun _ => 0))), (q_keyTick, .inl (cI, 192, .inl (fun _ => 0))), (q_knownWord, .inl (cI, 96, .inl (fun _ => 0))), (q_knownPlace, .inl (cI, 96, .inl (fun _ => 0))), (q_knownWorth, .inl (cI, 96, .inl (fun _ => 0))), (q_onceStore, .inl (cI, 30, .inl (fun _ => 0)))]) hV [1, 2, 3, 4, 5, 6, 7, 8, 9, 10, 11, 12, 13, 14, 15, 0] rfl rfl (by decide)
  refine lp_o1 hB h ((fs.set 21 (.int 1)).set 52 (.int 0)) q_tick q_count q_kept q_isKnown q_knownX q_knownKey q_store q_key q_keyX q_keyAnswer q_keyTick q_knownWord q_knownPlace q_knownWorth q_onceStore (fs_ne (fs_ne h14 (by decide)) (by decide)) (fs_ne (fs_ne h8 (by decide)) (by decide)) (fs_ne (fs_ne h9 (by decide)) (by decide)) (fs_ne (fs_ne h20 (by decide)) (by decide)) (fs_ne (fs_ne h15 (by decide)) (by decide)) (fs_ne (fs_ne h16 (by decide)) (by decide)) (fs_ne (fs_ne h7 (by decide)) (by decide)) (fs_ne (fs_ne h10 (by decide)) (by decide)) (fs_ne (fs_ne h11 (by decide)) (by decide)) (fs_ne (fs_ne h12 (by decide)) (by decide)) (fs_ne (fs_ne h13 (by decide)) (by decide)) (fs_ne (fs_ne h17 (by decide)) (by decide)) (fs_ne (fs_ne h18 (by decide)) (by decide)) (fs_ne (fs_ne h19 (by decide)) (by decide)) (fs_ne (fs_ne h57 (by decide)) (by decide)) (fun H locs ls hV hl => ?_) 24 0 H locs ls (by omega) hV (lv_sub hl [0, 1] rfl)
  refine lv_iconst (v := 0) hx hb dX7_once_61 (by decide) ?_
  refine lv_istore_n (lv' := [(1, .int 0), (0, .ref h)]) hx hb dX7_once_62 rfl hl (by decide) rfl (fun ls hl => ?_)
  refine lv_iload_n hx hb dX7_once_63 rfl (lv_at hl 0 rfl) ?_
  refine lv_bipush (v := 6) hx hb dX7_once_64 (by decide) ?_
  refine lv_icmp_ge (tgt := 93) hx hb dX7_once_66 (by decide) (fun c_ => absurd c_ (by decide)) (fun c_ => ?_)
  refine lv_aload_n hx hb dX7_once_69 rfl (lv_at hl 1 rfl) ?_
  refine x_get (v := .ref q_onceStore) hB hV 0 rfl rfl 57 (by decide) k_802 (fs_ne (fs_ne h57 (by decide)) (by decide)) dX7_once_70 ?_
  refine lv_bipush (v := 24) hx hb dX7_once_73 (by decide) ?_
  refine lv_iload_n hx hb dX7_once_75 rfl (lv_at hl 0 rfl) ?_
  refine lv_iadd hx hb dX7_once_76 ?_
  refine x_ev (y := 24) (by decide) ?_
  refine lv_aload_n hx hb dX7_once_77 rfl (lv_at hl 1 rfl) ?_
  refine x_get (v := .ref q_count) hB hV 0 rfl rfl 8 (by decide) k_753 (fs_ne (fs_ne h8 (by decide)) (by decide)) dX7_once_78 ?_
  refine lv_bipush (v := 6) hx hb dX7_once_81 (by decide) ?_
  refine lv_iload_n hx hb dX7_once_83 rfl (lv_at hl 0 rfl) ?_
  refine lv_iadd hx hb dX7_once_84 ?_
  refine x_ev (y := 6) (by decide) ?_
  refine x_iald (v := 0) hB hV 2 rfl (by unfold vp_in; decide) rfl dX7_once_85 ?_
  refine x_iast (g := (fun _ => 0)) hB hV 15 rfl (by unfold vp_in; decide) upd00 dX7_once_86 (fun H locs hV => ?_)
  have hV : Vx D A s.heap H locs [(h, .inr (7, ((fs.set 21 (.int 1)).set 52 (.int 0)))), (q_tick, .inl (cI, 2, .inl (fun _ => 0))), (q_count, .inl (cI, 12, .inl (fun _ => 0))), (q_kept, .inl (cI, 12, .inl (fun _ => 0))), (q_isKnown, .inl (cZ, 12, .inl (fun _ => 0))), (q_knownX, .inl (cI, 12, .inl (fun _ => 0))), (q_knownKey, .inl (cI, 12, .inl (fun _ => 0))), (q_store, .inl (cI, 48, .inl (fun _ => 0))), (q_key, .inl (cI, 192, .inl (fun _ => 0))), (q_keyX, .inl (cI, 192, .inl (fun _ => 0))), (q_keyAnswer, .inl (cI, 192, .inl (fun _ => 0))), (q_keyTick, .inl (cI, 192, .inl (fun _ => 0))), (q_knownWord, .inl (cI, 96, .inl (fun _ => 0))), (q_knownPlace, .inl (cI, 96, .inl (fun _ => 0))), (q_knownWorth, .inl (cI, 96, .inl (fun _ => 0))), (q_onceStore, .inl (cI, 30, .inl (fun _ => 0)))] := hV
  refine lv_iinc (v := 1) (lv' := [(1, .int 1), (0, .ref h)]) hx hb dX7_once_87 hl (k := 0) rfl (by decide) (by decide) rfl (fun ls hl => ?_)
  refine lv_goto (tgt := 63) hx hb dX7_once_90 (by decide) ?_
  refine lv_iload_n hx hb dX7_once_63 rfl (lv_at hl 0 rfl) ?_
  refine lv_bipush (v := 6) hx hb dX7_once_64 (by decide) ?_
  refine lv_icmp_ge (tgt := 93) hx hb dX7_once_66 (by decide) (fun c_ => absurd c_ (by decide)) (fun c_ => ?_)
  refine lv_aload_n hx hb dX7_once_69 rfl (lv_at hl 1 rfl) ?_
  refine x_get (v := .ref q_onceStore) hB hV 0 rfl rfl 57 (by decide) k_802 (fs_ne (fs_ne h57 (by decide)) (by decide)) dX7_once_70 ?_
  refine lv_bipush (v := 24) hx hb dX7_once_73 (by decide) ?_
  refine lv_iload_n hx hb dX7_once_75 rfl (lv_at hl 0 rfl) ?_
  refine lv_iadd hx hb dX7_once_76 ?_
  refine x_ev (y := 25) (by decide) ?_
  refine lv_aload_n hx hb dX7_once_77 rfl (lv_at hl 1 rfl) ?_
  refine x_get (v := .ref q_count) hB hV 0 rfl rfl 8 (by decide) k_753 (fs_ne (fs_ne h8 (by decide)) (by decide)) dX7_once_78 ?_
  refine lv_bipush (v := 6) hx hb dX7_once_81 (by decide) ?_
  refine lv_iload_n hx hb dX7_once_83 rfl (lv_at hl 0 rfl) ?_
  refine lv_iadd hx hb dX7_once_84 ?_
  refine x_ev (y := 7) (by decide) ?_
  refine x_iald (v := 0) hB hV 2 rfl (by unfold vp_in; decide) rfl dX7_once_85 ?_
  refine x_iast (g := (fun _ => 0)) hB hV 15 rfl (by unfold vp_in; decide) upd00 dX7_once_86 (fun H locs hV => ?_)
  have hV : Vx D A s.heap H locs [(h, .inr (7, ((fs.set 21 (.int 1)).set 52 (.int 0)))), (q_tick, .inl (cI, 2, .inl (fun _ => 0))), (q_count, .inl (cI, 12, .inl (fun _ => 0))), (q_kept, .inl (cI, 12, .inl (fun _ => 0))), (q_isKnown, .inl (cZ, 12, .inl (fun _ => 0))), (q_knownX, .inl (cI, 12, .inl (fun _ => 0))), (q_knownKey, .inl (cI, 12, .inl (fun _ => 0))), (q_store, .inl (cI, 48, .inl (fun _ => 0))), (q_key, .inl (cI, 192, .inl (fun _ => 0))), (q_keyX, .inl (cI, 192, .inl (fun _ => 0))), (q_keyAnswer, .inl (cI, 192, .inl (fun _ => 0))), (q_keyTick, .inl (cI, 192, .inl (fun _ => 0))), (q_knownWord, .inl (cI, 96, .inl (fun _ => 0))), (q_knownPlace, .inl (cI, 96, .inl (fun _ => 0))), (q_knownWorth, .inl (cI, 96, .inl (fun _ => 0))), (q_onceStore, .inl (cI, 30, .inl (fun _ => 0)))] := hV
  refine lv_iinc (v := 2) (lv' := [(1, .int 2), (0, .ref h)]) hx hb dX7_once_87 hl (k := 0) rfl (by decide) (by decide) rfl (fun ls hl => ?_)
  refine lv_goto (tgt := 63) hx hb dX7_once_90 (by decide) ?_
  refine lv_iload_n hx hb dX7_once_63 rfl (lv_at hl 0 rfl) ?_
  refine lv_bipush (v := 6) hx hb dX7_once_64 (by decide) ?_
  refine lv_icmp_ge (tgt := 93) hx hb dX7_once_66 (by decide) (fun c_ => absurd c_ (by decide)) (fun c_ => ?_)
  refine lv_aload_n hx hb dX7_once_69 rfl (lv_at hl 1 rfl) ?_
  refine x_get (v := .ref q_onceStore) hB hV 0 rfl rfl 57 (by decide) k_802 (fs_ne (fs_ne h57 (by decide)) (by decide)) dX7_once_70 ?_
  refine lv_bipush (v := 24) hx hb dX7_once_73 (by decide) ?_
  refine lv_iload_n hx hb dX7_once_75 rfl (lv_at hl 0 rfl) ?_
  refine lv_iadd hx hb dX7_once_76 ?_
  refine x_ev (y := 26) (by decide) ?_
  refine lv_aload_n hx hb dX7_once_77 rfl (lv_at hl 1 rfl) ?_
  refine x_get (v := .ref q_count) hB hV 0 rfl rfl 8 (by decide) k_753 (fs_ne (fs_ne h8 (by decide)) (by decide)) dX7_once_78 ?_
  refine lv_bipush (v := 6) hx hb dX7_once_81 (by decide) ?_
  refine lv_iload_n hx hb dX7_once_83 rfl (lv_at hl 0 rfl) ?_
  refine lv_iadd hx hb dX7_once_84 ?_
  refine x_ev (y := 8) (by decide) ?_
  refine x_iald (v := 0) hB hV 2 rfl (by unfold vp_in; decide) rfl dX7_once_85 ?_
  refine x_iast (g := (fun _ => 0)) hB hV 15 rfl (by unfold vp_in; decide) upd00 dX7_once_86 (fun H locs hV => ?_)
  have hV : Vx D A s.heap H locs [(h, .inr (7, ((fs.set 21 (.int 1)).set 52 (.int 0)))), (q_tick, .inl (cI, 2, .inl (fun _ => 0))), (q_count, .inl (cI, 12, .inl (fun _ => 0))), (q_kept, .inl (cI, 12, .inl (fun _ => 0))), (q_isKnown, .inl (cZ, 12, .inl (fun _ => 0))), (q_knownX, .inl (cI, 12, .inl (fun _ => 0))), (q_knownKey, .inl (cI, 12, .inl (fun _ => 0))), (q_store, .inl (cI, 48, .inl (fun _ => 0))), (q_key, .inl (cI, 192, .inl (fun _ => 0))), (q_keyX, .inl (cI, 192, .inl (fun _ => 0))), (q_keyAnswer, .inl (cI, 192, .inl (fun _ => 0))), (q_keyTick, .inl (cI, 192, .inl (fun _ => 0))), (q_knownWord, .inl (cI, 96, .inl (fun _ => 0))), (q_knownPlace, .inl (cI, 96, .inl (fun _ => 0))), (q_knownWorth, .inl (cI, 96, .inl (fun _ => 0))), (q_onceStore, .inl (cI, 30, .inl (fun _ => 0)))] := hV
  refine lv_iinc (v := 3) (lv' := [(1, .int 3), (0, .ref h)]) hx hb dX7_once_87 hl (k := 0) rfl (by decide) (by decide) rfl (fun ls hl => ?_)
  refine lv_goto (tgt := 63) hx hb dX7_once_90 (by decide) ?_
  refine lv_iload_n hx hb dX7_once_63 rfl (lv_at hl 0 rfl) ?_
  refine lv_bipush (v := 6) hx hb dX7_once_64 (by decide) ?_
  refine lv_icmp_ge (tgt := 93) hx hb dX7_once_66 (by decide) (fun c_ => absurd c_ (by decide)) (fun c_ => ?_)
  refine lv_aload_n hx hb dX7_once_69 rfl (lv_at hl 1 rfl) ?_
  refine x_get (v := .ref q_onceStore) hB hV 0 rfl rfl 57 (by decide) k_802 (fs_ne (fs_ne h57 (by decide)) (by decide)) dX7_once_70 ?_
  refine lv_bipush (v := 24) hx hb dX7_once_73 (by decide) ?_
  refine lv_iload_n hx hb dX7_once_75 rfl (lv_at hl 0 rfl) ?_
  refine lv_iadd hx hb dX7_once_76 ?_
  refine x_ev (y := 27) (by decide) ?_
  refine lv_aload_n hx hb dX7_once_77 rfl (lv_at hl 1 rfl) ?_
  refine x_get (v := .ref q_count) hB hV 0 rfl rfl 8 (by decide) k_753 (fs_ne (fs_ne h8 (by decide)) (by decide)) dX7_once_78 ?_
  refine lv_bipush (v := 6) hx hb dX7_once_81 (by decide) ?_
  refine lv_iload_n hx hb dX7_once_83 rfl (lv_at hl 0 rfl) ?_
  refine lv_iadd hx hb dX7_once_84 ?_
  refine x_ev (y := 9) (by decide) ?_
  refine x_iald (v := 0) hB hV 2 rfl (by unfold vp_in; decide) rfl dX7_once_85 ?_
  refine x_iast (g := (fun _ => 0)) hB hV 15 rfl (by unfold vp_in; decide) upd00 dX7_once_86 (fun H locs hV => ?_)
  have hV : Vx D A s.heap H locs [(h, .inr (7, ((fs.set 21 (.int 1)).set 52 (.int 0)))), (q_tick, .inl (cI, 2, .inl (fun _ => 0))), (q_count, .inl (cI, 12, .inl (fun _ => 0))), (q_kept, .inl (cI, 12, .inl (fun _ => 0))), (q_isKnown, .inl (cZ, 12, .inl (fun _ => 0))), (q_knownX, .inl (cI, 12, .inl (fun _ => 0))), (q_knownKey, .inl (cI, 12, .inl (fun _ => 0))), (q_store, .inl (cI, 48, .inl (fun _ => 0))), (q_key, .inl (cI, 192, .inl (fun _ => 0))), (q_keyX, .inl (cI, 192, .inl (fun _ => 0))), (q_keyAnswer, .inl (cI, 192, .inl (fun _ => 0))), (q_keyTick, .inl (cI, 192, .inl (fun _ => 0))), (q_knownWord, .inl (cI, 96, .inl (fun _ => 0))), (q_knownPlace, .inl (cI, 96, .inl (fun _ => 0))), (q_knownWorth, .inl (cI, 96, .inl (fun _ => 0))), (q_onceStore, .inl (cI, 30, .inl (fun _ => 0)))] := hV
  refine lv_iinc (v := 4) (lv' := [(1, .int 4), (0, .ref h)]) hx hb dX7_once_87 hl (k := 0) rfl (by decide) (by decide) rfl (fun ls hl => ?_)
  refine lv_goto (tgt := 63) hx hb dX7_once_90 (by decide) ?_
  refine lv_iload_n hx hb dX7_once_63 rfl (lv_at hl 0 rfl) ?_
  refine lv_bipush (v := 6) hx hb dX7_once_64 (by decide) ?_
  refine lv_icmp_ge (tgt := 93) hx hb dX7_once_66 (by decide) (fun c_ => absurd c_ (by decide)) (fun c_ => ?_)
  refine lv_aload_n hx hb dX7_once_69 rfl (lv_at hl 1 rfl) ?_
  refine x_get (v := .ref q_onceStore) hB hV 0 rfl rfl 57 (by decide) k_802 (fs_ne (fs_ne h57 (by decide)) (by decide)) dX7_once_70 ?_
  refine lv_bipush (v := 24) hx hb dX7_once_73 (by decide) ?_
  refine lv_iload_n hx hb dX7_once_75 rfl (lv_at hl 0 rfl) ?_
  refine lv_iadd hx hb dX7_once_76 ?_
  refine x_ev (y := 28) (by decide) ?_
  refine lv_aload_n hx hb dX7_once_77 rfl (lv_at hl 1 rfl) ?_
  refine x_get (v := .ref q_count) hB hV 0 rfl rfl 8 (by decide) k_753 (fs_ne (fs_ne h8 (by decide)) (by decide)) dX7_once_78 ?_
  refine lv_bipush (v := 6) hx hb dX7_once_81 (by decide) ?_
  refine lv_iload_n hx hb dX7_once_83 rfl (lv_at hl 0 rfl) ?_
  refine lv_iadd hx hb dX7_once_84 ?_
  refine x_ev (y := 10) (by decide) ?_
  refine x_iald (v := 0) hB hV 2 rfl (by unfold vp_in; decide) rfl dX7_once_85 ?_
  refine x_iast (g := (fun _ => 0)) hB hV 15 rfl (by unfold vp_in; decide) upd00 dX7_once_86 (fun H locs hV => ?_)
  have hV : Vx D A s.heap H locs [(h, .inr (7, ((fs.set 21 (.int 1)).set 52 (.int 0)))), (q_tick, .inl (cI, 2, .inl (fun _ => 0))), (q_count, .inl (cI, 12, .inl (fun _ => 0))), (q_kept, .inl (cI, 12, .inl (fun _ => 0))), (q_isKnown, .inl (cZ, 12, .inl (fun _ => 0))), (q_knownX, .inl (cI, 12, .inl (fun _ => 0))), (q_knownKey, .inl (cI, 12, .inl (fun _ => 0))), (q_store, .inl (cI, 48, .inl (fun _ => 0))), (q_key, .inl (cI, 192, .inl (fun _ => 0))), (q_keyX, .inl (cI, 192, .inl (fun _ => 0))), (q_keyAnswer, .inl (cI, 192, .inl (fun _ => 0))), (q_keyTick, .inl (cI, 192, .inl (fun _ => 0))), (q_knownWord, .inl (cI, 96, .inl (fun _ => 0))), (q_knownPlace, .inl (cI, 96, .inl (fun _ => 0))), (q_knownWorth, .inl (cI, 96, .inl (fun _ => 0))), (q_onceStore, .inl (cI, 30, .inl (fun _ => 0)))] := hV
  refine lv_iinc (v := 5) (lv' := [(1, .int 5), (0, .ref h)]) hx hb dX7_once_87 hl (k := 0) rfl (by decide) (by decide) rfl (fun ls hl => ?_)
  refine lv_goto (tgt := 63) hx hb dX7_once_90 (by decide) ?_
  refine lv_iload_n hx hb dX7_once_63 rfl (lv_at hl 0 rfl) ?_
  refine lv_bipush (v := 6) hx hb dX7_once_64 (by decide) ?_
  refine lv_icmp_ge (tgt := 93) hx hb dX7_once_66 (by decide) (fun c_ => absurd c_ (by decide)) (fun c_ => ?_)
  refine lv_aload_n hx hb dX7_once_69 rfl (lv_at hl 1 rfl) ?_
  refine x_get (v := .ref q_onceStore) hB hV 0 rfl rfl 57 (by decide) k_802 (fs_ne (fs_ne h57 (by decide)) (by decide)) dX7_once_70 ?_
  refine lv_bipush (v := 24) hx hb dX7_once_73 (by decide) ?_
  refine lv_iload_n hx hb dX7_once_75 rfl (lv_at hl 0 rfl) ?_
  refine lv_iadd hx hb dX7_once_76 ?_
  refine x_ev (y := 29) (by decide) ?_
  refine lv_aload_n hx hb dX7_once_77 rfl (lv_at hl 1 rfl) ?_
  refine x_get (v := .ref q_count) hB hV 0 rfl rfl 8 (by decide) k_753 (fs_ne (fs_ne h8 (by decide)) (by decide)) dX7_once_78 ?_
  refine lv_bipush (v := 6) hx hb dX7_once_81 (by decide) ?_
  refine lv_iload_n hx hb dX7_once_83 rfl (lv_at hl 0 rfl) ?_
  refine lv_iadd hx hb dX7_once_84 ?_
  refine x_ev (y := 11) (by decide) ?_
  refine x_iald (v := 0) hB hV 2 rfl (by unfold vp_in; decide) rfl dX7_once_85 ?_
  refine x_iast (g := (fun _ => 0)) hB hV 15 rfl (by unfold vp_in; decide) upd00 dX7_once_86 (fun H locs hV => ?_)
  have hV : Vx D A s.heap H locs [(h, .inr (7, ((fs.set 21 (.int 1)).set 52 (.int 0)))), (q_tick, .inl (cI, 2, .inl (fun _ => 0))), (q_count, .inl (cI, 12, .inl (fun _ => 0))), (q_kept, .inl (cI, 12, .inl (fun _ => 0))), (q_isKnown, .inl (cZ, 12, .inl (fun _ => 0))), (q_knownX, .inl (cI, 12, .inl (fun _ => 0))), (q_knownKey, .inl (cI, 12, .inl (fun _ => 0))), (q_store, .inl (cI, 48, .inl (fun _ => 0))), (q_key, .inl (cI, 192, .inl (fun _ => 0))), (q_keyX, .inl (cI, 192, .inl (fun _ => 0))), (q_keyAnswer, .inl (cI, 192, .inl (fun _ => 0))), (q_keyTick, .inl (cI, 192, .inl (fun _ => 0))), (q_knownWord, .inl (cI, 96, .inl (fun _ => 0))), (q_knownPlace, .inl (cI, 96, .inl (fun _ => 0))), (q_knownWorth, .inl (cI, 96, .inl (fun _ => 0))), (q_onceStore, .inl (cI, 30, .inl (fun _ => 0)))] := hV
  refine lv_iinc (v := 6) (lv' := [(1, .int 6), (0, .ref h)]) hx hb dX7_once_87 hl (k := 0) rfl (by decide) (by decide) rfl (fun ls hl => ?_)
  refine lv_goto (tgt := 63) hx hb dX7_once_90 (by decide) ?_
  refine lv_iload_n hx hb dX7_once_63 rfl (lv_at hl 0 rfl) ?_
  refine lv_bipush (v := 6) hx hb dX7_once_64 (by decide) ?_
  refine lv_icmp_ge (tgt := 93) hx hb dX7_once_66 (by decide) (fun c_ => ?_) (fun c_ => absurd (by decide) c_)
  refine lv_aload_n hx hb dX7_once_93 rfl (lv_at hl 1 rfl) ?_
  refine lv_aload_n hx hb dX7_once_94 rfl (lv_at hl 1 rfl) ?_
  refine x_get (v := .int 0) hB hV 0 rfl rfl 52 (by decide) k_797 (fs_eq ((fs_ls (fs_lt h52)))) dX7_once_95 ?_
  refine x_put (v := .int 0) hB hV 0 rfl rfl 60 (by decide) k_805 rfl rfl rfl (fs_ls (fs_ls (fs_lt h60))) dX7_once_98 (fun H locs hV => ?_)
  have hV : Vx D A s.heap H locs [(h, .inr (7, (((fs.set 21 (.int 1)).set 52 (.int 0)).set 60 (.int 0)))), (q_tick, .inl (cI, 2, .inl (fun _ => 0))), (q_count, .inl (cI, 12, .inl (fun _ => 0))), (q_kept, .inl (cI, 12, .inl (fun _ => 0))), (q_isKnown, .inl (cZ, 12, .inl (fun _ => 0))), (q_knownX, .inl (cI, 12, .inl (fun _ => 0))), (q_knownKey, .inl (cI, 12, .inl (fun _ => 0))), (q_store, .inl (cI, 48, .inl (fun _ => 0))), (q_key, .inl (cI, 192, .inl (fun _ => 0))), (q_keyX, .inl (cI, 192, .inl (fun _ => 0))), (q_keyAnswer, .inl (cI, 192, .inl (fun _ => 0))), (q_keyTick, .inl (cI, 192, .inl (fun _ => 0))), (q_knownWord, .inl (cI, 96, .inl (fun _ => 0))), (q_knownPlace, .inl (cI, 96, .inl (fun _ => 0))), (q_knownWorth, .inl (cI, 96, .inl (fun _ => 0))), (q_onceStore, .inl (cI, 30, .inl (fun _ => 0)))] := hV
  refine lv_iconst (v := 0) hx hb dX7_once_101 (by decide) ?_
  refine lv_istore_n (lv' := [(1, .int 0), (0, .ref h)]) hx hb dX7_once_102 rfl hl (by decide) rfl (fun ls hl => ?_)
  refine lv_iload_n hx hb dX7_once_103 rfl (lv_at hl 0 rfl) ?_
  refine lv_aload_n hx hb dX7_once_104 rfl (lv_at hl 1 rfl) ?_
  refine x_get (v := .int 0) hB hV 0 rfl rfl 52 (by decide) k_797 (fs_ne (fs_eq ((fs_ls (fs_lt h52)))) (by decide)) dX7_once_105 ?_
  refine lv_icmp_ge (tgt := 129) hx hb dX7_once_108 (by decide) (fun c_ => ?_) (fun c_ => absurd (by decide) c_)
  refine lv_aload_n hx hb dX7_once_129 rfl (lv_at hl 1 rfl) ?_
  refine lv_iconst (v := 0) hx hb dX7_once_130 (by decide) ?_
  refine x_put (v := .int 0) hB hV 0 rfl rfl 21 (by decide) k_766 rfl rfl rfl (fs_ls (fs_ls (fs_ls (fs_lt h21)))) dX7_once_131 (fun H locs hV => ?_)
  have hV : Vx D A s.heap H locs [(h, .inr (7, ((((fs.set 21 (.int 1)).set 52 (.int 0)).set 60 (.int 0)).set 21 (.int 0)))), (q_tick, .inl (cI, 2, .inl (fun _ => 0))), (q_count, .inl (cI, 12, .inl (fun _ => 0))), (q_kept, .inl (cI, 12, .inl (fun _ => 0))), (q_isKnown, .inl (cZ, 12, .inl (fun _ => 0))), (q_knownX, .inl (cI, 12, .inl (fun _ => 0))), (q_knownKey, .inl (cI, 12, .inl (fun _ => 0))), (q_store, .inl (cI, 48, .inl (fun _ => 0))), (q_key, .inl (cI, 192, .inl (fun _ => 0))), (q_keyX, .inl (cI, 192, .inl (fun _ => 0))), (q_keyAnswer, .inl (cI, 192, .inl (fun _ => 0))), (q_keyTick, .inl (cI, 192, .inl (fun _ => 0))), (q_knownWord, .inl (cI, 96, .inl (fun _ => 0))), (q_knownPlace, .inl (cI, 96, .inl (fun _ => 0))), (q_knownWorth, .inl (cI, 96, .inl (fun _ => 0))), (q_onceStore, .inl (cI, 30, .inl (fun _ => 0)))] := hV
  exact x_vret (w := [(h, .inr (7, ((((fs.set 21 (.int 1)).set 52 (.int 0)).set 60 (.int 0)).set 21 (.int 0)))), (q_tick, .inl (cI, 2, .inl (fun _ => 0))), (q_count, .inl (cI, 12, .inl (fun _ => 0))), (q_kept, .inl (cI, 12, .inl (fun _ => 0))), (q_isKnown, .inl (cZ, 12, .inl (fun _ => 0))), (q_knownX, .inl (cI, 12, .inl (fun _ => 0))), (q_knownKey, .inl (cI, 12, .inl (fun _ => 0))), (q_store, .inl (cI, 48, .inl (fun _ => 0))), (q_key, .inl (cI, 192, .inl (fun _ => 0))), (q_keyX, .inl (cI, 192, .inl (fun _ => 0))), (q_keyAnswer, .inl (cI, 192, .inl (fun _ => 0))), (q_keyTick, .inl (cI, 192, .inl (fun _ => 0))), (q_knownWord, .inl (cI, 96, .inl (fun _ => 0))), (q_knownPlace, .inl (cI, 96, .inl (fun _ => 0))), (q_knownWorth, .inl (cI, 96, .inl (fun _ => 0))), (q_onceStore, .inl (cI, 30, .inl (fun _ => 0)))]) hB hr hV hA (Nat.le_of_ble_eq_true rfl) (Nat.le_of_ble_eq_true rfl) [0, 1, 2, 3, 4, 5, 6, 7, 8, 9, 10, 11, 12, 13, 14, 15] rfl rfl (by decide) dX7_once_134 ⟨rfl, rfl⟩
set_option maxHeartbeats 4000000 in
set_option maxRecDepth 100000 in
theorem c_worstOf (l : Launch) (D : va_G) (cI cZ cS : ClassId) (N0 : NT) (h : Nat) (fs : List Value) (q_tick : Nat) (q_count : Nat) (q_kept : Nat) (q_isKnown : Nat) (q_knownX : Nat) (q_knownKey : Nat) (q_store : Nat) (q_key : Nat) (q_keyX : Nat) (q_keyAnswer : Nat) (q_keyTick : Nat) (q_knownWord : Nat) (q_knownPlace : Nat) (q_knownWorth : Nat) (q_onceStore : Nat) (h21 : fs[21]? = some (.int 0)) (h52 : fs[52]? = some (.int 0)) (h30 : fs[30]? = some (.int 0)) (h60 : fs[60]? = some (.int 0)) (h14 : fs[14]? = some (.ref q_tick)) (h8 : fs[8]? = some (.ref q_count)) (h9 : fs[9]? = some (.ref q_kept)) (h20 : fs[20]? = some (.ref q_isKnown)) (h15 : fs[15]? = some (.ref q_knownX)) (h16 : fs[16]? = some (.ref q_knownKey)) (h7 : fs[7]? = some (.ref q_store)) (h10 : fs[10]? = some (.ref q_key)) (h11 : fs[11]? = some (.ref q_keyX)) (h12 : fs[12]? = some (.ref q_keyAnswer)) (h13 : fs[13]? = some (.ref q_keyTick)) (h17 : fs[17]? = some (.ref q_knownWord)) (h18 : fs[18]? = some (.ref q_knownPlace)) (h19 : fs[19]? = some (.ref q_knownWorth)) (h57 : fs[57]? = some (.ref q_onceStore)) : Mx l D cI cZ cS N0 yX7_worstOf cX7_worstOf 4 (some .int) 3 0 0 [.ref h] [(h, .inr (7, fs)), (q_tick, .inl (cI, 2, .inl (fun _ => 0))), (q_count, .inl (cI, 12, .inl (fun _ => 0))), (q_kept, .inl (cI, 12, .inl (fun _ => 0))), (q_isKnown, .inl (cZ, 12, .inl (fun _ => 0))), (q_knownX, .inl (cI, 12, .inl (fun _ => 0))), (q_knownKey, .inl (cI, 12, .inl (fun _ => 0))), (q_store, .inl (cI, 48, .inl (fun _ => 0))), (q_key, .inl (cI, 192, .inl (fun _ => 0))), (q_keyX, .inl (cI, 192, .inl (fun _ => 0))), (q_keyAnswer, .inl (cI, 192, .inl (fun _ => 0))), (q_keyTick, .inl (cI, 192, .inl (fun _ => 0))), (q_knownWord, .inl (cI, 96, .inl (fun _ => 0))), (q_knownPlace, .inl (cI, 96, .inl (fun _ => 0))), (q_knownWorth, .inl (cI, 96, .inl (fun _ => 0))), (q_onceStore, .inl (cI, 30, .inl (fun _ => 0)))] (fun v w => v = some (.int (-1)) ∧ w = ([(h, .inr (7, ((((fs.set 21 (.int 1)).set 52 (.int 0)).set 60 (.int 0)).set 21 (.int 0)))), (q_tick, .inl (cI, 2, .inl (fun _ => 0))), (q_count, .inl (cI, 12, .inl (fun _ => 0))), (q_kept, .inl (cI, 12, .inl (fun _ => 0))), (q_isKnown, .inl (cZ, 12, .inl (fun _ => 0))), (q_knownX, .inl (cI, 12, .inl (fun _ => 0))), (q_knownKey, .inl (cI, 12, .inl (fun _ => 0))), (q_store, .inl (cI, 48, .inl (fun _ => 0))), (q_key, .inl (cI, 192, .inl (fun _ => 0))), (q_keyX, .inl (cI, 192, .inl (fun _ => 0))), (q_keyAnswer, .inl (cI, 192, .inl (fun _ => 0))), (q_keyTick, .inl (cI, 192, .inl (fun _ => 0))), (q_knownWord, .inl (cI, 96, .inl (fun _ => 0))), (q_knownPlace, .inl (cI, 96, .inl (fun _ => 0))), (q_knownWorth, .inl (cI, 96, .inl (fun _ => 0))), (q_onceStore, .inl (cI, 30, .inl (fun _ => 0)))] : va_W)) := by
  refine x_enter (by decide) (Nat.le_of_ble_eq_true rfl) ?_
  intro p e s m args below meth c A ls H locs hB hr hin hl hV hA
  have hx := hB.1
  have hb := hB.2.1
  have hl : lv_has ls 4 [(0, .ref h)] := hl
  refine lv_aload_n hx hb dX7_worstOf_0 rfl (lv_at hl 0 rfl) ?_
  refine x_callV (n := 0) (wr := []) (q0 := 0) (As := []) (rest := []) hB hV (x_N hB) hl.1 (c_once l D cI cZ cS N0 h fs q_tick q_count q_kept q_isKnown q_knownX q_knownKey q_store q_key q_keyX q_keyAnswer q_keyTick q_knownWord q_knownPlace q_knownWorth q_onceStore h21 h52 h30 h60 h14 h8 h9 h20 h15 h16 h7 h10 h11 h12 h13 h17 h18 h19 h57) rfl rfl k_1103 k_65 k_1100 k_1102 k_44 (by decide +kernel) ⟨(Nat.le_of_ble_eq_true rfl), (Nat.le_of_ble_eq_true rfl)⟩ rfl (Nat.le_of_ble_eq_true rfl) ⟨(Nat.le_of_ble_eq_true rfl), (Nat.le_of_ble_eq_true rfl)⟩ [0, 1, 2, 3, 4, 5, 6, 7, 8, 9, 10, 11, 12, 13, 14, 15] [] rfl rfl rfl ⟨by decide, by decide, by decide⟩ dX7_worstOf_1 (fun v w H locs hp hV => ?_)
  obtain ⟨rfl, rfl⟩ := hp
  have hV : Vx D A s.heap H locs [(h, .inr (7, ((((fs.set 21 (.int 1)).set 52 (.int 0)).set 60 (.int 0)).set 21 (.int 0)))), (q_tick, .inl (cI, 2, .inl (fun _ => 0))), (q_count, .inl (cI, 12, .inl (fun _ => 0))), (q_kept, .inl (cI, 12, .inl (fun _ => 0))), (q_isKnown, .inl (cZ, 12, .inl (fun _ => 0))), (q_knownX, .inl (cI, 12, .inl (fun _ => 0))), (q_knownKey, .inl (cI, 12, .inl (fun _ => 0))), (q_store, .inl (cI, 48, .inl (fun _ => 0))), (q_key, .inl (cI, 192, .inl (fun _ => 0))), (q_keyX, .inl (cI, 192, .inl (fun _ => 0))), (q_keyAnswer, .inl (cI, 192, .inl (fun _ => 0))), (q_keyTick, .inl (cI, 192, .inl (fun _ => 0))), (q_knownWord, .inl (cI, 96, .inl (fun _ => 0))), (q_knownPlace, .inl (cI, 96, .inl (fun _ => 0))), (q_knownWorth, .inl (cI, 96, .inl (fun _ => 0))), (q_onceStore, .inl (cI, 30, .inl (fun _ => 0)))] := hV
  refine W.eq (g2 := F0 m 4 ls []) rfl ?_
  refine lv_iconst (v := 0) hx hb dX7_worstOf_4 (by decide) ?_
  refine lv_istore_n (lv' := [(1, .int 0), (0, .ref h)]) hx hb dX7_worstOf_5 rfl hl (by decide) rfl (fun ls hl => ?_)
  refine lv_iload_n hx hb dX7_worstOf_6 rfl (lv_at hl 0 rfl) ?_
  refine lv_aload_n hx hb dX7_worstOf_7 rfl (lv_at hl 1 rfl) ?_
  refine x_get (v := .int 0) hB hV 0 rfl rfl 30 (by decide) k_775 (fs_ne (fs_ne (fs_ne (fs_ne h30 (by decide)) (by decide)) (by decide)) (by decide)) dX7_worstOf_8 ?_
  refine lv_icmp_ge (tgt := 74) hx hb dX7_worstOf_11 (by decide) (fun c_ => ?_) (fun c_ => absurd (by decide) c_)
  refine lv_iconst (v := (-1)) hx hb dX7_worstOf_74 (by decide) ?_
  exact x_iret (w := [(h, .inr (7, ((((fs.set 21 (.int 1)).set 52 (.int 0)).set 60 (.int 0)).set 21 (.int 0)))), (q_tick, .inl (cI, 2, .inl (fun _ => 0))), (q_count, .inl (cI, 12, .inl (fun _ => 0))), (q_kept, .inl (cI, 12, .inl (fun _ => 0))), (q_isKnown, .inl (cZ, 12, .inl (fun _ => 0))), (q_knownX, .inl (cI, 12, .inl (fun _ => 0))), (q_knownKey, .inl (cI, 12, .inl (fun _ => 0))), (q_store, .inl (cI, 48, .inl (fun _ => 0))), (q_key, .inl (cI, 192, .inl (fun _ => 0))), (q_keyX, .inl (cI, 192, .inl (fun _ => 0))), (q_keyAnswer, .inl (cI, 192, .inl (fun _ => 0))), (q_keyTick, .inl (cI, 192, .inl (fun _ => 0))), (q_knownWord, .inl (cI, 96, .inl (fun _ => 0))), (q_knownPlace, .inl (cI, 96, .inl (fun _ => 0))), (q_knownWorth, .inl (cI, 96, .inl (fun _ => 0))), (q_onceStore, .inl (cI, 30, .inl (fun _ => 0)))]) hB hr hV hA (Nat.le_of_ble_eq_true rfl) (Nat.le_of_ble_eq_true rfl) [0, 1, 2, 3, 4, 5, 6, 7, 8, 9, 10, 11, 12, 13, 14, 15] rfl rfl (by decide) dX7_worstOf_75 ⟨rfl, rfl⟩
set_option maxHeartbeats 4000000 in
set_option maxRecDepth 100000 in
theorem m_worst (l : Launch) (D : va_G) (cI cZ cS : ClassId) (N0 : NT) (h : Nat) (fs : List Value) (q_tick : Nat) (q_count : Nat) (q_kept : Nat) (q_isKnown : Nat) (q_knownX : Nat) (q_knownKey : Nat) (q_store : Nat) (q_key : Nat) (q_keyX : Nat) (q_keyAnswer : Nat) (q_keyTick : Nat) (q_knownWord : Nat) (q_knownPlace : Nat) (q_knownWorth : Nat) (q_onceStore : Nat) (h21 : fs[21]? = some (.int 0)) (h52 : fs[52]? = some (.int 0)) (h30 : fs[30]? = some (.int 0)) (h60 : fs[60]? = some (.int 0)) (h14 : fs[14]? = some (.ref q_tick)) (h8 : fs[8]? = some (.ref q_count)) (h9 : fs[9]? = some (.ref q_kept)) (h20 : fs[20]? = some (.ref q_isKnown)) (h15 : fs[15]? = some (.ref q_knownX)) (h16 : fs[16]? = some (.ref q_knownKey)) (h7 : fs[7]? = some (.ref q_store)) (h10 : fs[10]? = some (.ref q_key)) (h11 : fs[11]? = some (.ref q_keyX)) (h12 : fs[12]? = some (.ref q_keyAnswer)) (h13 : fs[13]? = some (.ref q_keyTick)) (h17 : fs[17]? = some (.ref q_knownWord)) (h18 : fs[18]? = some (.ref q_knownPlace)) (h19 : fs[19]? = some (.ref q_knownWorth)) (h57 : fs[57]? = some (.ref q_onceStore)) : Mx l D cI cZ cS N0 yX7_worst cX7_worst 1 (some .int) 4 0 0 [.ref h] [(h, .inr (7, fs)), (q_tick, .inl (cI, 2, .inl (fun _ => 0))), (q_count, .inl (cI, 12, .inl (fun _ => 0))), (q_kept, .inl (cI, 12, .inl (fun _ => 0))), (q_isKnown, .inl (cZ, 12, .inl (fun _ => 0))), (q_knownX, .inl (cI, 12, .inl (fun _ => 0))), (q_knownKey, .inl (cI, 12, .inl (fun _ => 0))), (q_store, .inl (cI, 48, .inl (fun _ => 0))), (q_key, .inl (cI, 192, .inl (fun _ => 0))), (q_keyX, .inl (cI, 192, .inl (fun _ => 0))), (q_keyAnswer, .inl (cI, 192, .inl (fun _ => 0))), (q_keyTick, .inl (cI, 192, .inl (fun _ => 0))), (q_knownWord, .inl (cI, 96, .inl (fun _ => 0))), (q_knownPlace, .inl (cI, 96, .inl (fun _ => 0))), (q_knownWorth, .inl (cI, 96, .inl (fun _ => 0))), (q_onceStore, .inl (cI, 30, .inl (fun _ => 0)))] (fun v w => v = some (.int (-1)) ∧ w = ([] : va_W)) := by
  refine x_enter (by decide) (Nat.le_of_ble_eq_true rfl) ?_
  intro p e s m args below meth c A ls H locs hB hr hin hl hV hA
  have hx := hB.1
  have hb := hB.2.1
  have hl : lv_has ls 1 [(0, .ref h)] := hl
  refine lv_aload_n hx hb dX7_worst_0 rfl (lv_at hl 0 rfl) ?_
  refine x_callV (n := 0) (wr := []) (q0 := 0) (As := []) (rest := []) hB hV (x_N hB) hl.1 (c_worstOf l D cI cZ cS N0 h fs q_tick q_count q_kept q_isKnown q_knownX q_knownKey q_store q_key q_keyX q_keyAnswer q_keyTick q_knownWord q_knownPlace q_knownWorth q_onceStore h21 h52 h30 h60 h14 h8 h9 h20 h15 h16 h7 h10 h11 h12 h13 h17 h18 h19 h57) rfl rfl k_1123 k_65 k_1120 k_1122 k_48 (by decide +kernel) ⟨(Nat.le_of_ble_eq_true rfl), (Nat.le_of_ble_eq_true rfl)⟩ rfl (Nat.le_of_ble_eq_true rfl) ⟨(Nat.le_of_ble_eq_true rfl), (Nat.le_of_ble_eq_true rfl)⟩ [0, 1, 2, 3, 4, 5, 6, 7, 8, 9, 10, 11, 12, 13, 14, 15] [] rfl rfl rfl ⟨by decide, by decide, by decide⟩ dX7_worst_1 (fun v w H locs hp hV => ?_)
  obtain ⟨rfl, rfl⟩ := hp
  have hV : Vx D A s.heap H locs [(h, .inr (7, ((((fs.set 21 (.int 1)).set 52 (.int 0)).set 60 (.int 0)).set 21 (.int 0)))), (q_tick, .inl (cI, 2, .inl (fun _ => 0))), (q_count, .inl (cI, 12, .inl (fun _ => 0))), (q_kept, .inl (cI, 12, .inl (fun _ => 0))), (q_isKnown, .inl (cZ, 12, .inl (fun _ => 0))), (q_knownX, .inl (cI, 12, .inl (fun _ => 0))), (q_knownKey, .inl (cI, 12, .inl (fun _ => 0))), (q_store, .inl (cI, 48, .inl (fun _ => 0))), (q_key, .inl (cI, 192, .inl (fun _ => 0))), (q_keyX, .inl (cI, 192, .inl (fun _ => 0))), (q_keyAnswer, .inl (cI, 192, .inl (fun _ => 0))), (q_keyTick, .inl (cI, 192, .inl (fun _ => 0))), (q_knownWord, .inl (cI, 96, .inl (fun _ => 0))), (q_knownPlace, .inl (cI, 96, .inl (fun _ => 0))), (q_knownWorth, .inl (cI, 96, .inl (fun _ => 0))), (q_onceStore, .inl (cI, 30, .inl (fun _ => 0)))] := hV
  refine W.eq (g2 := F0 m 4 ls [.int (-1)]) rfl ?_
  exact x_iret (w := []) hB hr hV hA (Nat.le_of_ble_eq_true rfl) (Nat.le_of_ble_eq_true rfl) [] rfl rfl (by decide) dX7_worst_4 ⟨rfl, rfl⟩
set_option maxHeartbeats 4000000 in
set_option maxRecDepth 100000 in
theorem m_enough (l : Launch) (D : va_G) (cI cZ cS : ClassId) (N0 : NT) (h : Nat) (fs : List Value) (q_tick : Nat) (q_count : Nat) (q_kept : Nat) (q_isKnown : Nat) (q_knownX : Nat) (q_knownKey : Nat) (q_store : Nat) (q_key : Nat) (q_keyX : Nat) (q_keyAnswer : Nat) (q_keyTick : Nat) (q_knownWord : Nat) (q_knownPlace : Nat) (q_knownWorth : Nat) (q_onceStore : Nat) (q_hold : Nat) (q_keptHold : Nat) (h21 : fs[21]? = some (.int 0)) (h52 : fs[52]? = some (.int 0)) (h30 : fs[30]? = some (.int 0)) (h60 : fs[60]? = some (.int 0)) (h14 : fs[14]? = some (.ref q_tick)) (h8 : fs[8]? = some (.ref q_count)) (h9 : fs[9]? = some (.ref q_kept)) (h20 : fs[20]? = some (.ref q_isKnown)) (h15 : fs[15]? = some (.ref q_knownX)) (h16 : fs[16]? = some (.ref q_knownKey)) (h7 : fs[7]? = some (.ref q_store)) (h10 : fs[10]? = some (.ref q_key)) (h11 : fs[11]? = some (.ref q_keyX)) (h12 : fs[12]? = some (.ref q_keyAnswer)) (h13 : fs[13]? = some (.ref q_keyTick)) (h17 : fs[17]? = some (.ref q_knownWord)) (h18 : fs[18]? = some (.ref q_knownPlace)) (h19 : fs[19]? = some (.ref q_knownWorth)) (h57 : fs[57]? = some (.ref q_onceStore)) (h6 : fs[6]? = some (.ref q_hold)) (h65 : fs[65]? = some (.ref q_keptHold)) : Mx l D cI cZ cS N0 yX7_enough cX7_enough 4 (some .int) 4 0 0 [.ref h] [(h, .inr (7, fs)), (q_tick, .inl (cI, 2, .inl (fun _ => 0))), (q_count, .inl (cI, 12, .inl (fun _ => 0))), (q_kept, .inl (cI, 12, .inl (fun _ => 0))), (q_isKnown, .inl (cZ, 12, .inl (fun _ => 0))), (q_knownX, .inl (cI, 12, .inl (fun _ => 0))), (q_knownKey, .inl (cI, 12, .inl (fun _ => 0))), (q_store, .inl (cI, 48, .inl (fun _ => 0))), (q_key, .inl (cI, 192, .inl (fun _ => 0))), (q_keyX, .inl (cI, 192, .inl (fun _ => 0))), (q_keyAnswer, .inl (cI, 192, .inl (fun _ => 0))), (q_keyTick, .inl (cI, 192, .inl (fun _ => 0))), (q_knownWord, .inl (cI, 96, .inl (fun _ => 0))), (q_knownPlace, .inl (cI, 96, .inl (fun _ => 0))), (q_knownWorth, .inl (cI, 96, .inl (fun _ => 0))), (q_onceStore, .inl (cI, 30, .inl (fun _ => 0))), (q_hold, .inl (cI, 6, .inl (fun _ => 0))), (q_keptHold, .inl (cI, 6, .inl (fun _ => 0)))] (fun v w => v = some (.int 0) ∧ w = ([] : va_W)) := by
  refine x_enter (by decide) (Nat.le_of_ble_eq_true rfl) ?_
  intro p e s m args below meth c A ls H locs hB hr hin hl hV hA
  have hx := hB.1
  have hb := hB.2.1
  have hl : lv_has ls 4 [(0, .ref h)] := hl
  refine lv_iconst (v := 0) hx hb dX7_enough_0 (by decide) ?_
  refine lv_istore_n (lv' := [(1, .int 0), (0, .ref h)]) hx hb dX7_enough_1 rfl hl (by decide) rfl (fun ls hl => ?_)
  refine lv_iload_n hx hb dX7_enough_2 rfl (lv_at hl 0 rfl) ?_
  refine lv_bipush (v := 6) hx hb dX7_enough_3 (by decide) ?_
  refine lv_icmp_ge (tgt := 26) hx hb dX7_enough_5 (by decide) (fun c_ => absurd c_ (by decide)) (fun c_ => ?_)
  refine lv_aload_n hx hb dX7_enough_8 rfl (lv_at hl 1 rfl) ?_
  refine x_get (v := .ref q_keptHold) hB hV 0 rfl rfl 65 (by decide) k_810 h65 dX7_enough_9 ?_
  refine lv_iload_n hx hb dX7_enough_12 rfl (lv_at hl 0 rfl) ?_
  refine lv_aload_n hx hb dX7_enough_13 rfl (lv_at hl 1 rfl) ?_
  refine x_get (v := .ref q_hold) hB hV 0 rfl rfl 6 (by decide) k_751 h6 dX7_enough_14 ?_
  refine lv_iload_n hx hb dX7_enough_17 rfl (lv_at hl 0 rfl) ?_
  refine x_iald (v := 0) hB hV 16 rfl (by unfold vp_in; decide) rfl dX7_enough_18 ?_
  refine x_iast (g := (fun _ => 0)) hB hV 17 rfl (by unfold vp_in; decide) upd00 dX7_enough_19 (fun H locs hV => ?_)
  have hV : Vx D A s.heap H locs [(h, .inr (7, fs)), (q_tick, .inl (cI, 2, .inl (fun _ => 0))), (q_count, .inl (cI, 12, .inl (fun _ => 0))), (q_kept, .inl (cI, 12, .inl (fun _ => 0))), (q_isKnown, .inl (cZ, 12, .inl (fun _ => 0))), (q_knownX, .inl (cI, 12, .inl (fun _ => 0))), (q_knownKey, .inl (cI, 12, .inl (fun _ => 0))), (q_store, .inl (cI, 48, .inl (fun _ => 0))), (q_key, .inl (cI, 192, .inl (fun _ => 0))), (q_keyX, .inl (cI, 192, .inl (fun _ => 0))), (q_keyAnswer, .inl (cI, 192, .inl (fun _ => 0))), (q_keyTick, .inl (cI, 192, .inl (fun _ => 0))), (q_knownWord, .inl (cI, 96, .inl (fun _ => 0))), (q_knownPlace, .inl (cI, 96, .inl (fun _ => 0))), (q_knownWorth, .inl (cI, 96, .inl (fun _ => 0))), (q_onceStore, .inl (cI, 30, .inl (fun _ => 0))), (q_hold, .inl (cI, 6, .inl (fun _ => 0))), (q_keptHold, .inl (cI, 6, .inl (fun _ => 0)))] := hV
  refine lv_iinc (v := 1) (lv' := [(1, .int 1), (0, .ref h)]) hx hb dX7_enough_20 hl (k := 0) rfl (by decide) (by decide) rfl (fun ls hl => ?_)
  refine lv_goto (tgt := 2) hx hb dX7_enough_23 (by decide) ?_
  refine lv_iload_n hx hb dX7_enough_2 rfl (lv_at hl 0 rfl) ?_
  refine lv_bipush (v := 6) hx hb dX7_enough_3 (by decide) ?_
  refine lv_icmp_ge (tgt := 26) hx hb dX7_enough_5 (by decide) (fun c_ => absurd c_ (by decide)) (fun c_ => ?_)
  refine lv_aload_n hx hb dX7_enough_8 rfl (lv_at hl 1 rfl) ?_
  refine x_get (v := .ref q_keptHold) hB hV 0 rfl rfl 65 (by decide) k_810 h65 dX7_enough_9 ?_
  refine lv_iload_n hx hb dX7_enough_12 rfl (lv_at hl 0 rfl) ?_
  refine lv_aload_n hx hb dX7_enough_13 rfl (lv_at hl 1 rfl) ?_
  refine x_get (v := .ref q_hold) hB hV 0 rfl rfl 6 (by decide) k_751 h6 dX7_enough_14 ?_
  refine lv_iload_n hx hb dX7_enough_17 rfl (lv_at hl 0 rfl) ?_
  refine x_iald (v := 0) hB hV 16 rfl (by unfold vp_in; decide) rfl dX7_enough_18 ?_
  refine x_iast (g := (fun _ => 0)) hB hV 17 rfl (by unfold vp_in; decide) upd00 dX7_enough_19 (fun H locs hV => ?_)
  have hV : Vx D A s.heap H locs [(h, .inr (7, fs)), (q_tick, .inl (cI, 2, .inl (fun _ => 0))), (q_count, .inl (cI, 12, .inl (fun _ => 0))), (q_kept, .inl (cI, 12, .inl (fun _ => 0))), (q_isKnown, .inl (cZ, 12, .inl (fun _ => 0))), (q_knownX, .inl (cI, 12, .inl (fun _ => 0))), (q_knownKey, .inl (cI, 12, .inl (fun _ => 0))), (q_store, .inl (cI, 48, .inl (fun _ => 0))), (q_key, .inl (cI, 192, .inl (fun _ => 0))), (q_keyX, .inl (cI, 192, .inl (fun _ => 0))), (q_keyAnswer, .inl (cI, 192, .inl (fun _ => 0))), (q_keyTick, .inl (cI, 192, .inl (fun _ => 0))), (q_knownWord, .inl (cI, 96, .inl (fun _ => 0))), (q_knownPlace, .inl (cI, 96, .inl (fun _ => 0))), (q_knownWorth, .inl (cI, 96, .inl (fun _ => 0))), (q_onceStore, .inl (cI, 30, .inl (fun _ => 0))), (q_hold, .inl (cI, 6, .inl (fun _ => 0))), (q_keptHold, .inl (cI, 6, .inl (fun _ => 0)))] := hV
  refine lv_iinc (v := 2) (lv' := [(1, .int 2), (0, .ref h)]) hx hb dX7_enough_20 hl (k := 0) rfl (by decide) (by decide) rfl (fun ls hl => ?_)
  refine lv_goto (tgt := 2) hx hb dX7_enough_23 (by decide) ?_
  refine lv_iload_n hx hb dX7_enough_2 rfl (lv_at hl 0 rfl) ?_
  refine lv_bipush (v := 6) hx hb dX7_enough_3 (by decide) ?_
  refine lv_icmp_ge (tgt := 26) hx hb dX7_enough_5 (by decide) (fun c_ => absurd c_ (by decide)) (fun c_ => ?_)
  refine lv_aload_n hx hb dX7_enough_8 rfl (lv_at hl 1 rfl) ?_
  refine x_get (v := .ref q_keptHold) hB hV 0 rfl rfl 65 (by decide) k_810 h65 dX7_enough_9 ?_
  refine lv_iload_n hx hb dX7_enough_12 rfl (lv_at hl 0 rfl) ?_
  refine lv_aload_n hx hb dX7_enough_13 rfl (lv_at hl 1 rfl) ?_
  refine x_get (v := .ref q_hold) hB hV 0 rfl rfl 6 (by decide) k_751 h6 dX7_enough_14 ?_
  refine lv_iload_n hx hb dX7_enough_17 rfl (lv_at hl 0 rfl) ?_
  refine x_iald (v := 0) hB hV 16 rfl (by unfold vp_in; decide) rfl dX7_enough_18 ?_
  refine x_iast (g := (fun _ => 0)) hB hV 17 rfl (by unfold vp_in; decide) upd00 dX7_enough_19 (fun H locs hV => ?_)
  have hV : Vx D A s.heap H locs [(h, .inr (7, fs)), (q_tick, .inl (cI, 2, .inl (fun _ => 0))), (q_count, .inl (cI, 12, .inl (fun _ => 0))), (q_kept, .inl (cI, 12, .inl (fun _ => 0))), (q_isKnown, .inl (cZ, 12, .inl (fun _ => 0))), (q_knownX, .inl (cI, 12, .inl (fun _ => 0))), (q_knownKey, .inl (cI, 12, .inl (fun _ => 0))), (q_store, .inl (cI, 48, .inl (fun _ => 0))), (q_key, .inl (cI, 192, .inl (fun _ => 0))), (q_keyX, .inl (cI, 192, .inl (fun _ => 0))), (q_keyAnswer, .inl (cI, 192, .inl (fun _ => 0))), (q_keyTick, .inl (cI, 192, .inl (fun _ => 0))), (q_knownWord, .inl (cI, 96, .inl (fun _ => 0))), (q_knownPlace, .inl (cI, 96, .inl (fun _ => 0))), (q_knownWorth, .inl (cI, 96, .inl (fun _ => 0))), (q_onceStore, .inl (cI, 30, .inl (fun _ => 0))), (q_hold, .inl (cI, 6, .inl (fun _ => 0))), (q_keptHold, .inl (cI, 6, .inl (fun _ => 0)))] := hV
  refine lv_iinc (v := 3) (lv' := [(1, .int 3), (0, .ref h)]) hx hb dX7_enough_20 hl (k := 0) rfl (by decide) (by decide) rfl (fun ls hl => ?_)
  refine lv_goto (tgt := 2) hx hb dX7_enough_23 (by decide) ?_
  refine lv_iload_n hx hb dX7_enough_2 rfl (lv_at hl 0 rfl) ?_
  refine lv_bipush (v := 6) hx hb dX7_enough_3 (by decide) ?_
  refine lv_icmp_ge (tgt := 26) hx hb dX7_enough_5 (by decide) (fun c_ => absurd c_ (by decide)) (fun c_ => ?_)
  refine lv_aload_n hx hb dX7_enough_8 rfl (lv_at hl 1 rfl) ?_
  refine x_get (v := .ref q_keptHold) hB hV 0 rfl rfl 65 (by decide) k_810 h65 dX7_enough_9 ?_
  refine lv_iload_n hx hb dX7_enough_12 rfl (lv_at hl 0 rfl) ?_
  refine lv_aload_n hx hb dX7_enough_13 rfl (lv_at hl 1 rfl) ?_
  refine x_get (v := .ref q_hold) hB hV 0 rfl rfl 6 (by decide) k_751 h6 dX7_enough_14 ?_
  refine lv_iload_n hx hb dX7_enough_17 rfl (lv_at hl 0 rfl) ?_
  refine x_iald (v := 0) hB hV 16 rfl (by unfold vp_in; decide) rfl dX7_enough_18 ?_
  refine x_iast (g := (fun _ => 0)) hB hV 17 rfl (by unfold vp_in; decide) upd00 dX7_enough_19 (fun H locs hV => ?_)
  have hV : Vx D A s.heap H locs [(h, .inr (7, fs)), (q_tick, .inl (cI, 2, .inl (fun _ => 0))), (q_count, .inl (cI, 12, .inl (fun _ => 0))), (q_kept, .inl (cI, 12, .inl (fun _ => 0))), (q_isKnown, .inl (cZ, 12, .inl (fun _ => 0))), (q_knownX, .inl (cI, 12, .inl (fun _ => 0))), (q_knownKey, .inl (cI, 12, .inl (fun _ => 0))), (q_store, .inl (cI, 48, .inl (fun _ => 0))), (q_key, .inl (cI, 192, .inl (fun _ => 0))), (q_keyX, .inl (cI, 192, .inl (fun _ => 0))), (q_keyAnswer, .inl (cI, 192, .inl (fun _ => 0))), (q_keyTick, .inl (cI, 192, .inl (fun _ => 0))), (q_knownWord, .inl (cI, 96, .inl (fun _ => 0))), (q_knownPlace, .inl (cI, 96, .inl (fun _ => 0))), (q_knownWorth, .inl (cI, 96, .inl (fun _ => 0))), (q_onceStore, .inl (cI, 30, .inl (fun _ => 0))), (q_hold, .inl (cI, 6, .inl (fun _ => 0))), (q_keptHold, .inl (cI, 6, .inl (fun _ => 0)))] := hV
  refine lv_iinc (v := 4) (lv' := [(1, .int 4), (0, .ref h)]) hx hb dX7_enough_20 hl (k := 0) rfl (by decide) (by decide) rfl (fun ls hl => ?_)
  refine lv_goto (tgt := 2) hx hb dX7_enough_23 (by decide) ?_
  refine lv_iload_n hx hb dX7_enough_2 rfl (lv_at hl 0 rfl) ?_
  refine lv_bipush (v := 6) hx hb dX7_enough_3 (by decide) ?_
  refine lv_icmp_ge (tgt := 26) hx hb dX7_enough_5 (by decide) (fun c_ => absurd c_ (by decide)) (fun c_ => ?_)
  refine lv_aload_n hx hb dX7_enough_8 rfl (lv_at hl 1 rfl) ?_
  refine x_get (v := .ref q_keptHold) hB hV 0 rfl rfl 65 (by decide) k_810 h65 dX7_enough_9 ?_
  refine lv_iload_n hx hb dX7_enough_12 rfl (lv_at hl 0 rfl) ?_
  refine lv_aload_n hx hb dX7_enough_13 rfl (lv_at hl 1 rfl) ?_
  refine x_get (v := .ref q_hold) hB hV 0 rfl rfl 6 (by decide) k_751 h6 dX7_enough_14 ?_
  refine lv_iload_n hx hb dX7_enough_17 rfl (lv_at hl 0 rfl) ?_
  refine x_iald (v := 0) hB hV 16 rfl (by unfold vp_in; decide) rfl dX7_enough_18 ?_
  refine x_iast (g := (fun _ => 0)) hB hV 17 rfl (by unfold vp_in; decide) upd00 dX7_enough_19 (fun H locs hV => ?_)
  have hV : Vx D A s.heap H locs [(h, .inr (7, fs)), (q_tick, .inl (cI, 2, .inl (fun _ => 0))), (q_count, .inl (cI, 12, .inl (fun _ => 0))), (q_kept, .inl (cI, 12, .inl (fun _ => 0))), (q_isKnown, .inl (cZ, 12, .inl (fun _ => 0))), (q_knownX, .inl (cI, 12, .inl (fun _ => 0))), (q_knownKey, .inl (cI, 12, .inl (fun _ => 0))), (q_store, .inl (cI, 48, .inl (fun _ => 0))), (q_key, .inl (cI, 192, .inl (fun _ => 0))), (q_keyX, .inl (cI, 192, .inl (fun _ => 0))), (q_keyAnswer, .inl (cI, 192, .inl (fun _ => 0))), (q_keyTick, .inl (cI, 192, .inl (fun _ => 0))), (q_knownWord, .inl (cI, 96, .inl (fun _ => 0))), (q_knownPlace, .inl (cI, 96, .inl (fun _ => 0))), (q_knownWorth, .inl (cI, 96, .inl (fun _ => 0))), (q_onceStore, .inl (cI, 30, .inl (fun _ => 0))), (q_hold, .inl (cI, 6, .inl (fun _ => 0))), (q_keptHold, .inl (cI, 6, .inl (fun _ => 0)))] := hV
  refine lv_iinc (v := 5) (lv' := [(1, .int 5), (0, .ref h)]) hx hb dX7_enough_20 hl (k := 0) rfl (by decide) (by decide) rfl (fun ls hl => ?_)
  refine lv_goto (tgt := 2) hx hb dX7_enough_23 (by decide) ?_
  refine lv_iload_n hx hb dX7_enough_2 rfl (lv_at hl 0 rfl) ?_
  refine lv_bipush (v := 6) hx hb dX7_enough_3 (by decide) ?_
  refine lv_icmp_ge (tgt := 26) hx hb dX7_enough_5 (by decide) (fun c_ => absurd c_ (by decide)) (fun c_ => ?_)
  refine lv_aload_n hx hb dX7_enough_8 rfl (lv_at hl 1 rfl) ?_
  refine x_get (v := .ref q_keptHold) hB hV 0 rfl rfl 65 (by decide) k_810 h65 dX7_enough_9 ?_
  refine lv_iload_n hx hb dX7_enough_12 rfl (lv_at hl 0 rfl) ?_
  refine lv_aload_n hx hb dX7_enough_13 rfl (lv_at hl 1 rfl) ?_
  refine x_get (v := .ref q_hold) hB hV 0 rfl rfl 6 (by decide) k_751 h6 dX7_enough_14 ?_
  refine lv_iload_n hx hb dX7_enough_17 rfl (lv_at hl 0 rfl) ?_
  refine x_iald (v := 0) hB hV 16 rfl (by unfold vp_in; decide) rfl dX7_enough_18 ?_
  refine x_iast (g := (fun _ => 0)) hB hV 17 rfl (by unfold vp_in; decide) upd00 dX7_enough_19 (fun H locs hV => ?_)
  have hV : Vx D A s.heap H locs [(h, .inr (7, fs)), (q_tick, .inl (cI, 2, .inl (fun _ => 0))), (q_count, .inl (cI, 12, .inl (fun _ => 0))), (q_kept, .inl (cI, 12, .inl (fun _ => 0))), (q_isKnown, .inl (cZ, 12, .inl (fun _ => 0))), (q_knownX, .inl (cI, 12, .inl (fun _ => 0))), (q_knownKey, .inl (cI, 12, .inl (fun _ => 0))), (q_store, .inl (cI, 48, .inl (fun _ => 0))), (q_key, .inl (cI, 192, .inl (fun _ => 0))), (q_keyX, .inl (cI, 192, .inl (fun _ => 0))), (q_keyAnswer, .inl (cI, 192, .inl (fun _ => 0))), (q_keyTick, .inl (cI, 192, .inl (fun _ => 0))), (q_knownWord, .inl (cI, 96, .inl (fun _ => 0))), (q_knownPlace, .inl (cI, 96, .inl (fun _ => 0))), (q_knownWorth, .inl (cI, 96, .inl (fun _ => 0))), (q_onceStore, .inl (cI, 30, .inl (fun _ => 0))), (q_hold, .inl (cI, 6, .inl (fun _ => 0))), (q_keptHold, .inl (cI, 6, .inl (fun _ => 0)))] := hV
  refine lv_iinc (v := 6) (lv' := [(1, .int 6), (0, .ref h)]) hx hb dX7_enough_20 hl (k := 0) rfl (by decide) (by decide) rfl (fun ls hl => ?_)
  refine lv_goto (tgt := 2) hx hb dX7_enough_23 (by decide) ?_
  refine lv_iload_n hx hb dX7_enough_2 rfl (lv_at hl 0 rfl) ?_
  refine lv_bipush (v := 6) hx hb dX7_enough_3 (by decide) ?_
  refine lv_icmp_ge (tgt := 26) hx hb dX7_enough_5 (by decide) (fun c_ => ?_) (fun c_ => absurd (by decide) c_)
  refine lv_iconst (v := (-1)) hx hb dX7_enough_26 (by decide) ?_
  refine lv_istore_n (lv' := [(1, .int (-1)), (0, .ref h)]) hx hb dX7_enough_27 rfl hl (by decide) rfl (fun ls hl => ?_)
  refine lv_iconst (v := 0) hx hb dX7_enough_28 (by decide) ?_
  refine lv_istore_n (lv' := [(2, .int 0), (1, .int (-1)), (0, .ref h)]) hx hb dX7_enough_29 rfl hl (by decide) rfl (fun ls hl => ?_)
  refine lv_iload_n hx hb dX7_enough_30 rfl (lv_at hl 0 rfl) ?_
  refine lv_bipush (v := 20) hx hb dX7_enough_31 (by decide) ?_
  refine lv_icmp_gt (tgt := 82) hx hb dX7_enough_33 (by decide) (fun c_ => absurd c_ (by decide)) (fun c_ => ?_)
  refine lv_iload_n hx hb dX7_enough_36 rfl (lv_at hl 1 rfl) ?_
  refine lv_iconst (v := (-1)) hx hb dX7_enough_37 (by decide) ?_
  refine lv_icmp_ne (tgt := 82) hx hb dX7_enough_38 (by decide) (fun c_ => absurd (by decide) c_) (fun c_ => ?_)
  refine lv_iconst (v := 0) hx hb dX7_enough_41 (by decide) ?_
  refine lv_istore_n (lv' := [(3, .int 0), (2, .int 0), (1, .int (-1)), (0, .ref h)]) hx hb dX7_enough_42 rfl hl (by decide) rfl (fun ls hl => ?_)
  refine lv_iload_n hx hb dX7_enough_43 rfl (lv_at hl 0 rfl) ?_
  refine lv_bipush (v := 6) hx hb dX7_enough_44 (by decide) ?_
  refine lv_icmp_ge (tgt := 62) hx hb dX7_enough_46 (by decide) (fun c_ => absurd c_ (by decide)) (fun c_ => ?_)
  refine lv_aload_n hx hb dX7_enough_49 rfl (lv_at hl 3 rfl) ?_
  refine x_get (v := .ref q_hold) hB hV 0 rfl rfl 6 (by decide) k_751 h6 dX7_enough_50 ?_
  refine lv_iload_n hx hb dX7_enough_53 rfl (lv_at hl 0 rfl) ?_
  refine lv_iload_n hx hb dX7_enough_54 rfl (lv_at hl 1 rfl) ?_
  refine x_iast (g := (fun _ => 0)) hB hV 16 rfl (by unfold vp_in; decide) upd00 dX7_enough_55 (fun H locs hV => ?_)
  have hV : Vx D A s.heap H locs [(h, .inr (7, fs)), (q_tick, .inl (cI, 2, .inl (fun _ => 0))), (q_count, .inl (cI, 12, .inl (fun _ => 0))), (q_kept, .inl (cI, 12, .inl (fun _ => 0))), (q_isKnown, .inl (cZ, 12, .inl (fun _ => 0))), (q_knownX, .inl (cI, 12, .inl (fun _ => 0))), (q_knownKey, .inl (cI, 12, .inl (fun _ => 0))), (q_store, .inl (cI, 48, .inl (fun _ => 0))), (q_key, .inl (cI, 192, .inl (fun _ => 0))), (q_keyX, .inl (cI, 192, .inl (fun _ => 0))), (q_keyAnswer, .inl (cI, 192, .inl (fun _ => 0))), (q_keyTick, .inl (cI, 192, .inl (fun _ => 0))), (q_knownWord, .inl (cI, 96, .inl (fun _ => 0))), (q_knownPlace, .inl (cI, 96, .inl (fun _ => 0))), (q_knownWorth, .inl (cI, 96, .inl (fun _ => 0))), (q_onceStore, .inl (cI, 30, .inl (fun _ => 0))), (q_hold, .inl (cI, 6, .inl (fun _ => 0))), (q_keptHold, .inl (cI, 6, .inl (fun _ => 0)))] := hV
  refine lv_iinc (v := 1) (lv' := [(3, .int 1), (2, .int 0), (1, .int (-1)), (0, .ref h)]) hx hb dX7_enough_56 hl (k := 0) rfl (by decide) (by decide) rfl (fun ls hl => ?_)
  refine lv_goto (tgt := 43) hx hb dX7_enough_59 (by decide) ?_
  refine lv_iload_n hx hb dX7_enough_43 rfl (lv_at hl 0 rfl) ?_
  refine lv_bipush (v := 6) hx hb dX7_enough_44 (by decide) ?_
  refine lv_icmp_ge (tgt := 62) hx hb dX7_enough_46 (by decide) (fun c_ => absurd c_ (by decide)) (fun c_ => ?_)
  refine lv_aload_n hx hb dX7_enough_49 rfl (lv_at hl 3 rfl) ?_
  refine x_get (v := .ref q_hold) hB hV 0 rfl rfl 6 (by decide) k_751 h6 dX7_enough_50 ?_
  refine lv_iload_n hx hb dX7_enough_53 rfl (lv_at hl 0 rfl) ?_
  refine lv_iload_n hx hb dX7_enough_54 rfl (lv_at hl 1 rfl) ?_
  refine x_iast (g := (fun _ => 0)) hB hV 16 rfl (by unfold vp_in; decide) upd00 dX7_enough_55 (fun H locs hV => ?_)
  have hV : Vx D A s.heap H locs [(h, .inr (7, fs)), (q_tick, .inl (cI, 2, .inl (fun _ => 0))), (q_count, .inl (cI, 12, .inl (fun _ => 0))), (q_kept, .inl (cI, 12, .inl (fun _ => 0))), (q_isKnown, .inl (cZ, 12, .inl (fun _ => 0))), (q_knownX, .inl (cI, 12, .inl (fun _ => 0))), (q_knownKey, .inl (cI, 12, .inl (fun _ => 0))), (q_store, .inl (cI, 48, .inl (fun _ => 0))), (q_key, .inl (cI, 192, .inl (fun _ => 0))), (q_keyX, .inl (cI, 192, .inl (fun _ => 0))), (q_keyAnswer, .inl (cI, 192, .inl (fun _ => 0))), (q_keyTick, .inl (cI, 192, .inl (fun _ => 0))), (q_knownWord, .inl (cI, 96, .inl (fun _ => 0))), (q_knownPlace, .inl (cI, 96, .inl (fun _ => 0))), (q_knownWorth, .inl (cI, 96, .inl (fun _ => 0))), (q_onceStore, .inl (cI, 30, .inl (fun _ => 0))), (q_hold, .inl (cI, 6, .inl (fun _ => 0))), (q_keptHold, .inl (cI, 6, .inl (fun _ => 0)))] := hV
  refine lv_iinc (v := 2) (lv' := [(3, .int 2), (2, .int 0), (1, .int (-1)), (0, .ref h)]) hx hb dX7_enough_56 hl (k := 0) rfl (by decide) (by decide) rfl (fun ls hl => ?_)
  refine lv_goto (tgt := 43) hx hb dX7_enough_59 (by decide) ?_
  refine lv_iload_n hx hb dX7_enough_43 rfl (lv_at hl 0 rfl) ?_
  refine lv_bipush (v := 6) hx hb dX7_enough_44 (by decide) ?_
  refine lv_icmp_ge (tgt := 62) hx hb dX7_enough_46 (by decide) (fun c_ => absurd c_ (by decide)) (fun c_ => ?_)
  refine lv_aload_n hx hb dX7_enough_49 rfl (lv_at hl 3 rfl) ?_
  refine x_get (v := .ref q_hold) hB hV 0 rfl rfl 6 (by decide) k_751 h6 dX7_enough_50 ?_
  refine lv_iload_n hx hb dX7_enough_53 rfl (lv_at hl 0 rfl) ?_
  refine lv_iload_n hx hb dX7_enough_54 rfl (lv_at hl 1 rfl) ?_
  refine x_iast (g := (fun _ => 0)) hB hV 16 rfl (by unfold vp_in; decide) upd00 dX7_enough_55 (fun H locs hV => ?_)
  have hV : Vx D A s.heap H locs [(h, .inr (7, fs)), (q_tick, .inl (cI, 2, .inl (fun _ => 0))), (q_count, .inl (cI, 12, .inl (fun _ => 0))), (q_kept, .inl (cI, 12, .inl (fun _ => 0))), (q_isKnown, .inl (cZ, 12, .inl (fun _ => 0))), (q_knownX, .inl (cI, 12, .inl (fun _ => 0))), (q_knownKey, .inl (cI, 12, .inl (fun _ => 0))), (q_store, .inl (cI, 48, .inl (fun _ => 0))), (q_key, .inl (cI, 192, .inl (fun _ => 0))), (q_keyX, .inl (cI, 192, .inl (fun _ => 0))), (q_keyAnswer, .inl (cI, 192, .inl (fun _ => 0))), (q_keyTick, .inl (cI, 192, .inl (fun _ => 0))), (q_knownWord, .inl (cI, 96, .inl (fun _ => 0))), (q_knownPlace, .inl (cI, 96, .inl (fun _ => 0))), (q_knownWorth, .inl (cI, 96, .inl (fun _ => 0))), (q_onceStore, .inl (cI, 30, .inl (fun _ => 0))), (q_hold, .inl (cI, 6, .inl (fun _ => 0))), (q_keptHold, .inl (cI, 6, .inl (fun _ => 0)))] := hV
  refine lv_iinc (v := 3) (lv' := [(3, .int 3), (2, .int 0), (1, .int (-1)), (0, .ref h)]) hx hb dX7_enough_56 hl (k := 0) rfl (by decide) (by decide) rfl (fun ls hl => ?_)
  refine lv_goto (tgt := 43) hx hb dX7_enough_59 (by decide) ?_
  refine lv_iload_n hx hb dX7_enough_43 rfl (lv_at hl 0 rfl) ?_
  refine lv_bipush (v := 6) hx hb dX7_enough_44 (by decide) ?_
  refine lv_icmp_ge (tgt := 62) hx hb dX7_enough_46 (by decide) (fun c_ => absurd c_ (by decide)) (fun c_ => ?_)
  refine lv_aload_n hx hb dX7_enough_49 rfl (lv_at hl 3 rfl) ?_
  refine x_get (v := .ref q_hold) hB hV 0 rfl rfl 6 (by decide) k_751 h6 dX7_enough_50 ?_
  refine lv_iload_n hx hb dX7_enough_53 rfl (lv_at hl 0 rfl) ?_
  refine lv_iload_n hx hb dX7_enough_54 rfl (lv_at hl 1 rfl) ?_
  refine x_iast (g := (fun _ => 0)) hB hV 16 rfl (by unfold vp_in; decide) upd00 dX7_enough_55 (fun H locs hV => ?_)
  have hV : Vx D A s.heap H locs [(h, .inr (7, fs)), (q_tick, .inl (cI, 2, .inl (fun _ => 0))), (q_count, .inl (cI, 12, .inl (fun _ => 0))), (q_kept, .inl (cI, 12, .inl (fun _ => 0))), (q_isKnown, .inl (cZ, 12, .inl (fun _ => 0))), (q_knownX, .inl (cI, 12, .inl (fun _ => 0))), (q_knownKey, .inl (cI, 12, .inl (fun _ => 0))), (q_store, .inl (cI, 48, .inl (fun _ => 0))), (q_key, .inl (cI, 192, .inl (fun _ => 0))), (q_keyX, .inl (cI, 192, .inl (fun _ => 0))), (q_keyAnswer, .inl (cI, 192, .inl (fun _ => 0))), (q_keyTick, .inl (cI, 192, .inl (fun _ => 0))), (q_knownWord, .inl (cI, 96, .inl (fun _ => 0))), (q_knownPlace, .inl (cI, 96, .inl (fun _ => 0))), (q_knownWorth, .inl (cI, 96, .inl (fun _ => 0))), (q_onceStore, .inl (cI, 30, .inl (fun _ => 0))), (q_hold, .inl (cI, 6, .inl (fun _ => 0))), (q_keptHold, .inl (cI, 6, .inl (fun _ => 0)))] := hV
  refine lv_iinc (v := 4) (lv' := [(3, .int 4), (2, .int 0), (1, .int (-1)), (0, .ref h)]) hx hb dX7_enough_56 hl (k := 0) rfl (by decide) (by decide) rfl (fun ls hl => ?_)
  refine lv_goto (tgt := 43) hx hb dX7_enough_59 (by decide) ?_
  refine lv_iload_n hx hb dX7_enough_43 rfl (lv_at hl 0 rfl) ?_
  refine lv_bipush (v := 6) hx hb dX7_enough_44 (by decide) ?_
  refine lv_icmp_ge (tgt := 62) hx hb dX7_enough_46 (by decide) (fun c_ => absurd c_ (by decide)) (fun c_ => ?_)
  refine lv_aload_n hx hb dX7_enough_49 rfl (lv_at hl 3 rfl) ?_
  refine x_get (v := .ref q_hold) hB hV 0 rfl rfl 6 (by decide) k_751 h6 dX7_enough_50 ?_
  refine lv_iload_n hx hb dX7_enough_53 rfl (lv_at hl 0 rfl) ?_
  refine lv_iload_n hx hb dX7_enough_54 rfl (lv_at hl 1 rfl) ?_
  refine x_iast (g := (fun _ => 0)) hB hV 16 rfl (by unfold vp_in; decide) upd00 dX7_enough_55 (fun H locs hV => ?_)
  have hV : Vx D A s.heap H locs [(h, .inr (7, fs)), (q_tick, .inl (cI, 2, .inl (fun _ => 0))), (q_count, .inl (cI, 12, .inl (fun _ => 0))), (q_kept, .inl (cI, 12, .inl (fun _ => 0))), (q_isKnown, .inl (cZ, 12, .inl (fun _ => 0))), (q_knownX, .inl (cI, 12, .inl (fun _ => 0))), (q_knownKey, .inl (cI, 12, .inl (fun _ => 0))), (q_store, .inl (cI, 48, .inl (fun _ => 0))), (q_key, .inl (cI, 192, .inl (fun _ => 0))), (q_keyX, .inl (cI, 192, .inl (fun _ => 0))), (q_keyAnswer, .inl (cI, 192, .inl (fun _ => 0))), (q_keyTick, .inl (cI, 192, .inl (fun _ => 0))), (q_knownWord, .inl (cI, 96, .inl (fun _ => 0))), (q_knownPlace, .inl (cI, 96, .inl (fun _ => 0))), (q_knownWorth, .inl (cI, 96, .inl (fun _ => 0))), (q_onceStore, .inl (cI, 30, .inl (fun _ => 0))), (q_hold, .inl (cI, 6, .inl (fun _ => 0))), (q_keptHold, .inl (cI, 6, .inl (fun _ => 0)))] := hV
  refine lv_iinc (v := 5) (lv' := [(3, .int 5), (2, .int 0), (1, .int (-1)), (0, .ref h)]) hx hb dX7_enough_56 hl (k := 0) rfl (by decide) (by decide) rfl (fun ls hl => ?_)
  refine lv_goto (tgt := 43) hx hb dX7_enough_59 (by decide) ?_
  refine lv_iload_n hx hb dX7_enough_43 rfl (lv_at hl 0 rfl) ?_
  refine lv_bipush (v := 6) hx hb dX7_enough_44 (by decide) ?_
  refine lv_icmp_ge (tgt := 62) hx hb dX7_enough_46 (by decide) (fun c_ => absurd c_ (by decide)) (fun c_ => ?_)
  refine lv_aload_n hx hb dX7_enough_49 rfl (lv_at hl 3 rfl) ?_
  refine x_get (v := .ref q_hold) hB hV 0 rfl rfl 6 (by decide) k_751 h6 dX7_enough_50 ?_
  refine lv_iload_n hx hb dX7_enough_53 rfl (lv_at hl 0 rfl) ?_
  refine lv_iload_n hx hb dX7_enough_54 rfl (lv_at hl 1 rfl) ?_
  refine x_iast (g := (fun _ => 0)) hB hV 16 rfl (by unfold vp_in; decide) upd00 dX7_enough_55 (fun H locs hV => ?_)
  have hV : Vx D A s.heap H locs [(h, .inr (7, fs)), (q_tick, .inl (cI, 2, .inl (fun _ => 0))), (q_count, .inl (cI, 12, .inl (fun _ => 0))), (q_kept, .inl (cI, 12, .inl (fun _ => 0))), (q_isKnown, .inl (cZ, 12, .inl (fun _ => 0))), (q_knownX, .inl (cI, 12, .inl (fun _ => 0))), (q_knownKey, .inl (cI, 12, .inl (fun _ => 0))), (q_store, .inl (cI, 48, .inl (fun _ => 0))), (q_key, .inl (cI, 192, .inl (fun _ => 0))), (q_keyX, .inl (cI, 192, .inl (fun _ => 0))), (q_keyAnswer, .inl (cI, 192, .inl (fun _ => 0))), (q_keyTick, .inl (cI, 192, .inl (fun _ => 0))), (q_knownWord, .inl (cI, 96, .inl (fun _ => 0))), (q_knownPlace, .inl (cI, 96, .inl (fun _ => 0))), (q_knownWorth, .inl (cI, 96, .inl (fun _ => 0))), (q_onceStore, .inl (cI, 30, .inl (fun _ => 0))), (q_hold, .inl (cI, 6, .inl (fun _ => 0))), (q_keptHold, .inl (cI, 6, .inl (fun _ => 0)))] := hV
  refine lv_iinc (v := 6) (lv' := [(3, .int 6), (2, .int 0), (1, .int (-1)), (0, .ref h)]) hx hb dX7_enough_56 hl (k := 0) rfl (by decide) (by decide) rfl (fun ls hl => ?_)
  refine lv_goto (tgt := 43) hx hb dX7_enough_59 (by decide) ?_
  refine lv_iload_n hx hb dX7_enough_43 rfl (lv_at hl 0 rfl) ?_
  refine lv_bipush (v := 6) hx hb dX7_enough_44 (by decide) ?_
  refine lv_icmp_ge (tgt := 62) hx hb dX7_enough_46 (by decide) (fun c_ => ?_) (fun c_ => absurd (by decide) c_)
  refine lv_aload_n hx hb dX7_enough_62 rfl (lv_at hl 3 rfl) ?_
  refine x_callV (n := 0) (wr := [(q_hold, .inl (cI, 6, .inl (fun _ => 0))), (q_keptHold, .inl (cI, 6, .inl (fun _ => 0)))]) (q0 := 0) (As := []) (rest := []) hB hV (x_N hB) hl.1 (c_worstOf l D cI cZ cS N0 h fs q_tick q_count q_kept q_isKnown q_knownX q_knownKey q_store q_key q_keyX q_keyAnswer q_keyTick q_knownWord q_knownPlace q_knownWorth q_onceStore h21 h52 h30 h60 h14 h8 h9 h20 h15 h16 h7 h10 h11 h12 h13 h17 h18 h19 h57) rfl rfl k_1123 k_65 k_1120 k_1122 k_48 (by decide +kernel) ⟨(Nat.le_of_ble_eq_true rfl), (Nat.le_of_ble_eq_true rfl)⟩ rfl (Nat.le_of_ble_eq_true rfl) ⟨(Nat.le_of_ble_eq_true rfl), (Nat.le_of_ble_eq_true rfl)⟩ [0, 1, 2, 3, 4, 5, 6, 7, 8, 9, 10, 11, 12, 13, 14, 15] [16, 17] rfl rfl rfl ⟨by decide, by decide, by decide⟩ dX7_enough_63 (fun v w H locs hp hV => ?_)
  obtain ⟨rfl, rfl⟩ := hp
  have hV : Vx D A s.heap H locs [(q_hold, .inl (cI, 6, .inl (fun _ => 0))), (q_keptHold, .inl (cI, 6, .inl (fun _ => 0))), (h, .inr (7, ((((fs.set 21 (.int 1)).set 52 (.int 0)).set 60 (.int 0)).set 21 (.int 0)))), (q_tick, .inl (cI, 2, .inl (fun _ => 0))), (q_count, .inl (cI, 12, .inl (fun _ => 0))), (q_kept, .inl (cI, 12, .inl (fun _ => 0))), (q_isKnown, .inl (cZ, 12, .inl (fun _ => 0))), (q_knownX, .inl (cI, 12, .inl (fun _ => 0))), (q_knownKey, .inl (cI, 12, .inl (fun _ => 0))), (q_store, .inl (cI, 48, .inl (fun _ => 0))), (q_key, .inl (cI, 192, .inl (fun _ => 0))), (q_keyX, .inl (cI, 192, .inl (fun _ => 0))), (q_keyAnswer, .inl (cI, 192, .inl (fun _ => 0))), (q_keyTick, .inl (cI, 192, .inl (fun _ => 0))), (q_knownWord, .inl (cI, 96, .inl (fun _ => 0))), (q_knownPlace, .inl (cI, 96, .inl (fun _ => 0))), (q_knownWorth, .inl (cI, 96, .inl (fun _ => 0))), (q_onceStore, .inl (cI, 30, .inl (fun _ => 0)))] := hV
  refine W.eq (g2 := F0 m 66 ls [.int (-1)]) rfl ?_
  refine lv_iconst (v := (-1)) hx hb dX7_enough_66 (by decide) ?_
  refine lv_icmp_ne (tgt := 74) hx hb dX7_enough_67 (by decide) (fun c_ => absurd (by decide) c_) (fun c_ => ?_)
  refine lv_iload_n hx hb dX7_enough_70 rfl (lv_at hl 1 rfl) ?_
  refine lv_goto (tgt := 75) hx hb dX7_enough_71 (by decide) ?_
  refine lv_istore_n (lv' := [(1, .int 0), (3, .int 6), (2, .int 0), (0, .ref h)]) hx hb dX7_enough_75 rfl hl (by decide) rfl (fun ls hl => ?_)
  refine lv_iinc (v := 1) (lv' := [(2, .int 1), (1, .int 0), (3, .int 6), (0, .ref h)]) hx hb dX7_enough_76 hl (k := 2) rfl (by decide) (by decide) rfl (fun ls hl => ?_)
  refine lv_goto (tgt := 30) hx hb dX7_enough_79 (by decide) ?_
  refine lv_iload_n hx hb dX7_enough_30 rfl (lv_at hl 0 rfl) ?_
  refine lv_bipush (v := 20) hx hb dX7_enough_31 (by decide) ?_
  refine lv_icmp_gt (tgt := 82) hx hb dX7_enough_33 (by decide) (fun c_ => absurd c_ (by decide)) (fun c_ => ?_)
  refine lv_iload_n hx hb dX7_enough_36 rfl (lv_at hl 1 rfl) ?_
  refine lv_iconst (v := (-1)) hx hb dX7_enough_37 (by decide) ?_
  refine lv_icmp_ne (tgt := 82) hx hb dX7_enough_38 (by decide) (fun c_ => ?_) (fun c_ => absurd c_ (by decide))
  refine lv_iconst (v := 0) hx hb dX7_enough_82 (by decide) ?_
  refine lv_istore_n (lv' := [(2, .int 0), (1, .int 0), (3, .int 6), (0, .ref h)]) hx hb dX7_enough_83 rfl hl (by decide) rfl (fun ls hl => ?_)
  refine lv_iload_n hx hb dX7_enough_84 rfl (lv_at hl 0 rfl) ?_
  refine lv_bipush (v := 6) hx hb dX7_enough_85 (by decide) ?_
  refine lv_icmp_ge (tgt := 108) hx hb dX7_enough_87 (by decide) (fun c_ => absurd c_ (by decide)) (fun c_ => ?_)
  refine lv_aload_n hx hb dX7_enough_90 rfl (lv_at hl 3 rfl) ?_
  refine x_get (v := .ref q_hold) hB hV 2 rfl rfl 6 (by decide) k_751 (fs_ne (fs_ne (fs_ne (fs_ne h6 (by decide)) (by decide)) (by decide)) (by decide)) dX7_enough_91 ?_
  refine lv_iload_n hx hb dX7_enough_94 rfl (lv_at hl 0 rfl) ?_
  refine lv_aload_n hx hb dX7_enough_95 rfl (lv_at hl 3 rfl) ?_
  refine x_get (v := .ref q_keptHold) hB hV 2 rfl rfl 65 (by decide) k_810 (fs_ne (fs_ne (fs_ne (fs_ne h65 (by decide)) (by decide)) (by decide)) (by decide)) dX7_enough_96 ?_
  refine lv_iload_n hx hb dX7_enough_99 rfl (lv_at hl 0 rfl) ?_
  refine x_iald (v := 0) hB hV 1 rfl (by unfold vp_in; decide) rfl dX7_enough_100 ?_
  refine x_iast (g := (fun _ => 0)) hB hV 0 rfl (by unfold vp_in; decide) upd00 dX7_enough_101 (fun H locs hV => ?_)
  have hV : Vx D A s.heap H locs [(q_hold, .inl (cI, 6, .inl (fun _ => 0))), (q_keptHold, .inl (cI, 6, .inl (fun _ => 0))), (h, .inr (7, ((((fs.set 21 (.int 1)).set 52 (.int 0)).set 60 (.int 0)).set 21 (.int 0)))), (q_tick, .inl (cI, 2, .inl (fun _ => 0))), (q_count, .inl (cI, 12, .inl (fun _ => 0))), (q_kept, .inl (cI, 12, .inl (fun _ => 0))), (q_isKnown, .inl (cZ, 12, .inl (fun _ => 0))), (q_knownX, .inl (cI, 12, .inl (fun _ => 0))), (q_knownKey, .inl (cI, 12, .inl (fun _ => 0))), (q_store, .inl (cI, 48, .inl (fun _ => 0))), (q_key, .inl (cI, 192, .inl (fun _ => 0))), (q_keyX, .inl (cI, 192, .inl (fun _ => 0))), (q_keyAnswer, .inl (cI, 192, .inl (fun _ => 0))), (q_keyTick, .inl (cI, 192, .inl (fun _ => 0))), (q_knownWord, .inl (cI, 96, .inl (fun _ => 0))), (q_knownPlace, .inl (cI, 96, .inl (fun _ => 0))), (q_knownWorth, .inl (cI, 96, .inl (fun _ => 0))), (q_onceStore, .inl (cI, 30, .inl (fun _ => 0)))] := hV
  refine lv_iinc (v := 1) (lv' := [(2, .int 1), (1, .int 0), (3, .int 6), (0, .ref h)]) hx hb dX7_enough_102 hl (k := 0) rfl (by decide) (by decide) rfl (fun ls hl => ?_)
  refine lv_goto (tgt := 84) hx hb dX7_enough_105 (by decide) ?_
  refine lv_iload_n hx hb dX7_enough_84 rfl (lv_at hl 0 rfl) ?_
  refine lv_bipush (v := 6) hx hb dX7_enough_85 (by decide) ?_
  refine lv_icmp_ge (tgt := 108) hx hb dX7_enough_87 (by decide) (fun c_ => absurd c_ (by decide)) (fun c_ => ?_)
  refine lv_aload_n hx hb dX7_enough_90 rfl (lv_at hl 3 rfl) ?_
  refine x_get (v := .ref q_hold) hB hV 2 rfl rfl 6 (by decide) k_751 (fs_ne (fs_ne (fs_ne (fs_ne h6 (by decide)) (by decide)) (by decide)) (by decide)) dX7_enough_91 ?_
  refine lv_iload_n hx hb dX7_enough_94 rfl (lv_at hl 0 rfl) ?_
  refine lv_aload_n hx hb dX7_enough_95 rfl (lv_at hl 3 rfl) ?_
  refine x_get (v := .ref q_keptHold) hB hV 2 rfl rfl 65 (by decide) k_810 (fs_ne (fs_ne (fs_ne (fs_ne h65 (by decide)) (by decide)) (by decide)) (by decide)) dX7_enough_96 ?_
  refine lv_iload_n hx hb dX7_enough_99 rfl (lv_at hl 0 rfl) ?_
  refine x_iald (v := 0) hB hV 1 rfl (by unfold vp_in; decide) rfl dX7_enough_100 ?_
  refine x_iast (g := (fun _ => 0)) hB hV 0 rfl (by unfold vp_in; decide) upd00 dX7_enough_101 (fun H locs hV => ?_)
  have hV : Vx D A s.heap H locs [(q_hold, .inl (cI, 6, .inl (fun _ => 0))), (q_keptHold, .inl (cI, 6, .inl (fun _ => 0))), (h, .inr (7, ((((fs.set 21 (.int 1)).set 52 (.int 0)).set 60 (.int 0)).set 21 (.int 0)))), (q_tick, .inl (cI, 2, .inl (fun _ => 0))), (q_count, .inl (cI, 12, .inl (fun _ => 0))), (q_kept, .inl (cI, 12, .inl (fun _ => 0))), (q_isKnown, .inl (cZ, 12, .inl (fun _ => 0))), (q_knownX, .inl (cI, 12, .inl (fun _ => 0))), (q_knownKey, .inl (cI, 12, .inl (fun _ => 0))), (q_store, .inl (cI, 48, .inl (fun _ => 0))), (q_key, .inl (cI, 192, .inl (fun _ => 0))), (q_keyX, .inl (cI, 192, .inl (fun _ => 0))), (q_keyAnswer, .inl (cI, 192, .inl (fun _ => 0))), (q_keyTick, .inl (cI, 192, .inl (fun _ => 0))), (q_knownWord, .inl (cI, 96, .inl (fun _ => 0))), (q_knownPlace, .inl (cI, 96, .inl (fun _ => 0))), (q_knownWorth, .inl (cI, 96, .inl (fun _ => 0))), (q_onceStore, .inl (cI, 30, .inl (fun _ => 0)))] := hV
  refine lv_iinc (v := 2) (lv' := [(2, .int 2), (1, .int 0), (3, .int 6), (0, .ref h)]) hx hb dX7_enough_102 hl (k := 0) rfl (by decide) (by decide) rfl (fun ls hl => ?_)
  refine lv_goto (tgt := 84) hx hb dX7_enough_105 (by decide) ?_
  refine lv_iload_n hx hb dX7_enough_84 rfl (lv_at hl 0 rfl) ?_
  refine lv_bipush (v := 6) hx hb dX7_enough_85 (by decide) ?_
  refine lv_icmp_ge (tgt := 108) hx hb dX7_enough_87 (by decide) (fun c_ => absurd c_ (by decide)) (fun c_ => ?_)
  refine lv_aload_n hx hb dX7_enough_90 rfl (lv_at hl 3 rfl) ?_
  refine x_get (v := .ref q_hold) hB hV 2 rfl rfl 6 (by decide) k_751 (fs_ne (fs_ne (fs_ne (fs_ne h6 (by decide)) (by decide)) (by decide)) (by decide)) dX7_enough_91 ?_
  refine lv_iload_n hx hb dX7_enough_94 rfl (lv_at hl 0 rfl) ?_
  refine lv_aload_n hx hb dX7_enough_95 rfl (lv_at hl 3 rfl) ?_
  refine x_get (v := .ref q_keptHold) hB hV 2 rfl rfl 65 (by decide) k_810 (fs_ne (fs_ne (fs_ne (fs_ne h65 (by decide)) (by decide)) (by decide)) (by decide)) dX7_enough_96 ?_
  refine lv_iload_n hx hb dX7_enough_99 rfl (lv_at hl 0 rfl) ?_
  refine x_iald (v := 0) hB hV 1 rfl (by unfold vp_in; decide) rfl dX7_enough_100 ?_
  refine x_iast (g := (fun _ => 0)) hB hV 0 rfl (by unfold vp_in; decide) upd00 dX7_enough_101 (fun H locs hV => ?_)
  have hV : Vx D A s.heap H locs [(q_hold, .inl (cI, 6, .inl (fun _ => 0))), (q_keptHold, .inl (cI, 6, .inl (fun _ => 0))), (h, .inr (7, ((((fs.set 21 (.int 1)).set 52 (.int 0)).set 60 (.int 0)).set 21 (.int 0)))), (q_tick, .inl (cI, 2, .inl (fun _ => 0))), (q_count, .inl (cI, 12, .inl (fun _ => 0))), (q_kept, .inl (cI, 12, .inl (fun _ => 0))), (q_isKnown, .inl (cZ, 12, .inl (fun _ => 0))), (q_knownX, .inl (cI, 12, .inl (fun _ => 0))), (q_knownKey, .inl (cI, 12, .inl (fun _ => 0))), (q_store, .inl (cI, 48, .inl (fun _ => 0))), (q_key, .inl (cI, 192, .inl (fun _ => 0))), (q_keyX, .inl (cI, 192, .inl (fun _ => 0))), (q_keyAnswer, .inl (cI, 192, .inl (fun _ => 0))), (q_keyTick, .inl (cI, 192, .inl (fun _ => 0))), (q_knownWord, .inl (cI, 96, .inl (fun _ => 0))), (q_knownPlace, .inl (cI, 96, .inl (fun _ => 0))), (q_knownWorth, .inl (cI, 96, .inl (fun _ => 0))), (q_onceStore, .inl (cI, 30, .inl (fun _ => 0)))] := hV
  refine lv_iinc (v := 3) (lv' := [(2, .int 3), (1, .int 0), (3, .int 6), (0, .ref h)]) hx hb dX7_enough_102 hl (k := 0) rfl (by decide) (by decide) rfl (fun ls hl => ?_)
  refine lv_goto (tgt := 84) hx hb dX7_enough_105 (by decide) ?_
  refine lv_iload_n hx hb dX7_enough_84 rfl (lv_at hl 0 rfl) ?_
  refine lv_bipush (v := 6) hx hb dX7_enough_85 (by decide) ?_
  refine lv_icmp_ge (tgt := 108) hx hb dX7_enough_87 (by decide) (fun c_ => absurd c_ (by decide)) (fun c_ => ?_)
  refine lv_aload_n hx hb dX7_enough_90 rfl (lv_at hl 3 rfl) ?_
  refine x_get (v := .ref q_hold) hB hV 2 rfl rfl 6 (by decide) k_751 (fs_ne (fs_ne (fs_ne (fs_ne h6 (by decide)) (by decide)) (by decide)) (by decide)) dX7_enough_91 ?_
  refine lv_iload_n hx hb dX7_enough_94 rfl (lv_at hl 0 rfl) ?_
  refine lv_aload_n hx hb dX7_enough_95 rfl (lv_at hl 3 rfl) ?_
  refine x_get (v := .ref q_keptHold) hB hV 2 rfl rfl 65 (by decide) k_810 (fs_ne (fs_ne (fs_ne (fs_ne h65 (by decide)) (by decide)) (by decide)) (by decide)) dX7_enough_96 ?_
  refine lv_iload_n hx hb dX7_enough_99 rfl (lv_at hl 0 rfl) ?_
  refine x_iald (v := 0) hB hV 1 rfl (by unfold vp_in; decide) rfl dX7_enough_100 ?_
  refine x_iast (g := (fun _ => 0)) hB hV 0 rfl (by unfold vp_in; decide) upd00 dX7_enough_101 (fun H locs hV => ?_)
  have hV : Vx D A s.heap H locs [(q_hold, .inl (cI, 6, .inl (fun _ => 0))), (q_keptHold, .inl (cI, 6, .inl (fun _ => 0))), (h, .inr (7, ((((fs.set 21 (.int 1)).set 52 (.int 0)).set 60 (.int 0)).set 21 (.int 0)))), (q_tick, .inl (cI, 2, .inl (fun _ => 0))), (q_count, .inl (cI, 12, .inl (fun _ => 0))), (q_kept, .inl (cI, 12, .inl (fun _ => 0))), (q_isKnown, .inl (cZ, 12, .inl (fun _ => 0))), (q_knownX, .inl (cI, 12, .inl (fun _ => 0))), (q_knownKey, .inl (cI, 12, .inl (fun _ => 0))), (q_store, .inl (cI, 48, .inl (fun _ => 0))), (q_key, .inl (cI, 192, .inl (fun _ => 0))), (q_keyX, .inl (cI, 192, .inl (fun _ => 0))), (q_keyAnswer, .inl (cI, 192, .inl (fun _ => 0))), (q_keyTick, .inl (cI, 192, .inl (fun _ => 0))), (q_knownWord, .inl (cI, 96, .inl (fun _ => 0))), (q_knownPlace, .inl (cI, 96, .inl (fun _ => 0))), (q_knownWorth, .inl (cI, 96, .inl (fun _ => 0))), (q_onceStore, .inl (cI, 30, .inl (fun _ => 0)))] := hV
  refine lv_iinc (v := 4) (lv' := [(2, .int 4), (1, .int 0), (3, .int 6), (0, .ref h)]) hx hb dX7_enough_102 hl (k := 0) rfl (by decide) (by decide) rfl (fun ls hl => ?_)
  refine lv_goto (tgt := 84) hx hb dX7_enough_105 (by decide) ?_
  refine lv_iload_n hx hb dX7_enough_84 rfl (lv_at hl 0 rfl) ?_
  refine lv_bipush (v := 6) hx hb dX7_enough_85 (by decide) ?_
  refine lv_icmp_ge (tgt := 108) hx hb dX7_enough_87 (by decide) (fun c_ => absurd c_ (by decide)) (fun c_ => ?_)
  refine lv_aload_n hx hb dX7_enough_90 rfl (lv_at hl 3 rfl) ?_
  refine x_get (v := .ref q_hold) hB hV 2 rfl rfl 6 (by decide) k_751 (fs_ne (fs_ne (fs_ne (fs_ne h6 (by decide)) (by decide)) (by decide)) (by decide)) dX7_enough_91 ?_
  refine lv_iload_n hx hb dX7_enough_94 rfl (lv_at hl 0 rfl) ?_
  refine lv_aload_n hx hb dX7_enough_95 rfl (lv_at hl 3 rfl) ?_
  refine x_get (v := .ref q_keptHold) hB hV 2 rfl rfl 65 (by decide) k_810 (fs_ne (fs_ne (fs_ne (fs_ne h65 (by decide)) (by decide)) (by decide)) (by decide)) dX7_enough_96 ?_
  refine lv_iload_n hx hb dX7_enough_99 rfl (lv_at hl 0 rfl) ?_
  refine x_iald (v := 0) hB hV 1 rfl (by unfold vp_in; decide) rfl dX7_enough_100 ?_
  refine x_iast (g := (fun _ => 0)) hB hV 0 rfl (by unfold vp_in; decide) upd00 dX7_enough_101 (fun H locs hV => ?_)
  have hV : Vx D A s.heap H locs [(q_hold, .inl (cI, 6, .inl (fun _ => 0))), (q_keptHold, .inl (cI, 6, .inl (fun _ => 0))), (h, .inr (7, ((((fs.set 21 (.int 1)).set 52 (.int 0)).set 60 (.int 0)).set 21 (.int 0)))), (q_tick, .inl (cI, 2, .inl (fun _ => 0))), (q_count, .inl (cI, 12, .inl (fun _ => 0))), (q_kept, .inl (cI, 12, .inl (fun _ => 0))), (q_isKnown, .inl (cZ, 12, .inl (fun _ => 0))), (q_knownX, .inl (cI, 12, .inl (fun _ => 0))), (q_knownKey, .inl (cI, 12, .inl (fun _ => 0))), (q_store, .inl (cI, 48, .inl (fun _ => 0))), (q_key, .inl (cI, 192, .inl (fun _ => 0))), (q_keyX, .inl (cI, 192, .inl (fun _ => 0))), (q_keyAnswer, .inl (cI, 192, .inl (fun _ => 0))), (q_keyTick, .inl (cI, 192, .inl (fun _ => 0))), (q_knownWord, .inl (cI, 96, .inl (fun _ => 0))), (q_knownPlace, .inl (cI, 96, .inl (fun _ => 0))), (q_knownWorth, .inl (cI, 96, .inl (fun _ => 0))), (q_onceStore, .inl (cI, 30, .inl (fun _ => 0)))] := hV
  refine lv_iinc (v := 5) (lv' := [(2, .int 5), (1, .int 0), (3, .int 6), (0, .ref h)]) hx hb dX7_enough_102 hl (k := 0) rfl (by decide) (by decide) rfl (fun ls hl => ?_)
  refine lv_goto (tgt := 84) hx hb dX7_enough_105 (by decide) ?_
  refine lv_iload_n hx hb dX7_enough_84 rfl (lv_at hl 0 rfl) ?_
  refine lv_bipush (v := 6) hx hb dX7_enough_85 (by decide) ?_
  refine lv_icmp_ge (tgt := 108) hx hb dX7_enough_87 (by decide) (fun c_ => absurd c_ (by decide)) (fun c_ => ?_)
  refine lv_aload_n hx hb dX7_enough_90 rfl (lv_at hl 3 rfl) ?_
  refine x_get (v := .ref q_hold) hB hV 2 rfl rfl 6 (by decide) k_751 (fs_ne (fs_ne (fs_ne (fs_ne h6 (by decide)) (by decide)) (by decide)) (by decide)) dX7_enough_91 ?_
  refine lv_iload_n hx hb dX7_enough_94 rfl (lv_at hl 0 rfl) ?_
  refine lv_aload_n hx hb dX7_enough_95 rfl (lv_at hl 3 rfl) ?_
  refine x_get (v := .ref q_keptHold) hB hV 2 rfl rfl 65 (by decide) k_810 (fs_ne (fs_ne (fs_ne (fs_ne h65 (by decide)) (by decide)) (by decide)) (by decide)) dX7_enough_96 ?_
  refine lv_iload_n hx hb dX7_enough_99 rfl (lv_at hl 0 rfl) ?_
  refine x_iald (v := 0) hB hV 1 rfl (by unfold vp_in; decide) rfl dX7_enough_100 ?_
  refine x_iast (g := (fun _ => 0)) hB hV 0 rfl (by unfold vp_in; decide) upd00 dX7_enough_101 (fun H locs hV => ?_)
  have hV : Vx D A s.heap H locs [(q_hold, .inl (cI, 6, .inl (fun _ => 0))), (q_keptHold, .inl (cI, 6, .inl (fun _ => 0))), (h, .inr (7, ((((fs.set 21 (.int 1)).set 52 (.int 0)).set 60 (.int 0)).set 21 (.int 0)))), (q_tick, .inl (cI, 2, .inl (fun _ => 0))), (q_count, .inl (cI, 12, .inl (fun _ => 0))), (q_kept, .inl (cI, 12, .inl (fun _ => 0))), (q_isKnown, .inl (cZ, 12, .inl (fun _ => 0))), (q_knownX, .inl (cI, 12, .inl (fun _ => 0))), (q_knownKey, .inl (cI, 12, .inl (fun _ => 0))), (q_store, .inl (cI, 48, .inl (fun _ => 0))), (q_key, .inl (cI, 192, .inl (fun _ => 0))), (q_keyX, .inl (cI, 192, .inl (fun _ => 0))), (q_keyAnswer, .inl (cI, 192, .inl (fun _ => 0))), (q_keyTick, .inl (cI, 192, .inl (fun _ => 0))), (q_knownWord, .inl (cI, 96, .inl (fun _ => 0))), (q_knownPlace, .inl (cI, 96, .inl (fun _ => 0))), (q_knownWorth, .inl (cI, 96, .inl (fun _ => 0))), (q_onceStore, .inl (cI, 30, .inl (fun _ => 0)))] := hV
  refine lv_iinc (v := 6) (lv' := [(2, .int 6), (1, .int 0), (3, .int 6), (0, .ref h)]) hx hb dX7_enough_102 hl (k := 0) rfl (by decide) (by decide) rfl (fun ls hl => ?_)
  refine lv_goto (tgt := 84) hx hb dX7_enough_105 (by decide) ?_
  refine lv_iload_n hx hb dX7_enough_84 rfl (lv_at hl 0 rfl) ?_
  refine lv_bipush (v := 6) hx hb dX7_enough_85 (by decide) ?_
  refine lv_icmp_ge (tgt := 108) hx hb dX7_enough_87 (by decide) (fun c_ => ?_) (fun c_ => absurd (by decide) c_)
  refine lv_iload_n hx hb dX7_enough_108 rfl (lv_at hl 1 rfl) ?_
  exact x_iret (w := []) hB hr hV hA (Nat.le_of_ble_eq_true rfl) (Nat.le_of_ble_eq_true rfl) [] rfl rfl (by decide) dX7_enough_109 ⟨rfl, rfl⟩
set_option maxHeartbeats 4000000 in
set_option maxRecDepth 100000 in
theorem lp_a1 {p : Program} {l : Launch} {e : Env} {R : Room} {s : State} {m : MethodId} {args : Array Value} {below : List Frame} {meth : Method} {c : Code} {D : va_G} {cI cZ cS : ClassId} {A : Nat → Prop} {N0 : NT} {cells slots : Nat} {Q : State → Prop} (hB : Bx p s m meth c args cX7_again 3 RX7 D cI cZ cS A N0) (h : Nat) (fs : List Value) (q_tick : Nat) (q_count : Nat) (q_kept : Nat) (q_isKnown : Nat) (q_knownX : Nat) (q_knownKey : Nat) (q_store : Nat) (q_key : Nat) (q_keyX : Nat) (q_keyAnswer : Nat) (q_keyTick : Nat) (q_knownWord : Nat) (q_knownPlace : Nat) (q_knownWorth : Nat) (h14 : fs[14]? = some (.ref q_tick)) (h8 : fs[8]? = some (.ref q_count)) (h9 : fs[9]? = some (.ref q_kept)) (h20 : fs[20]? = some (.ref q_isKnown)) (h15 : fs[15]? = some (.ref q_knownX)) (h16 : fs[16]? = some (.ref q_knownKey)) (h7 : fs[7]? = some (.ref q_store)) (h10 : fs[10]? = some (.ref q_key)) (h11 : fs[11]? = some (.ref q_keyX)) (h12 : fs[12]? = some (.ref q_keyAnswer)) (h13 : fs[13]? = some (.ref q_keyTick)) (h17 : fs[17]? = some (.ref q_knownWord)) (h18 : fs[18]? = some (.ref q_knownPlace)) (h19 : fs[19]? = some (.ref q_knownWorth)) (K : ∀ (H : Heap) (locs : List Loc) (ls : Array Slot), Vx D A s.heap H locs [(h, .inr (7, fs)), (q_tick, .inl (cI, 2, .inl (fun _ => 0))), (q_count, .inl (cI, 12, .inl (fun _ => 0))), (q_kept, .inl (cI, 12, .inl (fun _ => 0))), (q_isKnown, .inl (cZ, 12, .inl (fun _ => 0))), (q_knownX, .inl (cI, 12, .inl (fun _ => 0))), (q_knownKey, .inl (cI, 12, .inl (fun _ => 0))), (q_store, .inl (cI, 48, .inl (fun _ => 0))), (q_key, .inl (cI, 192, .inl (fun _ => 0))), (q_keyX, .inl (cI, 192, .inl (fun _ => 0))), (q_keyAnswer, .inl (cI, 192, .inl (fun _ => 0))), (q_keyTick, .inl (cI, 192, .inl (fun _ => 0))), (q_knownWord, .inl (cI, 96, .inl (fun _ => 0))), (q_knownPlace, .inl (cI, 96, .inl (fun _ => 0))), (q_knownWorth, .inl (cI, 96, .inl (fun _ => 0)))] → lv_has ls 3 [(2, .int 24), (1, .int 1), (0, .ref h)] → W p l e R s m args below meth c H locs cells slots Q (F0 m 102 ls [])) :
    ∀ (k : Nat) (i : Nat) (H : Heap) (locs : List Loc) (ls : Array Slot), i + k = 24 → Vx D A s.heap H locs [(h, .inr (7, fs)), (q_tick, .inl (cI, 2, .inl (fun _ => 0))), (q_count, .inl (cI, 12, .inl (fun _ => 0))), (q_kept, .inl (cI, 12, .inl (fun _ => 0))), (q_isKnown, .inl (cZ, 12, .inl (fun _ => 0))), (q_knownX, .inl (cI, 12, .inl (fun _ => 0))), (q_knownKey, .inl (cI, 12, .inl (fun _ => 0))), (q_store, .inl (cI, 48, .inl (fun _ => 0))), (q_key, .inl (cI, 192, .inl (fun _ => 0))), (q_keyX, .inl (cI, 192, .inl (fun _ => 0))), (q_keyAnswer, .inl (cI, 192, .inl (fun _ => 0))), (q_keyTick, .inl (cI, 192, .inl (fun _ => 0))), (q_knownWord, .inl (cI, 96, .inl (fun _ => 0))), (q_knownPlace, .inl (cI, 96, .inl (fun _ => 0))), (q_knownWorth, .inl (cI, 96, .inl (fun _ => 0)))] → lv_has ls 3 [(2, .int (nI i)), (1, .int 1), (0, .ref h)] → W p l e R s m args below meth c H locs cells slots Q (F0 m 62 ls []) := by
  have hx := hB.1
  have hb := hB.2.1
  intro k
  induction k with
  | zero =>
    intro i H locs ls hk hV hl
    obtain rfl : i = 24 := by omega
    have hV : Vx D A s.heap H locs [(h, .inr (7, fs)), (q_tick, .inl (cI, 2, .inl (fun _ => 0))), (q_count, .inl (cI, 12, .inl (fun _ => 0))), (q_kept, .inl (cI, 12, .inl (fun _ => 0))), (q_isKnown, .inl (cZ, 12, .inl (fun _ => 0))), (q_knownX, .inl (cI, 12, .inl (fun _ => 0))), (q_knownKey, .inl (cI, 12, .inl (fun _ => 0))), (q_store, .inl (cI, 48, .inl (fun _ => 0))), (q_key, .inl (cI, 192, .inl (fun _ => 0))), (q_keyX, .inl (cI, 192, .inl (fun _ => 0))), (q_keyAnswer, .inl (cI, 192, .inl (fun _ => 0))), (q_keyTick, .inl (cI, 192, .inl (fun _ => 0))), (q_knownWord, .inl (cI, 96, .inl (fun _ => 0))), (q_knownPlace, .inl (cI, 96, .inl (fun _ => 0))), (q_knownWorth, .inl (cI, 96, .inl (fun _ => 0)))] := hV
    have hl : lv_has ls 3 [(2, .int 24), (1, .int 1), (0, .ref h)] := hl
    refine lv_iload_n hx hb dX7_again_62 rfl (lv_at hl 0 rfl) ?_
    refine lv_bipush (v := 24) hx hb dX7_again_63 (by decide) ?_
    refine lv_icmp_ge (tgt := 102) hx hb dX7_again_65 (by decide) (fun c_ => ?_) (fun c_ => absurd (by decide) c_)
    exact K  H locs ls hV (lv_sub hl [0, 1, 2] rfl)
  | succ k ih =>
    intro i H locs ls hk hV hl
    have hV : Vx D A s.heap H locs [(h, .inr (7, fs)), (q_tick, .inl (cI, 2, .inl (fun _ => 0))), (q_count, .inl (cI, 12, .inl (fun _ => 0))), (q_kept, .inl (cI, 12, .inl (fun _ => 0))), (q_isKnown, .inl (cZ, 12, .inl (fun _ => 0))), (q_knownX, .inl (cI, 12, .inl (fun _ => 0))), (q_knownKey, .inl (cI, 12, .inl (fun _ => 0))), (q_store, .inl (cI, 48, .inl (fun _ => 0))), (q_key, .inl (cI, 192, .inl (fun _ => 0))), (q_keyX, .inl (cI, 192, .inl (fun _ => 0))), (q_keyAnswer, .inl (cI, 192, .inl (fun _ => 0))), (q_keyTick, .inl (cI, 192, .inl (fun _ => 0))), (q_knownWord, .inl (cI, 96, .inl (fun _ => 0))), (q_knownPlace, .inl (cI, 96, .inl (fun _ => 0))), (q_knownWorth, .inl (cI, 96, .inl (fun _ => 0)))] := hV
    have hl : lv_has ls 3 [(2, .int (nI i)), (1, .int 1), (0, .ref h)] := hl
    refine lv_iload_n hx hb dX7_again_62 rfl (lv_at hl 0 rfl) ?_
    refine lv_bipush (v := 24) hx hb dX7_again_63 (by decide) ?_
    refine lv_icmp_ge (tgt := 102) hx hb dX7_again_65 (by decide) (fun c_ => absurd c_ (nI_ge (a := i) (b := 24) (by omega) (by decide))) (fun c_ => ?_)
    refine lv_iload_n hx hb dX7_again_68 rfl (lv_at hl 1 rfl) ?_
    refine lv_if_eq (tgt := 94) hx hb dX7_again_69 (by decide) (fun c_ => absurd c_ (by decide)) (fun c_ => ?_)
    refine lv_aload_n hx hb dX7_again_72 rfl (lv_at hl 2 rfl) ?_
    refine x_get (v := .ref q_store) hB hV 0 rfl rfl 7 (by decide) k_752 h7 dX7_again_73 ?_
    refine lv_bipush (v := 24) hx hb dX7_again_76 (by decide) ?_
    refine lv_iload_n hx hb dX7_again_78 rfl (lv_at hl 0 rfl) ?_
    refine lv_iadd hx hb dX7_again_79 ?_
    refine x_ev (y := nI (24 + i)) (nI_add 24 i) ?_
    refine x_iald (v := 0) hB hV 7 rfl (vp_in_nI (by omega) (by decide)) rfl dX7_again_80 ?_
    refine lv_aload_n hx hb dX7_again_81 rfl (lv_at hl 2 rfl) ?_
    refine x_get (v := .ref q_store) hB hV 0 rfl rfl 7 (by decide) k_752 h7 dX7_again_82 ?_
    refine lv_iload_n hx hb dX7_again_85 rfl (lv_at hl 0 rfl) ?_
    refine x_iald (v := 0) hB hV 7 rfl (vp_in_nI (by omega) (by decide)) rfl dX7_again_86 ?_
    refine lv_icmp_ne (tgt := 94) hx hb dX7_again_87 (by decide) (fun c_ => absurd (by decide) c_) (fun c_ => ?_)
    refine lv_iconst (v := 1) hx hb dX7_again_90 (by decide) ?_
    refine lv_goto (tgt := 95) hx hb dX7_again_91 (by decide) ?_
    refine lv_istore_n (lv' := [(1, .int 1), (2, .int (nI i)), (0, .ref h)]) hx hb dX7_again_95 rfl hl (by decide) rfl (fun ls hl => ?_)
    refine lv_iinc (v := nI (i + 1)) (lv' := [(2, .int (nI (i + 1))), (1, .int 1), (0, .ref h)]) hx hb dX7_again_96 hl (k := 1) rfl (nI_1 i) (by decide) rfl (fun ls hl => ?_)
    refine lv_goto (tgt := 62) hx hb dX7_again_99 (by decide) ?_
    exact ih (i + 1) H locs ls (by omega) hV (lv_sub hl [0, 1, 2] rfl)
set_option maxHeartbeats 4000000 in
set_option maxRecDepth 100000 in
theorem m_again (l : Launch) (D : va_G) (cI cZ cS : ClassId) (N0 : NT) (h : Nat) (fs : List Value) (q_tick : Nat) (q_count : Nat) (q_kept : Nat) (q_isKnown : Nat) (q_knownX : Nat) (q_knownKey : Nat) (q_store : Nat) (q_key : Nat) (q_keyX : Nat) (q_keyAnswer : Nat) (q_keyTick : Nat) (q_knownWord : Nat) (q_knownPlace : Nat) (q_knownWorth : Nat) (h21 : fs[21]? = some (.int 0)) (h52 : fs[52]? = some (.int 0)) (h24 : fs[24]? = some (.int 0)) (h14 : fs[14]? = some (.ref q_tick)) (h8 : fs[8]? = some (.ref q_count)) (h9 : fs[9]? = some (.ref q_kept)) (h20 : fs[20]? = some (.ref q_isKnown)) (h15 : fs[15]? = some (.ref q_knownX)) (h16 : fs[16]? = some (.ref q_knownKey)) (h7 : fs[7]? = some (.ref q_store)) (h10 : fs[10]? = some (.ref q_key)) (h11 : fs[11]? = some (.ref q_keyX)) (h12 : fs[12]? = some (.ref q_keyAnswer)) (h13 : fs[13]? = some (.ref q_keyTick)) (h17 : fs[17]? = some (.ref q_knownWord)) (h18 : fs[18]? = some (.ref q_knownPlace)) (h19 : fs[19]? = some (.ref q_knownWorth)) : Mx l D cI cZ cS N0 yX7_again cX7_again 3 (some .int) 3 0 0 [.ref h] [(h, .inr (7, fs)), (q_tick, .inl (cI, 2, .inl (fun _ => 0))), (q_count, .inl (cI, 12, .inl (fun _ => 0))), (q_kept, .inl (cI, 12, .inl (fun _ => 0))), (q_isKnown, .inl (cZ, 12, .inl (fun _ => 0))), (q_knownX, .inl (cI, 12, .inl (fun _ => 0))), (q_knownKey, .inl (cI, 12, .inl (fun _ => 0))), (q_store, .inl (cI, 48, .inl (fun _ => 0))), (q_key, .inl (cI, 192, .inl (fun _ => 0))), (q_keyX, .inl (cI, 192, .inl (fun _ => 0))), (q_keyAnswer, .inl (cI, 192, .inl (fun _ => 0))), (q_keyTick, .inl (cI, 192, .inl (fun _ => 0))), (q_knownWord, .inl (cI, 96, .inl (fun _ => 0))), (q_knownPlace, .inl (cI, 96, .inl (fun _ => 0))), (q_knownWorth, .inl (cI, 96, .inl (fun _ => 0)))] (fun v w => v = some (.int 1) ∧ w = ([] : va_W)) := by
  refine x_enter (by decide) (Nat.le_of_ble_eq_true rfl) ?_
  intro p e s m args below meth c A ls H locs hB hr hin hl hV hA
  have hx := hB.1
  have hb := hB.2.1
  have hl : lv_has ls 3 [(0, .ref h)] := hl
  refine lv_aload_n hx hb dX7_again_0 rfl (lv_at hl 0 rfl) ?_
  refine x_callV (n := 0) (wr := []) (q0 := 0) (As := []) (rest := []) hB hV (x_N hB) hl.1 (c_tries l D cI cZ cS N0 h fs q_tick q_count q_kept q_isKnown q_knownX q_knownKey q_store q_key q_keyX q_keyAnswer q_keyTick q_knownWord q_knownPlace q_knownWorth h21 h52 h14 h8 h9 h20 h15 h16 h7 h10 h11 h12 h13 h17 h18 h19) rfl rfl k_1107 k_65 k_1104 k_1106 k_45 (by decide +kernel) ⟨(Nat.le_of_ble_eq_true rfl), (Nat.le_of_ble_eq_true rfl)⟩ rfl (Nat.le_of_ble_eq_true rfl) ⟨(Nat.le_of_ble_eq_true rfl), (Nat.le_of_ble_eq_true rfl)⟩ [0, 1, 2, 3, 4, 5, 6, 7, 8, 9, 10, 11, 12, 13, 14] [] rfl rfl rfl ⟨by decide, by decide, by decide⟩ dX7_again_1 (fun v w H locs hp hV => ?_)
  obtain ⟨rfl, rfl⟩ := hp
  have hV : Vx D A s.heap H locs [(h, .inr (7, ((fs.set 21 (.int 1)).set 52 (.int 0)))), (q_tick, .inl (cI, 2, .inl (fun _ => 0))), (q_count, .inl (cI, 12, .inl (fun _ => 0))), (q_kept, .inl (cI, 12, .inl (fun _ => 0))), (q_isKnown, .inl (cZ, 12, .inl (fun _ => 0))), (q_knownX, .inl (cI, 12, .inl (fun _ => 0))), (q_knownKey, .inl (cI, 12, .inl (fun _ => 0))), (q_store, .inl (cI, 48, .inl (fun _ => 0))), (q_key, .inl (cI, 192, .inl (fun _ => 0))), (q_keyX, .inl (cI, 192, .inl (fun _ => 0))), (q_keyAnswer, .inl (cI, 192, .inl (fun _ => 0))), (q_keyTick, .inl (cI, 192, .inl (fun _ => 0))), (q_knownWord, .inl (cI, 96, .inl (fun _ => 0))), (q_knownPlace, .inl (cI, 96, .inl (fun _ => 0))), (q_knownWorth, .inl (cI, 96, .inl (fun _ => 0)))] := hV
  refine W.eq (g2 := F0 m 4 ls []) rfl ?_
  refine lv_iconst (v := 0) hx hb dX7_again_4 (by decide) ?_
  refine lv_istore_n (lv' := [(1, .int 0), (0, .ref h)]) hx hb dX7_again_5 rfl hl (by decide) rfl (fun ls hl => ?_)
  refine lv_iload_n hx hb dX7_again_6 rfl (lv_at hl 0 rfl) ?_
  refine lv_aload_n hx hb dX7_again_7 rfl (lv_at hl 1 rfl) ?_
  refine x_get (v := .int 0) hB hV 0 rfl rfl 24 (by decide) k_769 (fs_ne (fs_ne h24 (by decide)) (by decide)) dX7_again_8 ?_
  refine lv_icmp_ge (tgt := 47) hx hb dX7_again_11 (by decide) (fun c_ => ?_) (fun c_ => absurd (by decide) c_)
  refine lv_aload_n hx hb dX7_again_47 rfl (lv_at hl 1 rfl) ?_
  refine x_get (v := .int 0) hB hV 0 rfl rfl 52 (by decide) k_797 (fs_eq ((fs_ls (fs_lt h52)))) dX7_again_48 ?_
  refine lv_if_ne (tgt := 58) hx hb dX7_again_51 (by decide) (fun c_ => absurd (by decide) c_) (fun c_ => ?_)
  refine lv_iconst (v := 1) hx hb dX7_again_54 (by decide) ?_
  refine lv_goto (tgt := 59) hx hb dX7_again_55 (by decide) ?_
  refine lv_istore_n (lv' := [(1, .int 1), (0, .ref h)]) hx hb dX7_again_59 rfl hl (by decide) rfl (fun ls hl => ?_)
  refine lv_iconst (v := 0) hx hb dX7_again_60 (by decide) ?_
  refine lv_istore_n (lv' := [(2, .int 0), (1, .int 1), (0, .ref h)]) hx hb dX7_again_61 rfl hl (by decide) rfl (fun ls hl => ?_)
  refine lp_a1 hB h ((fs.set 21 (.int 1)).set 52 (.int 0)) q_tick q_count q_kept q_isKnown q_knownX q_knownKey q_store q_key q_keyX q_keyAnswer q_keyTick q_knownWord q_knownPlace q_knownWorth (fs_ne (fs_ne h14 (by decide)) (by decide)) (fs_ne (fs_ne h8 (by decide)) (by decide)) (fs_ne (fs_ne h9 (by decide)) (by decide)) (fs_ne (fs_ne h20 (by decide)) (by decide)) (fs_ne (fs_ne h15 (by decide)) (by decide)) (fs_ne (fs_ne h16 (by decide)) (by decide)) (fs_ne (fs_ne h7 (by decide)) (by decide)) (fs_ne (fs_ne h10 (by decide)) (by decide)) (fs_ne (fs_ne h11 (by decide)) (by decide)) (fs_ne (fs_ne h12 (by decide)) (by decide)) (fs_ne (fs_ne h13 (by decide)) (by decide)) (fs_ne (fs_ne h17 (by decide)) (by decide)) (fs_ne (fs_ne h18 (by decide)) (by decide)) (fs_ne (fs_ne h19 (by decide)) (by decide)) (fun H locs ls hV hl => ?_) 24 0 H locs ls (by omega) hV (lv_sub hl [0, 1, 2] rfl)
  refine lv_iconst (v := 0) hx hb dX7_again_102 (by decide) ?_
  refine lv_istore_n (lv' := [(2, .int 0), (1, .int 1), (0, .ref h)]) hx hb dX7_again_103 rfl hl (by decide) rfl (fun ls hl => ?_)
  refine lv_iload_n hx hb dX7_again_104 rfl (lv_at hl 0 rfl) ?_
  refine lv_bipush (v := 6) hx hb dX7_again_105 (by decide) ?_
  refine lv_icmp_ge (tgt := 144) hx hb dX7_again_107 (by decide) (fun c_ => absurd c_ (by decide)) (fun c_ => ?_)
  refine lv_iload_n hx hb dX7_again_110 rfl (lv_at hl 1 rfl) ?_
  refine lv_if_eq (tgt := 136) hx hb dX7_again_111 (by decide) (fun c_ => absurd c_ (by decide)) (fun c_ => ?_)
  refine lv_aload_n hx hb dX7_again_114 rfl (lv_at hl 2 rfl) ?_
  refine x_get (v := .ref q_count) hB hV 0 rfl rfl 8 (by decide) k_753 (fs_ne (fs_ne h8 (by decide)) (by decide)) dX7_again_115 ?_
  refine lv_bipush (v := 6) hx hb dX7_again_118 (by decide) ?_
  refine lv_iload_n hx hb dX7_again_120 rfl (lv_at hl 0 rfl) ?_
  refine lv_iadd hx hb dX7_again_121 ?_
  refine x_ev (y := 6) (by decide) ?_
  refine x_iald (v := 0) hB hV 2 rfl (by unfold vp_in; decide) rfl dX7_again_122 ?_
  refine lv_aload_n hx hb dX7_again_123 rfl (lv_at hl 2 rfl) ?_
  refine x_get (v := .ref q_count) hB hV 0 rfl rfl 8 (by decide) k_753 (fs_ne (fs_ne h8 (by decide)) (by decide)) dX7_again_124 ?_
  refine lv_iload_n hx hb dX7_again_127 rfl (lv_at hl 0 rfl) ?_
  refine x_iald (v := 0) hB hV 2 rfl (by unfold vp_in; decide) rfl dX7_again_128 ?_
  refine lv_icmp_ne (tgt := 136) hx hb dX7_again_129 (by decide) (fun c_ => absurd (by decide) c_) (fun c_ => ?_)
  refine lv_iconst (v := 1) hx hb dX7_again_132 (by decide) ?_
  refine lv_goto (tgt := 137) hx hb dX7_again_133 (by decide) ?_
  refine lv_istore_n (lv' := [(1, .int 1), (2, .int 0), (0, .ref h)]) hx hb dX7_again_137 rfl hl (by decide) rfl (fun ls hl => ?_)
  refine lv_iinc (v := 1) (lv' := [(2, .int 1), (1, .int 1), (0, .ref h)]) hx hb dX7_again_138 hl (k := 1) rfl (by decide) (by decide) rfl (fun ls hl => ?_)
  refine lv_goto (tgt := 104) hx hb dX7_again_141 (by decide) ?_
  refine lv_iload_n hx hb dX7_again_104 rfl (lv_at hl 0 rfl) ?_
  refine lv_bipush (v := 6) hx hb dX7_again_105 (by decide) ?_
  refine lv_icmp_ge (tgt := 144) hx hb dX7_again_107 (by decide) (fun c_ => absurd c_ (by decide)) (fun c_ => ?_)
  refine lv_iload_n hx hb dX7_again_110 rfl (lv_at hl 1 rfl) ?_
  refine lv_if_eq (tgt := 136) hx hb dX7_again_111 (by decide) (fun c_ => absurd c_ (by decide)) (fun c_ => ?_)
  refine lv_aload_n hx hb dX7_again_114 rfl (lv_at hl 2 rfl) ?_
  refine x_get (v := .ref q_count) hB hV 0 rfl rfl 8 (by decide) k_753 (fs_ne (fs_ne h8 (by decide)) (by decide)) dX7_again_115 ?_
  refine lv_bipush (v := 6) hx hb dX7_again_118 (by decide) ?_
  refine lv_iload_n hx hb dX7_again_120 rfl (lv_at hl 0 rfl) ?_
  refine lv_iadd hx hb dX7_again_121 ?_
  refine x_ev (y := 7) (by decide) ?_
  refine x_iald (v := 0) hB hV 2 rfl (by unfold vp_in; decide) rfl dX7_again_122 ?_
  refine lv_aload_n hx hb dX7_again_123 rfl (lv_at hl 2 rfl) ?_
  refine x_get (v := .ref q_count) hB hV 0 rfl rfl 8 (by decide) k_753 (fs_ne (fs_ne h8 (by decide)) (by decide)) dX7_again_124 ?_
  refine lv_iload_n hx hb dX7_again_127 rfl (lv_at hl 0 rfl) ?_
  refine x_iald (v := 0) hB hV 2 rfl (by unfold vp_in; decide) rfl dX7_again_128 ?_
  refine lv_icmp_ne (tgt := 136) hx hb dX7_again_129 (by decide) (fun c_ => absurd (by decide) c_) (fun c_ => ?_)
  refine lv_iconst (v := 1) hx hb dX7_again_132 (by decide) ?_
  refine lv_goto (tgt := 137) hx hb dX7_again_133 (by decide) ?_
  refine lv_istore_n (lv' := [(1, .int 1), (2, .int 1), (0, .ref h)]) hx hb dX7_again_137 rfl hl (by decide) rfl (fun ls hl => ?_)
  refine lv_iinc (v := 2) (lv' := [(2, .int 2), (1, .int 1), (0, .ref h)]) hx hb dX7_again_138 hl (k := 1) rfl (by decide) (by decide) rfl (fun ls hl => ?_)
  refine lv_goto (tgt := 104) hx hb dX7_again_141 (by decide) ?_
  refine lv_iload_n hx hb dX7_again_104 rfl (lv_at hl 0 rfl) ?_
  refine lv_bipush (v := 6) hx hb dX7_again_105 (by decide) ?_
  refine lv_icmp_ge (tgt := 144) hx hb dX7_again_107 (by decide) (fun c_ => absurd c_ (by decide)) (fun c_ => ?_)
  refine lv_iload_n hx hb dX7_again_110 rfl (lv_at hl 1 rfl) ?_
  refine lv_if_eq (tgt := 136) hx hb dX7_again_111 (by decide) (fun c_ => absurd c_ (by decide)) (fun c_ => ?_)
  refine lv_aload_n hx hb dX7_again_114 rfl (lv_at hl 2 rfl) ?_
  refine x_get (v := .ref q_count) hB hV 0 rfl rfl 8 (by decide) k_753 (fs_ne (fs_ne h8 (by decide)) (by decide)) dX7_again_115 ?_
  refine lv_bipush (v := 6) hx hb dX7_again_118 (by decide) ?_
  refine lv_iload_n hx hb dX7_again_120 rfl (lv_at hl 0 rfl) ?_
  refine lv_iadd hx hb dX7_again_121 ?_
  refine x_ev (y := 8) (by decide) ?_
  refine x_iald (v := 0) hB hV 2 rfl (by unfold vp_in; decide) rfl dX7_again_122 ?_
  refine lv_aload_n hx hb dX7_again_123 rfl (lv_at hl 2 rfl) ?_
  refine x_get (v := .ref q_count) hB hV 0 rfl rfl 8 (by decide) k_753 (fs_ne (fs_ne h8 (by decide)) (by decide)) dX7_again_124 ?_
  refine lv_iload_n hx hb dX7_again_127 rfl (lv_at hl 0 rfl) ?_
  refine x_iald (v := 0) hB hV 2 rfl (by unfold vp_in; decide) rfl dX7_again_128 ?_
  refine lv_icmp_ne (tgt := 136) hx hb dX7_again_129 (by decide) (fun c_ => absurd (by decide) c_) (fun c_ => ?_)
  refine lv_iconst (v := 1) hx hb dX7_again_132 (by decide) ?_
  refine lv_goto (tgt := 137) hx hb dX7_again_133 (by decide) ?_
  refine lv_istore_n (lv' := [(1, .int 1), (2, .int 2), (0, .ref h)]) hx hb dX7_again_137 rfl hl (by decide) rfl (fun ls hl => ?_)
  refine lv_iinc (v := 3) (lv' := [(2, .int 3), (1, .int 1), (0, .ref h)]) hx hb dX7_again_138 hl (k := 1) rfl (by decide) (by decide) rfl (fun ls hl => ?_)
  refine lv_goto (tgt := 104) hx hb dX7_again_141 (by decide) ?_
  refine lv_iload_n hx hb dX7_again_104 rfl (lv_at hl 0 rfl) ?_
  refine lv_bipush (v := 6) hx hb dX7_again_105 (by decide) ?_
  refine lv_icmp_ge (tgt := 144) hx hb dX7_again_107 (by decide) (fun c_ => absurd c_ (by decide)) (fun c_ => ?_)
  refine lv_iload_n hx hb dX7_again_110 rfl (lv_at hl 1 rfl) ?_
  refine lv_if_eq (tgt := 136) hx hb dX7_again_111 (by decide) (fun c_ => absurd c_ (by decide)) (fun c_ => ?_)
  refine lv_aload_n hx hb dX7_again_114 rfl (lv_at hl 2 rfl) ?_
  refine x_get (v := .ref q_count) hB hV 0 rfl rfl 8 (by decide) k_753 (fs_ne (fs_ne h8 (by decide)) (by decide)) dX7_again_115 ?_
  refine lv_bipush (v := 6) hx hb dX7_again_118 (by decide) ?_
  refine lv_iload_n hx hb dX7_again_120 rfl (lv_at hl 0 rfl) ?_
  refine lv_iadd hx hb dX7_again_121 ?_
  refine x_ev (y := 9) (by decide) ?_
  refine x_iald (v := 0) hB hV 2 rfl (by unfold vp_in; decide) rfl dX7_again_122 ?_
  refine lv_aload_n hx hb dX7_again_123 rfl (lv_at hl 2 rfl) ?_
  refine x_get (v := .ref q_count) hB hV 0 rfl rfl 8 (by decide) k_753 (fs_ne (fs_ne h8 (by decide)) (by decide)) dX7_again_124 ?_
  refine lv_iload_n hx hb dX7_again_127 rfl (lv_at hl 0 rfl) ?_
  refine x_iald (v := 0) hB hV 2 rfl (by unfold vp_in; decide) rfl dX7_again_128 ?_
  refine lv_icmp_ne (tgt := 136) hx hb dX7_again_129 (by decide) (fun c_ => absurd (by decide) c_) (fun c_ => ?_)
  refine lv_iconst (v := 1) hx hb dX7_again_132 (by decide) ?_
  refine lv_goto (tgt := 137) hx hb dX7_again_133 (by decide) ?_
  refine lv_istore_n (lv' := [(1, .int 1), (2, .int 3), (0, .ref h)]) hx hb dX7_again_137 rfl hl (by decide) rfl (fun ls hl => ?_)
  refine lv_iinc (v := 4) (lv' := [(2, .int 4), (1, .int 1), (0, .ref h)]) hx hb dX7_again_138 hl (k := 1) rfl (by decide) (by decide) rfl (fun ls hl => ?_)
  refine lv_goto (tgt := 104) hx hb dX7_again_141 (by decide) ?_
  refine lv_iload_n hx hb dX7_again_104 rfl (lv_at hl 0 rfl) ?_
  refine lv_bipush (v := 6) hx hb dX7_again_105 (by decide) ?_
  refine lv_icmp_ge (tgt := 144) hx hb dX7_again_107 (by decide) (fun c_ => absurd c_ (by decide)) (fun c_ => ?_)
  refine lv_iload_n hx hb dX7_again_110 rfl (lv_at hl 1 rfl) ?_
  refine lv_if_eq (tgt := 136) hx hb dX7_again_111 (by decide) (fun c_ => absurd c_ (by decide)) (fun c_ => ?_)
  refine lv_aload_n hx hb dX7_again_114 rfl (lv_at hl 2 rfl) ?_
  refine x_get (v := .ref q_count) hB hV 0 rfl rfl 8 (by decide) k_753 (fs_ne (fs_ne h8 (by decide)) (by decide)) dX7_again_115 ?_
  refine lv_bipush (v := 6) hx hb dX7_again_118 (by decide) ?_
  refine lv_iload_n hx hb dX7_again_120 rfl (lv_at hl 0 rfl) ?_
  refine lv_iadd hx hb dX7_again_121 ?_
  refine x_ev (y := 10) (by decide) ?_
  refine x_iald (v := 0) hB hV 2 rfl (by unfold vp_in; decide) rfl dX7_again_122 ?_
  refine lv_aload_n hx hb dX7_again_123 rfl (lv_at hl 2 rfl) ?_
  refine x_get (v := .ref q_count) hB hV 0 rfl rfl 8 (by decide) k_753 (fs_ne (fs_ne h8 (by decide)) (by decide)) dX7_again_124 ?_
  refine lv_iload_n hx hb dX7_again_127 rfl (lv_at hl 0 rfl) ?_
  refine x_iald (v := 0) hB hV 2 rfl (by unfold vp_in; decide) rfl dX7_again_128 ?_
  refine lv_icmp_ne (tgt := 136) hx hb dX7_again_129 (by decide) (fun c_ => absurd (by decide) c_) (fun c_ => ?_)
  refine lv_iconst (v := 1) hx hb dX7_again_132 (by decide) ?_
  refine lv_goto (tgt := 137) hx hb dX7_again_133 (by decide) ?_
  refine lv_istore_n (lv' := [(1, .int 1), (2, .int 4), (0, .ref h)]) hx hb dX7_again_137 rfl hl (by decide) rfl (fun ls hl => ?_)
  refine lv_iinc (v := 5) (lv' := [(2, .int 5), (1, .int 1), (0, .ref h)]) hx hb dX7_again_138 hl (k := 1) rfl (by decide) (by decide) rfl (fun ls hl => ?_)
  refine lv_goto (tgt := 104) hx hb dX7_again_141 (by decide) ?_
  refine lv_iload_n hx hb dX7_again_104 rfl (lv_at hl 0 rfl) ?_
  refine lv_bipush (v := 6) hx hb dX7_again_105 (by decide) ?_
  refine lv_icmp_ge (tgt := 144) hx hb dX7_again_107 (by decide) (fun c_ => absurd c_ (by decide)) (fun c_ => ?_)
  refine lv_iload_n hx hb dX7_again_110 rfl (lv_at hl 1 rfl) ?_
  refine lv_if_eq (tgt := 136) hx hb dX7_again_111 (by decide) (fun c_ => absurd c_ (by decide)) (fun c_ => ?_)
  refine lv_aload_n hx hb dX7_again_114 rfl (lv_at hl 2 rfl) ?_
  refine x_get (v := .ref q_count) hB hV 0 rfl rfl 8 (by decide) k_753 (fs_ne (fs_ne h8 (by decide)) (by decide)) dX7_again_115 ?_
  refine lv_bipush (v := 6) hx hb dX7_again_118 (by decide) ?_
  refine lv_iload_n hx hb dX7_again_120 rfl (lv_at hl 0 rfl) ?_
  refine lv_iadd hx hb dX7_again_121 ?_
  refine x_ev (y := 11) (by decide) ?_
  refine x_iald (v := 0) hB hV 2 rfl (by unfold vp_in; decide) rfl dX7_again_122 ?_
  refine lv_aload_n hx hb dX7_again_123 rfl (lv_at hl 2 rfl) ?_
  refine x_get (v := .ref q_count) hB hV 0 rfl rfl 8 (by decide) k_753 (fs_ne (fs_ne h8 (by decide)) (by decide)) dX7_again_124 ?_
  refine lv_iload_n hx hb dX7_again_127 rfl (lv_at hl 0 rfl) ?_
  refine x_iald (v := 0) hB hV 2 rfl (by unfold vp_in; decide) rfl dX7_again_128 ?_
  refine lv_icmp_ne (tgt := 136) hx hb dX7_again_129 (by decide) (fun c_ => absurd (by decide) c_) (fun c_ => ?_)
  refine lv_iconst (v := 1) hx hb dX7_again_132 (by decide) ?_
  refine lv_goto (tgt := 137) hx hb dX7_again_133 (by decide) ?_
  refine lv_istore_n (lv' := [(1, .int 1), (2, .int 5), (0, .ref h)]) hx hb dX7_again_137 rfl hl (by decide) rfl (fun ls hl => ?_)
  refine lv_iinc (v := 6) (lv' := [(2, .int 6), (1, .int 1), (0, .ref h)]) hx hb dX7_again_138 hl (k := 1) rfl (by decide) (by decide) rfl (fun ls hl => ?_)
  refine lv_goto (tgt := 104) hx hb dX7_again_141 (by decide) ?_
  refine lv_iload_n hx hb dX7_again_104 rfl (lv_at hl 0 rfl) ?_
  refine lv_bipush (v := 6) hx hb dX7_again_105 (by decide) ?_
  refine lv_icmp_ge (tgt := 144) hx hb dX7_again_107 (by decide) (fun c_ => ?_) (fun c_ => absurd (by decide) c_)
  refine lv_aload_n hx hb dX7_again_144 rfl (lv_at hl 2 rfl) ?_
  refine lv_iconst (v := 0) hx hb dX7_again_145 (by decide) ?_
  refine x_put (v := .int 0) hB hV 0 rfl rfl 21 (by decide) k_766 rfl rfl rfl (fs_ls (fs_ls (fs_lt h21))) dX7_again_146 (fun H locs hV => ?_)
  have hV : Vx D A s.heap H locs [(h, .inr (7, (((fs.set 21 (.int 1)).set 52 (.int 0)).set 21 (.int 0)))), (q_tick, .inl (cI, 2, .inl (fun _ => 0))), (q_count, .inl (cI, 12, .inl (fun _ => 0))), (q_kept, .inl (cI, 12, .inl (fun _ => 0))), (q_isKnown, .inl (cZ, 12, .inl (fun _ => 0))), (q_knownX, .inl (cI, 12, .inl (fun _ => 0))), (q_knownKey, .inl (cI, 12, .inl (fun _ => 0))), (q_store, .inl (cI, 48, .inl (fun _ => 0))), (q_key, .inl (cI, 192, .inl (fun _ => 0))), (q_keyX, .inl (cI, 192, .inl (fun _ => 0))), (q_keyAnswer, .inl (cI, 192, .inl (fun _ => 0))), (q_keyTick, .inl (cI, 192, .inl (fun _ => 0))), (q_knownWord, .inl (cI, 96, .inl (fun _ => 0))), (q_knownPlace, .inl (cI, 96, .inl (fun _ => 0))), (q_knownWorth, .inl (cI, 96, .inl (fun _ => 0)))] := hV
  refine lv_iload_n hx hb dX7_again_149 rfl (lv_at hl 1 rfl) ?_
  refine lv_if_eq (tgt := 157) hx hb dX7_again_150 (by decide) (fun c_ => absurd c_ (by decide)) (fun c_ => ?_)
  refine lv_iconst (v := 1) hx hb dX7_again_153 (by decide) ?_
  refine lv_goto (tgt := 158) hx hb dX7_again_154 (by decide) ?_
  exact x_iret (w := []) hB hr hV hA (Nat.le_of_ble_eq_true rfl) (Nat.le_of_ble_eq_true rfl) [] rfl rfl (by decide) dX7_again_158 ⟨rfl, rfl⟩
set_option maxHeartbeats 4000000 in
set_option maxRecDepth 100000 in
theorem lp_r1 {p : Program} {l : Launch} {e : Env} {R : Room} {s : State} {m : MethodId} {args : Array Value} {below : List Frame} {meth : Method} {c : Code} {D : va_G} {cI cZ cS : ClassId} {A : Nat → Prop} {N0 : NT} {cells slots : Nat} {Q : State → Prop} (hB : Bx p s m meth c args cX7_reset 3 RX7 D cI cZ cS A N0) (h : Nat) (fs : List Value) (q_tick : Nat) (q_count : Nat) (q_kept : Nat) (q_isKnown : Nat) (q_store : Nat) (h14 : fs[14]? = some (.ref q_tick)) (h8 : fs[8]? = some (.ref q_count)) (h9 : fs[9]? = some (.ref q_kept)) (h20 : fs[20]? = some (.ref q_isKnown)) (h7 : fs[7]? = some (.ref q_store)) (K : ∀ (H : Heap) (locs : List Loc) (ls : Array Slot), Vx D A s.heap H locs [(h, .inr (7, fs)), (q_tick, .inl (cI, 2, .inl (fun _ => 0))), (q_count, .inl (cI, 12, .inl (fun _ => 0))), (q_kept, .inl (cI, 12, .inl (fun _ => 0))), (q_isKnown, .inl (cZ, 12, .inl (fun _ => 0))), (q_store, .inl (cI, 48, .inl (fun _ => 0)))] → lv_has ls 3 [(2, .int 24), (1, .int 0), (0, .ref h)] → W p l e R s m args below meth c H locs cells slots Q (F0 m 78 ls [])) :
    ∀ (k : Nat) (i : Nat) (H : Heap) (locs : List Loc) (ls : Array Slot), i + k = 24 → Vx D A s.heap H locs [(h, .inr (7, fs)), (q_tick, .inl (cI, 2, .inl (fun _ => 0))), (q_count, .inl (cI, 12, .inl (fun _ => 0))), (q_kept, .inl (cI, 12, .inl (fun _ => 0))), (q_isKnown, .inl (cZ, 12, .inl (fun _ => 0))), (q_store, .inl (cI, 48, .inl (fun _ => 0)))] → lv_has ls 3 [(2, .int (nI i)), (1, .int 0), (0, .ref h)] → W p l e R s m args below meth c H locs cells slots Q (F0 m 59 ls []) := by
  have hx := hB.1
  have hb := hB.2.1
  intro k
  induction k with
  | zero =>
    intro i H locs ls hk hV hl
    obtain rfl : i = 24 := by omega
    have hV : Vx D A s.heap H locs [(h, .inr (7, fs)), (q_tick, .inl (cI, 2, .inl (fun _ => 0))), (q_count, .inl (cI, 12, .inl (fun _ => 0))), (q_kept, .inl (cI, 12, .inl (fun _ => 0))), (q_isKnown, .inl (cZ, 12, .inl (fun _ => 0))), (q_store, .inl (cI, 48, .inl (fun _ => 0)))] := hV
    have hl : lv_has ls 3 [(2, .int 24), (1, .int 0), (0, .ref h)] := hl
    refine lv_iload_n hx hb dX7_reset_59 rfl (lv_at hl 0 rfl) ?_
    refine lv_bipush (v := 24) hx hb dX7_reset_60 (by decide) ?_
    refine lv_icmp_ge (tgt := 78) hx hb dX7_reset_62 (by decide) (fun c_ => ?_) (fun c_ => absurd (by decide) c_)
    exact K  H locs ls hV (lv_sub hl [0, 1, 2] rfl)
  | succ k ih =>
    intro i H locs ls hk hV hl
    have hV : Vx D A s.heap H locs [(h, .inr (7, fs)), (q_tick, .inl (cI, 2, .inl (fun _ => 0))), (q_count, .inl (cI, 12, .inl (fun _ => 0))), (q_kept, .inl (cI, 12, .inl (fun _ => 0))), (q_isKnown, .inl (cZ, 12, .inl (fun _ => 0))), (q_store, .inl (cI, 48, .inl (fun _ => 0)))] := hV
    have hl : lv_has ls 3 [(2, .int (nI i)), (1, .int 0), (0, .ref h)] := hl
    refine lv_iload_n hx hb dX7_reset_59 rfl (lv_at hl 0 rfl) ?_
    refine lv_bipush (v := 24) hx hb dX7_reset_60 (by decide) ?_
    refine lv_icmp_ge (tgt := 78) hx hb dX7_reset_62 (by decide) (fun c_ => absurd c_ (nI_ge (a := i) (b := 24) (by omega) (by decide))) (fun c_ => ?_)
    refine lv_aload_n hx hb dX7_reset_65 rfl (lv_at hl 2 rfl) ?_
    refine x_get (v := .ref q_store) hB hV 0 rfl rfl 7 (by decide) k_752 h7 dX7_reset_66 ?_
    refine lv_iload_n hx hb dX7_reset_69 rfl (lv_at hl 0 rfl) ?_
    refine lv_iconst (v := 0) hx hb dX7_reset_70 (by decide) ?_
    refine x_iast (g := (fun _ => 0)) hB hV 5 rfl (vp_in_nI (by omega) (by decide)) upd00 dX7_reset_71 (fun H locs hV => ?_)
    have hV : Vx D A s.heap H locs [(h, .inr (7, fs)), (q_tick, .inl (cI, 2, .inl (fun _ => 0))), (q_count, .inl (cI, 12, .inl (fun _ => 0))), (q_kept, .inl (cI, 12, .inl (fun _ => 0))), (q_isKnown, .inl (cZ, 12, .inl (fun _ => 0))), (q_store, .inl (cI, 48, .inl (fun _ => 0)))] := hV
    refine lv_iinc (v := nI (i + 1)) (lv' := [(2, .int (nI (i + 1))), (1, .int 0), (0, .ref h)]) hx hb dX7_reset_72 hl (k := 0) rfl (nI_1 i) (by decide) rfl (fun ls hl => ?_)
    refine lv_goto (tgt := 59) hx hb dX7_reset_75 (by decide) ?_
    exact ih (i + 1) H locs ls (by omega) hV (lv_sub hl [0, 1, 2] rfl)
set_option maxHeartbeats 4000000 in
set_option maxRecDepth 100000 in
theorem m_reset (l : Launch) (D : va_G) (cI cZ cS : ClassId) (N0 : NT) (h : Nat) (fs : List Value) (q_tick : Nat) (q_count : Nat) (q_kept : Nat) (q_isKnown : Nat) (q_store : Nat) (h24 : fs[24]? = some (.int 0)) (h22 : fs[22]? = some (.int 0)) (h14 : fs[14]? = some (.ref q_tick)) (h8 : fs[8]? = some (.ref q_count)) (h9 : fs[9]? = some (.ref q_kept)) (h20 : fs[20]? = some (.ref q_isKnown)) (h7 : fs[7]? = some (.ref q_store)) : Mx l D cI cZ cS N0 yX7_reset cX7_reset 3 (some .int) 1 0 0 [.ref h] [(h, .inr (7, fs)), (q_tick, .inl (cI, 2, .inl (fun _ => 0))), (q_count, .inl (cI, 12, .inl (fun _ => 0))), (q_kept, .inl (cI, 12, .inl (fun _ => 0))), (q_isKnown, .inl (cZ, 12, .inl (fun _ => 0))), (q_store, .inl (cI, 48, .inl (fun _ => 0)))] (fun v w => v = some (.int 0) ∧ w = ([] : va_W)) := by
  refine x_enter (by decide) (Nat.le_of_ble_eq_true rfl) ?_
  intro p e s m args below meth c A ls H locs hB hr hin hl hV hA
  have hx := hB.1
  have hb := hB.2.1
  have hl : lv_has ls 3 [(0, .ref h)] := hl
  refine lv_aload_n hx hb dX7_reset_0 rfl (lv_at hl 0 rfl) ?_
  refine x_get (v := .int 0) hB hV 0 rfl rfl 24 (by decide) k_769 h24 dX7_reset_1 ?_
  refine lv_istore_n (lv' := [(1, .int 0), (0, .ref h)]) hx hb dX7_reset_4 rfl hl (by decide) rfl (fun ls hl => ?_)
  refine lv_aload_n hx hb dX7_reset_5 rfl (lv_at hl 1 rfl) ?_
  refine lv_iconst (v := 0) hx hb dX7_reset_6 (by decide) ?_
  refine x_put (v := .int 0) hB hV 0 rfl rfl 24 (by decide) k_769 rfl rfl rfl (fs_lt h24) dX7_reset_7 (fun H locs hV => ?_)
  have hV : Vx D A s.heap H locs [(h, .inr (7, (fs.set 24 (.int 0)))), (q_tick, .inl (cI, 2, .inl (fun _ => 0))), (q_count, .inl (cI, 12, .inl (fun _ => 0))), (q_kept, .inl (cI, 12, .inl (fun _ => 0))), (q_isKnown, .inl (cZ, 12, .inl (fun _ => 0))), (q_store, .inl (cI, 48, .inl (fun _ => 0)))] := hV
  refine lv_aload_n hx hb dX7_reset_10 rfl (lv_at hl 1 rfl) ?_
  refine lv_iconst (v := 0) hx hb dX7_reset_11 (by decide) ?_
  refine x_put (v := .int 0) hB hV 0 rfl rfl 22 (by decide) k_767 rfl rfl rfl (fs_ls (fs_lt h22)) dX7_reset_12 (fun H locs hV => ?_)
  have hV : Vx D A s.heap H locs [(h, .inr (7, ((fs.set 24 (.int 0)).set 22 (.int 0)))), (q_tick, .inl (cI, 2, .inl (fun _ => 0))), (q_count, .inl (cI, 12, .inl (fun _ => 0))), (q_kept, .inl (cI, 12, .inl (fun _ => 0))), (q_isKnown, .inl (cZ, 12, .inl (fun _ => 0))), (q_store, .inl (cI, 48, .inl (fun _ => 0)))] := hV
  refine lv_aload_n hx hb dX7_reset_15 rfl (lv_at hl 1 rfl) ?_
  refine x_get (v := .ref q_tick) hB hV 0 rfl rfl 14 (by decide) k_759 (fs_ne (fs_ne h14 (by decide)) (by decide)) dX7_reset_16 ?_
  refine lv_iconst (v := 0) hx hb dX7_reset_19 (by decide) ?_
  refine lv_iconst (v := 0) hx hb dX7_reset_20 (by decide) ?_
  refine x_iast (g := (fun _ => 0)) hB hV 1 rfl (by unfold vp_in; decide) upd00 dX7_reset_21 (fun H locs hV => ?_)
  have hV : Vx D A s.heap H locs [(h, .inr (7, ((fs.set 24 (.int 0)).set 22 (.int 0)))), (q_tick, .inl (cI, 2, .inl (fun _ => 0))), (q_count, .inl (cI, 12, .inl (fun _ => 0))), (q_kept, .inl (cI, 12, .inl (fun _ => 0))), (q_isKnown, .inl (cZ, 12, .inl (fun _ => 0))), (q_store, .inl (cI, 48, .inl (fun _ => 0)))] := hV
  refine lv_iconst (v := 0) hx hb dX7_reset_22 (by decide) ?_
  refine lv_istore_n (lv' := [(2, .int 0), (1, .int 0), (0, .ref h)]) hx hb dX7_reset_23 rfl hl (by decide) rfl (fun ls hl => ?_)
  refine lv_iload_n hx hb dX7_reset_24 rfl (lv_at hl 0 rfl) ?_
  refine lv_bipush (v := 6) hx hb dX7_reset_25 (by decide) ?_
  refine lv_icmp_ge (tgt := 57) hx hb dX7_reset_27 (by decide) (fun c_ => absurd c_ (by decide)) (fun c_ => ?_)
  refine lv_aload_n hx hb dX7_reset_30 rfl (lv_at hl 2 rfl) ?_
  refine x_get (v := .ref q_count) hB hV 0 rfl rfl 8 (by decide) k_753 (fs_ne (fs_ne h8 (by decide)) (by decide)) dX7_reset_31 ?_
  refine lv_iload_n hx hb dX7_reset_34 rfl (lv_at hl 0 rfl) ?_
  refine lv_iconst (v := 0) hx hb dX7_reset_35 (by decide) ?_
  refine x_iast (g := (fun _ => 0)) hB hV 2 rfl (by unfold vp_in; decide) upd00 dX7_reset_36 (fun H locs hV => ?_)
  have hV : Vx D A s.heap H locs [(h, .inr (7, ((fs.set 24 (.int 0)).set 22 (.int 0)))), (q_tick, .inl (cI, 2, .inl (fun _ => 0))), (q_count, .inl (cI, 12, .inl (fun _ => 0))), (q_kept, .inl (cI, 12, .inl (fun _ => 0))), (q_isKnown, .inl (cZ, 12, .inl (fun _ => 0))), (q_store, .inl (cI, 48, .inl (fun _ => 0)))] := hV
  refine lv_aload_n hx hb dX7_reset_37 rfl (lv_at hl 2 rfl) ?_
  refine x_get (v := .ref q_kept) hB hV 0 rfl rfl 9 (by decide) k_754 (fs_ne (fs_ne h9 (by decide)) (by decide)) dX7_reset_38 ?_
  refine lv_iload_n hx hb dX7_reset_41 rfl (lv_at hl 0 rfl) ?_
  refine lv_iconst (v := 0) hx hb dX7_reset_42 (by decide) ?_
  refine x_iast (g := (fun _ => 0)) hB hV 3 rfl (by unfold vp_in; decide) upd00 dX7_reset_43 (fun H locs hV => ?_)
  have hV : Vx D A s.heap H locs [(h, .inr (7, ((fs.set 24 (.int 0)).set 22 (.int 0)))), (q_tick, .inl (cI, 2, .inl (fun _ => 0))), (q_count, .inl (cI, 12, .inl (fun _ => 0))), (q_kept, .inl (cI, 12, .inl (fun _ => 0))), (q_isKnown, .inl (cZ, 12, .inl (fun _ => 0))), (q_store, .inl (cI, 48, .inl (fun _ => 0)))] := hV
  refine lv_aload_n hx hb dX7_reset_44 rfl (lv_at hl 2 rfl) ?_
  refine x_get (v := .ref q_isKnown) hB hV 0 rfl rfl 20 (by decide) k_765 (fs_ne (fs_ne h20 (by decide)) (by decide)) dX7_reset_45 ?_
  refine lv_iload_n hx hb dX7_reset_48 rfl (lv_at hl 0 rfl) ?_
  refine lv_iconst (v := 0) hx hb dX7_reset_49 (by decide) ?_
  refine x_zast (g := (fun _ => 0)) hB hV 4 rfl (by unfold vp_in; decide) updz0 dX7_reset_50 (fun H locs hV => ?_)
  have hV : Vx D A s.heap H locs [(h, .inr (7, ((fs.set 24 (.int 0)).set 22 (.int 0)))), (q_tick, .inl (cI, 2, .inl (fun _ => 0))), (q_count, .inl (cI, 12, .inl (fun _ => 0))), (q_kept, .inl (cI, 12, .inl (fun _ => 0))), (q_isKnown, .inl (cZ, 12, .inl (fun _ => 0))), (q_store, .inl (cI, 48, .inl (fun _ => 0)))] := hV
  refine lv_iinc (v := 1) (lv' := [(2, .int 1), (1, .int 0), (0, .ref h)]) hx hb dX7_reset_51 hl (k := 0) rfl (by decide) (by decide) rfl (fun ls hl => ?_)
  refine lv_goto (tgt := 24) hx hb dX7_reset_54 (by decide) ?_
  refine lv_iload_n hx hb dX7_reset_24 rfl (lv_at hl 0 rfl) ?_
  refine lv_bipush (v := 6) hx hb dX7_reset_25 (by decide) ?_
  refine lv_icmp_ge (tgt := 57) hx hb dX7_reset_27 (by decide) (fun c_ => absurd c_ (by decide)) (fun c_ => ?_)
  refine lv_aload_n hx hb dX7_reset_30 rfl (lv_at hl 2 rfl) ?_
  refine x_get (v := .ref q_count) hB hV 0 rfl rfl 8 (by decide) k_753 (fs_ne (fs_ne h8 (by decide)) (by decide)) dX7_reset_31 ?_
  refine lv_iload_n hx hb dX7_reset_34 rfl (lv_at hl 0 rfl) ?_
  refine lv_iconst (v := 0) hx hb dX7_reset_35 (by decide) ?_
  refine x_iast (g := (fun _ => 0)) hB hV 2 rfl (by unfold vp_in; decide) upd00 dX7_reset_36 (fun H locs hV => ?_)
  have hV : Vx D A s.heap H locs [(h, .inr (7, ((fs.set 24 (.int 0)).set 22 (.int 0)))), (q_tick, .inl (cI, 2, .inl (fun _ => 0))), (q_count, .inl (cI, 12, .inl (fun _ => 0))), (q_kept, .inl (cI, 12, .inl (fun _ => 0))), (q_isKnown, .inl (cZ, 12, .inl (fun _ => 0))), (q_store, .inl (cI, 48, .inl (fun _ => 0)))] := hV
  refine lv_aload_n hx hb dX7_reset_37 rfl (lv_at hl 2 rfl) ?_
  refine x_get (v := .ref q_kept) hB hV 0 rfl rfl 9 (by decide) k_754 (fs_ne (fs_ne h9 (by decide)) (by decide)) dX7_reset_38 ?_
  refine lv_iload_n hx hb dX7_reset_41 rfl (lv_at hl 0 rfl) ?_
  refine lv_iconst (v := 0) hx hb dX7_reset_42 (by decide) ?_
  refine x_iast (g := (fun _ => 0)) hB hV 3 rfl (by unfold vp_in; decide) upd00 dX7_reset_43 (fun H locs hV => ?_)
  have hV : Vx D A s.heap H locs [(h, .inr (7, ((fs.set 24 (.int 0)).set 22 (.int 0)))), (q_tick, .inl (cI, 2, .inl (fun _ => 0))), (q_count, .inl (cI, 12, .inl (fun _ => 0))), (q_kept, .inl (cI, 12, .inl (fun _ => 0))), (q_isKnown, .inl (cZ, 12, .inl (fun _ => 0))), (q_store, .inl (cI, 48, .inl (fun _ => 0)))] := hV
  refine lv_aload_n hx hb dX7_reset_44 rfl (lv_at hl 2 rfl) ?_
  refine x_get (v := .ref q_isKnown) hB hV 0 rfl rfl 20 (by decide) k_765 (fs_ne (fs_ne h20 (by decide)) (by decide)) dX7_reset_45 ?_
  refine lv_iload_n hx hb dX7_reset_48 rfl (lv_at hl 0 rfl) ?_
  refine lv_iconst (v := 0) hx hb dX7_reset_49 (by decide) ?_
  refine x_zast (g := (fun _ => 0)) hB hV 4 rfl (by unfold vp_in; decide) updz0 dX7_reset_50 (fun H locs hV => ?_)
  have hV : Vx D A s.heap H locs [(h, .inr (7, ((fs.set 24 (.int 0)).set 22 (.int 0)))), (q_tick, .inl (cI, 2, .inl (fun _ => 0))), (q_count, .inl (cI, 12, .inl (fun _ => 0))), (q_kept, .inl (cI, 12, .inl (fun _ => 0))), (q_isKnown, .inl (cZ, 12, .inl (fun _ => 0))), (q_store, .inl (cI, 48, .inl (fun _ => 0)))] := hV
  refine lv_iinc (v := 2) (lv' := [(2, .int 2), (1, .int 0), (0, .ref h)]) hx hb dX7_reset_51 hl (k := 0) rfl (by decide) (by decide) rfl (fun ls hl => ?_)
  refine lv_goto (tgt := 24) hx hb dX7_reset_54 (by decide) ?_
  refine lv_iload_n hx hb dX7_reset_24 rfl (lv_at hl 0 rfl) ?_
  refine lv_bipush (v := 6) hx hb dX7_reset_25 (by decide) ?_
  refine lv_icmp_ge (tgt := 57) hx hb dX7_reset_27 (by decide) (fun c_ => absurd c_ (by decide)) (fun c_ => ?_)
  refine lv_aload_n hx hb dX7_reset_30 rfl (lv_at hl 2 rfl) ?_
  refine x_get (v := .ref q_count) hB hV 0 rfl rfl 8 (by decide) k_753 (fs_ne (fs_ne h8 (by decide)) (by decide)) dX7_reset_31 ?_
  refine lv_iload_n hx hb dX7_reset_34 rfl (lv_at hl 0 rfl) ?_
  refine lv_iconst (v := 0) hx hb dX7_reset_35 (by decide) ?_
  refine x_iast (g := (fun _ => 0)) hB hV 2 rfl (by unfold vp_in; decide) upd00 dX7_reset_36 (fun H locs hV => ?_)
  have hV : Vx D A s.heap H locs [(h, .inr (7, ((fs.set 24 (.int 0)).set 22 (.int 0)))), (q_tick, .inl (cI, 2, .inl (fun _ => 0))), (q_count, .inl (cI, 12, .inl (fun _ => 0))), (q_kept, .inl (cI, 12, .inl (fun _ => 0))), (q_isKnown, .inl (cZ, 12, .inl (fun _ => 0))), (q_store, .inl (cI, 48, .inl (fun _ => 0)))] := hV
  refine lv_aload_n hx hb dX7_reset_37 rfl (lv_at hl 2 rfl) ?_
  refine x_get (v := .ref q_kept) hB hV 0 rfl rfl 9 (by decide) k_754 (fs_ne (fs_ne h9 (by decide)) (by decide)) dX7_reset_38 ?_
  refine lv_iload_n hx hb dX7_reset_41 rfl (lv_at hl 0 rfl) ?_
  refine lv_iconst (v := 0) hx hb dX7_reset_42 (by decide) ?_
  refine x_iast (g := (fun _ => 0)) hB hV 3 rfl (by unfold vp_in; decide) upd00 dX7_reset_43 (fun H locs hV => ?_)
  have hV : Vx D A s.heap H locs [(h, .inr (7, ((fs.set 24 (.int 0)).set 22 (.int 0)))), (q_tick, .inl (cI, 2, .inl (fun _ => 0))), (q_count, .inl (cI, 12, .inl (fun _ => 0))), (q_kept, .inl (cI, 12, .inl (fun _ => 0))), (q_isKnown, .inl (cZ, 12, .inl (fun _ => 0))), (q_store, .inl (cI, 48, .inl (fun _ => 0)))] := hV
  refine lv_aload_n hx hb dX7_reset_44 rfl (lv_at hl 2 rfl) ?_
  refine x_get (v := .ref q_isKnown) hB hV 0 rfl rfl 20 (by decide) k_765 (fs_ne (fs_ne h20 (by decide)) (by decide)) dX7_reset_45 ?_
  refine lv_iload_n hx hb dX7_reset_48 rfl (lv_at hl 0 rfl) ?_
  refine lv_iconst (v := 0) hx hb dX7_reset_49 (by decide) ?_
  refine x_zast (g := (fun _ => 0)) hB hV 4 rfl (by unfold vp_in; decide) updz0 dX7_reset_50 (fun H locs hV => ?_)
  have hV : Vx D A s.heap H locs [(h, .inr (7, ((fs.set 24 (.int 0)).set 22 (.int 0)))), (q_tick, .inl (cI, 2, .inl (fun _ => 0))), (q_count, .inl (cI, 12, .inl (fun _ => 0))), (q_kept, .inl (cI, 12, .inl (fun _ => 0))), (q_isKnown, .inl (cZ, 12, .inl (fun _ => 0))), (q_store, .inl (cI, 48, .inl (fun _ => 0)))] := hV
  refine lv_iinc (v := 3) (lv' := [(2, .int 3), (1, .int 0), (0, .ref h)]) hx hb dX7_reset_51 hl (k := 0) rfl (by decide) (by decide) rfl (fun ls hl => ?_)
  refine lv_goto (tgt := 24) hx hb dX7_reset_54 (by decide) ?_
  refine lv_iload_n hx hb dX7_reset_24 rfl (lv_at hl 0 rfl) ?_
  refine lv_bipush (v := 6) hx hb dX7_reset_25 (by decide) ?_
  refine lv_icmp_ge (tgt := 57) hx hb dX7_reset_27 (by decide) (fun c_ => absurd c_ (by decide)) (fun c_ => ?_)
  refine lv_aload_n hx hb dX7_reset_30 rfl (lv_at hl 2 rfl) ?_
  refine x_get (v := .ref q_count) hB hV 0 rfl rfl 8 (by decide) k_753 (fs_ne (fs_ne h8 (by decide)) (by decide)) dX7_reset_31 ?_
  refine lv_iload_n hx hb dX7_reset_34 rfl (lv_at hl 0 rfl) ?_
  refine lv_iconst (v := 0) hx hb dX7_reset_35 (by decide) ?_
  refine x_iast (g := (fun _ => 0)) hB hV 2 rfl (by unfold vp_in; decide) upd00 dX7_reset_36 (fun H locs hV => ?_)
  have hV : Vx D A s.heap H locs [(h, .inr (7, ((fs.set 24 (.int 0)).set 22 (.int 0)))), (q_tick, .inl (cI, 2, .inl (fun _ => 0))), (q_count, .inl (cI, 12, .inl (fun _ => 0))), (q_kept, .inl (cI, 12, .inl (fun _ => 0))), (q_isKnown, .inl (cZ, 12, .inl (fun _ => 0))), (q_store, .inl (cI, 48, .inl (fun _ => 0)))] := hV
  refine lv_aload_n hx hb dX7_reset_37 rfl (lv_at hl 2 rfl) ?_
  refine x_get (v := .ref q_kept) hB hV 0 rfl rfl 9 (by decide) k_754 (fs_ne (fs_ne h9 (by decide)) (by decide)) dX7_reset_38 ?_
  refine lv_iload_n hx hb dX7_reset_41 rfl (lv_at hl 0 rfl) ?_
  refine lv_iconst (v := 0) hx hb dX7_reset_42 (by decide) ?_
  refine x_iast (g := (fun _ => 0)) hB hV 3 rfl (by unfold vp_in; decide) upd00 dX7_reset_43 (fun H locs hV => ?_)
  have hV : Vx D A s.heap H locs [(h, .inr (7, ((fs.set 24 (.int 0)).set 22 (.int 0)))), (q_tick, .inl (cI, 2, .inl (fun _ => 0))), (q_count, .inl (cI, 12, .inl (fun _ => 0))), (q_kept, .inl (cI, 12, .inl (fun _ => 0))), (q_isKnown, .inl (cZ, 12, .inl (fun _ => 0))), (q_store, .inl (cI, 48, .inl (fun _ => 0)))] := hV
  refine lv_aload_n hx hb dX7_reset_44 rfl (lv_at hl 2 rfl) ?_
  refine x_get (v := .ref q_isKnown) hB hV 0 rfl rfl 20 (by decide) k_765 (fs_ne (fs_ne h20 (by decide)) (by decide)) dX7_reset_45 ?_
  refine lv_iload_n hx hb dX7_reset_48 rfl (lv_at hl 0 rfl) ?_
  refine lv_iconst (v := 0) hx hb dX7_reset_49 (by decide) ?_
  refine x_zast (g := (fun _ => 0)) hB hV 4 rfl (by unfold vp_in; decide) updz0 dX7_reset_50 (fun H locs hV => ?_)
  have hV : Vx D A s.heap H locs [(h, .inr (7, ((fs.set 24 (.int 0)).set 22 (.int 0)))), (q_tick, .inl (cI, 2, .inl (fun _ => 0))), (q_count, .inl (cI, 12, .inl (fun _ => 0))), (q_kept, .inl (cI, 12, .inl (fun _ => 0))), (q_isKnown, .inl (cZ, 12, .inl (fun _ => 0))), (q_store, .inl (cI, 48, .inl (fun _ => 0)))] := hV
  refine lv_iinc (v := 4) (lv' := [(2, .int 4), (1, .int 0), (0, .ref h)]) hx hb dX7_reset_51 hl (k := 0) rfl (by decide) (by decide) rfl (fun ls hl => ?_)
  refine lv_goto (tgt := 24) hx hb dX7_reset_54 (by decide) ?_
  refine lv_iload_n hx hb dX7_reset_24 rfl (lv_at hl 0 rfl) ?_
  refine lv_bipush (v := 6) hx hb dX7_reset_25 (by decide) ?_
  refine lv_icmp_ge (tgt := 57) hx hb dX7_reset_27 (by decide) (fun c_ => absurd c_ (by decide)) (fun c_ => ?_)
  refine lv_aload_n hx hb dX7_reset_30 rfl (lv_at hl 2 rfl) ?_
  refine x_get (v := .ref q_count) hB hV 0 rfl rfl 8 (by decide) k_753 (fs_ne (fs_ne h8 (by decide)) (by decide)) dX7_reset_31 ?_
  refine lv_iload_n hx hb dX7_reset_34 rfl (lv_at hl 0 rfl) ?_
  refine lv_iconst (v := 0) hx hb dX7_reset_35 (by decide) ?_
  refine x_iast (g := (fun _ => 0)) hB hV 2 rfl (by unfold vp_in; decide) upd00 dX7_reset_36 (fun H locs hV => ?_)
  have hV : Vx D A s.heap H locs [(h, .inr (7, ((fs.set 24 (.int 0)).set 22 (.int 0)))), (q_tick, .inl (cI, 2, .inl (fun _ => 0))), (q_count, .inl (cI, 12, .inl (fun _ => 0))), (q_kept, .inl (cI, 12, .inl (fun _ => 0))), (q_isKnown, .inl (cZ, 12, .inl (fun _ => 0))), (q_store, .inl (cI, 48, .inl (fun _ => 0)))] := hV
  refine lv_aload_n hx hb dX7_reset_37 rfl (lv_at hl 2 rfl) ?_
  refine x_get (v := .ref q_kept) hB hV 0 rfl rfl 9 (by decide) k_754 (fs_ne (fs_ne h9 (by decide)) (by decide)) dX7_reset_38 ?_
  refine lv_iload_n hx hb dX7_reset_41 rfl (lv_at hl 0 rfl) ?_
  refine lv_iconst (v := 0) hx hb dX7_reset_42 (by decide) ?_
  refine x_iast (g := (fun _ => 0)) hB hV 3 rfl (by unfold vp_in; decide) upd00 dX7_reset_43 (fun H locs hV => ?_)
  have hV : Vx D A s.heap H locs [(h, .inr (7, ((fs.set 24 (.int 0)).set 22 (.int 0)))), (q_tick, .inl (cI, 2, .inl (fun _ => 0))), (q_count, .inl (cI, 12, .inl (fun _ => 0))), (q_kept, .inl (cI, 12, .inl (fun _ => 0))), (q_isKnown, .inl (cZ, 12, .inl (fun _ => 0))), (q_store, .inl (cI, 48, .inl (fun _ => 0)))] := hV
  refine lv_aload_n hx hb dX7_reset_44 rfl (lv_at hl 2 rfl) ?_
  refine x_get (v := .ref q_isKnown) hB hV 0 rfl rfl 20 (by decide) k_765 (fs_ne (fs_ne h20 (by decide)) (by decide)) dX7_reset_45 ?_
  refine lv_iload_n hx hb dX7_reset_48 rfl (lv_at hl 0 rfl) ?_
  refine lv_iconst (v := 0) hx hb dX7_reset_49 (by decide) ?_
  refine x_zast (g := (fun _ => 0)) hB hV 4 rfl (by unfold vp_in; decide) updz0 dX7_reset_50 (fun H locs hV => ?_)
  have hV : Vx D A s.heap H locs [(h, .inr (7, ((fs.set 24 (.int 0)).set 22 (.int 0)))), (q_tick, .inl (cI, 2, .inl (fun _ => 0))), (q_count, .inl (cI, 12, .inl (fun _ => 0))), (q_kept, .inl (cI, 12, .inl (fun _ => 0))), (q_isKnown, .inl (cZ, 12, .inl (fun _ => 0))), (q_store, .inl (cI, 48, .inl (fun _ => 0)))] := hV
  refine lv_iinc (v := 5) (lv' := [(2, .int 5), (1, .int 0), (0, .ref h)]) hx hb dX7_reset_51 hl (k := 0) rfl (by decide) (by decide) rfl (fun ls hl => ?_)
  refine lv_goto (tgt := 24) hx hb dX7_reset_54 (by decide) ?_
  refine lv_iload_n hx hb dX7_reset_24 rfl (lv_at hl 0 rfl) ?_
  refine lv_bipush (v := 6) hx hb dX7_reset_25 (by decide) ?_
  refine lv_icmp_ge (tgt := 57) hx hb dX7_reset_27 (by decide) (fun c_ => absurd c_ (by decide)) (fun c_ => ?_)
  refine lv_aload_n hx hb dX7_reset_30 rfl (lv_at hl 2 rfl) ?_
  refine x_get (v := .ref q_count) hB hV 0 rfl rfl 8 (by decide) k_753 (fs_ne (fs_ne h8 (by decide)) (by decide)) dX7_reset_31 ?_
  refine lv_iload_n hx hb dX7_reset_34 rfl (lv_at hl 0 rfl) ?_
  refine lv_iconst (v := 0) hx hb dX7_reset_35 (by decide) ?_
  refine x_iast (g := (fun _ => 0)) hB hV 2 rfl (by unfold vp_in; decide) upd00 dX7_reset_36 (fun H locs hV => ?_)
  have hV : Vx D A s.heap H locs [(h, .inr (7, ((fs.set 24 (.int 0)).set 22 (.int 0)))), (q_tick, .inl (cI, 2, .inl (fun _ => 0))), (q_count, .inl (cI, 12, .inl (fun _ => 0))), (q_kept, .inl (cI, 12, .inl (fun _ => 0))), (q_isKnown, .inl (cZ, 12, .inl (fun _ => 0))), (q_store, .inl (cI, 48, .inl (fun _ => 0)))] := hV
  refine lv_aload_n hx hb dX7_reset_37 rfl (lv_at hl 2 rfl) ?_
  refine x_get (v := .ref q_kept) hB hV 0 rfl rfl 9 (by decide) k_754 (fs_ne (fs_ne h9 (by decide)) (by decide)) dX7_reset_38 ?_
  refine lv_iload_n hx hb dX7_reset_41 rfl (lv_at hl 0 rfl) ?_
  refine lv_iconst (v := 0) hx hb dX7_reset_42 (by decide) ?_
  refine x_iast (g := (fun _ => 0)) hB hV 3 rfl (by unfold vp_in; decide) upd00 dX7_reset_43 (fun H locs hV => ?_)
  have hV : Vx D A s.heap H locs [(h, .inr (7, ((fs.set 24 (.int 0)).set 22 (.int 0)))), (q_tick, .inl (cI, 2, .inl (fun _ => 0))), (q_count, .inl (cI, 12, .inl (fun _ => 0))), (q_kept, .inl (cI, 12, .inl (fun _ => 0))), (q_isKnown, .inl (cZ, 12, .inl (fun _ => 0))), (q_store, .inl (cI, 48, .inl (fun _ => 0)))] := hV
  refine lv_aload_n hx hb dX7_reset_44 rfl (lv_at hl 2 rfl) ?_
  refine x_get (v := .ref q_isKnown) hB hV 0 rfl rfl 20 (by decide) k_765 (fs_ne (fs_ne h20 (by decide)) (by decide)) dX7_reset_45 ?_
  refine lv_iload_n hx hb dX7_reset_48 rfl (lv_at hl 0 rfl) ?_
  refine lv_iconst (v := 0) hx hb dX7_reset_49 (by decide) ?_
  refine x_zast (g := (fun _ => 0)) hB hV 4 rfl (by unfold vp_in; decide) updz0 dX7_reset_50 (fun H locs hV => ?_)
  have hV : Vx D A s.heap H locs [(h, .inr (7, ((fs.set 24 (.int 0)).set 22 (.int 0)))), (q_tick, .inl (cI, 2, .inl (fun _ => 0))), (q_count, .inl (cI, 12, .inl (fun _ => 0))), (q_kept, .inl (cI, 12, .inl (fun _ => 0))), (q_isKnown, .inl (cZ, 12, .inl (fun _ => 0))), (q_store, .inl (cI, 48, .inl (fun _ => 0)))] := hV
  refine lv_iinc (v := 6) (lv' := [(2, .int 6), (1, .int 0), (0, .ref h)]) hx hb dX7_reset_51 hl (k := 0) rfl (by decide) (by decide) rfl (fun ls hl => ?_)
  refine lv_goto (tgt := 24) hx hb dX7_reset_54 (by decide) ?_
  refine lv_iload_n hx hb dX7_reset_24 rfl (lv_at hl 0 rfl) ?_
  refine lv_bipush (v := 6) hx hb dX7_reset_25 (by decide) ?_
  refine lv_icmp_ge (tgt := 57) hx hb dX7_reset_27 (by decide) (fun c_ => ?_) (fun c_ => absurd (by decide) c_)
  refine lv_iconst (v := 0) hx hb dX7_reset_57 (by decide) ?_
  refine lv_istore_n (lv' := [(2, .int 0), (1, .int 0), (0, .ref h)]) hx hb dX7_reset_58 rfl hl (by decide) rfl (fun ls hl => ?_)
  refine lp_r1 hB h ((fs.set 24 (.int 0)).set 22 (.int 0)) q_tick q_count q_kept q_isKnown q_store (fs_ne (fs_ne h14 (by decide)) (by decide)) (fs_ne (fs_ne h8 (by decide)) (by decide)) (fs_ne (fs_ne h9 (by decide)) (by decide)) (fs_ne (fs_ne h20 (by decide)) (by decide)) (fs_ne (fs_ne h7 (by decide)) (by decide)) (fun H locs ls hV hl => ?_) 24 0 H locs ls (by omega) hV (lv_sub hl [0, 1, 2] rfl)
  refine lv_iload_n hx hb dX7_reset_78 rfl (lv_at hl 1 rfl) ?_
  exact x_iret (w := []) hB hr hV hA (Nat.le_of_ble_eq_true rfl) (Nat.le_of_ble_eq_true rfl) [] rfl rfl (by decide) dX7_reset_79 ⟨rfl, rfl⟩
