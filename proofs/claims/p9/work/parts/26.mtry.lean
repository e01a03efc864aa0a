theorem k_44 : Cond.selects RX7 yX7_once yX7_once ∈ tb := mt 44 (by decide +kernel) rfl
theorem k_45 : Cond.selects RX7 yX7_tries yX7_tries ∈ tb := mt 45 (by decide +kernel) rfl
theorem k_46 : Cond.selects RX7 yX7_rowCall yX7_rowCall ∈ tb := mt 46 (by decide +kernel) rfl
theorem k_47 : Cond.selects RX7 yX7_isSafe yX7_isSafe ∈ tb := mt 47 (by decide +kernel) rfl
theorem k_802 : Cond.fieldLink RX7 140 "TwiceOnceModel" "onceStore" "[I" ∈ tb := mt 802 (by decide +kernel) rfl
theorem k_803 : Cond.fieldLink RX7 143 "TwiceOnceModel" "onceOut" "[I" ∈ tb := mt 803 (by decide +kernel) rfl
theorem k_804 : Cond.fieldLink RX7 146 "TwiceOnceModel" "onceAnswer" "[I" ∈ tb := mt 804 (by decide +kernel) rfl
theorem k_805 : Cond.fieldLink RX7 302 "TwiceOnceModel" "onceOuts" "I" ∈ tb := mt 805 (by decide +kernel) rfl
theorem k_1100 : Cond.methodLink RX7 305 yX7_once ∈ tb := mt 1100 (by decide +kernel) rfl
theorem k_1102 : Cond.instanceMethod yX7_once ∈ tb := mt 1102 (by decide +kernel) rfl
set_option maxRecDepth 20000 in
theorem k_1103 : Cond.code yX7_once cX7_once 2 none ∈ tb := mt 1103 rfl rfl
theorem k_1104 : Cond.methodLink RX7 296 yX7_tries ∈ tb := mt 1104 (by decide +kernel) rfl
theorem k_1106 : Cond.instanceMethod yX7_tries ∈ tb := mt 1106 (by decide +kernel) rfl
set_option maxRecDepth 20000 in
theorem k_1107 : Cond.code yX7_tries cX7_tries 2 none ∈ tb := mt 1107 rfl rfl
theorem k_1108 : Cond.methodLink RX7 299 yX7_rowCall ∈ tb := mt 1108 (by decide +kernel) rfl
theorem k_1110 : Cond.instanceMethod yX7_rowCall ∈ tb := mt 1110 (by decide +kernel) rfl
set_option maxRecDepth 20000 in
theorem k_1111 : Cond.code yX7_rowCall cX7_rowCall 3 (some .int) ∈ tb := mt 1111 rfl rfl
theorem k_1112 : Cond.methodLink RX7 308 yX7_isSafe ∈ tb := mt 1112 (by decide +kernel) rfl
theorem k_1114 : Cond.instanceMethod yX7_isSafe ∈ tb := mt 1114 (by decide +kernel) rfl
set_option maxRecDepth 20000 in
theorem k_1115 : Cond.code yX7_isSafe cX7_isSafe 8 (some .boolean) ∈ tb := mt 1115 rfl rfl
theorem dX7_tries_165 : decode cX7_tries 165 = .ok (.iload_n 1, 1) := by decide +kernel
theorem dX7_tries_166 : decode cX7_tries 166 = .ok (.bipush 48, 2) := by decide +kernel
theorem dX7_tries_168 : decode cX7_tries 168 = .ok (.if_icmp .ge 54, 3) := by decide +kernel
theorem dX7_tries_222 : decode cX7_tries 222 = .ok (.return_, 1) := by decide +kernel
theorem dX7_tries_171 : decode cX7_tries 171 = .ok (.aload_n 0, 1) := by decide +kernel
theorem dX7_tries_172 : decode cX7_tries 172 = .ok (.getfield 58, 3) := by decide +kernel
theorem dX7_tries_175 : decode cX7_tries 175 = .ok (.bipush 48, 2) := by decide +kernel
theorem dX7_tries_177 : decode cX7_tries 177 = .ok (.iload_n 1, 1) := by decide +kernel
theorem dX7_tries_178 : decode cX7_tries 178 = .ok (.iadd, 1) := by decide +kernel
theorem dX7_tries_179 : decode cX7_tries 179 = .ok (.aload_n 0, 1) := by decide +kernel
theorem dX7_tries_180 : decode cX7_tries 180 = .ok (.getfield 58, 3) := by decide +kernel
theorem dX7_tries_183 : decode cX7_tries 183 = .ok (.iload_n 1, 1) := by decide +kernel
theorem dX7_tries_184 : decode cX7_tries 184 = .ok (.iaload, 1) := by decide +kernel
theorem dX7_tries_185 : decode cX7_tries 185 = .ok (.iastore, 1) := by decide +kernel
theorem dX7_tries_186 : decode cX7_tries 186 = .ok (.aload_n 0, 1) := by decide +kernel
theorem dX7_tries_187 : decode cX7_tries 187 = .ok (.getfield 61, 3) := by decide +kernel
theorem dX7_tries_190 : decode cX7_tries 190 = .ok (.bipush 48, 2) := by decide +kernel
theorem dX7_tries_192 : decode cX7_tries 192 = .ok (.iload_n 1, 1) := by decide +kernel
theorem dX7_tries_193 : decode cX7_tries 193 = .ok (.iadd, 1) := by decide +kernel
theorem dX7_tries_194 : decode cX7_tries 194 = .ok (.aload_n 0, 1) := by decide +kernel
theorem dX7_tries_195 : decode cX7_tries 195 = .ok (.getfield 61, 3) := by decide +kernel
theorem dX7_tries_198 : decode cX7_tries 198 = .ok (.iload_n 1, 1) := by decide +kernel
theorem dX7_tries_199 : decode cX7_tries 199 = .ok (.iaload, 1) := by decide +kernel
theorem dX7_tries_200 : decode cX7_tries 200 = .ok (.iastore, 1) := by decide +kernel
theorem dX7_tries_201 : decode cX7_tries 201 = .ok (.aload_n 0, 1) := by decide +kernel
theorem dX7_tries_202 : decode cX7_tries 202 = .ok (.getfield 64, 3) := by decide +kernel
theorem dX7_tries_205 : decode cX7_tries 205 = .ok (.bipush 48, 2) := by decide +kernel
theorem dX7_tries_207 : decode cX7_tries 207 = .ok (.iload_n 1, 1) := by decide +kernel
theorem dX7_tries_208 : decode cX7_tries 208 = .ok (.iadd, 1) := by decide +kernel
theorem dX7_tries_209 : decode cX7_tries 209 = .ok (.aload_n 0, 1) := by decide +kernel
theorem dX7_tries_210 : decode cX7_tries 210 = .ok (.getfield 64, 3) := by decide +kernel
theorem dX7_tries_213 : decode cX7_tries 213 = .ok (.iload_n 1, 1) := by decide +kernel
theorem dX7_tries_214 : decode cX7_tries 214 = .ok (.iaload, 1) := by decide +kernel
theorem dX7_tries_215 : decode cX7_tries 215 = .ok (.iastore, 1) := by decide +kernel
theorem dX7_tries_216 : decode cX7_tries 216 = .ok (.iinc 1 1, 3) := by decide +kernel
theorem dX7_tries_219 : decode cX7_tries 219 = .ok (.goto (-54), 3) := by decide +kernel
theorem dX7_tries_142 : decode cX7_tries 142 = .ok (.iload_n 1, 1) := by decide +kernel
theorem dX7_tries_143 : decode cX7_tries 143 = .ok (.bipush 96, 2) := by decide +kernel
theorem dX7_tries_145 : decode cX7_tries 145 = .ok (.if_icmp .ge 18, 3) := by decide +kernel
theorem dX7_tries_163 : decode cX7_tries 163 = .ok (.iconst 0, 1) := by decide +kernel
theorem dX7_tries_164 : decode cX7_tries 164 = .ok (.istore_n 1, 1) := by decide +kernel
theorem dX7_tries_148 : decode cX7_tries 148 = .ok (.aload_n 0, 1) := by decide +kernel
theorem dX7_tries_149 : decode cX7_tries 149 = .ok (.iload_n 1, 1) := by decide +kernel
theorem dX7_tries_150 : decode cX7_tries 150 = .ok (.bipush 96, 2) := by decide +kernel
theorem dX7_tries_152 : decode cX7_tries 152 = .ok (.iload_n 1, 1) := by decide +kernel
theorem dX7_tries_153 : decode cX7_tries 153 = .ok (.iadd, 1) := by decide +kernel
theorem dX7_tries_154 : decode cX7_tries 154 = .ok (.invokevirtual 235, 3) := by decide +kernel
theorem dX7_tries_157 : decode cX7_tries 157 = .ok (.iinc 1 1, 3) := by decide +kernel
theorem dX7_tries_160 : decode cX7_tries 160 = .ok (.goto (-18), 3) := by decide +kernel
theorem dX7_tries_113 : decode cX7_tries 113 = .ok (.iload_n 1, 1) := by decide +kernel
theorem dX7_tries_114 : decode cX7_tries 114 = .ok (.bipush 24, 2) := by decide +kernel
theorem dX7_tries_116 : decode cX7_tries 116 = .ok (.if_icmp .ge 24, 3) := by decide +kernel
theorem dX7_tries_140 : decode cX7_tries 140 = .ok (.iconst 0, 1) := by decide +kernel
theorem dX7_tries_141 : decode cX7_tries 141 = .ok (.istore_n 1, 1) := by decide +kernel
theorem dX7_tries_119 : decode cX7_tries 119 = .ok (.aload_n 0, 1) := by decide +kernel
theorem dX7_tries_120 : decode cX7_tries 120 = .ok (.getfield 28, 3) := by decide +kernel
theorem dX7_tries_123 : decode cX7_tries 123 = .ok (.bipush 24, 2) := by decide +kernel
theorem dX7_tries_125 : decode cX7_tries 125 = .ok (.iload_n 1, 1) := by decide +kernel
theorem dX7_tries_126 : decode cX7_tries 126 = .ok (.iadd, 1) := by decide +kernel
theorem dX7_tries_127 : decode cX7_tries 127 = .ok (.aload_n 0, 1) := by decide +kernel
theorem dX7_tries_128 : decode cX7_tries 128 = .ok (.getfield 28, 3) := by decide +kernel
theorem dX7_tries_131 : decode cX7_tries 131 = .ok (.iload_n 1, 1) := by decide +kernel
theorem dX7_tries_132 : decode cX7_tries 132 = .ok (.iaload, 1) := by decide +kernel
theorem dX7_tries_133 : decode cX7_tries 133 = .ok (.iastore, 1) := by decide +kernel
theorem dX7_tries_134 : decode cX7_tries 134 = .ok (.iinc 1 1, 3) := by decide +kernel
theorem dX7_tries_137 : decode cX7_tries 137 = .ok (.goto (-24), 3) := by decide +kernel
theorem dX7_tries_24 : decode cX7_tries 24 = .ok (.iload_n 1, 1) := by decide +kernel
theorem dX7_tries_25 : decode cX7_tries 25 = .ok (.bipush 6, 2) := by decide +kernel
theorem dX7_tries_27 : decode cX7_tries 27 = .ok (.if_icmp .ge 84, 3) := by decide +kernel
theorem dX7_tries_111 : decode cX7_tries 111 = .ok (.iconst 0, 1) := by decide +kernel
theorem dX7_tries_112 : decode cX7_tries 112 = .ok (.istore_n 1, 1) := by decide +kernel
theorem dX7_tries_30 : decode cX7_tries 30 = .ok (.aload_n 0, 1) := by decide +kernel
theorem dX7_tries_31 : decode cX7_tries 31 = .ok (.getfield 31, 3) := by decide +kernel
theorem dX7_tries_34 : decode cX7_tries 34 = .ok (.bipush 6, 2) := by decide +kernel
theorem dX7_tries_36 : decode cX7_tries 36 = .ok (.iload_n 1, 1) := by decide +kernel
theorem dX7_tries_37 : decode cX7_tries 37 = .ok (.iadd, 1) := by decide +kernel
theorem dX7_tries_38 : decode cX7_tries 38 = .ok (.aload_n 0, 1) := by decide +kernel
theorem dX7_tries_39 : decode cX7_tries 39 = .ok (.getfield 31, 3) := by decide +kernel
theorem dX7_tries_42 : decode cX7_tries 42 = .ok (.iload_n 1, 1) := by decide +kernel
theorem dX7_tries_43 : decode cX7_tries 43 = .ok (.iaload, 1) := by decide +kernel
theorem dX7_tries_44 : decode cX7_tries 44 = .ok (.iastore, 1) := by decide +kernel
theorem dX7_tries_45 : decode cX7_tries 45 = .ok (.aload_n 0, 1) := by decide +kernel
theorem dX7_tries_46 : decode cX7_tries 46 = .ok (.getfield 34, 3) := by decide +kernel
theorem dX7_tries_49 : decode cX7_tries 49 = .ok (.bipush 6, 2) := by decide +kernel
theorem dX7_tries_51 : decode cX7_tries 51 = .ok (.iload_n 1, 1) := by decide +kernel
theorem dX7_tries_52 : decode cX7_tries 52 = .ok (.iadd, 1) := by decide +kernel
theorem dX7_tries_53 : decode cX7_tries 53 = .ok (.aload_n 0, 1) := by decide +kernel
theorem dX7_tries_54 : decode cX7_tries 54 = .ok (.getfield 34, 3) := by decide +kernel
theorem dX7_tries_57 : decode cX7_tries 57 = .ok (.iload_n 1, 1) := by decide +kernel
theorem dX7_tries_58 : decode cX7_tries 58 = .ok (.iaload, 1) := by decide +kernel
theorem dX7_tries_59 : decode cX7_tries 59 = .ok (.iastore, 1) := by decide +kernel
theorem dX7_tries_60 : decode cX7_tries 60 = .ok (.aload_n 0, 1) := by decide +kernel
theorem dX7_tries_61 : decode cX7_tries 61 = .ok (.getfield 67, 3) := by decide +kernel
theorem dX7_tries_64 : decode cX7_tries 64 = .ok (.bipush 6, 2) := by decide +kernel
theorem dX7_tries_66 : decode cX7_tries 66 = .ok (.iload_n 1, 1) := by decide +kernel
theorem dX7_tries_67 : decode cX7_tries 67 = .ok (.iadd, 1) := by decide +kernel
theorem dX7_tries_68 : decode cX7_tries 68 = .ok (.aload_n 0, 1) := by decide +kernel
theorem dX7_tries_69 : decode cX7_tries 69 = .ok (.getfield 67, 3) := by decide +kernel
theorem dX7_tries_72 : decode cX7_tries 72 = .ok (.iload_n 1, 1) := by decide +kernel
theorem dX7_tries_73 : decode cX7_tries 73 = .ok (.baload, 1) := by decide +kernel
theorem dX7_tries_74 : decode cX7_tries 74 = .ok (.bastore, 1) := by decide +kernel
theorem dX7_tries_75 : decode cX7_tries 75 = .ok (.aload_n 0, 1) := by decide +kernel
theorem dX7_tries_76 : decode cX7_tries 76 = .ok (.getfield 52, 3) := by decide +kernel
theorem dX7_tries_79 : decode cX7_tries 79 = .ok (.bipush 6, 2) := by decide +kernel
theorem dX7_tries_81 : decode cX7_tries 81 = .ok (.iload_n 1, 1) := by decide +kernel
theorem dX7_tries_82 : decode cX7_tries 82 = .ok (.iadd, 1) := by decide +kernel
theorem dX7_tries_83 : decode cX7_tries 83 = .ok (.aload_n 0, 1) := by decide +kernel
theorem dX7_tries_84 : decode cX7_tries 84 = .ok (.getfield 52, 3) := by decide +kernel
theorem dX7_tries_87 : decode cX7_tries 87 = .ok (.iload_n 1, 1) := by decide +kernel
theorem dX7_tries_88 : decode cX7_tries 88 = .ok (.iaload, 1) := by decide +kernel
theorem dX7_tries_89 : decode cX7_tries 89 = .ok (.iastore, 1) := by decide +kernel
theorem dX7_tries_90 : decode cX7_tries 90 = .ok (.aload_n 0, 1) := by decide +kernel
theorem dX7_tries_91 : decode cX7_tries 91 = .ok (.getfield 55, 3) := by decide +kernel
theorem dX7_tries_94 : decode cX7_tries 94 = .ok (.bipush 6, 2) := by decide +kernel
theorem dX7_tries_96 : decode cX7_tries 96 = .ok (.iload_n 1, 1) := by decide +kernel
theorem dX7_tries_97 : decode cX7_tries 97 = .ok (.iadd, 1) := by decide +kernel
theorem dX7_tries_98 : decode cX7_tries 98 = .ok (.aload_n 0, 1) := by decide +kernel
theorem dX7_tries_99 : decode cX7_tries 99 = .ok (.getfield 55, 3) := by decide +kernel
theorem dX7_tries_102 : decode cX7_tries 102 = .ok (.iload_n 1, 1) := by decide +kernel
theorem dX7_tries_103 : decode cX7_tries 103 = .ok (.iaload, 1) := by decide +kernel
theorem dX7_tries_104 : decode cX7_tries 104 = .ok (.iastore, 1) := by decide +kernel
theorem dX7_tries_105 : decode cX7_tries 105 = .ok (.iinc 1 1, 3) := by decide +kernel
theorem dX7_tries_108 : decode cX7_tries 108 = .ok (.goto (-84), 3) := by decide +kernel
theorem dX7_tries_0 : decode cX7_tries 0 = .ok (.aload_n 0, 1) := by decide +kernel
theorem dX7_tries_1 : decode cX7_tries 1 = .ok (.iconst 1, 1) := by decide +kernel
theorem dX7_tries_2 : decode cX7_tries 2 = .ok (.putfield 223, 3) := by decide +kernel
theorem dX7_tries_5 : decode cX7_tries 5 = .ok (.aload_n 0, 1) := by decide +kernel
theorem dX7_tries_6 : decode cX7_tries 6 = .ok (.iconst 0, 1) := by decide +kernel
theorem dX7_tries_7 : decode cX7_tries 7 = .ok (.putfield 259, 3) := by decide +kernel
theorem dX7_tries_10 : decode cX7_tries 10 = .ok (.aload_n 0, 1) := by decide +kernel
theorem dX7_tries_11 : decode cX7_tries 11 = .ok (.getfield 49, 3) := by decide +kernel
theorem dX7_tries_14 : decode cX7_tries 14 = .ok (.iconst 1, 1) := by decide +kernel
theorem dX7_tries_15 : decode cX7_tries 15 = .ok (.aload_n 0, 1) := by decide +kernel
theorem dX7_tries_16 : decode cX7_tries 16 = .ok (.getfield 49, 3) := by decide +kernel
theorem dX7_tries_19 : decode cX7_tries 19 = .ok (.iconst 0, 1) := by decide +kernel
theorem dX7_tries_20 : decode cX7_tries 20 = .ok (.iaload, 1) := by decide +kernel
theorem dX7_tries_21 : decode cX7_tries 21 = .ok (.iastore, 1) := by decide +kernel
theorem dX7_tries_22 : decode cX7_tries 22 = .ok (.iconst 0, 1) := by decide +kernel
theorem dX7_tries_23 : decode cX7_tries 23 = .ok (.istore_n 1, 1) := by decide +kernel
theorem dX7_once_103 : decode cX7_once 103 = .ok (.iload_n 1, 1) := by decide +kernel
theorem dX7_once_104 : decode cX7_once 104 = .ok (.aload_n 0, 1) := by decide +kernel
theorem dX7_once_105 : decode cX7_once 105 = .ok (.getfield 259, 3) := by decide +kernel
theorem dX7_once_108 : decode cX7_once 108 = .ok (.if_icmp .ge 21, 3) := by decide +kernel
theorem dX7_once_129 : decode cX7_once 129 = .ok (.aload_n 0, 1) := by decide +kernel
theorem dX7_once_130 : decode cX7_once 130 = .ok (.iconst 0, 1) := by decide +kernel
theorem dX7_once_131 : decode cX7_once 131 = .ok (.putfield 223, 3) := by decide +kernel
theorem dX7_once_134 : decode cX7_once 134 = .ok (.return_, 1) := by decide +kernel
theorem dX7_once_111 : decode cX7_once 111 = .ok (.aload_n 0, 1) := by decide +kernel
theorem dX7_once_112 : decode cX7_once 112 = .ok (.getfield 143, 3) := by decide +kernel
theorem dX7_once_115 : decode cX7_once 115 = .ok (.iload_n 1, 1) := by decide +kernel
theorem dX7_once_116 : decode cX7_once 116 = .ok (.aload_n 0, 1) := by decide +kernel
theorem dX7_once_117 : decode cX7_once 117 = .ok (.getfield 128, 3) := by decide +kernel
theorem dX7_once_120 : decode cX7_once 120 = .ok (.iload_n 1, 1) := by decide +kernel
theorem dX7_once_121 : decode cX7_once 121 = .ok (.iaload, 1) := by decide +kernel
theorem dX7_once_122 : decode cX7_once 122 = .ok (.iastore, 1) := by decide +kernel
theorem dX7_once_123 : decode cX7_once 123 = .ok (.iinc 1 1, 3) := by decide +kernel
theorem dX7_once_126 : decode cX7_once 126 = .ok (.goto (-23), 3) := by decide +kernel
theorem dX7_once_63 : decode cX7_once 63 = .ok (.iload_n 1, 1) := by decide +kernel
theorem dX7_once_64 : decode cX7_once 64 = .ok (.bipush 6, 2) := by decide +kernel
theorem dX7_once_66 : decode cX7_once 66 = .ok (.if_icmp .ge 27, 3) := by decide +kernel
theorem dX7_once_93 : decode cX7_once 93 = .ok (.aload_n 0, 1) := by decide +kernel
theorem dX7_once_94 : decode cX7_once 94 = .ok (.aload_n 0, 1) := by decide +kernel
theorem dX7_once_95 : decode cX7_once 95 = .ok (.getfield 259, 3) := by decide +kernel
theorem dX7_once_98 : decode cX7_once 98 = .ok (.putfield 302, 3) := by decide +kernel
theorem dX7_once_101 : decode cX7_once 101 = .ok (.iconst 0, 1) := by decide +kernel
theorem dX7_once_102 : decode cX7_once 102 = .ok (.istore_n 1, 1) := by decide +kernel
theorem dX7_once_69 : decode cX7_once 69 = .ok (.aload_n 0, 1) := by decide +kernel
theorem dX7_once_70 : decode cX7_once 70 = .ok (.getfield 140, 3) := by decide +kernel
theorem dX7_once_73 : decode cX7_once 73 = .ok (.bipush 24, 2) := by decide +kernel
theorem dX7_once_75 : decode cX7_once 75 = .ok (.iload_n 1, 1) := by decide +kernel
theorem dX7_once_76 : decode cX7_once 76 = .ok (.iadd, 1) := by decide +kernel
theorem dX7_once_77 : decode cX7_once 77 = .ok (.aload_n 0, 1) := by decide +kernel
theorem dX7_once_78 : decode cX7_once 78 = .ok (.getfield 31, 3) := by decide +kernel
theorem dX7_once_81 : decode cX7_once 81 = .ok (.bipush 6, 2) := by decide +kernel
theorem dX7_once_83 : decode cX7_once 83 = .ok (.iload_n 1, 1) := by decide +kernel
theorem dX7_once_84 : decode cX7_once 84 = .ok (.iadd, 1) := by decide +kernel
theorem dX7_once_85 : decode cX7_once 85 = .ok (.iaload, 1) := by decide +kernel
theorem dX7_once_86 : decode cX7_once 86 = .ok (.iastore, 1) := by decide +kernel
theorem dX7_once_87 : decode cX7_once 87 = .ok (.iinc 1 1, 3) := by decide +kernel
theorem dX7_once_90 : decode cX7_once 90 = .ok (.goto (-27), 3) := by decide +kernel
theorem dX7_once_34 : decode cX7_once 34 = .ok (.iload_n 1, 1) := by decide +kernel
theorem dX7_once_35 : decode cX7_once 35 = .ok (.bipush 24, 2) := by decide +kernel
theorem dX7_once_37 : decode cX7_once 37 = .ok (.if_icmp .ge 24, 3) := by decide +kernel
theorem dX7_once_61 : decode cX7_once 61 = .ok (.iconst 0, 1) := by decide +kernel
theorem dX7_once_62 : decode cX7_once 62 = .ok (.istore_n 1, 1) := by decide +kernel
theorem dX7_once_40 : decode cX7_once 40 = .ok (.aload_n 0, 1) := by decide +kernel
theorem dX7_once_41 : decode cX7_once 41 = .ok (.getfield 140, 3) := by decide +kernel
theorem dX7_once_44 : decode cX7_once 44 = .ok (.iload_n 1, 1) := by decide +kernel
theorem dX7_once_45 : decode cX7_once 45 = .ok (.aload_n 0, 1) := by decide +kernel
theorem dX7_once_46 : decode cX7_once 46 = .ok (.getfield 28, 3) := by decide +kernel
theorem dX7_once_49 : decode cX7_once 49 = .ok (.bipush 24, 2) := by decide +kernel
theorem dX7_once_51 : decode cX7_once 51 = .ok (.iload_n 1, 1) := by decide +kernel
theorem dX7_once_52 : decode cX7_once 52 = .ok (.iadd, 1) := by decide +kernel
theorem dX7_once_53 : decode cX7_once 53 = .ok (.iaload, 1) := by decide +kernel
theorem dX7_once_54 : decode cX7_once 54 = .ok (.iastore, 1) := by decide +kernel
theorem dX7_once_55 : decode cX7_once 55 = .ok (.iinc 1 1, 3) := by decide +kernel
theorem dX7_once_58 : decode cX7_once 58 = .ok (.goto (-24), 3) := by decide +kernel
theorem dX7_once_6 : decode cX7_once 6 = .ok (.iload_n 1, 1) := by decide +kernel
theorem dX7_once_7 : decode cX7_once 7 = .ok (.aload_n 0, 1) := by decide +kernel
theorem dX7_once_8 : decode cX7_once 8 = .ok (.getfield 290, 3) := by decide +kernel
theorem dX7_once_11 : decode cX7_once 11 = .ok (.if_icmp .ge 21, 3) := by decide +kernel
theorem dX7_once_32 : decode cX7_once 32 = .ok (.iconst 0, 1) := by decide +kernel
theorem dX7_once_33 : decode cX7_once 33 = .ok (.istore_n 1, 1) := by decide +kernel
theorem dX7_once_14 : decode cX7_once 14 = .ok (.aload_n 0, 1) := by decide +kernel
theorem dX7_once_15 : decode cX7_once 15 = .ok (.getfield 146, 3) := by decide +kernel
theorem dX7_once_18 : decode cX7_once 18 = .ok (.iload_n 1, 1) := by decide +kernel
theorem dX7_once_19 : decode cX7_once 19 = .ok (.aload_n 0, 1) := by decide +kernel
theorem dX7_once_20 : decode cX7_once 20 = .ok (.iload_n 1, 1) := by decide +kernel
theorem dX7_once_21 : decode cX7_once 21 = .ok (.iconst 0, 1) := by decide +kernel
theorem dX7_once_22 : decode cX7_once 22 = .ok (.invokevirtual 299, 3) := by decide +kernel
theorem dX7_once_25 : decode cX7_once 25 = .ok (.iastore, 1) := by decide +kernel
theorem dX7_once_26 : decode cX7_once 26 = .ok (.iinc 1 1, 3) := by decide +kernel
theorem dX7_once_29 : decode cX7_once 29 = .ok (.goto (-23), 3) := by decide +kernel
theorem dX7_once_0 : decode cX7_once 0 = .ok (.aload_n 0, 1) := by decide +kernel
theorem dX7_once_1 : decode cX7_once 1 = .ok (.invokevirtual 296, 3) := by decide +kernel
theorem dX7_once_4 : decode cX7_once 4 = .ok (.iconst 0, 1) := by decide +kernel
theorem dX7_once_5 : decode cX7_once 5 = .ok (.istore_n 1, 1) := by decide +kernel
theorem dX7_isSafe_224 : decode cX7_isSafe 224 = .ok (.iload 5, 2) := by decide +kernel
theorem dX7_isSafe_226 : decode cX7_isSafe 226 = .ok (.aload_n 0, 1) := by decide +kernel
theorem dX7_isSafe_227 : decode cX7_isSafe 227 = .ok (.getfield 259, 3) := by decide +kernel
theorem dX7_isSafe_230 : decode cX7_isSafe 230 = .ok (.if_icmp .ge 38, 3) := by decide +kernel
theorem dX7_isSafe_268 : decode cX7_isSafe 268 = .ok (.aload_n 0, 1) := by decide +kernel
theorem dX7_isSafe_269 : decode cX7_isSafe 269 = .ok (.iconst 0, 1) := by decide +kernel
theorem dX7_isSafe_270 : decode cX7_isSafe 270 = .ok (.putfield 223, 3) := by decide +kernel
theorem dX7_isSafe_273 : decode cX7_isSafe 273 = .ok (.iload 4, 2) := by decide +kernel
theorem dX7_isSafe_275 : decode cX7_isSafe 275 = .ok (.ireturn, 1) := by decide +kernel
theorem dX7_isSafe_233 : decode cX7_isSafe 233 = .ok (.iload 4, 2) := by decide +kernel
theorem dX7_isSafe_235 : decode cX7_isSafe 235 = .ok (.ifCond .eq 33, 3) := by decide +kernel
theorem dX7_isSafe_238 : decode cX7_isSafe 238 = .ok (.aload_n 0, 1) := by decide +kernel
theorem dX7_isSafe_239 : decode cX7_isSafe 239 = .ok (.getfield 128, 3) := by decide +kernel
theorem dX7_isSafe_242 : decode cX7_isSafe 242 = .ok (.iload 5, 2) := by decide +kernel
theorem dX7_isSafe_244 : decode cX7_isSafe 244 = .ok (.iaload, 1) := by decide +kernel
theorem dX7_isSafe_245 : decode cX7_isSafe 245 = .ok (.aload_n 0, 1) := by decide +kernel
theorem dX7_isSafe_246 : decode cX7_isSafe 246 = .ok (.getfield 143, 3) := by decide +kernel
theorem dX7_isSafe_249 : decode cX7_isSafe 249 = .ok (.iload 5, 2) := by decide +kernel
theorem dX7_isSafe_251 : decode cX7_isSafe 251 = .ok (.iaload, 1) := by decide +kernel
theorem dX7_isSafe_252 : decode cX7_isSafe 252 = .ok (.if_icmp .ne 7, 3) := by decide +kernel
theorem dX7_isSafe_259 : decode cX7_isSafe 259 = .ok (.iconst 0, 1) := by decide +kernel
theorem dX7_isSafe_260 : decode cX7_isSafe 260 = .ok (.istore 4, 2) := by decide +kernel
theorem dX7_isSafe_262 : decode cX7_isSafe 262 = .ok (.iinc 5 1, 3) := by decide +kernel
theorem dX7_isSafe_265 : decode cX7_isSafe 265 = .ok (.goto (-41), 3) := by decide +kernel
theorem dX7_isSafe_255 : decode cX7_isSafe 255 = .ok (.iconst 1, 1) := by decide +kernel
theorem dX7_isSafe_256 : decode cX7_isSafe 256 = .ok (.goto 4, 3) := by decide +kernel
theorem dX7_isSafe_130 : decode cX7_isSafe 130 = .ok (.iload 5, 2) := by decide +kernel
theorem dX7_isSafe_132 : decode cX7_isSafe 132 = .ok (.bipush 30, 2) := by decide +kernel
theorem dX7_isSafe_134 : decode cX7_isSafe 134 = .ok (.if_icmp .ge 64, 3) := by decide +kernel
theorem dX7_isSafe_198 : decode cX7_isSafe 198 = .ok (.iload 4, 2) := by decide +kernel
theorem dX7_isSafe_200 : decode cX7_isSafe 200 = .ok (.ifCond .eq 18, 3) := by decide +kernel
theorem dX7_isSafe_218 : decode cX7_isSafe 218 = .ok (.iconst 0, 1) := by decide +kernel
theorem dX7_isSafe_219 : decode cX7_isSafe 219 = .ok (.istore 4, 2) := by decide +kernel
theorem dX7_isSafe_221 : decode cX7_isSafe 221 = .ok (.iconst 0, 1) := by decide +kernel
theorem dX7_isSafe_222 : decode cX7_isSafe 222 = .ok (.istore 5, 2) := by decide +kernel
theorem dX7_isSafe_203 : decode cX7_isSafe 203 = .ok (.aload_n 0, 1) := by decide +kernel
theorem dX7_isSafe_204 : decode cX7_isSafe 204 = .ok (.getfield 259, 3) := by decide +kernel
theorem dX7_isSafe_207 : decode cX7_isSafe 207 = .ok (.aload_n 0, 1) := by decide +kernel
theorem dX7_isSafe_208 : decode cX7_isSafe 208 = .ok (.getfield 302, 3) := by decide +kernel
theorem dX7_isSafe_211 : decode cX7_isSafe 211 = .ok (.if_icmp .ne 7, 3) := by decide +kernel
theorem dX7_isSafe_214 : decode cX7_isSafe 214 = .ok (.iconst 1, 1) := by decide +kernel
theorem dX7_isSafe_215 : decode cX7_isSafe 215 = .ok (.goto 4, 3) := by decide +kernel
theorem dX7_isSafe_137 : decode cX7_isSafe 137 = .ok (.iload 4, 2) := by decide +kernel
theorem dX7_isSafe_139 : decode cX7_isSafe 139 = .ok (.ifCond .eq 50, 3) := by decide +kernel
theorem dX7_isSafe_189 : decode cX7_isSafe 189 = .ok (.iconst 0, 1) := by decide +kernel
theorem dX7_isSafe_190 : decode cX7_isSafe 190 = .ok (.istore 4, 2) := by decide +kernel
theorem dX7_isSafe_192 : decode cX7_isSafe 192 = .ok (.iinc 5 1, 3) := by decide +kernel
theorem dX7_isSafe_195 : decode cX7_isSafe 195 = .ok (.goto (-65), 3) := by decide +kernel
theorem dX7_isSafe_142 : decode cX7_isSafe 142 = .ok (.aload_n 0, 1) := by decide +kernel
theorem dX7_isSafe_143 : decode cX7_isSafe 143 = .ok (.getfield 140, 3) := by decide +kernel
theorem dX7_isSafe_146 : decode cX7_isSafe 146 = .ok (.iload 5, 2) := by decide +kernel
theorem dX7_isSafe_148 : decode cX7_isSafe 148 = .ok (.iaload, 1) := by decide +kernel
theorem dX7_isSafe_149 : decode cX7_isSafe 149 = .ok (.iload 5, 2) := by decide +kernel
theorem dX7_isSafe_151 : decode cX7_isSafe 151 = .ok (.bipush 24, 2) := by decide +kernel
theorem dX7_isSafe_153 : decode cX7_isSafe 153 = .ok (.if_icmp .ge 16, 3) := by decide +kernel
theorem dX7_isSafe_169 : decode cX7_isSafe 169 = .ok (.aload_n 0, 1) := by decide +kernel
theorem dX7_isSafe_170 : decode cX7_isSafe 170 = .ok (.getfield 31, 3) := by decide +kernel
theorem dX7_isSafe_173 : decode cX7_isSafe 173 = .ok (.bipush 6, 2) := by decide +kernel
theorem dX7_isSafe_175 : decode cX7_isSafe 175 = .ok (.iload 5, 2) := by decide +kernel
theorem dX7_isSafe_177 : decode cX7_isSafe 177 = .ok (.iadd, 1) := by decide +kernel
theorem dX7_isSafe_178 : decode cX7_isSafe 178 = .ok (.bipush 24, 2) := by decide +kernel
theorem dX7_isSafe_180 : decode cX7_isSafe 180 = .ok (.isub, 1) := by decide +kernel
theorem dX7_isSafe_181 : decode cX7_isSafe 181 = .ok (.iaload, 1) := by decide +kernel
theorem dX7_isSafe_182 : decode cX7_isSafe 182 = .ok (.if_icmp .ne 7, 3) := by decide +kernel
theorem dX7_isSafe_185 : decode cX7_isSafe 185 = .ok (.iconst 1, 1) := by decide +kernel
theorem dX7_isSafe_186 : decode cX7_isSafe 186 = .ok (.goto 4, 3) := by decide +kernel
theorem dX7_isSafe_156 : decode cX7_isSafe 156 = .ok (.aload_n 0, 1) := by decide +kernel
theorem dX7_isSafe_157 : decode cX7_isSafe 157 = .ok (.getfield 28, 3) := by decide +kernel
theorem dX7_isSafe_160 : decode cX7_isSafe 160 = .ok (.bipush 24, 2) := by decide +kernel
theorem dX7_isSafe_162 : decode cX7_isSafe 162 = .ok (.iload 5, 2) := by decide +kernel
theorem dX7_isSafe_164 : decode cX7_isSafe 164 = .ok (.iadd, 1) := by decide +kernel
theorem dX7_isSafe_165 : decode cX7_isSafe 165 = .ok (.iaload, 1) := by decide +kernel
theorem dX7_isSafe_166 : decode cX7_isSafe 166 = .ok (.goto 16, 3) := by decide +kernel
theorem dX7_isSafe_75 : decode cX7_isSafe 75 = .ok (.iload 5, 2) := by decide +kernel
theorem dX7_isSafe_77 : decode cX7_isSafe 77 = .ok (.iload_n 1, 1) := by decide +kernel
theorem dX7_isSafe_78 : decode cX7_isSafe 78 = .ok (.iload_n 2, 1) := by decide +kernel
theorem dX7_isSafe_79 : decode cX7_isSafe 79 = .ok (.iadd, 1) := by decide +kernel
theorem dX7_isSafe_80 : decode cX7_isSafe 80 = .ok (.if_icmp .ne 41, 3) := by decide +kernel
theorem dX7_isSafe_83 : decode cX7_isSafe 83 = .ok (.aload_n 0, 1) := by decide +kernel
theorem dX7_isSafe_84 : decode cX7_isSafe 84 = .ok (.iload_n 1, 1) := by decide +kernel
theorem dX7_isSafe_85 : decode cX7_isSafe 85 = .ok (.iconst 0, 1) := by decide +kernel
theorem dX7_isSafe_86 : decode cX7_isSafe 86 = .ok (.invokevirtual 299, 3) := by decide +kernel
theorem dX7_isSafe_89 : decode cX7_isSafe 89 = .ok (.istore 7, 2) := by decide +kernel
theorem dX7_isSafe_91 : decode cX7_isSafe 91 = .ok (.iload 4, 2) := by decide +kernel
theorem dX7_isSafe_93 : decode cX7_isSafe 93 = .ok (.ifCond .eq 25, 3) := by decide +kernel
theorem dX7_isSafe_118 : decode cX7_isSafe 118 = .ok (.iconst 0, 1) := by decide +kernel
theorem dX7_isSafe_119 : decode cX7_isSafe 119 = .ok (.istore 4, 2) := by decide +kernel
theorem dX7_isSafe_96 : decode cX7_isSafe 96 = .ok (.aload_n 0, 1) := by decide +kernel
theorem dX7_isSafe_97 : decode cX7_isSafe 97 = .ok (.getfield 293, 3) := by decide +kernel
theorem dX7_isSafe_100 : decode cX7_isSafe 100 = .ok (.ifCond .ne 14, 3) := by decide +kernel
theorem dX7_isSafe_114 : decode cX7_isSafe 114 = .ok (.iconst 1, 1) := by decide +kernel
theorem dX7_isSafe_115 : decode cX7_isSafe 115 = .ok (.goto 4, 3) := by decide +kernel
theorem dX7_isSafe_103 : decode cX7_isSafe 103 = .ok (.iload 7, 2) := by decide +kernel
theorem dX7_isSafe_105 : decode cX7_isSafe 105 = .ok (.aload_n 0, 1) := by decide +kernel
theorem dX7_isSafe_106 : decode cX7_isSafe 106 = .ok (.getfield 146, 3) := by decide +kernel
theorem dX7_isSafe_109 : decode cX7_isSafe 109 = .ok (.iload_n 1, 1) := by decide +kernel
theorem dX7_isSafe_110 : decode cX7_isSafe 110 = .ok (.iaload, 1) := by decide +kernel
theorem dX7_isSafe_111 : decode cX7_isSafe 111 = .ok (.if_icmp .ne 7, 3) := by decide +kernel
theorem dX7_isSafe_38 : decode cX7_isSafe 38 = .ok (.iload 4, 2) := by decide +kernel
theorem dX7_isSafe_40 : decode cX7_isSafe 40 = .ok (.ifCond .eq 32, 3) := by decide +kernel
theorem dX7_isSafe_72 : decode cX7_isSafe 72 = .ok (.iconst 0, 1) := by decide +kernel
theorem dX7_isSafe_73 : decode cX7_isSafe 73 = .ok (.istore 4, 2) := by decide +kernel
theorem dX7_isSafe_43 : decode cX7_isSafe 43 = .ok (.iload 6, 2) := by decide +kernel
theorem dX7_isSafe_45 : decode cX7_isSafe 45 = .ok (.aload_n 0, 1) := by decide +kernel
theorem dX7_isSafe_46 : decode cX7_isSafe 46 = .ok (.getfield 146, 3) := by decide +kernel
theorem dX7_isSafe_49 : decode cX7_isSafe 49 = .ok (.iload 5, 2) := by decide +kernel
theorem dX7_isSafe_51 : decode cX7_isSafe 51 = .ok (.iaload, 1) := by decide +kernel
theorem dX7_isSafe_52 : decode cX7_isSafe 52 = .ok (.if_icmp .eq 16, 3) := by decide +kernel
theorem dX7_isSafe_68 : decode cX7_isSafe 68 = .ok (.iconst 1, 1) := by decide +kernel
theorem dX7_isSafe_69 : decode cX7_isSafe 69 = .ok (.goto 4, 3) := by decide +kernel
theorem dX7_isSafe_55 : decode cX7_isSafe 55 = .ok (.iload 5, 2) := by decide +kernel
theorem dX7_isSafe_57 : decode cX7_isSafe 57 = .ok (.iload_n 1, 1) := by decide +kernel
theorem dX7_isSafe_58 : decode cX7_isSafe 58 = .ok (.if_icmp .ne 14, 3) := by decide +kernel
theorem dX7_isSafe_61 : decode cX7_isSafe 61 = .ok (.iload 6, 2) := by decide +kernel
theorem dX7_isSafe_63 : decode cX7_isSafe 63 = .ok (.bipush (-2), 2) := by decide +kernel
theorem dX7_isSafe_65 : decode cX7_isSafe 65 = .ok (.if_icmp .ne 7, 3) := by decide +kernel
theorem dX7_isSafe_10 : decode cX7_isSafe 10 = .ok (.iload 5, 2) := by decide +kernel
theorem dX7_isSafe_12 : decode cX7_isSafe 12 = .ok (.aload_n 0, 1) := by decide +kernel
theorem dX7_isSafe_13 : decode cX7_isSafe 13 = .ok (.getfield 290, 3) := by decide +kernel
theorem dX7_isSafe_16 : decode cX7_isSafe 16 = .ok (.if_icmp .ge 111, 3) := by decide +kernel
theorem dX7_isSafe_127 : decode cX7_isSafe 127 = .ok (.iconst 0, 1) := by decide +kernel
theorem dX7_isSafe_128 : decode cX7_isSafe 128 = .ok (.istore 5, 2) := by decide +kernel
theorem dX7_isSafe_19 : decode cX7_isSafe 19 = .ok (.aload_n 0, 1) := by decide +kernel
theorem dX7_isSafe_20 : decode cX7_isSafe 20 = .ok (.iload 5, 2) := by decide +kernel
theorem dX7_isSafe_22 : decode cX7_isSafe 22 = .ok (.iload 5, 2) := by decide +kernel
theorem dX7_isSafe_24 : decode cX7_isSafe 24 = .ok (.iload_n 1, 1) := by decide +kernel
theorem dX7_isSafe_25 : decode cX7_isSafe 25 = .ok (.if_icmp .ne 7, 3) := by decide +kernel
theorem dX7_isSafe_32 : decode cX7_isSafe 32 = .ok (.iconst 0, 1) := by decide +kernel
theorem dX7_isSafe_33 : decode cX7_isSafe 33 = .ok (.invokevirtual 299, 3) := by decide +kernel
theorem dX7_isSafe_36 : decode cX7_isSafe 36 = .ok (.istore 6, 2) := by decide +kernel
theorem dX7_isSafe_121 : decode cX7_isSafe 121 = .ok (.iinc 5 1, 3) := by decide +kernel
theorem dX7_isSafe_124 : decode cX7_isSafe 124 = .ok (.goto (-114), 3) := by decide +kernel
theorem dX7_isSafe_28 : decode cX7_isSafe 28 = .ok (.iload_n 3, 1) := by decide +kernel
theorem dX7_isSafe_29 : decode cX7_isSafe 29 = .ok (.goto 4, 3) := by decide +kernel
theorem dX7_isSafe_0 : decode cX7_isSafe 0 = .ok (.aload_n 0, 1) := by decide +kernel
theorem dX7_isSafe_1 : decode cX7_isSafe 1 = .ok (.invokevirtual 296, 3) := by decide +kernel
theorem dX7_isSafe_4 : decode cX7_isSafe 4 = .ok (.iconst 1, 1) := by decide +kernel
theorem dX7_isSafe_5 : decode cX7_isSafe 5 = .ok (.istore 4, 2) := by decide +kernel
theorem dX7_isSafe_7 : decode cX7_isSafe 7 = .ok (.iconst 0, 1) := by decide +kernel
theorem dX7_isSafe_8 : decode cX7_isSafe 8 = .ok (.istore 5, 2) := by decide +kernel
theorem dX7_worstOf_28 : decode cX7_worstOf 28 = .ok (.iload_n 3, 1) := by decide +kernel
theorem dX7_worstOf_29 : decode cX7_worstOf 29 = .ok (.iconst 5, 1) := by decide +kernel
theorem dX7_worstOf_30 : decode cX7_worstOf 30 = .ok (.if_icmp .gt 32, 3) := by decide +kernel
theorem dX7_worstOf_33 : decode cX7_worstOf 33 = .ok (.aload_n 0, 1) := by decide +kernel
theorem dX7_worstOf_34 : decode cX7_worstOf 34 = .ok (.iload_n 1, 1) := by decide +kernel
theorem dX7_worstOf_35 : decode cX7_worstOf 35 = .ok (.iload_n 2, 1) := by decide +kernel
theorem dX7_worstOf_36 : decode cX7_worstOf 36 = .ok (.iload_n 3, 1) := by decide +kernel
theorem dX7_worstOf_37 : decode cX7_worstOf 37 = .ok (.invokevirtual 308, 3) := by decide +kernel
theorem dX7_worstOf_40 : decode cX7_worstOf 40 = .ok (.ifCond .ne 16, 3) := by decide +kernel
theorem dX7_worstOf_56 : decode cX7_worstOf 56 = .ok (.iinc 3 1, 3) := by decide +kernel
theorem dX7_worstOf_59 : decode cX7_worstOf 59 = .ok (.goto (-31), 3) := by decide +kernel
theorem dX7_worstOf_43 : decode cX7_worstOf 43 = .ok (.sipush 1000, 3) := by decide +kernel
theorem dX7_worstOf_46 : decode cX7_worstOf 46 = .ok (.iload_n 1, 1) := by decide +kernel
theorem dX7_worstOf_47 : decode cX7_worstOf 47 = .ok (.imul, 1) := by decide +kernel
theorem dX7_worstOf_48 : decode cX7_worstOf 48 = .ok (.bipush 100, 2) := by decide +kernel
theorem dX7_worstOf_50 : decode cX7_worstOf 50 = .ok (.iload_n 2, 1) := by decide +kernel
theorem dX7_worstOf_51 : decode cX7_worstOf 51 = .ok (.imul, 1) := by decide +kernel
theorem dX7_worstOf_52 : decode cX7_worstOf 52 = .ok (.iadd, 1) := by decide +kernel
theorem dX7_worstOf_53 : decode cX7_worstOf 53 = .ok (.iload_n 3, 1) := by decide +kernel
theorem dX7_worstOf_54 : decode cX7_worstOf 54 = .ok (.iadd, 1) := by decide +kernel
theorem dX7_worstOf_55 : decode cX7_worstOf 55 = .ok (.ireturn, 1) := by decide +kernel
theorem dX7_worstOf_16 : decode cX7_worstOf 16 = .ok (.iload_n 2, 1) := by decide +kernel
theorem dX7_worstOf_17 : decode cX7_worstOf 17 = .ok (.aload_n 0, 1) := by decide +kernel
theorem dX7_worstOf_18 : decode cX7_worstOf 18 = .ok (.getfield 290, 3) := by decide +kernel
theorem dX7_worstOf_21 : decode cX7_worstOf 21 = .ok (.iload_n 1, 1) := by decide +kernel
theorem dX7_worstOf_22 : decode cX7_worstOf 22 = .ok (.isub, 1) := by decide +kernel
theorem dX7_worstOf_23 : decode cX7_worstOf 23 = .ok (.if_icmp .ge 45, 3) := by decide +kernel
theorem dX7_worstOf_26 : decode cX7_worstOf 26 = .ok (.iconst 0, 1) := by decide +kernel
theorem dX7_worstOf_27 : decode cX7_worstOf 27 = .ok (.istore_n 3, 1) := by decide +kernel
theorem dX7_worstOf_62 : decode cX7_worstOf 62 = .ok (.iinc 2 1, 3) := by decide +kernel
theorem dX7_worstOf_65 : decode cX7_worstOf 65 = .ok (.goto (-49), 3) := by decide +kernel
theorem dX7_worstOf_6 : decode cX7_worstOf 6 = .ok (.iload_n 1, 1) := by decide +kernel
theorem dX7_worstOf_7 : decode cX7_worstOf 7 = .ok (.aload_n 0, 1) := by decide +kernel
theorem dX7_worstOf_8 : decode cX7_worstOf 8 = .ok (.getfield 290, 3) := by decide +kernel
theorem dX7_worstOf_11 : decode cX7_worstOf 11 = .ok (.if_icmp .ge 63, 3) := by decide +kernel
theorem dX7_worstOf_74 : decode cX7_worstOf 74 = .ok (.iconst (-1), 1) := by decide +kernel
theorem dX7_worstOf_75 : decode cX7_worstOf 75 = .ok (.ireturn, 1) := by decide +kernel
theorem dX7_worstOf_14 : decode cX7_worstOf 14 = .ok (.iconst 0, 1) := by decide +kernel
theorem dX7_worstOf_15 : decode cX7_worstOf 15 = .ok (.istore_n 2, 1) := by decide +kernel
theorem dX7_worstOf_68 : decode cX7_worstOf 68 = .ok (.iinc 1 1, 3) := by decide +kernel
theorem dX7_worstOf_71 : decode cX7_worstOf 71 = .ok (.goto (-65), 3) := by decide +kernel
theorem dX7_worstOf_0 : decode cX7_worstOf 0 = .ok (.aload_n 0, 1) := by decide +kernel
theorem dX7_worstOf_1 : decode cX7_worstOf 1 = .ok (.invokevirtual 305, 3) := by decide +kernel
theorem dX7_worstOf_4 : decode cX7_worstOf 4 = .ok (.iconst 0, 1) := by decide +kernel
theorem dX7_worstOf_5 : decode cX7_worstOf 5 = .ok (.istore_n 1, 1) := by decide +kernel
/-! orders, counted -/
theorem i_01 {x : Int32} (h0 : 0 ≤ x.toInt) (h1 : x.toInt ≤ 1) : x = 1 ∨ x = 0 := by
  by_cases h : x.toInt = 1
  · exact Or.inl (i_inj (by rw [h]; decide))
  · exact Or.inr (i_inj (by rw [show x.toInt = 0 by omega]; decide))
theorem i_nn {x : Int32} (h : 0 ≤ x.toInt) : (x.toNatClampNeg : Int) = x.toInt := Int.toNat_of_nonneg h
theorem OD.st {g : GS} {oa : Nat} {i v n z rs i2 : Int32} (ho : ∀ q : Nat, (q : Int) < i.toInt → (g.2.2.2.1 oa q).toInt = n.toInt / z.toInt ^ q % z.toInt) (h0 : 0 ≤ i.toInt) (hv : v.toInt = rs.toInt % z.toInt) (hr : rs.toInt = n.toInt / z.toInt ^ i.toNatClampNeg) (hi : i2.toInt = i.toInt + 1) : ∀ q : Nat, (q : Int) < i2.toInt → ((sC g oa i.toNatClampNeg v).2.2.2.1 oa q).toInt = n.toInt / z.toInt ^ q % z.toInt := fun q hq => by
  show (if oa = oa ∧ q = i.toNatClampNeg then v else g.2.2.2.1 oa q).toInt = _
  have e0 := i_nn h0
  by_cases hj : q = i.toNatClampNeg
  · rw [if_pos ⟨rfl, hj⟩, hv, hr, hj]
  · rw [if_neg (fun p => hj p.2)]
    exact ho q (by omega)
theorem OD.rs {i rs rs2 n z i2 : Int32} (h0 : 0 ≤ i.toInt) (hz : 0 ≤ z.toInt) (hr : rs.toInt = n.toInt / z.toInt ^ i.toNatClampNeg) (e : rs2.toInt = rs.toInt / z.toInt) (hi : i2.toInt = i.toInt + 1) : rs2.toInt = n.toInt / z.toInt ^ i2.toNatClampNeg := by
  have e1 := i_nn h0
  have e2 := i_nn (x := i2) (by omega)
  rw [show i2.toNatClampNeg = i.toNatClampNeg + 1 by omega, e, hr, Int.pow_succ, Int.ediv_ediv_of_nonneg (Int.pow_nonneg hz)]
def pB (r x : Nat) : Bool := (List.range r).all fun c => (List.range r).any fun q => x / r ^ q % r == c
def pC (r x : Nat) : Nat := ((List.range x).filter (pB r)).length
theorem pC_s (r x : Nat) : pC r (x + 1) = pC r x + (if pB r x then 1 else 0) := by
  unfold pC
  rw [List.range_succ, List.filter_append, List.length_append]
  by_cases h : pB r x = true
  · rw [if_pos h, List.filter_cons_of_pos h]; rfl
  · rw [if_neg h, List.filter_cons_of_neg h]; rfl
theorem pC_m (r : Nat) {x y : Nat} (h : x ≤ y) : pC r x ≤ pC r y := by
  obtain ⟨d, rfl⟩ := Nat.le.dest h
  induction d with
  | zero => exact Nat.le_refl _
  | succ d ih => exact Nat.le_trans (ih (Nat.le_add_right _ _)) (by rw [← Nat.add_assoc, pC_s]; exact Nat.le_add_right _ _)
theorem pC_2 : pC 2 4 ≤ 24 := by decide +kernel
theorem pC_3 : pC 3 27 ≤ 24 := by decide +kernel
theorem pC_4 : pC 4 256 ≤ 24 := by decide +kernel
theorem pB_of {r : Nat} {z x n : Int32} {g : GS} {oa : Nat} (hz : z.toInt = r) (h1 : ∀ c : Nat, (c : Int) < z.toInt → ∃ q : Nat, (q : Int) < n.toInt ∧ (g.2.2.2.1 oa q).toInt = (c : Int)) (hn : n.toInt = r) (h2 : ∀ q : Nat, (q : Int) < n.toInt → (g.2.2.2.1 oa q).toInt = x.toInt / z.toInt ^ q % z.toInt) (hx : 0 ≤ x.toInt) : pB r x.toNatClampNeg = true := by
  unfold pB
  rw [List.all_eq_true]
  intro c hc
  rw [List.any_eq_true]
  obtain ⟨q, q1, q2⟩ := h1 c (by have := List.mem_range.mp hc; omega)
  refine ⟨q, List.mem_range.mpr (by omega), ?_⟩
  rw [h2 q q1, hz, ← i_nn hx, ← Int.natCast_pow, ← Int.natCast_ediv, ← Int.natCast_emod] at q2
  exact beq_iff_eq.mpr (Int.ofNat.inj q2)
/-- one order more: still no more than there are -/
theorem pC_in {r x nn M : Nat} (hp : nn ≤ pC r x) (hb : pB r x = true) (hx : x + 1 ≤ M) (hm : pC r M ≤ 24) : nn ≤ 23 ∧ nn + 1 ≤ pC r (x + 1) := by
  have h1 := pC_s r x
  rw [if_pos hb] at h1
  have h2 := pC_m r hx
  omega
theorem pC_no {r x nn : Nat} (hp : nn ≤ pC r x) : nn ≤ pC r (x + 1) := by
  have h1 := pC_s r x
  omega
theorem z_01 {x : Int32} (h : x = 1 ∨ x = 0) : narrow .boolean (.int x) = .int x := by
  rcases h with rfl | rfl <;> rfl
theorem i_remE {x y z : Int32} {a b : Int} (e : z = x - x / y * y) (hx : x.toInt = a) (hy : y.toInt = b) (h1 : 0 ≤ a) (h2 : 0 < b) : z.toInt = a % b := by
  obtain ⟨n, hn, rfl⟩ := nI_of (x := x) (fun q => by have := i_lt q hx z0; omega)
  obtain ⟨k, hk, rfl⟩ := nI_of (x := y) (fun q => by have := i_lt q hy z0; omega)
  rw [nI_toInt hk] at hy
  rw [nI_toInt hn] at hx
  have h0 : 0 < k := by omega
  rw [pk_rem hn h0 hk] at e
  rw [e, nI_toInt (Nat.lt_trans (Nat.mod_lt n h0) hk), ← hx, ← hy]
  rfl
theorem i_divE {x y z : Int32} {a b : Int} (e : z = x / y) (hx : x.toInt = a) (hy : y.toInt = b) (h1 : 0 ≤ a) (h2 : 0 < b) : z.toInt = a / b := by
  obtain ⟨n, hn, rfl⟩ := nI_of (x := x) (fun q => by have := i_lt q hx z0; omega)
  obtain ⟨k, hk, rfl⟩ := nI_of (x := y) (fun q => by have := i_lt q hy z0; omega)
  rw [nI_toInt hk] at hy
  rw [nI_toInt hn] at hx
  have h0 : 0 < k := by omega
  rw [pk_div hn h0 hk] at e
  rw [e, nI_toInt (Nat.lt_of_le_of_lt (Nat.div_le_self n k) hn), ← hx, ← hy]
  rfl

abbrev md_m_tries : Nat → Nat → Bool := mdf [(8, 21), (8, 52), (40, 99), (50, 99), (54, 99), (56, 99), (58, 99)]
theorem mdle_m_tries_m_moves {r k : Nat} (h : md_m_tries r k = false) : md_m_moves r k = false := mdf_le (by decide +kernel) h
set_option maxHeartbeats 4000000 in
set_option maxRecDepth 100000 in
theorem lt_m_tries_d (l : Launch) (D : va_G) (cI cZ cS cR : ClassId) (N0 : NT) (g : GS) (h : Nat) (r_h : g.1 h = 8) {p : Program} {e : Env} {s : State} {m : MethodId} {args : Array Value} {below : List Frame} {meth : Method} {c : Code} (hB : Tz p s m meth c args cX7_tries 2 RX7 D cI cZ cS cR N0) (hr : meth.sig.returnType = none)    : ∀ (kf : Nat) (g1 : GS) (i : Int32)  (H : Heap) (locs : List Loc) (ls : Array Slot), Tv D cI cZ cS cR N0 s.heap H locs g1 → Inv g1 → Ex g g1 → Sm md_m_tries g g1 → 0 ≤ i.toInt → i.toInt ≤ 48 → g1.2.1 h 21 = .int 1 → g1.2.1 h 52 = .int 0 → (48 ≤ i.toInt + kf) → lv_has ls 2 [(1, .int i), (0, .ref h)] → W p l e (rmx 1 0 0) s m args below meth c H locs 0 0 (MQ below (tQ D cI cZ cS cR N0 (fun v g' => v = none ∧ Inv g' ∧ Ex g g' ∧ Sm md_m_tries g g' ∧ (g'.2.1 h 21 = .int 1) ∧ (g'.2.1 h 52 = .int 0))) args s 0 0 (fun q => N0.1 ≤ q)) (F0 m 165 ls []) := by
  have hx := hB.1
  have hb := hB.2.1
  intro kf
  induction kf using Nat.strongRecOn with
  | ind kf ih =>
    intro g1 i H locs ls hT hI hE hM l_i u_i kp0 kp1 hk hl
    have r_1 : g1.1 h = 8 := Ex.r hE r_h (by decide)
    refine lv_iload_n hx hb dX7_tries_165 rfl (lv_at hl 0 rfl) ?_
    refine lv_bipush (v := 48) hx hb dX7_tries_166 (by decide) ?_
    refine lv_icmp_ge (tgt := 222) hx hb dX7_tries_168 (by decide) (fun c_2 => ?_) (fun c_2 => ?_)
    · have c_2' : 48 ≤ i.toInt := i_le c_2 (by decide) rfl
      exact t_vret hB hr hT (Nat.le_of_ble_eq_true rfl) (Nat.le_of_ble_eq_true rfl) dX7_tries_222 ⟨rfl, hI, hE, hM, kp0, kp1⟩
    · have c_2' : i.toInt < 48 := i_nle c_2 (by decide) rfl
      refine lv_aload_n hx hb dX7_tries_171 rfl (lv_at hl 1 rfl) ?_
      obtain ⟨v_3, e_v_3, r_v_3, n_v_3⟩ := f_8_17 hI r_1
      refine t_get (ci := 7) (v := .ref v_3) hB hT (ro_ci r_1 rfl) rfl 17 (by decide) k_762 e_v_3 dX7_tries_172 ?_
      refine lv_bipush (v := 48) hx hb dX7_tries_175 (by decide) ?_
      refine lv_iload_n hx hb dX7_tries_177 rfl (lv_at hl 0 rfl) ?_
      refine lv_iadd hx hb dX7_tries_178 ?_
      refine lv_topi (fun z_4 ez_4 => ?_)
      have e_z_4 : z_4.toInt = 48 + i.toInt := i_add ez_4 (by decide) rfl (by omega) (by omega)
      refine lv_aload_n hx hb dX7_tries_179 rfl (lv_at hl 1 rfl) ?_
      refine t_get (ci := 7) (v := .ref v_3) hB hT (ro_ci r_1 rfl) rfl 17 (by decide) k_762 e_v_3 dX7_tries_180 ?_
      refine lv_iload_n hx hb dX7_tries_183 rfl (lv_at hl 0 rfl) ?_
      have i_u_5 : vp_in i 96 := (i_in (n := 96) rfl (by omega) (by omega))
      refine t_iald hB hT (ro_in r_v_3 (by decide)) n_v_3 i_u_5 rfl dX7_tries_184 ?_
      refine lv_topi (fun u_5 e_u_5 => ?_)
      have i_6 : vp_in z_4 96 := (i_in (n := 96) rfl (by omega) (by omega))
      refine t_iast hB hT (ro_in r_v_3 (by decide)) n_v_3 i_6 dX7_tries_185 (fun H locs hT => ?_)
      have hI : Inv (sC g1 v_3 z_4.toNatClampNeg u_5) := hI.sC (ck r_v_3 trivial)
      have hM : Sm md_m_tries g (sC g1 v_3 z_4.toNatClampNeg u_5) := hM.tr hE (Sm_sC (by rw [r_v_3]; rfl))
      have hE : Ex g (sC g1 v_3 z_4.toNatClampNeg u_5) := hE
      refine lv_aload_n hx hb dX7_tries_186 rfl (lv_at hl 1 rfl) ?_
      obtain ⟨v_7, e_v_7, r_v_7, n_v_7⟩ := f_8_18 hI r_1
      refine t_get (ci := 7) (v := .ref v_7) hB hT (ro_ci r_1 rfl) rfl 18 (by decide) k_763 e_v_7 dX7_tries_187 ?_
      refine lv_bipush (v := 48) hx hb dX7_tries_190 (by decide) ?_
      refine lv_iload_n hx hb dX7_tries_192 rfl (lv_at hl 0 rfl) ?_
      refine lv_iadd hx hb dX7_tries_193 ?_
      refine lv_topi (fun z_8 ez_8 => ?_)
      have e_z_8 : z_8.toInt = 48 + i.toInt := i_add ez_8 (by decide) rfl (by omega) (by omega)
      refine lv_aload_n hx hb dX7_tries_194 rfl (lv_at hl 1 rfl) ?_
      refine t_get (ci := 7) (v := .ref v_7) hB hT (ro_ci r_1 rfl) rfl 18 (by decide) k_763 e_v_7 dX7_tries_195 ?_
      refine lv_iload_n hx hb dX7_tries_198 rfl (lv_at hl 0 rfl) ?_
      have i_u_9 : vp_in i 96 := (i_in (n := 96) rfl (by omega) (by omega))
      refine t_iald hB hT (ro_in r_v_7 (by decide)) n_v_7 i_u_9 rfl dX7_tries_199 ?_
      refine lv_topi (fun u_9 e_u_9 => ?_)
      have i_10 : vp_in z_8 96 := (i_in (n := 96) rfl (by omega) (by omega))
      refine t_iast hB hT (ro_in r_v_7 (by decide)) n_v_7 i_10 dX7_tries_200 (fun H locs hT => ?_)
      have hI : Inv (sC (sC g1 v_3 z_4.toNatClampNeg u_5) v_7 z_8.toNatClampNeg u_9) := hI.sC (ck r_v_7 trivial)
      have hM : Sm md_m_tries g (sC (sC g1 v_3 z_4.toNatClampNeg u_5) v_7 z_8.toNatClampNeg u_9) := hM.tr hE (Sm_sC (by rw [r_v_7]; rfl))
      have hE : Ex g (sC (sC g1 v_3 z_4.toNatClampNeg u_5) v_7 z_8.toNatClampNeg u_9) := hE
      refine lv_aload_n hx hb dX7_tries_201 rfl (lv_at hl 1 rfl) ?_
      obtain ⟨v_11, e_v_11, r_v_11, n_v_11⟩ := f_8_19 hI r_1
      refine t_get (ci := 7) (v := .ref v_11) hB hT (ro_ci r_1 rfl) rfl 19 (by decide) k_764 e_v_11 dX7_tries_202 ?_
      refine lv_bipush (v := 48) hx hb dX7_tries_205 (by decide) ?_
      refine lv_iload_n hx hb dX7_tries_207 rfl (lv_at hl 0 rfl) ?_
      refine lv_iadd hx hb dX7_tries_208 ?_
      refine lv_topi (fun z_12 ez_12 => ?_)
      have e_z_12 : z_12.toInt = 48 + i.toInt := i_add ez_12 (by decide) rfl (by omega) (by omega)
      refine lv_aload_n hx hb dX7_tries_209 rfl (lv_at hl 1 rfl) ?_
      refine t_get (ci := 7) (v := .ref v_11) hB hT (ro_ci r_1 rfl) rfl 19 (by decide) k_764 e_v_11 dX7_tries_210 ?_
      refine lv_iload_n hx hb dX7_tries_213 rfl (lv_at hl 0 rfl) ?_
      have i_u_13 : vp_in i 96 := (i_in (n := 96) rfl (by omega) (by omega))
      refine t_iald hB hT (ro_in r_v_11 (by decide)) n_v_11 i_u_13 rfl dX7_tries_214 ?_
      refine lv_topi (fun u_13 e_u_13 => ?_)
      have i_14 : vp_in z_12 96 := (i_in (n := 96) rfl (by omega) (by omega))
      refine t_iast hB hT (ro_in r_v_11 (by decide)) n_v_11 i_14 dX7_tries_215 (fun H locs hT => ?_)
      have hI : Inv (sC (sC (sC g1 v_3 z_4.toNatClampNeg u_5) v_7 z_8.toNatClampNeg u_9) v_11 z_12.toNatClampNeg u_13) := hI.sC (ck r_v_11 trivial)
      have hM : Sm md_m_tries g (sC (sC (sC g1 v_3 z_4.toNatClampNeg u_5) v_7 z_8.toNatClampNeg u_9) v_11 z_12.toNatClampNeg u_13) := hM.tr hE (Sm_sC (by rw [r_v_11]; rfl))
      have hE : Ex g (sC (sC (sC g1 v_3 z_4.toNatClampNeg u_5) v_7 z_8.toNatClampNeg u_9) v_11 z_12.toNatClampNeg u_13) := hE
      obtain ⟨z_15, ez_15⟩ : ∃ z : Int32, z = i + 1 := ⟨_, rfl⟩
      have e_z_15 : z_15.toInt = i.toInt + 1 := i_add ez_15 rfl (by decide) (by omega) (by omega)
      refine lv_iinc (v := z_15) (lv' := [(1, .int z_15), (0, .ref h)]) hx hb dX7_tries_216 hl (k := 0) rfl (by rw [ez_15]; rfl) (by decide) rfl (fun ls hl => ?_)
      refine lv_goto (tgt := 165) hx hb dX7_tries_219 (by decide) ?_
      exact ih (kf - 1) (by omega) (sC (sC (sC g1 v_3 z_4.toNatClampNeg u_5) v_7 z_8.toNatClampNeg u_9) v_11 z_12.toNatClampNeg u_13) z_15 H locs ls hT hI hE hM (by omega) (by omega) kp0 kp1 (by have e0_ : (0 : Int32).toInt = 0 := (by decide); omega) (lv_sub hl [0, 1] rfl)
set_option maxHeartbeats 4000000 in
set_option maxRecDepth 100000 in
theorem lt_m_tries_c (l : Launch) (D : va_G) (cI cZ cS cR : ClassId) (N0 : NT) (g : GS) (h : Nat) (r_h : g.1 h = 8) {p : Program} {e : Env} {s : State} {m : MethodId} {args : Array Value} {below : List Frame} {meth : Method} {c : Code} (hB : Tz p s m meth c args cX7_tries 2 RX7 D cI cZ cS cR N0) (hr : meth.sig.returnType = none)    : ∀ (kf : Nat) (g1 : GS) (i : Int32)  (H : Heap) (locs : List Loc) (ls : Array Slot), Tv D cI cZ cS cR N0 s.heap H locs g1 → Inv g1 → Ex g g1 → Sm md_m_tries g g1 → 0 ≤ i.toInt → i.toInt ≤ 96 → g1.2.1 h 21 = .int 1 → g1.2.1 h 52 = .int 0 → (96 ≤ i.toInt + kf) → lv_has ls 2 [(1, .int i), (0, .ref h)] → W p l e (rmx 1 0 0) s m args below meth c H locs 0 0 (MQ below (tQ D cI cZ cS cR N0 (fun v g' => v = none ∧ Inv g' ∧ Ex g g' ∧ Sm md_m_tries g g' ∧ (g'.2.1 h 21 = .int 1) ∧ (g'.2.1 h 52 = .int 0))) args s 0 0 (fun q => N0.1 ≤ q)) (F0 m 142 ls []) := by
  have hx := hB.1
  have hb := hB.2.1
  intro kf
  induction kf using Nat.strongRecOn with
  | ind kf ih =>
    intro g1 i H locs ls hT hI hE hM l_i u_i kp0 kp1 hk hl
    have r_1 : g1.1 h = 8 := Ex.r hE r_h (by decide)
    refine lv_iload_n hx hb dX7_tries_142 rfl (lv_at hl 0 rfl) ?_
    refine lv_bipush (v := 96) hx hb dX7_tries_143 (by decide) ?_
    refine lv_icmp_ge (tgt := 163) hx hb dX7_tries_145 (by decide) (fun c_2 => ?_) (fun c_2 => ?_)
    · have c_2' : 96 ≤ i.toInt := i_le c_2 (by decide) rfl
      refine lv_iconst (v := 0) hx hb dX7_tries_163 (by decide) ?_
      refine lv_istore_n (lv' := [(1, .int 0), (0, .ref h)]) hx hb dX7_tries_164 rfl hl (by decide) rfl (fun ls hl => ?_)
      exact lt_m_tries_d l D cI cZ cS cR N0 g h r_h hB hr   48 g1 (0 : Int32) H locs ls hT hI hE hM (by decide) (by decide) kp0 kp1 (by have e0_ : (0 : Int32).toInt = 0 := (by decide); omega) (lv_sub hl [0, 1] rfl)
    · have c_2' : i.toInt < 96 := i_nle c_2 (by decide) rfl
      refine lv_aload_n hx hb dX7_tries_148 rfl (lv_at hl 1 rfl) ?_
      refine lv_iload_n hx hb dX7_tries_149 rfl (lv_at hl 0 rfl) ?_
      refine lv_bipush (v := 96) hx hb dX7_tries_150 (by decide) ?_
      refine lv_iload_n hx hb dX7_tries_152 rfl (lv_at hl 0 rfl) ?_
      refine lv_iadd hx hb dX7_tries_153 ?_
      refine lv_topi (fun z_3 ez_3 => ?_)
      have e_z_3 : z_3.toInt = 96 + i.toInt := i_add ez_3 (by decide) rfl (by omega) (by omega)
      refine t_callV (n := 2) (As := [.int i, .int z_3]) (rest := []) (ci := 7) hB hT hl.1 (m_moves l D cI cZ cS cR N0 g1 hI h i z_3 r_1 (by omega) (by omega) (by omega) (by omega)) (ro_ci r_1 rfl) rfl k_1051 k_65 k_1048 k_1050 k_36 (by decide +kernel) ⟨(Nat.le_of_ble_eq_true rfl), (Nat.le_of_ble_eq_true rfl)⟩ rfl (Nat.le_of_ble_eq_true rfl) ⟨(Nat.le_of_ble_eq_true rfl), (Nat.le_of_ble_eq_true rfl)⟩ dX7_tries_154 (fun v g_4 H locs hp hT => ?_)
      obtain ⟨rfl, hI, x_6, m_5⟩ := hp
      have hM : Sm md_m_tries g g_4 := hM.tr hE (m_5.mo (fun r k h => mdle_m_tries_m_moves h))
      have hE : Ex g g_4 := hE.tr x_6
      have r_7 : g_4.1 h = 8 := (Ex.r x_6 r_1 (by decide))
      have kn_8 : g_4.2.1 h 21 = .int 1 := (Sm.v m_5 r_1 (by decide) rfl kp0)
      have kn_9 : g_4.2.1 h 52 = .int 0 := (Sm.v m_5 r_1 (by decide) rfl kp1)
      refine W.eq (g2 := F0 m 157 ls []) rfl ?_
      obtain ⟨z_10, ez_10⟩ : ∃ z : Int32, z = i + 1 := ⟨_, rfl⟩
      have e_z_10 : z_10.toInt = i.toInt + 1 := i_add ez_10 rfl (by decide) (by omega) (by omega)
      refine lv_iinc (v := z_10) (lv' := [(1, .int z_10), (0, .ref h)]) hx hb dX7_tries_157 hl (k := 0) rfl (by rw [ez_10]; rfl) (by decide) rfl (fun ls hl => ?_)
      refine lv_goto (tgt := 142) hx hb dX7_tries_160 (by decide) ?_
      exact ih (kf - 1) (by omega) g_4 z_10 H locs ls hT hI hE hM (by omega) (by omega) kn_8 kn_9 (by have e0_ : (0 : Int32).toInt = 0 := (by decide); omega) (lv_sub hl [0, 1] rfl)
set_option maxHeartbeats 4000000 in
set_option maxRecDepth 100000 in
theorem lt_m_tries_b (l : Launch) (D : va_G) (cI cZ cS cR : ClassId) (N0 : NT) (g : GS) (h : Nat) (r_h : g.1 h = 8) {p : Program} {e : Env} {s : State} {m : MethodId} {args : Array Value} {below : List Frame} {meth : Method} {c : Code} (hB : Tz p s m meth c args cX7_tries 2 RX7 D cI cZ cS cR N0) (hr : meth.sig.returnType = none)    : ∀ (kf : Nat) (g1 : GS) (i : Int32)  (H : Heap) (locs : List Loc) (ls : Array Slot), Tv D cI cZ cS cR N0 s.heap H locs g1 → Inv g1 → Ex g g1 → Sm md_m_tries g g1 → 0 ≤ i.toInt → i.toInt ≤ 24 → g1.2.1 h 21 = .int 1 → g1.2.1 h 52 = .int 0 → (24 ≤ i.toInt + kf) → lv_has ls 2 [(1, .int i), (0, .ref h)] → W p l e (rmx 1 0 0) s m args below meth c H locs 0 0 (MQ below (tQ D cI cZ cS cR N0 (fun v g' => v = none ∧ Inv g' ∧ Ex g g' ∧ Sm md_m_tries g g' ∧ (g'.2.1 h 21 = .int 1) ∧ (g'.2.1 h 52 = .int 0))) args s 0 0 (fun q => N0.1 ≤ q)) (F0 m 113 ls []) := by
  have hx := hB.1
  have hb := hB.2.1
  intro kf
  induction kf using Nat.strongRecOn with
  | ind kf ih =>
    intro g1 i H locs ls hT hI hE hM l_i u_i kp0 kp1 hk hl
    have r_1 : g1.1 h = 8 := Ex.r hE r_h (by decide)
    refine lv_iload_n hx hb dX7_tries_113 rfl (lv_at hl 0 rfl) ?_
    refine lv_bipush (v := 24) hx hb dX7_tries_114 (by decide) ?_
    refine lv_icmp_ge (tgt := 140) hx hb dX7_tries_116 (by decide) (fun c_2 => ?_) (fun c_2 => ?_)
    · have c_2' : 24 ≤ i.toInt := i_le c_2 (by decide) rfl
      refine lv_iconst (v := 0) hx hb dX7_tries_140 (by decide) ?_
      refine lv_istore_n (lv' := [(1, .int 0), (0, .ref h)]) hx hb dX7_tries_141 rfl hl (by decide) rfl (fun ls hl => ?_)
      exact lt_m_tries_c l D cI cZ cS cR N0 g h r_h hB hr   96 g1 (0 : Int32) H locs ls hT hI hE hM (by decide) (by decide) kp0 kp1 (by have e0_ : (0 : Int32).toInt = 0 := (by decide); omega) (lv_sub hl [0, 1] rfl)
    · have c_2' : i.toInt < 24 := i_nle c_2 (by decide) rfl
      refine lv_aload_n hx hb dX7_tries_119 rfl (lv_at hl 1 rfl) ?_
      obtain ⟨v_3, e_v_3, r_v_3, n_v_3⟩ := f_8_7 hI r_1
      refine t_get (ci := 7) (v := .ref v_3) hB hT (ro_ci r_1 rfl) rfl 7 (by decide) k_752 e_v_3 dX7_tries_120 ?_
      refine lv_bipush (v := 24) hx hb dX7_tries_123 (by decide) ?_
      refine lv_iload_n hx hb dX7_tries_125 rfl (lv_at hl 0 rfl) ?_
      refine lv_iadd hx hb dX7_tries_126 ?_
      refine lv_topi (fun z_4 ez_4 => ?_)
      have e_z_4 : z_4.toInt = 24 + i.toInt := i_add ez_4 (by decide) rfl (by omega) (by omega)
      refine lv_aload_n hx hb dX7_tries_127 rfl (lv_at hl 1 rfl) ?_
      refine t_get (ci := 7) (v := .ref v_3) hB hT (ro_ci r_1 rfl) rfl 7 (by decide) k_752 e_v_3 dX7_tries_128 ?_
      refine lv_iload_n hx hb dX7_tries_131 rfl (lv_at hl 0 rfl) ?_
      have i_u_5 : vp_in i 48 := (i_in (n := 48) rfl (by omega) (by omega))
      refine t_iald hB hT (ro_in r_v_3 (by decide)) n_v_3 i_u_5 rfl dX7_tries_132 ?_
      have c_u_5 := hI.c r_v_3 n_v_3 (i_cl i_u_5)
      refine lv_topi (fun u_5 e_u_5 => ?_)
      obtain ⟨l_u_5, u_u_5⟩ := c_u_5
      rw [← e_u_5] at l_u_5 u_u_5
      have i_6 : vp_in z_4 48 := (i_in (n := 48) rfl (by omega) (by omega))
      refine t_iast hB hT (ro_in r_v_3 (by decide)) n_v_3 i_6 dX7_tries_133 (fun H locs hT => ?_)
      have hI : Inv (sC g1 v_3 z_4.toNatClampNeg u_5) := hI.sC (ck r_v_3 ⟨by omega, by omega⟩)
      have hM : Sm md_m_tries g (sC g1 v_3 z_4.toNatClampNeg u_5) := hM.tr hE (Sm_sC (by rw [r_v_3]; rfl))
      have hE : Ex g (sC g1 v_3 z_4.toNatClampNeg u_5) := hE
      obtain ⟨z_7, ez_7⟩ : ∃ z : Int32, z = i + 1 := ⟨_, rfl⟩
      have e_z_7 : z_7.toInt = i.toInt + 1 := i_add ez_7 rfl (by decide) (by omega) (by omega)
      refine lv_iinc (v := z_7) (lv' := [(1, .int z_7), (0, .ref h)]) hx hb dX7_tries_134 hl (k := 0) rfl (by rw [ez_7]; rfl) (by decide) rfl (fun ls hl => ?_)
      refine lv_goto (tgt := 113) hx hb dX7_tries_137 (by decide) ?_
      exact ih (kf - 1) (by omega) (sC g1 v_3 z_4.toNatClampNeg u_5) z_7 H locs ls hT hI hE hM (by omega) (by omega) kp0 kp1 (by have e0_ : (0 : Int32).toInt = 0 := (by decide); omega) (lv_sub hl [0, 1] rfl)
set_option maxHeartbeats 4000000 in
set_option maxRecDepth 100000 in
theorem lt_m_tries_a (l : Launch) (D : va_G) (cI cZ cS cR : ClassId) (N0 : NT) (g : GS) (h : Nat) (r_h : g.1 h = 8) {p : Program} {e : Env} {s : State} {m : MethodId} {args : Array Value} {below : List Frame} {meth : Method} {c : Code} (hB : Tz p s m meth c args cX7_tries 2 RX7 D cI cZ cS cR N0) (hr : meth.sig.returnType = none)    : ∀ (kf : Nat) (g1 : GS) (i : Int32)  (H : Heap) (locs : List Loc) (ls : Array Slot), Tv D cI cZ cS cR N0 s.heap H locs g1 → Inv g1 → Ex g g1 → Sm md_m_tries g g1 → 0 ≤ i.toInt → i.toInt ≤ 6 → g1.2.1 h 21 = .int 1 → g1.2.1 h 52 = .int 0 → (6 ≤ i.toInt + kf) → lv_has ls 2 [(1, .int i), (0, .ref h)] → W p l e (rmx 1 0 0) s m args below meth c H locs 0 0 (MQ below (tQ D cI cZ cS cR N0 (fun v g' => v = none ∧ Inv g' ∧ Ex g g' ∧ Sm md_m_tries g g' ∧ (g'.2.1 h 21 = .int 1) ∧ (g'.2.1 h 52 = .int 0))) args s 0 0 (fun q => N0.1 ≤ q)) (F0 m 24 ls []) := by
  have hx := hB.1
  have hb := hB.2.1
  intro kf
  induction kf using Nat.strongRecOn with
  | ind kf ih =>
    intro g1 i H locs ls hT hI hE hM l_i u_i kp0 kp1 hk hl
    have r_1 : g1.1 h = 8 := Ex.r hE r_h (by decide)
    refine lv_iload_n hx hb dX7_tries_24 rfl (lv_at hl 0 rfl) ?_
    refine lv_bipush (v := 6) hx hb dX7_tries_25 (by decide) ?_
    refine lv_icmp_ge (tgt := 111) hx hb dX7_tries_27 (by decide) (fun c_2 => ?_) (fun c_2 => ?_)
    · have c_2' : 6 ≤ i.toInt := i_le c_2 (by decide) rfl
      refine lv_iconst (v := 0) hx hb dX7_tries_111 (by decide) ?_
      refine lv_istore_n (lv' := [(1, .int 0), (0, .ref h)]) hx hb dX7_tries_112 rfl hl (by decide) rfl (fun ls hl => ?_)
      exact lt_m_tries_b l D cI cZ cS cR N0 g h r_h hB hr   24 g1 (0 : Int32) H locs ls hT hI hE hM (by decide) (by decide) kp0 kp1 (by have e0_ : (0 : Int32).toInt = 0 := (by decide); omega) (lv_sub hl [0, 1] rfl)
    · have c_2' : i.toInt < 6 := i_nle c_2 (by decide) rfl
      refine lv_aload_n hx hb dX7_tries_30 rfl (lv_at hl 1 rfl) ?_
      obtain ⟨v_3, e_v_3, r_v_3, n_v_3⟩ := f_8_8 hI r_1
      refine t_get (ci := 7) (v := .ref v_3) hB hT (ro_ci r_1 rfl) rfl 8 (by decide) k_753 e_v_3 dX7_tries_31 ?_
      refine lv_bipush (v := 6) hx hb dX7_tries_34 (by decide) ?_
      refine lv_iload_n hx hb dX7_tries_36 rfl (lv_at hl 0 rfl) ?_
      refine lv_iadd hx hb dX7_tries_37 ?_
      refine lv_topi (fun z_4 ez_4 => ?_)
      have e_z_4 : z_4.toInt = 6 + i.toInt := i_add ez_4 (by decide) rfl (by omega) (by omega)
      refine lv_aload_n hx hb dX7_tries_38 rfl (lv_at hl 1 rfl) ?_
      refine t_get (ci := 7) (v := .ref v_3) hB hT (ro_ci r_1 rfl) rfl 8 (by decide) k_753 e_v_3 dX7_tries_39 ?_
      refine lv_iload_n hx hb dX7_tries_42 rfl (lv_at hl 0 rfl) ?_
      have i_u_5 : vp_in i 12 := (i_in (n := 12) rfl (by omega) (by omega))
      refine t_iald hB hT (ro_in r_v_3 (by decide)) n_v_3 i_u_5 rfl dX7_tries_43 ?_
      have c_u_5 := hI.c r_v_3 n_v_3 (i_cl i_u_5)
      refine lv_topi (fun u_5 e_u_5 => ?_)
      obtain ⟨l_u_5, u_u_5⟩ := c_u_5
      rw [← e_u_5] at l_u_5 u_u_5
      have i_6 : vp_in z_4 12 := (i_in (n := 12) rfl (by omega) (by omega))
      refine t_iast hB hT (ro_in r_v_3 (by decide)) n_v_3 i_6 dX7_tries_44 (fun H locs hT => ?_)
      have hI : Inv (sC g1 v_3 z_4.toNatClampNeg u_5) := hI.sC (ck r_v_3 ⟨by omega, by omega⟩)
      have hM : Sm md_m_tries g (sC g1 v_3 z_4.toNatClampNeg u_5) := hM.tr hE (Sm_sC (by rw [r_v_3]; rfl))
      have hE : Ex g (sC g1 v_3 z_4.toNatClampNeg u_5) := hE
      refine lv_aload_n hx hb dX7_tries_45 rfl (lv_at hl 1 rfl) ?_
      obtain ⟨v_7, e_v_7, r_v_7, n_v_7⟩ := f_8_9 hI r_1
      refine t_get (ci := 7) (v := .ref v_7) hB hT (ro_ci r_1 rfl) rfl 9 (by decide) k_754 e_v_7 dX7_tries_46 ?_
      refine lv_bipush (v := 6) hx hb dX7_tries_49 (by decide) ?_
      refine lv_iload_n hx hb dX7_tries_51 rfl (lv_at hl 0 rfl) ?_
      refine lv_iadd hx hb dX7_tries_52 ?_
      refine lv_topi (fun z_8 ez_8 => ?_)
      have e_z_8 : z_8.toInt = 6 + i.toInt := i_add ez_8 (by decide) rfl (by omega) (by omega)
      refine lv_aload_n hx hb dX7_tries_53 rfl (lv_at hl 1 rfl) ?_
      refine t_get (ci := 7) (v := .ref v_7) hB hT (ro_ci r_1 rfl) rfl 9 (by decide) k_754 e_v_7 dX7_tries_54 ?_
      refine lv_iload_n hx hb dX7_tries_57 rfl (lv_at hl 0 rfl) ?_
      have i_u_9 : vp_in i 12 := (i_in (n := 12) rfl (by omega) (by omega))
      refine t_iald hB hT (ro_in r_v_7 (by decide)) n_v_7 i_u_9 rfl dX7_tries_58 ?_
      have c_u_9 := hI.c r_v_7 n_v_7 (i_cl i_u_9)
      refine lv_topi (fun u_9 e_u_9 => ?_)
      obtain ⟨l_u_9, u_u_9⟩ := c_u_9
      rw [← e_u_9] at l_u_9 u_u_9
      have i_10 : vp_in z_8 12 := (i_in (n := 12) rfl (by omega) (by omega))
      refine t_iast hB hT (ro_in r_v_7 (by decide)) n_v_7 i_10 dX7_tries_59 (fun H locs hT => ?_)
      have hI : Inv (sC (sC g1 v_3 z_4.toNatClampNeg u_5) v_7 z_8.toNatClampNeg u_9) := hI.sC (ck r_v_7 ⟨by omega, by omega⟩)
      have hM : Sm md_m_tries g (sC (sC g1 v_3 z_4.toNatClampNeg u_5) v_7 z_8.toNatClampNeg u_9) := hM.tr hE (Sm_sC (by rw [r_v_7]; rfl))
      have hE : Ex g (sC (sC g1 v_3 z_4.toNatClampNeg u_5) v_7 z_8.toNatClampNeg u_9) := hE
      refine lv_aload_n hx hb dX7_tries_60 rfl (lv_at hl 1 rfl) ?_
      obtain ⟨v_11, e_v_11, r_v_11, n_v_11⟩ := f_8_20 hI r_1
      refine t_get (ci := 7) (v := .ref v_11) hB hT (ro_ci r_1 rfl) rfl 20 (by decide) k_765 e_v_11 dX7_tries_61 ?_
      refine lv_bipush (v := 6) hx hb dX7_tries_64 (by decide) ?_
      refine lv_iload_n hx hb dX7_tries_66 rfl (lv_at hl 0 rfl) ?_
      refine lv_iadd hx hb dX7_tries_67 ?_
      refine lv_topi (fun z_12 ez_12 => ?_)
      have e_z_12 : z_12.toInt = 6 + i.toInt := i_add ez_12 (by decide) rfl (by omega) (by omega)
      refine lv_aload_n hx hb dX7_tries_68 rfl (lv_at hl 1 rfl) ?_
      refine t_get (ci := 7) (v := .ref v_11) hB hT (ro_ci r_1 rfl) rfl 20 (by decide) k_765 e_v_11 dX7_tries_69 ?_
      refine lv_iload_n hx hb dX7_tries_72 rfl (lv_at hl 0 rfl) ?_
      have i_u_13 : vp_in i 12 := (i_in (n := 12) rfl (by omega) (by omega))
      refine t_zald hB hT r_v_11 n_v_11 i_u_13 rfl dX7_tries_73 ?_
      refine lv_topi (fun u_13 e_u_13 => ?_)
      have i_14 : vp_in z_12 12 := (i_in (n := 12) rfl (by omega) (by omega))
      refine t_zast hB hT r_v_11 n_v_11 i_14 dX7_tries_74 (fun H locs hT => ?_)
      have hI : Inv (sC (sC (sC g1 v_3 z_4.toNatClampNeg u_5) v_7 z_8.toNatClampNeg u_9) v_11 z_12.toNatClampNeg (vp_nar .boolean u_13)) := hI.sC (ck r_v_11 trivial)
      have hM : Sm md_m_tries g (sC (sC (sC g1 v_3 z_4.toNatClampNeg u_5) v_7 z_8.toNatClampNeg u_9) v_11 z_12.toNatClampNeg (vp_nar .boolean u_13)) := hM.tr hE (Sm_sC (by rw [r_v_11]; rfl))
      have hE : Ex g (sC (sC (sC g1 v_3 z_4.toNatClampNeg u_5) v_7 z_8.toNatClampNeg u_9) v_11 z_12.toNatClampNeg (vp_nar .boolean u_13)) := hE
      refine lv_aload_n hx hb dX7_tries_75 rfl (lv_at hl 1 rfl) ?_
      obtain ⟨v_15, e_v_15, r_v_15, n_v_15⟩ := f_8_15 hI r_1
      refine t_get (ci := 7) (v := .ref v_15) hB hT (ro_ci r_1 rfl) rfl 15 (by decide) k_760 e_v_15 dX7_tries_76 ?_
      refine lv_bipush (v := 6) hx hb dX7_tries_79 (by decide) ?_
      refine lv_iload_n hx hb dX7_tries_81 rfl (lv_at hl 0 rfl) ?_
      refine lv_iadd hx hb dX7_tries_82 ?_
      refine lv_topi (fun z_16 ez_16 => ?_)
      have e_z_16 : z_16.toInt = 6 + i.toInt := i_add ez_16 (by decide) rfl (by omega) (by omega)
      refine lv_aload_n hx hb dX7_tries_83 rfl (lv_at hl 1 rfl) ?_
      refine t_get (ci := 7) (v := .ref v_15) hB hT (ro_ci r_1 rfl) rfl 15 (by decide) k_760 e_v_15 dX7_tries_84 ?_
      refine lv_iload_n hx hb dX7_tries_87 rfl (lv_at hl 0 rfl) ?_
      have i_u_17 : vp_in i 12 := (i_in (n := 12) rfl (by omega) (by omega))
      refine t_iald hB hT (ro_in r_v_15 (by decide)) n_v_15 i_u_17 rfl dX7_tries_88 ?_
      refine lv_topi (fun u_17 e_u_17 => ?_)
      have i_18 : vp_in z_16 12 := (i_in (n := 12) rfl (by omega) (by omega))
      refine t_iast hB hT (ro_in r_v_15 (by decide)) n_v_15 i_18 dX7_tries_89 (fun H locs hT => ?_)
      have hI : Inv (sC (sC (sC (sC g1 v_3 z_4.toNatClampNeg u_5) v_7 z_8.toNatClampNeg u_9) v_11 z_12.toNatClampNeg (vp_nar .boolean u_13)) v_15 z_16.toNatClampNeg u_17) := hI.sC (ck r_v_15 trivial)
      have hM : Sm md_m_tries g (sC (sC (sC (sC g1 v_3 z_4.toNatClampNeg u_5) v_7 z_8.toNatClampNeg u_9) v_11 z_12.toNatClampNeg (vp_nar .boolean u_13)) v_15 z_16.toNatClampNeg u_17) := hM.tr hE (Sm_sC (by rw [r_v_15]; rfl))
      have hE : Ex g (sC (sC (sC (sC g1 v_3 z_4.toNatClampNeg u_5) v_7 z_8.toNatClampNeg u_9) v_11 z_12.toNatClampNeg (vp_nar .boolean u_13)) v_15 z_16.toNatClampNeg u_17) := hE
      refine lv_aload_n hx hb dX7_tries_90 rfl (lv_at hl 1 rfl) ?_
      obtain ⟨v_19, e_v_19, r_v_19, n_v_19⟩ := f_8_16 hI r_1
      refine t_get (ci := 7) (v := .ref v_19) hB hT (ro_ci r_1 rfl) rfl 16 (by decide) k_761 e_v_19 dX7_tries_91 ?_
      refine lv_bipush (v := 6) hx hb dX7_tries_94 (by decide) ?_
      refine lv_iload_n hx hb dX7_tries_96 rfl (lv_at hl 0 rfl) ?_
      refine lv_iadd hx hb dX7_tries_97 ?_
      refine lv_topi (fun z_20 ez_20 => ?_)
      have e_z_20 : z_20.toInt = 6 + i.toInt := i_add ez_20 (by decide) rfl (by omega) (by omega)
      refine lv_aload_n hx hb dX7_tries_98 rfl (lv_at hl 1 rfl) ?_
      refine t_get (ci := 7) (v := .ref v_19) hB hT (ro_ci r_1 rfl) rfl 16 (by decide) k_761 e_v_19 dX7_tries_99 ?_
      refine lv_iload_n hx hb dX7_tries_102 rfl (lv_at hl 0 rfl) ?_
      have i_u_21 : vp_in i 12 := (i_in (n := 12) rfl (by omega) (by omega))
      refine t_iald hB hT (ro_in r_v_19 (by decide)) n_v_19 i_u_21 rfl dX7_tries_103 ?_
      refine lv_topi (fun u_21 e_u_21 => ?_)
      have i_22 : vp_in z_20 12 := (i_in (n := 12) rfl (by omega) (by omega))
      refine t_iast hB hT (ro_in r_v_19 (by decide)) n_v_19 i_22 dX7_tries_104 (fun H locs hT => ?_)
      have hI : Inv (sC (sC (sC (sC (sC g1 v_3 z_4.toNatClampNeg u_5) v_7 z_8.toNatClampNeg u_9) v_11 z_12.toNatClampNeg (vp_nar .boolean u_13)) v_15 z_16.toNatClampNeg u_17) v_19 z_20.toNatClampNeg u_21) := hI.sC (ck r_v_19 trivial)
      have hM : Sm md_m_tries g (sC (sC (sC (sC (sC g1 v_3 z_4.toNatClampNeg u_5) v_7 z_8.toNatClampNeg u_9) v_11 z_12.toNatClampNeg (vp_nar .boolean u_13)) v_15 z_16.toNatClampNeg u_17) v_19 z_20.toNatClampNeg u_21) := hM.tr hE (Sm_sC (by rw [r_v_19]; rfl))
      have hE : Ex g (sC (sC (sC (sC (sC g1 v_3 z_4.toNatClampNeg u_5) v_7 z_8.toNatClampNeg u_9) v_11 z_12.toNatClampNeg (vp_nar .boolean u_13)) v_15 z_16.toNatClampNeg u_17) v_19 z_20.toNatClampNeg u_21) := hE
      obtain ⟨z_23, ez_23⟩ : ∃ z : Int32, z = i + 1 := ⟨_, rfl⟩
      have e_z_23 : z_23.toInt = i.toInt + 1 := i_add ez_23 rfl (by decide) (by omega) (by omega)
      refine lv_iinc (v := z_23) (lv' := [(1, .int z_23), (0, .ref h)]) hx hb dX7_tries_105 hl (k := 0) rfl (by rw [ez_23]; rfl) (by decide) rfl (fun ls hl => ?_)
      refine lv_goto (tgt := 24) hx hb dX7_tries_108 (by decide) ?_
      exact ih (kf - 1) (by omega) (sC (sC (sC (sC (sC g1 v_3 z_4.toNatClampNeg u_5) v_7 z_8.toNatClampNeg u_9) v_11 z_12.toNatClampNeg (vp_nar .boolean u_13)) v_15 z_16.toNatClampNeg u_17) v_19 z_20.toNatClampNeg u_21) z_23 H locs ls hT hI hE hM (by omega) (by omega) kp0 kp1 (by have e0_ : (0 : Int32).toInt = 0 := (by decide); omega) (lv_sub hl [0, 1] rfl)
set_option maxHeartbeats 4000000 in
set_option maxRecDepth 100000 in
theorem m_tries (l : Launch) (D : va_G) (cI cZ cS cR : ClassId) (N0 : NT) (g : GS) (hI : Inv g) (h : Nat) (r_h : g.1 h = 8) : Ty l D cI cZ cS cR N0 yX7_tries cX7_tries 2 none 1 0 0 [.ref h] g (fun v g' => v = none ∧ Inv g' ∧ Ex g g' ∧ Sm md_m_tries g g' ∧ (g'.2.1 h 21 = .int 1) ∧ (g'.2.1 h 52 = .int 0)) := by
  refine t_enter (by decide) (Nat.le_of_ble_eq_true rfl) ?_
  intro p e s m args below meth c ls H locs hB hr hin hl hT
  have hx := hB.1
  have hb := hB.2.1
  have hl : lv_has ls 2 [(0, .ref h)] := hl
  have hE : Ex g g := Ex.rf
  have hM : Sm md_m_tries g g := Sm.rf
  refine lv_aload_n hx hb dX7_tries_0 rfl (lv_at hl 0 rfl) ?_
  refine lv_iconst (v := 1) hx hb dX7_tries_1 (by decide) ?_
  refine t_put0 (ci := 7) (v := .int 1) hB hT (ro_ci r_h rfl) (ro_n0 r_h (by decide)) rfl 21 (by decide) k_766 (Or.inl rfl) rfl rfl dX7_tries_2 (fun H locs hT => ?_)
  have hI : Inv (sF g h 21 (.int 1)) := hI.sF (p_8_21 r_h (⟨_, rfl, by decide, by decide⟩))
  have hM : Sm md_m_tries g (sF g h 21 (.int 1)) := hM.tr hE (Sm_sF (by rw [r_h]; rfl))
  have hE : Ex g (sF g h 21 (.int 1)) := hE
  refine lv_aload_n hx hb dX7_tries_5 rfl (lv_at hl 0 rfl) ?_
  refine lv_iconst (v := 0) hx hb dX7_tries_6 (by decide) ?_
  refine t_put0 (ci := 7) (v := .int 0) hB hT (ro_ci r_h rfl) (ro_n0 r_h (by decide)) rfl 52 (by decide) k_797 (Or.inl rfl) rfl rfl dX7_tries_7 (fun H locs hT => ?_)
  have hI : Inv (sF (sF g h 21 (.int 1)) h 52 (.int 0)) := hI.sF (p_8_52 r_h (⟨_, rfl, by decide, by decide⟩))
  have hM : Sm md_m_tries g (sF (sF g h 21 (.int 1)) h 52 (.int 0)) := hM.tr hE (Sm_sF (by rw [r_h]; rfl))
  have hE : Ex g (sF (sF g h 21 (.int 1)) h 52 (.int 0)) := hE
  refine lv_aload_n hx hb dX7_tries_10 rfl (lv_at hl 0 rfl) ?_
  obtain ⟨v_1, e_v_1, r_v_1, n_v_1⟩ := f_8_14 hI r_h
  refine t_get (ci := 7) (v := .ref v_1) hB hT (ro_ci r_h rfl) rfl 14 (by decide) k_759 e_v_1 dX7_tries_11 ?_
  refine lv_iconst (v := 1) hx hb dX7_tries_14 (by decide) ?_
  refine lv_aload_n hx hb dX7_tries_15 rfl (lv_at hl 0 rfl) ?_
  refine t_get (ci := 7) (v := .ref v_1) hB hT (ro_ci r_h rfl) rfl 14 (by decide) k_759 e_v_1 dX7_tries_16 ?_
  refine lv_iconst (v := 0) hx hb dX7_tries_19 (by decide) ?_
  have i_u_2 : vp_in (0 : Int32) 2 := (by unfold vp_in; decide)
  refine t_iald hB hT (ro_in r_v_1 (by decide)) n_v_1 i_u_2 rfl dX7_tries_20 ?_
  refine lv_topi (fun u_2 e_u_2 => ?_)
  have i_3 : vp_in (1 : Int32) 2 := (by unfold vp_in; decide)
  refine t_iast hB hT (ro_in r_v_1 (by decide)) n_v_1 i_3 dX7_tries_21 (fun H locs hT => ?_)
  have hI : Inv (sC (sF (sF g h 21 (.int 1)) h 52 (.int 0)) v_1 (1 : Int32).toNatClampNeg u_2) := hI.sC (ck r_v_1 trivial)
  have hM : Sm md_m_tries g (sC (sF (sF g h 21 (.int 1)) h 52 (.int 0)) v_1 (1 : Int32).toNatClampNeg u_2) := hM.tr hE (Sm_sC (by rw [r_v_1]; rfl))
  have hE : Ex g (sC (sF (sF g h 21 (.int 1)) h 52 (.int 0)) v_1 (1 : Int32).toNatClampNeg u_2) := hE
  refine lv_iconst (v := 0) hx hb dX7_tries_22 (by decide) ?_
  refine lv_istore_n (lv' := [(1, .int 0), (0, .ref h)]) hx hb dX7_tries_23 rfl hl (by decide) rfl (fun ls hl => ?_)
  exact lt_m_tries_a l D cI cZ cS cR N0 g h r_h hB hr   6 (sC (sF (sF g h 21 (.int 1)) h 52 (.int 0)) v_1 (1 : Int32).toNatClampNeg u_2) (0 : Int32) H locs ls hT hI hE hM (by decide) (by decide) (sF_k sF_eq (by decide)) sF_eq (by have e0_ : (0 : Int32).toInt = 0 := (by decide); omega) (lv_sub hl [0, 1] rfl)
abbrev md_m_once : Nat → Nat → Bool := mdf [(8, 21), (8, 49), (8, 50), (8, 51), (8, 52), (8, 60), (40, 99), (50, 99), (51, 99), (54, 99), (55, 99), (56, 99), (58, 99)]
theorem mdle_m_once_m_rowCall {r k : Nat} (h : md_m_once r k = false) : md_m_rowCall r k = false := mdf_le (by decide +kernel) h
theorem mdle_m_once_m_tries {r k : Nat} (h : md_m_once r k = false) : md_m_tries r k = false := mdf_le (by decide +kernel) h
set_option maxHeartbeats 4000000 in
set_option maxRecDepth 100000 in
theorem lt_m_once_d (l : Launch) (D : va_G) (cI cZ cS cR : ClassId) (N0 : NT) (g : GS) (h : Nat) (r_h : g.1 h = 8) (hw : PX 48 2 3 71 72 g h) {p : Program} {e : Env} {s : State} {m : MethodId} {args : Array Value} {below : List Frame} {meth : Method} {c : Code} (hB : Tz p s m meth c args cX7_once 2 RX7 D cI cZ cS cR N0) (hr : meth.sig.returnType = none)    : ∀ (kf : Nat) (g1 : GS) (i : Int32)  (H : Heap) (locs : List Loc) (ls : Array Slot), Tv D cI cZ cS cR N0 s.heap H locs g1 → Inv g1 → Ex g g1 → Sm md_m_once g g1 → 0 ≤ i.toInt → i.toInt ≤ 1200 → (1200 ≤ i.toInt + kf) → lv_has ls 2 [(1, .int i), (0, .ref h)] → W p l e (rmx 7 0 0) s m args below meth c H locs 0 0 (MQ below (tQ D cI cZ cS cR N0 (fun v g' => v = none ∧ Inv g' ∧ Ex g g' ∧ Sm md_m_once g g')) args s 0 0 (fun q => N0.1 ≤ q)) (F0 m 103 ls []) := by
  have hx := hB.1
  have hb := hB.2.1
  intro kf
  induction kf using Nat.strongRecOn with
  | ind kf ih =>
    intro g1 i H locs ls hT hI hE hM l_i u_i hk hl
    have r_1 : g1.1 h = 8 := Ex.r hE r_h (by decide)
    refine lv_iload_n hx hb dX7_once_103 rfl (lv_at hl 0 rfl) ?_
    refine lv_aload_n hx hb dX7_once_104 rfl (lv_at hl 1 rfl) ?_
    obtain ⟨v_2, e_v_2, l_v_2, u_v_2⟩ := f_8_52 hI r_1
    refine t_get (ci := 7) (v := .int v_2) hB hT (ro_ci r_1 rfl) rfl 52 (by decide) k_797 e_v_2 dX7_once_105 ?_
    refine lv_icmp_ge (tgt := 129) hx hb dX7_once_108 (by decide) (fun c_3 => ?_) (fun c_3 => ?_)
    · have c_3' : v_2.toInt ≤ i.toInt := i_le c_3 rfl rfl
      refine lv_aload_n hx hb dX7_once_129 rfl (lv_at hl 1 rfl) ?_
      refine lv_iconst (v := 0) hx hb dX7_once_130 (by decide) ?_
      refine t_put0 (ci := 7) (v := .int 0) hB hT (ro_ci r_1 rfl) (ro_n0 r_1 (by decide)) rfl 21 (by decide) k_766 (Or.inl rfl) rfl rfl dX7_once_131 (fun H locs hT => ?_)
      have hI : Inv (sF g1 h 21 (.int 0)) := hI.sF (p_8_21 r_1 (⟨_, rfl, by decide, by decide⟩))
      have hM : Sm md_m_once g (sF g1 h 21 (.int 0)) := hM.tr hE (Sm_sF (by rw [r_1]; rfl))
      have hE : Ex g (sF g1 h 21 (.int 0)) := hE
      exact t_vret hB hr hT (Nat.le_of_ble_eq_true rfl) (Nat.le_of_ble_eq_true rfl) dX7_once_134 ⟨rfl, hI, hE, hM⟩
    · have c_3' : i.toInt < v_2.toInt := i_nle c_3 rfl rfl
      refine lv_aload_n hx hb dX7_once_111 rfl (lv_at hl 1 rfl) ?_
      obtain ⟨v_4, e_v_4, r_v_4, n_v_4⟩ := f_8_58 hI r_1
      refine t_get (ci := 7) (v := .ref v_4) hB hT (ro_ci r_1 rfl) rfl 58 (by decide) k_803 e_v_4 dX7_once_112 ?_
      refine lv_iload_n hx hb dX7_once_115 rfl (lv_at hl 0 rfl) ?_
      refine lv_aload_n hx hb dX7_once_116 rfl (lv_at hl 1 rfl) ?_
      obtain ⟨v_5, e_v_5, r_v_5, n_v_5⟩ := f_8_53 hI r_1
      refine t_get (ci := 7) (v := .ref v_5) hB hT (ro_ci r_1 rfl) rfl 53 (by decide) k_798 e_v_5 dX7_once_117 ?_
      refine lv_iload_n hx hb dX7_once_120 rfl (lv_at hl 0 rfl) ?_
      have i_u_6 : vp_in i 1200 := (i_in (n := 1200) rfl (by omega) (by omega))
      refine t_iald hB hT (ro_in r_v_5 (by decide)) n_v_5 i_u_6 rfl dX7_once_121 ?_
      have c_u_6 := hI.c r_v_5 n_v_5 (i_cl i_u_6)
      refine lv_topi (fun u_6 e_u_6 => ?_)
      obtain ⟨l_u_6, u_u_6⟩ := c_u_6
      rw [← e_u_6] at l_u_6 u_u_6
      have i_7 : vp_in i 1200 := (i_in (n := 1200) rfl (by omega) (by omega))
      refine t_iast hB hT (ro_in r_v_4 (by decide)) n_v_4 i_7 dX7_once_122 (fun H locs hT => ?_)
      have hI : Inv (sC g1 v_4 i.toNatClampNeg u_6) := hI.sC (ck r_v_4 trivial)
      have hM : Sm md_m_once g (sC g1 v_4 i.toNatClampNeg u_6) := hM.tr hE (Sm_sC (by rw [r_v_4]; rfl))
      have hE : Ex g (sC g1 v_4 i.toNatClampNeg u_6) := hE
      obtain ⟨z_8, ez_8⟩ : ∃ z : Int32, z = i + 1 := ⟨_, rfl⟩
      have e_z_8 : z_8.toInt = i.toInt + 1 := i_add ez_8 rfl (by decide) (by omega) (by omega)
      refine lv_iinc (v := z_8) (lv' := [(1, .int z_8), (0, .ref h)]) hx hb dX7_once_123 hl (k := 0) rfl (by rw [ez_8]; rfl) (by decide) rfl (fun ls hl => ?_)
      refine lv_goto (tgt := 103) hx hb dX7_once_126 (by decide) ?_
      exact ih (kf - 1) (by omega) (sC g1 v_4 i.toNatClampNeg u_6) z_8 H locs ls hT hI hE hM (by omega) (by omega) (by have e0_ : (0 : Int32).toInt = 0 := (by decide); omega) (lv_sub hl [0, 1] rfl)
set_option maxHeartbeats 4000000 in
set_option maxRecDepth 100000 in
theorem lt_m_once_c (l : Launch) (D : va_G) (cI cZ cS cR : ClassId) (N0 : NT) (g : GS) (h : Nat) (r_h : g.1 h = 8) (hw : PX 48 2 3 71 72 g h) {p : Program} {e : Env} {s : State} {m : MethodId} {args : Array Value} {below : List Frame} {meth : Method} {c : Code} (hB : Tz p s m meth c args cX7_once 2 RX7 D cI cZ cS cR N0) (hr : meth.sig.returnType = none)    : ∀ (kf : Nat) (g1 : GS) (i : Int32)  (H : Heap) (locs : List Loc) (ls : Array Slot), Tv D cI cZ cS cR N0 s.heap H locs g1 → Inv g1 → Ex g g1 → Sm md_m_once g g1 → 0 ≤ i.toInt → i.toInt ≤ 6 → (6 ≤ i.toInt + kf) → lv_has ls 2 [(1, .int i), (0, .ref h)] → W p l e (rmx 7 0 0) s m args below meth c H locs 0 0 (MQ below (tQ D cI cZ cS cR N0 (fun v g' => v = none ∧ Inv g' ∧ Ex g g' ∧ Sm md_m_once g g')) args s 0 0 (fun q => N0.1 ≤ q)) (F0 m 63 ls []) := by
  have hx := hB.1
  have hb := hB.2.1
  intro kf
  induction kf using Nat.strongRecOn with
  | ind kf ih =>
    intro g1 i H locs ls hT hI hE hM l_i u_i hk hl
    have r_1 : g1.1 h = 8 := Ex.r hE r_h (by decide)
    refine lv_iload_n hx hb dX7_once_63 rfl (lv_at hl 0 rfl) ?_
    refine lv_bipush (v := 6) hx hb dX7_once_64 (by decide) ?_
    refine lv_icmp_ge (tgt := 93) hx hb dX7_once_66 (by decide) (fun c_2 => ?_) (fun c_2 => ?_)
    · have c_2' : 6 ≤ i.toInt := i_le c_2 (by decide) rfl
      refine lv_aload_n hx hb dX7_once_93 rfl (lv_at hl 1 rfl) ?_
      refine lv_aload_n hx hb dX7_once_94 rfl (lv_at hl 1 rfl) ?_
      obtain ⟨v_3, e_v_3, l_v_3, u_v_3⟩ := f_8_52 hI r_1
      refine t_get (ci := 7) (v := .int v_3) hB hT (ro_ci r_1 rfl) rfl 52 (by decide) k_797 e_v_3 dX7_once_95 ?_
      refine t_put0 (ci := 7) (v := .int v_3) hB hT (ro_ci r_1 rfl) (ro_n0 r_1 (by decide)) rfl 60 (by decide) k_805 (Or.inl rfl) rfl rfl dX7_once_98 (fun H locs hT => ?_)
      have hI : Inv (sF g1 h 60 (.int v_3)) := hI.sF (p_8_60 r_1 (⟨_, rfl, by omega, by omega⟩))
      have hM : Sm md_m_once g (sF g1 h 60 (.int v_3)) := hM.tr hE (Sm_sF (by rw [r_1]; rfl))
      have hE : Ex g (sF g1 h 60 (.int v_3)) := hE
      refine lv_iconst (v := 0) hx hb dX7_once_101 (by decide) ?_
      refine lv_istore_n (lv' := [(1, .int 0), (0, .ref h)]) hx hb dX7_once_102 rfl hl (by decide) rfl (fun ls hl => ?_)
      exact lt_m_once_d l D cI cZ cS cR N0 g h r_h hw hB hr   1200 (sF g1 h 60 (.int v_3)) (0 : Int32) H locs ls hT hI hE hM (by decide) (by decide) (by have e0_ : (0 : Int32).toInt = 0 := (by decide); omega) (lv_sub hl [0, 1] rfl)
    · have c_2' : i.toInt < 6 := i_nle c_2 (by decide) rfl
      refine lv_aload_n hx hb dX7_once_69 rfl (lv_at hl 1 rfl) ?_
      obtain ⟨v_4, e_v_4, r_v_4, n_v_4⟩ := f_8_57 hI r_1
      refine t_get (ci := 7) (v := .ref v_4) hB hT (ro_ci r_1 rfl) rfl 57 (by decide) k_802 e_v_4 dX7_once_70 ?_
      refine lv_bipush (v := 24) hx hb dX7_once_73 (by decide) ?_
      refine lv_iload_n hx hb dX7_once_75 rfl (lv_at hl 0 rfl) ?_
      refine lv_iadd hx hb dX7_once_76 ?_
      refine lv_topi (fun z_5 ez_5 => ?_)
      have e_z_5 : z_5.toInt = 24 + i.toInt := i_add ez_5 (by decide) rfl (by omega) (by omega)
      refine lv_aload_n hx hb dX7_once_77 rfl (lv_at hl 1 rfl) ?_
      obtain ⟨v_6, e_v_6, r_v_6, n_v_6⟩ := f_8_8 hI r_1
      refine t_get (ci := 7) (v := .ref v_6) hB hT (ro_ci r_1 rfl) rfl 8 (by decide) k_753 e_v_6 dX7_once_78 ?_
      refine lv_bipush (v := 6) hx hb dX7_once_81 (by decide) ?_
      refine lv_iload_n hx hb dX7_once_83 rfl (lv_at hl 0 rfl) ?_
      refine lv_iadd hx hb dX7_once_84 ?_
      refine lv_topi (fun z_7 ez_7 => ?_)
      have e_z_7 : z_7.toInt = 6 + i.toInt := i_add ez_7 (by decide) rfl (by omega) (by omega)
      have i_u_8 : vp_in z_7 12 := (i_in (n := 12) rfl (by omega) (by omega))
      refine t_iald hB hT (ro_in r_v_6 (by decide)) n_v_6 i_u_8 rfl dX7_once_85 ?_
      have c_u_8 := hI.c r_v_6 n_v_6 (i_cl i_u_8)
      refine lv_topi (fun u_8 e_u_8 => ?_)
      obtain ⟨l_u_8, u_u_8⟩ := c_u_8
      rw [← e_u_8] at l_u_8 u_u_8
      have i_9 : vp_in z_5 30 := (i_in (n := 30) rfl (by omega) (by omega))
      refine t_iast hB hT (ro_in r_v_4 (by decide)) n_v_4 i_9 dX7_once_86 (fun H locs hT => ?_)
      have hI : Inv (sC g1 v_4 z_5.toNatClampNeg u_8) := hI.sC (ck r_v_4 trivial)
      have hM : Sm md_m_once g (sC g1 v_4 z_5.toNatClampNeg u_8) := hM.tr hE (Sm_sC (by rw [r_v_4]; rfl))
      have hE : Ex g (sC g1 v_4 z_5.toNatClampNeg u_8) := hE
      obtain ⟨z_10, ez_10⟩ : ∃ z : Int32, z = i + 1 := ⟨_, rfl⟩
      have e_z_10 : z_10.toInt = i.toInt + 1 := i_add ez_10 rfl (by decide) (by omega) (by omega)
      refine lv_iinc (v := z_10) (lv' := [(1, .int z_10), (0, .ref h)]) hx hb dX7_once_87 hl (k := 0) rfl (by rw [ez_10]; rfl) (by decide) rfl (fun ls hl => ?_)
      refine lv_goto (tgt := 63) hx hb dX7_once_90 (by decide) ?_
      exact ih (kf - 1) (by omega) (sC g1 v_4 z_5.toNatClampNeg u_8) z_10 H locs ls hT hI hE hM (by omega) (by omega) (by have e0_ : (0 : Int32).toInt = 0 := (by decide); omega) (lv_sub hl [0, 1] rfl)
set_option maxHeartbeats 4000000 in
set_option maxRecDepth 100000 in
theorem lt_m_once_b (l : Launch) (D : va_G) (cI cZ cS cR : ClassId) (N0 : NT) (g : GS) (h : Nat) (r_h : g.1 h = 8) (hw : PX 48 2 3 71 72 g h) {p : Program} {e : Env} {s : State} {m : MethodId} {args : Array Value} {below : List Frame} {meth : Method} {c : Code} (hB : Tz p s m meth c args cX7_once 2 RX7 D cI cZ cS cR N0) (hr : meth.sig.returnType = none)    : ∀ (kf : Nat) (g1 : GS) (i : Int32)  (H : Heap) (locs : List Loc) (ls : Array Slot), Tv D cI cZ cS cR N0 s.heap H locs g1 → Inv g1 → Ex g g1 → Sm md_m_once g g1 → 0 ≤ i.toInt → i.toInt ≤ 24 → (24 ≤ i.toInt + kf) → lv_has ls 2 [(1, .int i), (0, .ref h)] → W p l e (rmx 7 0 0) s m args below meth c H locs 0 0 (MQ below (tQ D cI cZ cS cR N0 (fun v g' => v = none ∧ Inv g' ∧ Ex g g' ∧ Sm md_m_once g g')) args s 0 0 (fun q => N0.1 ≤ q)) (F0 m 34 ls []) := by
  have hx := hB.1
  have hb := hB.2.1
  intro kf
  induction kf using Nat.strongRecOn with
  | ind kf ih =>
    intro g1 i H locs ls hT hI hE hM l_i u_i hk hl
    have r_1 : g1.1 h = 8 := Ex.r hE r_h (by decide)
    refine lv_iload_n hx hb dX7_once_34 rfl (lv_at hl 0 rfl) ?_
    refine lv_bipush (v := 24) hx hb dX7_once_35 (by decide) ?_
    refine lv_icmp_ge (tgt := 61) hx hb dX7_once_37 (by decide) (fun c_2 => ?_) (fun c_2 => ?_)
    · have c_2' : 24 ≤ i.toInt := i_le c_2 (by decide) rfl
      refine lv_iconst (v := 0) hx hb dX7_once_61 (by decide) ?_
      refine lv_istore_n (lv' := [(1, .int 0), (0, .ref h)]) hx hb dX7_once_62 rfl hl (by decide) rfl (fun ls hl => ?_)
      exact lt_m_once_c l D cI cZ cS cR N0 g h r_h hw hB hr   6 g1 (0 : Int32) H locs ls hT hI hE hM (by decide) (by decide) (by have e0_ : (0 : Int32).toInt = 0 := (by decide); omega) (lv_sub hl [0, 1] rfl)
    · have c_2' : i.toInt < 24 := i_nle c_2 (by decide) rfl
      refine lv_aload_n hx hb dX7_once_40 rfl (lv_at hl 1 rfl) ?_
      obtain ⟨v_3, e_v_3, r_v_3, n_v_3⟩ := f_8_57 hI r_1
      refine t_get (ci := 7) (v := .ref v_3) hB hT (ro_ci r_1 rfl) rfl 57 (by decide) k_802 e_v_3 dX7_once_41 ?_
      refine lv_iload_n hx hb dX7_once_44 rfl (lv_at hl 0 rfl) ?_
      refine lv_aload_n hx hb dX7_once_45 rfl (lv_at hl 1 rfl) ?_
      obtain ⟨v_4, e_v_4, r_v_4, n_v_4⟩ := f_8_7 hI r_1
      refine t_get (ci := 7) (v := .ref v_4) hB hT (ro_ci r_1 rfl) rfl 7 (by decide) k_752 e_v_4 dX7_once_46 ?_
      refine lv_bipush (v := 24) hx hb dX7_once_49 (by decide) ?_
      refine lv_iload_n hx hb dX7_once_51 rfl (lv_at hl 0 rfl) ?_
      refine lv_iadd hx hb dX7_once_52 ?_
      refine lv_topi (fun z_5 ez_5 => ?_)
      have e_z_5 : z_5.toInt = 24 + i.toInt := i_add ez_5 (by decide) rfl (by omega) (by omega)
      have i_u_6 : vp_in z_5 48 := (i_in (n := 48) rfl (by omega) (by omega))
      refine t_iald hB hT (ro_in r_v_4 (by decide)) n_v_4 i_u_6 rfl dX7_once_53 ?_
      have c_u_6 := hI.c r_v_4 n_v_4 (i_cl i_u_6)
      refine lv_topi (fun u_6 e_u_6 => ?_)
      obtain ⟨l_u_6, u_u_6⟩ := c_u_6
      rw [← e_u_6] at l_u_6 u_u_6
      have i_7 : vp_in i 30 := (i_in (n := 30) rfl (by omega) (by omega))
      refine t_iast hB hT (ro_in r_v_3 (by decide)) n_v_3 i_7 dX7_once_54 (fun H locs hT => ?_)
      have hI : Inv (sC g1 v_3 i.toNatClampNeg u_6) := hI.sC (ck r_v_3 trivial)
      have hM : Sm md_m_once g (sC g1 v_3 i.toNatClampNeg u_6) := hM.tr hE (Sm_sC (by rw [r_v_3]; rfl))
      have hE : Ex g (sC g1 v_3 i.toNatClampNeg u_6) := hE
      obtain ⟨z_8, ez_8⟩ : ∃ z : Int32, z = i + 1 := ⟨_, rfl⟩
      have e_z_8 : z_8.toInt = i.toInt + 1 := i_add ez_8 rfl (by decide) (by omega) (by omega)
      refine lv_iinc (v := z_8) (lv' := [(1, .int z_8), (0, .ref h)]) hx hb dX7_once_55 hl (k := 0) rfl (by rw [ez_8]; rfl) (by decide) rfl (fun ls hl => ?_)
      refine lv_goto (tgt := 34) hx hb dX7_once_58 (by decide) ?_
      exact ih (kf - 1) (by omega) (sC g1 v_3 i.toNatClampNeg u_6) z_8 H locs ls hT hI hE hM (by omega) (by omega) (by have e0_ : (0 : Int32).toInt = 0 := (by decide); omega) (lv_sub hl [0, 1] rfl)
set_option maxHeartbeats 4000000 in
set_option maxRecDepth 100000 in
theorem lt_m_once_a (l : Launch) (D : va_G) (cI cZ cS cR : ClassId) (N0 : NT) (g : GS) (h : Nat) (r_h : g.1 h = 8) (hw : PX 48 2 3 71 72 g h) {p : Program} {e : Env} {s : State} {m : MethodId} {args : Array Value} {below : List Frame} {meth : Method} {c : Code} (hB : Tz p s m meth c args cX7_once 2 RX7 D cI cZ cS cR N0) (hr : meth.sig.returnType = none)    : ∀ (kf : Nat) (g1 : GS) (i : Int32) (to1 : Int32)  (H : Heap) (locs : List Loc) (ls : Array Slot), Tv D cI cZ cS cR N0 s.heap H locs g1 → Inv g1 → Ex g g1 → Sm md_m_once g g1 → 0 ≤ i.toInt → i.toInt ≤ 6 → 0 ≤ to1.toInt → to1.toInt ≤ 1200 → g1.2.1 h 21 = .int 1 → g1.2.1 h 52 = .int to1 → (6 ≤ i.toInt + kf ∧ to1.toInt ≤ 60 * i.toInt) → lv_has ls 2 [(1, .int i), (0, .ref h)] → W p l e (rmx 7 0 0) s m args below meth c H locs 0 0 (MQ below (tQ D cI cZ cS cR N0 (fun v g' => v = none ∧ Inv g' ∧ Ex g g' ∧ Sm md_m_once g g')) args s 0 0 (fun q => N0.1 ≤ q)) (F0 m 6 ls []) := by
  have hx := hB.1
  have hb := hB.2.1
  intro kf
  induction kf using Nat.strongRecOn with
  | ind kf ih =>
    intro g1 i to1 H locs ls hT hI hE hM l_i u_i l_to1 u_to1 kp0 kp1 hk hl
    have r_1 : g1.1 h = 8 := Ex.r hE r_h (by decide)
    refine lv_iload_n hx hb dX7_once_6 rfl (lv_at hl 0 rfl) ?_
    refine lv_aload_n hx hb dX7_once_7 rfl (lv_at hl 1 rfl) ?_
    obtain ⟨v_2, e_v_2, l_v_2, u_v_2⟩ := f_8_30 hI r_1
    refine t_get (ci := 7) (v := .int v_2) hB hT (ro_ci r_1 rfl) rfl 30 (by decide) k_775 e_v_2 dX7_once_8 ?_
    refine lv_icmp_ge (tgt := 32) hx hb dX7_once_11 (by decide) (fun c_3 => ?_) (fun c_3 => ?_)
    · have c_3' : v_2.toInt ≤ i.toInt := i_le c_3 rfl rfl
      refine lv_iconst (v := 0) hx hb dX7_once_32 (by decide) ?_
      refine lv_istore_n (lv' := [(1, .int 0), (0, .ref h)]) hx hb dX7_once_33 rfl hl (by decide) rfl (fun ls hl => ?_)
      exact lt_m_once_b l D cI cZ cS cR N0 g h r_h hw hB hr   24 g1 (0 : Int32) H locs ls hT hI hE hM (by decide) (by decide) (by have e0_ : (0 : Int32).toInt = 0 := (by decide); omega) (lv_sub hl [0, 1] rfl)
    · have c_3' : i.toInt < v_2.toInt := i_nle c_3 rfl rfl
      refine lv_aload_n hx hb dX7_once_14 rfl (lv_at hl 1 rfl) ?_
      obtain ⟨v_4, e_v_4, r_v_4, n_v_4⟩ := f_8_59 hI r_1
      refine t_get (ci := 7) (v := .ref v_4) hB hT (ro_ci r_1 rfl) rfl 59 (by decide) k_804 e_v_4 dX7_once_15 ?_
      refine lv_iload_n hx hb dX7_once_18 rfl (lv_at hl 0 rfl) ?_
      refine lv_aload_n hx hb dX7_once_19 rfl (lv_at hl 1 rfl) ?_
      refine lv_iload_n hx hb dX7_once_20 rfl (lv_at hl 0 rfl) ?_
      refine lv_iconst (v := 0) hx hb dX7_once_21 (by decide) ?_
      obtain ⟨v_5, e_v_5, r_v_5, n_v_5⟩ := f_8_43 hI r_1
      obtain ⟨v_6, e_v_6, r_v_6, n_v_6⟩ := f_8_46 hI r_1
      refine t_callV (n := 2) (As := [.int i, .int 0]) (rest := [.int i, .ref v_4]) (ci := 7) hB hT hl.1 (m_rowCall l D cI cZ cS cR N0 g1 hI h i 0 to1 v_5 v_6 r_1 r_v_5 n_v_5 r_v_6 n_v_6 kp1 kp0 e_v_5 e_v_6 (by have q0 : (0 : Int32).toInt = 0 := (by decide); omega) (by have q0 : (0 : Int32).toInt = 0 := (by decide); omega) (by have q0 : (0 : Int32).toInt = 0 := (by decide); omega) (by have q0 : (0 : Int32).toInt = 0 := (by decide); omega) (hw.mono hM hE r_h (by decide) (by decide) rfl rfl rfl rfl)) (ro_ci r_1 rfl) rfl k_1111 k_65 k_1108 k_1110 k_46 (by decide +kernel) ⟨(Nat.le_of_ble_eq_true rfl), (Nat.le_of_ble_eq_true rfl)⟩ rfl (Nat.le_of_ble_eq_true rfl) ⟨(Nat.le_of_ble_eq_true rfl), (Nat.le_of_ble_eq_true rfl)⟩ dX7_once_22 (fun v g_7 H locs hp hT => ?_)
      obtain ⟨r_8, t2_9, rfl, hI, x_14, m_13, f_10, f_11, f_12⟩ := hp
      have hM : Sm md_m_once g g_7 := hM.tr hE (m_13.mo (fun r k h => mdle_m_once_m_rowCall h))
      have hE : Ex g g_7 := hE.tr x_14
      have r_15 : g_7.1 h = 8 := (Ex.r x_14 r_1 (by decide))
      have r_16 : g_7.1 v_4 = 50 := (Ex.r x_14 r_v_4 (by decide))
      have r_17 : g_7.1 v_5 = 51 := (Ex.r x_14 r_v_5 (by decide))
      have r_18 : g_7.1 v_6 = 55 := (Ex.r x_14 r_v_6 (by decide))
      have n_19 : g_7.2.2.1 v_4 = 6 := (Ex.n x_14 r_v_4 (by decide) n_v_4)
      have n_20 : g_7.2.2.1 v_5 = 7 := (Ex.n x_14 r_v_5 (by decide) n_v_5)
      have n_21 : g_7.2.2.1 v_6 = 7 := (Ex.n x_14 r_v_6 (by decide) n_v_6)
      have kn_22 : g_7.2.1 h 21 = .int 1 := (Sm.v m_13 r_1 (by decide) rfl kp0)
      have kn_23 : g_7.2.1 h 30 = .int v_2 := (Sm.v m_13 r_1 (by decide) rfl e_v_2)
      have kn_24 : g_7.2.1 h 59 = .ref v_4 := (Sm.v m_13 r_1 (by decide) rfl e_v_4)
      have kn_25 : g_7.2.1 h 43 = .ref v_5 := (Sm.v m_13 r_1 (by decide) rfl e_v_5)
      have kn_26 : g_7.2.1 h 46 = .ref v_6 := (Sm.v m_13 r_1 (by decide) rfl e_v_6)
      refine W.eq (g2 := F0 m 25 ls [.int r_8, .int i, .ref v_4]) rfl ?_
      have qc_27 : (0 : Int32).toInt = 0 := (by decide)
      have i_28 : vp_in i 6 := (i_in (n := 6) rfl (by omega) (by omega))
      refine t_iast hB hT (ro_in r_16 (by decide)) n_19 i_28 dX7_once_25 (fun H locs hT => ?_)
      have hI : Inv (sC g_7 v_4 i.toNatClampNeg r_8) := hI.sC (ck r_16 trivial)
      have hM : Sm md_m_once g (sC g_7 v_4 i.toNatClampNeg r_8) := hM.tr hE (Sm_sC (by rw [r_16]; rfl))
      have hE : Ex g (sC g_7 v_4 i.toNatClampNeg r_8) := hE
      obtain ⟨z_29, ez_29⟩ : ∃ z : Int32, z = i + 1 := ⟨_, rfl⟩
      have e_z_29 : z_29.toInt = i.toInt + 1 := i_add ez_29 rfl (by decide) (by omega) (by omega)
      refine lv_iinc (v := z_29) (lv' := [(1, .int z_29), (0, .ref h)]) hx hb dX7_once_26 hl (k := 0) rfl (by rw [ez_29]; rfl) (by decide) rfl (fun ls hl => ?_)
      refine lv_goto (tgt := 6) hx hb dX7_once_29 (by decide) ?_
      exact ih (kf - 1) (by omega) (sC g_7 v_4 i.toNatClampNeg r_8) z_29 t2_9 H locs ls hT hI hE hM (by omega) (by omega) (by omega) (by omega) kn_22 f_11 (by have e0_ : (0 : Int32).toInt = 0 := (by decide); omega) (lv_sub hl [0, 1] rfl)
set_option maxHeartbeats 4000000 in
set_option maxRecDepth 100000 in
theorem m_once (l : Launch) (D : va_G) (cI cZ cS cR : ClassId) (N0 : NT) (g : GS) (hI : Inv g) (h : Nat) (r_h : g.1 h = 8) (hw : PX 48 2 3 71 72 g h) : Ty l D cI cZ cS cR N0 yX7_once cX7_once 2 none 7 0 0 [.ref h] g (fun v g' => v = none ∧ Inv g' ∧ Ex g g' ∧ Sm md_m_once g g') := by
  refine t_enter (by decide) (Nat.le_of_ble_eq_true rfl) ?_
  intro p e s m args below meth c ls H locs hB hr hin hl hT
  have hx := hB.1
  have hb := hB.2.1
  have hl : lv_has ls 2 [(0, .ref h)] := hl
  have hE : Ex g g := Ex.rf
  have hM : Sm md_m_once g g := Sm.rf
  refine lv_aload_n hx hb dX7_once_0 rfl (lv_at hl 0 rfl) ?_
  refine t_callV (n := 0) (As := []) (rest := []) (ci := 7) hB hT hl.1 (m_tries l D cI cZ cS cR N0 g hI h r_h) (ro_ci r_h rfl) rfl k_1107 k_65 k_1104 k_1106 k_45 (by decide +kernel) ⟨(Nat.le_of_ble_eq_true rfl), (Nat.le_of_ble_eq_true rfl)⟩ rfl (Nat.le_of_ble_eq_true rfl) ⟨(Nat.le_of_ble_eq_true rfl), (Nat.le_of_ble_eq_true rfl)⟩ dX7_once_1 (fun v g_1 H locs hp hT => ?_)
  obtain ⟨rfl, hI, x_5, m_4, f_2, f_3⟩ := hp
  have hM : Sm md_m_once g g_1 := hM.tr hE (m_4.mo (fun r k h => mdle_m_once_m_tries h))
  have hE : Ex g g_1 := hE.tr x_5
  have r_6 : g_1.1 h = 8 := (Ex.r x_5 r_h (by decide))
  refine W.eq (g2 := F0 m 4 ls []) rfl ?_
  refine lv_iconst (v := 0) hx hb dX7_once_4 (by decide) ?_
  refine lv_istore_n (lv' := [(1, .int 0), (0, .ref h)]) hx hb dX7_once_5 rfl hl (by decide) rfl (fun ls hl => ?_)
  exact lt_m_once_a l D cI cZ cS cR N0 g h r_h hw hB hr   6 g_1 (0 : Int32) (0 : Int32) H locs ls hT hI hE hM (by decide) (by decide) (by decide) (by decide) f_2 f_3 (by have e0_ : (0 : Int32).toInt = 0 := (by decide); omega) (lv_sub hl [0, 1] rfl)
abbrev md_m_isSafe : Nat → Nat → Bool := mdf [(8, 21), (8, 49), (8, 50), (8, 51), (8, 52), (40, 99), (50, 99), (51, 99), (54, 99), (55, 99), (56, 99), (58, 99)]
theorem mdle_m_isSafe_m_rowCall {r k : Nat} (h : md_m_isSafe r k = false) : md_m_rowCall r k = false := mdf_le (by decide +kernel) h
theorem mdle_m_isSafe_m_tries {r k : Nat} (h : md_m_isSafe r k = false) : md_m_tries r k = false := mdf_le (by decide +kernel) h
set_option maxHeartbeats 4000000 in
set_option maxRecDepth 100000 in
theorem lt_m_isSafe_c (l : Launch) (D : va_G) (cI cZ cS cR : ClassId) (N0 : NT) (g : GS) (h : Nat) (n : Int32) (k : Int32) (j : Int32) (r_h : g.1 h = 8) (l_n : 0 ≤ n.toInt) (u_n : n.toInt ≤ 5) (hw : PX 48 2 3 71 72 g h) {p : Program} {e : Env} {s : State} {m : MethodId} {args : Array Value} {below : List Frame} {meth : Method} {c : Code} (hB : Tz p s m meth c args cX7_isSafe 8 RX7 D cI cZ cS cR N0) (hr : meth.sig.returnType = (some .boolean))    : ∀ (kf : Nat) (g1 : GS) (i : Int32) (li : Int32)  (H : Heap) (locs : List Loc) (ls : Array Slot), Tv D cI cZ cS cR N0 s.heap H locs g1 → Inv g1 → Ex g g1 → Sm md_m_isSafe g g1 → 0 ≤ i.toInt → i.toInt ≤ 1200 → 0 ≤ li.toInt → li.toInt ≤ 1 → (1200 ≤ i.toInt + kf) → lv_has ls 8 [(4, .int li), (5, .int i), (0, .ref h), (1, .int n), (2, .int k), (3, .int j)] → W p l e (rmx 7 0 0) s m args below meth c H locs 0 0 (MQ below (tQ D cI cZ cS cR N0 (fun v g' => ∃ (r : Int32), v = some (.int r) ∧ Inv g' ∧ Ex g g' ∧ Sm md_m_isSafe g g' ∧ (r = 1 ∨ r = 0))) args s 0 0 (fun q => N0.1 ≤ q)) (F0 m 224 ls []) := by
  have hx := hB.1
  have hb := hB.2.1
  intro kf
  induction kf using Nat.strongRecOn with
  | ind kf ih =>
    intro g1 i li H locs ls hT hI hE hM l_i u_i l_li u_li hk hl
    have r_1 : g1.1 h = 8 := Ex.r hE r_h (by decide)
    refine lv_iload hx hb dX7_isSafe_224 (lv_at hl 1 rfl) ?_
    refine lv_aload_n hx hb dX7_isSafe_226 rfl (lv_at hl 2 rfl) ?_
    obtain ⟨v_2, e_v_2, l_v_2, u_v_2⟩ := f_8_52 hI r_1
    refine t_get (ci := 7) (v := .int v_2) hB hT (ro_ci r_1 rfl) rfl 52 (by decide) k_797 e_v_2 dX7_isSafe_227 ?_
    refine lv_icmp_ge (tgt := 268) hx hb dX7_isSafe_230 (by decide) (fun c_3 => ?_) (fun c_3 => ?_)
    · have c_3' : v_2.toInt ≤ i.toInt := i_le c_3 rfl rfl
      refine lv_aload_n hx hb dX7_isSafe_268 rfl (lv_at hl 2 rfl) ?_
      refine lv_iconst (v := 0) hx hb dX7_isSafe_269 (by decide) ?_
      refine t_put0 (ci := 7) (v := .int 0) hB hT (ro_ci r_1 rfl) (ro_n0 r_1 (by decide)) rfl 21 (by decide) k_766 (Or.inl rfl) rfl rfl dX7_isSafe_270 (fun H locs hT => ?_)
      have hI : Inv (sF g1 h 21 (.int 0)) := hI.sF (p_8_21 r_1 (⟨_, rfl, by decide, by decide⟩))
      have hM : Sm md_m_isSafe g (sF g1 h 21 (.int 0)) := hM.tr hE (Sm_sF (by rw [r_1]; rfl))
      have hE : Ex g (sF g1 h 21 (.int 0)) := hE
      refine lv_iload hx hb dX7_isSafe_273 (lv_at hl 0 rfl) ?_
      exact t_zret hB hr (z_01 (i_01 (by omega) (by omega))) hT (Nat.le_of_ble_eq_true rfl) (Nat.le_of_ble_eq_true rfl) dX7_isSafe_275 ⟨li, rfl, hI, hE, hM, (i_01 (by omega) (by omega))⟩
    · have c_3' : i.toInt < v_2.toInt := i_nle c_3 rfl rfl
      refine lv_iload hx hb dX7_isSafe_233 (lv_at hl 0 rfl) ?_
      refine lv_if_eq (tgt := 268) hx hb dX7_isSafe_235 (by decide) (fun c_4 => ?_) (fun c_4 => ?_)
      · have c_4' : li.toInt = 0 := i_eq c_4 rfl (by decide)
        refine lv_aload_n hx hb dX7_isSafe_268 rfl (lv_at hl 2 rfl) ?_
        refine lv_iconst (v := 0) hx hb dX7_isSafe_269 (by decide) ?_
        refine t_put0 (ci := 7) (v := .int 0) hB hT (ro_ci r_1 rfl) (ro_n0 r_1 (by decide)) rfl 21 (by decide) k_766 (Or.inl rfl) rfl rfl dX7_isSafe_270 (fun H locs hT => ?_)
        have hI : Inv (sF g1 h 21 (.int 0)) := hI.sF (p_8_21 r_1 (⟨_, rfl, by decide, by decide⟩))
        have hM : Sm md_m_isSafe g (sF g1 h 21 (.int 0)) := hM.tr hE (Sm_sF (by rw [r_1]; rfl))
        have hE : Ex g (sF g1 h 21 (.int 0)) := hE
        refine lv_iload hx hb dX7_isSafe_273 (lv_at hl 0 rfl) ?_
        exact t_zret hB hr (z_01 (i_01 (by omega) (by omega))) hT (Nat.le_of_ble_eq_true rfl) (Nat.le_of_ble_eq_true rfl) dX7_isSafe_275 ⟨li, rfl, hI, hE, hM, (i_01 (by omega) (by omega))⟩
      · have c_4' : li.toInt ≠ 0 := i_ne c_4 rfl (by decide)
        refine lv_aload_n hx hb dX7_isSafe_238 rfl (lv_at hl 2 rfl) ?_
        obtain ⟨v_5, e_v_5, r_v_5, n_v_5⟩ := f_8_53 hI r_1
        refine t_get (ci := 7) (v := .ref v_5) hB hT (ro_ci r_1 rfl) rfl 53 (by decide) k_798 e_v_5 dX7_isSafe_239 ?_
        refine lv_iload hx hb dX7_isSafe_242 (lv_at hl 1 rfl) ?_
        have i_u_6 : vp_in i 1200 := (i_in (n := 1200) rfl (by omega) (by omega))
        refine t_iald hB hT (ro_in r_v_5 (by decide)) n_v_5 i_u_6 rfl dX7_isSafe_244 ?_
        have c_u_6 := hI.c r_v_5 n_v_5 (i_cl i_u_6)
        refine lv_topi (fun u_6 e_u_6 => ?_)
        obtain ⟨l_u_6, u_u_6⟩ := c_u_6
        rw [← e_u_6] at l_u_6 u_u_6
        refine lv_aload_n hx hb dX7_isSafe_245 rfl (lv_at hl 2 rfl) ?_
        obtain ⟨v_7, e_v_7, r_v_7, n_v_7⟩ := f_8_58 hI r_1
        refine t_get (ci := 7) (v := .ref v_7) hB hT (ro_ci r_1 rfl) rfl 58 (by decide) k_803 e_v_7 dX7_isSafe_246 ?_
        refine lv_iload hx hb dX7_isSafe_249 (lv_at hl 1 rfl) ?_
        have i_u_8 : vp_in i 1200 := (i_in (n := 1200) rfl (by omega) (by omega))
        refine t_iald hB hT (ro_in r_v_7 (by decide)) n_v_7 i_u_8 rfl dX7_isSafe_251 ?_
        refine lv_topi (fun u_8 e_u_8 => ?_)
        refine lv_icmp_ne (tgt := 259) hx hb dX7_isSafe_252 (by decide) (fun c_9 => ?_) (fun c_9 => ?_)
        · have c_9' : u_6.toInt ≠ u_8.toInt := i_ne c_9 rfl rfl
          refine lv_iconst (v := 0) hx hb dX7_isSafe_259 (by decide) ?_
          refine lv_istore (lv' := [(4, .int 0), (5, .int i), (0, .ref h), (1, .int n), (2, .int k), (3, .int j)]) hx hb dX7_isSafe_260 hl (by decide) rfl (fun ls hl => ?_)
          obtain ⟨z_10, ez_10⟩ : ∃ z : Int32, z = i + 1 := ⟨_, rfl⟩
          have e_z_10 : z_10.toInt = i.toInt + 1 := i_add ez_10 rfl (by decide) (by omega) (by omega)
          refine lv_iinc (v := z_10) (lv' := [(5, .int z_10), (4, .int 0), (0, .ref h), (1, .int n), (2, .int k), (3, .int j)]) hx hb dX7_isSafe_262 hl (k := 1) rfl (by rw [ez_10]; rfl) (by decide) rfl (fun ls hl => ?_)
          refine lv_goto (tgt := 224) hx hb dX7_isSafe_265 (by decide) ?_
          exact ih (kf - 1) (by omega) g1 z_10 (0 : Int32) H locs ls hT hI hE hM (by omega) (by omega) (by decide) (by decide) (by have e0_ : (0 : Int32).toInt = 0 := (by decide); omega) (lv_sub hl [1, 0, 2, 3, 4, 5] rfl)
        · have c_9' : u_6.toInt = u_8.toInt := i_eq c_9 rfl rfl
          refine lv_iconst (v := 1) hx hb dX7_isSafe_255 (by decide) ?_
          refine lv_goto (tgt := 260) hx hb dX7_isSafe_256 (by decide) ?_
          refine lv_istore (lv' := [(4, .int 1), (5, .int i), (0, .ref h), (1, .int n), (2, .int k), (3, .int j)]) hx hb dX7_isSafe_260 hl (by decide) rfl (fun ls hl => ?_)
          obtain ⟨z_11, ez_11⟩ : ∃ z : Int32, z = i + 1 := ⟨_, rfl⟩
          have e_z_11 : z_11.toInt = i.toInt + 1 := i_add ez_11 rfl (by decide) (by omega) (by omega)
          refine lv_iinc (v := z_11) (lv' := [(5, .int z_11), (4, .int 1), (0, .ref h), (1, .int n), (2, .int k), (3, .int j)]) hx hb dX7_isSafe_262 hl (k := 1) rfl (by rw [ez_11]; rfl) (by decide) rfl (fun ls hl => ?_)
          refine lv_goto (tgt := 224) hx hb dX7_isSafe_265 (by decide) ?_
          exact ih (kf - 1) (by omega) g1 z_11 (1 : Int32) H locs ls hT hI hE hM (by omega) (by omega) (by decide) (by decide) (by have e0_ : (0 : Int32).toInt = 0 := (by decide); have e1_ : (1 : Int32).toInt = 1 := (by decide); omega) (lv_sub hl [1, 0, 2, 3, 4, 5] rfl)
set_option maxHeartbeats 4000000 in
set_option maxRecDepth 100000 in
theorem lt_m_isSafe_b (l : Launch) (D : va_G) (cI cZ cS cR : ClassId) (N0 : NT) (g : GS) (h : Nat) (n : Int32) (k : Int32) (j : Int32) (r_h : g.1 h = 8) (l_n : 0 ≤ n.toInt) (u_n : n.toInt ≤ 5) (hw : PX 48 2 3 71 72 g h) {p : Program} {e : Env} {s : State} {m : MethodId} {args : Array Value} {below : List Frame} {meth : Method} {c : Code} (hB : Tz p s m meth c args cX7_isSafe 8 RX7 D cI cZ cS cR N0) (hr : meth.sig.returnType = (some .boolean))    : ∀ (kf : Nat) (g1 : GS) (i : Int32) (li : Int32)  (H : Heap) (locs : List Loc) (ls : Array Slot), Tv D cI cZ cS cR N0 s.heap H locs g1 → Inv g1 → Ex g g1 → Sm md_m_isSafe g g1 → 0 ≤ i.toInt → i.toInt ≤ 30 → 0 ≤ li.toInt → li.toInt ≤ 1 → (30 ≤ i.toInt + kf) → lv_has ls 8 [(4, .int li), (5, .int i), (0, .ref h), (1, .int n), (2, .int k), (3, .int j)] → W p l e (rmx 7 0 0) s m args below meth c H locs 0 0 (MQ below (tQ D cI cZ cS cR N0 (fun v g' => ∃ (r : Int32), v = some (.int r) ∧ Inv g' ∧ Ex g g' ∧ Sm md_m_isSafe g g' ∧ (r = 1 ∨ r = 0))) args s 0 0 (fun q => N0.1 ≤ q)) (F0 m 130 ls []) := by
  have hx := hB.1
  have hb := hB.2.1
  intro kf
  induction kf using Nat.strongRecOn with
  | ind kf ih =>
    intro g1 i li H locs ls hT hI hE hM l_i u_i l_li u_li hk hl
    have r_1 : g1.1 h = 8 := Ex.r hE r_h (by decide)
    refine lv_iload hx hb dX7_isSafe_130 (lv_at hl 1 rfl) ?_
    refine lv_bipush (v := 30) hx hb dX7_isSafe_132 (by decide) ?_
    refine lv_icmp_ge (tgt := 198) hx hb dX7_isSafe_134 (by decide) (fun c_2 => ?_) (fun c_2 => ?_)
    · have c_2' : 30 ≤ i.toInt := i_le c_2 (by decide) rfl
      refine lv_iload hx hb dX7_isSafe_198 (lv_at hl 0 rfl) ?_
      refine lv_if_eq (tgt := 218) hx hb dX7_isSafe_200 (by decide) (fun c_3 => ?_) (fun c_3 => ?_)
      · have c_3' : li.toInt = 0 := i_eq c_3 rfl (by decide)
        refine lv_iconst (v := 0) hx hb dX7_isSafe_218 (by decide) ?_
        refine lv_istore (lv' := [(4, .int 0), (5, .int i), (0, .ref h), (1, .int n), (2, .int k), (3, .int j)]) hx hb dX7_isSafe_219 hl (by decide) rfl (fun ls hl => ?_)
        refine lv_iconst (v := 0) hx hb dX7_isSafe_221 (by decide) ?_
        refine lv_istore (lv' := [(5, .int 0), (4, .int 0), (0, .ref h), (1, .int n), (2, .int k), (3, .int j)]) hx hb dX7_isSafe_222 hl (by decide) rfl (fun ls hl => ?_)
        exact lt_m_isSafe_c l D cI cZ cS cR N0 g h n k j r_h l_n u_n hw hB hr   1200 g1 (0 : Int32) (0 : Int32) H locs ls hT hI hE hM (by decide) (by decide) (by decide) (by decide) (by have e0_ : (0 : Int32).toInt = 0 := (by decide); omega) (lv_sub hl [1, 0, 2, 3, 4, 5] rfl)
      · have c_3' : li.toInt ≠ 0 := i_ne c_3 rfl (by decide)
        refine lv_aload_n hx hb dX7_isSafe_203 rfl (lv_at hl 2 rfl) ?_
        obtain ⟨v_4, e_v_4, l_v_4, u_v_4⟩ := f_8_52 hI r_1
        refine t_get (ci := 7) (v := .int v_4) hB hT (ro_ci r_1 rfl) rfl 52 (by decide) k_797 e_v_4 dX7_isSafe_204 ?_
        refine lv_aload_n hx hb dX7_isSafe_207 rfl (lv_at hl 2 rfl) ?_
        obtain ⟨v_5, e_v_5, l_v_5, u_v_5⟩ := f_8_60 hI r_1
        refine t_get (ci := 7) (v := .int v_5) hB hT (ro_ci r_1 rfl) rfl 60 (by decide) k_805 e_v_5 dX7_isSafe_208 ?_
        refine lv_icmp_ne (tgt := 218) hx hb dX7_isSafe_211 (by decide) (fun c_6 => ?_) (fun c_6 => ?_)
        · have c_6' : v_4.toInt ≠ v_5.toInt := i_ne c_6 rfl rfl
          refine lv_iconst (v := 0) hx hb dX7_isSafe_218 (by decide) ?_
          refine lv_istore (lv' := [(4, .int 0), (5, .int i), (0, .ref h), (1, .int n), (2, .int k), (3, .int j)]) hx hb dX7_isSafe_219 hl (by decide) rfl (fun ls hl => ?_)
          refine lv_iconst (v := 0) hx hb dX7_isSafe_221 (by decide) ?_
          refine lv_istore (lv' := [(5, .int 0), (4, .int 0), (0, .ref h), (1, .int n), (2, .int k), (3, .int j)]) hx hb dX7_isSafe_222 hl (by decide) rfl (fun ls hl => ?_)
          exact lt_m_isSafe_c l D cI cZ cS cR N0 g h n k j r_h l_n u_n hw hB hr   1200 g1 (0 : Int32) (0 : Int32) H locs ls hT hI hE hM (by decide) (by decide) (by decide) (by decide) (by have e0_ : (0 : Int32).toInt = 0 := (by decide); omega) (lv_sub hl [1, 0, 2, 3, 4, 5] rfl)
        · have c_6' : v_4.toInt = v_5.toInt := i_eq c_6 rfl rfl
          refine lv_iconst (v := 1) hx hb dX7_isSafe_214 (by decide) ?_
          refine lv_goto (tgt := 219) hx hb dX7_isSafe_215 (by decide) ?_
          refine lv_istore (lv' := [(4, .int 1), (5, .int i), (0, .ref h), (1, .int n), (2, .int k), (3, .int j)]) hx hb dX7_isSafe_219 hl (by decide) rfl (fun ls hl => ?_)
          refine lv_iconst (v := 0) hx hb dX7_isSafe_221 (by decide) ?_
          refine lv_istore (lv' := [(5, .int 0), (4, .int 1), (0, .ref h), (1, .int n), (2, .int k), (3, .int j)]) hx hb dX7_isSafe_222 hl (by decide) rfl (fun ls hl => ?_)
          exact lt_m_isSafe_c l D cI cZ cS cR N0 g h n k j r_h l_n u_n hw hB hr   1200 g1 (0 : Int32) (1 : Int32) H locs ls hT hI hE hM (by decide) (by decide) (by decide) (by decide) (by have e0_ : (0 : Int32).toInt = 0 := (by decide); have e1_ : (1 : Int32).toInt = 1 := (by decide); omega) (lv_sub hl [1, 0, 2, 3, 4, 5] rfl)
    · have c_2' : i.toInt < 30 := i_nle c_2 (by decide) rfl
      refine lv_iload hx hb dX7_isSafe_137 (lv_at hl 0 rfl) ?_
      refine lv_if_eq (tgt := 189) hx hb dX7_isSafe_139 (by decide) (fun c_7 => ?_) (fun c_7 => ?_)
      · have c_7' : li.toInt = 0 := i_eq c_7 rfl (by decide)
        refine lv_iconst (v := 0) hx hb dX7_isSafe_189 (by decide) ?_
        refine lv_istore (lv' := [(4, .int 0), (5, .int i), (0, .ref h), (1, .int n), (2, .int k), (3, .int j)]) hx hb dX7_isSafe_190 hl (by decide) rfl (fun ls hl => ?_)
        obtain ⟨z_8, ez_8⟩ : ∃ z : Int32, z = i + 1 := ⟨_, rfl⟩
        have e_z_8 : z_8.toInt = i.toInt + 1 := i_add ez_8 rfl (by decide) (by omega) (by omega)
        refine lv_iinc (v := z_8) (lv' := [(5, .int z_8), (4, .int 0), (0, .ref h), (1, .int n), (2, .int k), (3, .int j)]) hx hb dX7_isSafe_192 hl (k := 1) rfl (by rw [ez_8]; rfl) (by decide) rfl (fun ls hl => ?_)
        refine lv_goto (tgt := 130) hx hb dX7_isSafe_195 (by decide) ?_
        exact ih (kf - 1) (by omega) g1 z_8 (0 : Int32) H locs ls hT hI hE hM (by omega) (by omega) (by decide) (by decide) (by have e0_ : (0 : Int32).toInt = 0 := (by decide); omega) (lv_sub hl [1, 0, 2, 3, 4, 5] rfl)
      · have c_7' : li.toInt ≠ 0 := i_ne c_7 rfl (by decide)
        refine lv_aload_n hx hb dX7_isSafe_142 rfl (lv_at hl 2 rfl) ?_
        obtain ⟨v_9, e_v_9, r_v_9, n_v_9⟩ := f_8_57 hI r_1
        refine t_get (ci := 7) (v := .ref v_9) hB hT (ro_ci r_1 rfl) rfl 57 (by decide) k_802 e_v_9 dX7_isSafe_143 ?_
        refine lv_iload hx hb dX7_isSafe_146 (lv_at hl 1 rfl) ?_
        have i_u_10 : vp_in i 30 := (i_in (n := 30) rfl (by omega) (by omega))
        refine t_iald hB hT (ro_in r_v_9 (by decide)) n_v_9 i_u_10 rfl dX7_isSafe_148 ?_
        refine lv_topi (fun u_10 e_u_10 => ?_)
        refine lv_iload hx hb dX7_isSafe_149 (lv_at hl 1 rfl) ?_
        refine lv_bipush (v := 24) hx hb dX7_isSafe_151 (by decide) ?_
        refine lv_icmp_ge (tgt := 169) hx hb dX7_isSafe_153 (by decide) (fun c_11 => ?_) (fun c_11 => ?_)
        · have c_11' : 24 ≤ i.toInt := i_le c_11 (by decide) rfl
          refine lv_aload_n hx hb dX7_isSafe_169 rfl (lv_at hl 2 rfl) ?_
          obtain ⟨v_12, e_v_12, r_v_12, n_v_12⟩ := f_8_8 hI r_1
          refine t_get (ci := 7) (v := .ref v_12) hB hT (ro_ci r_1 rfl) rfl 8 (by decide) k_753 e_v_12 dX7_isSafe_170 ?_
          refine lv_bipush (v := 6) hx hb dX7_isSafe_173 (by decide) ?_
          refine lv_iload hx hb dX7_isSafe_175 (lv_at hl 1 rfl) ?_
          refine lv_iadd hx hb dX7_isSafe_177 ?_
          refine lv_topi (fun z_13 ez_13 => ?_)
          have e_z_13 : z_13.toInt = 6 + i.toInt := i_add ez_13 (by decide) rfl (by omega) (by omega)
          refine lv_bipush (v := 24) hx hb dX7_isSafe_178 (by decide) ?_
          refine lv_isub hx hb dX7_isSafe_180 ?_
          refine lv_topi (fun z_14 ez_14 => ?_)
          have e_z_14 : z_14.toInt = z_13.toInt - 24 := i_sub ez_14 rfl (by decide) (by omega) (by omega)
          have i_u_15 : vp_in z_14 12 := (i_in (n := 12) rfl (by omega) (by omega))
          refine t_iald hB hT (ro_in r_v_12 (by decide)) n_v_12 i_u_15 rfl dX7_isSafe_181 ?_
          have c_u_15 := hI.c r_v_12 n_v_12 (i_cl i_u_15)
          refine lv_topi (fun u_15 e_u_15 => ?_)
          obtain ⟨l_u_15, u_u_15⟩ := c_u_15
          rw [← e_u_15] at l_u_15 u_u_15
          refine lv_icmp_ne (tgt := 189) hx hb dX7_isSafe_182 (by decide) (fun c_16 => ?_) (fun c_16 => ?_)
          · have c_16' : u_10.toInt ≠ u_15.toInt := i_ne c_16 rfl rfl
            refine lv_iconst (v := 0) hx hb dX7_isSafe_189 (by decide) ?_
            refine lv_istore (lv' := [(4, .int 0), (5, .int i), (0, .ref h), (1, .int n), (2, .int k), (3, .int j)]) hx hb dX7_isSafe_190 hl (by decide) rfl (fun ls hl => ?_)
            obtain ⟨z_17, ez_17⟩ : ∃ z : Int32, z = i + 1 := ⟨_, rfl⟩
            have e_z_17 : z_17.toInt = i.toInt + 1 := i_add ez_17 rfl (by decide) (by omega) (by omega)
            refine lv_iinc (v := z_17) (lv' := [(5, .int z_17), (4, .int 0), (0, .ref h), (1, .int n), (2, .int k), (3, .int j)]) hx hb dX7_isSafe_192 hl (k := 1) rfl (by rw [ez_17]; rfl) (by decide) rfl (fun ls hl => ?_)
            refine lv_goto (tgt := 130) hx hb dX7_isSafe_195 (by decide) ?_
            exact ih (kf - 1) (by omega) g1 z_17 (0 : Int32) H locs ls hT hI hE hM (by omega) (by omega) (by decide) (by decide) (by have e0_ : (0 : Int32).toInt = 0 := (by decide); omega) (lv_sub hl [1, 0, 2, 3, 4, 5] rfl)
          · have c_16' : u_10.toInt = u_15.toInt := i_eq c_16 rfl rfl
            refine lv_iconst (v := 1) hx hb dX7_isSafe_185 (by decide) ?_
            refine lv_goto (tgt := 190) hx hb dX7_isSafe_186 (by decide) ?_
            refine lv_istore (lv' := [(4, .int 1), (5, .int i), (0, .ref h), (1, .int n), (2, .int k), (3, .int j)]) hx hb dX7_isSafe_190 hl (by decide) rfl (fun ls hl => ?_)
            obtain ⟨z_18, ez_18⟩ : ∃ z : Int32, z = i + 1 := ⟨_, rfl⟩
            have e_z_18 : z_18.toInt = i.toInt + 1 := i_add ez_18 rfl (by decide) (by omega) (by omega)
            refine lv_iinc (v := z_18) (lv' := [(5, .int z_18), (4, .int 1), (0, .ref h), (1, .int n), (2, .int k), (3, .int j)]) hx hb dX7_isSafe_192 hl (k := 1) rfl (by rw [ez_18]; rfl) (by decide) rfl (fun ls hl => ?_)
            refine lv_goto (tgt := 130) hx hb dX7_isSafe_195 (by decide) ?_
            exact ih (kf - 1) (by omega) g1 z_18 (1 : Int32) H locs ls hT hI hE hM (by omega) (by omega) (by decide) (by decide) (by have e0_ : (0 : Int32).toInt = 0 := (by decide); have e1_ : (1 : Int32).toInt = 1 := (by decide); omega) (lv_sub hl [1, 0, 2, 3, 4, 5] rfl)
        · have c_11' : i.toInt < 24 := i_nle c_11 (by decide) rfl
          refine lv_aload_n hx hb dX7_isSafe_156 rfl (lv_at hl 2 rfl) ?_
          obtain ⟨v_19, e_v_19, r_v_19, n_v_19⟩ := f_8_7 hI r_1
          refine t_get (ci := 7) (v := .ref v_19) hB hT (ro_ci r_1 rfl) rfl 7 (by decide) k_752 e_v_19 dX7_isSafe_157 ?_
          refine lv_bipush (v := 24) hx hb dX7_isSafe_160 (by decide) ?_
          refine lv_iload hx hb dX7_isSafe_162 (lv_at hl 1 rfl) ?_
          refine lv_iadd hx hb dX7_isSafe_164 ?_
          refine lv_topi (fun z_20 ez_20 => ?_)
          have e_z_20 : z_20.toInt = 24 + i.toInt := i_add ez_20 (by decide) rfl (by omega) (by omega)
          have i_u_21 : vp_in z_20 48 := (i_in (n := 48) rfl (by omega) (by omega))
          refine t_iald hB hT (ro_in r_v_19 (by decide)) n_v_19 i_u_21 rfl dX7_isSafe_165 ?_
          have c_u_21 := hI.c r_v_19 n_v_19 (i_cl i_u_21)
          refine lv_topi (fun u_21 e_u_21 => ?_)
          obtain ⟨l_u_21, u_u_21⟩ := c_u_21
          rw [← e_u_21] at l_u_21 u_u_21
          refine lv_goto (tgt := 182) hx hb dX7_isSafe_166 (by decide) ?_
          refine lv_icmp_ne (tgt := 189) hx hb dX7_isSafe_182 (by decide) (fun c_22 => ?_) (fun c_22 => ?_)
          · have c_22' : u_10.toInt ≠ u_21.toInt := i_ne c_22 rfl rfl
            refine lv_iconst (v := 0) hx hb dX7_isSafe_189 (by decide) ?_
            refine lv_istore (lv' := [(4, .int 0), (5, .int i), (0, .ref h), (1, .int n), (2, .int k), (3, .int j)]) hx hb dX7_isSafe_190 hl (by decide) rfl (fun ls hl => ?_)
            obtain ⟨z_23, ez_23⟩ : ∃ z : Int32, z = i + 1 := ⟨_, rfl⟩
            have e_z_23 : z_23.toInt = i.toInt + 1 := i_add ez_23 rfl (by decide) (by omega) (by omega)
            refine lv_iinc (v := z_23) (lv' := [(5, .int z_23), (4, .int 0), (0, .ref h), (1, .int n), (2, .int k), (3, .int j)]) hx hb dX7_isSafe_192 hl (k := 1) rfl (by rw [ez_23]; rfl) (by decide) rfl (fun ls hl => ?_)
            refine lv_goto (tgt := 130) hx hb dX7_isSafe_195 (by decide) ?_
            exact ih (kf - 1) (by omega) g1 z_23 (0 : Int32) H locs ls hT hI hE hM (by omega) (by omega) (by decide) (by decide) (by have e0_ : (0 : Int32).toInt = 0 := (by decide); omega) (lv_sub hl [1, 0, 2, 3, 4, 5] rfl)
          · have c_22' : u_10.toInt = u_21.toInt := i_eq c_22 rfl rfl
            refine lv_iconst (v := 1) hx hb dX7_isSafe_185 (by decide) ?_
            refine lv_goto (tgt := 190) hx hb dX7_isSafe_186 (by decide) ?_
            refine lv_istore (lv' := [(4, .int 1), (5, .int i), (0, .ref h), (1, .int n), (2, .int k), (3, .int j)]) hx hb dX7_isSafe_190 hl (by decide) rfl (fun ls hl => ?_)
            obtain ⟨z_24, ez_24⟩ : ∃ z : Int32, z = i + 1 := ⟨_, rfl⟩
            have e_z_24 : z_24.toInt = i.toInt + 1 := i_add ez_24 rfl (by decide) (by omega) (by omega)
            refine lv_iinc (v := z_24) (lv' := [(5, .int z_24), (4, .int 1), (0, .ref h), (1, .int n), (2, .int k), (3, .int j)]) hx hb dX7_isSafe_192 hl (k := 1) rfl (by rw [ez_24]; rfl) (by decide) rfl (fun ls hl => ?_)
            refine lv_goto (tgt := 130) hx hb dX7_isSafe_195 (by decide) ?_
            exact ih (kf - 1) (by omega) g1 z_24 (1 : Int32) H locs ls hT hI hE hM (by omega) (by omega) (by decide) (by decide) (by have e0_ : (0 : Int32).toInt = 0 := (by decide); have e1_ : (1 : Int32).toInt = 1 := (by decide); omega) (lv_sub hl [1, 0, 2, 3, 4, 5] rfl)
set_option maxHeartbeats 4000000 in
set_option maxRecDepth 100000 in
theorem lt_m_isSafe_q (l : Launch) (D : va_G) (cI cZ cS cR : ClassId) (N0 : NT) (g : GS) (h : Nat) (n : Int32) (k : Int32) (j : Int32) (r_h : g.1 h = 8) (l_n : 0 ≤ n.toInt) (u_n : n.toInt ≤ 5) (hw : PX 48 2 3 71 72 g h) {p : Program} {e : Env} {s : State} {m : MethodId} {args : Array Value} {below : List Frame} {meth : Method} {c : Code} (hB : Tz p s m meth c args cX7_isSafe 8 RX7 D cI cZ cS cR N0) (hr : meth.sig.returnType = (some .boolean)) (i : Int32) (l_i : 0 ≤ i.toInt) (u_i : i.toInt ≤ 5) (K : ∀ (g1 : GS) (li : Int32) (to1 : Int32)  (H : Heap) (locs : List Loc) (ls : Array Slot), Tv D cI cZ cS cR N0 s.heap H locs g1 → Inv g1 → Ex g g1 → Sm md_m_isSafe g g1 → 0 ≤ li.toInt → li.toInt ≤ 1 → 0 ≤ to1.toInt → to1.toInt ≤ 1200 → g1.2.1 h 21 = .int 1 → g1.2.1 h 52 = .int to1 → (to1.toInt ≤ 120 * i.toInt + 120) → lv_has ls 8 [(4, .int li), (5, .int i), (0, .ref h), (1, .int n), (2, .int k), (3, .int j)] → W p l e (rmx 7 0 0) s m args below meth c H locs 0 0 (MQ below (tQ D cI cZ cS cR N0 (fun v g' => ∃ (r : Int32), v = some (.int r) ∧ Inv g' ∧ Ex g g' ∧ Sm md_m_isSafe g g' ∧ (r = 1 ∨ r = 0))) args s 0 0 (fun q => N0.1 ≤ q)) (F0 m 121 ls [])) : ∀ (g1 : GS) (li : Int32) (to1 : Int32)  (H : Heap) (locs : List Loc) (ls : Array Slot), Tv D cI cZ cS cR N0 s.heap H locs g1 → Inv g1 → Ex g g1 → Sm md_m_isSafe g g1 → 0 ≤ li.toInt → li.toInt ≤ 1 → 0 ≤ to1.toInt → to1.toInt ≤ 1200 → g1.2.1 h 21 = .int 1 → g1.2.1 h 52 = .int to1 → (to1.toInt ≤ 120 * i.toInt + 60) → lv_has ls 8 [(4, .int li), (5, .int i), (0, .ref h), (1, .int n), (2, .int k), (3, .int j)] → W p l e (rmx 7 0 0) s m args below meth c H locs 0 0 (MQ below (tQ D cI cZ cS cR N0 (fun v g' => ∃ (r : Int32), v = some (.int r) ∧ Inv g' ∧ Ex g g' ∧ Sm md_m_isSafe g g' ∧ (r = 1 ∨ r = 0))) args s 0 0 (fun q => N0.1 ≤ q)) (F0 m 75 ls []) := by
  have hx := hB.1
  have hb := hB.2.1
  intro g1 li to1 H locs ls hT hI hE hM l_li u_li l_to1 u_to1 kp0 kp1 et hl
  have r_1 : g1.1 h = 8 := Ex.r hE r_h (by decide)
  refine lv_iload hx hb dX7_isSafe_75 (lv_at hl 1 rfl) ?_
  refine lv_iload_n hx hb dX7_isSafe_77 rfl (lv_at hl 3 rfl) ?_
  refine lv_iload_n hx hb dX7_isSafe_78 rfl (lv_at hl 4 rfl) ?_
  refine lv_iadd hx hb dX7_isSafe_79 ?_
  refine lv_topi (fun z_2 ez_2 => ?_)
  refine lv_icmp_ne (tgt := 121) hx hb dX7_isSafe_80 (by decide) (fun c_3 => ?_) (fun c_3 => ?_)
  · have c_3' : i.toInt ≠ z_2.toInt := i_ne c_3 rfl rfl
    exact K g1 li to1 H locs ls hT hI hE hM (by omega) (by omega) (by omega) (by omega) kp0 kp1 (by omega) (lv_sub hl [0, 1, 2, 3, 4, 5] rfl)
  · have c_3' : i.toInt = z_2.toInt := i_eq c_3 rfl rfl
    refine lv_aload_n hx hb dX7_isSafe_83 rfl (lv_at hl 2 rfl) ?_
    refine lv_iload_n hx hb dX7_isSafe_84 rfl (lv_at hl 3 rfl) ?_
    refine lv_iconst (v := 0) hx hb dX7_isSafe_85 (by decide) ?_
    obtain ⟨v_4, e_v_4, r_v_4, n_v_4⟩ := f_8_43 hI r_1
    obtain ⟨v_5, e_v_5, r_v_5, n_v_5⟩ := f_8_46 hI r_1
    refine t_callV (n := 2) (As := [.int n, .int 0]) (rest := []) (ci := 7) hB hT hl.1 (m_rowCall l D cI cZ cS cR N0 g1 hI h n 0 to1 v_4 v_5 r_1 r_v_4 n_v_4 r_v_5 n_v_5 kp1 kp0 e_v_4 e_v_5 (by have q0 : (0 : Int32).toInt = 0 := (by decide); omega) (by have q0 : (0 : Int32).toInt = 0 := (by decide); omega) (by have q0 : (0 : Int32).toInt = 0 := (by decide); omega) (by have q0 : (0 : Int32).toInt = 0 := (by decide); omega) (hw.mono hM hE r_h (by decide) (by decide) rfl rfl rfl rfl)) (ro_ci r_1 rfl) rfl k_1111 k_65 k_1108 k_1110 k_46 (by decide +kernel) ⟨(Nat.le_of_ble_eq_true rfl), (Nat.le_of_ble_eq_true rfl)⟩ rfl (Nat.le_of_ble_eq_true rfl) ⟨(Nat.le_of_ble_eq_true rfl), (Nat.le_of_ble_eq_true rfl)⟩ dX7_isSafe_86 (fun v g_6 H locs hp hT => ?_)
    obtain ⟨r_7, t2_8, rfl, hI, x_13, m_12, f_9, f_10, f_11⟩ := hp
    have hM : Sm md_m_isSafe g g_6 := hM.tr hE (m_12.mo (fun r k h => mdle_m_isSafe_m_rowCall h))
    have hE : Ex g g_6 := hE.tr x_13
    have r_14 : g_6.1 h = 8 := (Ex.r x_13 r_1 (by decide))
    have r_15 : g_6.1 v_4 = 51 := (Ex.r x_13 r_v_4 (by decide))
    have r_16 : g_6.1 v_5 = 55 := (Ex.r x_13 r_v_5 (by decide))
    have n_17 : g_6.2.2.1 v_4 = 7 := (Ex.n x_13 r_v_4 (by decide) n_v_4)
    have n_18 : g_6.2.2.1 v_5 = 7 := (Ex.n x_13 r_v_5 (by decide) n_v_5)
    have kn_19 : g_6.2.1 h 21 = .int 1 := (Sm.v m_12 r_1 (by decide) rfl kp0)
    have kn_20 : g_6.2.1 h 43 = .ref v_4 := (Sm.v m_12 r_1 (by decide) rfl e_v_4)
    have kn_21 : g_6.2.1 h 46 = .ref v_5 := (Sm.v m_12 r_1 (by decide) rfl e_v_5)
    refine W.eq (g2 := F0 m 89 ls [.int r_7]) rfl ?_
    have qc_22 : (0 : Int32).toInt = 0 := (by decide)
    refine lv_istore (lv' := [(7, .int r_7), (4, .int li), (5, .int i), (0, .ref h), (1, .int n), (2, .int k), (3, .int j)]) hx hb dX7_isSafe_89 hl (by decide) rfl (fun ls hl => ?_)
    refine lv_iload hx hb dX7_isSafe_91 (lv_at hl 1 rfl) ?_
    refine lv_if_eq (tgt := 118) hx hb dX7_isSafe_93 (by decide) (fun c_23 => ?_) (fun c_23 => ?_)
    · have c_23' : li.toInt = 0 := i_eq c_23 rfl (by decide)
      refine lv_iconst (v := 0) hx hb dX7_isSafe_118 (by decide) ?_
      refine lv_istore (lv' := [(4, .int 0), (7, .int r_7), (5, .int i), (0, .ref h), (1, .int n), (2, .int k), (3, .int j)]) hx hb dX7_isSafe_119 hl (by decide) rfl (fun ls hl => ?_)
      exact K g_6 (0 : Int32) t2_8 H locs ls hT hI hE hM (by decide) (by decide) (by omega) (by omega) kn_19 f_10 (by omega) (lv_sub hl [0, 2, 3, 4, 5, 6] rfl)
    · have c_23' : li.toInt ≠ 0 := i_ne c_23 rfl (by decide)
      refine lv_aload_n hx hb dX7_isSafe_96 rfl (lv_at hl 3 rfl) ?_
      obtain ⟨v_24, e_v_24, l_v_24, u_v_24⟩ := f_8_34 hI r_14
      refine t_get (ci := 7) (v := .int v_24) hB hT (ro_ci r_14 rfl) rfl 34 (by decide) k_779 e_v_24 dX7_isSafe_97 ?_
      refine lv_if_ne (tgt := 114) hx hb dX7_isSafe_100 (by decide) (fun c_25 => ?_) (fun c_25 => ?_)
      · have c_25' : v_24.toInt ≠ 0 := i_ne c_25 rfl (by decide)
        refine lv_iconst (v := 1) hx hb dX7_isSafe_114 (by decide) ?_
        refine lv_goto (tgt := 119) hx hb dX7_isSafe_115 (by decide) ?_
        refine lv_istore (lv' := [(4, .int 1), (7, .int r_7), (5, .int i), (0, .ref h), (1, .int n), (2, .int k), (3, .int j)]) hx hb dX7_isSafe_119 hl (by decide) rfl (fun ls hl => ?_)
        exact K g_6 (1 : Int32) t2_8 H locs ls hT hI hE hM (by decide) (by decide) (by omega) (by omega) kn_19 f_10 (by omega) (lv_sub hl [0, 2, 3, 4, 5, 6] rfl)
      · have c_25' : v_24.toInt = 0 := i_eq c_25 rfl (by decide)
        refine lv_iload hx hb dX7_isSafe_103 (lv_at hl 0 rfl) ?_
        refine lv_aload_n hx hb dX7_isSafe_105 rfl (lv_at hl 3 rfl) ?_
        obtain ⟨v_26, e_v_26, r_v_26, n_v_26⟩ := f_8_59 hI r_14
        refine t_get (ci := 7) (v := .ref v_26) hB hT (ro_ci r_14 rfl) rfl 59 (by decide) k_804 e_v_26 dX7_isSafe_106 ?_
        refine lv_iload_n hx hb dX7_isSafe_109 rfl (lv_at hl 4 rfl) ?_
        have i_u_27 : vp_in n 6 := (i_in (n := 6) rfl (by omega) (by omega))
        refine t_iald hB hT (ro_in r_v_26 (by decide)) n_v_26 i_u_27 rfl dX7_isSafe_110 ?_
        refine lv_topi (fun u_27 e_u_27 => ?_)
        refine lv_icmp_ne (tgt := 118) hx hb dX7_isSafe_111 (by decide) (fun c_28 => ?_) (fun c_28 => ?_)
        · have c_28' : r_7.toInt ≠ u_27.toInt := i_ne c_28 rfl rfl
          refine lv_iconst (v := 0) hx hb dX7_isSafe_118 (by decide) ?_
          refine lv_istore (lv' := [(4, .int 0), (7, .int r_7), (5, .int i), (0, .ref h), (1, .int n), (2, .int k), (3, .int j)]) hx hb dX7_isSafe_119 hl (by decide) rfl (fun ls hl => ?_)
          exact K g_6 (0 : Int32) t2_8 H locs ls hT hI hE hM (by decide) (by decide) (by omega) (by omega) kn_19 f_10 (by omega) (lv_sub hl [0, 2, 3, 4, 5, 6] rfl)
        · have c_28' : r_7.toInt = u_27.toInt := i_eq c_28 rfl rfl
          refine lv_iconst (v := 1) hx hb dX7_isSafe_114 (by decide) ?_
          refine lv_goto (tgt := 119) hx hb dX7_isSafe_115 (by decide) ?_
          refine lv_istore (lv' := [(4, .int 1), (7, .int r_7), (5, .int i), (0, .ref h), (1, .int n), (2, .int k), (3, .int j)]) hx hb dX7_isSafe_119 hl (by decide) rfl (fun ls hl => ?_)
          exact K g_6 (1 : Int32) t2_8 H locs ls hT hI hE hM (by decide) (by decide) (by omega) (by omega) kn_19 f_10 (by omega) (lv_sub hl [0, 2, 3, 4, 5, 6] rfl)
set_option maxHeartbeats 4000000 in
set_option maxRecDepth 100000 in
theorem lt_m_isSafe_p (l : Launch) (D : va_G) (cI cZ cS cR : ClassId) (N0 : NT) (g : GS) (h : Nat) (n : Int32) (k : Int32) (j : Int32) (r_h : g.1 h = 8) (l_n : 0 ≤ n.toInt) (u_n : n.toInt ≤ 5) (hw : PX 48 2 3 71 72 g h) {p : Program} {e : Env} {s : State} {m : MethodId} {args : Array Value} {below : List Frame} {meth : Method} {c : Code} (hB : Tz p s m meth c args cX7_isSafe 8 RX7 D cI cZ cS cR N0) (hr : meth.sig.returnType = (some .boolean)) (i : Int32) (l_i : 0 ≤ i.toInt) (u_i : i.toInt ≤ 5) (K : ∀ (g1 : GS) (li : Int32) (to1 : Int32)  (H : Heap) (locs : List Loc) (ls : Array Slot), Tv D cI cZ cS cR N0 s.heap H locs g1 → Inv g1 → Ex g g1 → Sm md_m_isSafe g g1 → 0 ≤ li.toInt → li.toInt ≤ 1 → 0 ≤ to1.toInt → to1.toInt ≤ 1200 → g1.2.1 h 21 = .int 1 → g1.2.1 h 52 = .int to1 → (to1.toInt ≤ 120 * i.toInt + 60) → lv_has ls 8 [(4, .int li), (5, .int i), (0, .ref h), (1, .int n), (2, .int k), (3, .int j)] → W p l e (rmx 7 0 0) s m args below meth c H locs 0 0 (MQ below (tQ D cI cZ cS cR N0 (fun v g' => ∃ (r : Int32), v = some (.int r) ∧ Inv g' ∧ Ex g g' ∧ Sm md_m_isSafe g g' ∧ (r = 1 ∨ r = 0))) args s 0 0 (fun q => N0.1 ≤ q)) (F0 m 75 ls [])) : ∀ (g1 : GS) (li : Int32) (a6 : Int32) (to1 : Int32)  (H : Heap) (locs : List Loc) (ls : Array Slot), Tv D cI cZ cS cR N0 s.heap H locs g1 → Inv g1 → Ex g g1 → Sm md_m_isSafe g g1 → 0 ≤ li.toInt → li.toInt ≤ 1 → 0 ≤ to1.toInt → to1.toInt ≤ 1200 → g1.2.1 h 21 = .int 1 → g1.2.1 h 52 = .int to1 → (to1.toInt ≤ 120 * i.toInt + 60) → lv_has ls 8 [(4, .int li), (5, .int i), (6, .int a6), (0, .ref h), (1, .int n), (2, .int k), (3, .int j)] → W p l e (rmx 7 0 0) s m args below meth c H locs 0 0 (MQ below (tQ D cI cZ cS cR N0 (fun v g' => ∃ (r : Int32), v = some (.int r) ∧ Inv g' ∧ Ex g g' ∧ Sm md_m_isSafe g g' ∧ (r = 1 ∨ r = 0))) args s 0 0 (fun q => N0.1 ≤ q)) (F0 m 38 ls []) := by
  have hx := hB.1
  have hb := hB.2.1
  intro g1 li a6 to1 H locs ls hT hI hE hM l_li u_li l_to1 u_to1 kp0 kp1 et hl
  have r_1 : g1.1 h = 8 := Ex.r hE r_h (by decide)
  refine lv_iload hx hb dX7_isSafe_38 (lv_at hl 0 rfl) ?_
  refine lv_if_eq (tgt := 72) hx hb dX7_isSafe_40 (by decide) (fun c_2 => ?_) (fun c_2 => ?_)
  · have c_2' : li.toInt = 0 := i_eq c_2 rfl (by decide)
    refine lv_iconst (v := 0) hx hb dX7_isSafe_72 (by decide) ?_
    refine lv_istore (lv' := [(4, .int 0), (5, .int i), (6, .int a6), (0, .ref h), (1, .int n), (2, .int k), (3, .int j)]) hx hb dX7_isSafe_73 hl (by decide) rfl (fun ls hl => ?_)
    exact K g1 (0 : Int32) to1 H locs ls hT hI hE hM (by decide) (by decide) (by omega) (by omega) kp0 kp1 (by omega) (lv_sub hl [0, 1, 3, 4, 5, 6] rfl)
  · have c_2' : li.toInt ≠ 0 := i_ne c_2 rfl (by decide)
    refine lv_iload hx hb dX7_isSafe_43 (lv_at hl 2 rfl) ?_
    refine lv_aload_n hx hb dX7_isSafe_45 rfl (lv_at hl 3 rfl) ?_
    obtain ⟨v_3, e_v_3, r_v_3, n_v_3⟩ := f_8_59 hI r_1
    refine t_get (ci := 7) (v := .ref v_3) hB hT (ro_ci r_1 rfl) rfl 59 (by decide) k_804 e_v_3 dX7_isSafe_46 ?_
    refine lv_iload hx hb dX7_isSafe_49 (lv_at hl 1 rfl) ?_
    have i_u_4 : vp_in i 6 := (i_in (n := 6) rfl (by omega) (by omega))
    refine t_iald hB hT (ro_in r_v_3 (by decide)) n_v_3 i_u_4 rfl dX7_isSafe_51 ?_
    refine lv_topi (fun u_4 e_u_4 => ?_)
    refine lv_icmp_eq (tgt := 68) hx hb dX7_isSafe_52 (by decide) (fun c_5 => ?_) (fun c_5 => ?_)
    · have c_5' : a6.toInt = u_4.toInt := i_eq c_5 rfl rfl
      refine lv_iconst (v := 1) hx hb dX7_isSafe_68 (by decide) ?_
      refine lv_goto (tgt := 73) hx hb dX7_isSafe_69 (by decide) ?_
      refine lv_istore (lv' := [(4, .int 1), (5, .int i), (6, .int a6), (0, .ref h), (1, .int n), (2, .int k), (3, .int j)]) hx hb dX7_isSafe_73 hl (by decide) rfl (fun ls hl => ?_)
      exact K g1 (1 : Int32) to1 H locs ls hT hI hE hM (by decide) (by decide) (by omega) (by omega) kp0 kp1 (by omega) (lv_sub hl [0, 1, 3, 4, 5, 6] rfl)
    · have c_5' : a6.toInt ≠ u_4.toInt := i_ne c_5 rfl rfl
      refine lv_iload hx hb dX7_isSafe_55 (lv_at hl 1 rfl) ?_
      refine lv_iload_n hx hb dX7_isSafe_57 rfl (lv_at hl 4 rfl) ?_
      refine lv_icmp_ne (tgt := 72) hx hb dX7_isSafe_58 (by decide) (fun c_6 => ?_) (fun c_6 => ?_)
      · have c_6' : i.toInt ≠ n.toInt := i_ne c_6 rfl rfl
        refine lv_iconst (v := 0) hx hb dX7_isSafe_72 (by decide) ?_
        refine lv_istore (lv' := [(4, .int 0), (5, .int i), (6, .int a6), (0, .ref h), (1, .int n), (2, .int k), (3, .int j)]) hx hb dX7_isSafe_73 hl (by decide) rfl (fun ls hl => ?_)
        exact K g1 (0 : Int32) to1 H locs ls hT hI hE hM (by decide) (by decide) (by omega) (by omega) kp0 kp1 (by omega) (lv_sub hl [0, 1, 3, 4, 5, 6] rfl)
      · have c_6' : i.toInt = n.toInt := i_eq c_6 rfl rfl
        refine lv_iload hx hb dX7_isSafe_61 (lv_at hl 2 rfl) ?_
        refine lv_bipush (v := (-2)) hx hb dX7_isSafe_63 (by decide) ?_
        refine lv_icmp_ne (tgt := 72) hx hb dX7_isSafe_65 (by decide) (fun c_7 => ?_) (fun c_7 => ?_)
        · have c_7' : a6.toInt ≠ (-2) := i_ne c_7 rfl (by decide)
          refine lv_iconst (v := 0) hx hb dX7_isSafe_72 (by decide) ?_
          refine lv_istore (lv' := [(4, .int 0), (5, .int i), (6, .int a6), (0, .ref h), (1, .int n), (2, .int k), (3, .int j)]) hx hb dX7_isSafe_73 hl (by decide) rfl (fun ls hl => ?_)
          exact K g1 (0 : Int32) to1 H locs ls hT hI hE hM (by decide) (by decide) (by omega) (by omega) kp0 kp1 (by omega) (lv_sub hl [0, 1, 3, 4, 5, 6] rfl)
        · have c_7' : a6.toInt = (-2) := i_eq c_7 rfl (by decide)
          refine lv_iconst (v := 1) hx hb dX7_isSafe_68 (by decide) ?_
          refine lv_goto (tgt := 73) hx hb dX7_isSafe_69 (by decide) ?_
          refine lv_istore (lv' := [(4, .int 1), (5, .int i), (6, .int a6), (0, .ref h), (1, .int n), (2, .int k), (3, .int j)]) hx hb dX7_isSafe_73 hl (by decide) rfl (fun ls hl => ?_)
          exact K g1 (1 : Int32) to1 H locs ls hT hI hE hM (by decide) (by decide) (by omega) (by omega) kp0 kp1 (by omega) (lv_sub hl [0, 1, 3, 4, 5, 6] rfl)
set_option maxHeartbeats 4000000 in
set_option maxRecDepth 100000 in
theorem lt_m_isSafe_a (l : Launch) (D : va_G) (cI cZ cS cR : ClassId) (N0 : NT) (g : GS) (h : Nat) (n : Int32) (k : Int32) (j : Int32) (r_h : g.1 h = 8) (l_n : 0 ≤ n.toInt) (u_n : n.toInt ≤ 5) (hw : PX 48 2 3 71 72 g h) {p : Program} {e : Env} {s : State} {m : MethodId} {args : Array Value} {below : List Frame} {meth : Method} {c : Code} (hB : Tz p s m meth c args cX7_isSafe 8 RX7 D cI cZ cS cR N0) (hr : meth.sig.returnType = (some .boolean))    : ∀ (kf : Nat) (g1 : GS) (i : Int32) (li : Int32) (to1 : Int32)  (H : Heap) (locs : List Loc) (ls : Array Slot), Tv D cI cZ cS cR N0 s.heap H locs g1 → Inv g1 → Ex g g1 → Sm md_m_isSafe g g1 → 0 ≤ i.toInt → i.toInt ≤ 6 → 0 ≤ li.toInt → li.toInt ≤ 1 → 0 ≤ to1.toInt → to1.toInt ≤ 1200 → g1.2.1 h 21 = .int 1 → g1.2.1 h 52 = .int to1 → (6 ≤ i.toInt + kf ∧ to1.toInt ≤ 120 * i.toInt) → lv_has ls 8 [(4, .int li), (5, .int i), (0, .ref h), (1, .int n), (2, .int k), (3, .int j)] → W p l e (rmx 7 0 0) s m args below meth c H locs 0 0 (MQ below (tQ D cI cZ cS cR N0 (fun v g' => ∃ (r : Int32), v = some (.int r) ∧ Inv g' ∧ Ex g g' ∧ Sm md_m_isSafe g g' ∧ (r = 1 ∨ r = 0))) args s 0 0 (fun q => N0.1 ≤ q)) (F0 m 10 ls []) := by
  have hx := hB.1
  have hb := hB.2.1
  intro kf
  induction kf using Nat.strongRecOn with
  | ind kf ih =>
    intro g1 i li to1 H locs ls hT hI hE hM l_i u_i l_li u_li l_to1 u_to1 kp0 kp1 hk hl
    have r_1 : g1.1 h = 8 := Ex.r hE r_h (by decide)
    refine lv_iload hx hb dX7_isSafe_10 (lv_at hl 1 rfl) ?_
    refine lv_aload_n hx hb dX7_isSafe_12 rfl (lv_at hl 2 rfl) ?_
    obtain ⟨v_2, e_v_2, l_v_2, u_v_2⟩ := f_8_30 hI r_1
    refine t_get (ci := 7) (v := .int v_2) hB hT (ro_ci r_1 rfl) rfl 30 (by decide) k_775 e_v_2 dX7_isSafe_13 ?_
    refine lv_icmp_ge (tgt := 127) hx hb dX7_isSafe_16 (by decide) (fun c_3 => ?_) (fun c_3 => ?_)
    · have c_3' : v_2.toInt ≤ i.toInt := i_le c_3 rfl rfl
      refine lv_iconst (v := 0) hx hb dX7_isSafe_127 (by decide) ?_
      refine lv_istore (lv' := [(5, .int 0), (4, .int li), (0, .ref h), (1, .int n), (2, .int k), (3, .int j)]) hx hb dX7_isSafe_128 hl (by decide) rfl (fun ls hl => ?_)
      exact lt_m_isSafe_b l D cI cZ cS cR N0 g h n k j r_h l_n u_n hw hB hr   30 g1 (0 : Int32) li H locs ls hT hI hE hM (by decide) (by decide) (by omega) (by omega) (by have e0_ : (0 : Int32).toInt = 0 := (by decide); omega) (lv_sub hl [1, 0, 2, 3, 4, 5] rfl)
    · have c_3' : i.toInt < v_2.toInt := i_nle c_3 rfl rfl
      refine lv_aload_n hx hb dX7_isSafe_19 rfl (lv_at hl 2 rfl) ?_
      refine lv_iload hx hb dX7_isSafe_20 (lv_at hl 1 rfl) ?_
      refine lv_iload hx hb dX7_isSafe_22 (lv_at hl 1 rfl) ?_
      refine lv_iload_n hx hb dX7_isSafe_24 rfl (lv_at hl 3 rfl) ?_
      refine lv_icmp_ne (tgt := 32) hx hb dX7_isSafe_25 (by decide) (fun c_4 => ?_) (fun c_4 => ?_)
      · have c_4' : i.toInt ≠ n.toInt := i_ne c_4 rfl rfl
        refine lv_iconst (v := 0) hx hb dX7_isSafe_32 (by decide) ?_
        obtain ⟨v_5, e_v_5, r_v_5, n_v_5⟩ := f_8_43 hI r_1
        obtain ⟨v_6, e_v_6, r_v_6, n_v_6⟩ := f_8_46 hI r_1
        refine t_callV (n := 2) (As := [.int i, .int 0]) (rest := []) (ci := 7) hB hT hl.1 (m_rowCall l D cI cZ cS cR N0 g1 hI h i 0 to1 v_5 v_6 r_1 r_v_5 n_v_5 r_v_6 n_v_6 kp1 kp0 e_v_5 e_v_6 (by have q0 : (0 : Int32).toInt = 0 := (by decide); omega) (by have q0 : (0 : Int32).toInt = 0 := (by decide); omega) (by have q0 : (0 : Int32).toInt = 0 := (by decide); omega) (by have q0 : (0 : Int32).toInt = 0 := (by decide); omega) (hw.mono hM hE r_h (by decide) (by decide) rfl rfl rfl rfl)) (ro_ci r_1 rfl) rfl k_1111 k_65 k_1108 k_1110 k_46 (by decide +kernel) ⟨(Nat.le_of_ble_eq_true rfl), (Nat.le_of_ble_eq_true rfl)⟩ rfl (Nat.le_of_ble_eq_true rfl) ⟨(Nat.le_of_ble_eq_true rfl), (Nat.le_of_ble_eq_true rfl)⟩ dX7_isSafe_33 (fun v g_7 H locs hp hT => ?_)
        obtain ⟨r_8, t2_9, rfl, hI, x_14, m_13, f_10, f_11, f_12⟩ := hp
        have hM : Sm md_m_isSafe g g_7 := hM.tr hE (m_13.mo (fun r k h => mdle_m_isSafe_m_rowCall h))
        have hE : Ex g g_7 := hE.tr x_14
        have r_15 : g_7.1 h = 8 := (Ex.r x_14 r_1 (by decide))
        have r_16 : g_7.1 v_5 = 51 := (Ex.r x_14 r_v_5 (by decide))
        have r_17 : g_7.1 v_6 = 55 := (Ex.r x_14 r_v_6 (by decide))
        have n_18 : g_7.2.2.1 v_5 = 7 := (Ex.n x_14 r_v_5 (by decide) n_v_5)
        have n_19 : g_7.2.2.1 v_6 = 7 := (Ex.n x_14 r_v_6 (by decide) n_v_6)
        have kn_20 : g_7.2.1 h 21 = .int 1 := (Sm.v m_13 r_1 (by decide) rfl kp0)
        have kn_21 : g_7.2.1 h 30 = .int v_2 := (Sm.v m_13 r_1 (by decide) rfl e_v_2)
        have kn_22 : g_7.2.1 h 43 = .ref v_5 := (Sm.v m_13 r_1 (by decide) rfl e_v_5)
        have kn_23 : g_7.2.1 h 46 = .ref v_6 := (Sm.v m_13 r_1 (by decide) rfl e_v_6)
        refine W.eq (g2 := F0 m 36 ls [.int r_8]) rfl ?_
        have qc_24 : (0 : Int32).toInt = 0 := (by decide)
        refine lv_istore (lv' := [(6, .int r_8), (4, .int li), (5, .int i), (0, .ref h), (1, .int n), (2, .int k), (3, .int j)]) hx hb dX7_isSafe_36 hl (by decide) rfl (fun ls hl => ?_)
        refine lt_m_isSafe_p l D cI cZ cS cR N0 g h n k j r_h l_n u_n hw hB hr i (by omega) (by omega) (fun g1_b_25 li_b_25 to1_b_25 H locs ls hT hI hE hM l_li_b_25 u_li_b_25 l_to1_b_25 u_to1_b_25 kp0_b_25 kp1_b_25 et_b_25 hl => ?_) g_7 li r_8 t2_9 H locs ls hT hI hE hM (by omega) (by omega) (by omega) (by omega) kn_20 f_11 (by omega) (lv_sub hl [1, 2, 0, 3, 4, 5, 6] rfl)
        have r_26 : g1_b_25.1 h = 8 := Ex.r hE r_h (by decide)
        refine lv_iload hx hb dX7_isSafe_75 (lv_at hl 1 rfl) ?_
        refine lv_iload_n hx hb dX7_isSafe_77 rfl (lv_at hl 3 rfl) ?_
        refine lv_iload_n hx hb dX7_isSafe_78 rfl (lv_at hl 4 rfl) ?_
        refine lv_iadd hx hb dX7_isSafe_79 ?_
        refine lv_topi (fun z_27 ez_27 => ?_)
        refine lv_icmp_ne (tgt := 121) hx hb dX7_isSafe_80 (by decide) (fun c_28 => ?_) (fun c_28 => ?_)
        · have c_28' : i.toInt ≠ z_27.toInt := i_ne c_28 rfl rfl
          obtain ⟨z_29, ez_29⟩ : ∃ z : Int32, z = i + 1 := ⟨_, rfl⟩
          have e_z_29 : z_29.toInt = i.toInt + 1 := i_add ez_29 rfl (by decide) (by omega) (by omega)
          refine lv_iinc (v := z_29) (lv' := [(5, .int z_29), (4, .int li_b_25), (0, .ref h), (1, .int n), (2, .int k), (3, .int j)]) hx hb dX7_isSafe_121 hl (k := 1) rfl (by rw [ez_29]; rfl) (by decide) rfl (fun ls hl => ?_)
          refine lv_goto (tgt := 10) hx hb dX7_isSafe_124 (by decide) ?_
          exact ih (kf - 1) (by omega) g1_b_25 z_29 li_b_25 to1_b_25 H locs ls hT hI hE hM (by omega) (by omega) (by omega) (by omega) (by omega) (by omega) kp0_b_25 kp1_b_25 (by have e0_ : (0 : Int32).toInt = 0 := (by decide); omega) (lv_sub hl [1, 0, 2, 3, 4, 5] rfl)
        · have c_28' : i.toInt = z_27.toInt := i_eq c_28 rfl rfl
          refine lv_aload_n hx hb dX7_isSafe_83 rfl (lv_at hl 2 rfl) ?_
          refine lv_iload_n hx hb dX7_isSafe_84 rfl (lv_at hl 3 rfl) ?_
          refine lv_iconst (v := 0) hx hb dX7_isSafe_85 (by decide) ?_
          obtain ⟨v_30, e_v_30, r_v_30, n_v_30⟩ := f_8_43 hI r_26
          obtain ⟨v_31, e_v_31, r_v_31, n_v_31⟩ := f_8_46 hI r_26
          refine t_callV (n := 2) (As := [.int n, .int 0]) (rest := []) (ci := 7) hB hT hl.1 (m_rowCall l D cI cZ cS cR N0 g1_b_25 hI h n 0 to1_b_25 v_30 v_31 r_26 r_v_30 n_v_30 r_v_31 n_v_31 kp1_b_25 kp0_b_25 e_v_30 e_v_31 (by have q0 : (0 : Int32).toInt = 0 := (by decide); omega) (by have q0 : (0 : Int32).toInt = 0 := (by decide); omega) (by have q0 : (0 : Int32).toInt = 0 := (by decide); omega) (by have q0 : (0 : Int32).toInt = 0 := (by decide); omega) (hw.mono hM hE r_h (by decide) (by decide) rfl rfl rfl rfl)) (ro_ci r_26 rfl) rfl k_1111 k_65 k_1108 k_1110 k_46 (by decide +kernel) ⟨(Nat.le_of_ble_eq_true rfl), (Nat.le_of_ble_eq_true rfl)⟩ rfl (Nat.le_of_ble_eq_true rfl) ⟨(Nat.le_of_ble_eq_true rfl), (Nat.le_of_ble_eq_true rfl)⟩ dX7_isSafe_86 (fun v g_32 H locs hp hT => ?_)
          obtain ⟨r_33, t2_34, rfl, hI, x_39, m_38, f_35, f_36, f_37⟩ := hp
          have hM : Sm md_m_isSafe g g_32 := hM.tr hE (m_38.mo (fun r k h => mdle_m_isSafe_m_rowCall h))
          have hE : Ex g g_32 := hE.tr x_39
          have r_40 : g_32.1 h = 8 := (Ex.r x_39 r_26 (by decide))
          have r_41 : g_32.1 v_30 = 51 := (Ex.r x_39 r_v_30 (by decide))
          have r_42 : g_32.1 v_31 = 55 := (Ex.r x_39 r_v_31 (by decide))
          have n_43 : g_32.2.2.1 v_30 = 7 := (Ex.n x_39 r_v_30 (by decide) n_v_30)
          have n_44 : g_32.2.2.1 v_31 = 7 := (Ex.n x_39 r_v_31 (by decide) n_v_31)
          have kn_45 : g_32.2.1 h 21 = .int 1 := (Sm.v m_38 r_26 (by decide) rfl kp0_b_25)
          have kn_46 : g_32.2.1 h 43 = .ref v_30 := (Sm.v m_38 r_26 (by decide) rfl e_v_30)
          have kn_47 : g_32.2.1 h 46 = .ref v_31 := (Sm.v m_38 r_26 (by decide) rfl e_v_31)
          refine W.eq (g2 := F0 m 89 ls [.int r_33]) rfl ?_
          have qc_48 : (0 : Int32).toInt = 0 := (by decide)
          refine lv_istore (lv' := [(7, .int r_33), (4, .int li_b_25), (5, .int i), (0, .ref h), (1, .int n), (2, .int k), (3, .int j)]) hx hb dX7_isSafe_89 hl (by decide) rfl (fun ls hl => ?_)
          refine lv_iload hx hb dX7_isSafe_91 (lv_at hl 1 rfl) ?_
          refine lv_if_eq (tgt := 118) hx hb dX7_isSafe_93 (by decide) (fun c_49 => ?_) (fun c_49 => ?_)
          · have c_49' : li_b_25.toInt = 0 := i_eq c_49 rfl (by decide)
            refine lv_iconst (v := 0) hx hb dX7_isSafe_118 (by decide) ?_
            refine lv_istore (lv' := [(4, .int 0), (7, .int r_33), (5, .int i), (0, .ref h), (1, .int n), (2, .int k), (3, .int j)]) hx hb dX7_isSafe_119 hl (by decide) rfl (fun ls hl => ?_)
            obtain ⟨z_50, ez_50⟩ : ∃ z : Int32, z = i + 1 := ⟨_, rfl⟩
            have e_z_50 : z_50.toInt = i.toInt + 1 := i_add ez_50 rfl (by decide) (by omega) (by omega)
            refine lv_iinc (v := z_50) (lv' := [(5, .int z_50), (4, .int 0), (7, .int r_33), (0, .ref h), (1, .int n), (2, .int k), (3, .int j)]) hx hb dX7_isSafe_121 hl (k := 2) rfl (by rw [ez_50]; rfl) (by decide) rfl (fun ls hl => ?_)
            refine lv_goto (tgt := 10) hx hb dX7_isSafe_124 (by decide) ?_
            exact ih (kf - 1) (by omega) g_32 z_50 (0 : Int32) t2_34 H locs ls hT hI hE hM (by omega) (by omega) (by decide) (by decide) (by omega) (by omega) kn_45 f_36 (by have e0_ : (0 : Int32).toInt = 0 := (by decide); omega) (lv_sub hl [1, 0, 3, 4, 5, 6] rfl)
          · have c_49' : li_b_25.toInt ≠ 0 := i_ne c_49 rfl (by decide)
            refine lv_aload_n hx hb dX7_isSafe_96 rfl (lv_at hl 3 rfl) ?_
            obtain ⟨v_51, e_v_51, l_v_51, u_v_51⟩ := f_8_34 hI r_40
            refine t_get (ci := 7) (v := .int v_51) hB hT (ro_ci r_40 rfl) rfl 34 (by decide) k_779 e_v_51 dX7_isSafe_97 ?_
            refine lv_if_ne (tgt := 114) hx hb dX7_isSafe_100 (by decide) (fun c_52 => ?_) (fun c_52 => ?_)
            · have c_52' : v_51.toInt ≠ 0 := i_ne c_52 rfl (by decide)
              refine lv_iconst (v := 1) hx hb dX7_isSafe_114 (by decide) ?_
              refine lv_goto (tgt := 119) hx hb dX7_isSafe_115 (by decide) ?_
              refine lv_istore (lv' := [(4, .int 1), (7, .int r_33), (5, .int i), (0, .ref h), (1, .int n), (2, .int k), (3, .int j)]) hx hb dX7_isSafe_119 hl (by decide) rfl (fun ls hl => ?_)
              obtain ⟨z_53, ez_53⟩ : ∃ z : Int32, z = i + 1 := ⟨_, rfl⟩
              have e_z_53 : z_53.toInt = i.toInt + 1 := i_add ez_53 rfl (by decide) (by omega) (by omega)
              refine lv_iinc (v := z_53) (lv' := [(5, .int z_53), (4, .int 1), (7, .int r_33), (0, .ref h), (1, .int n), (2, .int k), (3, .int j)]) hx hb dX7_isSafe_121 hl (k := 2) rfl (by rw [ez_53]; rfl) (by decide) rfl (fun ls hl => ?_)
              refine lv_goto (tgt := 10) hx hb dX7_isSafe_124 (by decide) ?_
              exact ih (kf - 1) (by omega) g_32 z_53 (1 : Int32) t2_34 H locs ls hT hI hE hM (by omega) (by omega) (by decide) (by decide) (by omega) (by omega) kn_45 f_36 (by have e0_ : (0 : Int32).toInt = 0 := (by decide); have e1_ : (1 : Int32).toInt = 1 := (by decide); omega) (lv_sub hl [1, 0, 3, 4, 5, 6] rfl)
            · have c_52' : v_51.toInt = 0 := i_eq c_52 rfl (by decide)
              refine lv_iload hx hb dX7_isSafe_103 (lv_at hl 0 rfl) ?_
              refine lv_aload_n hx hb dX7_isSafe_105 rfl (lv_at hl 3 rfl) ?_
              obtain ⟨v_54, e_v_54, r_v_54, n_v_54⟩ := f_8_59 hI r_40
              refine t_get (ci := 7) (v := .ref v_54) hB hT (ro_ci r_40 rfl) rfl 59 (by decide) k_804 e_v_54 dX7_isSafe_106 ?_
              refine lv_iload_n hx hb dX7_isSafe_109 rfl (lv_at hl 4 rfl) ?_
              have i_u_55 : vp_in n 6 := (i_in (n := 6) rfl (by omega) (by omega))
              refine t_iald hB hT (ro_in r_v_54 (by decide)) n_v_54 i_u_55 rfl dX7_isSafe_110 ?_
              refine lv_topi (fun u_55 e_u_55 => ?_)
              refine lv_icmp_ne (tgt := 118) hx hb dX7_isSafe_111 (by decide) (fun c_56 => ?_) (fun c_56 => ?_)
              · have c_56' : r_33.toInt ≠ u_55.toInt := i_ne c_56 rfl rfl
                refine lv_iconst (v := 0) hx hb dX7_isSafe_118 (by decide) ?_
                refine lv_istore (lv' := [(4, .int 0), (7, .int r_33), (5, .int i), (0, .ref h), (1, .int n), (2, .int k), (3, .int j)]) hx hb dX7_isSafe_119 hl (by decide) rfl (fun ls hl => ?_)
                obtain ⟨z_57, ez_57⟩ : ∃ z : Int32, z = i + 1 := ⟨_, rfl⟩
                have e_z_57 : z_57.toInt = i.toInt + 1 := i_add ez_57 rfl (by decide) (by omega) (by omega)
                refine lv_iinc (v := z_57) (lv' := [(5, .int z_57), (4, .int 0), (7, .int r_33), (0, .ref h), (1, .int n), (2, .int k), (3, .int j)]) hx hb dX7_isSafe_121 hl (k := 2) rfl (by rw [ez_57]; rfl) (by decide) rfl (fun ls hl => ?_)
                refine lv_goto (tgt := 10) hx hb dX7_isSafe_124 (by decide) ?_
                exact ih (kf - 1) (by omega) g_32 z_57 (0 : Int32) t2_34 H locs ls hT hI hE hM (by omega) (by omega) (by decide) (by decide) (by omega) (by omega) kn_45 f_36 (by have e0_ : (0 : Int32).toInt = 0 := (by decide); omega) (lv_sub hl [1, 0, 3, 4, 5, 6] rfl)
              · have c_56' : r_33.toInt = u_55.toInt := i_eq c_56 rfl rfl
                refine lv_iconst (v := 1) hx hb dX7_isSafe_114 (by decide) ?_
                refine lv_goto (tgt := 119) hx hb dX7_isSafe_115 (by decide) ?_
                refine lv_istore (lv' := [(4, .int 1), (7, .int r_33), (5, .int i), (0, .ref h), (1, .int n), (2, .int k), (3, .int j)]) hx hb dX7_isSafe_119 hl (by decide) rfl (fun ls hl => ?_)
                obtain ⟨z_58, ez_58⟩ : ∃ z : Int32, z = i + 1 := ⟨_, rfl⟩
                have e_z_58 : z_58.toInt = i.toInt + 1 := i_add ez_58 rfl (by decide) (by omega) (by omega)
                refine lv_iinc (v := z_58) (lv' := [(5, .int z_58), (4, .int 1), (7, .int r_33), (0, .ref h), (1, .int n), (2, .int k), (3, .int j)]) hx hb dX7_isSafe_121 hl (k := 2) rfl (by rw [ez_58]; rfl) (by decide) rfl (fun ls hl => ?_)
                refine lv_goto (tgt := 10) hx hb dX7_isSafe_124 (by decide) ?_
                exact ih (kf - 1) (by omega) g_32 z_58 (1 : Int32) t2_34 H locs ls hT hI hE hM (by omega) (by omega) (by decide) (by decide) (by omega) (by omega) kn_45 f_36 (by have e0_ : (0 : Int32).toInt = 0 := (by decide); have e1_ : (1 : Int32).toInt = 1 := (by decide); omega) (lv_sub hl [1, 0, 3, 4, 5, 6] rfl)
      · have c_4' : i.toInt = n.toInt := i_eq c_4 rfl rfl
        refine lv_iload_n hx hb dX7_isSafe_28 rfl (lv_at hl 5 rfl) ?_
        refine lv_goto (tgt := 33) hx hb dX7_isSafe_29 (by decide) ?_
        obtain ⟨v_59, e_v_59, r_v_59, n_v_59⟩ := f_8_43 hI r_1
        obtain ⟨v_60, e_v_60, r_v_60, n_v_60⟩ := f_8_46 hI r_1
        refine t_callV (n := 2) (As := [.int i, .int j]) (rest := []) (ci := 7) hB hT hl.1 (m_rowCall l D cI cZ cS cR N0 g1 hI h i j to1 v_59 v_60 r_1 r_v_59 n_v_59 r_v_60 n_v_60 kp1 kp0 e_v_59 e_v_60 (by omega) (by omega) (by omega) (by omega) (hw.mono hM hE r_h (by decide) (by decide) rfl rfl rfl rfl)) (ro_ci r_1 rfl) rfl k_1111 k_65 k_1108 k_1110 k_46 (by decide +kernel) ⟨(Nat.le_of_ble_eq_true rfl), (Nat.le_of_ble_eq_true rfl)⟩ rfl (Nat.le_of_ble_eq_true rfl) ⟨(Nat.le_of_ble_eq_true rfl), (Nat.le_of_ble_eq_true rfl)⟩ dX7_isSafe_33 (fun v g_61 H locs hp hT => ?_)
        obtain ⟨r_62, t2_63, rfl, hI, x_68, m_67, f_64, f_65, f_66⟩ := hp
        have hM : Sm md_m_isSafe g g_61 := hM.tr hE (m_67.mo (fun r k h => mdle_m_isSafe_m_rowCall h))
        have hE : Ex g g_61 := hE.tr x_68
        have r_69 : g_61.1 h = 8 := (Ex.r x_68 r_1 (by decide))
        have r_70 : g_61.1 v_59 = 51 := (Ex.r x_68 r_v_59 (by decide))
        have r_71 : g_61.1 v_60 = 55 := (Ex.r x_68 r_v_60 (by decide))
        have n_72 : g_61.2.2.1 v_59 = 7 := (Ex.n x_68 r_v_59 (by decide) n_v_59)
        have n_73 : g_61.2.2.1 v_60 = 7 := (Ex.n x_68 r_v_60 (by decide) n_v_60)
        have kn_74 : g_61.2.1 h 21 = .int 1 := (Sm.v m_67 r_1 (by decide) rfl kp0)
        have kn_75 : g_61.2.1 h 30 = .int v_2 := (Sm.v m_67 r_1 (by decide) rfl e_v_2)
        have kn_76 : g_61.2.1 h 43 = .ref v_59 := (Sm.v m_67 r_1 (by decide) rfl e_v_59)
        have kn_77 : g_61.2.1 h 46 = .ref v_60 := (Sm.v m_67 r_1 (by decide) rfl e_v_60)
        refine W.eq (g2 := F0 m 36 ls [.int r_62]) rfl ?_
        refine lv_istore (lv' := [(6, .int r_62), (4, .int li), (5, .int i), (0, .ref h), (1, .int n), (2, .int k), (3, .int j)]) hx hb dX7_isSafe_36 hl (by decide) rfl (fun ls hl => ?_)
        refine lt_m_isSafe_p l D cI cZ cS cR N0 g h n k j r_h l_n u_n hw hB hr i (by omega) (by omega) (fun g1_b_78 li_b_78 to1_b_78 H locs ls hT hI hE hM l_li_b_78 u_li_b_78 l_to1_b_78 u_to1_b_78 kp0_b_78 kp1_b_78 et_b_78 hl => ?_) g_61 li r_62 t2_63 H locs ls hT hI hE hM (by omega) (by omega) (by omega) (by omega) kn_74 f_65 (by omega) (lv_sub hl [1, 2, 0, 3, 4, 5, 6] rfl)
        have r_79 : g1_b_78.1 h = 8 := Ex.r hE r_h (by decide)
        refine lv_iload hx hb dX7_isSafe_75 (lv_at hl 1 rfl) ?_
        refine lv_iload_n hx hb dX7_isSafe_77 rfl (lv_at hl 3 rfl) ?_
        refine lv_iload_n hx hb dX7_isSafe_78 rfl (lv_at hl 4 rfl) ?_
        refine lv_iadd hx hb dX7_isSafe_79 ?_
        refine lv_topi (fun z_80 ez_80 => ?_)
        refine lv_icmp_ne (tgt := 121) hx hb dX7_isSafe_80 (by decide) (fun c_81 => ?_) (fun c_81 => ?_)
        · have c_81' : i.toInt ≠ z_80.toInt := i_ne c_81 rfl rfl
          obtain ⟨z_82, ez_82⟩ : ∃ z : Int32, z = i + 1 := ⟨_, rfl⟩
          have e_z_82 : z_82.toInt = i.toInt + 1 := i_add ez_82 rfl (by decide) (by omega) (by omega)
          refine lv_iinc (v := z_82) (lv' := [(5, .int z_82), (4, .int li_b_78), (0, .ref h), (1, .int n), (2, .int k), (3, .int j)]) hx hb dX7_isSafe_121 hl (k := 1) rfl (by rw [ez_82]; rfl) (by decide) rfl (fun ls hl => ?_)
          refine lv_goto (tgt := 10) hx hb dX7_isSafe_124 (by decide) ?_
          exact ih (kf - 1) (by omega) g1_b_78 z_82 li_b_78 to1_b_78 H locs ls hT hI hE hM (by omega) (by omega) (by omega) (by omega) (by omega) (by omega) kp0_b_78 kp1_b_78 (by have e0_ : (0 : Int32).toInt = 0 := (by decide); omega) (lv_sub hl [1, 0, 2, 3, 4, 5] rfl)
        · have c_81' : i.toInt = z_80.toInt := i_eq c_81 rfl rfl
          refine lv_aload_n hx hb dX7_isSafe_83 rfl (lv_at hl 2 rfl) ?_
          refine lv_iload_n hx hb dX7_isSafe_84 rfl (lv_at hl 3 rfl) ?_
          refine lv_iconst (v := 0) hx hb dX7_isSafe_85 (by decide) ?_
          obtain ⟨v_83, e_v_83, r_v_83, n_v_83⟩ := f_8_43 hI r_79
          obtain ⟨v_84, e_v_84, r_v_84, n_v_84⟩ := f_8_46 hI r_79
          refine t_callV (n := 2) (As := [.int n, .int 0]) (rest := []) (ci := 7) hB hT hl.1 (m_rowCall l D cI cZ cS cR N0 g1_b_78 hI h n 0 to1_b_78 v_83 v_84 r_79 r_v_83 n_v_83 r_v_84 n_v_84 kp1_b_78 kp0_b_78 e_v_83 e_v_84 (by have q0 : (0 : Int32).toInt = 0 := (by decide); omega) (by have q0 : (0 : Int32).toInt = 0 := (by decide); omega) (by have q0 : (0 : Int32).toInt = 0 := (by decide); omega) (by have q0 : (0 : Int32).toInt = 0 := (by decide); omega) (hw.mono hM hE r_h (by decide) (by decide) rfl rfl rfl rfl)) (ro_ci r_79 rfl) rfl k_1111 k_65 k_1108 k_1110 k_46 (by decide +kernel) ⟨(Nat.le_of_ble_eq_true rfl), (Nat.le_of_ble_eq_true rfl)⟩ rfl (Nat.le_of_ble_eq_true rfl) ⟨(Nat.le_of_ble_eq_true rfl), (Nat.le_of_ble_eq_true rfl)⟩ dX7_isSafe_86 (fun v g_85 H locs hp hT => ?_)
          obtain ⟨r_86, t2_87, rfl, hI, x_92, m_91, f_88, f_89, f_90⟩ := hp
          have hM : Sm md_m_isSafe g g_85 := hM.tr hE (m_91.mo (fun r k h => mdle_m_isSafe_m_rowCall h))
          have hE : Ex g g_85 := hE.tr x_92
          have r_93 : g_85.1 h = 8 := (Ex.r x_92 r_79 (by decide))
          have r_94 : g_85.1 v_83 = 51 := (Ex.r x_92 r_v_83 (by decide))
          have r_95 : g_85.1 v_84 = 55 := (Ex.r x_92 r_v_84 (by decide))
          have n_96 : g_85.2.2.1 v_83 = 7 := (Ex.n x_92 r_v_83 (by decide) n_v_83)
          have n_97 : g_85.2.2.1 v_84 = 7 := (Ex.n x_92 r_v_84 (by decide) n_v_84)
          have kn_98 : g_85.2.1 h 21 = .int 1 := (Sm.v m_91 r_79 (by decide) rfl kp0_b_78)
          have kn_99 : g_85.2.1 h 43 = .ref v_83 := (Sm.v m_91 r_79 (by decide) rfl e_v_83)
          have kn_100 : g_85.2.1 h 46 = .ref v_84 := (Sm.v m_91 r_79 (by decide) rfl e_v_84)
          refine W.eq (g2 := F0 m 89 ls [.int r_86]) rfl ?_
          have qc_101 : (0 : Int32).toInt = 0 := (by decide)
          refine lv_istore (lv' := [(7, .int r_86), (4, .int li_b_78), (5, .int i), (0, .ref h), (1, .int n), (2, .int k), (3, .int j)]) hx hb dX7_isSafe_89 hl (by decide) rfl (fun ls hl => ?_)
          refine lv_iload hx hb dX7_isSafe_91 (lv_at hl 1 rfl) ?_
          refine lv_if_eq (tgt := 118) hx hb dX7_isSafe_93 (by decide) (fun c_102 => ?_) (fun c_102 => ?_)
          · have c_102' : li_b_78.toInt = 0 := i_eq c_102 rfl (by decide)
            refine lv_iconst (v := 0) hx hb dX7_isSafe_118 (by decide) ?_
            refine lv_istore (lv' := [(4, .int 0), (7, .int r_86), (5, .int i), (0, .ref h), (1, .int n), (2, .int k), (3, .int j)]) hx hb dX7_isSafe_119 hl (by decide) rfl (fun ls hl => ?_)
            obtain ⟨z_103, ez_103⟩ : ∃ z : Int32, z = i + 1 := ⟨_, rfl⟩
            have e_z_103 : z_103.toInt = i.toInt + 1 := i_add ez_103 rfl (by decide) (by omega) (by omega)
            refine lv_iinc (v := z_103) (lv' := [(5, .int z_103), (4, .int 0), (7, .int r_86), (0, .ref h), (1, .int n), (2, .int k), (3, .int j)]) hx hb dX7_isSafe_121 hl (k := 2) rfl (by rw [ez_103]; rfl) (by decide) rfl (fun ls hl => ?_)
            refine lv_goto (tgt := 10) hx hb dX7_isSafe_124 (by decide) ?_
            exact ih (kf - 1) (by omega) g_85 z_103 (0 : Int32) t2_87 H locs ls hT hI hE hM (by omega) (by omega) (by decide) (by decide) (by omega) (by omega) kn_98 f_89 (by have e0_ : (0 : Int32).toInt = 0 := (by decide); omega) (lv_sub hl [1, 0, 3, 4, 5, 6] rfl)
          · have c_102' : li_b_78.toInt ≠ 0 := i_ne c_102 rfl (by decide)
            refine lv_aload_n hx hb dX7_isSafe_96 rfl (lv_at hl 3 rfl) ?_
            obtain ⟨v_104, e_v_104, l_v_104, u_v_104⟩ := f_8_34 hI r_93
            refine t_get (ci := 7) (v := .int v_104) hB hT (ro_ci r_93 rfl) rfl 34 (by decide) k_779 e_v_104 dX7_isSafe_97 ?_
            refine lv_if_ne (tgt := 114) hx hb dX7_isSafe_100 (by decide) (fun c_105 => ?_) (fun c_105 => ?_)
            · have c_105' : v_104.toInt ≠ 0 := i_ne c_105 rfl (by decide)
              refine lv_iconst (v := 1) hx hb dX7_isSafe_114 (by decide) ?_
              refine lv_goto (tgt := 119) hx hb dX7_isSafe_115 (by decide) ?_
              refine lv_istore (lv' := [(4, .int 1), (7, .int r_86), (5, .int i), (0, .ref h), (1, .int n), (2, .int k), (3, .int j)]) hx hb dX7_isSafe_119 hl (by decide) rfl (fun ls hl => ?_)
              obtain ⟨z_106, ez_106⟩ : ∃ z : Int32, z = i + 1 := ⟨_, rfl⟩
              have e_z_106 : z_106.toInt = i.toInt + 1 := i_add ez_106 rfl (by decide) (by omega) (by omega)
              refine lv_iinc (v := z_106) (lv' := [(5, .int z_106), (4, .int 1), (7, .int r_86), (0, .ref h), (1, .int n), (2, .int k), (3, .int j)]) hx hb dX7_isSafe_121 hl (k := 2) rfl (by rw [ez_106]; rfl) (by decide) rfl (fun ls hl => ?_)
              refine lv_goto (tgt := 10) hx hb dX7_isSafe_124 (by decide) ?_
              exact ih (kf - 1) (by omega) g_85 z_106 (1 : Int32) t2_87 H locs ls hT hI hE hM (by omega) (by omega) (by decide) (by decide) (by omega) (by omega) kn_98 f_89 (by have e0_ : (0 : Int32).toInt = 0 := (by decide); have e1_ : (1 : Int32).toInt = 1 := (by decide); omega) (lv_sub hl [1, 0, 3, 4, 5, 6] rfl)
            · have c_105' : v_104.toInt = 0 := i_eq c_105 rfl (by decide)
              refine lv_iload hx hb dX7_isSafe_103 (lv_at hl 0 rfl) ?_
              refine lv_aload_n hx hb dX7_isSafe_105 rfl (lv_at hl 3 rfl) ?_
              obtain ⟨v_107, e_v_107, r_v_107, n_v_107⟩ := f_8_59 hI r_93
              refine t_get (ci := 7) (v := .ref v_107) hB hT (ro_ci r_93 rfl) rfl 59 (by decide) k_804 e_v_107 dX7_isSafe_106 ?_
              refine lv_iload_n hx hb dX7_isSafe_109 rfl (lv_at hl 4 rfl) ?_
              have i_u_108 : vp_in n 6 := (i_in (n := 6) rfl (by omega) (by omega))
              refine t_iald hB hT (ro_in r_v_107 (by decide)) n_v_107 i_u_108 rfl dX7_isSafe_110 ?_
              refine lv_topi (fun u_108 e_u_108 => ?_)
              refine lv_icmp_ne (tgt := 118) hx hb dX7_isSafe_111 (by decide) (fun c_109 => ?_) (fun c_109 => ?_)
              · have c_109' : r_86.toInt ≠ u_108.toInt := i_ne c_109 rfl rfl
                refine lv_iconst (v := 0) hx hb dX7_isSafe_118 (by decide) ?_
                refine lv_istore (lv' := [(4, .int 0), (7, .int r_86), (5, .int i), (0, .ref h), (1, .int n), (2, .int k), (3, .int j)]) hx hb dX7_isSafe_119 hl (by decide) rfl (fun ls hl => ?_)
                obtain ⟨z_110, ez_110⟩ : ∃ z : Int32, z = i + 1 := ⟨_, rfl⟩
                have e_z_110 : z_110.toInt = i.toInt + 1 := i_add ez_110 rfl (by decide) (by omega) (by omega)
                refine lv_iinc (v := z_110) (lv' := [(5, .int z_110), (4, .int 0), (7, .int r_86), (0, .ref h), (1, .int n), (2, .int k), (3, .int j)]) hx hb dX7_isSafe_121 hl (k := 2) rfl (by rw [ez_110]; rfl) (by decide) rfl (fun ls hl => ?_)
                refine lv_goto (tgt := 10) hx hb dX7_isSafe_124 (by decide) ?_
                exact ih (kf - 1) (by omega) g_85 z_110 (0 : Int32) t2_87 H locs ls hT hI hE hM (by omega) (by omega) (by decide) (by decide) (by omega) (by omega) kn_98 f_89 (by have e0_ : (0 : Int32).toInt = 0 := (by decide); omega) (lv_sub hl [1, 0, 3, 4, 5, 6] rfl)
              · have c_109' : r_86.toInt = u_108.toInt := i_eq c_109 rfl rfl
                refine lv_iconst (v := 1) hx hb dX7_isSafe_114 (by decide) ?_
                refine lv_goto (tgt := 119) hx hb dX7_isSafe_115 (by decide) ?_
                refine lv_istore (lv' := [(4, .int 1), (7, .int r_86), (5, .int i), (0, .ref h), (1, .int n), (2, .int k), (3, .int j)]) hx hb dX7_isSafe_119 hl (by decide) rfl (fun ls hl => ?_)
                obtain ⟨z_111, ez_111⟩ : ∃ z : Int32, z = i + 1 := ⟨_, rfl⟩
                have e_z_111 : z_111.toInt = i.toInt + 1 := i_add ez_111 rfl (by decide) (by omega) (by omega)
                refine lv_iinc (v := z_111) (lv' := [(5, .int z_111), (4, .int 1), (7, .int r_86), (0, .ref h), (1, .int n), (2, .int k), (3, .int j)]) hx hb dX7_isSafe_121 hl (k := 2) rfl (by rw [ez_111]; rfl) (by decide) rfl (fun ls hl => ?_)
                refine lv_goto (tgt := 10) hx hb dX7_isSafe_124 (by decide) ?_
                exact ih (kf - 1) (by omega) g_85 z_111 (1 : Int32) t2_87 H locs ls hT hI hE hM (by omega) (by omega) (by decide) (by decide) (by omega) (by omega) kn_98 f_89 (by have e0_ : (0 : Int32).toInt = 0 := (by decide); have e1_ : (1 : Int32).toInt = 1 := (by decide); omega) (lv_sub hl [1, 0, 3, 4, 5, 6] rfl)
set_option maxHeartbeats 4000000 in
set_option maxRecDepth 100000 in
theorem m_isSafe (l : Launch) (D : va_G) (cI cZ cS cR : ClassId) (N0 : NT) (g : GS) (hI : Inv g) (h : Nat) (n : Int32) (k : Int32) (j : Int32) (r_h : g.1 h = 8) (l_n : 0 ≤ n.toInt) (u_n : n.toInt ≤ 5) (hw : PX 48 2 3 71 72 g h) : Ty l D cI cZ cS cR N0 yX7_isSafe cX7_isSafe 8 (some .boolean) 7 0 0 [.ref h, .int n, .int k, .int j] g (fun v g' => ∃ (r : Int32), v = some (.int r) ∧ Inv g' ∧ Ex g g' ∧ Sm md_m_isSafe g g' ∧ (r = 1 ∨ r = 0)) := by
  refine t_enter (by decide) (Nat.le_of_ble_eq_true rfl) ?_
  intro p e s m args below meth c ls H locs hB hr hin hl hT
  have hx := hB.1
  have hb := hB.2.1
  have hl : lv_has ls 8 [(0, .ref h), (1, .int n), (2, .int k), (3, .int j)] := hl
  have hE : Ex g g := Ex.rf
  have hM : Sm md_m_isSafe g g := Sm.rf
  refine lv_aload_n hx hb dX7_isSafe_0 rfl (lv_at hl 0 rfl) ?_
  refine t_callV (n := 0) (As := []) (rest := []) (ci := 7) hB hT hl.1 (m_tries l D cI cZ cS cR N0 g hI h r_h) (ro_ci r_h rfl) rfl k_1107 k_65 k_1104 k_1106 k_45 (by decide +kernel) ⟨(Nat.le_of_ble_eq_true rfl), (Nat.le_of_ble_eq_true rfl)⟩ rfl (Nat.le_of_ble_eq_true rfl) ⟨(Nat.le_of_ble_eq_true rfl), (Nat.le_of_ble_eq_true rfl)⟩ dX7_isSafe_1 (fun v g_1 H locs hp hT => ?_)
  obtain ⟨rfl, hI, x_5, m_4, f_2, f_3⟩ := hp
  have hM : Sm md_m_isSafe g g_1 := hM.tr hE (m_4.mo (fun r k h => mdle_m_isSafe_m_tries h))
  have hE : Ex g g_1 := hE.tr x_5
  have r_6 : g_1.1 h = 8 := (Ex.r x_5 r_h (by decide))
  refine W.eq (g2 := F0 m 4 ls []) rfl ?_
  refine lv_iconst (v := 1) hx hb dX7_isSafe_4 (by decide) ?_
  refine lv_istore (lv' := [(4, .int 1), (0, .ref h), (1, .int n), (2, .int k), (3, .int j)]) hx hb dX7_isSafe_5 hl (by decide) rfl (fun ls hl => ?_)
  refine lv_iconst (v := 0) hx hb dX7_isSafe_7 (by decide) ?_
  refine lv_istore (lv' := [(5, .int 0), (4, .int 1), (0, .ref h), (1, .int n), (2, .int k), (3, .int j)]) hx hb dX7_isSafe_8 hl (by decide) rfl (fun ls hl => ?_)
  exact lt_m_isSafe_a l D cI cZ cS cR N0 g h n k j r_h l_n u_n hw hB hr   6 g_1 (0 : Int32) (1 : Int32) (0 : Int32) H locs ls hT hI hE hM (by decide) (by decide) (by decide) (by decide) (by decide) (by decide) f_2 f_3 (by have e0_ : (0 : Int32).toInt = 0 := (by decide); have e1_ : (1 : Int32).toInt = 1 := (by decide); omega) (lv_sub hl [1, 0, 2, 3, 4, 5] rfl)
abbrev md_m_worstOf : Nat → Nat → Bool := mdf [(8, 21), (8, 49), (8, 50), (8, 51), (8, 52), (8, 60), (40, 99), (50, 99), (51, 99), (54, 99), (55, 99), (56, 99), (58, 99)]
theorem mdle_m_worstOf_m_isSafe {r k : Nat} (h : md_m_worstOf r k = false) : md_m_isSafe r k = false := mdf_le (by decide +kernel) h
theorem mdle_m_worstOf_m_once {r k : Nat} (h : md_m_worstOf r k = false) : md_m_once r k = false := mdf_le (by decide +kernel) h
set_option maxHeartbeats 4000000 in
set_option maxRecDepth 100000 in
theorem lt_m_worstOf_c (l : Launch) (D : va_G) (cI cZ cS cR : ClassId) (N0 : NT) (g : GS) (h : Nat) (r_h : g.1 h = 8) (hw : PX 48 2 3 71 72 g h) {p : Program} {e : Env} {s : State} {m : MethodId} {args : Array Value} {below : List Frame} {meth : Method} {c : Code} (hB : Tz p s m meth c args cX7_worstOf 4 RX7 D cI cZ cS cR N0) (hr : meth.sig.returnType = (some .int)) (gp : Int32) (pl1 : Int32) (l_gp : 0 ≤ gp.toInt) (u_gp : gp.toInt ≤ 5) (l_pl1 : 0 ≤ pl1.toInt) (u_pl1 : pl1.toInt ≤ 5) (K : ∀ (g1 : GS)   (H : Heap) (locs : List Loc) (ls : Array Slot), Tv D cI cZ cS cR N0 s.heap H locs g1 → Inv g1 → Ex g g1 → Sm md_m_worstOf g g1 → lv_has ls 4 [(2, .int gp), (1, .int pl1), (0, .ref h)] → W p l e (rmx 8 0 0) s m args below meth c H locs 0 0 (MQ below (tQ D cI cZ cS cR N0 (fun v g' => ∃ (r : Int32), v = some (.int r) ∧ Inv g' ∧ Ex g g' ∧ Sm md_m_worstOf g g')) args s 0 0 (fun q => N0.1 ≤ q)) (F0 m 62 ls [])) : ∀ (kf : Nat) (g1 : GS) (f : Int32)  (H : Heap) (locs : List Loc) (ls : Array Slot), Tv D cI cZ cS cR N0 s.heap H locs g1 → Inv g1 → Ex g g1 → Sm md_m_worstOf g g1 → 0 ≤ f.toInt → f.toInt ≤ 6 → (6 ≤ f.toInt + kf) → lv_has ls 4 [(3, .int f), (2, .int gp), (1, .int pl1), (0, .ref h)] → W p l e (rmx 8 0 0) s m args below meth c H locs 0 0 (MQ below (tQ D cI cZ cS cR N0 (fun v g' => ∃ (r : Int32), v = some (.int r) ∧ Inv g' ∧ Ex g g' ∧ Sm md_m_worstOf g g')) args s 0 0 (fun q => N0.1 ≤ q)) (F0 m 28 ls []) := by
  have hx := hB.1
  have hb := hB.2.1
  intro kf
  induction kf using Nat.strongRecOn with
  | ind kf ih =>
    intro g1 f H locs ls hT hI hE hM l_f u_f hk hl
    have r_1 : g1.1 h = 8 := Ex.r hE r_h (by decide)
    refine lv_iload_n hx hb dX7_worstOf_28 rfl (lv_at hl 0 rfl) ?_
    refine lv_iconst (v := 5) hx hb dX7_worstOf_29 (by decide) ?_
    refine lv_icmp_gt (tgt := 62) hx hb dX7_worstOf_30 (by decide) (fun c_2 => ?_) (fun c_2 => ?_)
    · have c_2' : 5 < f.toInt := i_lt c_2 (by decide) rfl
      exact K g1 H locs ls hT hI hE hM (lv_sub hl [1, 2, 3] rfl)
    · have c_2' : f.toInt ≤ 5 := i_nlt c_2 (by decide) rfl
      refine lv_aload_n hx hb dX7_worstOf_33 rfl (lv_at hl 3 rfl) ?_
      refine lv_iload_n hx hb dX7_worstOf_34 rfl (lv_at hl 2 rfl) ?_
      refine lv_iload_n hx hb dX7_worstOf_35 rfl (lv_at hl 1 rfl) ?_
      refine lv_iload_n hx hb dX7_worstOf_36 rfl (lv_at hl 0 rfl) ?_
      refine t_callV (n := 3) (As := [.int pl1, .int gp, .int f]) (rest := []) (ci := 7) hB hT hl.1 (m_isSafe l D cI cZ cS cR N0 g1 hI h pl1 gp f r_1 (by omega) (by omega) (hw.mono hM hE r_h (by decide) (by decide) rfl rfl rfl rfl)) (ro_ci r_1 rfl) rfl k_1115 k_65 k_1112 k_1114 k_47 (by decide +kernel) ⟨(Nat.le_of_ble_eq_true rfl), (Nat.le_of_ble_eq_true rfl)⟩ rfl (Nat.le_of_ble_eq_true rfl) ⟨(Nat.le_of_ble_eq_true rfl), (Nat.le_of_ble_eq_true rfl)⟩ dX7_worstOf_37 (fun v g_3 H locs hp hT => ?_)
      obtain ⟨r_4, rfl, hI, x_7, m_6, f_5⟩ := hp
      have hM : Sm md_m_worstOf g g_3 := hM.tr hE (m_6.mo (fun r k h => mdle_m_worstOf_m_isSafe h))
      have hE : Ex g g_3 := hE.tr x_7
      have r_8 : g_3.1 h = 8 := (Ex.r x_7 r_1 (by decide))
      refine W.eq (g2 := F0 m 40 ls [.int r_4]) rfl ?_
      rcases f_5 with rfl | rfl
      · refine W.eq (g2 := F0 m 40 ls [.int 1]) rfl ?_
        refine lv_if_ne (tgt := 56) hx hb dX7_worstOf_40 (by decide) (fun c_ => ?_) (fun c_ => absurd c_ (by decide))
        obtain ⟨z_9, ez_9⟩ : ∃ z : Int32, z = f + 1 := ⟨_, rfl⟩
        have e_z_9 : z_9.toInt = f.toInt + 1 := i_add ez_9 rfl (by decide) (by omega) (by omega)
        refine lv_iinc (v := z_9) (lv' := [(3, .int z_9), (2, .int gp), (1, .int pl1), (0, .ref h)]) hx hb dX7_worstOf_56 hl (k := 0) rfl (by rw [ez_9]; rfl) (by decide) rfl (fun ls hl => ?_)
        refine lv_goto (tgt := 28) hx hb dX7_worstOf_59 (by decide) ?_
        exact ih (kf - 1) (by omega) g_3 z_9 H locs ls hT hI hE hM (by omega) (by omega) (by have e0_ : (0 : Int32).toInt = 0 := (by decide); omega) (lv_sub hl [0, 1, 2, 3] rfl)
      · refine W.eq (g2 := F0 m 40 ls [.int 0]) rfl ?_
        refine lv_if_ne (tgt := 56) hx hb dX7_worstOf_40 (by decide) (fun c_ => absurd (by decide) c_) (fun c_ => ?_)
        refine lv_sipush (v := 1000) hx hb dX7_worstOf_43 (by decide) ?_
        refine lv_iload_n hx hb dX7_worstOf_46 rfl (lv_at hl 2 rfl) ?_
        refine lv_imul hx hb dX7_worstOf_47 ?_
        refine lv_topi (fun z_10 ez_10 => ?_)
        have e_z_10 : z_10.toInt = 1000 * pl1.toInt := i_mul ez_10 (by decide) rfl (by omega) (by omega)
        refine lv_bipush (v := 100) hx hb dX7_worstOf_48 (by decide) ?_
        refine lv_iload_n hx hb dX7_worstOf_50 rfl (lv_at hl 1 rfl) ?_
        refine lv_imul hx hb dX7_worstOf_51 ?_
        refine lv_topi (fun z_11 ez_11 => ?_)
        have e_z_11 : z_11.toInt = 100 * gp.toInt := i_mul ez_11 (by decide) rfl (by omega) (by omega)
        refine lv_iadd hx hb dX7_worstOf_52 ?_
        refine lv_topi (fun z_12 ez_12 => ?_)
        have e_z_12 : z_12.toInt = z_10.toInt + z_11.toInt := i_add ez_12 rfl rfl (by omega) (by omega)
        refine lv_iload_n hx hb dX7_worstOf_53 rfl (lv_at hl 0 rfl) ?_
        refine lv_iadd hx hb dX7_worstOf_54 ?_
        refine lv_topi (fun z_13 ez_13 => ?_)
        have e_z_13 : z_13.toInt = z_12.toInt + f.toInt := i_add ez_13 rfl rfl (by omega) (by omega)
        exact t_iret hB hr hT (Nat.le_of_ble_eq_true rfl) (Nat.le_of_ble_eq_true rfl) dX7_worstOf_55 ⟨z_13, rfl, hI, hE, hM⟩
set_option maxHeartbeats 4000000 in
set_option maxRecDepth 100000 in
theorem lt_m_worstOf_b (l : Launch) (D : va_G) (cI cZ cS cR : ClassId) (N0 : NT) (g : GS) (h : Nat) (r_h : g.1 h = 8) (hw : PX 48 2 3 71 72 g h) {p : Program} {e : Env} {s : State} {m : MethodId} {args : Array Value} {below : List Frame} {meth : Method} {c : Code} (hB : Tz p s m meth c args cX7_worstOf 4 RX7 D cI cZ cS cR N0) (hr : meth.sig.returnType = (some .int)) (pl1 : Int32) (l_pl1 : 0 ≤ pl1.toInt) (u_pl1 : pl1.toInt ≤ 5) (K : ∀ (g1 : GS)   (H : Heap) (locs : List Loc) (ls : Array Slot), Tv D cI cZ cS cR N0 s.heap H locs g1 → Inv g1 → Ex g g1 → Sm md_m_worstOf g g1 → lv_has ls 4 [(1, .int pl1), (0, .ref h)] → W p l e (rmx 8 0 0) s m args below meth c H locs 0 0 (MQ below (tQ D cI cZ cS cR N0 (fun v g' => ∃ (r : Int32), v = some (.int r) ∧ Inv g' ∧ Ex g g' ∧ Sm md_m_worstOf g g')) args s 0 0 (fun q => N0.1 ≤ q)) (F0 m 68 ls [])) : ∀ (kf : Nat) (g1 : GS) (gp : Int32)  (H : Heap) (locs : List Loc) (ls : Array Slot), Tv D cI cZ cS cR N0 s.heap H locs g1 → Inv g1 → Ex g g1 → Sm md_m_worstOf g g1 → 0 ≤ gp.toInt → gp.toInt ≤ 6 → (6 ≤ gp.toInt + kf) → lv_has ls 4 [(2, .int gp), (1, .int pl1), (0, .ref h)] → W p l e (rmx 8 0 0) s m args below meth c H locs 0 0 (MQ below (tQ D cI cZ cS cR N0 (fun v g' => ∃ (r : Int32), v = some (.int r) ∧ Inv g' ∧ Ex g g' ∧ Sm md_m_worstOf g g')) args s 0 0 (fun q => N0.1 ≤ q)) (F0 m 16 ls []) := by
  have hx := hB.1
  have hb := hB.2.1
  intro kf
  induction kf using Nat.strongRecOn with
  | ind kf ih =>
    intro g1 gp H locs ls hT hI hE hM l_gp u_gp hk hl
    have r_1 : g1.1 h = 8 := Ex.r hE r_h (by decide)
    refine lv_iload_n hx hb dX7_worstOf_16 rfl (lv_at hl 0 rfl) ?_
    refine lv_aload_n hx hb dX7_worstOf_17 rfl (lv_at hl 2 rfl) ?_
    obtain ⟨v_2, e_v_2, l_v_2, u_v_2⟩ := f_8_30 hI r_1
    refine t_get (ci := 7) (v := .int v_2) hB hT (ro_ci r_1 rfl) rfl 30 (by decide) k_775 e_v_2 dX7_worstOf_18 ?_
    refine lv_iload_n hx hb dX7_worstOf_21 rfl (lv_at hl 1 rfl) ?_
    refine lv_isub hx hb dX7_worstOf_22 ?_
    refine lv_topi (fun z_3 ez_3 => ?_)
    have e_z_3 : z_3.toInt = v_2.toInt - pl1.toInt := i_sub ez_3 rfl rfl (by omega) (by omega)
    refine lv_icmp_ge (tgt := 68) hx hb dX7_worstOf_23 (by decide) (fun c_4 => ?_) (fun c_4 => ?_)
    · have c_4' : z_3.toInt ≤ gp.toInt := i_le c_4 rfl rfl
      exact K g1 H locs ls hT hI hE hM (lv_sub hl [1, 2] rfl)
    · have c_4' : gp.toInt < z_3.toInt := i_nle c_4 rfl rfl
      refine lv_iconst (v := 0) hx hb dX7_worstOf_26 (by decide) ?_
      refine lv_istore_n (lv' := [(3, .int 0), (2, .int gp), (1, .int pl1), (0, .ref h)]) hx hb dX7_worstOf_27 rfl hl (by decide) rfl (fun ls hl => ?_)
      refine lt_m_worstOf_c l D cI cZ cS cR N0 g h r_h hw hB hr gp pl1 (by omega) (by omega) (by omega) (by omega) (fun g1_b_5 H locs ls hT hI hE hM hl => ?_) 6 g1 (0 : Int32) H locs ls hT hI hE hM (by decide) (by decide) (by have e0_ : (0 : Int32).toInt = 0 := (by decide); omega) (lv_sub hl [0, 1, 2, 3] rfl)
      have r_6 : g1_b_5.1 h = 8 := Ex.r hE r_h (by decide)
      obtain ⟨z_7, ez_7⟩ : ∃ z : Int32, z = gp + 1 := ⟨_, rfl⟩
      have e_z_7 : z_7.toInt = gp.toInt + 1 := i_add ez_7 rfl (by decide) (by omega) (by omega)
      refine lv_iinc (v := z_7) (lv' := [(2, .int z_7), (1, .int pl1), (0, .ref h)]) hx hb dX7_worstOf_62 hl (k := 0) rfl (by rw [ez_7]; rfl) (by decide) rfl (fun ls hl => ?_)
      refine lv_goto (tgt := 16) hx hb dX7_worstOf_65 (by decide) ?_
      exact ih (kf - 1) (by omega) g1_b_5 z_7 H locs ls hT hI hE hM (by omega) (by omega) (by have e0_ : (0 : Int32).toInt = 0 := (by decide); omega) (lv_sub hl [0, 1, 2] rfl)
set_option maxHeartbeats 4000000 in
set_option maxRecDepth 100000 in
theorem lt_m_worstOf_a (l : Launch) (D : va_G) (cI cZ cS cR : ClassId) (N0 : NT) (g : GS) (h : Nat) (r_h : g.1 h = 8) (hw : PX 48 2 3 71 72 g h) {p : Program} {e : Env} {s : State} {m : MethodId} {args : Array Value} {below : List Frame} {meth : Method} {c : Code} (hB : Tz p s m meth c args cX7_worstOf 4 RX7 D cI cZ cS cR N0) (hr : meth.sig.returnType = (some .int))    : ∀ (kf : Nat) (g1 : GS) (pl1 : Int32)  (H : Heap) (locs : List Loc) (ls : Array Slot), Tv D cI cZ cS cR N0 s.heap H locs g1 → Inv g1 → Ex g g1 → Sm md_m_worstOf g g1 → 0 ≤ pl1.toInt → pl1.toInt ≤ 6 → (6 ≤ pl1.toInt + kf) → lv_has ls 4 [(1, .int pl1), (0, .ref h)] → W p l e (rmx 8 0 0) s m args below meth c H locs 0 0 (MQ below (tQ D cI cZ cS cR N0 (fun v g' => ∃ (r : Int32), v = some (.int r) ∧ Inv g' ∧ Ex g g' ∧ Sm md_m_worstOf g g')) args s 0 0 (fun q => N0.1 ≤ q)) (F0 m 6 ls []) := by
  have hx := hB.1
  have hb := hB.2.1
  intro kf
  induction kf using Nat.strongRecOn with
  | ind kf ih =>
    intro g1 pl1 H locs ls hT hI hE hM l_pl1 u_pl1 hk hl
    have r_1 : g1.1 h = 8 := Ex.r hE r_h (by decide)
    refine lv_iload_n hx hb dX7_worstOf_6 rfl (lv_at hl 0 rfl) ?_
    refine lv_aload_n hx hb dX7_worstOf_7 rfl (lv_at hl 1 rfl) ?_
    obtain ⟨v_2, e_v_2, l_v_2, u_v_2⟩ := f_8_30 hI r_1
    refine t_get (ci := 7) (v := .int v_2) hB hT (ro_ci r_1 rfl) rfl 30 (by decide) k_775 e_v_2 dX7_worstOf_8 ?_
    refine lv_icmp_ge (tgt := 74) hx hb dX7_worstOf_11 (by decide) (fun c_3 => ?_) (fun c_3 => ?_)
    · have c_3' : v_2.toInt ≤ pl1.toInt := i_le c_3 rfl rfl
      refine lv_iconst (v := (-1)) hx hb dX7_worstOf_74 (by decide) ?_
      exact t_iret hB hr hT (Nat.le_of_ble_eq_true rfl) (Nat.le_of_ble_eq_true rfl) dX7_worstOf_75 ⟨(-1), rfl, hI, hE, hM⟩
    · have c_3' : pl1.toInt < v_2.toInt := i_nle c_3 rfl rfl
      refine lv_iconst (v := 0) hx hb dX7_worstOf_14 (by decide) ?_
      refine lv_istore_n (lv' := [(2, .int 0), (1, .int pl1), (0, .ref h)]) hx hb dX7_worstOf_15 rfl hl (by decide) rfl (fun ls hl => ?_)
      refine lt_m_worstOf_b l D cI cZ cS cR N0 g h r_h hw hB hr pl1 (by omega) (by omega) (fun g1_b_4 H locs ls hT hI hE hM hl => ?_) 6 g1 (0 : Int32) H locs ls hT hI hE hM (by decide) (by decide) (by have e0_ : (0 : Int32).toInt = 0 := (by decide); omega) (lv_sub hl [0, 1, 2] rfl)
      have r_5 : g1_b_4.1 h = 8 := Ex.r hE r_h (by decide)
      obtain ⟨z_6, ez_6⟩ : ∃ z : Int32, z = pl1 + 1 := ⟨_, rfl⟩
      have e_z_6 : z_6.toInt = pl1.toInt + 1 := i_add ez_6 rfl (by decide) (by omega) (by omega)
      refine lv_iinc (v := z_6) (lv' := [(1, .int z_6), (0, .ref h)]) hx hb dX7_worstOf_68 hl (k := 0) rfl (by rw [ez_6]; rfl) (by decide) rfl (fun ls hl => ?_)
      refine lv_goto (tgt := 6) hx hb dX7_worstOf_71 (by decide) ?_
      exact ih (kf - 1) (by omega) g1_b_4 z_6 H locs ls hT hI hE hM (by omega) (by omega) (by have e0_ : (0 : Int32).toInt = 0 := (by decide); omega) (lv_sub hl [0, 1] rfl)
set_option maxHeartbeats 4000000 in
set_option maxRecDepth 100000 in
theorem m_worstOf (l : Launch) (D : va_G) (cI cZ cS cR : ClassId) (N0 : NT) (g : GS) (hI : Inv g) (h : Nat) (r_h : g.1 h = 8) (hw : PX 48 2 3 71 72 g h) : Ty l D cI cZ cS cR N0 yX7_worstOf cX7_worstOf 4 (some .int) 8 0 0 [.ref h] g (fun v g' => ∃ (r : Int32), v = some (.int r) ∧ Inv g' ∧ Ex g g' ∧ Sm md_m_worstOf g g') := by
  refine t_enter (by decide) (Nat.le_of_ble_eq_true rfl) ?_
  intro p e s m args below meth c ls H locs hB hr hin hl hT
  have hx := hB.1
  have hb := hB.2.1
  have hl : lv_has ls 4 [(0, .ref h)] := hl
  have hE : Ex g g := Ex.rf
  have hM : Sm md_m_worstOf g g := Sm.rf
  refine lv_aload_n hx hb dX7_worstOf_0 rfl (lv_at hl 0 rfl) ?_
  refine t_callV (n := 0) (As := []) (rest := []) (ci := 7) hB hT hl.1 (m_once l D cI cZ cS cR N0 g hI h r_h hw) (ro_ci r_h rfl) rfl k_1103 k_65 k_1100 k_1102 k_44 (by decide +kernel) ⟨(Nat.le_of_ble_eq_true rfl), (Nat.le_of_ble_eq_true rfl)⟩ rfl (Nat.le_of_ble_eq_true rfl) ⟨(Nat.le_of_ble_eq_true rfl), (Nat.le_of_ble_eq_true rfl)⟩ dX7_worstOf_1 (fun v g_1 H locs hp hT => ?_)
  obtain ⟨rfl, hI, x_3, m_2⟩ := hp
  have hM : Sm md_m_worstOf g g_1 := hM.tr hE (m_2.mo (fun r k h => mdle_m_worstOf_m_once h))
  have hE : Ex g g_1 := hE.tr x_3
  have r_4 : g_1.1 h = 8 := (Ex.r x_3 r_h (by decide))
  refine W.eq (g2 := F0 m 4 ls []) rfl ?_
  refine lv_iconst (v := 0) hx hb dX7_worstOf_4 (by decide) ?_
  refine lv_istore_n (lv' := [(1, .int 0), (0, .ref h)]) hx hb dX7_worstOf_5 rfl hl (by decide) rfl (fun ls hl => ?_)
  exact lt_m_worstOf_a l D cI cZ cS cR N0 g h r_h hw hB hr   6 g_1 (0 : Int32) H locs ls hT hI hE hM (by decide) (by decide) (by have e0_ : (0 : Int32).toInt = 0 := (by decide); omega) (lv_sub hl [0, 1] rfl)
