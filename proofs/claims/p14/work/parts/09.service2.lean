theorem k_70 : Cond.initialized RJ10 ∈ tb := mt 70 (by decide +kernel) rfl
theorem k_243 : Cond.fieldLink RX0 19 "TwiceOnce$CallList" "services" "[I" ∈ tb := mt 243 (by decide +kernel) rfl
theorem k_247 : Cond.fieldLink RX0 23 "TwiceOnce$CallList" "xs" "[I" ∈ tb := mt 247 (by decide +kernel) rfl
theorem k_250 : Cond.fieldLink RX0 26 "TwiceOnce$CallList" "keys" "[I" ∈ tb := mt 250 (by decide +kernel) rfl
theorem k_253 : Cond.fieldLink RX0 7 "TwiceOnce$CallList" "size" "I" ∈ tb := mt 253 (by decide +kernel) rfl
theorem k_494 : Cond.methodLink RX0 32 arraycopyName ∈ tb := mt 494 (by decide +kernel) rfl
theorem k_495 : Cond.static arraycopyName ∈ tb := mt 495 (by decide +kernel) rfl
theorem k_496 : Cond.native arraycopyName ∈ tb := mt 496 (by decide +kernel) rfl
theorem k_525 : Cond.methodLink RX3 63 arraycopyName ∈ tb := mt 525 (by decide +kernel) rfl
theorem dX3_keep_0 : decode cX3_keep 0 = .ok (.aload_n 0, 1) := by decide +kernel
theorem dX3_keep_1 : decode cX3_keep 1 = .ok (.getfield 32, 3) := by decide +kernel
theorem dX3_keep_4 : decode cX3_keep 4 = .ok (.bipush 16, 2) := by decide +kernel
theorem dX3_keep_6 : decode cX3_keep 6 = .ok (.if_icmp .ne 81, 3) := by decide +kernel
theorem dX3_keep_87 : decode cX3_keep 87 = .ok (.aload_n 0, 1) := by decide +kernel
theorem dX3_keep_88 : decode cX3_keep 88 = .ok (.getfield 35, 3) := by decide +kernel
theorem dX3_keep_91 : decode cX3_keep 91 = .ok (.aload_n 0, 1) := by decide +kernel
theorem dX3_keep_92 : decode cX3_keep 92 = .ok (.getfield 32, 3) := by decide +kernel
theorem dX3_keep_95 : decode cX3_keep 95 = .ok (.iload_n 1, 1) := by decide +kernel
theorem dX3_keep_96 : decode cX3_keep 96 = .ok (.iastore, 1) := by decide +kernel
theorem dX3_keep_97 : decode cX3_keep 97 = .ok (.aload_n 0, 1) := by decide +kernel
theorem dX3_keep_98 : decode cX3_keep 98 = .ok (.getfield 38, 3) := by decide +kernel
theorem dX3_keep_101 : decode cX3_keep 101 = .ok (.aload_n 0, 1) := by decide +kernel
theorem dX3_keep_102 : decode cX3_keep 102 = .ok (.getfield 32, 3) := by decide +kernel
theorem dX3_keep_105 : decode cX3_keep 105 = .ok (.iload_n 2, 1) := by decide +kernel
theorem dX3_keep_106 : decode cX3_keep 106 = .ok (.iastore, 1) := by decide +kernel
theorem dX3_keep_107 : decode cX3_keep 107 = .ok (.aload_n 0, 1) := by decide +kernel
theorem dX3_keep_108 : decode cX3_keep 108 = .ok (.getfield 41, 3) := by decide +kernel
theorem dX3_keep_111 : decode cX3_keep 111 = .ok (.aload_n 0, 1) := by decide +kernel
theorem dX3_keep_112 : decode cX3_keep 112 = .ok (.getfield 32, 3) := by decide +kernel
theorem dX3_keep_115 : decode cX3_keep 115 = .ok (.iload_n 3, 1) := by decide +kernel
theorem dX3_keep_116 : decode cX3_keep 116 = .ok (.iastore, 1) := by decide +kernel
theorem dX3_keep_117 : decode cX3_keep 117 = .ok (.aload_n 0, 1) := by decide +kernel
theorem dX3_keep_118 : decode cX3_keep 118 = .ok (.getfield 44, 3) := by decide +kernel
theorem dX3_keep_121 : decode cX3_keep 121 = .ok (.aload_n 0, 1) := by decide +kernel
theorem dX3_keep_122 : decode cX3_keep 122 = .ok (.getfield 32, 3) := by decide +kernel
theorem dX3_keep_125 : decode cX3_keep 125 = .ok (.iload 4, 2) := by decide +kernel
theorem dX3_keep_127 : decode cX3_keep 127 = .ok (.iastore, 1) := by decide +kernel
theorem dX3_keep_128 : decode cX3_keep 128 = .ok (.aload_n 0, 1) := by decide +kernel
theorem dX3_keep_129 : decode cX3_keep 129 = .ok (.dup, 1) := by decide +kernel
theorem dX3_keep_130 : decode cX3_keep 130 = .ok (.getfield 32, 3) := by decide +kernel
theorem dX3_keep_133 : decode cX3_keep 133 = .ok (.iconst 1, 1) := by decide +kernel
theorem dX3_keep_134 : decode cX3_keep 134 = .ok (.iadd, 1) := by decide +kernel
theorem dX3_keep_135 : decode cX3_keep 135 = .ok (.putfield 32, 3) := by decide +kernel
theorem dX3_keep_138 : decode cX3_keep 138 = .ok (.return_, 1) := by decide +kernel
theorem dX3_keep_9 : decode cX3_keep 9 = .ok (.aload_n 0, 1) := by decide +kernel
theorem dX3_keep_10 : decode cX3_keep 10 = .ok (.dup, 1) := by decide +kernel
theorem dX3_keep_11 : decode cX3_keep 11 = .ok (.getfield 32, 3) := by decide +kernel
theorem dX3_keep_14 : decode cX3_keep 14 = .ok (.iconst 1, 1) := by decide +kernel
theorem dX3_keep_15 : decode cX3_keep 15 = .ok (.isub, 1) := by decide +kernel
theorem dX3_keep_16 : decode cX3_keep 16 = .ok (.putfield 32, 3) := by decide +kernel
theorem dX3_keep_19 : decode cX3_keep 19 = .ok (.aload_n 0, 1) := by decide +kernel
theorem dX3_keep_20 : decode cX3_keep 20 = .ok (.getfield 35, 3) := by decide +kernel
theorem dX3_keep_23 : decode cX3_keep 23 = .ok (.iconst 1, 1) := by decide +kernel
theorem dX3_keep_24 : decode cX3_keep 24 = .ok (.aload_n 0, 1) := by decide +kernel
theorem dX3_keep_25 : decode cX3_keep 25 = .ok (.getfield 35, 3) := by decide +kernel
theorem dX3_keep_28 : decode cX3_keep 28 = .ok (.iconst 0, 1) := by decide +kernel
theorem dX3_keep_29 : decode cX3_keep 29 = .ok (.aload_n 0, 1) := by decide +kernel
theorem dX3_keep_30 : decode cX3_keep 30 = .ok (.getfield 32, 3) := by decide +kernel
theorem dX3_keep_33 : decode cX3_keep 33 = .ok (.invokestatic 63, 3) := by decide +kernel
theorem dX3_keep_36 : decode cX3_keep 36 = .ok (.aload_n 0, 1) := by decide +kernel
theorem dX3_keep_37 : decode cX3_keep 37 = .ok (.getfield 38, 3) := by decide +kernel
theorem dX3_keep_40 : decode cX3_keep 40 = .ok (.iconst 1, 1) := by decide +kernel
theorem dX3_keep_41 : decode cX3_keep 41 = .ok (.aload_n 0, 1) := by decide +kernel
theorem dX3_keep_42 : decode cX3_keep 42 = .ok (.getfield 38, 3) := by decide +kernel
theorem dX3_keep_45 : decode cX3_keep 45 = .ok (.iconst 0, 1) := by decide +kernel
theorem dX3_keep_46 : decode cX3_keep 46 = .ok (.aload_n 0, 1) := by decide +kernel
theorem dX3_keep_47 : decode cX3_keep 47 = .ok (.getfield 32, 3) := by decide +kernel
theorem dX3_keep_50 : decode cX3_keep 50 = .ok (.invokestatic 63, 3) := by decide +kernel
theorem dX3_keep_53 : decode cX3_keep 53 = .ok (.aload_n 0, 1) := by decide +kernel
theorem dX3_keep_54 : decode cX3_keep 54 = .ok (.getfield 41, 3) := by decide +kernel
theorem dX3_keep_57 : decode cX3_keep 57 = .ok (.iconst 1, 1) := by decide +kernel
theorem dX3_keep_58 : decode cX3_keep 58 = .ok (.aload_n 0, 1) := by decide +kernel
theorem dX3_keep_59 : decode cX3_keep 59 = .ok (.getfield 41, 3) := by decide +kernel
theorem dX3_keep_62 : decode cX3_keep 62 = .ok (.iconst 0, 1) := by decide +kernel
theorem dX3_keep_63 : decode cX3_keep 63 = .ok (.aload_n 0, 1) := by decide +kernel
theorem dX3_keep_64 : decode cX3_keep 64 = .ok (.getfield 32, 3) := by decide +kernel
theorem dX3_keep_67 : decode cX3_keep 67 = .ok (.invokestatic 63, 3) := by decide +kernel
theorem dX3_keep_70 : decode cX3_keep 70 = .ok (.aload_n 0, 1) := by decide +kernel
theorem dX3_keep_71 : decode cX3_keep 71 = .ok (.getfield 44, 3) := by decide +kernel
theorem dX3_keep_74 : decode cX3_keep 74 = .ok (.iconst 1, 1) := by decide +kernel
theorem dX3_keep_75 : decode cX3_keep 75 = .ok (.aload_n 0, 1) := by decide +kernel
theorem dX3_keep_76 : decode cX3_keep 76 = .ok (.getfield 44, 3) := by decide +kernel
theorem dX3_keep_79 : decode cX3_keep 79 = .ok (.iconst 0, 1) := by decide +kernel
theorem dX3_keep_80 : decode cX3_keep 80 = .ok (.aload_n 0, 1) := by decide +kernel
theorem dX3_keep_81 : decode cX3_keep 81 = .ok (.getfield 32, 3) := by decide +kernel
theorem dX3_keep_84 : decode cX3_keep 84 = .ok (.invokestatic 63, 3) := by decide +kernel
theorem dX3_copyFrom_0 : decode cX3_copyFrom 0 = .ok (.aload_n 0, 1) := by decide +kernel
theorem dX3_copyFrom_1 : decode cX3_copyFrom 1 = .ok (.aload_n 1, 1) := by decide +kernel
theorem dX3_copyFrom_2 : decode cX3_copyFrom 2 = .ok (.getfield 12, 3) := by decide +kernel
theorem dX3_copyFrom_5 : decode cX3_copyFrom 5 = .ok (.putfield 12, 3) := by decide +kernel
theorem dX3_copyFrom_8 : decode cX3_copyFrom 8 = .ok (.aload_n 1, 1) := by decide +kernel
theorem dX3_copyFrom_9 : decode cX3_copyFrom 9 = .ok (.getfield 18, 3) := by decide +kernel
theorem dX3_copyFrom_12 : decode cX3_copyFrom 12 = .ok (.iconst 0, 1) := by decide +kernel
theorem dX3_copyFrom_13 : decode cX3_copyFrom 13 = .ok (.aload_n 0, 1) := by decide +kernel
theorem dX3_copyFrom_14 : decode cX3_copyFrom 14 = .ok (.getfield 18, 3) := by decide +kernel
theorem dX3_copyFrom_17 : decode cX3_copyFrom 17 = .ok (.iconst 0, 1) := by decide +kernel
theorem dX3_copyFrom_18 : decode cX3_copyFrom 18 = .ok (.iconst 4, 1) := by decide +kernel
theorem dX3_copyFrom_19 : decode cX3_copyFrom 19 = .ok (.invokestatic 63, 3) := by decide +kernel
theorem dX3_copyFrom_22 : decode cX3_copyFrom 22 = .ok (.aload_n 0, 1) := by decide +kernel
theorem dX3_copyFrom_23 : decode cX3_copyFrom 23 = .ok (.aload_n 1, 1) := by decide +kernel
theorem dX3_copyFrom_24 : decode cX3_copyFrom 24 = .ok (.getfield 22, 3) := by decide +kernel
theorem dX3_copyFrom_27 : decode cX3_copyFrom 27 = .ok (.putfield 22, 3) := by decide +kernel
theorem dX3_copyFrom_30 : decode cX3_copyFrom 30 = .ok (.aload_n 0, 1) := by decide +kernel
theorem dX3_copyFrom_31 : decode cX3_copyFrom 31 = .ok (.aload_n 1, 1) := by decide +kernel
theorem dX3_copyFrom_32 : decode cX3_copyFrom 32 = .ok (.getfield 26, 3) := by decide +kernel
theorem dX3_copyFrom_35 : decode cX3_copyFrom 35 = .ok (.putfield 26, 3) := by decide +kernel
theorem dX3_copyFrom_38 : decode cX3_copyFrom 38 = .ok (.aload_n 0, 1) := by decide +kernel
theorem dX3_copyFrom_39 : decode cX3_copyFrom 39 = .ok (.aload_n 1, 1) := by decide +kernel
theorem dX3_copyFrom_40 : decode cX3_copyFrom 40 = .ok (.getfield 29, 3) := by decide +kernel
theorem dX3_copyFrom_43 : decode cX3_copyFrom 43 = .ok (.putfield 29, 3) := by decide +kernel
theorem dX3_copyFrom_46 : decode cX3_copyFrom 46 = .ok (.aload_n 0, 1) := by decide +kernel
theorem dX3_copyFrom_47 : decode cX3_copyFrom 47 = .ok (.aload_n 1, 1) := by decide +kernel
theorem dX3_copyFrom_48 : decode cX3_copyFrom 48 = .ok (.getfield 32, 3) := by decide +kernel
theorem dX3_copyFrom_51 : decode cX3_copyFrom 51 = .ok (.putfield 32, 3) := by decide +kernel
theorem dX3_copyFrom_54 : decode cX3_copyFrom 54 = .ok (.aload_n 1, 1) := by decide +kernel
theorem dX3_copyFrom_55 : decode cX3_copyFrom 55 = .ok (.getfield 35, 3) := by decide +kernel
theorem dX3_copyFrom_58 : decode cX3_copyFrom 58 = .ok (.iconst 0, 1) := by decide +kernel
theorem dX3_copyFrom_59 : decode cX3_copyFrom 59 = .ok (.aload_n 0, 1) := by decide +kernel
theorem dX3_copyFrom_60 : decode cX3_copyFrom 60 = .ok (.getfield 35, 3) := by decide +kernel
theorem dX3_copyFrom_63 : decode cX3_copyFrom 63 = .ok (.iconst 0, 1) := by decide +kernel
theorem dX3_copyFrom_64 : decode cX3_copyFrom 64 = .ok (.aload_n 0, 1) := by decide +kernel
theorem dX3_copyFrom_65 : decode cX3_copyFrom 65 = .ok (.getfield 32, 3) := by decide +kernel
theorem dX3_copyFrom_68 : decode cX3_copyFrom 68 = .ok (.invokestatic 63, 3) := by decide +kernel
theorem dX3_copyFrom_71 : decode cX3_copyFrom 71 = .ok (.aload_n 1, 1) := by decide +kernel
theorem dX3_copyFrom_72 : decode cX3_copyFrom 72 = .ok (.getfield 38, 3) := by decide +kernel
theorem dX3_copyFrom_75 : decode cX3_copyFrom 75 = .ok (.iconst 0, 1) := by decide +kernel
theorem dX3_copyFrom_76 : decode cX3_copyFrom 76 = .ok (.aload_n 0, 1) := by decide +kernel
theorem dX3_copyFrom_77 : decode cX3_copyFrom 77 = .ok (.getfield 38, 3) := by decide +kernel
theorem dX3_copyFrom_80 : decode cX3_copyFrom 80 = .ok (.iconst 0, 1) := by decide +kernel
theorem dX3_copyFrom_81 : decode cX3_copyFrom 81 = .ok (.aload_n 0, 1) := by decide +kernel
theorem dX3_copyFrom_82 : decode cX3_copyFrom 82 = .ok (.getfield 32, 3) := by decide +kernel
theorem dX3_copyFrom_85 : decode cX3_copyFrom 85 = .ok (.invokestatic 63, 3) := by decide +kernel
theorem dX3_copyFrom_88 : decode cX3_copyFrom 88 = .ok (.aload_n 1, 1) := by decide +kernel
theorem dX3_copyFrom_89 : decode cX3_copyFrom 89 = .ok (.getfield 41, 3) := by decide +kernel
theorem dX3_copyFrom_92 : decode cX3_copyFrom 92 = .ok (.iconst 0, 1) := by decide +kernel
theorem dX3_copyFrom_93 : decode cX3_copyFrom 93 = .ok (.aload_n 0, 1) := by decide +kernel
theorem dX3_copyFrom_94 : decode cX3_copyFrom 94 = .ok (.getfield 41, 3) := by decide +kernel
theorem dX3_copyFrom_97 : decode cX3_copyFrom 97 = .ok (.iconst 0, 1) := by decide +kernel
theorem dX3_copyFrom_98 : decode cX3_copyFrom 98 = .ok (.aload_n 0, 1) := by decide +kernel
theorem dX3_copyFrom_99 : decode cX3_copyFrom 99 = .ok (.getfield 32, 3) := by decide +kernel
theorem dX3_copyFrom_102 : decode cX3_copyFrom 102 = .ok (.invokestatic 63, 3) := by decide +kernel
theorem dX3_copyFrom_105 : decode cX3_copyFrom 105 = .ok (.aload_n 1, 1) := by decide +kernel
theorem dX3_copyFrom_106 : decode cX3_copyFrom 106 = .ok (.getfield 44, 3) := by decide +kernel
theorem dX3_copyFrom_109 : decode cX3_copyFrom 109 = .ok (.iconst 0, 1) := by decide +kernel
theorem dX3_copyFrom_110 : decode cX3_copyFrom 110 = .ok (.aload_n 0, 1) := by decide +kernel
theorem dX3_copyFrom_111 : decode cX3_copyFrom 111 = .ok (.getfield 44, 3) := by decide +kernel
theorem dX3_copyFrom_114 : decode cX3_copyFrom 114 = .ok (.iconst 0, 1) := by decide +kernel
theorem dX3_copyFrom_115 : decode cX3_copyFrom 115 = .ok (.aload_n 0, 1) := by decide +kernel
theorem dX3_copyFrom_116 : decode cX3_copyFrom 116 = .ok (.getfield 32, 3) := by decide +kernel
theorem dX3_copyFrom_119 : decode cX3_copyFrom 119 = .ok (.invokestatic 63, 3) := by decide +kernel
theorem dX3_copyFrom_122 : decode cX3_copyFrom 122 = .ok (.aload_n 0, 1) := by decide +kernel
theorem dX3_copyFrom_123 : decode cX3_copyFrom 123 = .ok (.aload_n 1, 1) := by decide +kernel
theorem dX3_copyFrom_124 : decode cX3_copyFrom 124 = .ok (.getfield 47, 3) := by decide +kernel
theorem dX3_copyFrom_127 : decode cX3_copyFrom 127 = .ok (.putfield 47, 3) := by decide +kernel
theorem dX3_copyFrom_130 : decode cX3_copyFrom 130 = .ok (.aload_n 0, 1) := by decide +kernel
theorem dX3_copyFrom_131 : decode cX3_copyFrom 131 = .ok (.aload_n 1, 1) := by decide +kernel
theorem dX3_copyFrom_132 : decode cX3_copyFrom 132 = .ok (.getfield 50, 3) := by decide +kernel
theorem dX3_copyFrom_135 : decode cX3_copyFrom 135 = .ok (.putfield 50, 3) := by decide +kernel
theorem dX3_copyFrom_138 : decode cX3_copyFrom 138 = .ok (.aload_n 1, 1) := by decide +kernel
theorem dX3_copyFrom_139 : decode cX3_copyFrom 139 = .ok (.getfield 53, 3) := by decide +kernel
theorem dX3_copyFrom_142 : decode cX3_copyFrom 142 = .ok (.iconst 0, 1) := by decide +kernel
theorem dX3_copyFrom_143 : decode cX3_copyFrom 143 = .ok (.aload_n 0, 1) := by decide +kernel
theorem dX3_copyFrom_144 : decode cX3_copyFrom 144 = .ok (.getfield 53, 3) := by decide +kernel
theorem dX3_copyFrom_147 : decode cX3_copyFrom 147 = .ok (.iconst 0, 1) := by decide +kernel
theorem dX3_copyFrom_148 : decode cX3_copyFrom 148 = .ok (.bipush 8, 2) := by decide +kernel
theorem dX3_copyFrom_150 : decode cX3_copyFrom 150 = .ok (.invokestatic 63, 3) := by decide +kernel
theorem dX3_copyFrom_153 : decode cX3_copyFrom 153 = .ok (.return_, 1) := by decide +kernel
theorem dX3_perform_0 : decode cX3_perform 0 = .ok (.aload_n 0, 1) := by decide +kernel
theorem dX3_perform_1 : decode cX3_perform 1 = .ok (.getfield 12, 3) := by decide +kernel
theorem dX3_perform_4 : decode cX3_perform 4 = .ok (.getfield 80, 3) := by decide +kernel
theorem dX3_perform_7 : decode cX3_perform 7 = .ok (.iload_n 1, 1) := by decide +kernel
theorem dX3_perform_8 : decode cX3_perform 8 = .ok (.iaload, 1) := by decide +kernel
theorem dX3_perform_9 : decode cX3_perform 9 = .ok (.istore 4, 2) := by decide +kernel
theorem dX3_perform_11 : decode cX3_perform 11 = .ok (.iload 4, 2) := by decide +kernel
theorem dX3_perform_13 : decode cX3_perform 13 = .ok (.iconst 4, 1) := by decide +kernel
theorem dX3_perform_14 : decode cX3_perform 14 = .ok (.if_icmp .lt 5, 3) := by decide +kernel
theorem dX3_perform_19 : decode cX3_perform 19 = .ok (.aload_n 0, 1) := by decide +kernel
theorem dX3_perform_20 : decode cX3_perform 20 = .ok (.getfield 12, 3) := by decide +kernel
theorem dX3_perform_23 : decode cX3_perform 23 = .ok (.getfield 77, 3) := by decide +kernel
theorem dX3_perform_26 : decode cX3_perform 26 = .ok (.iload_n 1, 1) := by decide +kernel
theorem dX3_perform_27 : decode cX3_perform 27 = .ok (.iaload, 1) := by decide +kernel
theorem dX3_perform_28 : decode cX3_perform 28 = .ok (.tableswitch 137 0 4 #[36, 46, 68, 99, 129], 36) := by decide +kernel
theorem dX3_perform_165 : decode cX3_perform 165 = .ok (.iload_n 3, 1) := by decide +kernel
theorem dX3_perform_166 : decode cX3_perform 166 = .ok (.ireturn, 1) := by decide +kernel
theorem dX3_perform_64 : decode cX3_perform 64 = .ok (.aload_n 0, 1) := by decide +kernel
theorem dX3_perform_65 : decode cX3_perform 65 = .ok (.getfield 18, 3) := by decide +kernel
theorem dX3_perform_68 : decode cX3_perform 68 = .ok (.iload 4, 2) := by decide +kernel
theorem dX3_perform_70 : decode cX3_perform 70 = .ok (.iload_n 2, 1) := by decide +kernel
theorem dX3_perform_71 : decode cX3_perform 71 = .ok (.iastore, 1) := by decide +kernel
theorem dX3_perform_72 : decode cX3_perform 72 = .ok (.iload_n 3, 1) := by decide +kernel
theorem dX3_perform_73 : decode cX3_perform 73 = .ok (.ireturn, 1) := by decide +kernel
theorem dX3_perform_74 : decode cX3_perform 74 = .ok (.aload_n 0, 1) := by decide +kernel
theorem dX3_perform_75 : decode cX3_perform 75 = .ok (.getfield 18, 3) := by decide +kernel
theorem dX3_perform_78 : decode cX3_perform 78 = .ok (.iload 4, 2) := by decide +kernel
theorem dX3_perform_80 : decode cX3_perform 80 = .ok (.aload_n 0, 1) := by decide +kernel
theorem dX3_perform_81 : decode cX3_perform 81 = .ok (.getfield 18, 3) := by decide +kernel
theorem dX3_perform_84 : decode cX3_perform 84 = .ok (.iload 4, 2) := by decide +kernel
theorem dX3_perform_86 : decode cX3_perform 86 = .ok (.iaload, 1) := by decide +kernel
theorem dX3_perform_87 : decode cX3_perform 87 = .ok (.iload_n 2, 1) := by decide +kernel
theorem dX3_perform_88 : decode cX3_perform 88 = .ok (.iadd, 1) := by decide +kernel
theorem dX3_perform_89 : decode cX3_perform 89 = .ok (.sipush 1000, 3) := by decide +kernel
theorem dX3_perform_92 : decode cX3_perform 92 = .ok (.irem, 1) := by decide +kernel
theorem dX3_perform_93 : decode cX3_perform 93 = .ok (.iastore, 1) := by decide +kernel
theorem dX3_perform_94 : decode cX3_perform 94 = .ok (.iload_n 3, 1) := by decide +kernel
theorem dX3_perform_95 : decode cX3_perform 95 = .ok (.ireturn, 1) := by decide +kernel
theorem dX3_perform_96 : decode cX3_perform 96 = .ok (.aload_n 0, 1) := by decide +kernel
theorem dX3_perform_97 : decode cX3_perform 97 = .ok (.getfield 18, 3) := by decide +kernel
theorem dX3_perform_100 : decode cX3_perform 100 = .ok (.iload 4, 2) := by decide +kernel
theorem dX3_perform_102 : decode cX3_perform 102 = .ok (.iload_n 2, 1) := by decide +kernel
theorem dX3_perform_103 : decode cX3_perform 103 = .ok (.aload_n 0, 1) := by decide +kernel
theorem dX3_perform_104 : decode cX3_perform 104 = .ok (.getfield 18, 3) := by decide +kernel
theorem dX3_perform_107 : decode cX3_perform 107 = .ok (.iload 4, 2) := by decide +kernel
theorem dX3_perform_109 : decode cX3_perform 109 = .ok (.iaload, 1) := by decide +kernel
theorem dX3_perform_110 : decode cX3_perform 110 = .ok (.if_icmp .le 7, 3) := by decide +kernel
theorem dX3_perform_117 : decode cX3_perform 117 = .ok (.aload_n 0, 1) := by decide +kernel
theorem dX3_perform_118 : decode cX3_perform 118 = .ok (.getfield 18, 3) := by decide +kernel
theorem dX3_perform_121 : decode cX3_perform 121 = .ok (.iload 4, 2) := by decide +kernel
theorem dX3_perform_123 : decode cX3_perform 123 = .ok (.iaload, 1) := by decide +kernel
theorem dX3_perform_124 : decode cX3_perform 124 = .ok (.iastore, 1) := by decide +kernel
theorem dX3_perform_125 : decode cX3_perform 125 = .ok (.iload_n 3, 1) := by decide +kernel
theorem dX3_perform_126 : decode cX3_perform 126 = .ok (.ireturn, 1) := by decide +kernel
theorem dX3_perform_113 : decode cX3_perform 113 = .ok (.iload_n 2, 1) := by decide +kernel
theorem dX3_perform_114 : decode cX3_perform 114 = .ok (.goto 10, 3) := by decide +kernel
theorem dX3_perform_127 : decode cX3_perform 127 = .ok (.aload_n 0, 1) := by decide +kernel
theorem dX3_perform_128 : decode cX3_perform 128 = .ok (.aload_n 0, 1) := by decide +kernel
theorem dX3_perform_129 : decode cX3_perform 129 = .ok (.getfield 22, 3) := by decide +kernel
theorem dX3_perform_132 : decode cX3_perform 132 = .ok (.iconst 1, 1) := by decide +kernel
theorem dX3_perform_133 : decode cX3_perform 133 = .ok (.iadd, 1) := by decide +kernel
theorem dX3_perform_134 : decode cX3_perform 134 = .ok (.sipush 1000, 3) := by decide +kernel
theorem dX3_perform_137 : decode cX3_perform 137 = .ok (.irem, 1) := by decide +kernel
theorem dX3_perform_138 : decode cX3_perform 138 = .ok (.putfield 22, 3) := by decide +kernel
theorem dX3_perform_141 : decode cX3_perform 141 = .ok (.aload_n 0, 1) := by decide +kernel
theorem dX3_perform_142 : decode cX3_perform 142 = .ok (.getfield 18, 3) := by decide +kernel
theorem dX3_perform_145 : decode cX3_perform 145 = .ok (.iload 4, 2) := by decide +kernel
theorem dX3_perform_147 : decode cX3_perform 147 = .ok (.aload_n 0, 1) := by decide +kernel
theorem dX3_perform_148 : decode cX3_perform 148 = .ok (.getfield 22, 3) := by decide +kernel
theorem dX3_perform_151 : decode cX3_perform 151 = .ok (.iastore, 1) := by decide +kernel
theorem dX3_perform_152 : decode cX3_perform 152 = .ok (.aload_n 0, 1) := by decide +kernel
theorem dX3_perform_153 : decode cX3_perform 153 = .ok (.getfield 22, 3) := by decide +kernel
theorem dX3_perform_156 : decode cX3_perform 156 = .ok (.ireturn, 1) := by decide +kernel
theorem dX3_perform_157 : decode cX3_perform 157 = .ok (.aload_n 0, 1) := by decide +kernel
theorem dX3_perform_158 : decode cX3_perform 158 = .ok (.getfield 18, 3) := by decide +kernel
theorem dX3_perform_161 : decode cX3_perform 161 = .ok (.iload 4, 2) := by decide +kernel
theorem dX3_perform_163 : decode cX3_perform 163 = .ok (.iaload, 1) := by decide +kernel
theorem dX3_perform_164 : decode cX3_perform 164 = .ok (.ireturn, 1) := by decide +kernel
theorem dX3_perform_17 : decode cX3_perform 17 = .ok (.iload_n 3, 1) := by decide +kernel
theorem dX3_perform_18 : decode cX3_perform 18 = .ok (.ireturn, 1) := by decide +kernel
theorem dX0_dropOldest_0 : decode cX0_dropOldest 0 = .ok (.aload_n 0, 1) := by decide +kernel
theorem dX0_dropOldest_1 : decode cX0_dropOldest 1 = .ok (.dup, 1) := by decide +kernel
theorem dX0_dropOldest_2 : decode cX0_dropOldest 2 = .ok (.getfield 7, 3) := by decide +kernel
theorem dX0_dropOldest_5 : decode cX0_dropOldest 5 = .ok (.iconst 1, 1) := by decide +kernel
theorem dX0_dropOldest_6 : decode cX0_dropOldest 6 = .ok (.isub, 1) := by decide +kernel
theorem dX0_dropOldest_7 : decode cX0_dropOldest 7 = .ok (.putfield 7, 3) := by decide +kernel
theorem dX0_dropOldest_10 : decode cX0_dropOldest 10 = .ok (.aload_n 0, 1) := by decide +kernel
theorem dX0_dropOldest_11 : decode cX0_dropOldest 11 = .ok (.getfield 19, 3) := by decide +kernel
theorem dX0_dropOldest_14 : decode cX0_dropOldest 14 = .ok (.iconst 1, 1) := by decide +kernel
theorem dX0_dropOldest_15 : decode cX0_dropOldest 15 = .ok (.aload_n 0, 1) := by decide +kernel
theorem dX0_dropOldest_16 : decode cX0_dropOldest 16 = .ok (.getfield 19, 3) := by decide +kernel
theorem dX0_dropOldest_19 : decode cX0_dropOldest 19 = .ok (.iconst 0, 1) := by decide +kernel
theorem dX0_dropOldest_20 : decode cX0_dropOldest 20 = .ok (.aload_n 0, 1) := by decide +kernel
theorem dX0_dropOldest_21 : decode cX0_dropOldest 21 = .ok (.getfield 7, 3) := by decide +kernel
theorem dX0_dropOldest_24 : decode cX0_dropOldest 24 = .ok (.invokestatic 32, 3) := by decide +kernel
theorem dX0_dropOldest_27 : decode cX0_dropOldest 27 = .ok (.aload_n 0, 1) := by decide +kernel
theorem dX0_dropOldest_28 : decode cX0_dropOldest 28 = .ok (.getfield 23, 3) := by decide +kernel
theorem dX0_dropOldest_31 : decode cX0_dropOldest 31 = .ok (.iconst 1, 1) := by decide +kernel
theorem dX0_dropOldest_32 : decode cX0_dropOldest 32 = .ok (.aload_n 0, 1) := by decide +kernel
theorem dX0_dropOldest_33 : decode cX0_dropOldest 33 = .ok (.getfield 23, 3) := by decide +kernel
theorem dX0_dropOldest_36 : decode cX0_dropOldest 36 = .ok (.iconst 0, 1) := by decide +kernel
theorem dX0_dropOldest_37 : decode cX0_dropOldest 37 = .ok (.aload_n 0, 1) := by decide +kernel
theorem dX0_dropOldest_38 : decode cX0_dropOldest 38 = .ok (.getfield 7, 3) := by decide +kernel
theorem dX0_dropOldest_41 : decode cX0_dropOldest 41 = .ok (.invokestatic 32, 3) := by decide +kernel
theorem dX0_dropOldest_44 : decode cX0_dropOldest 44 = .ok (.aload_n 0, 1) := by decide +kernel
theorem dX0_dropOldest_45 : decode cX0_dropOldest 45 = .ok (.getfield 26, 3) := by decide +kernel
theorem dX0_dropOldest_48 : decode cX0_dropOldest 48 = .ok (.iconst 1, 1) := by decide +kernel
theorem dX0_dropOldest_49 : decode cX0_dropOldest 49 = .ok (.aload_n 0, 1) := by decide +kernel
theorem dX0_dropOldest_50 : decode cX0_dropOldest 50 = .ok (.getfield 26, 3) := by decide +kernel
theorem dX0_dropOldest_53 : decode cX0_dropOldest 53 = .ok (.iconst 0, 1) := by decide +kernel
theorem dX0_dropOldest_54 : decode cX0_dropOldest 54 = .ok (.aload_n 0, 1) := by decide +kernel
theorem dX0_dropOldest_55 : decode cX0_dropOldest 55 = .ok (.getfield 7, 3) := by decide +kernel
theorem dX0_dropOldest_58 : decode cX0_dropOldest 58 = .ok (.invokestatic 32, 3) := by decide +kernel
theorem dX0_dropOldest_61 : decode cX0_dropOldest 61 = .ok (.return_, 1) := by decide +kernel
def md_s_keep : Nat → Nat → Bool := fun r k => (r == 4 && k == 5)
set_option maxHeartbeats 4000000 in
set_option maxRecDepth 100000 in
theorem s_keep (l : Launch) (D : va_G) (cI cZ cS cR : ClassId) (N0 : NT) (fr : Int32) (g : GS) (hI : Inv fr g) (h : Nat) (x1 : Int32) (x2 : Int32) (x3 : Int32) (x4 : Int32) (r_h : g.1 h = 4) : Ty l D cI cZ cS cR N0 yX3_keep cX3_keep 5 none 0 0 0 [.ref h, .int x1, .int x2, .int x3, .int x4] g (fun v g' => v = none ∧ Inv fr g' ∧ Ex g g' ∧ Sm md_s_keep g g') := by
  refine t_enter (by decide) (Nat.le_of_ble_eq_true rfl) ?_
  intro p e s m args below meth c ls H locs hB hr hin hl hT
  have hx := hB.1
  have hb := hB.2.1
  have hl : lv_has ls 5 [(0, .ref h), (1, .int x1), (2, .int x2), (3, .int x3), (4, .int x4)] := hl
  have hE : Ex g g := Ex.rf
  have hM : Sm md_s_keep g g := Sm.rf
  refine lv_aload_n hx hb dX3_keep_0 rfl (lv_at hl 0 rfl) ?_
  obtain ⟨v_1, e_v_1, l_v_1, u_v_1⟩ := hI.f r_h 5
  refine t_get (ci := 3) (v := .int v_1) hB hT (ro_ci r_h rfl) rfl 5 (by decide) k_158 e_v_1 dX3_keep_1 ?_
  refine lv_bipush (v := 16) hx hb dX3_keep_4 (by decide) ?_
  refine lv_icmp_ne (tgt := 87) hx hb dX3_keep_6 (by decide) (fun c_2 => ?_) (fun c_2 => ?_)
  · have c_2' : v_1.toInt ≠ 16 := i_ne c_2 rfl (by decide)
    refine lv_aload_n hx hb dX3_keep_87 rfl (lv_at hl 0 rfl) ?_
    obtain ⟨v_3, e_v_3, r_v_3, n_v_3⟩ := hI.f r_h 6
    refine t_get (ci := 3) (v := .ref v_3) hB hT (ro_ci r_h rfl) rfl 6 (by decide) k_159 e_v_3 dX3_keep_88 ?_
    refine lv_aload_n hx hb dX3_keep_91 rfl (lv_at hl 0 rfl) ?_
    refine t_get (ci := 3) (v := .int v_1) hB hT (ro_ci r_h rfl) rfl 5 (by decide) k_158 e_v_1 dX3_keep_92 ?_
    refine lv_iload_n hx hb dX3_keep_95 rfl (lv_at hl 1 rfl) ?_
    have i_4 : vp_in v_1 16 := (i_in (n := 16) rfl (by omega) (by omega))
    refine t_iast hB hT (ro_in r_v_3 (by decide)) n_v_3 i_4 dX3_keep_96 (fun H locs hT => ?_)
    have hI : Inv fr (sC g v_3 v_1.toNatClampNeg x1) := hI.sC (ck r_v_3 trivial)
    have hM : Sm md_s_keep g (sC g v_3 v_1.toNatClampNeg x1) := hM
    have hE : Ex g (sC g v_3 v_1.toNatClampNeg x1) := hE
    refine lv_aload_n hx hb dX3_keep_97 rfl (lv_at hl 0 rfl) ?_
    obtain ⟨v_5, e_v_5, r_v_5, n_v_5⟩ := hI.f r_h 7
    refine t_get (ci := 3) (v := .ref v_5) hB hT (ro_ci r_h rfl) rfl 7 (by decide) k_160 e_v_5 dX3_keep_98 ?_
    refine lv_aload_n hx hb dX3_keep_101 rfl (lv_at hl 0 rfl) ?_
    refine t_get (ci := 3) (v := .int v_1) hB hT (ro_ci r_h rfl) rfl 5 (by decide) k_158 e_v_1 dX3_keep_102 ?_
    refine lv_iload_n hx hb dX3_keep_105 rfl (lv_at hl 2 rfl) ?_
    have i_6 : vp_in v_1 16 := (i_in (n := 16) rfl (by omega) (by omega))
    refine t_iast hB hT (ro_in r_v_5 (by decide)) n_v_5 i_6 dX3_keep_106 (fun H locs hT => ?_)
    have hI : Inv fr (sC (sC g v_3 v_1.toNatClampNeg x1) v_5 v_1.toNatClampNeg x2) := hI.sC (ck r_v_5 trivial)
    have hM : Sm md_s_keep g (sC (sC g v_3 v_1.toNatClampNeg x1) v_5 v_1.toNatClampNeg x2) := hM
    have hE : Ex g (sC (sC g v_3 v_1.toNatClampNeg x1) v_5 v_1.toNatClampNeg x2) := hE
    refine lv_aload_n hx hb dX3_keep_107 rfl (lv_at hl 0 rfl) ?_
    obtain ⟨v_7, e_v_7, r_v_7, n_v_7⟩ := hI.f r_h 8
    refine t_get (ci := 3) (v := .ref v_7) hB hT (ro_ci r_h rfl) rfl 8 (by decide) k_161 e_v_7 dX3_keep_108 ?_
    refine lv_aload_n hx hb dX3_keep_111 rfl (lv_at hl 0 rfl) ?_
    refine t_get (ci := 3) (v := .int v_1) hB hT (ro_ci r_h rfl) rfl 5 (by decide) k_158 e_v_1 dX3_keep_112 ?_
    refine lv_iload_n hx hb dX3_keep_115 rfl (lv_at hl 3 rfl) ?_
    have i_8 : vp_in v_1 16 := (i_in (n := 16) rfl (by omega) (by omega))
    refine t_iast hB hT (ro_in r_v_7 (by decide)) n_v_7 i_8 dX3_keep_116 (fun H locs hT => ?_)
    have hI : Inv fr (sC (sC (sC g v_3 v_1.toNatClampNeg x1) v_5 v_1.toNatClampNeg x2) v_7 v_1.toNatClampNeg x3) := hI.sC (ck r_v_7 trivial)
    have hM : Sm md_s_keep g (sC (sC (sC g v_3 v_1.toNatClampNeg x1) v_5 v_1.toNatClampNeg x2) v_7 v_1.toNatClampNeg x3) := hM
    have hE : Ex g (sC (sC (sC g v_3 v_1.toNatClampNeg x1) v_5 v_1.toNatClampNeg x2) v_7 v_1.toNatClampNeg x3) := hE
    refine lv_aload_n hx hb dX3_keep_117 rfl (lv_at hl 0 rfl) ?_
    obtain ⟨v_9, e_v_9, r_v_9, n_v_9⟩ := hI.f r_h 9
    refine t_get (ci := 3) (v := .ref v_9) hB hT (ro_ci r_h rfl) rfl 9 (by decide) k_162 e_v_9 dX3_keep_118 ?_
    refine lv_aload_n hx hb dX3_keep_121 rfl (lv_at hl 0 rfl) ?_
    refine t_get (ci := 3) (v := .int v_1) hB hT (ro_ci r_h rfl) rfl 5 (by decide) k_158 e_v_1 dX3_keep_122 ?_
    refine lv_iload hx hb dX3_keep_125 (lv_at hl 4 rfl) ?_
    have i_10 : vp_in v_1 16 := (i_in (n := 16) rfl (by omega) (by omega))
    refine t_iast hB hT (ro_in r_v_9 (by decide)) n_v_9 i_10 dX3_keep_127 (fun H locs hT => ?_)
    have hI : Inv fr (sC (sC (sC (sC g v_3 v_1.toNatClampNeg x1) v_5 v_1.toNatClampNeg x2) v_7 v_1.toNatClampNeg x3) v_9 v_1.toNatClampNeg x4) := hI.sC (ck r_v_9 trivial)
    have hM : Sm md_s_keep g (sC (sC (sC (sC g v_3 v_1.toNatClampNeg x1) v_5 v_1.toNatClampNeg x2) v_7 v_1.toNatClampNeg x3) v_9 v_1.toNatClampNeg x4) := hM
    have hE : Ex g (sC (sC (sC (sC g v_3 v_1.toNatClampNeg x1) v_5 v_1.toNatClampNeg x2) v_7 v_1.toNatClampNeg x3) v_9 v_1.toNatClampNeg x4) := hE
    refine lv_aload_n hx hb dX3_keep_128 rfl (lv_at hl 0 rfl) ?_
    refine lv_dup hx hb dX3_keep_129 rfl ?_
    refine t_get (ci := 3) (v := .int v_1) hB hT (ro_ci r_h rfl) rfl 5 (by decide) k_158 e_v_1 dX3_keep_130 ?_
    refine lv_iconst (v := 1) hx hb dX3_keep_133 (by decide) ?_
    refine lv_iadd hx hb dX3_keep_134 ?_
    refine lv_topi (fun z_11 ez_11 => ?_)
    have e_z_11 : z_11.toInt = v_1.toInt + 1 := i_add ez_11 rfl (by decide) (by omega) (by omega)
    refine t_put0 (ci := 3) (v := .int z_11) hB hT (ro_ci r_h rfl) (ro_n0 r_h (by decide)) rfl 5 (by decide) k_158 (Or.inl rfl) rfl rfl dX3_keep_135 (fun H locs hT => ?_)
    have hI : Inv fr (sF (sC (sC (sC (sC g v_3 v_1.toNatClampNeg x1) v_5 v_1.toNatClampNeg x2) v_7 v_1.toNatClampNeg x3) v_9 v_1.toNatClampNeg x4) h 5 (.int z_11)) := hI.sF (fk r_h (⟨_, rfl, by omega, by omega⟩))
    have hM : Sm md_s_keep g (sF (sC (sC (sC (sC g v_3 v_1.toNatClampNeg x1) v_5 v_1.toNatClampNeg x2) v_7 v_1.toNatClampNeg x3) v_9 v_1.toNatClampNeg x4) h 5 (.int z_11)) := hM.tr hE (Sm_sF (by rw [r_h]; rfl))
    have hE : Ex g (sF (sC (sC (sC (sC g v_3 v_1.toNatClampNeg x1) v_5 v_1.toNatClampNeg x2) v_7 v_1.toNatClampNeg x3) v_9 v_1.toNatClampNeg x4) h 5 (.int z_11)) := hE
    exact t_vret hB hr hT (Nat.le_of_ble_eq_true rfl) (Nat.le_of_ble_eq_true rfl) dX3_keep_138 ⟨rfl, hI, hE, hM⟩
  · have c_2' : v_1.toInt = 16 := i_eq c_2 rfl (by decide)
    refine lv_aload_n hx hb dX3_keep_9 rfl (lv_at hl 0 rfl) ?_
    refine lv_dup hx hb dX3_keep_10 rfl ?_
    refine t_get (ci := 3) (v := .int v_1) hB hT (ro_ci r_h rfl) rfl 5 (by decide) k_158 e_v_1 dX3_keep_11 ?_
    refine lv_iconst (v := 1) hx hb dX3_keep_14 (by decide) ?_
    refine lv_isub hx hb dX3_keep_15 ?_
    refine lv_topi (fun z_12 ez_12 => ?_)
    have e_z_12 : z_12.toInt = v_1.toInt - 1 := i_sub ez_12 rfl (by decide) (by omega) (by omega)
    refine t_put0 (ci := 3) (v := .int z_12) hB hT (ro_ci r_h rfl) (ro_n0 r_h (by decide)) rfl 5 (by decide) k_158 (Or.inl rfl) rfl rfl dX3_keep_16 (fun H locs hT => ?_)
    have hI : Inv fr (sF g h 5 (.int z_12)) := hI.sF (fk r_h (⟨_, rfl, by omega, by omega⟩))
    have hM : Sm md_s_keep g (sF g h 5 (.int z_12)) := hM.tr hE (Sm_sF (by rw [r_h]; rfl))
    have hE : Ex g (sF g h 5 (.int z_12)) := hE
    refine lv_aload_n hx hb dX3_keep_19 rfl (lv_at hl 0 rfl) ?_
    obtain ⟨v_13, e_v_13, r_v_13, n_v_13⟩ := hI.f r_h 6
    refine t_get (ci := 3) (v := .ref v_13) hB hT (ro_ci r_h rfl) rfl 6 (by decide) k_159 e_v_13 dX3_keep_20 ?_
    refine lv_iconst (v := 1) hx hb dX3_keep_23 (by decide) ?_
    refine lv_aload_n hx hb dX3_keep_24 rfl (lv_at hl 0 rfl) ?_
    refine t_get (ci := 3) (v := .ref v_13) hB hT (ro_ci r_h rfl) rfl 6 (by decide) k_159 e_v_13 dX3_keep_25 ?_
    refine lv_iconst (v := 0) hx hb dX3_keep_28 (by decide) ?_
    refine lv_aload_n hx hb dX3_keep_29 rfl (lv_at hl 0 rfl) ?_
    refine t_get (ci := 3) (v := .int z_12) hB hT (ro_ci r_h rfl) rfl 5 (by decide) k_158 sF_eq dX3_keep_30 ?_
    refine t_copy (n0 := 16) (n1 := 16) hB hT k_525 k_496 k_495 k_70 hl.1 r_v_13 r_v_13 (by decide) n_v_13 n_v_13 (by have q0 : (0 : Int32).toInt = 0 := (by decide); have q1 : (1 : Int32).toInt = 1 := (by decide); omega) (by have q0 : (0 : Int32).toInt = 0 := (by decide); have q1 : (1 : Int32).toInt = 1 := (by decide); omega) (by have q0 : (0 : Int32).toInt = 0 := (by decide); have q1 : (1 : Int32).toInt = 1 := (by decide); omega) (by have q0 : (0 : Int32).toInt = 0 := (by decide); have q1 : (1 : Int32).toInt = 1 := (by decide); omega) (by have q0 : (0 : Int32).toInt = 0 := (by decide); have q1 : (1 : Int32).toInt = 1 := (by decide); omega) (Nat.le_of_ble_eq_true rfl) (Nat.le_of_ble_eq_true rfl) dX3_keep_33 hI (fun H locs cf_14 hT hI => ?_)
    have hM : Sm md_s_keep g (sV (sF g h 5 (.int z_12)) v_13 cf_14) := hM
    have hE : Ex g (sV (sF g h 5 (.int z_12)) v_13 cf_14) := hE
    refine lv_aload_n hx hb dX3_keep_36 rfl (lv_at hl 0 rfl) ?_
    obtain ⟨v_15, e_v_15, r_v_15, n_v_15⟩ := hI.f r_h 7
    refine t_get (ci := 3) (v := .ref v_15) hB hT (ro_ci r_h rfl) rfl 7 (by decide) k_160 e_v_15 dX3_keep_37 ?_
    refine lv_iconst (v := 1) hx hb dX3_keep_40 (by decide) ?_
    refine lv_aload_n hx hb dX3_keep_41 rfl (lv_at hl 0 rfl) ?_
    refine t_get (ci := 3) (v := .ref v_15) hB hT (ro_ci r_h rfl) rfl 7 (by decide) k_160 e_v_15 dX3_keep_42 ?_
    refine lv_iconst (v := 0) hx hb dX3_keep_45 (by decide) ?_
    refine lv_aload_n hx hb dX3_keep_46 rfl (lv_at hl 0 rfl) ?_
    refine t_get (ci := 3) (v := .int z_12) hB hT (ro_ci r_h rfl) rfl 5 (by decide) k_158 sF_eq dX3_keep_47 ?_
    refine t_copy (n0 := 16) (n1 := 16) hB hT k_525 k_496 k_495 k_70 hl.1 r_v_15 r_v_15 (by decide) n_v_15 n_v_15 (by have q0 : (0 : Int32).toInt = 0 := (by decide); have q1 : (1 : Int32).toInt = 1 := (by decide); omega) (by have q0 : (0 : Int32).toInt = 0 := (by decide); have q1 : (1 : Int32).toInt = 1 := (by decide); omega) (by have q0 : (0 : Int32).toInt = 0 := (by decide); have q1 : (1 : Int32).toInt = 1 := (by decide); omega) (by have q0 : (0 : Int32).toInt = 0 := (by decide); have q1 : (1 : Int32).toInt = 1 := (by decide); omega) (by have q0 : (0 : Int32).toInt = 0 := (by decide); have q1 : (1 : Int32).toInt = 1 := (by decide); omega) (Nat.le_of_ble_eq_true rfl) (Nat.le_of_ble_eq_true rfl) dX3_keep_50 hI (fun H locs cf_16 hT hI => ?_)
    have hM : Sm md_s_keep g (sV (sV (sF g h 5 (.int z_12)) v_13 cf_14) v_15 cf_16) := hM
    have hE : Ex g (sV (sV (sF g h 5 (.int z_12)) v_13 cf_14) v_15 cf_16) := hE
    refine lv_aload_n hx hb dX3_keep_53 rfl (lv_at hl 0 rfl) ?_
    obtain ⟨v_17, e_v_17, r_v_17, n_v_17⟩ := hI.f r_h 8
    refine t_get (ci := 3) (v := .ref v_17) hB hT (ro_ci r_h rfl) rfl 8 (by decide) k_161 e_v_17 dX3_keep_54 ?_
    refine lv_iconst (v := 1) hx hb dX3_keep_57 (by decide) ?_
    refine lv_aload_n hx hb dX3_keep_58 rfl (lv_at hl 0 rfl) ?_
    refine t_get (ci := 3) (v := .ref v_17) hB hT (ro_ci r_h rfl) rfl 8 (by decide) k_161 e_v_17 dX3_keep_59 ?_
    refine lv_iconst (v := 0) hx hb dX3_keep_62 (by decide) ?_
    refine lv_aload_n hx hb dX3_keep_63 rfl (lv_at hl 0 rfl) ?_
    refine t_get (ci := 3) (v := .int z_12) hB hT (ro_ci r_h rfl) rfl 5 (by decide) k_158 sF_eq dX3_keep_64 ?_
    refine t_copy (n0 := 16) (n1 := 16) hB hT k_525 k_496 k_495 k_70 hl.1 r_v_17 r_v_17 (by decide) n_v_17 n_v_17 (by have q0 : (0 : Int32).toInt = 0 := (by decide); have q1 : (1 : Int32).toInt = 1 := (by decide); omega) (by have q0 : (0 : Int32).toInt = 0 := (by decide); have q1 : (1 : Int32).toInt = 1 := (by decide); omega) (by have q0 : (0 : Int32).toInt = 0 := (by decide); have q1 : (1 : Int32).toInt = 1 := (by decide); omega) (by have q0 : (0 : Int32).toInt = 0 := (by decide); have q1 : (1 : Int32).toInt = 1 := (by decide); omega) (by have q0 : (0 : Int32).toInt = 0 := (by decide); have q1 : (1 : Int32).toInt = 1 := (by decide); omega) (Nat.le_of_ble_eq_true rfl) (Nat.le_of_ble_eq_true rfl) dX3_keep_67 hI (fun H locs cf_18 hT hI => ?_)
    have hM : Sm md_s_keep g (sV (sV (sV (sF g h 5 (.int z_12)) v_13 cf_14) v_15 cf_16) v_17 cf_18) := hM
    have hE : Ex g (sV (sV (sV (sF g h 5 (.int z_12)) v_13 cf_14) v_15 cf_16) v_17 cf_18) := hE
    refine lv_aload_n hx hb dX3_keep_70 rfl (lv_at hl 0 rfl) ?_
    obtain ⟨v_19, e_v_19, r_v_19, n_v_19⟩ := hI.f r_h 9
    refine t_get (ci := 3) (v := .ref v_19) hB hT (ro_ci r_h rfl) rfl 9 (by decide) k_162 e_v_19 dX3_keep_71 ?_
    refine lv_iconst (v := 1) hx hb dX3_keep_74 (by decide) ?_
    refine lv_aload_n hx hb dX3_keep_75 rfl (lv_at hl 0 rfl) ?_
    refine t_get (ci := 3) (v := .ref v_19) hB hT (ro_ci r_h rfl) rfl 9 (by decide) k_162 e_v_19 dX3_keep_76 ?_
    refine lv_iconst (v := 0) hx hb dX3_keep_79 (by decide) ?_
    refine lv_aload_n hx hb dX3_keep_80 rfl (lv_at hl 0 rfl) ?_
    refine t_get (ci := 3) (v := .int z_12) hB hT (ro_ci r_h rfl) rfl 5 (by decide) k_158 sF_eq dX3_keep_81 ?_
    refine t_copy (n0 := 16) (n1 := 16) hB hT k_525 k_496 k_495 k_70 hl.1 r_v_19 r_v_19 (by decide) n_v_19 n_v_19 (by have q0 : (0 : Int32).toInt = 0 := (by decide); have q1 : (1 : Int32).toInt = 1 := (by decide); omega) (by have q0 : (0 : Int32).toInt = 0 := (by decide); have q1 : (1 : Int32).toInt = 1 := (by decide); omega) (by have q0 : (0 : Int32).toInt = 0 := (by decide); have q1 : (1 : Int32).toInt = 1 := (by decide); omega) (by have q0 : (0 : Int32).toInt = 0 := (by decide); have q1 : (1 : Int32).toInt = 1 := (by decide); omega) (by have q0 : (0 : Int32).toInt = 0 := (by decide); have q1 : (1 : Int32).toInt = 1 := (by decide); omega) (Nat.le_of_ble_eq_true rfl) (Nat.le_of_ble_eq_true rfl) dX3_keep_84 hI (fun H locs cf_20 hT hI => ?_)
    have hM : Sm md_s_keep g (sV (sV (sV (sV (sF g h 5 (.int z_12)) v_13 cf_14) v_15 cf_16) v_17 cf_18) v_19 cf_20) := hM
    have hE : Ex g (sV (sV (sV (sV (sF g h 5 (.int z_12)) v_13 cf_14) v_15 cf_16) v_17 cf_18) v_19 cf_20) := hE
    refine lv_aload_n hx hb dX3_keep_87 rfl (lv_at hl 0 rfl) ?_
    refine t_get (ci := 3) (v := .ref v_13) hB hT (ro_ci r_h rfl) rfl 6 (by decide) k_159 e_v_13 dX3_keep_88 ?_
    refine lv_aload_n hx hb dX3_keep_91 rfl (lv_at hl 0 rfl) ?_
    refine t_get (ci := 3) (v := .int z_12) hB hT (ro_ci r_h rfl) rfl 5 (by decide) k_158 sF_eq dX3_keep_92 ?_
    refine lv_iload_n hx hb dX3_keep_95 rfl (lv_at hl 1 rfl) ?_
    have i_21 : vp_in z_12 16 := (i_in (n := 16) rfl (by omega) (by omega))
    refine t_iast hB hT (ro_in r_v_13 (by decide)) n_v_13 i_21 dX3_keep_96 (fun H locs hT => ?_)
    have hI : Inv fr (sC (sV (sV (sV (sV (sF g h 5 (.int z_12)) v_13 cf_14) v_15 cf_16) v_17 cf_18) v_19 cf_20) v_13 z_12.toNatClampNeg x1) := hI.sC (ck r_v_13 trivial)
    have hM : Sm md_s_keep g (sC (sV (sV (sV (sV (sF g h 5 (.int z_12)) v_13 cf_14) v_15 cf_16) v_17 cf_18) v_19 cf_20) v_13 z_12.toNatClampNeg x1) := hM
    have hE : Ex g (sC (sV (sV (sV (sV (sF g h 5 (.int z_12)) v_13 cf_14) v_15 cf_16) v_17 cf_18) v_19 cf_20) v_13 z_12.toNatClampNeg x1) := hE
    refine lv_aload_n hx hb dX3_keep_97 rfl (lv_at hl 0 rfl) ?_
    refine t_get (ci := 3) (v := .ref v_15) hB hT (ro_ci r_h rfl) rfl 7 (by decide) k_160 e_v_15 dX3_keep_98 ?_
    refine lv_aload_n hx hb dX3_keep_101 rfl (lv_at hl 0 rfl) ?_
    refine t_get (ci := 3) (v := .int z_12) hB hT (ro_ci r_h rfl) rfl 5 (by decide) k_158 sF_eq dX3_keep_102 ?_
    refine lv_iload_n hx hb dX3_keep_105 rfl (lv_at hl 2 rfl) ?_
    have i_22 : vp_in z_12 16 := (i_in (n := 16) rfl (by omega) (by omega))
    refine t_iast hB hT (ro_in r_v_15 (by decide)) n_v_15 i_22 dX3_keep_106 (fun H locs hT => ?_)
    have hI : Inv fr (sC (sC (sV (sV (sV (sV (sF g h 5 (.int z_12)) v_13 cf_14) v_15 cf_16) v_17 cf_18) v_19 cf_20) v_13 z_12.toNatClampNeg x1) v_15 z_12.toNatClampNeg x2) := hI.sC (ck r_v_15 trivial)
    have hM : Sm md_s_keep g (sC (sC (sV (sV (sV (sV (sF g h 5 (.int z_12)) v_13 cf_14) v_15 cf_16) v_17 cf_18) v_19 cf_20) v_13 z_12.toNatClampNeg x1) v_15 z_12.toNatClampNeg x2) := hM
    have hE : Ex g (sC (sC (sV (sV (sV (sV (sF g h 5 (.int z_12)) v_13 cf_14) v_15 cf_16) v_17 cf_18) v_19 cf_20) v_13 z_12.toNatClampNeg x1) v_15 z_12.toNatClampNeg x2) := hE
    refine lv_aload_n hx hb dX3_keep_107 rfl (lv_at hl 0 rfl) ?_
    refine t_get (ci := 3) (v := .ref v_17) hB hT (ro_ci r_h rfl) rfl 8 (by decide) k_161 e_v_17 dX3_keep_108 ?_
    refine lv_aload_n hx hb dX3_keep_111 rfl (lv_at hl 0 rfl) ?_
    refine t_get (ci := 3) (v := .int z_12) hB hT (ro_ci r_h rfl) rfl 5 (by decide) k_158 sF_eq dX3_keep_112 ?_
    refine lv_iload_n hx hb dX3_keep_115 rfl (lv_at hl 3 rfl) ?_
    have i_23 : vp_in z_12 16 := (i_in (n := 16) rfl (by omega) (by omega))
    refine t_iast hB hT (ro_in r_v_17 (by decide)) n_v_17 i_23 dX3_keep_116 (fun H locs hT => ?_)
    have hI : Inv fr (sC (sC (sC (sV (sV (sV (sV (sF g h 5 (.int z_12)) v_13 cf_14) v_15 cf_16) v_17 cf_18) v_19 cf_20) v_13 z_12.toNatClampNeg x1) v_15 z_12.toNatClampNeg x2) v_17 z_12.toNatClampNeg x3) := hI.sC (ck r_v_17 trivial)
    have hM : Sm md_s_keep g (sC (sC (sC (sV (sV (sV (sV (sF g h 5 (.int z_12)) v_13 cf_14) v_15 cf_16) v_17 cf_18) v_19 cf_20) v_13 z_12.toNatClampNeg x1) v_15 z_12.toNatClampNeg x2) v_17 z_12.toNatClampNeg x3) := hM
    have hE : Ex g (sC (sC (sC (sV (sV (sV (sV (sF g h 5 (.int z_12)) v_13 cf_14) v_15 cf_16) v_17 cf_18) v_19 cf_20) v_13 z_12.toNatClampNeg x1) v_15 z_12.toNatClampNeg x2) v_17 z_12.toNatClampNeg x3) := hE
    refine lv_aload_n hx hb dX3_keep_117 rfl (lv_at hl 0 rfl) ?_
    refine t_get (ci := 3) (v := .ref v_19) hB hT (ro_ci r_h rfl) rfl 9 (by decide) k_162 e_v_19 dX3_keep_118 ?_
    refine lv_aload_n hx hb dX3_keep_121 rfl (lv_at hl 0 rfl) ?_
    refine t_get (ci := 3) (v := .int z_12) hB hT (ro_ci r_h rfl) rfl 5 (by decide) k_158 sF_eq dX3_keep_122 ?_
    refine lv_iload hx hb dX3_keep_125 (lv_at hl 4 rfl) ?_
    have i_24 : vp_in z_12 16 := (i_in (n := 16) rfl (by omega) (by omega))
    refine t_iast hB hT (ro_in r_v_19 (by decide)) n_v_19 i_24 dX3_keep_127 (fun H locs hT => ?_)
    have hI : Inv fr (sC (sC (sC (sC (sV (sV (sV (sV (sF g h 5 (.int z_12)) v_13 cf_14) v_15 cf_16) v_17 cf_18) v_19 cf_20) v_13 z_12.toNatClampNeg x1) v_15 z_12.toNatClampNeg x2) v_17 z_12.toNatClampNeg x3) v_19 z_12.toNatClampNeg x4) := hI.sC (ck r_v_19 trivial)
    have hM : Sm md_s_keep g (sC (sC (sC (sC (sV (sV (sV (sV (sF g h 5 (.int z_12)) v_13 cf_14) v_15 cf_16) v_17 cf_18) v_19 cf_20) v_13 z_12.toNatClampNeg x1) v_15 z_12.toNatClampNeg x2) v_17 z_12.toNatClampNeg x3) v_19 z_12.toNatClampNeg x4) := hM
    have hE : Ex g (sC (sC (sC (sC (sV (sV (sV (sV (sF g h 5 (.int z_12)) v_13 cf_14) v_15 cf_16) v_17 cf_18) v_19 cf_20) v_13 z_12.toNatClampNeg x1) v_15 z_12.toNatClampNeg x2) v_17 z_12.toNatClampNeg x3) v_19 z_12.toNatClampNeg x4) := hE
    refine lv_aload_n hx hb dX3_keep_128 rfl (lv_at hl 0 rfl) ?_
    refine lv_dup hx hb dX3_keep_129 rfl ?_
    refine t_get (ci := 3) (v := .int z_12) hB hT (ro_ci r_h rfl) rfl 5 (by decide) k_158 sF_eq dX3_keep_130 ?_
    refine lv_iconst (v := 1) hx hb dX3_keep_133 (by decide) ?_
    refine lv_iadd hx hb dX3_keep_134 ?_
    refine lv_topi (fun z_25 ez_25 => ?_)
    have e_z_25 : z_25.toInt = z_12.toInt + 1 := i_add ez_25 rfl (by decide) (by omega) (by omega)
    refine t_put0 (ci := 3) (v := .int z_25) hB hT (ro_ci r_h rfl) (ro_n0 r_h (by decide)) rfl 5 (by decide) k_158 (Or.inl rfl) rfl rfl dX3_keep_135 (fun H locs hT => ?_)
    have hI : Inv fr (sF (sC (sC (sC (sC (sV (sV (sV (sV (sF g h 5 (.int z_12)) v_13 cf_14) v_15 cf_16) v_17 cf_18) v_19 cf_20) v_13 z_12.toNatClampNeg x1) v_15 z_12.toNatClampNeg x2) v_17 z_12.toNatClampNeg x3) v_19 z_12.toNatClampNeg x4) h 5 (.int z_25)) := hI.sF (fk r_h (⟨_, rfl, by omega, by omega⟩))
    have hM : Sm md_s_keep g (sF (sC (sC (sC (sC (sV (sV (sV (sV (sF g h 5 (.int z_12)) v_13 cf_14) v_15 cf_16) v_17 cf_18) v_19 cf_20) v_13 z_12.toNatClampNeg x1) v_15 z_12.toNatClampNeg x2) v_17 z_12.toNatClampNeg x3) v_19 z_12.toNatClampNeg x4) h 5 (.int z_25)) := hM.tr hE (Sm_sF (by rw [r_h]; rfl))
    have hE : Ex g (sF (sC (sC (sC (sC (sV (sV (sV (sV (sF g h 5 (.int z_12)) v_13 cf_14) v_15 cf_16) v_17 cf_18) v_19 cf_20) v_13 z_12.toNatClampNeg x1) v_15 z_12.toNatClampNeg x2) v_17 z_12.toNatClampNeg x3) v_19 z_12.toNatClampNeg x4) h 5 (.int z_25)) := hE
    exact t_vret hB hr hT (Nat.le_of_ble_eq_true rfl) (Nat.le_of_ble_eq_true rfl) dX3_keep_138 ⟨rfl, hI, hE, hM⟩
def md_s_copyFrom : Nat → Nat → Bool := fun r k => (r == 4 && k == 0) || (r == 4 && k == 2) || (r == 4 && k == 3) || (r == 4 && k == 4) || (r == 4 && k == 5) || (r == 4 && k == 10) || (r == 4 && k == 11)
set_option maxHeartbeats 4000000 in
set_option maxRecDepth 100000 in
theorem s_copyFrom (l : Launch) (D : va_G) (cI cZ cS cR : ClassId) (N0 : NT) (fr : Int32) (g : GS) (hI : Inv fr g) (h : Nat) (o : Nat) (r_h : g.1 h = 4) (r_o : g.1 o = 4) : Ty l D cI cZ cS cR N0 yX3_copyFrom cX3_copyFrom 2 none 0 0 0 [.ref h, .ref o] g (fun v g' => v = none ∧ Inv fr g' ∧ Ex g g' ∧ Sm md_s_copyFrom g g') := by
  refine t_enter (by decide) (Nat.le_of_ble_eq_true rfl) ?_
  intro p e s m args below meth c ls H locs hB hr hin hl hT
  have hx := hB.1
  have hb := hB.2.1
  have hl : lv_has ls 2 [(0, .ref h), (1, .ref o)] := hl
  have hE : Ex g g := Ex.rf
  have hM : Sm md_s_copyFrom g g := Sm.rf
  refine lv_aload_n hx hb dX3_copyFrom_0 rfl (lv_at hl 0 rfl) ?_
  refine lv_aload_n hx hb dX3_copyFrom_1 rfl (lv_at hl 1 rfl) ?_
  obtain ⟨v_1, e_v_1, r_v_1⟩ := hI.f r_o 0
  refine t_get (ci := 3) (v := .ref v_1) hB hT (ro_ci r_o rfl) rfl 0 (by decide) k_143 e_v_1 dX3_copyFrom_2 ?_
  refine t_put0 (ci := 3) (v := .ref v_1) hB hT (ro_ci r_h rfl) (ro_n0 r_h (by decide)) rfl 0 (by decide) k_143 (Or.inl rfl) rfl rfl dX3_copyFrom_5 (fun H locs hT => ?_)
  have hI : Inv fr (sF g h 0 (.ref v_1)) := hI.sF (fk r_h (⟨_, rfl, r_v_1⟩))
  have hM : Sm md_s_copyFrom g (sF g h 0 (.ref v_1)) := hM.tr hE (Sm_sF (by rw [r_h]; rfl))
  have hE : Ex g (sF g h 0 (.ref v_1)) := hE
  refine lv_aload_n hx hb dX3_copyFrom_8 rfl (lv_at hl 1 rfl) ?_
  obtain ⟨v_2, e_v_2, r_v_2, n_v_2⟩ := hI.f r_o 1
  refine t_get (ci := 3) (v := .ref v_2) hB hT (ro_ci r_o rfl) rfl 1 (by decide) k_146 e_v_2 dX3_copyFrom_9 ?_
  refine lv_iconst (v := 0) hx hb dX3_copyFrom_12 (by decide) ?_
  refine lv_aload_n hx hb dX3_copyFrom_13 rfl (lv_at hl 0 rfl) ?_
  obtain ⟨v_3, e_v_3, r_v_3, n_v_3⟩ := hI.f r_h 1
  refine t_get (ci := 3) (v := .ref v_3) hB hT (ro_ci r_h rfl) rfl 1 (by decide) k_146 e_v_3 dX3_copyFrom_14 ?_
  refine lv_iconst (v := 0) hx hb dX3_copyFrom_17 (by decide) ?_
  refine lv_iconst (v := 4) hx hb dX3_copyFrom_18 (by decide) ?_
  refine t_copy (n0 := 4) (n1 := 4) hB hT k_525 k_496 k_495 k_70 hl.1 r_v_2 r_v_3 (by decide) n_v_2 n_v_3 (by have q0 : (0 : Int32).toInt = 0 := (by decide); have q1 : (4 : Int32).toInt = 4 := (by decide); omega) (by have q0 : (0 : Int32).toInt = 0 := (by decide); have q1 : (4 : Int32).toInt = 4 := (by decide); omega) (by have q0 : (0 : Int32).toInt = 0 := (by decide); have q1 : (4 : Int32).toInt = 4 := (by decide); omega) (by have q0 : (0 : Int32).toInt = 0 := (by decide); have q1 : (4 : Int32).toInt = 4 := (by decide); omega) (by have q0 : (0 : Int32).toInt = 0 := (by decide); have q1 : (4 : Int32).toInt = 4 := (by decide); omega) (Nat.le_of_ble_eq_true rfl) (Nat.le_of_ble_eq_true rfl) dX3_copyFrom_19 hI (fun H locs cf_4 hT hI => ?_)
  have hM : Sm md_s_copyFrom g (sV (sF g h 0 (.ref v_1)) v_3 cf_4) := hM
  have hE : Ex g (sV (sF g h 0 (.ref v_1)) v_3 cf_4) := hE
  refine lv_aload_n hx hb dX3_copyFrom_22 rfl (lv_at hl 0 rfl) ?_
  refine lv_aload_n hx hb dX3_copyFrom_23 rfl (lv_at hl 1 rfl) ?_
  obtain ⟨v_5, e_v_5⟩ := hI.f r_o 2
  refine t_get (ci := 3) (v := .int v_5) hB hT (ro_ci r_o rfl) rfl 2 (by decide) k_149 e_v_5 dX3_copyFrom_24 ?_
  refine t_put0 (ci := 3) (v := .int v_5) hB hT (ro_ci r_h rfl) (ro_n0 r_h (by decide)) rfl 2 (by decide) k_149 (Or.inl rfl) rfl rfl dX3_copyFrom_27 (fun H locs hT => ?_)
  have hI : Inv fr (sF (sV (sF g h 0 (.ref v_1)) v_3 cf_4) h 2 (.int v_5)) := hI.sF (fk r_h (⟨_, rfl⟩))
  have hM : Sm md_s_copyFrom g (sF (sV (sF g h 0 (.ref v_1)) v_3 cf_4) h 2 (.int v_5)) := hM.tr hE (Sm_sF (by rw [r_h]; rfl))
  have hE : Ex g (sF (sV (sF g h 0 (.ref v_1)) v_3 cf_4) h 2 (.int v_5)) := hE
  refine lv_aload_n hx hb dX3_copyFrom_30 rfl (lv_at hl 0 rfl) ?_
  refine lv_aload_n hx hb dX3_copyFrom_31 rfl (lv_at hl 1 rfl) ?_
  obtain ⟨v_6, e_v_6⟩ := hI.f r_o 3
  refine t_get (ci := 3) (v := .int v_6) hB hT (ro_ci r_o rfl) rfl 3 (by decide) k_152 e_v_6 dX3_copyFrom_32 ?_
  refine t_put0 (ci := 3) (v := .int v_6) hB hT (ro_ci r_h rfl) (ro_n0 r_h (by decide)) rfl 3 (by decide) k_152 (Or.inl rfl) rfl rfl dX3_copyFrom_35 (fun H locs hT => ?_)
  have hI : Inv fr (sF (sF (sV (sF g h 0 (.ref v_1)) v_3 cf_4) h 2 (.int v_5)) h 3 (.int v_6)) := hI.sF (fk r_h (⟨_, rfl⟩))
  have hM : Sm md_s_copyFrom g (sF (sF (sV (sF g h 0 (.ref v_1)) v_3 cf_4) h 2 (.int v_5)) h 3 (.int v_6)) := hM.tr hE (Sm_sF (by rw [r_h]; rfl))
  have hE : Ex g (sF (sF (sV (sF g h 0 (.ref v_1)) v_3 cf_4) h 2 (.int v_5)) h 3 (.int v_6)) := hE
  refine lv_aload_n hx hb dX3_copyFrom_38 rfl (lv_at hl 0 rfl) ?_
  refine lv_aload_n hx hb dX3_copyFrom_39 rfl (lv_at hl 1 rfl) ?_
  obtain ⟨v_7, e_v_7⟩ := hI.f r_o 4
  refine t_get (ci := 3) (v := .int v_7) hB hT (ro_ci r_o rfl) rfl 4 (by decide) k_155 e_v_7 dX3_copyFrom_40 ?_
  refine t_put0 (ci := 3) (v := .int v_7) hB hT (ro_ci r_h rfl) (ro_n0 r_h (by decide)) rfl 4 (by decide) k_155 (Or.inl rfl) rfl rfl dX3_copyFrom_43 (fun H locs hT => ?_)
  have hI : Inv fr (sF (sF (sF (sV (sF g h 0 (.ref v_1)) v_3 cf_4) h 2 (.int v_5)) h 3 (.int v_6)) h 4 (.int v_7)) := hI.sF (fk r_h (⟨_, rfl⟩))
  have hM : Sm md_s_copyFrom g (sF (sF (sF (sV (sF g h 0 (.ref v_1)) v_3 cf_4) h 2 (.int v_5)) h 3 (.int v_6)) h 4 (.int v_7)) := hM.tr hE (Sm_sF (by rw [r_h]; rfl))
  have hE : Ex g (sF (sF (sF (sV (sF g h 0 (.ref v_1)) v_3 cf_4) h 2 (.int v_5)) h 3 (.int v_6)) h 4 (.int v_7)) := hE
  refine lv_aload_n hx hb dX3_copyFrom_46 rfl (lv_at hl 0 rfl) ?_
  refine lv_aload_n hx hb dX3_copyFrom_47 rfl (lv_at hl 1 rfl) ?_
  obtain ⟨v_8, e_v_8, l_v_8, u_v_8⟩ := hI.f r_o 5
  refine t_get (ci := 3) (v := .int v_8) hB hT (ro_ci r_o rfl) rfl 5 (by decide) k_158 e_v_8 dX3_copyFrom_48 ?_
  refine t_put0 (ci := 3) (v := .int v_8) hB hT (ro_ci r_h rfl) (ro_n0 r_h (by decide)) rfl 5 (by decide) k_158 (Or.inl rfl) rfl rfl dX3_copyFrom_51 (fun H locs hT => ?_)
  have hI : Inv fr (sF (sF (sF (sF (sV (sF g h 0 (.ref v_1)) v_3 cf_4) h 2 (.int v_5)) h 3 (.int v_6)) h 4 (.int v_7)) h 5 (.int v_8)) := hI.sF (fk r_h (⟨_, rfl, by omega, by omega⟩))
  have hM : Sm md_s_copyFrom g (sF (sF (sF (sF (sV (sF g h 0 (.ref v_1)) v_3 cf_4) h 2 (.int v_5)) h 3 (.int v_6)) h 4 (.int v_7)) h 5 (.int v_8)) := hM.tr hE (Sm_sF (by rw [r_h]; rfl))
  have hE : Ex g (sF (sF (sF (sF (sV (sF g h 0 (.ref v_1)) v_3 cf_4) h 2 (.int v_5)) h 3 (.int v_6)) h 4 (.int v_7)) h 5 (.int v_8)) := hE
  refine lv_aload_n hx hb dX3_copyFrom_54 rfl (lv_at hl 1 rfl) ?_
  obtain ⟨v_9, e_v_9, r_v_9, n_v_9⟩ := hI.f r_o 6
  refine t_get (ci := 3) (v := .ref v_9) hB hT (ro_ci r_o rfl) rfl 6 (by decide) k_159 e_v_9 dX3_copyFrom_55 ?_
  refine lv_iconst (v := 0) hx hb dX3_copyFrom_58 (by decide) ?_
  refine lv_aload_n hx hb dX3_copyFrom_59 rfl (lv_at hl 0 rfl) ?_
  obtain ⟨v_10, e_v_10, r_v_10, n_v_10⟩ := hI.f r_h 6
  refine t_get (ci := 3) (v := .ref v_10) hB hT (ro_ci r_h rfl) rfl 6 (by decide) k_159 e_v_10 dX3_copyFrom_60 ?_
  refine lv_iconst (v := 0) hx hb dX3_copyFrom_63 (by decide) ?_
  refine lv_aload_n hx hb dX3_copyFrom_64 rfl (lv_at hl 0 rfl) ?_
  refine t_get (ci := 3) (v := .int v_8) hB hT (ro_ci r_h rfl) rfl 5 (by decide) k_158 sF_eq dX3_copyFrom_65 ?_
  refine t_copy (n0 := 16) (n1 := 16) hB hT k_525 k_496 k_495 k_70 hl.1 r_v_9 r_v_10 (by decide) n_v_9 n_v_10 (by have q0 : (0 : Int32).toInt = 0 := (by decide); omega) (by have q0 : (0 : Int32).toInt = 0 := (by decide); omega) (by have q0 : (0 : Int32).toInt = 0 := (by decide); omega) (by have q0 : (0 : Int32).toInt = 0 := (by decide); omega) (by have q0 : (0 : Int32).toInt = 0 := (by decide); omega) (Nat.le_of_ble_eq_true rfl) (Nat.le_of_ble_eq_true rfl) dX3_copyFrom_68 hI (fun H locs cf_11 hT hI => ?_)
  have hM : Sm md_s_copyFrom g (sV (sF (sF (sF (sF (sV (sF g h 0 (.ref v_1)) v_3 cf_4) h 2 (.int v_5)) h 3 (.int v_6)) h 4 (.int v_7)) h 5 (.int v_8)) v_10 cf_11) := hM
  have hE : Ex g (sV (sF (sF (sF (sF (sV (sF g h 0 (.ref v_1)) v_3 cf_4) h 2 (.int v_5)) h 3 (.int v_6)) h 4 (.int v_7)) h 5 (.int v_8)) v_10 cf_11) := hE
  refine lv_aload_n hx hb dX3_copyFrom_71 rfl (lv_at hl 1 rfl) ?_
  obtain ⟨v_12, e_v_12, r_v_12, n_v_12⟩ := hI.f r_o 7
  refine t_get (ci := 3) (v := .ref v_12) hB hT (ro_ci r_o rfl) rfl 7 (by decide) k_160 e_v_12 dX3_copyFrom_72 ?_
  refine lv_iconst (v := 0) hx hb dX3_copyFrom_75 (by decide) ?_
  refine lv_aload_n hx hb dX3_copyFrom_76 rfl (lv_at hl 0 rfl) ?_
  obtain ⟨v_13, e_v_13, r_v_13, n_v_13⟩ := hI.f r_h 7
  refine t_get (ci := 3) (v := .ref v_13) hB hT (ro_ci r_h rfl) rfl 7 (by decide) k_160 e_v_13 dX3_copyFrom_77 ?_
  refine lv_iconst (v := 0) hx hb dX3_copyFrom_80 (by decide) ?_
  refine lv_aload_n hx hb dX3_copyFrom_81 rfl (lv_at hl 0 rfl) ?_
  refine t_get (ci := 3) (v := .int v_8) hB hT (ro_ci r_h rfl) rfl 5 (by decide) k_158 sF_eq dX3_copyFrom_82 ?_
  refine t_copy (n0 := 16) (n1 := 16) hB hT k_525 k_496 k_495 k_70 hl.1 r_v_12 r_v_13 (by decide) n_v_12 n_v_13 (by have q0 : (0 : Int32).toInt = 0 := (by decide); omega) (by have q0 : (0 : Int32).toInt = 0 := (by decide); omega) (by have q0 : (0 : Int32).toInt = 0 := (by decide); omega) (by have q0 : (0 : Int32).toInt = 0 := (by decide); omega) (by have q0 : (0 : Int32).toInt = 0 := (by decide); omega) (Nat.le_of_ble_eq_true rfl) (Nat.le_of_ble_eq_true rfl) dX3_copyFrom_85 hI (fun H locs cf_14 hT hI => ?_)
  have hM : Sm md_s_copyFrom g (sV (sV (sF (sF (sF (sF (sV (sF g h 0 (.ref v_1)) v_3 cf_4) h 2 (.int v_5)) h 3 (.int v_6)) h 4 (.int v_7)) h 5 (.int v_8)) v_10 cf_11) v_13 cf_14) := hM
  have hE : Ex g (sV (sV (sF (sF (sF (sF (sV (sF g h 0 (.ref v_1)) v_3 cf_4) h 2 (.int v_5)) h 3 (.int v_6)) h 4 (.int v_7)) h 5 (.int v_8)) v_10 cf_11) v_13 cf_14) := hE
  refine lv_aload_n hx hb dX3_copyFrom_88 rfl (lv_at hl 1 rfl) ?_
  obtain ⟨v_15, e_v_15, r_v_15, n_v_15⟩ := hI.f r_o 8
  refine t_get (ci := 3) (v := .ref v_15) hB hT (ro_ci r_o rfl) rfl 8 (by decide) k_161 e_v_15 dX3_copyFrom_89 ?_
  refine lv_iconst (v := 0) hx hb dX3_copyFrom_92 (by decide) ?_
  refine lv_aload_n hx hb dX3_copyFrom_93 rfl (lv_at hl 0 rfl) ?_
  obtain ⟨v_16, e_v_16, r_v_16, n_v_16⟩ := hI.f r_h 8
  refine t_get (ci := 3) (v := .ref v_16) hB hT (ro_ci r_h rfl) rfl 8 (by decide) k_161 e_v_16 dX3_copyFrom_94 ?_
  refine lv_iconst (v := 0) hx hb dX3_copyFrom_97 (by decide) ?_
  refine lv_aload_n hx hb dX3_copyFrom_98 rfl (lv_at hl 0 rfl) ?_
  refine t_get (ci := 3) (v := .int v_8) hB hT (ro_ci r_h rfl) rfl 5 (by decide) k_158 sF_eq dX3_copyFrom_99 ?_
  refine t_copy (n0 := 16) (n1 := 16) hB hT k_525 k_496 k_495 k_70 hl.1 r_v_15 r_v_16 (by decide) n_v_15 n_v_16 (by have q0 : (0 : Int32).toInt = 0 := (by decide); omega) (by have q0 : (0 : Int32).toInt = 0 := (by decide); omega) (by have q0 : (0 : Int32).toInt = 0 := (by decide); omega) (by have q0 : (0 : Int32).toInt = 0 := (by decide); omega) (by have q0 : (0 : Int32).toInt = 0 := (by decide); omega) (Nat.le_of_ble_eq_true rfl) (Nat.le_of_ble_eq_true rfl) dX3_copyFrom_102 hI (fun H locs cf_17 hT hI => ?_)
  have hM : Sm md_s_copyFrom g (sV (sV (sV (sF (sF (sF (sF (sV (sF g h 0 (.ref v_1)) v_3 cf_4) h 2 (.int v_5)) h 3 (.int v_6)) h 4 (.int v_7)) h 5 (.int v_8)) v_10 cf_11) v_13 cf_14) v_16 cf_17) := hM
  have hE : Ex g (sV (sV (sV (sF (sF (sF (sF (sV (sF g h 0 (.ref v_1)) v_3 cf_4) h 2 (.int v_5)) h 3 (.int v_6)) h 4 (.int v_7)) h 5 (.int v_8)) v_10 cf_11) v_13 cf_14) v_16 cf_17) := hE
  refine lv_aload_n hx hb dX3_copyFrom_105 rfl (lv_at hl 1 rfl) ?_
  obtain ⟨v_18, e_v_18, r_v_18, n_v_18⟩ := hI.f r_o 9
  refine t_get (ci := 3) (v := .ref v_18) hB hT (ro_ci r_o rfl) rfl 9 (by decide) k_162 e_v_18 dX3_copyFrom_106 ?_
  refine lv_iconst (v := 0) hx hb dX3_copyFrom_109 (by decide) ?_
  refine lv_aload_n hx hb dX3_copyFrom_110 rfl (lv_at hl 0 rfl) ?_
  obtain ⟨v_19, e_v_19, r_v_19, n_v_19⟩ := hI.f r_h 9
  refine t_get (ci := 3) (v := .ref v_19) hB hT (ro_ci r_h rfl) rfl 9 (by decide) k_162 e_v_19 dX3_copyFrom_111 ?_
  refine lv_iconst (v := 0) hx hb dX3_copyFrom_114 (by decide) ?_
  refine lv_aload_n hx hb dX3_copyFrom_115 rfl (lv_at hl 0 rfl) ?_
  refine t_get (ci := 3) (v := .int v_8) hB hT (ro_ci r_h rfl) rfl 5 (by decide) k_158 sF_eq dX3_copyFrom_116 ?_
  refine t_copy (n0 := 16) (n1 := 16) hB hT k_525 k_496 k_495 k_70 hl.1 r_v_18 r_v_19 (by decide) n_v_18 n_v_19 (by have q0 : (0 : Int32).toInt = 0 := (by decide); omega) (by have q0 : (0 : Int32).toInt = 0 := (by decide); omega) (by have q0 : (0 : Int32).toInt = 0 := (by decide); omega) (by have q0 : (0 : Int32).toInt = 0 := (by decide); omega) (by have q0 : (0 : Int32).toInt = 0 := (by decide); omega) (Nat.le_of_ble_eq_true rfl) (Nat.le_of_ble_eq_true rfl) dX3_copyFrom_119 hI (fun H locs cf_20 hT hI => ?_)
  have hM : Sm md_s_copyFrom g (sV (sV (sV (sV (sF (sF (sF (sF (sV (sF g h 0 (.ref v_1)) v_3 cf_4) h 2 (.int v_5)) h 3 (.int v_6)) h 4 (.int v_7)) h 5 (.int v_8)) v_10 cf_11) v_13 cf_14) v_16 cf_17) v_19 cf_20) := hM
  have hE : Ex g (sV (sV (sV (sV (sF (sF (sF (sF (sV (sF g h 0 (.ref v_1)) v_3 cf_4) h 2 (.int v_5)) h 3 (.int v_6)) h 4 (.int v_7)) h 5 (.int v_8)) v_10 cf_11) v_13 cf_14) v_16 cf_17) v_19 cf_20) := hE
  refine lv_aload_n hx hb dX3_copyFrom_122 rfl (lv_at hl 0 rfl) ?_
  refine lv_aload_n hx hb dX3_copyFrom_123 rfl (lv_at hl 1 rfl) ?_
  obtain ⟨v_21, e_v_21⟩ := hI.f r_o 10
  refine t_get (ci := 3) (v := .int v_21) hB hT (ro_ci r_o rfl) rfl 10 (by decide) k_163 e_v_21 dX3_copyFrom_124 ?_
  refine t_put0 (ci := 3) (v := .int v_21) hB hT (ro_ci r_h rfl) (ro_n0 r_h (by decide)) rfl 10 (by decide) k_163 (Or.inl rfl) rfl rfl dX3_copyFrom_127 (fun H locs hT => ?_)
  have hI : Inv fr (sF (sV (sV (sV (sV (sF (sF (sF (sF (sV (sF g h 0 (.ref v_1)) v_3 cf_4) h 2 (.int v_5)) h 3 (.int v_6)) h 4 (.int v_7)) h 5 (.int v_8)) v_10 cf_11) v_13 cf_14) v_16 cf_17) v_19 cf_20) h 10 (.int v_21)) := hI.sF (fk r_h (⟨_, rfl⟩))
  have hM : Sm md_s_copyFrom g (sF (sV (sV (sV (sV (sF (sF (sF (sF (sV (sF g h 0 (.ref v_1)) v_3 cf_4) h 2 (.int v_5)) h 3 (.int v_6)) h 4 (.int v_7)) h 5 (.int v_8)) v_10 cf_11) v_13 cf_14) v_16 cf_17) v_19 cf_20) h 10 (.int v_21)) := hM.tr hE (Sm_sF (by rw [r_h]; rfl))
  have hE : Ex g (sF (sV (sV (sV (sV (sF (sF (sF (sF (sV (sF g h 0 (.ref v_1)) v_3 cf_4) h 2 (.int v_5)) h 3 (.int v_6)) h 4 (.int v_7)) h 5 (.int v_8)) v_10 cf_11) v_13 cf_14) v_16 cf_17) v_19 cf_20) h 10 (.int v_21)) := hE
  refine lv_aload_n hx hb dX3_copyFrom_130 rfl (lv_at hl 0 rfl) ?_
  refine lv_aload_n hx hb dX3_copyFrom_131 rfl (lv_at hl 1 rfl) ?_
  obtain ⟨v_22, e_v_22⟩ := hI.f r_o 11
  refine t_get (ci := 3) (v := .int v_22) hB hT (ro_ci r_o rfl) rfl 11 (by decide) k_164 e_v_22 dX3_copyFrom_132 ?_
  refine t_put0 (ci := 3) (v := .int v_22) hB hT (ro_ci r_h rfl) (ro_n0 r_h (by decide)) rfl 11 (by decide) k_164 (Or.inl rfl) rfl rfl dX3_copyFrom_135 (fun H locs hT => ?_)
  have hI : Inv fr (sF (sF (sV (sV (sV (sV (sF (sF (sF (sF (sV (sF g h 0 (.ref v_1)) v_3 cf_4) h 2 (.int v_5)) h 3 (.int v_6)) h 4 (.int v_7)) h 5 (.int v_8)) v_10 cf_11) v_13 cf_14) v_16 cf_17) v_19 cf_20) h 10 (.int v_21)) h 11 (.int v_22)) := hI.sF (fk r_h (⟨_, rfl⟩))
  have hM : Sm md_s_copyFrom g (sF (sF (sV (sV (sV (sV (sF (sF (sF (sF (sV (sF g h 0 (.ref v_1)) v_3 cf_4) h 2 (.int v_5)) h 3 (.int v_6)) h 4 (.int v_7)) h 5 (.int v_8)) v_10 cf_11) v_13 cf_14) v_16 cf_17) v_19 cf_20) h 10 (.int v_21)) h 11 (.int v_22)) := hM.tr hE (Sm_sF (by rw [r_h]; rfl))
  have hE : Ex g (sF (sF (sV (sV (sV (sV (sF (sF (sF (sF (sV (sF g h 0 (.ref v_1)) v_3 cf_4) h 2 (.int v_5)) h 3 (.int v_6)) h 4 (.int v_7)) h 5 (.int v_8)) v_10 cf_11) v_13 cf_14) v_16 cf_17) v_19 cf_20) h 10 (.int v_21)) h 11 (.int v_22)) := hE
  refine lv_aload_n hx hb dX3_copyFrom_138 rfl (lv_at hl 1 rfl) ?_
  obtain ⟨v_23, e_v_23, r_v_23, n_v_23⟩ := hI.f r_o 12
  refine t_get (ci := 3) (v := .ref v_23) hB hT (ro_ci r_o rfl) rfl 12 (by decide) k_165 e_v_23 dX3_copyFrom_139 ?_
  refine lv_iconst (v := 0) hx hb dX3_copyFrom_142 (by decide) ?_
  refine lv_aload_n hx hb dX3_copyFrom_143 rfl (lv_at hl 0 rfl) ?_
  obtain ⟨v_24, e_v_24, r_v_24, n_v_24⟩ := hI.f r_h 12
  refine t_get (ci := 3) (v := .ref v_24) hB hT (ro_ci r_h rfl) rfl 12 (by decide) k_165 e_v_24 dX3_copyFrom_144 ?_
  refine lv_iconst (v := 0) hx hb dX3_copyFrom_147 (by decide) ?_
  refine lv_bipush (v := 8) hx hb dX3_copyFrom_148 (by decide) ?_
  refine t_copy (n0 := 8) (n1 := 8) hB hT k_525 k_496 k_495 k_70 hl.1 r_v_23 r_v_24 (by decide) n_v_23 n_v_24 (by have q0 : (0 : Int32).toInt = 0 := (by decide); have q1 : (8 : Int32).toInt = 8 := (by decide); omega) (by have q0 : (0 : Int32).toInt = 0 := (by decide); have q1 : (8 : Int32).toInt = 8 := (by decide); omega) (by have q0 : (0 : Int32).toInt = 0 := (by decide); have q1 : (8 : Int32).toInt = 8 := (by decide); omega) (by have q0 : (0 : Int32).toInt = 0 := (by decide); have q1 : (8 : Int32).toInt = 8 := (by decide); omega) (by have q0 : (0 : Int32).toInt = 0 := (by decide); have q1 : (8 : Int32).toInt = 8 := (by decide); omega) (Nat.le_of_ble_eq_true rfl) (Nat.le_of_ble_eq_true rfl) dX3_copyFrom_150 hI (fun H locs cf_25 hT hI => ?_)
  have hM : Sm md_s_copyFrom g (sV (sF (sF (sV (sV (sV (sV (sF (sF (sF (sF (sV (sF g h 0 (.ref v_1)) v_3 cf_4) h 2 (.int v_5)) h 3 (.int v_6)) h 4 (.int v_7)) h 5 (.int v_8)) v_10 cf_11) v_13 cf_14) v_16 cf_17) v_19 cf_20) h 10 (.int v_21)) h 11 (.int v_22)) v_24 cf_25) := hM
  have hE : Ex g (sV (sF (sF (sV (sV (sV (sV (sF (sF (sF (sF (sV (sF g h 0 (.ref v_1)) v_3 cf_4) h 2 (.int v_5)) h 3 (.int v_6)) h 4 (.int v_7)) h 5 (.int v_8)) v_10 cf_11) v_13 cf_14) v_16 cf_17) v_19 cf_20) h 10 (.int v_21)) h 11 (.int v_22)) v_24 cf_25) := hE
  exact t_vret hB hr hT (Nat.le_of_ble_eq_true rfl) (Nat.le_of_ble_eq_true rfl) dX3_copyFrom_153 ⟨rfl, hI, hE, hM⟩
def md_s_perform : Nat → Nat → Bool := fun r k => (r == 4 && k == 2)
set_option maxHeartbeats 4000000 in
set_option maxRecDepth 100000 in
theorem s_perform (l : Launch) (D : va_G) (cI cZ cS cR : ClassId) (N0 : NT) (fr : Int32) (g : GS) (hI : Inv fr g) (h : Nat) (n : Int32) (k : Int32) (j : Int32) (r_h : g.1 h = 4) (l_n : 0 ≤ n.toInt) (u_n : n.toInt ≤ 7) : Ty l D cI cZ cS cR N0 yX3_perform cX3_perform 5 (some .int) 0 0 0 [.ref h, .int n, .int k, .int j] g (fun v g' => ∃ (r : Int32), v = some (.int r) ∧ Inv fr g' ∧ Ex g g' ∧ Sm md_s_perform g g') := by
  refine t_enter (by decide) (Nat.le_of_ble_eq_true rfl) ?_
  intro p e s m args below meth c ls H locs hB hr hin hl hT
  have hx := hB.1
  have hb := hB.2.1
  have hl : lv_has ls 5 [(0, .ref h), (1, .int n), (2, .int k), (3, .int j)] := hl
  have hE : Ex g g := Ex.rf
  have hM : Sm md_s_perform g g := Sm.rf
  refine lv_aload_n hx hb dX3_perform_0 rfl (lv_at hl 0 rfl) ?_
  obtain ⟨v_1, e_v_1, r_v_1⟩ := hI.f r_h 0
  refine t_get (ci := 3) (v := .ref v_1) hB hT (ro_ci r_h rfl) rfl 0 (by decide) k_143 e_v_1 dX3_perform_1 ?_
  obtain ⟨v_2, e_v_2, r_v_2, n_v_2⟩ := hI.f r_v_1 1
  refine t_get (ci := 2) (v := .ref v_2) hB hT (ro_ci r_v_1 rfl) rfl 1 (by decide) k_128 e_v_2 dX3_perform_4 ?_
  refine lv_iload_n hx hb dX3_perform_7 rfl (lv_at hl 1 rfl) ?_
  have i_u_3 : vp_in n 8 := (i_in (n := 8) rfl (by omega) (by omega))
  refine t_iald hB hT (ro_in r_v_2 (by decide)) n_v_2 i_u_3 rfl dX3_perform_8 ?_
  have c_u_3 := hI.c r_v_2 n_v_2 (i_cl i_u_3)
  refine lv_topi (fun u_3 e_u_3 => ?_)
  obtain ⟨l_u_3, u_u_3⟩ := c_u_3
  rw [← e_u_3] at l_u_3 u_u_3
  refine lv_istore (lv' := [(4, .int u_3), (0, .ref h), (1, .int n), (2, .int k), (3, .int j)]) hx hb dX3_perform_9 hl (by decide) rfl (fun ls hl => ?_)
  refine lv_iload hx hb dX3_perform_11 (lv_at hl 0 rfl) ?_
  refine lv_iconst (v := 4) hx hb dX3_perform_13 (by decide) ?_
  refine lv_icmp_lt (tgt := 19) hx hb dX3_perform_14 (by decide) (fun c_4 => ?_) (fun c_4 => ?_)
  · have c_4' : u_3.toInt < 4 := i_lt c_4 rfl (by decide)
    refine lv_aload_n hx hb dX3_perform_19 rfl (lv_at hl 1 rfl) ?_
    refine t_get (ci := 3) (v := .ref v_1) hB hT (ro_ci r_h rfl) rfl 0 (by decide) k_143 e_v_1 dX3_perform_20 ?_
    obtain ⟨v_5, e_v_5, r_v_5, n_v_5⟩ := hI.f r_v_1 0
    refine t_get (ci := 2) (v := .ref v_5) hB hT (ro_ci r_v_1 rfl) rfl 0 (by decide) k_124 e_v_5 dX3_perform_23 ?_
    refine lv_iload_n hx hb dX3_perform_26 rfl (lv_at hl 2 rfl) ?_
    have i_u_6 : vp_in n 8 := (i_in (n := 8) rfl (by omega) (by omega))
    refine t_iald hB hT (ro_in r_v_5 (by decide)) n_v_5 i_u_6 rfl dX3_perform_27 ?_
    refine lv_topi (fun u_6 e_u_6 => ?_)
    by_cases ht_7 : (u_6 < 0 ∨ 4 < u_6)
    · refine lv_tableOut (tgt := 165) hx hb dX3_perform_28 (sw_out ht_7) (by decide) ?_
      refine lv_iload_n hx hb dX3_perform_165 rfl (lv_at hl 4 rfl) ?_
      exact t_iret hB hr hT (Nat.le_of_ble_eq_true rfl) (Nat.le_of_ble_eq_true rfl) dX3_perform_166 ⟨j, rfl, hI, hE, hM⟩
    · obtain ⟨j_8, hj_8, ej_8⟩ := sw_in (n := 5) rfl ht_7
      rcases (show j_8 = 0 ∨ j_8 = 1 ∨ j_8 = 2 ∨ j_8 = 3 ∨ j_8 = 4 by omega) with rfl | rfl | rfl | rfl | rfl
      · refine x_ev (y := 0) ej_8 ?_
        refine lv_tableIn (off := 36) (tgt := 64) hx hb dX3_perform_28 (by decide) (by decide) rfl (by decide) ?_
        refine lv_aload_n hx hb dX3_perform_64 rfl (lv_at hl 1 rfl) ?_
        obtain ⟨v_9, e_v_9, r_v_9, n_v_9⟩ := hI.f r_h 1
        refine t_get (ci := 3) (v := .ref v_9) hB hT (ro_ci r_h rfl) rfl 1 (by decide) k_146 e_v_9 dX3_perform_65 ?_
        refine lv_iload hx hb dX3_perform_68 (lv_at hl 0 rfl) ?_
        refine lv_iload_n hx hb dX3_perform_70 rfl (lv_at hl 3 rfl) ?_
        have i_10 : vp_in u_3 4 := (i_in (n := 4) rfl (by omega) (by omega))
        refine t_iast hB hT (ro_in r_v_9 (by decide)) n_v_9 i_10 dX3_perform_71 (fun H locs hT => ?_)
        have hI : Inv fr (sC g v_9 u_3.toNatClampNeg k) := hI.sC (ck r_v_9 trivial)
        have hM : Sm md_s_perform g (sC g v_9 u_3.toNatClampNeg k) := hM
        have hE : Ex g (sC g v_9 u_3.toNatClampNeg k) := hE
        refine lv_iload_n hx hb dX3_perform_72 rfl (lv_at hl 4 rfl) ?_
        exact t_iret hB hr hT (Nat.le_of_ble_eq_true rfl) (Nat.le_of_ble_eq_true rfl) dX3_perform_73 ⟨j, rfl, hI, hE, hM⟩
      · refine x_ev (y := 1) ej_8 ?_
        refine lv_tableIn (off := 46) (tgt := 74) hx hb dX3_perform_28 (by decide) (by decide) rfl (by decide) ?_
        refine lv_aload_n hx hb dX3_perform_74 rfl (lv_at hl 1 rfl) ?_
        obtain ⟨v_11, e_v_11, r_v_11, n_v_11⟩ := hI.f r_h 1
        refine t_get (ci := 3) (v := .ref v_11) hB hT (ro_ci r_h rfl) rfl 1 (by decide) k_146 e_v_11 dX3_perform_75 ?_
        refine lv_iload hx hb dX3_perform_78 (lv_at hl 0 rfl) ?_
        refine lv_aload_n hx hb dX3_perform_80 rfl (lv_at hl 1 rfl) ?_
        refine t_get (ci := 3) (v := .ref v_11) hB hT (ro_ci r_h rfl) rfl 1 (by decide) k_146 e_v_11 dX3_perform_81 ?_
        refine lv_iload hx hb dX3_perform_84 (lv_at hl 0 rfl) ?_
        have i_u_12 : vp_in u_3 4 := (i_in (n := 4) rfl (by omega) (by omega))
        refine t_iald hB hT (ro_in r_v_11 (by decide)) n_v_11 i_u_12 rfl dX3_perform_86 ?_
        refine lv_topi (fun u_12 e_u_12 => ?_)
        refine lv_iload_n hx hb dX3_perform_87 rfl (lv_at hl 3 rfl) ?_
        refine lv_iadd hx hb dX3_perform_88 ?_
        refine lv_topi (fun z_13 ez_13 => ?_)
        refine lv_sipush (v := 1000) hx hb dX3_perform_89 (by decide) ?_
        refine lv_irem hx hb dX3_perform_92 (by decide) ?_
        refine lv_topi (fun z_14 ez_14 => ?_)
        have i_15 : vp_in u_3 4 := (i_in (n := 4) rfl (by omega) (by omega))
        refine t_iast hB hT (ro_in r_v_11 (by decide)) n_v_11 i_15 dX3_perform_93 (fun H locs hT => ?_)
        have hI : Inv fr (sC g v_11 u_3.toNatClampNeg z_14) := hI.sC (ck r_v_11 trivial)
        have hM : Sm md_s_perform g (sC g v_11 u_3.toNatClampNeg z_14) := hM
        have hE : Ex g (sC g v_11 u_3.toNatClampNeg z_14) := hE
        refine lv_iload_n hx hb dX3_perform_94 rfl (lv_at hl 4 rfl) ?_
        exact t_iret hB hr hT (Nat.le_of_ble_eq_true rfl) (Nat.le_of_ble_eq_true rfl) dX3_perform_95 ⟨j, rfl, hI, hE, hM⟩
      · refine x_ev (y := 2) ej_8 ?_
        refine lv_tableIn (off := 68) (tgt := 96) hx hb dX3_perform_28 (by decide) (by decide) rfl (by decide) ?_
        refine lv_aload_n hx hb dX3_perform_96 rfl (lv_at hl 1 rfl) ?_
        obtain ⟨v_16, e_v_16, r_v_16, n_v_16⟩ := hI.f r_h 1
        refine t_get (ci := 3) (v := .ref v_16) hB hT (ro_ci r_h rfl) rfl 1 (by decide) k_146 e_v_16 dX3_perform_97 ?_
        refine lv_iload hx hb dX3_perform_100 (lv_at hl 0 rfl) ?_
        refine lv_iload_n hx hb dX3_perform_102 rfl (lv_at hl 3 rfl) ?_
        refine lv_aload_n hx hb dX3_perform_103 rfl (lv_at hl 1 rfl) ?_
        refine t_get (ci := 3) (v := .ref v_16) hB hT (ro_ci r_h rfl) rfl 1 (by decide) k_146 e_v_16 dX3_perform_104 ?_
        refine lv_iload hx hb dX3_perform_107 (lv_at hl 0 rfl) ?_
        have i_u_17 : vp_in u_3 4 := (i_in (n := 4) rfl (by omega) (by omega))
        refine t_iald hB hT (ro_in r_v_16 (by decide)) n_v_16 i_u_17 rfl dX3_perform_109 ?_
        refine lv_topi (fun u_17 e_u_17 => ?_)
        refine lv_icmp_le (tgt := 117) hx hb dX3_perform_110 (by decide) (fun c_18 => ?_) (fun c_18 => ?_)
        · have c_18' : k.toInt ≤ u_17.toInt := i_le c_18 rfl rfl
          refine lv_aload_n hx hb dX3_perform_117 rfl (lv_at hl 1 rfl) ?_
          refine t_get (ci := 3) (v := .ref v_16) hB hT (ro_ci r_h rfl) rfl 1 (by decide) k_146 e_v_16 dX3_perform_118 ?_
          refine lv_iload hx hb dX3_perform_121 (lv_at hl 0 rfl) ?_
          have i_u_19 : vp_in u_3 4 := (i_in (n := 4) rfl (by omega) (by omega))
          refine t_iald hB hT (ro_in r_v_16 (by decide)) n_v_16 i_u_19 rfl dX3_perform_123 ?_
          refine lv_topi (fun u_19 e_u_19 => ?_)
          have i_20 : vp_in u_3 4 := (i_in (n := 4) rfl (by omega) (by omega))
          refine t_iast hB hT (ro_in r_v_16 (by decide)) n_v_16 i_20 dX3_perform_124 (fun H locs hT => ?_)
          have hI : Inv fr (sC g v_16 u_3.toNatClampNeg u_19) := hI.sC (ck r_v_16 trivial)
          have hM : Sm md_s_perform g (sC g v_16 u_3.toNatClampNeg u_19) := hM
          have hE : Ex g (sC g v_16 u_3.toNatClampNeg u_19) := hE
          refine lv_iload_n hx hb dX3_perform_125 rfl (lv_at hl 4 rfl) ?_
          exact t_iret hB hr hT (Nat.le_of_ble_eq_true rfl) (Nat.le_of_ble_eq_true rfl) dX3_perform_126 ⟨j, rfl, hI, hE, hM⟩
        · have c_18' : u_17.toInt < k.toInt := i_nle c_18 rfl rfl
          refine lv_iload_n hx hb dX3_perform_113 rfl (lv_at hl 3 rfl) ?_
          refine lv_goto (tgt := 124) hx hb dX3_perform_114 (by decide) ?_
          have i_21 : vp_in u_3 4 := (i_in (n := 4) rfl (by omega) (by omega))
          refine t_iast hB hT (ro_in r_v_16 (by decide)) n_v_16 i_21 dX3_perform_124 (fun H locs hT => ?_)
          have hI : Inv fr (sC g v_16 u_3.toNatClampNeg k) := hI.sC (ck r_v_16 trivial)
          have hM : Sm md_s_perform g (sC g v_16 u_3.toNatClampNeg k) := hM
          have hE : Ex g (sC g v_16 u_3.toNatClampNeg k) := hE
          refine lv_iload_n hx hb dX3_perform_125 rfl (lv_at hl 4 rfl) ?_
          exact t_iret hB hr hT (Nat.le_of_ble_eq_true rfl) (Nat.le_of_ble_eq_true rfl) dX3_perform_126 ⟨j, rfl, hI, hE, hM⟩
      · refine x_ev (y := 3) ej_8 ?_
        refine lv_tableIn (off := 99) (tgt := 127) hx hb dX3_perform_28 (by decide) (by decide) rfl (by decide) ?_
        refine lv_aload_n hx hb dX3_perform_127 rfl (lv_at hl 1 rfl) ?_
        refine lv_aload_n hx hb dX3_perform_128 rfl (lv_at hl 1 rfl) ?_
        obtain ⟨v_22, e_v_22⟩ := hI.f r_h 2
        refine t_get (ci := 3) (v := .int v_22) hB hT (ro_ci r_h rfl) rfl 2 (by decide) k_149 e_v_22 dX3_perform_129 ?_
        refine lv_iconst (v := 1) hx hb dX3_perform_132 (by decide) ?_
        refine lv_iadd hx hb dX3_perform_133 ?_
        refine lv_topi (fun z_23 ez_23 => ?_)
        refine lv_sipush (v := 1000) hx hb dX3_perform_134 (by decide) ?_
        refine lv_irem hx hb dX3_perform_137 (by decide) ?_
        refine lv_topi (fun z_24 ez_24 => ?_)
        refine t_put0 (ci := 3) (v := .int z_24) hB hT (ro_ci r_h rfl) (ro_n0 r_h (by decide)) rfl 2 (by decide) k_149 (Or.inl rfl) rfl rfl dX3_perform_138 (fun H locs hT => ?_)
        have hI : Inv fr (sF g h 2 (.int z_24)) := hI.sF (fk r_h (⟨_, rfl⟩))
        have hM : Sm md_s_perform g (sF g h 2 (.int z_24)) := hM.tr hE (Sm_sF (by rw [r_h]; rfl))
        have hE : Ex g (sF g h 2 (.int z_24)) := hE
        refine lv_aload_n hx hb dX3_perform_141 rfl (lv_at hl 1 rfl) ?_
        obtain ⟨v_25, e_v_25, r_v_25, n_v_25⟩ := hI.f r_h 1
        refine t_get (ci := 3) (v := .ref v_25) hB hT (ro_ci r_h rfl) rfl 1 (by decide) k_146 e_v_25 dX3_perform_142 ?_
        refine lv_iload hx hb dX3_perform_145 (lv_at hl 0 rfl) ?_
        refine lv_aload_n hx hb dX3_perform_147 rfl (lv_at hl 1 rfl) ?_
        refine t_get (ci := 3) (v := .int z_24) hB hT (ro_ci r_h rfl) rfl 2 (by decide) k_149 sF_eq dX3_perform_148 ?_
        have i_26 : vp_in u_3 4 := (i_in (n := 4) rfl (by omega) (by omega))
        refine t_iast hB hT (ro_in r_v_25 (by decide)) n_v_25 i_26 dX3_perform_151 (fun H locs hT => ?_)
        have hI : Inv fr (sC (sF g h 2 (.int z_24)) v_25 u_3.toNatClampNeg z_24) := hI.sC (ck r_v_25 trivial)
        have hM : Sm md_s_perform g (sC (sF g h 2 (.int z_24)) v_25 u_3.toNatClampNeg z_24) := hM
        have hE : Ex g (sC (sF g h 2 (.int z_24)) v_25 u_3.toNatClampNeg z_24) := hE
        refine lv_aload_n hx hb dX3_perform_152 rfl (lv_at hl 1 rfl) ?_
        refine t_get (ci := 3) (v := .int z_24) hB hT (ro_ci r_h rfl) rfl 2 (by decide) k_149 sF_eq dX3_perform_153 ?_
        exact t_iret hB hr hT (Nat.le_of_ble_eq_true rfl) (Nat.le_of_ble_eq_true rfl) dX3_perform_156 ⟨z_24, rfl, hI, hE, hM⟩
      · refine x_ev (y := 4) ej_8 ?_
        refine lv_tableIn (off := 129) (tgt := 157) hx hb dX3_perform_28 (by decide) (by decide) rfl (by decide) ?_
        refine lv_aload_n hx hb dX3_perform_157 rfl (lv_at hl 1 rfl) ?_
        obtain ⟨v_27, e_v_27, r_v_27, n_v_27⟩ := hI.f r_h 1
        refine t_get (ci := 3) (v := .ref v_27) hB hT (ro_ci r_h rfl) rfl 1 (by decide) k_146 e_v_27 dX3_perform_158 ?_
        refine lv_iload hx hb dX3_perform_161 (lv_at hl 0 rfl) ?_
        have i_u_28 : vp_in u_3 4 := (i_in (n := 4) rfl (by omega) (by omega))
        refine t_iald hB hT (ro_in r_v_27 (by decide)) n_v_27 i_u_28 rfl dX3_perform_163 ?_
        refine lv_topi (fun u_28 e_u_28 => ?_)
        exact t_iret hB hr hT (Nat.le_of_ble_eq_true rfl) (Nat.le_of_ble_eq_true rfl) dX3_perform_164 ⟨u_28, rfl, hI, hE, hM⟩
  · have c_4' : 4 ≤ u_3.toInt := i_nlt c_4 rfl (by decide)
    refine lv_iload_n hx hb dX3_perform_17 rfl (lv_at hl 4 rfl) ?_
    exact t_iret hB hr hT (Nat.le_of_ble_eq_true rfl) (Nat.le_of_ble_eq_true rfl) dX3_perform_18 ⟨j, rfl, hI, hE, hM⟩
def md_s_dropOldest1 : Nat → Nat → Bool := fun r k => (r == 1 && k == 3)
set_option maxHeartbeats 4000000 in
set_option maxRecDepth 100000 in
theorem s_dropOldest1 (l : Launch) (D : va_G) (cI cZ cS cR : ClassId) (N0 : NT) (fr : Int32) (g : GS) (hI : Inv fr g) (h : Nat) (r_h : g.1 h = 1) (kz : g.2.1 h 3 = .int 6) : Ty l D cI cZ cS cR N0 yX0_dropOldest cX0_dropOldest 1 none 0 0 0 [.ref h] g (fun v g' => v = none ∧ Inv fr g' ∧ Ex g g' ∧ Sm md_s_dropOldest1 g g') := by
  refine t_enter (by decide) (Nat.le_of_ble_eq_true rfl) ?_
  intro p e s m args below meth c ls H locs hB hr hin hl hT
  have hx := hB.1
  have hb := hB.2.1
  have hl : lv_has ls 1 [(0, .ref h)] := hl
  have hE : Ex g g := Ex.rf
  have hM : Sm md_s_dropOldest1 g g := Sm.rf
  refine lv_aload_n hx hb dX0_dropOldest_0 rfl (lv_at hl 0 rfl) ?_
  refine lv_dup hx hb dX0_dropOldest_1 rfl ?_
  refine t_get (ci := 0) (v := .int 6) hB hT (ro_ci r_h rfl) rfl 3 (by decide) k_253 kz dX0_dropOldest_2 ?_
  refine lv_iconst (v := 1) hx hb dX0_dropOldest_5 (by decide) ?_
  refine lv_isub hx hb dX0_dropOldest_6 ?_
  refine x_ev (y := 5) (by decide) ?_
  refine t_put0 (ci := 0) (v := .int 5) hB hT (ro_ci r_h rfl) (ro_n0 r_h (by decide)) rfl 3 (by decide) k_253 (Or.inl rfl) rfl rfl dX0_dropOldest_7 (fun H locs hT => ?_)
  have hI : Inv fr (sF g h 3 (.int 5)) := hI.sF (fk r_h (⟨_, rfl, by decide, by decide⟩))
  have hM : Sm md_s_dropOldest1 g (sF g h 3 (.int 5)) := hM.tr hE (Sm_sF (by rw [r_h]; rfl))
  have hE : Ex g (sF g h 3 (.int 5)) := hE
  refine lv_aload_n hx hb dX0_dropOldest_10 rfl (lv_at hl 0 rfl) ?_
  obtain ⟨v_1, e_v_1, r_v_1, n_v_1⟩ := hI.f r_h 0
  refine t_get (ci := 0) (v := .ref v_1) hB hT (ro_ci r_h rfl) rfl 0 (by decide) k_243 e_v_1 dX0_dropOldest_11 ?_
  refine lv_iconst (v := 1) hx hb dX0_dropOldest_14 (by decide) ?_
  refine lv_aload_n hx hb dX0_dropOldest_15 rfl (lv_at hl 0 rfl) ?_
  refine t_get (ci := 0) (v := .ref v_1) hB hT (ro_ci r_h rfl) rfl 0 (by decide) k_243 e_v_1 dX0_dropOldest_16 ?_
  refine lv_iconst (v := 0) hx hb dX0_dropOldest_19 (by decide) ?_
  refine lv_aload_n hx hb dX0_dropOldest_20 rfl (lv_at hl 0 rfl) ?_
  refine t_get (ci := 0) (v := .int 5) hB hT (ro_ci r_h rfl) rfl 3 (by decide) k_253 sF_eq dX0_dropOldest_21 ?_
  refine t_copy (n0 := 6) (n1 := 6) hB hT k_494 k_496 k_495 k_70 hl.1 r_v_1 r_v_1 (by decide) n_v_1 n_v_1 (by have q0 : (0 : Int32).toInt = 0 := (by decide); have q1 : (1 : Int32).toInt = 1 := (by decide); have q2 : (5 : Int32).toInt = 5 := (by decide); omega) (by have q0 : (0 : Int32).toInt = 0 := (by decide); have q1 : (1 : Int32).toInt = 1 := (by decide); have q2 : (5 : Int32).toInt = 5 := (by decide); omega) (by have q0 : (0 : Int32).toInt = 0 := (by decide); have q1 : (1 : Int32).toInt = 1 := (by decide); have q2 : (5 : Int32).toInt = 5 := (by decide); omega) (by have q0 : (0 : Int32).toInt = 0 := (by decide); have q1 : (1 : Int32).toInt = 1 := (by decide); have q2 : (5 : Int32).toInt = 5 := (by decide); omega) (by have q0 : (0 : Int32).toInt = 0 := (by decide); have q1 : (1 : Int32).toInt = 1 := (by decide); have q2 : (5 : Int32).toInt = 5 := (by decide); omega) (Nat.le_of_ble_eq_true rfl) (Nat.le_of_ble_eq_true rfl) dX0_dropOldest_24 hI (fun H locs cf_2 hT hI => ?_)
  have hM : Sm md_s_dropOldest1 g (sV (sF g h 3 (.int 5)) v_1 cf_2) := hM
  have hE : Ex g (sV (sF g h 3 (.int 5)) v_1 cf_2) := hE
  refine lv_aload_n hx hb dX0_dropOldest_27 rfl (lv_at hl 0 rfl) ?_
  obtain ⟨v_3, e_v_3, r_v_3, n_v_3⟩ := hI.f r_h 1
  refine t_get (ci := 0) (v := .ref v_3) hB hT (ro_ci r_h rfl) rfl 1 (by decide) k_247 e_v_3 dX0_dropOldest_28 ?_
  refine lv_iconst (v := 1) hx hb dX0_dropOldest_31 (by decide) ?_
  refine lv_aload_n hx hb dX0_dropOldest_32 rfl (lv_at hl 0 rfl) ?_
  refine t_get (ci := 0) (v := .ref v_3) hB hT (ro_ci r_h rfl) rfl 1 (by decide) k_247 e_v_3 dX0_dropOldest_33 ?_
  refine lv_iconst (v := 0) hx hb dX0_dropOldest_36 (by decide) ?_
  refine lv_aload_n hx hb dX0_dropOldest_37 rfl (lv_at hl 0 rfl) ?_
  refine t_get (ci := 0) (v := .int 5) hB hT (ro_ci r_h rfl) rfl 3 (by decide) k_253 sF_eq dX0_dropOldest_38 ?_
  refine t_copy (n0 := 6) (n1 := 6) hB hT k_494 k_496 k_495 k_70 hl.1 r_v_3 r_v_3 (by decide) n_v_3 n_v_3 (by have q0 : (0 : Int32).toInt = 0 := (by decide); have q1 : (1 : Int32).toInt = 1 := (by decide); have q2 : (5 : Int32).toInt = 5 := (by decide); omega) (by have q0 : (0 : Int32).toInt = 0 := (by decide); have q1 : (1 : Int32).toInt = 1 := (by decide); have q2 : (5 : Int32).toInt = 5 := (by decide); omega) (by have q0 : (0 : Int32).toInt = 0 := (by decide); have q1 : (1 : Int32).toInt = 1 := (by decide); have q2 : (5 : Int32).toInt = 5 := (by decide); omega) (by have q0 : (0 : Int32).toInt = 0 := (by decide); have q1 : (1 : Int32).toInt = 1 := (by decide); have q2 : (5 : Int32).toInt = 5 := (by decide); omega) (by have q0 : (0 : Int32).toInt = 0 := (by decide); have q1 : (1 : Int32).toInt = 1 := (by decide); have q2 : (5 : Int32).toInt = 5 := (by decide); omega) (Nat.le_of_ble_eq_true rfl) (Nat.le_of_ble_eq_true rfl) dX0_dropOldest_41 hI (fun H locs cf_4 hT hI => ?_)
  have hM : Sm md_s_dropOldest1 g (sV (sV (sF g h 3 (.int 5)) v_1 cf_2) v_3 cf_4) := hM
  have hE : Ex g (sV (sV (sF g h 3 (.int 5)) v_1 cf_2) v_3 cf_4) := hE
  refine lv_aload_n hx hb dX0_dropOldest_44 rfl (lv_at hl 0 rfl) ?_
  obtain ⟨v_5, e_v_5, r_v_5, n_v_5⟩ := hI.f r_h 2
  refine t_get (ci := 0) (v := .ref v_5) hB hT (ro_ci r_h rfl) rfl 2 (by decide) k_250 e_v_5 dX0_dropOldest_45 ?_
  refine lv_iconst (v := 1) hx hb dX0_dropOldest_48 (by decide) ?_
  refine lv_aload_n hx hb dX0_dropOldest_49 rfl (lv_at hl 0 rfl) ?_
  refine t_get (ci := 0) (v := .ref v_5) hB hT (ro_ci r_h rfl) rfl 2 (by decide) k_250 e_v_5 dX0_dropOldest_50 ?_
  refine lv_iconst (v := 0) hx hb dX0_dropOldest_53 (by decide) ?_
  refine lv_aload_n hx hb dX0_dropOldest_54 rfl (lv_at hl 0 rfl) ?_
  refine t_get (ci := 0) (v := .int 5) hB hT (ro_ci r_h rfl) rfl 3 (by decide) k_253 sF_eq dX0_dropOldest_55 ?_
  refine t_copy (n0 := 6) (n1 := 6) hB hT k_494 k_496 k_495 k_70 hl.1 r_v_5 r_v_5 (by decide) n_v_5 n_v_5 (by have q0 : (0 : Int32).toInt = 0 := (by decide); have q1 : (1 : Int32).toInt = 1 := (by decide); have q2 : (5 : Int32).toInt = 5 := (by decide); omega) (by have q0 : (0 : Int32).toInt = 0 := (by decide); have q1 : (1 : Int32).toInt = 1 := (by decide); have q2 : (5 : Int32).toInt = 5 := (by decide); omega) (by have q0 : (0 : Int32).toInt = 0 := (by decide); have q1 : (1 : Int32).toInt = 1 := (by decide); have q2 : (5 : Int32).toInt = 5 := (by decide); omega) (by have q0 : (0 : Int32).toInt = 0 := (by decide); have q1 : (1 : Int32).toInt = 1 := (by decide); have q2 : (5 : Int32).toInt = 5 := (by decide); omega) (by have q0 : (0 : Int32).toInt = 0 := (by decide); have q1 : (1 : Int32).toInt = 1 := (by decide); have q2 : (5 : Int32).toInt = 5 := (by decide); omega) (Nat.le_of_ble_eq_true rfl) (Nat.le_of_ble_eq_true rfl) dX0_dropOldest_58 hI (fun H locs cf_6 hT hI => ?_)
  have hM : Sm md_s_dropOldest1 g (sV (sV (sV (sF g h 3 (.int 5)) v_1 cf_2) v_3 cf_4) v_5 cf_6) := hM
  have hE : Ex g (sV (sV (sV (sF g h 3 (.int 5)) v_1 cf_2) v_3 cf_4) v_5 cf_6) := hE
  exact t_vret hB hr hT (Nat.le_of_ble_eq_true rfl) (Nat.le_of_ble_eq_true rfl) dX0_dropOldest_61 ⟨rfl, hI, hE, hM⟩
def md_s_dropOldest9 : Nat → Nat → Bool := fun r k => (r == 9 && k == 3)
set_option maxHeartbeats 4000000 in
set_option maxRecDepth 100000 in
theorem s_dropOldest9 (l : Launch) (D : va_G) (cI cZ cS cR : ClassId) (N0 : NT) (fr : Int32) (g : GS) (hI : Inv fr g) (h : Nat) (r_h : g.1 h = 9) (kz : g.2.1 h 3 = .int 20) : Ty l D cI cZ cS cR N0 yX0_dropOldest cX0_dropOldest 1 none 0 0 0 [.ref h] g (fun v g' => v = none ∧ Inv fr g' ∧ Ex g g' ∧ Sm md_s_dropOldest9 g g') := by
  refine t_enter (by decide) (Nat.le_of_ble_eq_true rfl) ?_
  intro p e s m args below meth c ls H locs hB hr hin hl hT
  have hx := hB.1
  have hb := hB.2.1
  have hl : lv_has ls 1 [(0, .ref h)] := hl
  have hE : Ex g g := Ex.rf
  have hM : Sm md_s_dropOldest9 g g := Sm.rf
  refine lv_aload_n hx hb dX0_dropOldest_0 rfl (lv_at hl 0 rfl) ?_
  refine lv_dup hx hb dX0_dropOldest_1 rfl ?_
  refine t_get (ci := 0) (v := .int 20) hB hT (ro_ci r_h rfl) rfl 3 (by decide) k_253 kz dX0_dropOldest_2 ?_
  refine lv_iconst (v := 1) hx hb dX0_dropOldest_5 (by decide) ?_
  refine lv_isub hx hb dX0_dropOldest_6 ?_
  refine x_ev (y := 19) (by decide) ?_
  refine t_put0 (ci := 0) (v := .int 19) hB hT (ro_ci r_h rfl) (ro_n0 r_h (by decide)) rfl 3 (by decide) k_253 (Or.inl rfl) rfl rfl dX0_dropOldest_7 (fun H locs hT => ?_)
  have hI : Inv fr (sF g h 3 (.int 19)) := hI.sF (fk r_h (⟨_, rfl, by decide, by decide⟩))
  have hM : Sm md_s_dropOldest9 g (sF g h 3 (.int 19)) := hM.tr hE (Sm_sF (by rw [r_h]; rfl))
  have hE : Ex g (sF g h 3 (.int 19)) := hE
  refine lv_aload_n hx hb dX0_dropOldest_10 rfl (lv_at hl 0 rfl) ?_
  obtain ⟨v_1, e_v_1, r_v_1, n_v_1⟩ := hI.f r_h 0
  refine t_get (ci := 0) (v := .ref v_1) hB hT (ro_ci r_h rfl) rfl 0 (by decide) k_243 e_v_1 dX0_dropOldest_11 ?_
  refine lv_iconst (v := 1) hx hb dX0_dropOldest_14 (by decide) ?_
  refine lv_aload_n hx hb dX0_dropOldest_15 rfl (lv_at hl 0 rfl) ?_
  refine t_get (ci := 0) (v := .ref v_1) hB hT (ro_ci r_h rfl) rfl 0 (by decide) k_243 e_v_1 dX0_dropOldest_16 ?_
  refine lv_iconst (v := 0) hx hb dX0_dropOldest_19 (by decide) ?_
  refine lv_aload_n hx hb dX0_dropOldest_20 rfl (lv_at hl 0 rfl) ?_
  refine t_get (ci := 0) (v := .int 19) hB hT (ro_ci r_h rfl) rfl 3 (by decide) k_253 sF_eq dX0_dropOldest_21 ?_
  refine t_copy (n0 := 20) (n1 := 20) hB hT k_494 k_496 k_495 k_70 hl.1 r_v_1 r_v_1 (by decide) n_v_1 n_v_1 (by have q0 : (0 : Int32).toInt = 0 := (by decide); have q1 : (1 : Int32).toInt = 1 := (by decide); have q2 : (19 : Int32).toInt = 19 := (by decide); omega) (by have q0 : (0 : Int32).toInt = 0 := (by decide); have q1 : (1 : Int32).toInt = 1 := (by decide); have q2 : (19 : Int32).toInt = 19 := (by decide); omega) (by have q0 : (0 : Int32).toInt = 0 := (by decide); have q1 : (1 : Int32).toInt = 1 := (by decide); have q2 : (19 : Int32).toInt = 19 := (by decide); omega) (by have q0 : (0 : Int32).toInt = 0 := (by decide); have q1 : (1 : Int32).toInt = 1 := (by decide); have q2 : (19 : Int32).toInt = 19 := (by decide); omega) (by have q0 : (0 : Int32).toInt = 0 := (by decide); have q1 : (1 : Int32).toInt = 1 := (by decide); have q2 : (19 : Int32).toInt = 19 := (by decide); omega) (Nat.le_of_ble_eq_true rfl) (Nat.le_of_ble_eq_true rfl) dX0_dropOldest_24 hI (fun H locs cf_2 hT hI => ?_)
  have hM : Sm md_s_dropOldest9 g (sV (sF g h 3 (.int 19)) v_1 cf_2) := hM
  have hE : Ex g (sV (sF g h 3 (.int 19)) v_1 cf_2) := hE
  refine lv_aload_n hx hb dX0_dropOldest_27 rfl (lv_at hl 0 rfl) ?_
  obtain ⟨v_3, e_v_3, r_v_3, n_v_3⟩ := hI.f r_h 1
  refine t_get (ci := 0) (v := .ref v_3) hB hT (ro_ci r_h rfl) rfl 1 (by decide) k_247 e_v_3 dX0_dropOldest_28 ?_
  refine lv_iconst (v := 1) hx hb dX0_dropOldest_31 (by decide) ?_
  refine lv_aload_n hx hb dX0_dropOldest_32 rfl (lv_at hl 0 rfl) ?_
  refine t_get (ci := 0) (v := .ref v_3) hB hT (ro_ci r_h rfl) rfl 1 (by decide) k_247 e_v_3 dX0_dropOldest_33 ?_
  refine lv_iconst (v := 0) hx hb dX0_dropOldest_36 (by decide) ?_
  refine lv_aload_n hx hb dX0_dropOldest_37 rfl (lv_at hl 0 rfl) ?_
  refine t_get (ci := 0) (v := .int 19) hB hT (ro_ci r_h rfl) rfl 3 (by decide) k_253 sF_eq dX0_dropOldest_38 ?_
  refine t_copy (n0 := 20) (n1 := 20) hB hT k_494 k_496 k_495 k_70 hl.1 r_v_3 r_v_3 (by decide) n_v_3 n_v_3 (by have q0 : (0 : Int32).toInt = 0 := (by decide); have q1 : (1 : Int32).toInt = 1 := (by decide); have q2 : (19 : Int32).toInt = 19 := (by decide); omega) (by have q0 : (0 : Int32).toInt = 0 := (by decide); have q1 : (1 : Int32).toInt = 1 := (by decide); have q2 : (19 : Int32).toInt = 19 := (by decide); omega) (by have q0 : (0 : Int32).toInt = 0 := (by decide); have q1 : (1 : Int32).toInt = 1 := (by decide); have q2 : (19 : Int32).toInt = 19 := (by decide); omega) (by have q0 : (0 : Int32).toInt = 0 := (by decide); have q1 : (1 : Int32).toInt = 1 := (by decide); have q2 : (19 : Int32).toInt = 19 := (by decide); omega) (by have q0 : (0 : Int32).toInt = 0 := (by decide); have q1 : (1 : Int32).toInt = 1 := (by decide); have q2 : (19 : Int32).toInt = 19 := (by decide); omega) (Nat.le_of_ble_eq_true rfl) (Nat.le_of_ble_eq_true rfl) dX0_dropOldest_41 hI (fun H locs cf_4 hT hI => ?_)
  have hM : Sm md_s_dropOldest9 g (sV (sV (sF g h 3 (.int 19)) v_1 cf_2) v_3 cf_4) := hM
  have hE : Ex g (sV (sV (sF g h 3 (.int 19)) v_1 cf_2) v_3 cf_4) := hE
  refine lv_aload_n hx hb dX0_dropOldest_44 rfl (lv_at hl 0 rfl) ?_
  obtain ⟨v_5, e_v_5, r_v_5, n_v_5⟩ := hI.f r_h 2
  refine t_get (ci := 0) (v := .ref v_5) hB hT (ro_ci r_h rfl) rfl 2 (by decide) k_250 e_v_5 dX0_dropOldest_45 ?_
  refine lv_iconst (v := 1) hx hb dX0_dropOldest_48 (by decide) ?_
  refine lv_aload_n hx hb dX0_dropOldest_49 rfl (lv_at hl 0 rfl) ?_
  refine t_get (ci := 0) (v := .ref v_5) hB hT (ro_ci r_h rfl) rfl 2 (by decide) k_250 e_v_5 dX0_dropOldest_50 ?_
  refine lv_iconst (v := 0) hx hb dX0_dropOldest_53 (by decide) ?_
  refine lv_aload_n hx hb dX0_dropOldest_54 rfl (lv_at hl 0 rfl) ?_
  refine t_get (ci := 0) (v := .int 19) hB hT (ro_ci r_h rfl) rfl 3 (by decide) k_253 sF_eq dX0_dropOldest_55 ?_
  refine t_copy (n0 := 20) (n1 := 20) hB hT k_494 k_496 k_495 k_70 hl.1 r_v_5 r_v_5 (by decide) n_v_5 n_v_5 (by have q0 : (0 : Int32).toInt = 0 := (by decide); have q1 : (1 : Int32).toInt = 1 := (by decide); have q2 : (19 : Int32).toInt = 19 := (by decide); omega) (by have q0 : (0 : Int32).toInt = 0 := (by decide); have q1 : (1 : Int32).toInt = 1 := (by decide); have q2 : (19 : Int32).toInt = 19 := (by decide); omega) (by have q0 : (0 : Int32).toInt = 0 := (by decide); have q1 : (1 : Int32).toInt = 1 := (by decide); have q2 : (19 : Int32).toInt = 19 := (by decide); omega) (by have q0 : (0 : Int32).toInt = 0 := (by decide); have q1 : (1 : Int32).toInt = 1 := (by decide); have q2 : (19 : Int32).toInt = 19 := (by decide); omega) (by have q0 : (0 : Int32).toInt = 0 := (by decide); have q1 : (1 : Int32).toInt = 1 := (by decide); have q2 : (19 : Int32).toInt = 19 := (by decide); omega) (Nat.le_of_ble_eq_true rfl) (Nat.le_of_ble_eq_true rfl) dX0_dropOldest_58 hI (fun H locs cf_6 hT hI => ?_)
  have hM : Sm md_s_dropOldest9 g (sV (sV (sV (sF g h 3 (.int 19)) v_1 cf_2) v_3 cf_4) v_5 cf_6) := hM
  have hE : Ex g (sV (sV (sV (sF g h 3 (.int 19)) v_1 cf_2) v_3 cf_4) v_5 cf_6) := hE
  exact t_vret hB hr hT (Nat.le_of_ble_eq_true rfl) (Nat.le_of_ble_eq_true rfl) dX0_dropOldest_61 ⟨rfl, hI, hE, hM⟩
