theorem k_30 : Cond.selects RX7 yX7_isReader yX7_isReader ∈ tb := mt 30 (by decide +kernel) rfl
theorem k_1016 : Cond.methodLink RX7 229 yX7_isReader ∈ tb := mt 1016 (by decide +kernel) rfl
theorem k_1018 : Cond.instanceMethod yX7_isReader ∈ tb := mt 1018 (by decide +kernel) rfl
set_option maxRecDepth 20000 in
theorem k_1019 : Cond.code yX7_isReader cX7_isReader 7 (some .boolean) ∈ tb := mt 1019 rfl rfl
theorem dX7_again_104 : decode cX7_again 104 = .ok (.iload_n 2, 1) := by decide +kernel
theorem dX7_again_105 : decode cX7_again 105 = .ok (.bipush 6, 2) := by decide +kernel
theorem dX7_again_107 : decode cX7_again 107 = .ok (.if_icmp .ge 37, 3) := by decide +kernel
theorem dX7_again_144 : decode cX7_again 144 = .ok (.aload_n 0, 1) := by decide +kernel
theorem dX7_again_145 : decode cX7_again 145 = .ok (.iconst 0, 1) := by decide +kernel
theorem dX7_again_146 : decode cX7_again 146 = .ok (.putfield 223, 3) := by decide +kernel
theorem dX7_again_149 : decode cX7_again 149 = .ok (.iload_n 1, 1) := by decide +kernel
theorem dX7_again_150 : decode cX7_again 150 = .ok (.ifCond .eq 7, 3) := by decide +kernel
theorem dX7_again_157 : decode cX7_again 157 = .ok (.iconst 0, 1) := by decide +kernel
theorem dX7_again_158 : decode cX7_again 158 = .ok (.ireturn, 1) := by decide +kernel
theorem dX7_again_153 : decode cX7_again 153 = .ok (.iconst 1, 1) := by decide +kernel
theorem dX7_again_154 : decode cX7_again 154 = .ok (.goto 4, 3) := by decide +kernel
theorem dX7_again_110 : decode cX7_again 110 = .ok (.iload_n 1, 1) := by decide +kernel
theorem dX7_again_111 : decode cX7_again 111 = .ok (.ifCond .eq 25, 3) := by decide +kernel
theorem dX7_again_136 : decode cX7_again 136 = .ok (.iconst 0, 1) := by decide +kernel
theorem dX7_again_137 : decode cX7_again 137 = .ok (.istore_n 1, 1) := by decide +kernel
theorem dX7_again_138 : decode cX7_again 138 = .ok (.iinc 2 1, 3) := by decide +kernel
theorem dX7_again_141 : decode cX7_again 141 = .ok (.goto (-37), 3) := by decide +kernel
theorem dX7_again_114 : decode cX7_again 114 = .ok (.aload_n 0, 1) := by decide +kernel
theorem dX7_again_115 : decode cX7_again 115 = .ok (.getfield 31, 3) := by decide +kernel
theorem dX7_again_118 : decode cX7_again 118 = .ok (.bipush 6, 2) := by decide +kernel
theorem dX7_again_120 : decode cX7_again 120 = .ok (.iload_n 2, 1) := by decide +kernel
theorem dX7_again_121 : decode cX7_again 121 = .ok (.iadd, 1) := by decide +kernel
theorem dX7_again_122 : decode cX7_again 122 = .ok (.iaload, 1) := by decide +kernel
theorem dX7_again_123 : decode cX7_again 123 = .ok (.aload_n 0, 1) := by decide +kernel
theorem dX7_again_124 : decode cX7_again 124 = .ok (.getfield 31, 3) := by decide +kernel
theorem dX7_again_127 : decode cX7_again 127 = .ok (.iload_n 2, 1) := by decide +kernel
theorem dX7_again_128 : decode cX7_again 128 = .ok (.iaload, 1) := by decide +kernel
theorem dX7_again_129 : decode cX7_again 129 = .ok (.if_icmp .ne 7, 3) := by decide +kernel
theorem dX7_again_132 : decode cX7_again 132 = .ok (.iconst 1, 1) := by decide +kernel
theorem dX7_again_133 : decode cX7_again 133 = .ok (.goto 4, 3) := by decide +kernel
theorem dX7_again_62 : decode cX7_again 62 = .ok (.iload_n 2, 1) := by decide +kernel
theorem dX7_again_63 : decode cX7_again 63 = .ok (.bipush 24, 2) := by decide +kernel
theorem dX7_again_65 : decode cX7_again 65 = .ok (.if_icmp .ge 37, 3) := by decide +kernel
theorem dX7_again_102 : decode cX7_again 102 = .ok (.iconst 0, 1) := by decide +kernel
theorem dX7_again_103 : decode cX7_again 103 = .ok (.istore_n 2, 1) := by decide +kernel
theorem dX7_again_68 : decode cX7_again 68 = .ok (.iload_n 1, 1) := by decide +kernel
theorem dX7_again_69 : decode cX7_again 69 = .ok (.ifCond .eq 25, 3) := by decide +kernel
theorem dX7_again_94 : decode cX7_again 94 = .ok (.iconst 0, 1) := by decide +kernel
theorem dX7_again_95 : decode cX7_again 95 = .ok (.istore_n 1, 1) := by decide +kernel
theorem dX7_again_96 : decode cX7_again 96 = .ok (.iinc 2 1, 3) := by decide +kernel
theorem dX7_again_99 : decode cX7_again 99 = .ok (.goto (-37), 3) := by decide +kernel
theorem dX7_again_72 : decode cX7_again 72 = .ok (.aload_n 0, 1) := by decide +kernel
theorem dX7_again_73 : decode cX7_again 73 = .ok (.getfield 28, 3) := by decide +kernel
theorem dX7_again_76 : decode cX7_again 76 = .ok (.bipush 24, 2) := by decide +kernel
theorem dX7_again_78 : decode cX7_again 78 = .ok (.iload_n 2, 1) := by decide +kernel
theorem dX7_again_79 : decode cX7_again 79 = .ok (.iadd, 1) := by decide +kernel
theorem dX7_again_80 : decode cX7_again 80 = .ok (.iaload, 1) := by decide +kernel
theorem dX7_again_81 : decode cX7_again 81 = .ok (.aload_n 0, 1) := by decide +kernel
theorem dX7_again_82 : decode cX7_again 82 = .ok (.getfield 28, 3) := by decide +kernel
theorem dX7_again_85 : decode cX7_again 85 = .ok (.iload_n 2, 1) := by decide +kernel
theorem dX7_again_86 : decode cX7_again 86 = .ok (.iaload, 1) := by decide +kernel
theorem dX7_again_87 : decode cX7_again 87 = .ok (.if_icmp .ne 7, 3) := by decide +kernel
theorem dX7_again_90 : decode cX7_again 90 = .ok (.iconst 1, 1) := by decide +kernel
theorem dX7_again_91 : decode cX7_again 91 = .ok (.goto 4, 3) := by decide +kernel
theorem dX7_again_6 : decode cX7_again 6 = .ok (.iload_n 1, 1) := by decide +kernel
theorem dX7_again_7 : decode cX7_again 7 = .ok (.aload_n 0, 1) := by decide +kernel
theorem dX7_again_8 : decode cX7_again 8 = .ok (.getfield 283, 3) := by decide +kernel
theorem dX7_again_11 : decode cX7_again 11 = .ok (.if_icmp .ge 36, 3) := by decide +kernel
theorem dX7_again_47 : decode cX7_again 47 = .ok (.aload_n 0, 1) := by decide +kernel
theorem dX7_again_48 : decode cX7_again 48 = .ok (.getfield 259, 3) := by decide +kernel
theorem dX7_again_51 : decode cX7_again 51 = .ok (.ifCond .ne 7, 3) := by decide +kernel
theorem dX7_again_58 : decode cX7_again 58 = .ok (.iconst 0, 1) := by decide +kernel
theorem dX7_again_59 : decode cX7_again 59 = .ok (.istore_n 1, 1) := by decide +kernel
theorem dX7_again_60 : decode cX7_again 60 = .ok (.iconst 0, 1) := by decide +kernel
theorem dX7_again_61 : decode cX7_again 61 = .ok (.istore_n 2, 1) := by decide +kernel
theorem dX7_again_54 : decode cX7_again 54 = .ok (.iconst 1, 1) := by decide +kernel
theorem dX7_again_55 : decode cX7_again 55 = .ok (.goto 4, 3) := by decide +kernel
theorem dX7_again_14 : decode cX7_again 14 = .ok (.aload_n 0, 1) := by decide +kernel
theorem dX7_again_15 : decode cX7_again 15 = .ok (.aload_n 0, 1) := by decide +kernel
theorem dX7_again_16 : decode cX7_again 16 = .ok (.aload_n 0, 1) := by decide +kernel
theorem dX7_again_17 : decode cX7_again 17 = .ok (.getfield 74, 3) := by decide +kernel
theorem dX7_again_20 : decode cX7_again 20 = .ok (.iload_n 1, 1) := by decide +kernel
theorem dX7_again_21 : decode cX7_again 21 = .ok (.iaload, 1) := by decide +kernel
theorem dX7_again_22 : decode cX7_again 22 = .ok (.aload_n 0, 1) := by decide +kernel
theorem dX7_again_23 : decode cX7_again 23 = .ok (.getfield 77, 3) := by decide +kernel
theorem dX7_again_26 : decode cX7_again 26 = .ok (.iload_n 1, 1) := by decide +kernel
theorem dX7_again_27 : decode cX7_again 27 = .ok (.iaload, 1) := by decide +kernel
theorem dX7_again_28 : decode cX7_again 28 = .ok (.aload_n 0, 1) := by decide +kernel
theorem dX7_again_29 : decode cX7_again 29 = .ok (.getfield 80, 3) := by decide +kernel
theorem dX7_again_32 : decode cX7_again 32 = .ok (.iload_n 1, 1) := by decide +kernel
theorem dX7_again_33 : decode cX7_again 33 = .ok (.iaload, 1) := by decide +kernel
theorem dX7_again_34 : decode cX7_again 34 = .ok (.iconst 0, 1) := by decide +kernel
theorem dX7_again_35 : decode cX7_again 35 = .ok (.invokevirtual 286, 3) := by decide +kernel
theorem dX7_again_38 : decode cX7_again 38 = .ok (.putfield 246, 3) := by decide +kernel
theorem dX7_again_41 : decode cX7_again 41 = .ok (.iinc 1 1, 3) := by decide +kernel
theorem dX7_again_44 : decode cX7_again 44 = .ok (.goto (-38), 3) := by decide +kernel
theorem dX7_again_0 : decode cX7_again 0 = .ok (.aload_n 0, 1) := by decide +kernel
theorem dX7_again_1 : decode cX7_again 1 = .ok (.invokevirtual 296, 3) := by decide +kernel
theorem dX7_again_4 : decode cX7_again 4 = .ok (.iconst 0, 1) := by decide +kernel
theorem dX7_again_5 : decode cX7_again 5 = .ok (.istore_n 1, 1) := by decide +kernel
theorem dX7_reset_59 : decode cX7_reset 59 = .ok (.iload_n 2, 1) := by decide +kernel
theorem dX7_reset_60 : decode cX7_reset 60 = .ok (.bipush 24, 2) := by decide +kernel
theorem dX7_reset_62 : decode cX7_reset 62 = .ok (.if_icmp .ge 16, 3) := by decide +kernel
theorem dX7_reset_78 : decode cX7_reset 78 = .ok (.iload_n 1, 1) := by decide +kernel
theorem dX7_reset_79 : decode cX7_reset 79 = .ok (.ireturn, 1) := by decide +kernel
theorem dX7_reset_65 : decode cX7_reset 65 = .ok (.aload_n 0, 1) := by decide +kernel
theorem dX7_reset_66 : decode cX7_reset 66 = .ok (.getfield 28, 3) := by decide +kernel
theorem dX7_reset_69 : decode cX7_reset 69 = .ok (.iload_n 2, 1) := by decide +kernel
theorem dX7_reset_70 : decode cX7_reset 70 = .ok (.iconst 0, 1) := by decide +kernel
theorem dX7_reset_71 : decode cX7_reset 71 = .ok (.iastore, 1) := by decide +kernel
theorem dX7_reset_72 : decode cX7_reset 72 = .ok (.iinc 2 1, 3) := by decide +kernel
theorem dX7_reset_75 : decode cX7_reset 75 = .ok (.goto (-16), 3) := by decide +kernel
theorem dX7_reset_24 : decode cX7_reset 24 = .ok (.iload_n 2, 1) := by decide +kernel
theorem dX7_reset_25 : decode cX7_reset 25 = .ok (.bipush 6, 2) := by decide +kernel
theorem dX7_reset_27 : decode cX7_reset 27 = .ok (.if_icmp .ge 30, 3) := by decide +kernel
theorem dX7_reset_57 : decode cX7_reset 57 = .ok (.iconst 0, 1) := by decide +kernel
theorem dX7_reset_58 : decode cX7_reset 58 = .ok (.istore_n 2, 1) := by decide +kernel
theorem dX7_reset_30 : decode cX7_reset 30 = .ok (.aload_n 0, 1) := by decide +kernel
theorem dX7_reset_31 : decode cX7_reset 31 = .ok (.getfield 31, 3) := by decide +kernel
theorem dX7_reset_34 : decode cX7_reset 34 = .ok (.iload_n 2, 1) := by decide +kernel
theorem dX7_reset_35 : decode cX7_reset 35 = .ok (.iconst 0, 1) := by decide +kernel
theorem dX7_reset_36 : decode cX7_reset 36 = .ok (.iastore, 1) := by decide +kernel
theorem dX7_reset_37 : decode cX7_reset 37 = .ok (.aload_n 0, 1) := by decide +kernel
theorem dX7_reset_38 : decode cX7_reset 38 = .ok (.getfield 34, 3) := by decide +kernel
theorem dX7_reset_41 : decode cX7_reset 41 = .ok (.iload_n 2, 1) := by decide +kernel
theorem dX7_reset_42 : decode cX7_reset 42 = .ok (.iconst 0, 1) := by decide +kernel
theorem dX7_reset_43 : decode cX7_reset 43 = .ok (.iastore, 1) := by decide +kernel
theorem dX7_reset_44 : decode cX7_reset 44 = .ok (.aload_n 0, 1) := by decide +kernel
theorem dX7_reset_45 : decode cX7_reset 45 = .ok (.getfield 67, 3) := by decide +kernel
theorem dX7_reset_48 : decode cX7_reset 48 = .ok (.iload_n 2, 1) := by decide +kernel
theorem dX7_reset_49 : decode cX7_reset 49 = .ok (.iconst 0, 1) := by decide +kernel
theorem dX7_reset_50 : decode cX7_reset 50 = .ok (.bastore, 1) := by decide +kernel
theorem dX7_reset_51 : decode cX7_reset 51 = .ok (.iinc 2 1, 3) := by decide +kernel
theorem dX7_reset_54 : decode cX7_reset 54 = .ok (.goto (-30), 3) := by decide +kernel
theorem dX7_reset_0 : decode cX7_reset 0 = .ok (.aload_n 0, 1) := by decide +kernel
theorem dX7_reset_1 : decode cX7_reset 1 = .ok (.getfield 283, 3) := by decide +kernel
theorem dX7_reset_4 : decode cX7_reset 4 = .ok (.istore_n 1, 1) := by decide +kernel
theorem dX7_reset_5 : decode cX7_reset 5 = .ok (.aload_n 0, 1) := by decide +kernel
theorem dX7_reset_6 : decode cX7_reset 6 = .ok (.iconst 0, 1) := by decide +kernel
theorem dX7_reset_7 : decode cX7_reset 7 = .ok (.putfield 283, 3) := by decide +kernel
theorem dX7_reset_10 : decode cX7_reset 10 = .ok (.aload_n 0, 1) := by decide +kernel
theorem dX7_reset_11 : decode cX7_reset 11 = .ok (.iconst 0, 1) := by decide +kernel
theorem dX7_reset_12 : decode cX7_reset 12 = .ok (.putfield 256, 3) := by decide +kernel
theorem dX7_reset_15 : decode cX7_reset 15 = .ok (.aload_n 0, 1) := by decide +kernel
theorem dX7_reset_16 : decode cX7_reset 16 = .ok (.getfield 49, 3) := by decide +kernel
theorem dX7_reset_19 : decode cX7_reset 19 = .ok (.iconst 0, 1) := by decide +kernel
theorem dX7_reset_20 : decode cX7_reset 20 = .ok (.iconst 0, 1) := by decide +kernel
theorem dX7_reset_21 : decode cX7_reset 21 = .ok (.iastore, 1) := by decide +kernel
theorem dX7_reset_22 : decode cX7_reset 22 = .ok (.iconst 0, 1) := by decide +kernel
theorem dX7_reset_23 : decode cX7_reset 23 = .ok (.istore_n 2, 1) := by decide +kernel
theorem dX7_isReader_23 : decode cX7_isReader 23 = .ok (.iload 5, 2) := by decide +kernel
theorem dX7_isReader_25 : decode cX7_isReader 25 = .ok (.bipush 8, 2) := by decide +kernel
theorem dX7_isReader_27 : decode cX7_isReader 27 = .ok (.iload_n 3, 1) := by decide +kernel
theorem dX7_isReader_28 : decode cX7_isReader 28 = .ok (.imul, 1) := by decide +kernel
theorem dX7_isReader_29 : decode cX7_isReader 29 = .ok (.aload_n 0, 1) := by decide +kernel
theorem dX7_isReader_30 : decode cX7_isReader 30 = .ok (.getfield 7, 3) := by decide +kernel
theorem dX7_isReader_33 : decode cX7_isReader 33 = .ok (.iload_n 3, 1) := by decide +kernel
theorem dX7_isReader_34 : decode cX7_isReader 34 = .ok (.iaload, 1) := by decide +kernel
theorem dX7_isReader_35 : decode cX7_isReader 35 = .ok (.iadd, 1) := by decide +kernel
theorem dX7_isReader_36 : decode cX7_isReader 36 = .ok (.if_icmp .ge 92, 3) := by decide +kernel
theorem dX7_isReader_39 : decode cX7_isReader 39 = .ok (.aload_n 0, 1) := by decide +kernel
theorem dX7_isReader_40 : decode cX7_isReader 40 = .ok (.getfield 13, 3) := by decide +kernel
theorem dX7_isReader_43 : decode cX7_isReader 43 = .ok (.iload 5, 2) := by decide +kernel
theorem dX7_isReader_45 : decode cX7_isReader 45 = .ok (.iaload, 1) := by decide +kernel
theorem dX7_isReader_46 : decode cX7_isReader 46 = .ok (.iconst 4, 1) := by decide +kernel
theorem dX7_isReader_47 : decode cX7_isReader 47 = .ok (.if_icmp .eq 26, 3) := by decide +kernel
theorem dX7_isReader_73 : decode cX7_isReader 73 = .ok (.iconst 1, 1) := by decide +kernel
theorem dX7_isReader_74 : decode cX7_isReader 74 = .ok (.goto 4, 3) := by decide +kernel
theorem dX7_isReader_78 : decode cX7_isReader 78 = .ok (.istore 6, 2) := by decide +kernel
theorem dX7_isReader_80 : decode cX7_isReader 80 = .ok (.iload 4, 2) := by decide +kernel
theorem dX7_isReader_82 : decode cX7_isReader 82 = .ok (.ifCond .eq 37, 3) := by decide +kernel
theorem dX7_isReader_119 : decode cX7_isReader 119 = .ok (.iconst 0, 1) := by decide +kernel
theorem dX7_isReader_120 : decode cX7_isReader 120 = .ok (.istore 4, 2) := by decide +kernel
theorem dX7_isReader_122 : decode cX7_isReader 122 = .ok (.iinc 5 1, 3) := by decide +kernel
theorem dX7_isReader_125 : decode cX7_isReader 125 = .ok (.goto (-102), 3) := by decide +kernel
theorem dX7_isReader_85 : decode cX7_isReader 85 = .ok (.iload 6, 2) := by decide +kernel
theorem dX7_isReader_87 : decode cX7_isReader 87 = .ok (.ifCond .eq 32, 3) := by decide +kernel
theorem dX7_isReader_90 : decode cX7_isReader 90 = .ok (.aload_n 0, 1) := by decide +kernel
theorem dX7_isReader_91 : decode cX7_isReader 91 = .ok (.iload_n 3, 1) := by decide +kernel
theorem dX7_isReader_92 : decode cX7_isReader 92 = .ok (.iload 5, 2) := by decide +kernel
theorem dX7_isReader_94 : decode cX7_isReader 94 = .ok (.invokevirtual 220, 3) := by decide +kernel
theorem dX7_isReader_97 : decode cX7_isReader 97 = .ok (.ifCond .eq 18, 3) := by decide +kernel
theorem dX7_isReader_100 : decode cX7_isReader 100 = .ok (.iload_n 2, 1) := by decide +kernel
theorem dX7_isReader_101 : decode cX7_isReader 101 = .ok (.aload_n 0, 1) := by decide +kernel
theorem dX7_isReader_102 : decode cX7_isReader 102 = .ok (.getfield 16, 3) := by decide +kernel
theorem dX7_isReader_105 : decode cX7_isReader 105 = .ok (.iload 5, 2) := by decide +kernel
theorem dX7_isReader_107 : decode cX7_isReader 107 = .ok (.iaload, 1) := by decide +kernel
theorem dX7_isReader_108 : decode cX7_isReader 108 = .ok (.ishr, 1) := by decide +kernel
theorem dX7_isReader_109 : decode cX7_isReader 109 = .ok (.iconst 1, 1) := by decide +kernel
theorem dX7_isReader_110 : decode cX7_isReader 110 = .ok (.iand, 1) := by decide +kernel
theorem dX7_isReader_111 : decode cX7_isReader 111 = .ok (.iconst 1, 1) := by decide +kernel
theorem dX7_isReader_112 : decode cX7_isReader 112 = .ok (.if_icmp .ne 7, 3) := by decide +kernel
theorem dX7_isReader_115 : decode cX7_isReader 115 = .ok (.iconst 1, 1) := by decide +kernel
theorem dX7_isReader_116 : decode cX7_isReader 116 = .ok (.goto 4, 3) := by decide +kernel
theorem dX7_isReader_50 : decode cX7_isReader 50 = .ok (.aload_n 0, 1) := by decide +kernel
theorem dX7_isReader_51 : decode cX7_isReader 51 = .ok (.getfield 13, 3) := by decide +kernel
theorem dX7_isReader_54 : decode cX7_isReader 54 = .ok (.iload 5, 2) := by decide +kernel
theorem dX7_isReader_56 : decode cX7_isReader 56 = .ok (.iaload, 1) := by decide +kernel
theorem dX7_isReader_57 : decode cX7_isReader 57 = .ok (.iconst 5, 1) := by decide +kernel
theorem dX7_isReader_58 : decode cX7_isReader 58 = .ok (.if_icmp .eq 15, 3) := by decide +kernel
theorem dX7_isReader_61 : decode cX7_isReader 61 = .ok (.aload_n 0, 1) := by decide +kernel
theorem dX7_isReader_62 : decode cX7_isReader 62 = .ok (.getfield 13, 3) := by decide +kernel
theorem dX7_isReader_65 : decode cX7_isReader 65 = .ok (.iload 5, 2) := by decide +kernel
theorem dX7_isReader_67 : decode cX7_isReader 67 = .ok (.iaload, 1) := by decide +kernel
theorem dX7_isReader_68 : decode cX7_isReader 68 = .ok (.bipush 7, 2) := by decide +kernel
theorem dX7_isReader_70 : decode cX7_isReader 70 = .ok (.if_icmp .ne 7, 3) := by decide +kernel
theorem dX7_isReader_77 : decode cX7_isReader 77 = .ok (.iconst 0, 1) := by decide +kernel
theorem dX7_isReader_9 : decode cX7_isReader 9 = .ok (.iload_n 3, 1) := by decide +kernel
theorem dX7_isReader_10 : decode cX7_isReader 10 = .ok (.iload_n 1, 1) := by decide +kernel
theorem dX7_isReader_11 : decode cX7_isReader 11 = .ok (.if_icmp .lt 138, 3) := by decide +kernel
theorem dX7_isReader_149 : decode cX7_isReader 149 = .ok (.iload_n 2, 1) := by decide +kernel
theorem dX7_isReader_150 : decode cX7_isReader 150 = .ok (.iload_n 1, 1) := by decide +kernel
theorem dX7_isReader_151 : decode cX7_isReader 151 = .ok (.ishr, 1) := by decide +kernel
theorem dX7_isReader_152 : decode cX7_isReader 152 = .ok (.iconst 1, 1) := by decide +kernel
theorem dX7_isReader_153 : decode cX7_isReader 153 = .ok (.iand, 1) := by decide +kernel
theorem dX7_isReader_154 : decode cX7_isReader 154 = .ok (.iconst 1, 1) := by decide +kernel
theorem dX7_isReader_155 : decode cX7_isReader 155 = .ok (.if_icmp .ne 7, 3) := by decide +kernel
theorem dX7_isReader_162 : decode cX7_isReader 162 = .ok (.iconst 0, 1) := by decide +kernel
theorem dX7_isReader_163 : decode cX7_isReader 163 = .ok (.ireturn, 1) := by decide +kernel
theorem dX7_isReader_158 : decode cX7_isReader 158 = .ok (.iconst 1, 1) := by decide +kernel
theorem dX7_isReader_159 : decode cX7_isReader 159 = .ok (.goto 4, 3) := by decide +kernel
theorem dX7_isReader_14 : decode cX7_isReader 14 = .ok (.iconst 1, 1) := by decide +kernel
theorem dX7_isReader_15 : decode cX7_isReader 15 = .ok (.istore 4, 2) := by decide +kernel
theorem dX7_isReader_17 : decode cX7_isReader 17 = .ok (.bipush 8, 2) := by decide +kernel
theorem dX7_isReader_19 : decode cX7_isReader 19 = .ok (.iload_n 3, 1) := by decide +kernel
theorem dX7_isReader_20 : decode cX7_isReader 20 = .ok (.imul, 1) := by decide +kernel
theorem dX7_isReader_21 : decode cX7_isReader 21 = .ok (.istore 5, 2) := by decide +kernel
theorem dX7_isReader_128 : decode cX7_isReader 128 = .ok (.iload_n 2, 1) := by decide +kernel
theorem dX7_isReader_129 : decode cX7_isReader 129 = .ok (.iload 4, 2) := by decide +kernel
theorem dX7_isReader_131 : decode cX7_isReader 131 = .ok (.ifCond .eq 9, 3) := by decide +kernel
theorem dX7_isReader_140 : decode cX7_isReader 140 = .ok (.iconst 0, 1) := by decide +kernel
theorem dX7_isReader_141 : decode cX7_isReader 141 = .ok (.ior, 1) := by decide +kernel
theorem dX7_isReader_142 : decode cX7_isReader 142 = .ok (.istore_n 2, 1) := by decide +kernel
theorem dX7_isReader_143 : decode cX7_isReader 143 = .ok (.iinc 3 (-1), 3) := by decide +kernel
theorem dX7_isReader_146 : decode cX7_isReader 146 = .ok (.goto (-137), 3) := by decide +kernel
theorem dX7_isReader_134 : decode cX7_isReader 134 = .ok (.iconst 1, 1) := by decide +kernel
theorem dX7_isReader_135 : decode cX7_isReader 135 = .ok (.iload_n 3, 1) := by decide +kernel
theorem dX7_isReader_136 : decode cX7_isReader 136 = .ok (.ishl, 1) := by decide +kernel
theorem dX7_isReader_137 : decode cX7_isReader 137 = .ok (.goto 4, 3) := by decide +kernel
theorem dX7_isReader_0 : decode cX7_isReader 0 = .ok (.iconst 0, 1) := by decide +kernel
theorem dX7_isReader_1 : decode cX7_isReader 1 = .ok (.istore_n 2, 1) := by decide +kernel
theorem dX7_isReader_2 : decode cX7_isReader 2 = .ok (.aload_n 0, 1) := by decide +kernel
theorem dX7_isReader_3 : decode cX7_isReader 3 = .ok (.getfield 167, 3) := by decide +kernel
theorem dX7_isReader_6 : decode cX7_isReader 6 = .ok (.iconst 1, 1) := by decide +kernel
theorem dX7_isReader_7 : decode cX7_isReader 7 = .ok (.isub, 1) := by decide +kernel
theorem dX7_isReader_8 : decode cX7_isReader 8 = .ok (.istore_n 3, 1) := by decide +kernel
theorem dX7_about_67 : decode cX7_about 67 = .ok (.iload 4, 2) := by decide +kernel
theorem dX7_about_69 : decode cX7_about 69 = .ok (.bipush 16, 2) := by decide +kernel
theorem dX7_about_71 : decode cX7_about 71 = .ok (.iload_n 1, 1) := by decide +kernel
theorem dX7_about_72 : decode cX7_about 72 = .ok (.imul, 1) := by decide +kernel
theorem dX7_about_73 : decode cX7_about 73 = .ok (.aload_n 0, 1) := by decide +kernel
theorem dX7_about_74 : decode cX7_about 74 = .ok (.getfield 34, 3) := by decide +kernel
theorem dX7_about_77 : decode cX7_about 77 = .ok (.iload_n 1, 1) := by decide +kernel
theorem dX7_about_78 : decode cX7_about 78 = .ok (.iaload, 1) := by decide +kernel
theorem dX7_about_79 : decode cX7_about 79 = .ok (.iadd, 1) := by decide +kernel
theorem dX7_about_80 : decode cX7_about 80 = .ok (.if_icmp .ge 27, 3) := by decide +kernel
theorem dX7_about_107 : decode cX7_about 107 = .ok (.iload_n 3, 1) := by decide +kernel
theorem dX7_about_108 : decode cX7_about 108 = .ok (.ireturn, 1) := by decide +kernel
theorem dX7_about_83 : decode cX7_about 83 = .ok (.iload_n 3, 1) := by decide +kernel
theorem dX7_about_84 : decode cX7_about 84 = .ok (.aload_n 0, 1) := by decide +kernel
theorem dX7_about_85 : decode cX7_about 85 = .ok (.iload 4, 2) := by decide +kernel
theorem dX7_about_87 : decode cX7_about 87 = .ok (.iload_n 1, 1) := by decide +kernel
theorem dX7_about_88 : decode cX7_about 88 = .ok (.invokevirtual 226, 3) := by decide +kernel
theorem dX7_about_91 : decode cX7_about 91 = .ok (.ifCond .eq 7, 3) := by decide +kernel
theorem dX7_about_94 : decode cX7_about 94 = .ok (.iconst 0, 1) := by decide +kernel
theorem dX7_about_95 : decode cX7_about 95 = .ok (.goto 4, 3) := by decide +kernel
theorem dX7_about_99 : decode cX7_about 99 = .ok (.iadd, 1) := by decide +kernel
theorem dX7_about_100 : decode cX7_about 100 = .ok (.istore_n 3, 1) := by decide +kernel
theorem dX7_about_101 : decode cX7_about 101 = .ok (.iinc 4 1, 3) := by decide +kernel
theorem dX7_about_104 : decode cX7_about 104 = .ok (.goto (-37), 3) := by decide +kernel
theorem dX7_about_98 : decode cX7_about 98 = .ok (.iconst 1, 1) := by decide +kernel
theorem dX7_about_0 : decode cX7_about 0 = .ok (.aload_n 0, 1) := by decide +kernel
theorem dX7_about_1 : decode cX7_about 1 = .ok (.iload_n 1, 1) := by decide +kernel
theorem dX7_about_2 : decode cX7_about 2 = .ok (.invokevirtual 212, 3) := by decide +kernel
theorem dX7_about_5 : decode cX7_about 5 = .ok (.ifCond .eq 13, 3) := by decide +kernel
theorem dX7_about_8 : decode cX7_about 8 = .ok (.iload_n 2, 1) := by decide +kernel
theorem dX7_about_9 : decode cX7_about 9 = .ok (.iconst 0, 1) := by decide +kernel
theorem dX7_about_10 : decode cX7_about 10 = .ok (.bipush 7, 2) := by decide +kernel
theorem dX7_about_12 : decode cX7_about 12 = .ok (.invokestatic 171, 3) := by decide +kernel
theorem dX7_about_15 : decode cX7_about 15 = .ok (.ifCond .ne 5, 3) := by decide +kernel
theorem dX7_about_20 : decode cX7_about 20 = .ok (.iload_n 2, 1) := by decide +kernel
theorem dX7_about_21 : decode cX7_about 21 = .ok (.tableswitch 109 4 7 #[31, 38, 88, 95], 31) := by decide +kernel
theorem dX7_about_130 : decode cX7_about 130 = .ok (.aload_n 0, 1) := by decide +kernel
theorem dX7_about_131 : decode cX7_about 131 = .ok (.getfield 28, 3) := by decide +kernel
theorem dX7_about_134 : decode cX7_about 134 = .ok (.iconst 4, 1) := by decide +kernel
theorem dX7_about_135 : decode cX7_about 135 = .ok (.iload_n 1, 1) := by decide +kernel
theorem dX7_about_136 : decode cX7_about 136 = .ok (.imul, 1) := by decide +kernel
theorem dX7_about_137 : decode cX7_about 137 = .ok (.iload_n 2, 1) := by decide +kernel
theorem dX7_about_138 : decode cX7_about 138 = .ok (.iadd, 1) := by decide +kernel
theorem dX7_about_139 : decode cX7_about 139 = .ok (.iaload, 1) := by decide +kernel
theorem dX7_about_140 : decode cX7_about 140 = .ok (.ireturn, 1) := by decide +kernel
theorem dX7_about_52 : decode cX7_about 52 = .ok (.aload_n 0, 1) := by decide +kernel
theorem dX7_about_53 : decode cX7_about 53 = .ok (.getfield 31, 3) := by decide +kernel
theorem dX7_about_56 : decode cX7_about 56 = .ok (.iload_n 1, 1) := by decide +kernel
theorem dX7_about_57 : decode cX7_about 57 = .ok (.iaload, 1) := by decide +kernel
theorem dX7_about_58 : decode cX7_about 58 = .ok (.ireturn, 1) := by decide +kernel
theorem dX7_about_59 : decode cX7_about 59 = .ok (.iconst 0, 1) := by decide +kernel
theorem dX7_about_60 : decode cX7_about 60 = .ok (.istore_n 3, 1) := by decide +kernel
theorem dX7_about_61 : decode cX7_about 61 = .ok (.bipush 16, 2) := by decide +kernel
theorem dX7_about_63 : decode cX7_about 63 = .ok (.iload_n 1, 1) := by decide +kernel
theorem dX7_about_64 : decode cX7_about 64 = .ok (.imul, 1) := by decide +kernel
theorem dX7_about_65 : decode cX7_about 65 = .ok (.istore 4, 2) := by decide +kernel
theorem dX7_about_109 : decode cX7_about 109 = .ok (.aload_n 0, 1) := by decide +kernel
theorem dX7_about_110 : decode cX7_about 110 = .ok (.getfield 7, 3) := by decide +kernel
theorem dX7_about_113 : decode cX7_about 113 = .ok (.iload_n 1, 1) := by decide +kernel
theorem dX7_about_114 : decode cX7_about 114 = .ok (.iaload, 1) := by decide +kernel
theorem dX7_about_115 : decode cX7_about 115 = .ok (.ireturn, 1) := by decide +kernel
theorem dX7_about_116 : decode cX7_about 116 = .ok (.aload_n 0, 1) := by decide +kernel
theorem dX7_about_117 : decode cX7_about 117 = .ok (.iload_n 1, 1) := by decide +kernel
theorem dX7_about_118 : decode cX7_about 118 = .ok (.invokevirtual 229, 3) := by decide +kernel
theorem dX7_about_121 : decode cX7_about 121 = .ok (.ifCond .eq 7, 3) := by decide +kernel
theorem dX7_about_124 : decode cX7_about 124 = .ok (.iconst 1, 1) := by decide +kernel
theorem dX7_about_125 : decode cX7_about 125 = .ok (.goto 4, 3) := by decide +kernel
theorem dX7_about_129 : decode cX7_about 129 = .ok (.ireturn, 1) := by decide +kernel
theorem dX7_about_128 : decode cX7_about 128 = .ok (.iconst 0, 1) := by decide +kernel
theorem dX7_about_18 : decode cX7_about 18 = .ok (.iconst (-1), 1) := by decide +kernel
theorem dX7_about_19 : decode cX7_about 19 = .ok (.ireturn, 1) := by decide +kernel
theorem dX7_call_129 : decode cX7_call 129 = .ok (.aload_n 0, 1) := by decide +kernel
theorem dX7_call_130 : decode cX7_call 130 = .ok (.getfield 74, 3) := by decide +kernel
theorem dX7_call_133 : decode cX7_call 133 = .ok (.aload_n 0, 1) := by decide +kernel
theorem dX7_call_134 : decode cX7_call 134 = .ok (.getfield 283, 3) := by decide +kernel
theorem dX7_call_137 : decode cX7_call 137 = .ok (.iload_n 1, 1) := by decide +kernel
theorem dX7_call_138 : decode cX7_call 138 = .ok (.iastore, 1) := by decide +kernel
theorem dX7_call_139 : decode cX7_call 139 = .ok (.aload_n 0, 1) := by decide +kernel
theorem dX7_call_140 : decode cX7_call 140 = .ok (.getfield 77, 3) := by decide +kernel
theorem dX7_call_143 : decode cX7_call 143 = .ok (.aload_n 0, 1) := by decide +kernel
theorem dX7_call_144 : decode cX7_call 144 = .ok (.getfield 283, 3) := by decide +kernel
theorem dX7_call_147 : decode cX7_call 147 = .ok (.iload_n 2, 1) := by decide +kernel
theorem dX7_call_148 : decode cX7_call 148 = .ok (.iastore, 1) := by decide +kernel
theorem dX7_call_149 : decode cX7_call 149 = .ok (.aload_n 0, 1) := by decide +kernel
theorem dX7_call_150 : decode cX7_call 150 = .ok (.getfield 80, 3) := by decide +kernel
theorem dX7_call_153 : decode cX7_call 153 = .ok (.aload_n 0, 1) := by decide +kernel
theorem dX7_call_154 : decode cX7_call 154 = .ok (.getfield 283, 3) := by decide +kernel
theorem dX7_call_157 : decode cX7_call 157 = .ok (.iload_n 3, 1) := by decide +kernel
theorem dX7_call_158 : decode cX7_call 158 = .ok (.iastore, 1) := by decide +kernel
theorem dX7_call_159 : decode cX7_call 159 = .ok (.aload_n 0, 1) := by decide +kernel
theorem dX7_call_160 : decode cX7_call 160 = .ok (.dup, 1) := by decide +kernel
theorem dX7_call_161 : decode cX7_call 161 = .ok (.getfield 283, 3) := by decide +kernel
theorem dX7_call_164 : decode cX7_call 164 = .ok (.iconst 1, 1) := by decide +kernel
theorem dX7_call_165 : decode cX7_call 165 = .ok (.iadd, 1) := by decide +kernel
theorem dX7_call_166 : decode cX7_call 166 = .ok (.putfield 283, 3) := by decide +kernel
theorem dX7_call_169 : decode cX7_call 169 = .ok (.aload_n 0, 1) := by decide +kernel
theorem dX7_call_170 : decode cX7_call 170 = .ok (.iconst 0, 1) := by decide +kernel
theorem dX7_call_171 : decode cX7_call 171 = .ok (.putfield 223, 3) := by decide +kernel
theorem dX7_call_174 : decode cX7_call 174 = .ok (.aload_n 0, 1) := by decide +kernel
theorem dX7_call_175 : decode cX7_call 175 = .ok (.iload_n 1, 1) := by decide +kernel
theorem dX7_call_176 : decode cX7_call 176 = .ok (.iload_n 2, 1) := by decide +kernel
theorem dX7_call_177 : decode cX7_call 177 = .ok (.iload_n 3, 1) := by decide +kernel
theorem dX7_call_178 : decode cX7_call 178 = .ok (.iload 4, 2) := by decide +kernel
theorem dX7_call_180 : decode cX7_call 180 = .ok (.invokevirtual 286, 3) := by decide +kernel
theorem dX7_call_183 : decode cX7_call 183 = .ok (.ireturn, 1) := by decide +kernel
theorem dX7_call_58 : decode cX7_call 58 = .ok (.iload 5, 2) := by decide +kernel
theorem dX7_call_60 : decode cX7_call 60 = .ok (.bipush 20, 2) := by decide +kernel
theorem dX7_call_62 : decode cX7_call 62 = .ok (.if_icmp .ge 57, 3) := by decide +kernel
theorem dX7_call_119 : decode cX7_call 119 = .ok (.aload_n 0, 1) := by decide +kernel
theorem dX7_call_120 : decode cX7_call 120 = .ok (.dup, 1) := by decide +kernel
theorem dX7_call_121 : decode cX7_call 121 = .ok (.getfield 283, 3) := by decide +kernel
theorem dX7_call_124 : decode cX7_call 124 = .ok (.iconst 1, 1) := by decide +kernel
theorem dX7_call_125 : decode cX7_call 125 = .ok (.isub, 1) := by decide +kernel
theorem dX7_call_126 : decode cX7_call 126 = .ok (.putfield 283, 3) := by decide +kernel
theorem dX7_call_65 : decode cX7_call 65 = .ok (.aload_n 0, 1) := by decide +kernel
theorem dX7_call_66 : decode cX7_call 66 = .ok (.getfield 74, 3) := by decide +kernel
theorem dX7_call_69 : decode cX7_call 69 = .ok (.iload 5, 2) := by decide +kernel
theorem dX7_call_71 : decode cX7_call 71 = .ok (.iconst 1, 1) := by decide +kernel
theorem dX7_call_72 : decode cX7_call 72 = .ok (.isub, 1) := by decide +kernel
theorem dX7_call_73 : decode cX7_call 73 = .ok (.aload_n 0, 1) := by decide +kernel
theorem dX7_call_74 : decode cX7_call 74 = .ok (.getfield 74, 3) := by decide +kernel
theorem dX7_call_77 : decode cX7_call 77 = .ok (.iload 5, 2) := by decide +kernel
theorem dX7_call_79 : decode cX7_call 79 = .ok (.iaload, 1) := by decide +kernel
theorem dX7_call_80 : decode cX7_call 80 = .ok (.iastore, 1) := by decide +kernel
theorem dX7_call_81 : decode cX7_call 81 = .ok (.aload_n 0, 1) := by decide +kernel
theorem dX7_call_82 : decode cX7_call 82 = .ok (.getfield 77, 3) := by decide +kernel
theorem dX7_call_85 : decode cX7_call 85 = .ok (.iload 5, 2) := by decide +kernel
theorem dX7_call_87 : decode cX7_call 87 = .ok (.iconst 1, 1) := by decide +kernel
theorem dX7_call_88 : decode cX7_call 88 = .ok (.isub, 1) := by decide +kernel
theorem dX7_call_89 : decode cX7_call 89 = .ok (.aload_n 0, 1) := by decide +kernel
theorem dX7_call_90 : decode cX7_call 90 = .ok (.getfield 77, 3) := by decide +kernel
theorem dX7_call_93 : decode cX7_call 93 = .ok (.iload 5, 2) := by decide +kernel
theorem dX7_call_95 : decode cX7_call 95 = .ok (.iaload, 1) := by decide +kernel
theorem dX7_call_96 : decode cX7_call 96 = .ok (.iastore, 1) := by decide +kernel
theorem dX7_call_97 : decode cX7_call 97 = .ok (.aload_n 0, 1) := by decide +kernel
theorem dX7_call_98 : decode cX7_call 98 = .ok (.getfield 80, 3) := by decide +kernel
theorem dX7_call_101 : decode cX7_call 101 = .ok (.iload 5, 2) := by decide +kernel
theorem dX7_call_103 : decode cX7_call 103 = .ok (.iconst 1, 1) := by decide +kernel
theorem dX7_call_104 : decode cX7_call 104 = .ok (.isub, 1) := by decide +kernel
theorem dX7_call_105 : decode cX7_call 105 = .ok (.aload_n 0, 1) := by decide +kernel
theorem dX7_call_106 : decode cX7_call 106 = .ok (.getfield 80, 3) := by decide +kernel
theorem dX7_call_109 : decode cX7_call 109 = .ok (.iload 5, 2) := by decide +kernel
theorem dX7_call_111 : decode cX7_call 111 = .ok (.iaload, 1) := by decide +kernel
theorem dX7_call_112 : decode cX7_call 112 = .ok (.iastore, 1) := by decide +kernel
theorem dX7_call_113 : decode cX7_call 113 = .ok (.iinc 5 1, 3) := by decide +kernel
theorem dX7_call_116 : decode cX7_call 116 = .ok (.goto (-58), 3) := by decide +kernel
theorem dX7_call_0 : decode cX7_call 0 = .ok (.aload_n 0, 1) := by decide +kernel
theorem dX7_call_1 : decode cX7_call 1 = .ok (.iload_n 1, 1) := by decide +kernel
theorem dX7_call_2 : decode cX7_call 2 = .ok (.invokevirtual 212, 3) := by decide +kernel
theorem dX7_call_5 : decode cX7_call 5 = .ok (.ifCond .ne 6, 3) := by decide +kernel
theorem dX7_call_11 : decode cX7_call 11 = .ok (.iload_n 2, 1) := by decide +kernel
theorem dX7_call_12 : decode cX7_call 12 = .ok (.iconst 0, 1) := by decide +kernel
theorem dX7_call_13 : decode cX7_call 13 = .ok (.sipush 999, 3) := by decide +kernel
theorem dX7_call_16 : decode cX7_call 16 = .ok (.invokestatic 171, 3) := by decide +kernel
theorem dX7_call_19 : decode cX7_call 19 = .ok (.ifCond .eq 24, 3) := by decide +kernel
theorem dX7_call_22 : decode cX7_call 22 = .ok (.iload_n 3, 1) := by decide +kernel
theorem dX7_call_23 : decode cX7_call 23 = .ok (.iconst 0, 1) := by decide +kernel
theorem dX7_call_24 : decode cX7_call 24 = .ok (.bipush 99, 2) := by decide +kernel
theorem dX7_call_26 : decode cX7_call 26 = .ok (.invokestatic 171, 3) := by decide +kernel
theorem dX7_call_29 : decode cX7_call 29 = .ok (.ifCond .eq 14, 3) := by decide +kernel
theorem dX7_call_32 : decode cX7_call 32 = .ok (.iload 4, 2) := by decide +kernel
theorem dX7_call_34 : decode cX7_call 34 = .ok (.iconst 0, 1) := by decide +kernel
theorem dX7_call_35 : decode cX7_call 35 = .ok (.bipush 99, 2) := by decide +kernel
theorem dX7_call_37 : decode cX7_call 37 = .ok (.invokestatic 171, 3) := by decide +kernel
theorem dX7_call_40 : decode cX7_call 40 = .ok (.ifCond .ne 6, 3) := by decide +kernel
theorem dX7_call_46 : decode cX7_call 46 = .ok (.aload_n 0, 1) := by decide +kernel
theorem dX7_call_47 : decode cX7_call 47 = .ok (.getfield 283, 3) := by decide +kernel
theorem dX7_call_50 : decode cX7_call 50 = .ok (.bipush 20, 2) := by decide +kernel
theorem dX7_call_52 : decode cX7_call 52 = .ok (.if_icmp .ne 77, 3) := by decide +kernel
theorem dX7_call_55 : decode cX7_call 55 = .ok (.iconst 1, 1) := by decide +kernel
theorem dX7_call_56 : decode cX7_call 56 = .ok (.istore 5, 2) := by decide +kernel
theorem dX7_call_43 : decode cX7_call 43 = .ok (.bipush (-4), 2) := by decide +kernel
theorem dX7_call_45 : decode cX7_call 45 = .ok (.ireturn, 1) := by decide +kernel
theorem dX7_call_8 : decode cX7_call 8 = .ok (.bipush (-3), 2) := by decide +kernel
theorem dX7_call_10 : decode cX7_call 10 = .ok (.ireturn, 1) := by decide +kernel
theorem dX7_safe_0 : decode cX7_safe 0 = .ok (.iload_n 1, 1) := by decide +kernel
theorem dX7_safe_1 : decode cX7_safe 1 = .ok (.iconst 0, 1) := by decide +kernel
theorem dX7_safe_2 : decode cX7_safe 2 = .ok (.aload_n 0, 1) := by decide +kernel
theorem dX7_safe_3 : decode cX7_safe 3 = .ok (.getfield 290, 3) := by decide +kernel
theorem dX7_safe_6 : decode cX7_safe 6 = .ok (.iconst 1, 1) := by decide +kernel
theorem dX7_safe_7 : decode cX7_safe 7 = .ok (.isub, 1) := by decide +kernel
theorem dX7_safe_8 : decode cX7_safe 8 = .ok (.invokestatic 171, 3) := by decide +kernel
theorem dX7_safe_11 : decode cX7_safe 11 = .ok (.ifCond .ne 5, 3) := by decide +kernel
theorem dX7_safe_16 : decode cX7_safe 16 = .ok (.iload_n 2, 1) := by decide +kernel
theorem dX7_safe_17 : decode cX7_safe 17 = .ok (.iconst 0, 1) := by decide +kernel
theorem dX7_safe_18 : decode cX7_safe 18 = .ok (.aload_n 0, 1) := by decide +kernel
theorem dX7_safe_19 : decode cX7_safe 19 = .ok (.getfield 290, 3) := by decide +kernel
theorem dX7_safe_22 : decode cX7_safe 22 = .ok (.iconst 1, 1) := by decide +kernel
theorem dX7_safe_23 : decode cX7_safe 23 = .ok (.isub, 1) := by decide +kernel
theorem dX7_safe_24 : decode cX7_safe 24 = .ok (.iload_n 1, 1) := by decide +kernel
theorem dX7_safe_25 : decode cX7_safe 25 = .ok (.isub, 1) := by decide +kernel
theorem dX7_safe_26 : decode cX7_safe 26 = .ok (.invokestatic 171, 3) := by decide +kernel
theorem dX7_safe_29 : decode cX7_safe 29 = .ok (.ifCond .eq 13, 3) := by decide +kernel
theorem dX7_safe_32 : decode cX7_safe 32 = .ok (.iload_n 3, 1) := by decide +kernel
theorem dX7_safe_33 : decode cX7_safe 33 = .ok (.iconst 0, 1) := by decide +kernel
theorem dX7_safe_34 : decode cX7_safe 34 = .ok (.bipush 99, 2) := by decide +kernel
theorem dX7_safe_36 : decode cX7_safe 36 = .ok (.invokestatic 171, 3) := by decide +kernel
theorem dX7_safe_39 : decode cX7_safe 39 = .ok (.ifCond .ne 6, 3) := by decide +kernel
theorem dX7_safe_45 : decode cX7_safe 45 = .ok (.aload_n 0, 1) := by decide +kernel
theorem dX7_safe_46 : decode cX7_safe 46 = .ok (.invokevirtual 305, 3) := by decide +kernel
theorem dX7_safe_49 : decode cX7_safe 49 = .ok (.aload_n 0, 1) := by decide +kernel
theorem dX7_safe_50 : decode cX7_safe 50 = .ok (.iload_n 1, 1) := by decide +kernel
theorem dX7_safe_51 : decode cX7_safe 51 = .ok (.iload_n 2, 1) := by decide +kernel
theorem dX7_safe_52 : decode cX7_safe 52 = .ok (.iload_n 3, 1) := by decide +kernel
theorem dX7_safe_53 : decode cX7_safe 53 = .ok (.invokevirtual 308, 3) := by decide +kernel
theorem dX7_safe_56 : decode cX7_safe 56 = .ok (.ifCond .eq 7, 3) := by decide +kernel
theorem dX7_safe_59 : decode cX7_safe 59 = .ok (.iconst 1, 1) := by decide +kernel
theorem dX7_safe_60 : decode cX7_safe 60 = .ok (.goto 4, 3) := by decide +kernel
theorem dX7_safe_64 : decode cX7_safe 64 = .ok (.ireturn, 1) := by decide +kernel
theorem dX7_safe_63 : decode cX7_safe 63 = .ok (.iconst 0, 1) := by decide +kernel
theorem dX7_safe_42 : decode cX7_safe 42 = .ok (.bipush (-2), 2) := by decide +kernel
theorem dX7_safe_44 : decode cX7_safe 44 = .ok (.ireturn, 1) := by decide +kernel
theorem dX7_safe_14 : decode cX7_safe 14 = .ok (.iconst (-1), 1) := by decide +kernel
theorem dX7_safe_15 : decode cX7_safe 15 = .ok (.ireturn, 1) := by decide +kernel
theorem dX7_worst_0 : decode cX7_worst 0 = .ok (.aload_n 0, 1) := by decide +kernel
theorem dX7_worst_1 : decode cX7_worst 1 = .ok (.invokevirtual 311, 3) := by decide +kernel
theorem dX7_worst_4 : decode cX7_worst 4 = .ok (.ireturn, 1) := by decide +kernel
abbrev md_m_again : Nat → Nat → Bool := mdf [(8, 21), (8, 49), (8, 50), (8, 51), (8, 52), (40, 99), (50, 99), (51, 99), (54, 99), (55, 99), (56, 99), (58, 99)]
theorem mdle_m_again_m_calls1 {r k : Nat} (h : md_m_again r k = false) : md_m_calls1 r k = false := mdf_le (by decide +kernel) h
theorem mdle_m_again_m_tries {r k : Nat} (h : md_m_again r k = false) : md_m_tries r k = false := mdf_le (by decide +kernel) h
set_option maxHeartbeats 4000000 in
set_option maxRecDepth 100000 in
theorem lt_m_again_c (l : Launch) (D : va_G) (cI cZ cS cR : ClassId) (N0 : NT) (g : GS) (h : Nat) (r_h : g.1 h = 8) (hw : PX 48 2 3 71 72 g h) {p : Program} {e : Env} {s : State} {m : MethodId} {args : Array Value} {below : List Frame} {meth : Method} {c : Code} (hB : Tz p s m meth c args cX7_again 3 RX7 D cI cZ cS cR N0) (hr : meth.sig.returnType = (some .int))    : ∀ (kf : Nat) (g1 : GS) (i : Int32) (li : Int32)  (H : Heap) (locs : List Loc) (ls : Array Slot), Tv D cI cZ cS cR N0 s.heap H locs g1 → Inv g1 → Ex g g1 → Sm md_m_again g g1 → 0 ≤ i.toInt → i.toInt ≤ 6 → 0 ≤ li.toInt → li.toInt ≤ 1 → (6 ≤ i.toInt + kf) → lv_has ls 3 [(2, .int i), (1, .int li), (0, .ref h)] → W p l e (rmx 6 0 0) s m args below meth c H locs 0 0 (MQ below (tQ D cI cZ cS cR N0 (fun v g' => ∃ (r : Int32), v = some (.int r) ∧ Inv g' ∧ Ex g g' ∧ Sm md_m_again g g')) args s 0 0 (fun q => N0.1 ≤ q)) (F0 m 104 ls []) := by
  have hx := hB.1
  have hb := hB.2.1
  intro kf
  induction kf using Nat.strongRecOn with
  | ind kf ih =>
    intro g1 i li H locs ls hT hI hE hM l_i u_i l_li u_li hk hl
    have r_1 : g1.1 h = 8 := Ex.r hE r_h (by decide)
    refine lv_iload_n hx hb dX7_again_104 rfl (lv_at hl 0 rfl) ?_
    refine lv_bipush (v := 6) hx hb dX7_again_105 (by decide) ?_
    refine lv_icmp_ge (tgt := 144) hx hb dX7_again_107 (by decide) (fun c_2 => ?_) (fun c_2 => ?_)
    · have c_2' : 6 ≤ i.toInt := i_le c_2 (by decide) rfl
      refine lv_aload_n hx hb dX7_again_144 rfl (lv_at hl 2 rfl) ?_
      refine lv_iconst (v := 0) hx hb dX7_again_145 (by decide) ?_
      refine t_put0 (ci := 7) (v := .int 0) hB hT (ro_ci r_1 rfl) (ro_n0 r_1 (by decide)) rfl 21 (by decide) k_766 (Or.inl rfl) rfl rfl dX7_again_146 (fun H locs hT => ?_)
      have hI : Inv (sF g1 h 21 (.int 0)) := hI.sF (p_8_21 r_1 (⟨_, rfl, by decide, by decide⟩))
      have hM : Sm md_m_again g (sF g1 h 21 (.int 0)) := hM.tr hE (Sm_sF (by rw [r_1]; rfl))
      have hE : Ex g (sF g1 h 21 (.int 0)) := hE
      refine lv_iload_n hx hb dX7_again_149 rfl (lv_at hl 1 rfl) ?_
      refine lv_if_eq (tgt := 157) hx hb dX7_again_150 (by decide) (fun c_3 => ?_) (fun c_3 => ?_)
      · have c_3' : li.toInt = 0 := i_eq c_3 rfl (by decide)
        refine lv_iconst (v := 0) hx hb dX7_again_157 (by decide) ?_
        exact t_iret hB hr hT (Nat.le_of_ble_eq_true rfl) (Nat.le_of_ble_eq_true rfl) dX7_again_158 ⟨0, rfl, hI, hE, hM⟩
      · have c_3' : li.toInt ≠ 0 := i_ne c_3 rfl (by decide)
        refine lv_iconst (v := 1) hx hb dX7_again_153 (by decide) ?_
        refine lv_goto (tgt := 158) hx hb dX7_again_154 (by decide) ?_
        exact t_iret hB hr hT (Nat.le_of_ble_eq_true rfl) (Nat.le_of_ble_eq_true rfl) dX7_again_158 ⟨1, rfl, hI, hE, hM⟩
    · have c_2' : i.toInt < 6 := i_nle c_2 (by decide) rfl
      refine lv_iload_n hx hb dX7_again_110 rfl (lv_at hl 1 rfl) ?_
      refine lv_if_eq (tgt := 136) hx hb dX7_again_111 (by decide) (fun c_4 => ?_) (fun c_4 => ?_)
      · have c_4' : li.toInt = 0 := i_eq c_4 rfl (by decide)
        refine lv_iconst (v := 0) hx hb dX7_again_136 (by decide) ?_
        refine lv_istore_n (lv' := [(1, .int 0), (2, .int i), (0, .ref h)]) hx hb dX7_again_137 rfl hl (by decide) rfl (fun ls hl => ?_)
        obtain ⟨z_5, ez_5⟩ : ∃ z : Int32, z = i + 1 := ⟨_, rfl⟩
        have e_z_5 : z_5.toInt = i.toInt + 1 := i_add ez_5 rfl (by decide) (by omega) (by omega)
        refine lv_iinc (v := z_5) (lv' := [(2, .int z_5), (1, .int 0), (0, .ref h)]) hx hb dX7_again_138 hl (k := 1) rfl (by rw [ez_5]; rfl) (by decide) rfl (fun ls hl => ?_)
        refine lv_goto (tgt := 104) hx hb dX7_again_141 (by decide) ?_
        exact ih (kf - 1) (by omega) g1 z_5 (0 : Int32) H locs ls hT hI hE hM (by omega) (by omega) (by decide) (by decide) (by have e0_ : (0 : Int32).toInt = 0 := (by decide); omega) (lv_sub hl [0, 1, 2] rfl)
      · have c_4' : li.toInt ≠ 0 := i_ne c_4 rfl (by decide)
        refine lv_aload_n hx hb dX7_again_114 rfl (lv_at hl 2 rfl) ?_
        obtain ⟨v_6, e_v_6, r_v_6, n_v_6⟩ := f_8_8 hI r_1
        refine t_get (ci := 7) (v := .ref v_6) hB hT (ro_ci r_1 rfl) rfl 8 (by decide) k_753 e_v_6 dX7_again_115 ?_
        refine lv_bipush (v := 6) hx hb dX7_again_118 (by decide) ?_
        refine lv_iload_n hx hb dX7_again_120 rfl (lv_at hl 0 rfl) ?_
        refine lv_iadd hx hb dX7_again_121 ?_
        refine lv_topi (fun z_7 ez_7 => ?_)
        have e_z_7 : z_7.toInt = 6 + i.toInt := i_add ez_7 (by decide) rfl (by omega) (by omega)
        have i_u_8 : vp_in z_7 12 := (i_in (n := 12) rfl (by omega) (by omega))
        refine t_iald hB hT (ro_in r_v_6 (by decide)) n_v_6 i_u_8 rfl dX7_again_122 ?_
        have c_u_8 := hI.c r_v_6 n_v_6 (i_cl i_u_8)
        refine lv_topi (fun u_8 e_u_8 => ?_)
        obtain ⟨l_u_8, u_u_8⟩ := c_u_8
        rw [← e_u_8] at l_u_8 u_u_8
        refine lv_aload_n hx hb dX7_again_123 rfl (lv_at hl 2 rfl) ?_
        refine t_get (ci := 7) (v := .ref v_6) hB hT (ro_ci r_1 rfl) rfl 8 (by decide) k_753 e_v_6 dX7_again_124 ?_
        refine lv_iload_n hx hb dX7_again_127 rfl (lv_at hl 0 rfl) ?_
        have i_u_9 : vp_in i 12 := (i_in (n := 12) rfl (by omega) (by omega))
        refine t_iald hB hT (ro_in r_v_6 (by decide)) n_v_6 i_u_9 rfl dX7_again_128 ?_
        have c_u_9 := hI.c r_v_6 n_v_6 (i_cl i_u_9)
        refine lv_topi (fun u_9 e_u_9 => ?_)
        obtain ⟨l_u_9, u_u_9⟩ := c_u_9
        rw [← e_u_9] at l_u_9 u_u_9
        refine lv_icmp_ne (tgt := 136) hx hb dX7_again_129 (by decide) (fun c_10 => ?_) (fun c_10 => ?_)
        · have c_10' : u_8.toInt ≠ u_9.toInt := i_ne c_10 rfl rfl
          refine lv_iconst (v := 0) hx hb dX7_again_136 (by decide) ?_
          refine lv_istore_n (lv' := [(1, .int 0), (2, .int i), (0, .ref h)]) hx hb dX7_again_137 rfl hl (by decide) rfl (fun ls hl => ?_)
          obtain ⟨z_11, ez_11⟩ : ∃ z : Int32, z = i + 1 := ⟨_, rfl⟩
          have e_z_11 : z_11.toInt = i.toInt + 1 := i_add ez_11 rfl (by decide) (by omega) (by omega)
          refine lv_iinc (v := z_11) (lv' := [(2, .int z_11), (1, .int 0), (0, .ref h)]) hx hb dX7_again_138 hl (k := 1) rfl (by rw [ez_11]; rfl) (by decide) rfl (fun ls hl => ?_)
          refine lv_goto (tgt := 104) hx hb dX7_again_141 (by decide) ?_
          exact ih (kf - 1) (by omega) g1 z_11 (0 : Int32) H locs ls hT hI hE hM (by omega) (by omega) (by decide) (by decide) (by have e0_ : (0 : Int32).toInt = 0 := (by decide); omega) (lv_sub hl [0, 1, 2] rfl)
        · have c_10' : u_8.toInt = u_9.toInt := i_eq c_10 rfl rfl
          refine lv_iconst (v := 1) hx hb dX7_again_132 (by decide) ?_
          refine lv_goto (tgt := 137) hx hb dX7_again_133 (by decide) ?_
          refine lv_istore_n (lv' := [(1, .int 1), (2, .int i), (0, .ref h)]) hx hb dX7_again_137 rfl hl (by decide) rfl (fun ls hl => ?_)
          obtain ⟨z_12, ez_12⟩ : ∃ z : Int32, z = i + 1 := ⟨_, rfl⟩
          have e_z_12 : z_12.toInt = i.toInt + 1 := i_add ez_12 rfl (by decide) (by omega) (by omega)
          refine lv_iinc (v := z_12) (lv' := [(2, .int z_12), (1, .int 1), (0, .ref h)]) hx hb dX7_again_138 hl (k := 1) rfl (by rw [ez_12]; rfl) (by decide) rfl (fun ls hl => ?_)
          refine lv_goto (tgt := 104) hx hb dX7_again_141 (by decide) ?_
          exact ih (kf - 1) (by omega) g1 z_12 (1 : Int32) H locs ls hT hI hE hM (by omega) (by omega) (by decide) (by decide) (by have e0_ : (0 : Int32).toInt = 0 := (by decide); have e1_ : (1 : Int32).toInt = 1 := (by decide); omega) (lv_sub hl [0, 1, 2] rfl)
set_option maxHeartbeats 4000000 in
set_option maxRecDepth 100000 in
theorem lt_m_again_b (l : Launch) (D : va_G) (cI cZ cS cR : ClassId) (N0 : NT) (g : GS) (h : Nat) (r_h : g.1 h = 8) (hw : PX 48 2 3 71 72 g h) {p : Program} {e : Env} {s : State} {m : MethodId} {args : Array Value} {below : List Frame} {meth : Method} {c : Code} (hB : Tz p s m meth c args cX7_again 3 RX7 D cI cZ cS cR N0) (hr : meth.sig.returnType = (some .int))    : ∀ (kf : Nat) (g1 : GS) (i : Int32) (li : Int32)  (H : Heap) (locs : List Loc) (ls : Array Slot), Tv D cI cZ cS cR N0 s.heap H locs g1 → Inv g1 → Ex g g1 → Sm md_m_again g g1 → 0 ≤ i.toInt → i.toInt ≤ 24 → 0 ≤ li.toInt → li.toInt ≤ 1 → (24 ≤ i.toInt + kf) → lv_has ls 3 [(2, .int i), (1, .int li), (0, .ref h)] → W p l e (rmx 6 0 0) s m args below meth c H locs 0 0 (MQ below (tQ D cI cZ cS cR N0 (fun v g' => ∃ (r : Int32), v = some (.int r) ∧ Inv g' ∧ Ex g g' ∧ Sm md_m_again g g')) args s 0 0 (fun q => N0.1 ≤ q)) (F0 m 62 ls []) := by
  have hx := hB.1
  have hb := hB.2.1
  intro kf
  induction kf using Nat.strongRecOn with
  | ind kf ih =>
    intro g1 i li H locs ls hT hI hE hM l_i u_i l_li u_li hk hl
    have r_1 : g1.1 h = 8 := Ex.r hE r_h (by decide)
    refine lv_iload_n hx hb dX7_again_62 rfl (lv_at hl 0 rfl) ?_
    refine lv_bipush (v := 24) hx hb dX7_again_63 (by decide) ?_
    refine lv_icmp_ge (tgt := 102) hx hb dX7_again_65 (by decide) (fun c_2 => ?_) (fun c_2 => ?_)
    · have c_2' : 24 ≤ i.toInt := i_le c_2 (by decide) rfl
      refine lv_iconst (v := 0) hx hb dX7_again_102 (by decide) ?_
      refine lv_istore_n (lv' := [(2, .int 0), (1, .int li), (0, .ref h)]) hx hb dX7_again_103 rfl hl (by decide) rfl (fun ls hl => ?_)
      exact lt_m_again_c l D cI cZ cS cR N0 g h r_h hw hB hr   6 g1 (0 : Int32) li H locs ls hT hI hE hM (by decide) (by decide) (by omega) (by omega) (by have e0_ : (0 : Int32).toInt = 0 := (by decide); omega) (lv_sub hl [0, 1, 2] rfl)
    · have c_2' : i.toInt < 24 := i_nle c_2 (by decide) rfl
      refine lv_iload_n hx hb dX7_again_68 rfl (lv_at hl 1 rfl) ?_
      refine lv_if_eq (tgt := 94) hx hb dX7_again_69 (by decide) (fun c_3 => ?_) (fun c_3 => ?_)
      · have c_3' : li.toInt = 0 := i_eq c_3 rfl (by decide)
        refine lv_iconst (v := 0) hx hb dX7_again_94 (by decide) ?_
        refine lv_istore_n (lv' := [(1, .int 0), (2, .int i), (0, .ref h)]) hx hb dX7_again_95 rfl hl (by decide) rfl (fun ls hl => ?_)
        obtain ⟨z_4, ez_4⟩ : ∃ z : Int32, z = i + 1 := ⟨_, rfl⟩
        have e_z_4 : z_4.toInt = i.toInt + 1 := i_add ez_4 rfl (by decide) (by omega) (by omega)
        refine lv_iinc (v := z_4) (lv' := [(2, .int z_4), (1, .int 0), (0, .ref h)]) hx hb dX7_again_96 hl (k := 1) rfl (by rw [ez_4]; rfl) (by decide) rfl (fun ls hl => ?_)
        refine lv_goto (tgt := 62) hx hb dX7_again_99 (by decide) ?_
        exact ih (kf - 1) (by omega) g1 z_4 (0 : Int32) H locs ls hT hI hE hM (by omega) (by omega) (by decide) (by decide) (by have e0_ : (0 : Int32).toInt = 0 := (by decide); omega) (lv_sub hl [0, 1, 2] rfl)
      · have c_3' : li.toInt ≠ 0 := i_ne c_3 rfl (by decide)
        refine lv_aload_n hx hb dX7_again_72 rfl (lv_at hl 2 rfl) ?_
        obtain ⟨v_5, e_v_5, r_v_5, n_v_5⟩ := f_8_7 hI r_1
        refine t_get (ci := 7) (v := .ref v_5) hB hT (ro_ci r_1 rfl) rfl 7 (by decide) k_752 e_v_5 dX7_again_73 ?_
        refine lv_bipush (v := 24) hx hb dX7_again_76 (by decide) ?_
        refine lv_iload_n hx hb dX7_again_78 rfl (lv_at hl 0 rfl) ?_
        refine lv_iadd hx hb dX7_again_79 ?_
        refine lv_topi (fun z_6 ez_6 => ?_)
        have e_z_6 : z_6.toInt = 24 + i.toInt := i_add ez_6 (by decide) rfl (by omega) (by omega)
        have i_u_7 : vp_in z_6 48 := (i_in (n := 48) rfl (by omega) (by omega))
        refine t_iald hB hT (ro_in r_v_5 (by decide)) n_v_5 i_u_7 rfl dX7_again_80 ?_
        have c_u_7 := hI.c r_v_5 n_v_5 (i_cl i_u_7)
        refine lv_topi (fun u_7 e_u_7 => ?_)
        obtain ⟨l_u_7, u_u_7⟩ := c_u_7
        rw [← e_u_7] at l_u_7 u_u_7
        refine lv_aload_n hx hb dX7_again_81 rfl (lv_at hl 2 rfl) ?_
        refine t_get (ci := 7) (v := .ref v_5) hB hT (ro_ci r_1 rfl) rfl 7 (by decide) k_752 e_v_5 dX7_again_82 ?_
        refine lv_iload_n hx hb dX7_again_85 rfl (lv_at hl 0 rfl) ?_
        have i_u_8 : vp_in i 48 := (i_in (n := 48) rfl (by omega) (by omega))
        refine t_iald hB hT (ro_in r_v_5 (by decide)) n_v_5 i_u_8 rfl dX7_again_86 ?_
        have c_u_8 := hI.c r_v_5 n_v_5 (i_cl i_u_8)
        refine lv_topi (fun u_8 e_u_8 => ?_)
        obtain ⟨l_u_8, u_u_8⟩ := c_u_8
        rw [← e_u_8] at l_u_8 u_u_8
        refine lv_icmp_ne (tgt := 94) hx hb dX7_again_87 (by decide) (fun c_9 => ?_) (fun c_9 => ?_)
        · have c_9' : u_7.toInt ≠ u_8.toInt := i_ne c_9 rfl rfl
          refine lv_iconst (v := 0) hx hb dX7_again_94 (by decide) ?_
          refine lv_istore_n (lv' := [(1, .int 0), (2, .int i), (0, .ref h)]) hx hb dX7_again_95 rfl hl (by decide) rfl (fun ls hl => ?_)
          obtain ⟨z_10, ez_10⟩ : ∃ z : Int32, z = i + 1 := ⟨_, rfl⟩
          have e_z_10 : z_10.toInt = i.toInt + 1 := i_add ez_10 rfl (by decide) (by omega) (by omega)
          refine lv_iinc (v := z_10) (lv' := [(2, .int z_10), (1, .int 0), (0, .ref h)]) hx hb dX7_again_96 hl (k := 1) rfl (by rw [ez_10]; rfl) (by decide) rfl (fun ls hl => ?_)
          refine lv_goto (tgt := 62) hx hb dX7_again_99 (by decide) ?_
          exact ih (kf - 1) (by omega) g1 z_10 (0 : Int32) H locs ls hT hI hE hM (by omega) (by omega) (by decide) (by decide) (by have e0_ : (0 : Int32).toInt = 0 := (by decide); omega) (lv_sub hl [0, 1, 2] rfl)
        · have c_9' : u_7.toInt = u_8.toInt := i_eq c_9 rfl rfl
          refine lv_iconst (v := 1) hx hb dX7_again_90 (by decide) ?_
          refine lv_goto (tgt := 95) hx hb dX7_again_91 (by decide) ?_
          refine lv_istore_n (lv' := [(1, .int 1), (2, .int i), (0, .ref h)]) hx hb dX7_again_95 rfl hl (by decide) rfl (fun ls hl => ?_)
          obtain ⟨z_11, ez_11⟩ : ∃ z : Int32, z = i + 1 := ⟨_, rfl⟩
          have e_z_11 : z_11.toInt = i.toInt + 1 := i_add ez_11 rfl (by decide) (by omega) (by omega)
          refine lv_iinc (v := z_11) (lv' := [(2, .int z_11), (1, .int 1), (0, .ref h)]) hx hb dX7_again_96 hl (k := 1) rfl (by rw [ez_11]; rfl) (by decide) rfl (fun ls hl => ?_)
          refine lv_goto (tgt := 62) hx hb dX7_again_99 (by decide) ?_
          exact ih (kf - 1) (by omega) g1 z_11 (1 : Int32) H locs ls hT hI hE hM (by omega) (by omega) (by decide) (by decide) (by have e0_ : (0 : Int32).toInt = 0 := (by decide); have e1_ : (1 : Int32).toInt = 1 := (by decide); omega) (lv_sub hl [0, 1, 2] rfl)
set_option maxHeartbeats 4000000 in
set_option maxRecDepth 100000 in
theorem lt_m_again_a (l : Launch) (D : va_G) (cI cZ cS cR : ClassId) (N0 : NT) (g : GS) (h : Nat) (r_h : g.1 h = 8) (hw : PX 48 2 3 71 72 g h) {p : Program} {e : Env} {s : State} {m : MethodId} {args : Array Value} {below : List Frame} {meth : Method} {c : Code} (hB : Tz p s m meth c args cX7_again 3 RX7 D cI cZ cS cR N0) (hr : meth.sig.returnType = (some .int))    : ∀ (kf : Nat) (g1 : GS) (i : Int32) (to1 : Int32)  (H : Heap) (locs : List Loc) (ls : Array Slot), Tv D cI cZ cS cR N0 s.heap H locs g1 → Inv g1 → Ex g g1 → Sm md_m_again g g1 → 0 ≤ i.toInt → i.toInt ≤ 20 → 0 ≤ to1.toInt → to1.toInt ≤ 1200 → g1.2.1 h 21 = .int 1 → g1.2.1 h 52 = .int to1 → (20 ≤ i.toInt + kf ∧ to1.toInt ≤ 60 * i.toInt) → lv_has ls 3 [(1, .int i), (0, .ref h)] → W p l e (rmx 6 0 0) s m args below meth c H locs 0 0 (MQ below (tQ D cI cZ cS cR N0 (fun v g' => ∃ (r : Int32), v = some (.int r) ∧ Inv g' ∧ Ex g g' ∧ Sm md_m_again g g')) args s 0 0 (fun q => N0.1 ≤ q)) (F0 m 6 ls []) := by
  have hx := hB.1
  have hb := hB.2.1
  intro kf
  induction kf using Nat.strongRecOn with
  | ind kf ih =>
    intro g1 i to1 H locs ls hT hI hE hM l_i u_i l_to1 u_to1 kp0 kp1 hk hl
    have r_1 : g1.1 h = 8 := Ex.r hE r_h (by decide)
    refine lv_iload_n hx hb dX7_again_6 rfl (lv_at hl 0 rfl) ?_
    refine lv_aload_n hx hb dX7_again_7 rfl (lv_at hl 1 rfl) ?_
    obtain ⟨v_2, e_v_2, l_v_2, u_v_2⟩ := f_8_24 hI r_1
    refine t_get (ci := 7) (v := .int v_2) hB hT (ro_ci r_1 rfl) rfl 24 (by decide) k_769 e_v_2 dX7_again_8 ?_
    refine lv_icmp_ge (tgt := 47) hx hb dX7_again_11 (by decide) (fun c_3 => ?_) (fun c_3 => ?_)
    · have c_3' : v_2.toInt ≤ i.toInt := i_le c_3 rfl rfl
      refine lv_aload_n hx hb dX7_again_47 rfl (lv_at hl 1 rfl) ?_
      refine t_get (ci := 7) (v := .int to1) hB hT (ro_ci r_1 rfl) rfl 52 (by decide) k_797 kp1 dX7_again_48 ?_
      refine lv_if_ne (tgt := 58) hx hb dX7_again_51 (by decide) (fun c_4 => ?_) (fun c_4 => ?_)
      · have c_4' : to1.toInt ≠ 0 := i_ne c_4 rfl (by decide)
        refine lv_iconst (v := 0) hx hb dX7_again_58 (by decide) ?_
        refine lv_istore_n (lv' := [(1, .int 0), (0, .ref h)]) hx hb dX7_again_59 rfl hl (by decide) rfl (fun ls hl => ?_)
        refine lv_iconst (v := 0) hx hb dX7_again_60 (by decide) ?_
        refine lv_istore_n (lv' := [(2, .int 0), (1, .int 0), (0, .ref h)]) hx hb dX7_again_61 rfl hl (by decide) rfl (fun ls hl => ?_)
        exact lt_m_again_b l D cI cZ cS cR N0 g h r_h hw hB hr   24 g1 (0 : Int32) (0 : Int32) H locs ls hT hI hE hM (by decide) (by decide) (by decide) (by decide) (by have e0_ : (0 : Int32).toInt = 0 := (by decide); omega) (lv_sub hl [0, 1, 2] rfl)
      · have c_4' : to1.toInt = 0 := i_eq c_4 rfl (by decide)
        refine lv_iconst (v := 1) hx hb dX7_again_54 (by decide) ?_
        refine lv_goto (tgt := 59) hx hb dX7_again_55 (by decide) ?_
        refine lv_istore_n (lv' := [(1, .int 1), (0, .ref h)]) hx hb dX7_again_59 rfl hl (by decide) rfl (fun ls hl => ?_)
        refine lv_iconst (v := 0) hx hb dX7_again_60 (by decide) ?_
        refine lv_istore_n (lv' := [(2, .int 0), (1, .int 1), (0, .ref h)]) hx hb dX7_again_61 rfl hl (by decide) rfl (fun ls hl => ?_)
        exact lt_m_again_b l D cI cZ cS cR N0 g h r_h hw hB hr   24 g1 (0 : Int32) (1 : Int32) H locs ls hT hI hE hM (by decide) (by decide) (by decide) (by decide) (by have e0_ : (0 : Int32).toInt = 0 := (by decide); have e1_ : (1 : Int32).toInt = 1 := (by decide); omega) (lv_sub hl [0, 1, 2] rfl)
    · have c_3' : i.toInt < v_2.toInt := i_nle c_3 rfl rfl
      refine lv_aload_n hx hb dX7_again_14 rfl (lv_at hl 1 rfl) ?_
      refine lv_aload_n hx hb dX7_again_15 rfl (lv_at hl 1 rfl) ?_
      refine lv_aload_n hx hb dX7_again_16 rfl (lv_at hl 1 rfl) ?_
      obtain ⟨v_5, e_v_5, r_v_5, n_v_5⟩ := f_8_25 hI r_1
      refine t_get (ci := 7) (v := .ref v_5) hB hT (ro_ci r_1 rfl) rfl 25 (by decide) k_770 e_v_5 dX7_again_17 ?_
      refine lv_iload_n hx hb dX7_again_20 rfl (lv_at hl 0 rfl) ?_
      have i_u_6 : vp_in i 20 := (i_in (n := 20) rfl (by omega) (by omega))
      refine t_iald hB hT (ro_in r_v_5 (by decide)) n_v_5 i_u_6 rfl dX7_again_21 ?_
      have c_u_6 := hI.c r_v_5 n_v_5 (i_cl i_u_6)
      refine lv_topi (fun u_6 e_u_6 => ?_)
      obtain ⟨l_u_6, u_u_6⟩ := c_u_6
      rw [← e_u_6] at l_u_6 u_u_6
      refine lv_aload_n hx hb dX7_again_22 rfl (lv_at hl 1 rfl) ?_
      obtain ⟨v_7, e_v_7, r_v_7, n_v_7⟩ := f_8_26 hI r_1
      refine t_get (ci := 7) (v := .ref v_7) hB hT (ro_ci r_1 rfl) rfl 26 (by decide) k_771 e_v_7 dX7_again_23 ?_
      refine lv_iload_n hx hb dX7_again_26 rfl (lv_at hl 0 rfl) ?_
      have i_u_8 : vp_in i 20 := (i_in (n := 20) rfl (by omega) (by omega))
      refine t_iald hB hT (ro_in r_v_7 (by decide)) n_v_7 i_u_8 rfl dX7_again_27 ?_
      have c_u_8 := hI.c r_v_7 n_v_7 (i_cl i_u_8)
      refine lv_topi (fun u_8 e_u_8 => ?_)
      obtain ⟨l_u_8, u_u_8⟩ := c_u_8
      rw [← e_u_8] at l_u_8 u_u_8
      refine lv_aload_n hx hb dX7_again_28 rfl (lv_at hl 1 rfl) ?_
      obtain ⟨v_9, e_v_9, r_v_9, n_v_9⟩ := f_8_27 hI r_1
      refine t_get (ci := 7) (v := .ref v_9) hB hT (ro_ci r_1 rfl) rfl 27 (by decide) k_772 e_v_9 dX7_again_29 ?_
      refine lv_iload_n hx hb dX7_again_32 rfl (lv_at hl 0 rfl) ?_
      have i_u_10 : vp_in i 20 := (i_in (n := 20) rfl (by omega) (by omega))
      refine t_iald hB hT (ro_in r_v_9 (by decide)) n_v_9 i_u_10 rfl dX7_again_33 ?_
      refine lv_topi (fun u_10 e_u_10 => ?_)
      refine lv_iconst (v := 0) hx hb dX7_again_34 (by decide) ?_
      obtain ⟨v_11, e_v_11, r_v_11, n_v_11⟩ := f_8_43 hI r_1
      obtain ⟨v_12, e_v_12, r_v_12, n_v_12⟩ := f_8_46 hI r_1
      refine t_callV (n := 4) (As := [.int u_6, .int u_8, .int u_10, .int 0]) (rest := [.ref h]) (ci := 7) hB hT hl.1 (m_calls1 l D cI cZ cS cR N0 g1 hI h u_6 u_8 u_10 0 to1 v_11 v_12 r_1 r_v_11 n_v_11 r_v_12 n_v_12 kp1 kp0 e_v_11 e_v_12 (by have q0 : (0 : Int32).toInt = 0 := (by decide); omega) (by have q0 : (0 : Int32).toInt = 0 := (by decide); omega) (by have q0 : (0 : Int32).toInt = 0 := (by decide); omega) (by have q0 : (0 : Int32).toInt = 0 := (by decide); omega) (by have q0 : (0 : Int32).toInt = 0 := (by decide); omega) (by have q0 : (0 : Int32).toInt = 0 := (by decide); omega) (hw.mono hM hE r_h (by decide) (by decide) rfl rfl rfl rfl)) (ro_ci r_1 rfl) rfl k_1035 k_65 k_1032 k_1034 k_32 (by decide +kernel) ⟨(Nat.le_of_ble_eq_true rfl), (Nat.le_of_ble_eq_true rfl)⟩ rfl (Nat.le_of_ble_eq_true rfl) ⟨(Nat.le_of_ble_eq_true rfl), (Nat.le_of_ble_eq_true rfl)⟩ dX7_again_35 (fun v g_13 H locs hp hT => ?_)
      obtain ⟨r_14, t2_15, rfl, hI, x_20, m_19, f_16, f_17, f_18⟩ := hp
      have hM : Sm md_m_again g g_13 := hM.tr hE (m_19.mo (fun r k h => mdle_m_again_m_calls1 h))
      have hE : Ex g g_13 := hE.tr x_20
      have r_21 : g_13.1 h = 8 := (Ex.r x_20 r_1 (by decide))
      have r_22 : g_13.1 v_5 = 76 := (Ex.r x_20 r_v_5 (by decide))
      have r_23 : g_13.1 v_7 = 77 := (Ex.r x_20 r_v_7 (by decide))
      have r_24 : g_13.1 v_9 = 78 := (Ex.r x_20 r_v_9 (by decide))
      have r_25 : g_13.1 v_11 = 51 := (Ex.r x_20 r_v_11 (by decide))
      have r_26 : g_13.1 v_12 = 55 := (Ex.r x_20 r_v_12 (by decide))
      have n_27 : g_13.2.2.1 v_5 = 20 := (Ex.n x_20 r_v_5 (by decide) n_v_5)
      have n_28 : g_13.2.2.1 v_7 = 20 := (Ex.n x_20 r_v_7 (by decide) n_v_7)
      have n_29 : g_13.2.2.1 v_9 = 20 := (Ex.n x_20 r_v_9 (by decide) n_v_9)
      have n_30 : g_13.2.2.1 v_11 = 7 := (Ex.n x_20 r_v_11 (by decide) n_v_11)
      have n_31 : g_13.2.2.1 v_12 = 7 := (Ex.n x_20 r_v_12 (by decide) n_v_12)
      have kn_32 : g_13.2.1 h 21 = .int 1 := (Sm.v m_19 r_1 (by decide) rfl kp0)
      have kn_33 : g_13.2.1 h 24 = .int v_2 := (Sm.v m_19 r_1 (by decide) rfl e_v_2)
      have kn_34 : g_13.2.1 h 25 = .ref v_5 := (Sm.v m_19 r_1 (by decide) rfl e_v_5)
      have kn_35 : g_13.2.1 h 26 = .ref v_7 := (Sm.v m_19 r_1 (by decide) rfl e_v_7)
      have kn_36 : g_13.2.1 h 27 = .ref v_9 := (Sm.v m_19 r_1 (by decide) rfl e_v_9)
      have kn_37 : g_13.2.1 h 43 = .ref v_11 := (Sm.v m_19 r_1 (by decide) rfl e_v_11)
      have kn_38 : g_13.2.1 h 46 = .ref v_12 := (Sm.v m_19 r_1 (by decide) rfl e_v_12)
      have kn_39 : g_13.2.2.2.1 v_5 i.toNatClampNeg = u_6 := (Sm.c m_19 r_v_5 (by decide) rfl e_u_6.symm)
      have kn_40 : g_13.2.2.2.1 v_7 i.toNatClampNeg = u_8 := (Sm.c m_19 r_v_7 (by decide) rfl e_u_8.symm)
      have kn_41 : g_13.2.2.2.1 v_9 i.toNatClampNeg = u_10 := (Sm.c m_19 r_v_9 (by decide) rfl e_u_10.symm)
      refine W.eq (g2 := F0 m 38 ls [.int r_14, .ref h]) rfl ?_
      have qc_42 : (0 : Int32).toInt = 0 := (by decide)
      refine t_put0 (ci := 7) (v := .int r_14) hB hT (ro_ci r_21 rfl) (ro_n0 r_21 (by decide)) rfl 51 (by decide) k_796 (Or.inl rfl) rfl rfl dX7_again_38 (fun H locs hT => ?_)
      have hI : Inv (sF g_13 h 51 (.int r_14)) := hI.sF (p_8_51 r_21 (⟨_, rfl, by omega, by omega⟩))
      have hM : Sm md_m_again g (sF g_13 h 51 (.int r_14)) := hM.tr hE (Sm_sF (by rw [r_21]; rfl))
      have hE : Ex g (sF g_13 h 51 (.int r_14)) := hE
      obtain ⟨z_43, ez_43⟩ : ∃ z : Int32, z = i + 1 := ⟨_, rfl⟩
      have e_z_43 : z_43.toInt = i.toInt + 1 := i_add ez_43 rfl (by decide) (by omega) (by omega)
      refine lv_iinc (v := z_43) (lv' := [(1, .int z_43), (0, .ref h)]) hx hb dX7_again_41 hl (k := 0) rfl (by rw [ez_43]; rfl) (by decide) rfl (fun ls hl => ?_)
      refine lv_goto (tgt := 6) hx hb dX7_again_44 (by decide) ?_
      exact ih (kf - 1) (by omega) (sF g_13 h 51 (.int r_14)) z_43 t2_15 H locs ls hT hI hE hM (by omega) (by omega) (by omega) (by omega) (sF_k kn_32 (by decide)) (sF_k f_17 (by decide)) (by have e0_ : (0 : Int32).toInt = 0 := (by decide); omega) (lv_sub hl [0, 1] rfl)
set_option maxHeartbeats 4000000 in
set_option maxRecDepth 100000 in
theorem m_again (l : Launch) (D : va_G) (cI cZ cS cR : ClassId) (N0 : NT) (g : GS) (hI : Inv g) (h : Nat) (r_h : g.1 h = 8) (hw : PX 48 2 3 71 72 g h) : Ty l D cI cZ cS cR N0 yX7_again cX7_again 3 (some .int) 6 0 0 [.ref h] g (fun v g' => ∃ (r : Int32), v = some (.int r) ∧ Inv g' ∧ Ex g g' ∧ Sm md_m_again g g') := by
  refine t_enter (by decide) (Nat.le_of_ble_eq_true rfl) ?_
  intro p e s m args below meth c ls H locs hB hr hin hl hT
  have hx := hB.1
  have hb := hB.2.1
  have hl : lv_has ls 3 [(0, .ref h)] := hl
  have hE : Ex g g := Ex.rf
  have hM : Sm md_m_again g g := Sm.rf
  refine lv_aload_n hx hb dX7_again_0 rfl (lv_at hl 0 rfl) ?_
  refine t_callV (n := 0) (As := []) (rest := []) (ci := 7) hB hT hl.1 (m_tries l D cI cZ cS cR N0 g hI h r_h) (ro_ci r_h rfl) rfl k_1107 k_65 k_1104 k_1106 k_45 (by decide +kernel) ⟨(Nat.le_of_ble_eq_true rfl), (Nat.le_of_ble_eq_true rfl)⟩ rfl (Nat.le_of_ble_eq_true rfl) ⟨(Nat.le_of_ble_eq_true rfl), (Nat.le_of_ble_eq_true rfl)⟩ dX7_again_1 (fun v g_1 H locs hp hT => ?_)
  obtain ⟨rfl, hI, x_5, m_4, f_2, f_3⟩ := hp
  have hM : Sm md_m_again g g_1 := hM.tr hE (m_4.mo (fun r k h => mdle_m_again_m_tries h))
  have hE : Ex g g_1 := hE.tr x_5
  have r_6 : g_1.1 h = 8 := (Ex.r x_5 r_h (by decide))
  refine W.eq (g2 := F0 m 4 ls []) rfl ?_
  refine lv_iconst (v := 0) hx hb dX7_again_4 (by decide) ?_
  refine lv_istore_n (lv' := [(1, .int 0), (0, .ref h)]) hx hb dX7_again_5 rfl hl (by decide) rfl (fun ls hl => ?_)
  exact lt_m_again_a l D cI cZ cS cR N0 g h r_h hw hB hr   20 g_1 (0 : Int32) (0 : Int32) H locs ls hT hI hE hM (by decide) (by decide) (by decide) (by decide) f_2 f_3 (by have e0_ : (0 : Int32).toInt = 0 := (by decide); omega) (lv_sub hl [0, 1] rfl)
abbrev md_m_reset : Nat → Nat → Bool := mdf [(8, 22), (8, 24), (40, 99), (50, 99), (54, 99), (56, 99)]
set_option maxHeartbeats 4000000 in
set_option maxRecDepth 100000 in
theorem lt_m_reset_b (l : Launch) (D : va_G) (cI cZ cS cR : ClassId) (N0 : NT) (g : GS) (h : Nat) (r_h : g.1 h = 8) {p : Program} {e : Env} {s : State} {m : MethodId} {args : Array Value} {below : List Frame} {meth : Method} {c : Code} (hB : Tz p s m meth c args cX7_reset 3 RX7 D cI cZ cS cR N0) (hr : meth.sig.returnType = (some .int))    : ∀ (kf : Nat) (g1 : GS) (i : Int32) (lg : Int32)  (H : Heap) (locs : List Loc) (ls : Array Slot), Tv D cI cZ cS cR N0 s.heap H locs g1 → Inv g1 → Ex g g1 → Sm md_m_reset g g1 → 0 ≤ i.toInt → i.toInt ≤ 24 → g1.2.1 h 22 = .int 0 → (24 ≤ i.toInt + kf) → lv_has ls 3 [(2, .int i), (1, .int lg), (0, .ref h)] → W p l e (rmx 0 0 0) s m args below meth c H locs 0 0 (MQ below (tQ D cI cZ cS cR N0 (fun v g' => ∃ (r : Int32), v = some (.int r) ∧ Inv g' ∧ Ex g g' ∧ Sm md_m_reset g g' ∧ (g'.2.1 h 22 = .int 0))) args s 0 0 (fun q => N0.1 ≤ q)) (F0 m 59 ls []) := by
  have hx := hB.1
  have hb := hB.2.1
  intro kf
  induction kf using Nat.strongRecOn with
  | ind kf ih =>
    intro g1 i lg H locs ls hT hI hE hM l_i u_i kp0 hk hl
    have r_1 : g1.1 h = 8 := Ex.r hE r_h (by decide)
    refine lv_iload_n hx hb dX7_reset_59 rfl (lv_at hl 0 rfl) ?_
    refine lv_bipush (v := 24) hx hb dX7_reset_60 (by decide) ?_
    refine lv_icmp_ge (tgt := 78) hx hb dX7_reset_62 (by decide) (fun c_2 => ?_) (fun c_2 => ?_)
    · have c_2' : 24 ≤ i.toInt := i_le c_2 (by decide) rfl
      refine lv_iload_n hx hb dX7_reset_78 rfl (lv_at hl 1 rfl) ?_
      exact t_iret hB hr hT (Nat.le_of_ble_eq_true rfl) (Nat.le_of_ble_eq_true rfl) dX7_reset_79 ⟨lg, rfl, hI, hE, hM, kp0⟩
    · have c_2' : i.toInt < 24 := i_nle c_2 (by decide) rfl
      refine lv_aload_n hx hb dX7_reset_65 rfl (lv_at hl 2 rfl) ?_
      obtain ⟨v_3, e_v_3, r_v_3, n_v_3⟩ := f_8_7 hI r_1
      refine t_get (ci := 7) (v := .ref v_3) hB hT (ro_ci r_1 rfl) rfl 7 (by decide) k_752 e_v_3 dX7_reset_66 ?_
      refine lv_iload_n hx hb dX7_reset_69 rfl (lv_at hl 0 rfl) ?_
      refine lv_iconst (v := 0) hx hb dX7_reset_70 (by decide) ?_
      have i_4 : vp_in i 48 := (i_in (n := 48) rfl (by omega) (by omega))
      refine t_iast hB hT (ro_in r_v_3 (by decide)) n_v_3 i_4 dX7_reset_71 (fun H locs hT => ?_)
      have hI : Inv (sC g1 v_3 i.toNatClampNeg (0 : Int32)) := hI.sC (ck r_v_3 ⟨by decide, by decide⟩)
      have hM : Sm md_m_reset g (sC g1 v_3 i.toNatClampNeg (0 : Int32)) := hM.tr hE (Sm_sC (by rw [r_v_3]; rfl))
      have hE : Ex g (sC g1 v_3 i.toNatClampNeg (0 : Int32)) := hE
      obtain ⟨z_5, ez_5⟩ : ∃ z : Int32, z = i + 1 := ⟨_, rfl⟩
      have e_z_5 : z_5.toInt = i.toInt + 1 := i_add ez_5 rfl (by decide) (by omega) (by omega)
      refine lv_iinc (v := z_5) (lv' := [(2, .int z_5), (1, .int lg), (0, .ref h)]) hx hb dX7_reset_72 hl (k := 0) rfl (by rw [ez_5]; rfl) (by decide) rfl (fun ls hl => ?_)
      refine lv_goto (tgt := 59) hx hb dX7_reset_75 (by decide) ?_
      exact ih (kf - 1) (by omega) (sC g1 v_3 i.toNatClampNeg (0 : Int32)) z_5 lg H locs ls hT hI hE hM (by omega) (by omega) kp0 (by have e0_ : (0 : Int32).toInt = 0 := (by decide); omega) (lv_sub hl [0, 1, 2] rfl)
set_option maxHeartbeats 4000000 in
set_option maxRecDepth 100000 in
theorem lt_m_reset_a (l : Launch) (D : va_G) (cI cZ cS cR : ClassId) (N0 : NT) (g : GS) (h : Nat) (r_h : g.1 h = 8) {p : Program} {e : Env} {s : State} {m : MethodId} {args : Array Value} {below : List Frame} {meth : Method} {c : Code} (hB : Tz p s m meth c args cX7_reset 3 RX7 D cI cZ cS cR N0) (hr : meth.sig.returnType = (some .int))    : ∀ (kf : Nat) (g1 : GS) (i : Int32) (lg : Int32)  (H : Heap) (locs : List Loc) (ls : Array Slot), Tv D cI cZ cS cR N0 s.heap H locs g1 → Inv g1 → Ex g g1 → Sm md_m_reset g g1 → 0 ≤ i.toInt → i.toInt ≤ 6 → g1.2.1 h 22 = .int 0 → (6 ≤ i.toInt + kf) → lv_has ls 3 [(2, .int i), (1, .int lg), (0, .ref h)] → W p l e (rmx 0 0 0) s m args below meth c H locs 0 0 (MQ below (tQ D cI cZ cS cR N0 (fun v g' => ∃ (r : Int32), v = some (.int r) ∧ Inv g' ∧ Ex g g' ∧ Sm md_m_reset g g' ∧ (g'.2.1 h 22 = .int 0))) args s 0 0 (fun q => N0.1 ≤ q)) (F0 m 24 ls []) := by
  have hx := hB.1
  have hb := hB.2.1
  intro kf
  induction kf using Nat.strongRecOn with
  | ind kf ih =>
    intro g1 i lg H locs ls hT hI hE hM l_i u_i kp0 hk hl
    have r_1 : g1.1 h = 8 := Ex.r hE r_h (by decide)
    refine lv_iload_n hx hb dX7_reset_24 rfl (lv_at hl 0 rfl) ?_
    refine lv_bipush (v := 6) hx hb dX7_reset_25 (by decide) ?_
    refine lv_icmp_ge (tgt := 57) hx hb dX7_reset_27 (by decide) (fun c_2 => ?_) (fun c_2 => ?_)
    · have c_2' : 6 ≤ i.toInt := i_le c_2 (by decide) rfl
      refine lv_iconst (v := 0) hx hb dX7_reset_57 (by decide) ?_
      refine lv_istore_n (lv' := [(2, .int 0), (1, .int lg), (0, .ref h)]) hx hb dX7_reset_58 rfl hl (by decide) rfl (fun ls hl => ?_)
      exact lt_m_reset_b l D cI cZ cS cR N0 g h r_h hB hr   24 g1 (0 : Int32) lg H locs ls hT hI hE hM (by decide) (by decide) kp0 (by have e0_ : (0 : Int32).toInt = 0 := (by decide); omega) (lv_sub hl [0, 1, 2] rfl)
    · have c_2' : i.toInt < 6 := i_nle c_2 (by decide) rfl
      refine lv_aload_n hx hb dX7_reset_30 rfl (lv_at hl 2 rfl) ?_
      obtain ⟨v_3, e_v_3, r_v_3, n_v_3⟩ := f_8_8 hI r_1
      refine t_get (ci := 7) (v := .ref v_3) hB hT (ro_ci r_1 rfl) rfl 8 (by decide) k_753 e_v_3 dX7_reset_31 ?_
      refine lv_iload_n hx hb dX7_reset_34 rfl (lv_at hl 0 rfl) ?_
      refine lv_iconst (v := 0) hx hb dX7_reset_35 (by decide) ?_
      have i_4 : vp_in i 12 := (i_in (n := 12) rfl (by omega) (by omega))
      refine t_iast hB hT (ro_in r_v_3 (by decide)) n_v_3 i_4 dX7_reset_36 (fun H locs hT => ?_)
      have hI : Inv (sC g1 v_3 i.toNatClampNeg (0 : Int32)) := hI.sC (ck r_v_3 ⟨by decide, by decide⟩)
      have hM : Sm md_m_reset g (sC g1 v_3 i.toNatClampNeg (0 : Int32)) := hM.tr hE (Sm_sC (by rw [r_v_3]; rfl))
      have hE : Ex g (sC g1 v_3 i.toNatClampNeg (0 : Int32)) := hE
      refine lv_aload_n hx hb dX7_reset_37 rfl (lv_at hl 2 rfl) ?_
      obtain ⟨v_5, e_v_5, r_v_5, n_v_5⟩ := f_8_9 hI r_1
      refine t_get (ci := 7) (v := .ref v_5) hB hT (ro_ci r_1 rfl) rfl 9 (by decide) k_754 e_v_5 dX7_reset_38 ?_
      refine lv_iload_n hx hb dX7_reset_41 rfl (lv_at hl 0 rfl) ?_
      refine lv_iconst (v := 0) hx hb dX7_reset_42 (by decide) ?_
      have i_6 : vp_in i 12 := (i_in (n := 12) rfl (by omega) (by omega))
      refine t_iast hB hT (ro_in r_v_5 (by decide)) n_v_5 i_6 dX7_reset_43 (fun H locs hT => ?_)
      have hI : Inv (sC (sC g1 v_3 i.toNatClampNeg (0 : Int32)) v_5 i.toNatClampNeg (0 : Int32)) := hI.sC (ck r_v_5 ⟨by decide, by decide⟩)
      have hM : Sm md_m_reset g (sC (sC g1 v_3 i.toNatClampNeg (0 : Int32)) v_5 i.toNatClampNeg (0 : Int32)) := hM.tr hE (Sm_sC (by rw [r_v_5]; rfl))
      have hE : Ex g (sC (sC g1 v_3 i.toNatClampNeg (0 : Int32)) v_5 i.toNatClampNeg (0 : Int32)) := hE
      refine lv_aload_n hx hb dX7_reset_44 rfl (lv_at hl 2 rfl) ?_
      obtain ⟨v_7, e_v_7, r_v_7, n_v_7⟩ := f_8_20 hI r_1
      refine t_get (ci := 7) (v := .ref v_7) hB hT (ro_ci r_1 rfl) rfl 20 (by decide) k_765 e_v_7 dX7_reset_45 ?_
      refine lv_iload_n hx hb dX7_reset_48 rfl (lv_at hl 0 rfl) ?_
      refine lv_iconst (v := 0) hx hb dX7_reset_49 (by decide) ?_
      have i_8 : vp_in i 12 := (i_in (n := 12) rfl (by omega) (by omega))
      refine t_zast hB hT r_v_7 n_v_7 i_8 dX7_reset_50 (fun H locs hT => ?_)
      have hI : Inv (sC (sC (sC g1 v_3 i.toNatClampNeg (0 : Int32)) v_5 i.toNatClampNeg (0 : Int32)) v_7 i.toNatClampNeg (vp_nar .boolean (0 : Int32))) := hI.sC (ck r_v_7 trivial)
      have hM : Sm md_m_reset g (sC (sC (sC g1 v_3 i.toNatClampNeg (0 : Int32)) v_5 i.toNatClampNeg (0 : Int32)) v_7 i.toNatClampNeg (vp_nar .boolean (0 : Int32))) := hM.tr hE (Sm_sC (by rw [r_v_7]; rfl))
      have hE : Ex g (sC (sC (sC g1 v_3 i.toNatClampNeg (0 : Int32)) v_5 i.toNatClampNeg (0 : Int32)) v_7 i.toNatClampNeg (vp_nar .boolean (0 : Int32))) := hE
      obtain ⟨z_9, ez_9⟩ : ∃ z : Int32, z = i + 1 := ⟨_, rfl⟩
      have e_z_9 : z_9.toInt = i.toInt + 1 := i_add ez_9 rfl (by decide) (by omega) (by omega)
      refine lv_iinc (v := z_9) (lv' := [(2, .int z_9), (1, .int lg), (0, .ref h)]) hx hb dX7_reset_51 hl (k := 0) rfl (by rw [ez_9]; rfl) (by decide) rfl (fun ls hl => ?_)
      refine lv_goto (tgt := 24) hx hb dX7_reset_54 (by decide) ?_
      exact ih (kf - 1) (by omega) (sC (sC (sC g1 v_3 i.toNatClampNeg (0 : Int32)) v_5 i.toNatClampNeg (0 : Int32)) v_7 i.toNatClampNeg (vp_nar .boolean (0 : Int32))) z_9 lg H locs ls hT hI hE hM (by omega) (by omega) kp0 (by have e0_ : (0 : Int32).toInt = 0 := (by decide); omega) (lv_sub hl [0, 1, 2] rfl)
set_option maxHeartbeats 4000000 in
set_option maxRecDepth 100000 in
theorem m_reset (l : Launch) (D : va_G) (cI cZ cS cR : ClassId) (N0 : NT) (g : GS) (hI : Inv g) (h : Nat) (r_h : g.1 h = 8) : Ty l D cI cZ cS cR N0 yX7_reset cX7_reset 3 (some .int) 0 0 0 [.ref h] g (fun v g' => ∃ (r : Int32), v = some (.int r) ∧ Inv g' ∧ Ex g g' ∧ Sm md_m_reset g g' ∧ (g'.2.1 h 22 = .int 0)) := by
  refine t_enter (by decide) (Nat.le_of_ble_eq_true rfl) ?_
  intro p e s m args below meth c ls H locs hB hr hin hl hT
  have hx := hB.1
  have hb := hB.2.1
  have hl : lv_has ls 3 [(0, .ref h)] := hl
  have hE : Ex g g := Ex.rf
  have hM : Sm md_m_reset g g := Sm.rf
  refine lv_aload_n hx hb dX7_reset_0 rfl (lv_at hl 0 rfl) ?_
  obtain ⟨v_1, e_v_1, l_v_1, u_v_1⟩ := f_8_24 hI r_h
  refine t_get (ci := 7) (v := .int v_1) hB hT (ro_ci r_h rfl) rfl 24 (by decide) k_769 e_v_1 dX7_reset_1 ?_
  refine lv_istore_n (lv' := [(1, .int v_1), (0, .ref h)]) hx hb dX7_reset_4 rfl hl (by decide) rfl (fun ls hl => ?_)
  refine lv_aload_n hx hb dX7_reset_5 rfl (lv_at hl 1 rfl) ?_
  refine lv_iconst (v := 0) hx hb dX7_reset_6 (by decide) ?_
  refine t_put0 (ci := 7) (v := .int 0) hB hT (ro_ci r_h rfl) (ro_n0 r_h (by decide)) rfl 24 (by decide) k_769 (Or.inl rfl) rfl rfl dX7_reset_7 (fun H locs hT => ?_)
  have hI : Inv (sF g h 24 (.int 0)) := hI.sF (p_8_24 r_h (⟨_, rfl, by decide, by decide⟩))
  have hM : Sm md_m_reset g (sF g h 24 (.int 0)) := hM.tr hE (Sm_sF (by rw [r_h]; rfl))
  have hE : Ex g (sF g h 24 (.int 0)) := hE
  refine lv_aload_n hx hb dX7_reset_10 rfl (lv_at hl 1 rfl) ?_
  refine lv_iconst (v := 0) hx hb dX7_reset_11 (by decide) ?_
  refine t_put0 (ci := 7) (v := .int 0) hB hT (ro_ci r_h rfl) (ro_n0 r_h (by decide)) rfl 22 (by decide) k_767 (Or.inl rfl) rfl rfl dX7_reset_12 (fun H locs hT => ?_)
  have hI : Inv (sF (sF g h 24 (.int 0)) h 22 (.int 0)) := hI.sF (p_8_22 r_h (⟨_, rfl⟩))
  have hM : Sm md_m_reset g (sF (sF g h 24 (.int 0)) h 22 (.int 0)) := hM.tr hE (Sm_sF (by rw [r_h]; rfl))
  have hE : Ex g (sF (sF g h 24 (.int 0)) h 22 (.int 0)) := hE
  refine lv_aload_n hx hb dX7_reset_15 rfl (lv_at hl 1 rfl) ?_
  obtain ⟨v_2, e_v_2, r_v_2, n_v_2⟩ := f_8_14 hI r_h
  refine t_get (ci := 7) (v := .ref v_2) hB hT (ro_ci r_h rfl) rfl 14 (by decide) k_759 e_v_2 dX7_reset_16 ?_
  refine lv_iconst (v := 0) hx hb dX7_reset_19 (by decide) ?_
  refine lv_iconst (v := 0) hx hb dX7_reset_20 (by decide) ?_
  have i_3 : vp_in (0 : Int32) 2 := (by unfold vp_in; decide)
  refine t_iast hB hT (ro_in r_v_2 (by decide)) n_v_2 i_3 dX7_reset_21 (fun H locs hT => ?_)
  have hI : Inv (sC (sF (sF g h 24 (.int 0)) h 22 (.int 0)) v_2 (0 : Int32).toNatClampNeg (0 : Int32)) := hI.sC (ck r_v_2 trivial)
  have hM : Sm md_m_reset g (sC (sF (sF g h 24 (.int 0)) h 22 (.int 0)) v_2 (0 : Int32).toNatClampNeg (0 : Int32)) := hM.tr hE (Sm_sC (by rw [r_v_2]; rfl))
  have hE : Ex g (sC (sF (sF g h 24 (.int 0)) h 22 (.int 0)) v_2 (0 : Int32).toNatClampNeg (0 : Int32)) := hE
  refine lv_iconst (v := 0) hx hb dX7_reset_22 (by decide) ?_
  refine lv_istore_n (lv' := [(2, .int 0), (1, .int v_1), (0, .ref h)]) hx hb dX7_reset_23 rfl hl (by decide) rfl (fun ls hl => ?_)
  exact lt_m_reset_a l D cI cZ cS cR N0 g h r_h hB hr   6 (sC (sF (sF g h 24 (.int 0)) h 22 (.int 0)) v_2 (0 : Int32).toNatClampNeg (0 : Int32)) (0 : Int32) v_1 H locs ls hT hI hE hM (by decide) (by decide) sF_eq (by have e0_ : (0 : Int32).toInt = 0 := (by decide); omega) (lv_sub hl [0, 1, 2] rfl)
abbrev md_m_isReader : Nat → Nat → Bool := mdf []
set_option maxHeartbeats 4000000 in
set_option maxRecDepth 100000 in
theorem lt_m_isReader_b (l : Launch) (D : va_G) (cI cZ cS cR : ClassId) (N0 : NT) (g : GS) (h : Nat) (n : Int32) (r_h : g.1 h = 8) (l_n : 0 ≤ n.toInt) (u_n : n.toInt ≤ 5) {p : Program} {e : Env} {s : State} {m : MethodId} {args : Array Value} {below : List Frame} {meth : Method} {c : Code} (hB : Tz p s m meth c args cX7_isReader 7 RX7 D cI cZ cS cR N0) (hr : meth.sig.returnType = (some .boolean)) (sv : Int32) (rs : Int32) (l_sv : 0 ≤ sv.toInt) (u_sv : sv.toInt ≤ 5)  (K : ∀ (is1 : Int32)  (H : Heap) (locs : List Loc) (ls : Array Slot), Tv D cI cZ cS cR N0 s.heap H locs g → Inv g → Ex g g → Sm md_m_isReader g g → 0 ≤ is1.toInt → is1.toInt ≤ 1 → lv_has ls 7 [(4, .int is1), (3, .int sv), (2, .int rs), (0, .ref h), (1, .int n)] → W p l e (rmx 3 0 0) s m args below meth c H locs 0 0 (MQ below (tQ D cI cZ cS cR N0 (fun v g' => ∃ (r : Int32), v = some (.int r) ∧ g' = g ∧ (r = 1 ∨ r = 0))) args s 0 0 (fun q => N0.1 ≤ q)) (F0 m 128 ls [])) : ∀ (kf : Nat) (k : Int32) (is1 : Int32)  (H : Heap) (locs : List Loc) (ls : Array Slot), Tv D cI cZ cS cR N0 s.heap H locs g → Inv g → Ex g g → Sm md_m_isReader g g → 0 ≤ k.toInt → k.toInt ≤ 48 → 0 ≤ is1.toInt → is1.toInt ≤ 1 → (48 ≤ k.toInt + kf) → lv_has ls 7 [(5, .int k), (4, .int is1), (3, .int sv), (2, .int rs), (0, .ref h), (1, .int n)] → W p l e (rmx 3 0 0) s m args below meth c H locs 0 0 (MQ below (tQ D cI cZ cS cR N0 (fun v g' => ∃ (r : Int32), v = some (.int r) ∧ g' = g ∧ (r = 1 ∨ r = 0))) args s 0 0 (fun q => N0.1 ≤ q)) (F0 m 23 ls []) := by
  have hx := hB.1
  have hb := hB.2.1
  intro kf
  induction kf using Nat.strongRecOn with
  | ind kf ih =>
    intro k is1 H locs ls hT hI hE hM l_k u_k l_is1 u_is1 hk hl
    have r_1 : g.1 h = 8 := Ex.r hE r_h (by decide)
    refine lv_iload hx hb dX7_isReader_23 (lv_at hl 0 rfl) ?_
    refine lv_bipush (v := 8) hx hb dX7_isReader_25 (by decide) ?_
    refine lv_iload_n hx hb dX7_isReader_27 rfl (lv_at hl 2 rfl) ?_
    refine lv_imul hx hb dX7_isReader_28 ?_
    refine lv_topi (fun z_2 ez_2 => ?_)
    have e_z_2 : z_2.toInt = 8 * sv.toInt := i_mul ez_2 (by decide) rfl (by omega) (by omega)
    refine lv_aload_n hx hb dX7_isReader_29 rfl (lv_at hl 4 rfl) ?_
    obtain ⟨v_3, e_v_3, r_v_3, n_v_3⟩ := f_8_1 hI r_1
    refine t_get (ci := 7) (v := .ref v_3) hB hT (ro_ci r_1 rfl) rfl 1 (by decide) k_746 e_v_3 dX7_isReader_30 ?_
    refine lv_iload_n hx hb dX7_isReader_33 rfl (lv_at hl 2 rfl) ?_
    have i_u_4 : vp_in sv 6 := (i_in (n := 6) rfl (by omega) (by omega))
    refine t_iald hB hT (ro_in r_v_3 (by decide)) n_v_3 i_u_4 rfl dX7_isReader_34 ?_
    have c_u_4 := hI.c r_v_3 n_v_3 (i_cl i_u_4)
    refine lv_topi (fun u_4 e_u_4 => ?_)
    obtain ⟨l_u_4, u_u_4⟩ := c_u_4
    rw [← e_u_4] at l_u_4 u_u_4
    refine lv_iadd hx hb dX7_isReader_35 ?_
    refine lv_topi (fun z_5 ez_5 => ?_)
    have e_z_5 : z_5.toInt = z_2.toInt + u_4.toInt := i_add ez_5 rfl rfl (by omega) (by omega)
    refine lv_icmp_ge (tgt := 128) hx hb dX7_isReader_36 (by decide) (fun c_6 => ?_) (fun c_6 => ?_)
    · have c_6' : z_5.toInt ≤ k.toInt := i_le c_6 rfl rfl
      exact K is1 H locs ls hT hI hE hM (by omega) (by omega) (lv_sub hl [1, 2, 3, 4, 5] rfl)
    · have c_6' : k.toInt < z_5.toInt := i_nle c_6 rfl rfl
      refine lv_aload_n hx hb dX7_isReader_39 rfl (lv_at hl 4 rfl) ?_
      obtain ⟨v_7, e_v_7, r_v_7, n_v_7⟩ := f_8_2 hI r_1
      refine t_get (ci := 7) (v := .ref v_7) hB hT (ro_ci r_1 rfl) rfl 2 (by decide) k_747 e_v_7 dX7_isReader_40 ?_
      refine lv_iload hx hb dX7_isReader_43 (lv_at hl 0 rfl) ?_
      have i_u_8 : vp_in k 48 := (i_in (n := 48) rfl (by omega) (by omega))
      refine t_iald hB hT (ro_in r_v_7 (by decide)) n_v_7 i_u_8 rfl dX7_isReader_45 ?_
      refine lv_topi (fun u_8 e_u_8 => ?_)
      refine lv_iconst (v := 4) hx hb dX7_isReader_46 (by decide) ?_
      refine lv_icmp_eq (tgt := 73) hx hb dX7_isReader_47 (by decide) (fun c_9 => ?_) (fun c_9 => ?_)
      · have c_9' : u_8.toInt = 4 := i_eq c_9 rfl (by decide)
        refine lv_iconst (v := 1) hx hb dX7_isReader_73 (by decide) ?_
        refine lv_goto (tgt := 78) hx hb dX7_isReader_74 (by decide) ?_
        refine lv_istore (lv' := [(6, .int 1), (5, .int k), (4, .int is1), (3, .int sv), (2, .int rs), (0, .ref h), (1, .int n)]) hx hb dX7_isReader_78 hl (by decide) rfl (fun ls hl => ?_)
        refine lv_iload hx hb dX7_isReader_80 (lv_at hl 2 rfl) ?_
        refine lv_if_eq (tgt := 119) hx hb dX7_isReader_82 (by decide) (fun c_10 => ?_) (fun c_10 => ?_)
        · have c_10' : is1.toInt = 0 := i_eq c_10 rfl (by decide)
          refine lv_iconst (v := 0) hx hb dX7_isReader_119 (by decide) ?_
          refine lv_istore (lv' := [(4, .int 0), (6, .int 1), (5, .int k), (3, .int sv), (2, .int rs), (0, .ref h), (1, .int n)]) hx hb dX7_isReader_120 hl (by decide) rfl (fun ls hl => ?_)
          obtain ⟨z_11, ez_11⟩ : ∃ z : Int32, z = k + 1 := ⟨_, rfl⟩
          have e_z_11 : z_11.toInt = k.toInt + 1 := i_add ez_11 rfl (by decide) (by omega) (by omega)
          refine lv_iinc (v := z_11) (lv' := [(5, .int z_11), (4, .int 0), (6, .int 1), (3, .int sv), (2, .int rs), (0, .ref h), (1, .int n)]) hx hb dX7_isReader_122 hl (k := 2) rfl (by rw [ez_11]; rfl) (by decide) rfl (fun ls hl => ?_)
          refine lv_goto (tgt := 23) hx hb dX7_isReader_125 (by decide) ?_
          exact ih (kf - 1) (by omega) z_11 (0 : Int32) H locs ls hT hI hE hM (by omega) (by omega) (by decide) (by decide) (by have e0_ : (0 : Int32).toInt = 0 := (by decide); omega) (lv_sub hl [0, 1, 3, 4, 5, 6] rfl)
        · have c_10' : is1.toInt ≠ 0 := i_ne c_10 rfl (by decide)
          refine lv_iload hx hb dX7_isReader_85 (lv_at hl 0 rfl) ?_
          refine lv_if_eq (tgt := 119) hx hb dX7_isReader_87 (by decide) (fun c_ => absurd c_ (by decide)) (fun c_ => ?_)
          refine lv_aload_n hx hb dX7_isReader_90 rfl (lv_at hl 5 rfl) ?_
          refine lv_iload_n hx hb dX7_isReader_91 rfl (lv_at hl 3 rfl) ?_
          refine lv_iload hx hb dX7_isReader_92 (lv_at hl 1 rfl) ?_
          obtain ⟨v_12, e_v_12, r_v_12, n_v_12⟩ := f_8_3 hI r_1
          refine t_callV (n := 2) (As := [.int sv, .int k]) (rest := []) (ci := 7) hB hT hl.1 (m_canAsk l D cI cZ cS cR N0 g hI h sv k v_12 (g.2.2.2.1 v_12 (k : Int32).toNatClampNeg) r_1 r_v_12 n_v_12 e_v_12 (by omega) (by omega) rfl) (ro_ci r_1 rfl) rfl k_1023 k_65 k_1020 k_1022 k_31 (by decide +kernel) ⟨(Nat.le_of_ble_eq_true rfl), (Nat.le_of_ble_eq_true rfl)⟩ rfl (Nat.le_of_ble_eq_true rfl) ⟨(Nat.le_of_ble_eq_true rfl), (Nat.le_of_ble_eq_true rfl)⟩ dX7_isReader_94 (fun v g_13 H locs hp hT => ?_)
          obtain ⟨r_14, rfl, eg, f_15⟩ := hp
          rw [eg] at hT
          clear eg
          refine W.eq (g2 := F0 m 97 ls [.int r_14]) rfl ?_
          rcases f_15 with ⟨rfl, hw_18⟩ | rfl
          · refine W.eq (g2 := F0 m 97 ls [.int 1]) rfl ?_
            refine lv_if_eq (tgt := 115) hx hb dX7_isReader_97 (by decide) (fun c_ => absurd c_ (by decide)) (fun c_ => ?_)
            refine lv_iload_n hx hb dX7_isReader_100 rfl (lv_at hl 4 rfl) ?_
            refine lv_aload_n hx hb dX7_isReader_101 rfl (lv_at hl 5 rfl) ?_
            refine t_get (ci := 7) (v := .ref v_12) hB hT (ro_ci r_1 rfl) rfl 3 (by decide) k_748 e_v_12 dX7_isReader_102 ?_
            refine lv_iload hx hb dX7_isReader_105 (lv_at hl 1 rfl) ?_
            have i_u_19 : vp_in k 48 := (i_in (n := 48) rfl (by omega) (by omega))
            refine t_iald hB hT (ro_in r_v_12 (by decide)) n_v_12 i_u_19 rfl dX7_isReader_107 ?_
            have c_u_19 := hI.c r_v_12 n_v_12 (i_cl i_u_19)
            refine lv_topi (fun u_19 e_u_19 => ?_)
            obtain ⟨l_u_19, u_u_19⟩ := c_u_19
            rw [← e_u_19] at l_u_19 u_u_19
            refine lv_ishr hx hb dX7_isReader_108 ?_
            refine lv_topi (fun z_20 ez_20 => ?_)
            refine lv_iconst (v := 1) hx hb dX7_isReader_109 (by decide) ?_
            refine lv_iand hx hb dX7_isReader_110 ?_
            refine lv_topi (fun z_21 ez_21 => ?_)
            have e_z_21 := i_and 1 (b := 1) ez_21 (by decide) (by decide) (by decide)
            refine lv_iconst (v := 1) hx hb dX7_isReader_111 (by decide) ?_
            refine lv_icmp_ne (tgt := 119) hx hb dX7_isReader_112 (by decide) (fun c_22 => ?_) (fun c_22 => ?_)
            · have c_22' : z_21.toInt ≠ 1 := i_ne c_22 rfl (by decide)
              refine lv_iconst (v := 0) hx hb dX7_isReader_119 (by decide) ?_
              refine lv_istore (lv' := [(4, .int 0), (6, .int 1), (5, .int k), (3, .int sv), (2, .int rs), (0, .ref h), (1, .int n)]) hx hb dX7_isReader_120 hl (by decide) rfl (fun ls hl => ?_)
              obtain ⟨z_23, ez_23⟩ : ∃ z : Int32, z = k + 1 := ⟨_, rfl⟩
              have e_z_23 : z_23.toInt = k.toInt + 1 := i_add ez_23 rfl (by decide) (by omega) (by omega)
              refine lv_iinc (v := z_23) (lv' := [(5, .int z_23), (4, .int 0), (6, .int 1), (3, .int sv), (2, .int rs), (0, .ref h), (1, .int n)]) hx hb dX7_isReader_122 hl (k := 2) rfl (by rw [ez_23]; rfl) (by decide) rfl (fun ls hl => ?_)
              refine lv_goto (tgt := 23) hx hb dX7_isReader_125 (by decide) ?_
              exact ih (kf - 1) (by omega) z_23 (0 : Int32) H locs ls hT hI hE hM (by omega) (by omega) (by decide) (by decide) (by have e0_ : (0 : Int32).toInt = 0 := (by decide); omega) (lv_sub hl [0, 1, 3, 4, 5, 6] rfl)
            · have c_22' : z_21.toInt = 1 := i_eq c_22 rfl (by decide)
              refine lv_iconst (v := 1) hx hb dX7_isReader_115 (by decide) ?_
              refine lv_goto (tgt := 120) hx hb dX7_isReader_116 (by decide) ?_
              refine lv_istore (lv' := [(4, .int 1), (6, .int 1), (5, .int k), (3, .int sv), (2, .int rs), (0, .ref h), (1, .int n)]) hx hb dX7_isReader_120 hl (by decide) rfl (fun ls hl => ?_)
              obtain ⟨z_24, ez_24⟩ : ∃ z : Int32, z = k + 1 := ⟨_, rfl⟩
              have e_z_24 : z_24.toInt = k.toInt + 1 := i_add ez_24 rfl (by decide) (by omega) (by omega)
              refine lv_iinc (v := z_24) (lv' := [(5, .int z_24), (4, .int 1), (6, .int 1), (3, .int sv), (2, .int rs), (0, .ref h), (1, .int n)]) hx hb dX7_isReader_122 hl (k := 2) rfl (by rw [ez_24]; rfl) (by decide) rfl (fun ls hl => ?_)
              refine lv_goto (tgt := 23) hx hb dX7_isReader_125 (by decide) ?_
              exact ih (kf - 1) (by omega) z_24 (1 : Int32) H locs ls hT hI hE hM (by omega) (by omega) (by decide) (by decide) (by have e0_ : (0 : Int32).toInt = 0 := (by decide); have e1_ : (1 : Int32).toInt = 1 := (by decide); omega) (lv_sub hl [0, 1, 3, 4, 5, 6] rfl)
          · refine W.eq (g2 := F0 m 97 ls [.int 0]) rfl ?_
            refine lv_if_eq (tgt := 115) hx hb dX7_isReader_97 (by decide) (fun c_ => ?_) (fun c_ => absurd (by decide) c_)
            refine lv_iconst (v := 1) hx hb dX7_isReader_115 (by decide) ?_
            refine lv_goto (tgt := 120) hx hb dX7_isReader_116 (by decide) ?_
            refine lv_istore (lv' := [(4, .int 1), (6, .int 1), (5, .int k), (3, .int sv), (2, .int rs), (0, .ref h), (1, .int n)]) hx hb dX7_isReader_120 hl (by decide) rfl (fun ls hl => ?_)
            obtain ⟨z_25, ez_25⟩ : ∃ z : Int32, z = k + 1 := ⟨_, rfl⟩
            have e_z_25 : z_25.toInt = k.toInt + 1 := i_add ez_25 rfl (by decide) (by omega) (by omega)
            refine lv_iinc (v := z_25) (lv' := [(5, .int z_25), (4, .int 1), (6, .int 1), (3, .int sv), (2, .int rs), (0, .ref h), (1, .int n)]) hx hb dX7_isReader_122 hl (k := 2) rfl (by rw [ez_25]; rfl) (by decide) rfl (fun ls hl => ?_)
            refine lv_goto (tgt := 23) hx hb dX7_isReader_125 (by decide) ?_
            exact ih (kf - 1) (by omega) z_25 (1 : Int32) H locs ls hT hI hE hM (by omega) (by omega) (by decide) (by decide) (by have e0_ : (0 : Int32).toInt = 0 := (by decide); have e1_ : (1 : Int32).toInt = 1 := (by decide); omega) (lv_sub hl [0, 1, 3, 4, 5, 6] rfl)
      · have c_9' : u_8.toInt ≠ 4 := i_ne c_9 rfl (by decide)
        refine lv_aload_n hx hb dX7_isReader_50 rfl (lv_at hl 4 rfl) ?_
        refine t_get (ci := 7) (v := .ref v_7) hB hT (ro_ci r_1 rfl) rfl 2 (by decide) k_747 e_v_7 dX7_isReader_51 ?_
        refine lv_iload hx hb dX7_isReader_54 (lv_at hl 0 rfl) ?_
        have i_u_26 : vp_in k 48 := (i_in (n := 48) rfl (by omega) (by omega))
        refine t_iald (v := u_8) hB hT (ro_in r_v_7 (by decide)) n_v_7 i_u_26 e_u_8.symm dX7_isReader_56 ?_
        refine lv_iconst (v := 5) hx hb dX7_isReader_57 (by decide) ?_
        refine lv_icmp_eq (tgt := 73) hx hb dX7_isReader_58 (by decide) (fun c_27 => ?_) (fun c_27 => ?_)
        · have c_27' : u_8.toInt = 5 := i_eq c_27 rfl (by decide)
          refine lv_iconst (v := 1) hx hb dX7_isReader_73 (by decide) ?_
          refine lv_goto (tgt := 78) hx hb dX7_isReader_74 (by decide) ?_
          refine lv_istore (lv' := [(6, .int 1), (5, .int k), (4, .int is1), (3, .int sv), (2, .int rs), (0, .ref h), (1, .int n)]) hx hb dX7_isReader_78 hl (by decide) rfl (fun ls hl => ?_)
          refine lv_iload hx hb dX7_isReader_80 (lv_at hl 2 rfl) ?_
          refine lv_if_eq (tgt := 119) hx hb dX7_isReader_82 (by decide) (fun c_28 => ?_) (fun c_28 => ?_)
          · have c_28' : is1.toInt = 0 := i_eq c_28 rfl (by decide)
            refine lv_iconst (v := 0) hx hb dX7_isReader_119 (by decide) ?_
            refine lv_istore (lv' := [(4, .int 0), (6, .int 1), (5, .int k), (3, .int sv), (2, .int rs), (0, .ref h), (1, .int n)]) hx hb dX7_isReader_120 hl (by decide) rfl (fun ls hl => ?_)
            obtain ⟨z_29, ez_29⟩ : ∃ z : Int32, z = k + 1 := ⟨_, rfl⟩
            have e_z_29 : z_29.toInt = k.toInt + 1 := i_add ez_29 rfl (by decide) (by omega) (by omega)
            refine lv_iinc (v := z_29) (lv' := [(5, .int z_29), (4, .int 0), (6, .int 1), (3, .int sv), (2, .int rs), (0, .ref h), (1, .int n)]) hx hb dX7_isReader_122 hl (k := 2) rfl (by rw [ez_29]; rfl) (by decide) rfl (fun ls hl => ?_)
            refine lv_goto (tgt := 23) hx hb dX7_isReader_125 (by decide) ?_
            exact ih (kf - 1) (by omega) z_29 (0 : Int32) H locs ls hT hI hE hM (by omega) (by omega) (by decide) (by decide) (by have e0_ : (0 : Int32).toInt = 0 := (by decide); omega) (lv_sub hl [0, 1, 3, 4, 5, 6] rfl)
          · have c_28' : is1.toInt ≠ 0 := i_ne c_28 rfl (by decide)
            refine lv_iload hx hb dX7_isReader_85 (lv_at hl 0 rfl) ?_
            refine lv_if_eq (tgt := 119) hx hb dX7_isReader_87 (by decide) (fun c_ => absurd c_ (by decide)) (fun c_ => ?_)
            refine lv_aload_n hx hb dX7_isReader_90 rfl (lv_at hl 5 rfl) ?_
            refine lv_iload_n hx hb dX7_isReader_91 rfl (lv_at hl 3 rfl) ?_
            refine lv_iload hx hb dX7_isReader_92 (lv_at hl 1 rfl) ?_
            obtain ⟨v_30, e_v_30, r_v_30, n_v_30⟩ := f_8_3 hI r_1
            refine t_callV (n := 2) (As := [.int sv, .int k]) (rest := []) (ci := 7) hB hT hl.1 (m_canAsk l D cI cZ cS cR N0 g hI h sv k v_30 (g.2.2.2.1 v_30 (k : Int32).toNatClampNeg) r_1 r_v_30 n_v_30 e_v_30 (by omega) (by omega) rfl) (ro_ci r_1 rfl) rfl k_1023 k_65 k_1020 k_1022 k_31 (by decide +kernel) ⟨(Nat.le_of_ble_eq_true rfl), (Nat.le_of_ble_eq_true rfl)⟩ rfl (Nat.le_of_ble_eq_true rfl) ⟨(Nat.le_of_ble_eq_true rfl), (Nat.le_of_ble_eq_true rfl)⟩ dX7_isReader_94 (fun v g_31 H locs hp hT => ?_)
            obtain ⟨r_32, rfl, eg, f_33⟩ := hp
            rw [eg] at hT
            clear eg
            refine W.eq (g2 := F0 m 97 ls [.int r_32]) rfl ?_
            rcases f_33 with ⟨rfl, hw_36⟩ | rfl
            · refine W.eq (g2 := F0 m 97 ls [.int 1]) rfl ?_
              refine lv_if_eq (tgt := 115) hx hb dX7_isReader_97 (by decide) (fun c_ => absurd c_ (by decide)) (fun c_ => ?_)
              refine lv_iload_n hx hb dX7_isReader_100 rfl (lv_at hl 4 rfl) ?_
              refine lv_aload_n hx hb dX7_isReader_101 rfl (lv_at hl 5 rfl) ?_
              refine t_get (ci := 7) (v := .ref v_30) hB hT (ro_ci r_1 rfl) rfl 3 (by decide) k_748 e_v_30 dX7_isReader_102 ?_
              refine lv_iload hx hb dX7_isReader_105 (lv_at hl 1 rfl) ?_
              have i_u_37 : vp_in k 48 := (i_in (n := 48) rfl (by omega) (by omega))
              refine t_iald hB hT (ro_in r_v_30 (by decide)) n_v_30 i_u_37 rfl dX7_isReader_107 ?_
              have c_u_37 := hI.c r_v_30 n_v_30 (i_cl i_u_37)
              refine lv_topi (fun u_37 e_u_37 => ?_)
              obtain ⟨l_u_37, u_u_37⟩ := c_u_37
              rw [← e_u_37] at l_u_37 u_u_37
              refine lv_ishr hx hb dX7_isReader_108 ?_
              refine lv_topi (fun z_38 ez_38 => ?_)
              refine lv_iconst (v := 1) hx hb dX7_isReader_109 (by decide) ?_
              refine lv_iand hx hb dX7_isReader_110 ?_
              refine lv_topi (fun z_39 ez_39 => ?_)
              have e_z_39 := i_and 1 (b := 1) ez_39 (by decide) (by decide) (by decide)
              refine lv_iconst (v := 1) hx hb dX7_isReader_111 (by decide) ?_
              refine lv_icmp_ne (tgt := 119) hx hb dX7_isReader_112 (by decide) (fun c_40 => ?_) (fun c_40 => ?_)
              · have c_40' : z_39.toInt ≠ 1 := i_ne c_40 rfl (by decide)
                refine lv_iconst (v := 0) hx hb dX7_isReader_119 (by decide) ?_
                refine lv_istore (lv' := [(4, .int 0), (6, .int 1), (5, .int k), (3, .int sv), (2, .int rs), (0, .ref h), (1, .int n)]) hx hb dX7_isReader_120 hl (by decide) rfl (fun ls hl => ?_)
                obtain ⟨z_41, ez_41⟩ : ∃ z : Int32, z = k + 1 := ⟨_, rfl⟩
                have e_z_41 : z_41.toInt = k.toInt + 1 := i_add ez_41 rfl (by decide) (by omega) (by omega)
                refine lv_iinc (v := z_41) (lv' := [(5, .int z_41), (4, .int 0), (6, .int 1), (3, .int sv), (2, .int rs), (0, .ref h), (1, .int n)]) hx hb dX7_isReader_122 hl (k := 2) rfl (by rw [ez_41]; rfl) (by decide) rfl (fun ls hl => ?_)
                refine lv_goto (tgt := 23) hx hb dX7_isReader_125 (by decide) ?_
                exact ih (kf - 1) (by omega) z_41 (0 : Int32) H locs ls hT hI hE hM (by omega) (by omega) (by decide) (by decide) (by have e0_ : (0 : Int32).toInt = 0 := (by decide); omega) (lv_sub hl [0, 1, 3, 4, 5, 6] rfl)
              · have c_40' : z_39.toInt = 1 := i_eq c_40 rfl (by decide)
                refine lv_iconst (v := 1) hx hb dX7_isReader_115 (by decide) ?_
                refine lv_goto (tgt := 120) hx hb dX7_isReader_116 (by decide) ?_
                refine lv_istore (lv' := [(4, .int 1), (6, .int 1), (5, .int k), (3, .int sv), (2, .int rs), (0, .ref h), (1, .int n)]) hx hb dX7_isReader_120 hl (by decide) rfl (fun ls hl => ?_)
                obtain ⟨z_42, ez_42⟩ : ∃ z : Int32, z = k + 1 := ⟨_, rfl⟩
                have e_z_42 : z_42.toInt = k.toInt + 1 := i_add ez_42 rfl (by decide) (by omega) (by omega)
                refine lv_iinc (v := z_42) (lv' := [(5, .int z_42), (4, .int 1), (6, .int 1), (3, .int sv), (2, .int rs), (0, .ref h), (1, .int n)]) hx hb dX7_isReader_122 hl (k := 2) rfl (by rw [ez_42]; rfl) (by decide) rfl (fun ls hl => ?_)
                refine lv_goto (tgt := 23) hx hb dX7_isReader_125 (by decide) ?_
                exact ih (kf - 1) (by omega) z_42 (1 : Int32) H locs ls hT hI hE hM (by omega) (by omega) (by decide) (by decide) (by have e0_ : (0 : Int32).toInt = 0 := (by decide); have e1_ : (1 : Int32).toInt = 1 := (by decide); omega) (lv_sub hl [0, 1, 3, 4, 5, 6] rfl)
            · refine W.eq (g2 := F0 m 97 ls [.int 0]) rfl ?_
              refine lv_if_eq (tgt := 115) hx hb dX7_isReader_97 (by decide) (fun c_ => ?_) (fun c_ => absurd (by decide) c_)
              refine lv_iconst (v := 1) hx hb dX7_isReader_115 (by decide) ?_
              refine lv_goto (tgt := 120) hx hb dX7_isReader_116 (by decide) ?_
              refine lv_istore (lv' := [(4, .int 1), (6, .int 1), (5, .int k), (3, .int sv), (2, .int rs), (0, .ref h), (1, .int n)]) hx hb dX7_isReader_120 hl (by decide) rfl (fun ls hl => ?_)
              obtain ⟨z_43, ez_43⟩ : ∃ z : Int32, z = k + 1 := ⟨_, rfl⟩
              have e_z_43 : z_43.toInt = k.toInt + 1 := i_add ez_43 rfl (by decide) (by omega) (by omega)
              refine lv_iinc (v := z_43) (lv' := [(5, .int z_43), (4, .int 1), (6, .int 1), (3, .int sv), (2, .int rs), (0, .ref h), (1, .int n)]) hx hb dX7_isReader_122 hl (k := 2) rfl (by rw [ez_43]; rfl) (by decide) rfl (fun ls hl => ?_)
              refine lv_goto (tgt := 23) hx hb dX7_isReader_125 (by decide) ?_
              exact ih (kf - 1) (by omega) z_43 (1 : Int32) H locs ls hT hI hE hM (by omega) (by omega) (by decide) (by decide) (by have e0_ : (0 : Int32).toInt = 0 := (by decide); have e1_ : (1 : Int32).toInt = 1 := (by decide); omega) (lv_sub hl [0, 1, 3, 4, 5, 6] rfl)
        · have c_27' : u_8.toInt ≠ 5 := i_ne c_27 rfl (by decide)
          refine lv_aload_n hx hb dX7_isReader_61 rfl (lv_at hl 4 rfl) ?_
          refine t_get (ci := 7) (v := .ref v_7) hB hT (ro_ci r_1 rfl) rfl 2 (by decide) k_747 e_v_7 dX7_isReader_62 ?_
          refine lv_iload hx hb dX7_isReader_65 (lv_at hl 0 rfl) ?_
          have i_u_44 : vp_in k 48 := (i_in (n := 48) rfl (by omega) (by omega))
          refine t_iald (v := u_8) hB hT (ro_in r_v_7 (by decide)) n_v_7 i_u_44 e_u_8.symm dX7_isReader_67 ?_
          refine lv_bipush (v := 7) hx hb dX7_isReader_68 (by decide) ?_
          refine lv_icmp_ne (tgt := 77) hx hb dX7_isReader_70 (by decide) (fun c_45 => ?_) (fun c_45 => ?_)
          · have c_45' : u_8.toInt ≠ 7 := i_ne c_45 rfl (by decide)
            refine lv_iconst (v := 0) hx hb dX7_isReader_77 (by decide) ?_
            refine lv_istore (lv' := [(6, .int 0), (5, .int k), (4, .int is1), (3, .int sv), (2, .int rs), (0, .ref h), (1, .int n)]) hx hb dX7_isReader_78 hl (by decide) rfl (fun ls hl => ?_)
            refine lv_iload hx hb dX7_isReader_80 (lv_at hl 2 rfl) ?_
            refine lv_if_eq (tgt := 119) hx hb dX7_isReader_82 (by decide) (fun c_46 => ?_) (fun c_46 => ?_)
            · have c_46' : is1.toInt = 0 := i_eq c_46 rfl (by decide)
              refine lv_iconst (v := 0) hx hb dX7_isReader_119 (by decide) ?_
              refine lv_istore (lv' := [(4, .int 0), (6, .int 0), (5, .int k), (3, .int sv), (2, .int rs), (0, .ref h), (1, .int n)]) hx hb dX7_isReader_120 hl (by decide) rfl (fun ls hl => ?_)
              obtain ⟨z_47, ez_47⟩ : ∃ z : Int32, z = k + 1 := ⟨_, rfl⟩
              have e_z_47 : z_47.toInt = k.toInt + 1 := i_add ez_47 rfl (by decide) (by omega) (by omega)
              refine lv_iinc (v := z_47) (lv' := [(5, .int z_47), (4, .int 0), (6, .int 0), (3, .int sv), (2, .int rs), (0, .ref h), (1, .int n)]) hx hb dX7_isReader_122 hl (k := 2) rfl (by rw [ez_47]; rfl) (by decide) rfl (fun ls hl => ?_)
              refine lv_goto (tgt := 23) hx hb dX7_isReader_125 (by decide) ?_
              exact ih (kf - 1) (by omega) z_47 (0 : Int32) H locs ls hT hI hE hM (by omega) (by omega) (by decide) (by decide) (by have e0_ : (0 : Int32).toInt = 0 := (by decide); omega) (lv_sub hl [0, 1, 3, 4, 5, 6] rfl)
            · have c_46' : is1.toInt ≠ 0 := i_ne c_46 rfl (by decide)
              refine lv_iload hx hb dX7_isReader_85 (lv_at hl 0 rfl) ?_
              refine lv_if_eq (tgt := 119) hx hb dX7_isReader_87 (by decide) (fun c_ => ?_) (fun c_ => absurd (by decide) c_)
              refine lv_iconst (v := 0) hx hb dX7_isReader_119 (by decide) ?_
              refine lv_istore (lv' := [(4, .int 0), (6, .int 0), (5, .int k), (3, .int sv), (2, .int rs), (0, .ref h), (1, .int n)]) hx hb dX7_isReader_120 hl (by decide) rfl (fun ls hl => ?_)
              obtain ⟨z_48, ez_48⟩ : ∃ z : Int32, z = k + 1 := ⟨_, rfl⟩
              have e_z_48 : z_48.toInt = k.toInt + 1 := i_add ez_48 rfl (by decide) (by omega) (by omega)
              refine lv_iinc (v := z_48) (lv' := [(5, .int z_48), (4, .int 0), (6, .int 0), (3, .int sv), (2, .int rs), (0, .ref h), (1, .int n)]) hx hb dX7_isReader_122 hl (k := 2) rfl (by rw [ez_48]; rfl) (by decide) rfl (fun ls hl => ?_)
              refine lv_goto (tgt := 23) hx hb dX7_isReader_125 (by decide) ?_
              exact ih (kf - 1) (by omega) z_48 (0 : Int32) H locs ls hT hI hE hM (by omega) (by omega) (by decide) (by decide) (by have e0_ : (0 : Int32).toInt = 0 := (by decide); omega) (lv_sub hl [0, 1, 3, 4, 5, 6] rfl)
          · have c_45' : u_8.toInt = 7 := i_eq c_45 rfl (by decide)
            refine lv_iconst (v := 1) hx hb dX7_isReader_73 (by decide) ?_
            refine lv_goto (tgt := 78) hx hb dX7_isReader_74 (by decide) ?_
            refine lv_istore (lv' := [(6, .int 1), (5, .int k), (4, .int is1), (3, .int sv), (2, .int rs), (0, .ref h), (1, .int n)]) hx hb dX7_isReader_78 hl (by decide) rfl (fun ls hl => ?_)
            refine lv_iload hx hb dX7_isReader_80 (lv_at hl 2 rfl) ?_
            refine lv_if_eq (tgt := 119) hx hb dX7_isReader_82 (by decide) (fun c_49 => ?_) (fun c_49 => ?_)
            · have c_49' : is1.toInt = 0 := i_eq c_49 rfl (by decide)
              refine lv_iconst (v := 0) hx hb dX7_isReader_119 (by decide) ?_
              refine lv_istore (lv' := [(4, .int 0), (6, .int 1), (5, .int k), (3, .int sv), (2, .int rs), (0, .ref h), (1, .int n)]) hx hb dX7_isReader_120 hl (by decide) rfl (fun ls hl => ?_)
              obtain ⟨z_50, ez_50⟩ : ∃ z : Int32, z = k + 1 := ⟨_, rfl⟩
              have e_z_50 : z_50.toInt = k.toInt + 1 := i_add ez_50 rfl (by decide) (by omega) (by omega)
              refine lv_iinc (v := z_50) (lv' := [(5, .int z_50), (4, .int 0), (6, .int 1), (3, .int sv), (2, .int rs), (0, .ref h), (1, .int n)]) hx hb dX7_isReader_122 hl (k := 2) rfl (by rw [ez_50]; rfl) (by decide) rfl (fun ls hl => ?_)
              refine lv_goto (tgt := 23) hx hb dX7_isReader_125 (by decide) ?_
              exact ih (kf - 1) (by omega) z_50 (0 : Int32) H locs ls hT hI hE hM (by omega) (by omega) (by decide) (by decide) (by have e0_ : (0 : Int32).toInt = 0 := (by decide); omega) (lv_sub hl [0, 1, 3, 4, 5, 6] rfl)
            · have c_49' : is1.toInt ≠ 0 := i_ne c_49 rfl (by decide)
              refine lv_iload hx hb dX7_isReader_85 (lv_at hl 0 rfl) ?_
              refine lv_if_eq (tgt := 119) hx hb dX7_isReader_87 (by decide) (fun c_ => absurd c_ (by decide)) (fun c_ => ?_)
              refine lv_aload_n hx hb dX7_isReader_90 rfl (lv_at hl 5 rfl) ?_
              refine lv_iload_n hx hb dX7_isReader_91 rfl (lv_at hl 3 rfl) ?_
              refine lv_iload hx hb dX7_isReader_92 (lv_at hl 1 rfl) ?_
              obtain ⟨v_51, e_v_51, r_v_51, n_v_51⟩ := f_8_3 hI r_1
              refine t_callV (n := 2) (As := [.int sv, .int k]) (rest := []) (ci := 7) hB hT hl.1 (m_canAsk l D cI cZ cS cR N0 g hI h sv k v_51 (g.2.2.2.1 v_51 (k : Int32).toNatClampNeg) r_1 r_v_51 n_v_51 e_v_51 (by omega) (by omega) rfl) (ro_ci r_1 rfl) rfl k_1023 k_65 k_1020 k_1022 k_31 (by decide +kernel) ⟨(Nat.le_of_ble_eq_true rfl), (Nat.le_of_ble_eq_true rfl)⟩ rfl (Nat.le_of_ble_eq_true rfl) ⟨(Nat.le_of_ble_eq_true rfl), (Nat.le_of_ble_eq_true rfl)⟩ dX7_isReader_94 (fun v g_52 H locs hp hT => ?_)
              obtain ⟨r_53, rfl, eg, f_54⟩ := hp
              rw [eg] at hT
              clear eg
              refine W.eq (g2 := F0 m 97 ls [.int r_53]) rfl ?_
              rcases f_54 with ⟨rfl, hw_57⟩ | rfl
              · refine W.eq (g2 := F0 m 97 ls [.int 1]) rfl ?_
                refine lv_if_eq (tgt := 115) hx hb dX7_isReader_97 (by decide) (fun c_ => absurd c_ (by decide)) (fun c_ => ?_)
                refine lv_iload_n hx hb dX7_isReader_100 rfl (lv_at hl 4 rfl) ?_
                refine lv_aload_n hx hb dX7_isReader_101 rfl (lv_at hl 5 rfl) ?_
                refine t_get (ci := 7) (v := .ref v_51) hB hT (ro_ci r_1 rfl) rfl 3 (by decide) k_748 e_v_51 dX7_isReader_102 ?_
                refine lv_iload hx hb dX7_isReader_105 (lv_at hl 1 rfl) ?_
                have i_u_58 : vp_in k 48 := (i_in (n := 48) rfl (by omega) (by omega))
                refine t_iald hB hT (ro_in r_v_51 (by decide)) n_v_51 i_u_58 rfl dX7_isReader_107 ?_
                have c_u_58 := hI.c r_v_51 n_v_51 (i_cl i_u_58)
                refine lv_topi (fun u_58 e_u_58 => ?_)
                obtain ⟨l_u_58, u_u_58⟩ := c_u_58
                rw [← e_u_58] at l_u_58 u_u_58
                refine lv_ishr hx hb dX7_isReader_108 ?_
                refine lv_topi (fun z_59 ez_59 => ?_)
                refine lv_iconst (v := 1) hx hb dX7_isReader_109 (by decide) ?_
                refine lv_iand hx hb dX7_isReader_110 ?_
                refine lv_topi (fun z_60 ez_60 => ?_)
                have e_z_60 := i_and 1 (b := 1) ez_60 (by decide) (by decide) (by decide)
                refine lv_iconst (v := 1) hx hb dX7_isReader_111 (by decide) ?_
                refine lv_icmp_ne (tgt := 119) hx hb dX7_isReader_112 (by decide) (fun c_61 => ?_) (fun c_61 => ?_)
                · have c_61' : z_60.toInt ≠ 1 := i_ne c_61 rfl (by decide)
                  refine lv_iconst (v := 0) hx hb dX7_isReader_119 (by decide) ?_
                  refine lv_istore (lv' := [(4, .int 0), (6, .int 1), (5, .int k), (3, .int sv), (2, .int rs), (0, .ref h), (1, .int n)]) hx hb dX7_isReader_120 hl (by decide) rfl (fun ls hl => ?_)
                  obtain ⟨z_62, ez_62⟩ : ∃ z : Int32, z = k + 1 := ⟨_, rfl⟩
                  have e_z_62 : z_62.toInt = k.toInt + 1 := i_add ez_62 rfl (by decide) (by omega) (by omega)
                  refine lv_iinc (v := z_62) (lv' := [(5, .int z_62), (4, .int 0), (6, .int 1), (3, .int sv), (2, .int rs), (0, .ref h), (1, .int n)]) hx hb dX7_isReader_122 hl (k := 2) rfl (by rw [ez_62]; rfl) (by decide) rfl (fun ls hl => ?_)
                  refine lv_goto (tgt := 23) hx hb dX7_isReader_125 (by decide) ?_
                  exact ih (kf - 1) (by omega) z_62 (0 : Int32) H locs ls hT hI hE hM (by omega) (by omega) (by decide) (by decide) (by have e0_ : (0 : Int32).toInt = 0 := (by decide); omega) (lv_sub hl [0, 1, 3, 4, 5, 6] rfl)
                · have c_61' : z_60.toInt = 1 := i_eq c_61 rfl (by decide)
                  refine lv_iconst (v := 1) hx hb dX7_isReader_115 (by decide) ?_
                  refine lv_goto (tgt := 120) hx hb dX7_isReader_116 (by decide) ?_
                  refine lv_istore (lv' := [(4, .int 1), (6, .int 1), (5, .int k), (3, .int sv), (2, .int rs), (0, .ref h), (1, .int n)]) hx hb dX7_isReader_120 hl (by decide) rfl (fun ls hl => ?_)
                  obtain ⟨z_63, ez_63⟩ : ∃ z : Int32, z = k + 1 := ⟨_, rfl⟩
                  have e_z_63 : z_63.toInt = k.toInt + 1 := i_add ez_63 rfl (by decide) (by omega) (by omega)
                  refine lv_iinc (v := z_63) (lv' := [(5, .int z_63), (4, .int 1), (6, .int 1), (3, .int sv), (2, .int rs), (0, .ref h), (1, .int n)]) hx hb dX7_isReader_122 hl (k := 2) rfl (by rw [ez_63]; rfl) (by decide) rfl (fun ls hl => ?_)
                  refine lv_goto (tgt := 23) hx hb dX7_isReader_125 (by decide) ?_
                  exact ih (kf - 1) (by omega) z_63 (1 : Int32) H locs ls hT hI hE hM (by omega) (by omega) (by decide) (by decide) (by have e0_ : (0 : Int32).toInt = 0 := (by decide); have e1_ : (1 : Int32).toInt = 1 := (by decide); omega) (lv_sub hl [0, 1, 3, 4, 5, 6] rfl)
              · refine W.eq (g2 := F0 m 97 ls [.int 0]) rfl ?_
                refine lv_if_eq (tgt := 115) hx hb dX7_isReader_97 (by decide) (fun c_ => ?_) (fun c_ => absurd (by decide) c_)
                refine lv_iconst (v := 1) hx hb dX7_isReader_115 (by decide) ?_
                refine lv_goto (tgt := 120) hx hb dX7_isReader_116 (by decide) ?_
                refine lv_istore (lv' := [(4, .int 1), (6, .int 1), (5, .int k), (3, .int sv), (2, .int rs), (0, .ref h), (1, .int n)]) hx hb dX7_isReader_120 hl (by decide) rfl (fun ls hl => ?_)
                obtain ⟨z_64, ez_64⟩ : ∃ z : Int32, z = k + 1 := ⟨_, rfl⟩
                have e_z_64 : z_64.toInt = k.toInt + 1 := i_add ez_64 rfl (by decide) (by omega) (by omega)
                refine lv_iinc (v := z_64) (lv' := [(5, .int z_64), (4, .int 1), (6, .int 1), (3, .int sv), (2, .int rs), (0, .ref h), (1, .int n)]) hx hb dX7_isReader_122 hl (k := 2) rfl (by rw [ez_64]; rfl) (by decide) rfl (fun ls hl => ?_)
                refine lv_goto (tgt := 23) hx hb dX7_isReader_125 (by decide) ?_
                exact ih (kf - 1) (by omega) z_64 (1 : Int32) H locs ls hT hI hE hM (by omega) (by omega) (by decide) (by decide) (by have e0_ : (0 : Int32).toInt = 0 := (by decide); have e1_ : (1 : Int32).toInt = 1 := (by decide); omega) (lv_sub hl [0, 1, 3, 4, 5, 6] rfl)
set_option maxHeartbeats 4000000 in
set_option maxRecDepth 100000 in
theorem lt_m_isReader_a (l : Launch) (D : va_G) (cI cZ cS cR : ClassId) (N0 : NT) (g : GS) (h : Nat) (n : Int32) (r_h : g.1 h = 8) (l_n : 0 ≤ n.toInt) (u_n : n.toInt ≤ 5) {p : Program} {e : Env} {s : State} {m : MethodId} {args : Array Value} {below : List Frame} {meth : Method} {c : Code} (hB : Tz p s m meth c args cX7_isReader 7 RX7 D cI cZ cS cR N0) (hr : meth.sig.returnType = (some .boolean))    : ∀ (kf : Nat) (sv : Int32) (rs : Int32)  (H : Heap) (locs : List Loc) (ls : Array Slot), Tv D cI cZ cS cR N0 s.heap H locs g → Inv g → Ex g g → Sm md_m_isReader g g → (-1) ≤ sv.toInt → sv.toInt ≤ 5 → (sv.toInt + 1 ≤ kf) → lv_has ls 7 [(3, .int sv), (2, .int rs), (0, .ref h), (1, .int n)] → W p l e (rmx 3 0 0) s m args below meth c H locs 0 0 (MQ below (tQ D cI cZ cS cR N0 (fun v g' => ∃ (r : Int32), v = some (.int r) ∧ g' = g ∧ (r = 1 ∨ r = 0))) args s 0 0 (fun q => N0.1 ≤ q)) (F0 m 9 ls []) := by
  have hx := hB.1
  have hb := hB.2.1
  intro kf
  induction kf using Nat.strongRecOn with
  | ind kf ih =>
    intro sv rs H locs ls hT hI hE hM l_sv u_sv hk hl
    have r_1 : g.1 h = 8 := Ex.r hE r_h (by decide)
    refine lv_iload_n hx hb dX7_isReader_9 rfl (lv_at hl 0 rfl) ?_
    refine lv_iload_n hx hb dX7_isReader_10 rfl (lv_at hl 3 rfl) ?_
    refine lv_icmp_lt (tgt := 149) hx hb dX7_isReader_11 (by decide) (fun c_2 => ?_) (fun c_2 => ?_)
    · have c_2' : sv.toInt < n.toInt := i_lt c_2 rfl rfl
      refine lv_iload_n hx hb dX7_isReader_149 rfl (lv_at hl 1 rfl) ?_
      refine lv_iload_n hx hb dX7_isReader_150 rfl (lv_at hl 3 rfl) ?_
      refine lv_ishr hx hb dX7_isReader_151 ?_
      refine lv_topi (fun z_3 ez_3 => ?_)
      refine lv_iconst (v := 1) hx hb dX7_isReader_152 (by decide) ?_
      refine lv_iand hx hb dX7_isReader_153 ?_
      refine lv_topi (fun z_4 ez_4 => ?_)
      have e_z_4 := i_and 1 (b := 1) ez_4 (by decide) (by decide) (by decide)
      refine lv_iconst (v := 1) hx hb dX7_isReader_154 (by decide) ?_
      refine lv_icmp_ne (tgt := 162) hx hb dX7_isReader_155 (by decide) (fun c_5 => ?_) (fun c_5 => ?_)
      · have c_5' : z_4.toInt ≠ 1 := i_ne c_5 rfl (by decide)
        refine lv_iconst (v := 0) hx hb dX7_isReader_162 (by decide) ?_
        exact t_zret hB hr rfl hT (Nat.le_of_ble_eq_true rfl) (Nat.le_of_ble_eq_true rfl) dX7_isReader_163 ⟨0, rfl, rfl, (Or.inr rfl)⟩
      · have c_5' : z_4.toInt = 1 := i_eq c_5 rfl (by decide)
        refine lv_iconst (v := 1) hx hb dX7_isReader_158 (by decide) ?_
        refine lv_goto (tgt := 163) hx hb dX7_isReader_159 (by decide) ?_
        exact t_zret hB hr rfl hT (Nat.le_of_ble_eq_true rfl) (Nat.le_of_ble_eq_true rfl) dX7_isReader_163 ⟨1, rfl, rfl, (Or.inl rfl)⟩
    · have c_2' : n.toInt ≤ sv.toInt := i_nlt c_2 rfl rfl
      refine lv_iconst (v := 1) hx hb dX7_isReader_14 (by decide) ?_
      refine lv_istore (lv' := [(4, .int 1), (3, .int sv), (2, .int rs), (0, .ref h), (1, .int n)]) hx hb dX7_isReader_15 hl (by decide) rfl (fun ls hl => ?_)
      refine lv_bipush (v := 8) hx hb dX7_isReader_17 (by decide) ?_
      refine lv_iload_n hx hb dX7_isReader_19 rfl (lv_at hl 1 rfl) ?_
      refine lv_imul hx hb dX7_isReader_20 ?_
      refine lv_topi (fun z_6 ez_6 => ?_)
      have e_z_6 : z_6.toInt = 8 * sv.toInt := i_mul ez_6 (by decide) rfl (by omega) (by omega)
      refine lv_istore (lv' := [(5, .int z_6), (4, .int 1), (3, .int sv), (2, .int rs), (0, .ref h), (1, .int n)]) hx hb dX7_isReader_21 hl (by decide) rfl (fun ls hl => ?_)
      refine lt_m_isReader_b l D cI cZ cS cR N0 g h n r_h l_n u_n hB hr sv rs (by omega) (by omega)  (fun is1_b_7 H locs ls hT hI hE hM l_is1_b_7 u_is1_b_7 hl => ?_) 48 z_6 (1 : Int32) H locs ls hT hI hE hM (by omega) (by omega) (by decide) (by decide) (by have e0_ : (0 : Int32).toInt = 0 := (by decide); have e1_ : (1 : Int32).toInt = 1 := (by decide); omega) (lv_sub hl [0, 1, 2, 3, 4, 5] rfl)
      have r_8 : g.1 h = 8 := Ex.r hE r_h (by decide)
      refine lv_iload_n hx hb dX7_isReader_128 rfl (lv_at hl 2 rfl) ?_
      refine lv_iload hx hb dX7_isReader_129 (lv_at hl 0 rfl) ?_
      refine lv_if_eq (tgt := 140) hx hb dX7_isReader_131 (by decide) (fun c_9 => ?_) (fun c_9 => ?_)
      · have c_9' : is1_b_7.toInt = 0 := i_eq c_9 rfl (by decide)
        refine lv_iconst (v := 0) hx hb dX7_isReader_140 (by decide) ?_
        refine lv_ior hx hb dX7_isReader_141 ?_
        refine lv_topi (fun z_10 ez_10 => ?_)
        refine lv_istore_n (lv' := [(2, .int z_10), (4, .int is1_b_7), (3, .int sv), (0, .ref h), (1, .int n)]) hx hb dX7_isReader_142 rfl hl (by decide) rfl (fun ls hl => ?_)
        obtain ⟨z_11, ez_11⟩ : ∃ z : Int32, z = sv + (-1) := ⟨_, rfl⟩
        have e_z_11 : z_11.toInt = sv.toInt + (-1) := i_add ez_11 rfl (by decide) (by omega) (by omega)
        refine lv_iinc (v := z_11) (lv' := [(3, .int z_11), (2, .int z_10), (4, .int is1_b_7), (0, .ref h), (1, .int n)]) hx hb dX7_isReader_143 hl (k := 2) rfl (by rw [ez_11]; rfl) (by decide) rfl (fun ls hl => ?_)
        refine lv_goto (tgt := 9) hx hb dX7_isReader_146 (by decide) ?_
        exact ih (kf - 1) (by omega) z_11 z_10 H locs ls hT hI hE hM (by omega) (by omega) (by have e0_ : (0 : Int32).toInt = 0 := (by decide); omega) (lv_sub hl [0, 1, 3, 4] rfl)
      · have c_9' : is1_b_7.toInt ≠ 0 := i_ne c_9 rfl (by decide)
        refine lv_iconst (v := 1) hx hb dX7_isReader_134 (by decide) ?_
        refine lv_iload_n hx hb dX7_isReader_135 rfl (lv_at hl 1 rfl) ?_
        refine lv_ishl hx hb dX7_isReader_136 ?_
        refine lv_topi (fun z_12 ez_12 => ?_)
        refine lv_goto (tgt := 141) hx hb dX7_isReader_137 (by decide) ?_
        refine lv_ior hx hb dX7_isReader_141 ?_
        refine lv_topi (fun z_13 ez_13 => ?_)
        refine lv_istore_n (lv' := [(2, .int z_13), (4, .int is1_b_7), (3, .int sv), (0, .ref h), (1, .int n)]) hx hb dX7_isReader_142 rfl hl (by decide) rfl (fun ls hl => ?_)
        obtain ⟨z_14, ez_14⟩ : ∃ z : Int32, z = sv + (-1) := ⟨_, rfl⟩
        have e_z_14 : z_14.toInt = sv.toInt + (-1) := i_add ez_14 rfl (by decide) (by omega) (by omega)
        refine lv_iinc (v := z_14) (lv' := [(3, .int z_14), (2, .int z_13), (4, .int is1_b_7), (0, .ref h), (1, .int n)]) hx hb dX7_isReader_143 hl (k := 2) rfl (by rw [ez_14]; rfl) (by decide) rfl (fun ls hl => ?_)
        refine lv_goto (tgt := 9) hx hb dX7_isReader_146 (by decide) ?_
        exact ih (kf - 1) (by omega) z_14 z_13 H locs ls hT hI hE hM (by omega) (by omega) (by have e0_ : (0 : Int32).toInt = 0 := (by decide); omega) (lv_sub hl [0, 1, 3, 4] rfl)
set_option maxHeartbeats 4000000 in
set_option maxRecDepth 100000 in
theorem m_isReader (l : Launch) (D : va_G) (cI cZ cS cR : ClassId) (N0 : NT) (g : GS) (hI : Inv g) (h : Nat) (n : Int32) (r_h : g.1 h = 8) (l_n : 0 ≤ n.toInt) (u_n : n.toInt ≤ 5) : Ty l D cI cZ cS cR N0 yX7_isReader cX7_isReader 7 (some .boolean) 3 0 0 [.ref h, .int n] g (fun v g' => ∃ (r : Int32), v = some (.int r) ∧ g' = g ∧ (r = 1 ∨ r = 0)) := by
  refine t_enter (by decide) (Nat.le_of_ble_eq_true rfl) ?_
  intro p e s m args below meth c ls H locs hB hr hin hl hT
  have hx := hB.1
  have hb := hB.2.1
  have hl : lv_has ls 7 [(0, .ref h), (1, .int n)] := hl
  have hE : Ex g g := Ex.rf
  have hM : Sm md_m_isReader g g := Sm.rf
  refine lv_iconst (v := 0) hx hb dX7_isReader_0 (by decide) ?_
  refine lv_istore_n (lv' := [(2, .int 0), (0, .ref h), (1, .int n)]) hx hb dX7_isReader_1 rfl hl (by decide) rfl (fun ls hl => ?_)
  refine lv_aload_n hx hb dX7_isReader_2 rfl (lv_at hl 1 rfl) ?_
  obtain ⟨v_1, e_v_1, l_v_1, u_v_1⟩ := f_8_0 hI r_h
  refine t_get (ci := 7) (v := .int v_1) hB hT (ro_ci r_h rfl) rfl 0 (by decide) k_745 e_v_1 dX7_isReader_3 ?_
  refine lv_iconst (v := 1) hx hb dX7_isReader_6 (by decide) ?_
  refine lv_isub hx hb dX7_isReader_7 ?_
  refine lv_topi (fun z_2 ez_2 => ?_)
  have e_z_2 : z_2.toInt = v_1.toInt - 1 := i_sub ez_2 rfl (by decide) (by omega) (by omega)
  refine lv_istore_n (lv' := [(3, .int z_2), (2, .int 0), (0, .ref h), (1, .int n)]) hx hb dX7_isReader_8 rfl hl (by decide) rfl (fun ls hl => ?_)
  exact lt_m_isReader_a l D cI cZ cS cR N0 g h n r_h l_n u_n hB hr   6 z_2 (0 : Int32) H locs ls hT hI hE hM (by omega) (by omega) (by have e0_ : (0 : Int32).toInt = 0 := (by decide); omega) (lv_sub hl [0, 1, 2, 3] rfl)
abbrev md_m_about : Nat → Nat → Bool := mdf []
set_option maxHeartbeats 4000000 in
set_option maxRecDepth 100000 in
theorem lt_m_about_a (l : Launch) (D : va_G) (cI cZ cS cR : ClassId) (N0 : NT) (g : GS) (h : Nat) (n : Int32) (k : Int32) (r_h : g.1 h = 8) {p : Program} {e : Env} {s : State} {m : MethodId} {args : Array Value} {below : List Frame} {meth : Method} {c : Code} (hB : Tz p s m meth c args cX7_about 5 RX7 D cI cZ cS cR N0) (hr : meth.sig.returnType = (some .int))    : ∀ (kf : Nat) (g1 : GS) (i : Int32) (v : Int32) (sv : Int32)  (H : Heap) (locs : List Loc) (ls : Array Slot), Tv D cI cZ cS cR N0 s.heap H locs g1 → Inv g1 → Ex g g1 → Sm md_m_about g g1 → 0 ≤ i.toInt → i.toInt ≤ 192 → 0 ≤ sv.toInt → sv.toInt ≤ 5 → (192 ≤ i.toInt + kf) → lv_has ls 5 [(4, .int i), (3, .int v), (1, .int sv), (0, .ref h)] → W p l e (rmx 4 0 0) s m args below meth c H locs 0 0 (MQ below (tQ D cI cZ cS cR N0 (fun v g' => ∃ (r : Int32), v = some (.int r) ∧ Inv g' ∧ Ex g g' ∧ Sm md_m_about g g')) args s 0 0 (fun q => N0.1 ≤ q)) (F0 m 67 ls []) := by
  have hx := hB.1
  have hb := hB.2.1
  intro kf
  induction kf using Nat.strongRecOn with
  | ind kf ih =>
    intro g1 i v sv H locs ls hT hI hE hM l_i u_i l_sv u_sv hk hl
    have r_1 : g1.1 h = 8 := Ex.r hE r_h (by decide)
    refine lv_iload hx hb dX7_about_67 (lv_at hl 0 rfl) ?_
    refine lv_bipush (v := 16) hx hb dX7_about_69 (by decide) ?_
    refine lv_iload_n hx hb dX7_about_71 rfl (lv_at hl 2 rfl) ?_
    refine lv_imul hx hb dX7_about_72 ?_
    refine lv_topi (fun z_2 ez_2 => ?_)
    have e_z_2 : z_2.toInt = 16 * sv.toInt := i_mul ez_2 (by decide) rfl (by omega) (by omega)
    refine lv_aload_n hx hb dX7_about_73 rfl (lv_at hl 3 rfl) ?_
    obtain ⟨v_3, e_v_3, r_v_3, n_v_3⟩ := f_8_9 hI r_1
    refine t_get (ci := 7) (v := .ref v_3) hB hT (ro_ci r_1 rfl) rfl 9 (by decide) k_754 e_v_3 dX7_about_74 ?_
    refine lv_iload_n hx hb dX7_about_77 rfl (lv_at hl 2 rfl) ?_
    have i_u_4 : vp_in sv 12 := (i_in (n := 12) rfl (by omega) (by omega))
    refine t_iald hB hT (ro_in r_v_3 (by decide)) n_v_3 i_u_4 rfl dX7_about_78 ?_
    have c_u_4 := hI.c r_v_3 n_v_3 (i_cl i_u_4)
    refine lv_topi (fun u_4 e_u_4 => ?_)
    obtain ⟨l_u_4, u_u_4⟩ := c_u_4
    rw [← e_u_4] at l_u_4 u_u_4
    refine lv_iadd hx hb dX7_about_79 ?_
    refine lv_topi (fun z_5 ez_5 => ?_)
    have e_z_5 : z_5.toInt = z_2.toInt + u_4.toInt := i_add ez_5 rfl rfl (by omega) (by omega)
    refine lv_icmp_ge (tgt := 107) hx hb dX7_about_80 (by decide) (fun c_6 => ?_) (fun c_6 => ?_)
    · have c_6' : z_5.toInt ≤ i.toInt := i_le c_6 rfl rfl
      refine lv_iload_n hx hb dX7_about_107 rfl (lv_at hl 1 rfl) ?_
      exact t_iret hB hr hT (Nat.le_of_ble_eq_true rfl) (Nat.le_of_ble_eq_true rfl) dX7_about_108 ⟨v, rfl, hI, hE, hM⟩
    · have c_6' : i.toInt < z_5.toInt := i_nle c_6 rfl rfl
      refine lv_iload_n hx hb dX7_about_83 rfl (lv_at hl 1 rfl) ?_
      refine lv_aload_n hx hb dX7_about_84 rfl (lv_at hl 3 rfl) ?_
      refine lv_iload hx hb dX7_about_85 (lv_at hl 0 rfl) ?_
      refine lv_iload_n hx hb dX7_about_87 rfl (lv_at hl 2 rfl) ?_
      refine t_callV (n := 2) (As := [.int i, .int sv]) (rest := [.int v]) (ci := 7) hB hT hl.1 (m_isOver l D cI cZ cS cR N0 g1 hI h i sv r_1 (by omega) (by omega) (by omega) (by omega)) (ro_ci r_1 rfl) rfl k_1015 k_65 k_1012 k_1014 k_29 (by decide +kernel) ⟨(Nat.le_of_ble_eq_true rfl), (Nat.le_of_ble_eq_true rfl)⟩ rfl (Nat.le_of_ble_eq_true rfl) ⟨(Nat.le_of_ble_eq_true rfl), (Nat.le_of_ble_eq_true rfl)⟩ dX7_about_88 (fun v g_7 H locs hp hT => ?_)
      obtain ⟨r_8, rfl, eg, f_9⟩ := hp
      rw [eg] at hT
      clear eg
      refine W.eq (g2 := F0 m 91 ls [.int r_8, .int v]) rfl ?_
      rcases f_9 with rfl | rfl
      · refine W.eq (g2 := F0 m 91 ls [.int 1, .int v]) rfl ?_
        refine lv_if_eq (tgt := 98) hx hb dX7_about_91 (by decide) (fun c_ => absurd c_ (by decide)) (fun c_ => ?_)
        refine lv_iconst (v := 0) hx hb dX7_about_94 (by decide) ?_
        refine lv_goto (tgt := 99) hx hb dX7_about_95 (by decide) ?_
        refine lv_iadd hx hb dX7_about_99 ?_
        refine lv_topi (fun z_12 ez_12 => ?_)
        refine lv_istore_n (lv' := [(3, .int z_12), (4, .int i), (1, .int sv), (0, .ref h)]) hx hb dX7_about_100 rfl hl (by decide) rfl (fun ls hl => ?_)
        obtain ⟨z_13, ez_13⟩ : ∃ z : Int32, z = i + 1 := ⟨_, rfl⟩
        have e_z_13 : z_13.toInt = i.toInt + 1 := i_add ez_13 rfl (by decide) (by omega) (by omega)
        refine lv_iinc (v := z_13) (lv' := [(4, .int z_13), (3, .int z_12), (1, .int sv), (0, .ref h)]) hx hb dX7_about_101 hl (k := 1) rfl (by rw [ez_13]; rfl) (by decide) rfl (fun ls hl => ?_)
        refine lv_goto (tgt := 67) hx hb dX7_about_104 (by decide) ?_
        exact ih (kf - 1) (by omega) g1 z_13 z_12 sv H locs ls hT hI hE hM (by omega) (by omega) (by omega) (by omega) (by have e0_ : (0 : Int32).toInt = 0 := (by decide); omega) (lv_sub hl [0, 1, 2, 3] rfl)
      · refine W.eq (g2 := F0 m 91 ls [.int 0, .int v]) rfl ?_
        refine lv_if_eq (tgt := 98) hx hb dX7_about_91 (by decide) (fun c_ => ?_) (fun c_ => absurd (by decide) c_)
        refine lv_iconst (v := 1) hx hb dX7_about_98 (by decide) ?_
        refine lv_iadd hx hb dX7_about_99 ?_
        refine lv_topi (fun z_14 ez_14 => ?_)
        refine lv_istore_n (lv' := [(3, .int z_14), (4, .int i), (1, .int sv), (0, .ref h)]) hx hb dX7_about_100 rfl hl (by decide) rfl (fun ls hl => ?_)
        obtain ⟨z_15, ez_15⟩ : ∃ z : Int32, z = i + 1 := ⟨_, rfl⟩
        have e_z_15 : z_15.toInt = i.toInt + 1 := i_add ez_15 rfl (by decide) (by omega) (by omega)
        refine lv_iinc (v := z_15) (lv' := [(4, .int z_15), (3, .int z_14), (1, .int sv), (0, .ref h)]) hx hb dX7_about_101 hl (k := 1) rfl (by rw [ez_15]; rfl) (by decide) rfl (fun ls hl => ?_)
        refine lv_goto (tgt := 67) hx hb dX7_about_104 (by decide) ?_
        exact ih (kf - 1) (by omega) g1 z_15 z_14 sv H locs ls hT hI hE hM (by omega) (by omega) (by omega) (by omega) (by have e0_ : (0 : Int32).toInt = 0 := (by decide); omega) (lv_sub hl [0, 1, 2, 3] rfl)
set_option maxHeartbeats 4000000 in
set_option maxRecDepth 100000 in
theorem m_about (l : Launch) (D : va_G) (cI cZ cS cR : ClassId) (N0 : NT) (g : GS) (hI : Inv g) (h : Nat) (n : Int32) (k : Int32) (r_h : g.1 h = 8) : Ty l D cI cZ cS cR N0 yX7_about cX7_about 5 (some .int) 4 0 0 [.ref h, .int n, .int k] g (fun v g' => ∃ (r : Int32), v = some (.int r) ∧ Inv g' ∧ Ex g g' ∧ Sm md_m_about g g') := by
  refine t_enter (by decide) (Nat.le_of_ble_eq_true rfl) ?_
  intro p e s m args below meth c ls H locs hB hr hin hl hT
  have hx := hB.1
  have hb := hB.2.1
  have hl : lv_has ls 5 [(0, .ref h), (1, .int n), (2, .int k)] := hl
  have hE : Ex g g := Ex.rf
  have hM : Sm md_m_about g g := Sm.rf
  refine lv_aload_n hx hb dX7_about_0 rfl (lv_at hl 0 rfl) ?_
  refine lv_iload_n hx hb dX7_about_1 rfl (lv_at hl 1 rfl) ?_
  obtain ⟨v_1, e_v_1, l_v_1, u_v_1⟩ := f_8_0 hI r_h
  refine t_callV (n := 1) (As := [.int n]) (rest := []) (ci := 7) hB hT hl.1 (m_isService l D cI cZ cS cR N0 g hI h n v_1 r_h e_v_1 (by omega) (by omega)) (ro_ci r_h rfl) rfl k_991 k_65 k_988 k_990 k_27 (by decide +kernel) ⟨(Nat.le_of_ble_eq_true rfl), (Nat.le_of_ble_eq_true rfl)⟩ rfl (Nat.le_of_ble_eq_true rfl) ⟨(Nat.le_of_ble_eq_true rfl), (Nat.le_of_ble_eq_true rfl)⟩ dX7_about_2 (fun v g_2 H locs hp hT => ?_)
  obtain ⟨r_3, rfl, eg, f_4⟩ := hp
  rw [eg] at hT
  clear eg
  refine W.eq (g2 := F0 m 5 ls [.int r_3]) rfl ?_
  rcases f_4 with ⟨rfl, hw_7, hw_8⟩ | ⟨rfl, hw_9⟩
  · refine W.eq (g2 := F0 m 5 ls [.int 1]) rfl ?_
    refine lv_if_eq (tgt := 18) hx hb dX7_about_5 (by decide) (fun c_ => absurd c_ (by decide)) (fun c_ => ?_)
    refine lv_iload_n hx hb dX7_about_8 rfl (lv_at hl 2 rfl) ?_
    refine lv_iconst (v := 0) hx hb dX7_about_9 (by decide) ?_
    refine lv_bipush (v := 7) hx hb dX7_about_10 (by decide) ?_
    refine t_callS (n := 3) (As := [.int k, .int 0, .int 7]) (rest := []) hB hT hl.1 (m_in l D cI cZ cS cR N0 g hI k 0 7 ) k_954 k_65 k_952 k_953 (by decide +kernel) ⟨(Nat.le_of_ble_eq_true rfl), (Nat.le_of_ble_eq_true rfl)⟩ rfl (Nat.le_of_ble_eq_true rfl) ⟨(Nat.le_of_ble_eq_true rfl), (Nat.le_of_ble_eq_true rfl)⟩ dX7_about_12 (fun v g_10 H locs hp hT => ?_)
    obtain ⟨r_11, rfl, eg, f_12⟩ := hp
    rw [eg] at hT
    clear eg
    refine W.eq (g2 := F0 m 15 ls [.int r_11]) rfl ?_
    have qc_15 : (0 : Int32).toInt = 0 := (by decide)
    have qc_16 : (7 : Int32).toInt = 7 := (by decide)
    rcases f_12 with ⟨rfl, hw_17, hw_18⟩ | ⟨rfl, hw_19⟩
    · refine W.eq (g2 := F0 m 15 ls [.int 1]) rfl ?_
      refine lv_if_ne (tgt := 20) hx hb dX7_about_15 (by decide) (fun c_ => ?_) (fun c_ => absurd c_ (by decide))
      refine lv_iload_n hx hb dX7_about_20 rfl (lv_at hl 2 rfl) ?_
      have h8_ : k.toInt = 0 ∨ k.toInt = 1 ∨ k.toInt = 2 ∨ k.toInt = 3 ∨ k.toInt = 4 ∨ k.toInt = 5 ∨ k.toInt = 6 ∨ k.toInt = 7 := (by omega)
      rcases h8_ with h8_ | h8_ | h8_ | h8_ | h8_ | h8_ | h8_ | h8_
      · refine x_ev (y := 0) (i_inj (by rw [h8_]; decide)) ?_
        refine lv_tableOut (tgt := 130) hx hb dX7_about_21 (by decide) (by decide) ?_
        refine lv_aload_n hx hb dX7_about_130 rfl (lv_at hl 0 rfl) ?_
        obtain ⟨v_20, e_v_20, r_v_20, n_v_20⟩ := f_8_7 hI r_h
        refine t_get (ci := 7) (v := .ref v_20) hB hT (ro_ci r_h rfl) rfl 7 (by decide) k_752 e_v_20 dX7_about_131 ?_
        refine lv_iconst (v := 4) hx hb dX7_about_134 (by decide) ?_
        refine lv_iload_n hx hb dX7_about_135 rfl (lv_at hl 1 rfl) ?_
        refine lv_imul hx hb dX7_about_136 ?_
        refine lv_topi (fun z_21 ez_21 => ?_)
        have e_z_21 : z_21.toInt = 4 * n.toInt := i_mul ez_21 (by decide) rfl (by omega) (by omega)
        refine lv_iload_n hx hb dX7_about_137 rfl (lv_at hl 2 rfl) ?_
        refine lv_iadd hx hb dX7_about_138 ?_
        refine lv_topi (fun z_22 ez_22 => ?_)
        have e_z_22 : z_22.toInt = z_21.toInt + k.toInt := i_add ez_22 rfl rfl (by omega) (by omega)
        have i_u_23 : vp_in z_22 48 := (i_in (n := 48) rfl (by omega) (by omega))
        refine t_iald hB hT (ro_in r_v_20 (by decide)) n_v_20 i_u_23 rfl dX7_about_139 ?_
        have c_u_23 := hI.c r_v_20 n_v_20 (i_cl i_u_23)
        refine lv_topi (fun u_23 e_u_23 => ?_)
        obtain ⟨l_u_23, u_u_23⟩ := c_u_23
        rw [← e_u_23] at l_u_23 u_u_23
        exact t_iret hB hr hT (Nat.le_of_ble_eq_true rfl) (Nat.le_of_ble_eq_true rfl) dX7_about_140 ⟨u_23, rfl, hI, hE, hM⟩
      · refine x_ev (y := 1) (i_inj (by rw [h8_]; decide)) ?_
        refine lv_tableOut (tgt := 130) hx hb dX7_about_21 (by decide) (by decide) ?_
        refine lv_aload_n hx hb dX7_about_130 rfl (lv_at hl 0 rfl) ?_
        obtain ⟨v_24, e_v_24, r_v_24, n_v_24⟩ := f_8_7 hI r_h
        refine t_get (ci := 7) (v := .ref v_24) hB hT (ro_ci r_h rfl) rfl 7 (by decide) k_752 e_v_24 dX7_about_131 ?_
        refine lv_iconst (v := 4) hx hb dX7_about_134 (by decide) ?_
        refine lv_iload_n hx hb dX7_about_135 rfl (lv_at hl 1 rfl) ?_
        refine lv_imul hx hb dX7_about_136 ?_
        refine lv_topi (fun z_25 ez_25 => ?_)
        have e_z_25 : z_25.toInt = 4 * n.toInt := i_mul ez_25 (by decide) rfl (by omega) (by omega)
        refine lv_iload_n hx hb dX7_about_137 rfl (lv_at hl 2 rfl) ?_
        refine lv_iadd hx hb dX7_about_138 ?_
        refine lv_topi (fun z_26 ez_26 => ?_)
        have e_z_26 : z_26.toInt = z_25.toInt + k.toInt := i_add ez_26 rfl rfl (by omega) (by omega)
        have i_u_27 : vp_in z_26 48 := (i_in (n := 48) rfl (by omega) (by omega))
        refine t_iald hB hT (ro_in r_v_24 (by decide)) n_v_24 i_u_27 rfl dX7_about_139 ?_
        have c_u_27 := hI.c r_v_24 n_v_24 (i_cl i_u_27)
        refine lv_topi (fun u_27 e_u_27 => ?_)
        obtain ⟨l_u_27, u_u_27⟩ := c_u_27
        rw [← e_u_27] at l_u_27 u_u_27
        exact t_iret hB hr hT (Nat.le_of_ble_eq_true rfl) (Nat.le_of_ble_eq_true rfl) dX7_about_140 ⟨u_27, rfl, hI, hE, hM⟩
      · refine x_ev (y := 2) (i_inj (by rw [h8_]; decide)) ?_
        refine lv_tableOut (tgt := 130) hx hb dX7_about_21 (by decide) (by decide) ?_
        refine lv_aload_n hx hb dX7_about_130 rfl (lv_at hl 0 rfl) ?_
        obtain ⟨v_28, e_v_28, r_v_28, n_v_28⟩ := f_8_7 hI r_h
        refine t_get (ci := 7) (v := .ref v_28) hB hT (ro_ci r_h rfl) rfl 7 (by decide) k_752 e_v_28 dX7_about_131 ?_
        refine lv_iconst (v := 4) hx hb dX7_about_134 (by decide) ?_
        refine lv_iload_n hx hb dX7_about_135 rfl (lv_at hl 1 rfl) ?_
        refine lv_imul hx hb dX7_about_136 ?_
        refine lv_topi (fun z_29 ez_29 => ?_)
        have e_z_29 : z_29.toInt = 4 * n.toInt := i_mul ez_29 (by decide) rfl (by omega) (by omega)
        refine lv_iload_n hx hb dX7_about_137 rfl (lv_at hl 2 rfl) ?_
        refine lv_iadd hx hb dX7_about_138 ?_
        refine lv_topi (fun z_30 ez_30 => ?_)
        have e_z_30 : z_30.toInt = z_29.toInt + k.toInt := i_add ez_30 rfl rfl (by omega) (by omega)
        have i_u_31 : vp_in z_30 48 := (i_in (n := 48) rfl (by omega) (by omega))
        refine t_iald hB hT (ro_in r_v_28 (by decide)) n_v_28 i_u_31 rfl dX7_about_139 ?_
        have c_u_31 := hI.c r_v_28 n_v_28 (i_cl i_u_31)
        refine lv_topi (fun u_31 e_u_31 => ?_)
        obtain ⟨l_u_31, u_u_31⟩ := c_u_31
        rw [← e_u_31] at l_u_31 u_u_31
        exact t_iret hB hr hT (Nat.le_of_ble_eq_true rfl) (Nat.le_of_ble_eq_true rfl) dX7_about_140 ⟨u_31, rfl, hI, hE, hM⟩
      · refine x_ev (y := 3) (i_inj (by rw [h8_]; decide)) ?_
        refine lv_tableOut (tgt := 130) hx hb dX7_about_21 (by decide) (by decide) ?_
        refine lv_aload_n hx hb dX7_about_130 rfl (lv_at hl 0 rfl) ?_
        obtain ⟨v_32, e_v_32, r_v_32, n_v_32⟩ := f_8_7 hI r_h
        refine t_get (ci := 7) (v := .ref v_32) hB hT (ro_ci r_h rfl) rfl 7 (by decide) k_752 e_v_32 dX7_about_131 ?_
        refine lv_iconst (v := 4) hx hb dX7_about_134 (by decide) ?_
        refine lv_iload_n hx hb dX7_about_135 rfl (lv_at hl 1 rfl) ?_
        refine lv_imul hx hb dX7_about_136 ?_
        refine lv_topi (fun z_33 ez_33 => ?_)
        have e_z_33 : z_33.toInt = 4 * n.toInt := i_mul ez_33 (by decide) rfl (by omega) (by omega)
        refine lv_iload_n hx hb dX7_about_137 rfl (lv_at hl 2 rfl) ?_
        refine lv_iadd hx hb dX7_about_138 ?_
        refine lv_topi (fun z_34 ez_34 => ?_)
        have e_z_34 : z_34.toInt = z_33.toInt + k.toInt := i_add ez_34 rfl rfl (by omega) (by omega)
        have i_u_35 : vp_in z_34 48 := (i_in (n := 48) rfl (by omega) (by omega))
        refine t_iald hB hT (ro_in r_v_32 (by decide)) n_v_32 i_u_35 rfl dX7_about_139 ?_
        have c_u_35 := hI.c r_v_32 n_v_32 (i_cl i_u_35)
        refine lv_topi (fun u_35 e_u_35 => ?_)
        obtain ⟨l_u_35, u_u_35⟩ := c_u_35
        rw [← e_u_35] at l_u_35 u_u_35
        exact t_iret hB hr hT (Nat.le_of_ble_eq_true rfl) (Nat.le_of_ble_eq_true rfl) dX7_about_140 ⟨u_35, rfl, hI, hE, hM⟩
      · refine x_ev (y := 4) (i_inj (by rw [h8_]; decide)) ?_
        refine lv_tableIn (off := 31) (tgt := 52) hx hb dX7_about_21 (by decide) (by decide) rfl (by decide) ?_
        refine lv_aload_n hx hb dX7_about_52 rfl (lv_at hl 0 rfl) ?_
        obtain ⟨v_36, e_v_36, r_v_36, n_v_36⟩ := f_8_8 hI r_h
        refine t_get (ci := 7) (v := .ref v_36) hB hT (ro_ci r_h rfl) rfl 8 (by decide) k_753 e_v_36 dX7_about_53 ?_
        refine lv_iload_n hx hb dX7_about_56 rfl (lv_at hl 1 rfl) ?_
        have i_u_37 : vp_in n 12 := (i_in (n := 12) rfl (by omega) (by omega))
        refine t_iald hB hT (ro_in r_v_36 (by decide)) n_v_36 i_u_37 rfl dX7_about_57 ?_
        have c_u_37 := hI.c r_v_36 n_v_36 (i_cl i_u_37)
        refine lv_topi (fun u_37 e_u_37 => ?_)
        obtain ⟨l_u_37, u_u_37⟩ := c_u_37
        rw [← e_u_37] at l_u_37 u_u_37
        exact t_iret hB hr hT (Nat.le_of_ble_eq_true rfl) (Nat.le_of_ble_eq_true rfl) dX7_about_58 ⟨u_37, rfl, hI, hE, hM⟩
      · refine x_ev (y := 5) (i_inj (by rw [h8_]; decide)) ?_
        refine lv_tableIn (off := 38) (tgt := 59) hx hb dX7_about_21 (by decide) (by decide) rfl (by decide) ?_
        refine lv_iconst (v := 0) hx hb dX7_about_59 (by decide) ?_
        refine lv_istore_n (lv' := [(3, .int 0), (0, .ref h), (1, .int n), (2, .int k)]) hx hb dX7_about_60 rfl hl (by decide) rfl (fun ls hl => ?_)
        refine lv_bipush (v := 16) hx hb dX7_about_61 (by decide) ?_
        refine lv_iload_n hx hb dX7_about_63 rfl (lv_at hl 2 rfl) ?_
        refine lv_imul hx hb dX7_about_64 ?_
        refine lv_topi (fun z_38 ez_38 => ?_)
        have e_z_38 : z_38.toInt = 16 * n.toInt := i_mul ez_38 (by decide) rfl (by omega) (by omega)
        refine lv_istore (lv' := [(4, .int z_38), (3, .int 0), (0, .ref h), (1, .int n), (2, .int k)]) hx hb dX7_about_65 hl (by decide) rfl (fun ls hl => ?_)
        exact lt_m_about_a l D cI cZ cS cR N0 g h n k r_h hB hr   192 g z_38 (0 : Int32) n H locs ls hT hI hE hM (by omega) (by omega) (by omega) (by omega) (by have e0_ : (0 : Int32).toInt = 0 := (by decide); omega) (lv_sub hl [0, 1, 3, 2] rfl)
      · refine x_ev (y := 6) (i_inj (by rw [h8_]; decide)) ?_
        refine lv_tableIn (off := 88) (tgt := 109) hx hb dX7_about_21 (by decide) (by decide) rfl (by decide) ?_
        refine lv_aload_n hx hb dX7_about_109 rfl (lv_at hl 0 rfl) ?_
        obtain ⟨v_39, e_v_39, r_v_39, n_v_39⟩ := f_8_1 hI r_h
        refine t_get (ci := 7) (v := .ref v_39) hB hT (ro_ci r_h rfl) rfl 1 (by decide) k_746 e_v_39 dX7_about_110 ?_
        refine lv_iload_n hx hb dX7_about_113 rfl (lv_at hl 1 rfl) ?_
        have i_u_40 : vp_in n 6 := (i_in (n := 6) rfl (by omega) (by omega))
        refine t_iald hB hT (ro_in r_v_39 (by decide)) n_v_39 i_u_40 rfl dX7_about_114 ?_
        have c_u_40 := hI.c r_v_39 n_v_39 (i_cl i_u_40)
        refine lv_topi (fun u_40 e_u_40 => ?_)
        obtain ⟨l_u_40, u_u_40⟩ := c_u_40
        rw [← e_u_40] at l_u_40 u_u_40
        exact t_iret hB hr hT (Nat.le_of_ble_eq_true rfl) (Nat.le_of_ble_eq_true rfl) dX7_about_115 ⟨u_40, rfl, hI, hE, hM⟩
      · refine x_ev (y := 7) (i_inj (by rw [h8_]; decide)) ?_
        refine lv_tableIn (off := 95) (tgt := 116) hx hb dX7_about_21 (by decide) (by decide) rfl (by decide) ?_
        refine lv_aload_n hx hb dX7_about_116 rfl (lv_at hl 0 rfl) ?_
        refine lv_iload_n hx hb dX7_about_117 rfl (lv_at hl 1 rfl) ?_
        refine t_callV (n := 1) (As := [.int n]) (rest := []) (ci := 7) hB hT hl.1 (m_isReader l D cI cZ cS cR N0 g hI h n r_h (by omega) (by omega)) (ro_ci r_h rfl) rfl k_1019 k_65 k_1016 k_1018 k_30 (by decide +kernel) ⟨(Nat.le_of_ble_eq_true rfl), (Nat.le_of_ble_eq_true rfl)⟩ rfl (Nat.le_of_ble_eq_true rfl) ⟨(Nat.le_of_ble_eq_true rfl), (Nat.le_of_ble_eq_true rfl)⟩ dX7_about_118 (fun v g_41 H locs hp hT => ?_)
        obtain ⟨r_42, rfl, eg, f_43⟩ := hp
        rw [eg] at hT
        clear eg
        refine W.eq (g2 := F0 m 121 ls [.int r_42]) rfl ?_
        rcases f_43 with rfl | rfl
        · refine W.eq (g2 := F0 m 121 ls [.int 1]) rfl ?_
          refine lv_if_eq (tgt := 128) hx hb dX7_about_121 (by decide) (fun c_ => absurd c_ (by decide)) (fun c_ => ?_)
          refine lv_iconst (v := 1) hx hb dX7_about_124 (by decide) ?_
          refine lv_goto (tgt := 129) hx hb dX7_about_125 (by decide) ?_
          exact t_iret hB hr hT (Nat.le_of_ble_eq_true rfl) (Nat.le_of_ble_eq_true rfl) dX7_about_129 ⟨1, rfl, hI, hE, hM⟩
        · refine W.eq (g2 := F0 m 121 ls [.int 0]) rfl ?_
          refine lv_if_eq (tgt := 128) hx hb dX7_about_121 (by decide) (fun c_ => ?_) (fun c_ => absurd (by decide) c_)
          refine lv_iconst (v := 0) hx hb dX7_about_128 (by decide) ?_
          exact t_iret hB hr hT (Nat.le_of_ble_eq_true rfl) (Nat.le_of_ble_eq_true rfl) dX7_about_129 ⟨0, rfl, hI, hE, hM⟩
    · refine W.eq (g2 := F0 m 15 ls [.int 0]) rfl ?_
      refine lv_if_ne (tgt := 20) hx hb dX7_about_15 (by decide) (fun c_ => absurd (by decide) c_) (fun c_ => ?_)
      refine lv_iconst (v := (-1)) hx hb dX7_about_18 (by decide) ?_
      exact t_iret hB hr hT (Nat.le_of_ble_eq_true rfl) (Nat.le_of_ble_eq_true rfl) dX7_about_19 ⟨(-1), rfl, hI, hE, hM⟩
  · refine W.eq (g2 := F0 m 5 ls [.int 0]) rfl ?_
    refine lv_if_eq (tgt := 18) hx hb dX7_about_5 (by decide) (fun c_ => ?_) (fun c_ => absurd (by decide) c_)
    refine lv_iconst (v := (-1)) hx hb dX7_about_18 (by decide) ?_
    exact t_iret hB hr hT (Nat.le_of_ble_eq_true rfl) (Nat.le_of_ble_eq_true rfl) dX7_about_19 ⟨(-1), rfl, hI, hE, hM⟩
abbrev md_m_call : Nat → Nat → Bool := mdf [(8, 21), (8, 22), (8, 24), (8, 49), (8, 50), (8, 51), (40, 99), (50, 99), (51, 99), (54, 99), (55, 99), (56, 99), (58, 99), (76, 99), (77, 99), (78, 99)]
theorem mdle_m_call_m_calls0 {r k : Nat} (h : md_m_call r k = false) : md_m_calls0 r k = false := mdf_le (by decide +kernel) h
set_option maxHeartbeats 4000000 in
set_option maxRecDepth 100000 in
theorem lt_m_call_b (l : Launch) (D : va_G) (cI cZ cS cR : ClassId) (N0 : NT) (g : GS) (h : Nat) (n : Int32) (k : Int32) (j : Int32) (x4 : Int32) (o0 : Int32) (r_h : g.1 h = 8) (ko : g.2.1 h 22 = .int o0) (l_o0 : 0 ≤ o0.toInt) (u_o0 : o0.toInt ≤ 999999940) (hw : PX 48 2 3 71 72 g h) {p : Program} {e : Env} {s : State} {m : MethodId} {args : Array Value} {below : List Frame} {meth : Method} {c : Code} (hB : Tz p s m meth c args cX7_call 6 RX7 D cI cZ cS cR N0) (hr : meth.sig.returnType = (some .int))    : ∀ (g1 : GS) (lg : Int32) (n1 : Int32) (k1 : Int32)  (H : Heap) (locs : List Loc) (ls : Array Slot), Tv D cI cZ cS cR N0 s.heap H locs g1 → Inv g1 → Ex g g1 → Sm md_m_call g g1 → 0 ≤ lg.toInt → lg.toInt ≤ 19 → 0 ≤ n1.toInt → n1.toInt ≤ 5 → 0 ≤ k1.toInt → k1.toInt ≤ 999 → g1.2.1 h 24 = .int lg → g1.2.1 h 22 = .int o0 → lv_has ls 6 [(0, .ref h), (1, .int n1), (2, .int k1), (3, .int j), (4, .int x4)] → W p l e (rmx 6 0 0) s m args below meth c H locs 0 0 (MQ below (tQ D cI cZ cS cR N0 (fun v g' => ∃ (r : Int32) (o2 : Int32), v = some (.int r) ∧ Inv g' ∧ Ex g g' ∧ Sm md_m_call g g' ∧ (g'.2.1 h 22 = .int o2) ∧ (0 ≤ o2.toInt ∧ o2.toInt ≤ o0.toInt + 60))) args s 0 0 (fun q => N0.1 ≤ q)) (F0 m 129 ls []) := by
  have hx := hB.1
  have hb := hB.2.1
  intro g1 lg n1 k1 H locs ls hT hI hE hM l_lg u_lg l_n1 u_n1 l_k1 u_k1 kp0 kp1 hl
  have r_1 : g1.1 h = 8 := Ex.r hE r_h (by decide)
  refine lv_aload_n hx hb dX7_call_129 rfl (lv_at hl 0 rfl) ?_
  obtain ⟨v_2, e_v_2, r_v_2, n_v_2⟩ := f_8_25 hI r_1
  refine t_get (ci := 7) (v := .ref v_2) hB hT (ro_ci r_1 rfl) rfl 25 (by decide) k_770 e_v_2 dX7_call_130 ?_
  refine lv_aload_n hx hb dX7_call_133 rfl (lv_at hl 0 rfl) ?_
  refine t_get (ci := 7) (v := .int lg) hB hT (ro_ci r_1 rfl) rfl 24 (by decide) k_769 kp0 dX7_call_134 ?_
  refine lv_iload_n hx hb dX7_call_137 rfl (lv_at hl 1 rfl) ?_
  have i_3 : vp_in lg 20 := (i_in (n := 20) rfl (by omega) (by omega))
  refine t_iast hB hT (ro_in r_v_2 (by decide)) n_v_2 i_3 dX7_call_138 (fun H locs hT => ?_)
  have hI : Inv (sC g1 v_2 lg.toNatClampNeg n1) := hI.sC (ck r_v_2 ⟨by omega, by omega⟩)
  have hM : Sm md_m_call g (sC g1 v_2 lg.toNatClampNeg n1) := hM.tr hE (Sm_sC (by rw [r_v_2]; rfl))
  have hE : Ex g (sC g1 v_2 lg.toNatClampNeg n1) := hE
  refine lv_aload_n hx hb dX7_call_139 rfl (lv_at hl 0 rfl) ?_
  obtain ⟨v_4, e_v_4, r_v_4, n_v_4⟩ := f_8_26 hI r_1
  refine t_get (ci := 7) (v := .ref v_4) hB hT (ro_ci r_1 rfl) rfl 26 (by decide) k_771 e_v_4 dX7_call_140 ?_
  refine lv_aload_n hx hb dX7_call_143 rfl (lv_at hl 0 rfl) ?_
  refine t_get (ci := 7) (v := .int lg) hB hT (ro_ci r_1 rfl) rfl 24 (by decide) k_769 kp0 dX7_call_144 ?_
  refine lv_iload_n hx hb dX7_call_147 rfl (lv_at hl 2 rfl) ?_
  have i_5 : vp_in lg 20 := (i_in (n := 20) rfl (by omega) (by omega))
  refine t_iast hB hT (ro_in r_v_4 (by decide)) n_v_4 i_5 dX7_call_148 (fun H locs hT => ?_)
  have hI : Inv (sC (sC g1 v_2 lg.toNatClampNeg n1) v_4 lg.toNatClampNeg k1) := hI.sC (ck r_v_4 ⟨by omega, by omega⟩)
  have hM : Sm md_m_call g (sC (sC g1 v_2 lg.toNatClampNeg n1) v_4 lg.toNatClampNeg k1) := hM.tr hE (Sm_sC (by rw [r_v_4]; rfl))
  have hE : Ex g (sC (sC g1 v_2 lg.toNatClampNeg n1) v_4 lg.toNatClampNeg k1) := hE
  refine lv_aload_n hx hb dX7_call_149 rfl (lv_at hl 0 rfl) ?_
  obtain ⟨v_6, e_v_6, r_v_6, n_v_6⟩ := f_8_27 hI r_1
  refine t_get (ci := 7) (v := .ref v_6) hB hT (ro_ci r_1 rfl) rfl 27 (by decide) k_772 e_v_6 dX7_call_150 ?_
  refine lv_aload_n hx hb dX7_call_153 rfl (lv_at hl 0 rfl) ?_
  refine t_get (ci := 7) (v := .int lg) hB hT (ro_ci r_1 rfl) rfl 24 (by decide) k_769 kp0 dX7_call_154 ?_
  refine lv_iload_n hx hb dX7_call_157 rfl (lv_at hl 3 rfl) ?_
  have i_7 : vp_in lg 20 := (i_in (n := 20) rfl (by omega) (by omega))
  refine t_iast hB hT (ro_in r_v_6 (by decide)) n_v_6 i_7 dX7_call_158 (fun H locs hT => ?_)
  have hI : Inv (sC (sC (sC g1 v_2 lg.toNatClampNeg n1) v_4 lg.toNatClampNeg k1) v_6 lg.toNatClampNeg j) := hI.sC (ck r_v_6 trivial)
  have hM : Sm md_m_call g (sC (sC (sC g1 v_2 lg.toNatClampNeg n1) v_4 lg.toNatClampNeg k1) v_6 lg.toNatClampNeg j) := hM.tr hE (Sm_sC (by rw [r_v_6]; rfl))
  have hE : Ex g (sC (sC (sC g1 v_2 lg.toNatClampNeg n1) v_4 lg.toNatClampNeg k1) v_6 lg.toNatClampNeg j) := hE
  refine lv_aload_n hx hb dX7_call_159 rfl (lv_at hl 0 rfl) ?_
  refine lv_dup hx hb dX7_call_160 rfl ?_
  refine t_get (ci := 7) (v := .int lg) hB hT (ro_ci r_1 rfl) rfl 24 (by decide) k_769 kp0 dX7_call_161 ?_
  refine lv_iconst (v := 1) hx hb dX7_call_164 (by decide) ?_
  refine lv_iadd hx hb dX7_call_165 ?_
  refine lv_topi (fun z_8 ez_8 => ?_)
  have e_z_8 : z_8.toInt = lg.toInt + 1 := i_add ez_8 rfl (by decide) (by omega) (by omega)
  refine t_put0 (ci := 7) (v := .int z_8) hB hT (ro_ci r_1 rfl) (ro_n0 r_1 (by decide)) rfl 24 (by decide) k_769 (Or.inl rfl) rfl rfl dX7_call_166 (fun H locs hT => ?_)
  have hI : Inv (sF (sC (sC (sC g1 v_2 lg.toNatClampNeg n1) v_4 lg.toNatClampNeg k1) v_6 lg.toNatClampNeg j) h 24 (.int z_8)) := hI.sF (p_8_24 r_1 (⟨_, rfl, by omega, by omega⟩))
  have hM : Sm md_m_call g (sF (sC (sC (sC g1 v_2 lg.toNatClampNeg n1) v_4 lg.toNatClampNeg k1) v_6 lg.toNatClampNeg j) h 24 (.int z_8)) := hM.tr hE (Sm_sF (by rw [r_1]; rfl))
  have hE : Ex g (sF (sC (sC (sC g1 v_2 lg.toNatClampNeg n1) v_4 lg.toNatClampNeg k1) v_6 lg.toNatClampNeg j) h 24 (.int z_8)) := hE
  refine lv_aload_n hx hb dX7_call_169 rfl (lv_at hl 0 rfl) ?_
  refine lv_iconst (v := 0) hx hb dX7_call_170 (by decide) ?_
  refine t_put0 (ci := 7) (v := .int 0) hB hT (ro_ci r_1 rfl) (ro_n0 r_1 (by decide)) rfl 21 (by decide) k_766 (Or.inl rfl) rfl rfl dX7_call_171 (fun H locs hT => ?_)
  have hI : Inv (sF (sF (sC (sC (sC g1 v_2 lg.toNatClampNeg n1) v_4 lg.toNatClampNeg k1) v_6 lg.toNatClampNeg j) h 24 (.int z_8)) h 21 (.int 0)) := hI.sF (p_8_21 r_1 (⟨_, rfl, by decide, by decide⟩))
  have hM : Sm md_m_call g (sF (sF (sC (sC (sC g1 v_2 lg.toNatClampNeg n1) v_4 lg.toNatClampNeg k1) v_6 lg.toNatClampNeg j) h 24 (.int z_8)) h 21 (.int 0)) := hM.tr hE (Sm_sF (by rw [r_1]; rfl))
  have hE : Ex g (sF (sF (sC (sC (sC g1 v_2 lg.toNatClampNeg n1) v_4 lg.toNatClampNeg k1) v_6 lg.toNatClampNeg j) h 24 (.int z_8)) h 21 (.int 0)) := hE
  refine lv_aload_n hx hb dX7_call_174 rfl (lv_at hl 0 rfl) ?_
  refine lv_iload_n hx hb dX7_call_175 rfl (lv_at hl 1 rfl) ?_
  refine lv_iload_n hx hb dX7_call_176 rfl (lv_at hl 2 rfl) ?_
  refine lv_iload_n hx hb dX7_call_177 rfl (lv_at hl 3 rfl) ?_
  refine lv_iload hx hb dX7_call_178 (lv_at hl 4 rfl) ?_
  obtain ⟨v_9, e_v_9, r_v_9, n_v_9⟩ := f_8_43 hI r_1
  obtain ⟨v_10, e_v_10, r_v_10, n_v_10⟩ := f_8_46 hI r_1
  refine t_callV (n := 4) (As := [.int n1, .int k1, .int j, .int x4]) (rest := []) (ci := 7) hB hT hl.1 (m_calls0 l D cI cZ cS cR N0 (sF (sF (sC (sC (sC g1 v_2 lg.toNatClampNeg n1) v_4 lg.toNatClampNeg k1) v_6 lg.toNatClampNeg j) h 24 (.int z_8)) h 21 (.int 0)) hI h n1 k1 j x4 o0 v_9 v_10 r_1 r_v_9 n_v_9 r_v_10 n_v_10 (sF_k (sF_k kp1 (by decide)) (by decide)) sF_eq e_v_9 e_v_10 (by omega) (by omega) (by omega) (by omega) (by omega) (by omega) (hw.mono hM hE r_h (by decide) (by decide) rfl rfl rfl rfl)) (ro_ci r_1 rfl) rfl k_1035 k_65 k_1032 k_1034 k_32 (by decide +kernel) ⟨(Nat.le_of_ble_eq_true rfl), (Nat.le_of_ble_eq_true rfl)⟩ rfl (Nat.le_of_ble_eq_true rfl) ⟨(Nat.le_of_ble_eq_true rfl), (Nat.le_of_ble_eq_true rfl)⟩ dX7_call_180 (fun v g_11 H locs hp hT => ?_)
  obtain ⟨r_12, t2_13, rfl, hI, x_18, m_17, f_14, f_15, f_16⟩ := hp
  have hM : Sm md_m_call g g_11 := hM.tr hE (m_17.mo (fun r k h => mdle_m_call_m_calls0 h))
  have hE : Ex g g_11 := hE.tr x_18
  have r_19 : g_11.1 h = 8 := (Ex.r x_18 r_1 (by decide))
  have r_20 : g_11.1 v_2 = 76 := (Ex.r x_18 r_v_2 (by decide))
  have r_21 : g_11.1 v_4 = 77 := (Ex.r x_18 r_v_4 (by decide))
  have r_22 : g_11.1 v_6 = 78 := (Ex.r x_18 r_v_6 (by decide))
  have r_23 : g_11.1 v_9 = 51 := (Ex.r x_18 r_v_9 (by decide))
  have r_24 : g_11.1 v_10 = 55 := (Ex.r x_18 r_v_10 (by decide))
  have n_25 : g_11.2.2.1 v_2 = 20 := (Ex.n x_18 r_v_2 (by decide) n_v_2)
  have n_26 : g_11.2.2.1 v_4 = 20 := (Ex.n x_18 r_v_4 (by decide) n_v_4)
  have n_27 : g_11.2.2.1 v_6 = 20 := (Ex.n x_18 r_v_6 (by decide) n_v_6)
  have n_28 : g_11.2.2.1 v_9 = 7 := (Ex.n x_18 r_v_9 (by decide) n_v_9)
  have n_29 : g_11.2.2.1 v_10 = 7 := (Ex.n x_18 r_v_10 (by decide) n_v_10)
  have kn_30 : g_11.2.1 h 25 = .ref v_2 := (Sm.v m_17 r_1 (by decide) rfl (sF_k (sF_k e_v_2 (by decide)) (by decide)))
  have kn_31 : g_11.2.1 h 26 = .ref v_4 := (Sm.v m_17 r_1 (by decide) rfl (sF_k (sF_k e_v_4 (by decide)) (by decide)))
  have kn_32 : g_11.2.1 h 27 = .ref v_6 := (Sm.v m_17 r_1 (by decide) rfl (sF_k (sF_k e_v_6 (by decide)) (by decide)))
  have kn_33 : g_11.2.1 h 24 = .int z_8 := (Sm.v m_17 r_1 (by decide) rfl (sF_k sF_eq (by decide)))
  have kn_34 : g_11.2.1 h 21 = .int 0 := (Sm.v m_17 r_1 (by decide) rfl sF_eq)
  have kn_35 : g_11.2.1 h 43 = .ref v_9 := (Sm.v m_17 r_1 (by decide) rfl e_v_9)
  have kn_36 : g_11.2.1 h 46 = .ref v_10 := (Sm.v m_17 r_1 (by decide) rfl e_v_10)
  have kn_37 : g_11.2.2.2.1 v_2 lg.toNatClampNeg = n1 := (Sm.c m_17 r_v_2 (by decide) rfl (sC_a (sC_a sC_eq (ro_ne r_v_2 r_v_4 (by decide))) (ro_ne r_v_2 r_v_6 (by decide))))
  have kn_38 : g_11.2.2.2.1 v_4 lg.toNatClampNeg = k1 := (Sm.c m_17 r_v_4 (by decide) rfl (sC_a sC_eq (ro_ne r_v_4 r_v_6 (by decide))))
  have kn_39 : g_11.2.2.2.1 v_6 lg.toNatClampNeg = j := (Sm.c m_17 r_v_6 (by decide) rfl sC_eq)
  refine W.eq (g2 := F0 m 183 ls [.int r_12]) rfl ?_
  exact t_iret hB hr hT (Nat.le_of_ble_eq_true rfl) (Nat.le_of_ble_eq_true rfl) dX7_call_183 ⟨r_12, t2_13, rfl, hI, hE, hM, f_15, (by omega)⟩
set_option maxHeartbeats 4000000 in
set_option maxRecDepth 100000 in
theorem lt_m_call_a (l : Launch) (D : va_G) (cI cZ cS cR : ClassId) (N0 : NT) (g : GS) (h : Nat) (n : Int32) (k : Int32) (j : Int32) (x4 : Int32) (o0 : Int32) (r_h : g.1 h = 8) (ko : g.2.1 h 22 = .int o0) (l_o0 : 0 ≤ o0.toInt) (u_o0 : o0.toInt ≤ 999999940) (hw : PX 48 2 3 71 72 g h) {p : Program} {e : Env} {s : State} {m : MethodId} {args : Array Value} {below : List Frame} {meth : Method} {c : Code} (hB : Tz p s m meth c args cX7_call 6 RX7 D cI cZ cS cR N0) (hr : meth.sig.returnType = (some .int))    : ∀ (kf : Nat) (g1 : GS) (i : Int32) (lg : Int32) (n1 : Int32) (k1 : Int32)  (H : Heap) (locs : List Loc) (ls : Array Slot), Tv D cI cZ cS cR N0 s.heap H locs g1 → Inv g1 → Ex g g1 → Sm md_m_call g g1 → 1 ≤ i.toInt → i.toInt ≤ 20 → 20 ≤ lg.toInt → lg.toInt ≤ 20 → 0 ≤ n1.toInt → n1.toInt ≤ 5 → 0 ≤ k1.toInt → k1.toInt ≤ 999 → g1.2.1 h 24 = .int lg → g1.2.1 h 22 = .int o0 → (20 ≤ i.toInt + kf) → lv_has ls 6 [(5, .int i), (0, .ref h), (1, .int n1), (2, .int k1), (3, .int j), (4, .int x4)] → W p l e (rmx 6 0 0) s m args below meth c H locs 0 0 (MQ below (tQ D cI cZ cS cR N0 (fun v g' => ∃ (r : Int32) (o2 : Int32), v = some (.int r) ∧ Inv g' ∧ Ex g g' ∧ Sm md_m_call g g' ∧ (g'.2.1 h 22 = .int o2) ∧ (0 ≤ o2.toInt ∧ o2.toInt ≤ o0.toInt + 60))) args s 0 0 (fun q => N0.1 ≤ q)) (F0 m 58 ls []) := by
  have hx := hB.1
  have hb := hB.2.1
  intro kf
  induction kf using Nat.strongRecOn with
  | ind kf ih =>
    intro g1 i lg n1 k1 H locs ls hT hI hE hM l_i u_i l_lg u_lg l_n1 u_n1 l_k1 u_k1 kp0 kp1 hk hl
    have r_1 : g1.1 h = 8 := Ex.r hE r_h (by decide)
    refine lv_iload hx hb dX7_call_58 (lv_at hl 0 rfl) ?_
    refine lv_bipush (v := 20) hx hb dX7_call_60 (by decide) ?_
    refine lv_icmp_ge (tgt := 119) hx hb dX7_call_62 (by decide) (fun c_2 => ?_) (fun c_2 => ?_)
    · have c_2' : 20 ≤ i.toInt := i_le c_2 (by decide) rfl
      refine lv_aload_n hx hb dX7_call_119 rfl (lv_at hl 1 rfl) ?_
      refine lv_dup hx hb dX7_call_120 rfl ?_
      refine t_get (ci := 7) (v := .int lg) hB hT (ro_ci r_1 rfl) rfl 24 (by decide) k_769 kp0 dX7_call_121 ?_
      refine lv_iconst (v := 1) hx hb dX7_call_124 (by decide) ?_
      refine lv_isub hx hb dX7_call_125 ?_
      refine lv_topi (fun z_3 ez_3 => ?_)
      have e_z_3 : z_3.toInt = lg.toInt - 1 := i_sub ez_3 rfl (by decide) (by omega) (by omega)
      refine t_put0 (ci := 7) (v := .int z_3) hB hT (ro_ci r_1 rfl) (ro_n0 r_1 (by decide)) rfl 24 (by decide) k_769 (Or.inl rfl) rfl rfl dX7_call_126 (fun H locs hT => ?_)
      have hI : Inv (sF g1 h 24 (.int z_3)) := hI.sF (p_8_24 r_1 (⟨_, rfl, by omega, by omega⟩))
      have hM : Sm md_m_call g (sF g1 h 24 (.int z_3)) := hM.tr hE (Sm_sF (by rw [r_1]; rfl))
      have hE : Ex g (sF g1 h 24 (.int z_3)) := hE
      exact lt_m_call_b l D cI cZ cS cR N0 g h n k j x4 o0 r_h ko l_o0 u_o0 hw hB hr   (sF g1 h 24 (.int z_3)) z_3 n1 k1 H locs ls hT hI hE hM (by omega) (by omega) (by omega) (by omega) (by omega) (by omega) sF_eq (sF_k kp1 (by decide)) (lv_sub hl [1, 2, 3, 4, 5] rfl)
    · have c_2' : i.toInt < 20 := i_nle c_2 (by decide) rfl
      refine lv_aload_n hx hb dX7_call_65 rfl (lv_at hl 1 rfl) ?_
      obtain ⟨v_4, e_v_4, r_v_4, n_v_4⟩ := f_8_25 hI r_1
      refine t_get (ci := 7) (v := .ref v_4) hB hT (ro_ci r_1 rfl) rfl 25 (by decide) k_770 e_v_4 dX7_call_66 ?_
      refine lv_iload hx hb dX7_call_69 (lv_at hl 0 rfl) ?_
      refine lv_iconst (v := 1) hx hb dX7_call_71 (by decide) ?_
      refine lv_isub hx hb dX7_call_72 ?_
      refine lv_topi (fun z_5 ez_5 => ?_)
      have e_z_5 : z_5.toInt = i.toInt - 1 := i_sub ez_5 rfl (by decide) (by omega) (by omega)
      refine lv_aload_n hx hb dX7_call_73 rfl (lv_at hl 1 rfl) ?_
      refine t_get (ci := 7) (v := .ref v_4) hB hT (ro_ci r_1 rfl) rfl 25 (by decide) k_770 e_v_4 dX7_call_74 ?_
      refine lv_iload hx hb dX7_call_77 (lv_at hl 0 rfl) ?_
      have i_u_6 : vp_in i 20 := (i_in (n := 20) rfl (by omega) (by omega))
      refine t_iald hB hT (ro_in r_v_4 (by decide)) n_v_4 i_u_6 rfl dX7_call_79 ?_
      have c_u_6 := hI.c r_v_4 n_v_4 (i_cl i_u_6)
      refine lv_topi (fun u_6 e_u_6 => ?_)
      obtain ⟨l_u_6, u_u_6⟩ := c_u_6
      rw [← e_u_6] at l_u_6 u_u_6
      have i_7 : vp_in z_5 20 := (i_in (n := 20) rfl (by omega) (by omega))
      refine t_iast hB hT (ro_in r_v_4 (by decide)) n_v_4 i_7 dX7_call_80 (fun H locs hT => ?_)
      have hI : Inv (sC g1 v_4 z_5.toNatClampNeg u_6) := hI.sC (ck r_v_4 ⟨by omega, by omega⟩)
      have hM : Sm md_m_call g (sC g1 v_4 z_5.toNatClampNeg u_6) := hM.tr hE (Sm_sC (by rw [r_v_4]; rfl))
      have hE : Ex g (sC g1 v_4 z_5.toNatClampNeg u_6) := hE
      refine lv_aload_n hx hb dX7_call_81 rfl (lv_at hl 1 rfl) ?_
      obtain ⟨v_8, e_v_8, r_v_8, n_v_8⟩ := f_8_26 hI r_1
      refine t_get (ci := 7) (v := .ref v_8) hB hT (ro_ci r_1 rfl) rfl 26 (by decide) k_771 e_v_8 dX7_call_82 ?_
      refine lv_iload hx hb dX7_call_85 (lv_at hl 0 rfl) ?_
      refine lv_iconst (v := 1) hx hb dX7_call_87 (by decide) ?_
      refine lv_isub hx hb dX7_call_88 ?_
      refine lv_topi (fun z_9 ez_9 => ?_)
      have e_z_9 : z_9.toInt = i.toInt - 1 := i_sub ez_9 rfl (by decide) (by omega) (by omega)
      refine lv_aload_n hx hb dX7_call_89 rfl (lv_at hl 1 rfl) ?_
      refine t_get (ci := 7) (v := .ref v_8) hB hT (ro_ci r_1 rfl) rfl 26 (by decide) k_771 e_v_8 dX7_call_90 ?_
      refine lv_iload hx hb dX7_call_93 (lv_at hl 0 rfl) ?_
      have i_u_10 : vp_in i 20 := (i_in (n := 20) rfl (by omega) (by omega))
      refine t_iald hB hT (ro_in r_v_8 (by decide)) n_v_8 i_u_10 rfl dX7_call_95 ?_
      have c_u_10 := hI.c r_v_8 n_v_8 (i_cl i_u_10)
      refine lv_topi (fun u_10 e_u_10 => ?_)
      obtain ⟨l_u_10, u_u_10⟩ := c_u_10
      rw [← e_u_10] at l_u_10 u_u_10
      have i_11 : vp_in z_9 20 := (i_in (n := 20) rfl (by omega) (by omega))
      refine t_iast hB hT (ro_in r_v_8 (by decide)) n_v_8 i_11 dX7_call_96 (fun H locs hT => ?_)
      have hI : Inv (sC (sC g1 v_4 z_5.toNatClampNeg u_6) v_8 z_9.toNatClampNeg u_10) := hI.sC (ck r_v_8 ⟨by omega, by omega⟩)
      have hM : Sm md_m_call g (sC (sC g1 v_4 z_5.toNatClampNeg u_6) v_8 z_9.toNatClampNeg u_10) := hM.tr hE (Sm_sC (by rw [r_v_8]; rfl))
      have hE : Ex g (sC (sC g1 v_4 z_5.toNatClampNeg u_6) v_8 z_9.toNatClampNeg u_10) := hE
      refine lv_aload_n hx hb dX7_call_97 rfl (lv_at hl 1 rfl) ?_
      obtain ⟨v_12, e_v_12, r_v_12, n_v_12⟩ := f_8_27 hI r_1
      refine t_get (ci := 7) (v := .ref v_12) hB hT (ro_ci r_1 rfl) rfl 27 (by decide) k_772 e_v_12 dX7_call_98 ?_
      refine lv_iload hx hb dX7_call_101 (lv_at hl 0 rfl) ?_
      refine lv_iconst (v := 1) hx hb dX7_call_103 (by decide) ?_
      refine lv_isub hx hb dX7_call_104 ?_
      refine lv_topi (fun z_13 ez_13 => ?_)
      have e_z_13 : z_13.toInt = i.toInt - 1 := i_sub ez_13 rfl (by decide) (by omega) (by omega)
      refine lv_aload_n hx hb dX7_call_105 rfl (lv_at hl 1 rfl) ?_
      refine t_get (ci := 7) (v := .ref v_12) hB hT (ro_ci r_1 rfl) rfl 27 (by decide) k_772 e_v_12 dX7_call_106 ?_
      refine lv_iload hx hb dX7_call_109 (lv_at hl 0 rfl) ?_
      have i_u_14 : vp_in i 20 := (i_in (n := 20) rfl (by omega) (by omega))
      refine t_iald hB hT (ro_in r_v_12 (by decide)) n_v_12 i_u_14 rfl dX7_call_111 ?_
      refine lv_topi (fun u_14 e_u_14 => ?_)
      have i_15 : vp_in z_13 20 := (i_in (n := 20) rfl (by omega) (by omega))
      refine t_iast hB hT (ro_in r_v_12 (by decide)) n_v_12 i_15 dX7_call_112 (fun H locs hT => ?_)
      have hI : Inv (sC (sC (sC g1 v_4 z_5.toNatClampNeg u_6) v_8 z_9.toNatClampNeg u_10) v_12 z_13.toNatClampNeg u_14) := hI.sC (ck r_v_12 trivial)
      have hM : Sm md_m_call g (sC (sC (sC g1 v_4 z_5.toNatClampNeg u_6) v_8 z_9.toNatClampNeg u_10) v_12 z_13.toNatClampNeg u_14) := hM.tr hE (Sm_sC (by rw [r_v_12]; rfl))
      have hE : Ex g (sC (sC (sC g1 v_4 z_5.toNatClampNeg u_6) v_8 z_9.toNatClampNeg u_10) v_12 z_13.toNatClampNeg u_14) := hE
      obtain ⟨z_16, ez_16⟩ : ∃ z : Int32, z = i + 1 := ⟨_, rfl⟩
      have e_z_16 : z_16.toInt = i.toInt + 1 := i_add ez_16 rfl (by decide) (by omega) (by omega)
      refine lv_iinc (v := z_16) (lv' := [(5, .int z_16), (0, .ref h), (1, .int n1), (2, .int k1), (3, .int j), (4, .int x4)]) hx hb dX7_call_113 hl (k := 0) rfl (by rw [ez_16]; rfl) (by decide) rfl (fun ls hl => ?_)
      refine lv_goto (tgt := 58) hx hb dX7_call_116 (by decide) ?_
      exact ih (kf - 1) (by omega) (sC (sC (sC g1 v_4 z_5.toNatClampNeg u_6) v_8 z_9.toNatClampNeg u_10) v_12 z_13.toNatClampNeg u_14) z_16 lg n1 k1 H locs ls hT hI hE hM (by omega) (by omega) (by omega) (by omega) (by omega) (by omega) (by omega) (by omega) kp0 kp1 (by have e0_ : (0 : Int32).toInt = 0 := (by decide); omega) (lv_sub hl [0, 1, 2, 3, 4, 5] rfl)
set_option maxHeartbeats 4000000 in
set_option maxRecDepth 100000 in
theorem m_call (l : Launch) (D : va_G) (cI cZ cS cR : ClassId) (N0 : NT) (g : GS) (hI : Inv g) (h : Nat) (n : Int32) (k : Int32) (j : Int32) (x4 : Int32) (o0 : Int32) (r_h : g.1 h = 8) (ko : g.2.1 h 22 = .int o0) (l_o0 : 0 ≤ o0.toInt) (u_o0 : o0.toInt ≤ 999999940) (hw : PX 48 2 3 71 72 g h) : Ty l D cI cZ cS cR N0 yX7_call cX7_call 6 (some .int) 6 0 0 [.ref h, .int n, .int k, .int j, .int x4] g (fun v g' => ∃ (r : Int32) (o2 : Int32), v = some (.int r) ∧ Inv g' ∧ Ex g g' ∧ Sm md_m_call g g' ∧ (g'.2.1 h 22 = .int o2) ∧ (0 ≤ o2.toInt ∧ o2.toInt ≤ o0.toInt + 60)) := by
  refine t_enter (by decide) (Nat.le_of_ble_eq_true rfl) ?_
  intro p e s m args below meth c ls H locs hB hr hin hl hT
  have hx := hB.1
  have hb := hB.2.1
  have hl : lv_has ls 6 [(0, .ref h), (1, .int n), (2, .int k), (3, .int j), (4, .int x4)] := hl
  have hE : Ex g g := Ex.rf
  have hM : Sm md_m_call g g := Sm.rf
  refine lv_aload_n hx hb dX7_call_0 rfl (lv_at hl 0 rfl) ?_
  refine lv_iload_n hx hb dX7_call_1 rfl (lv_at hl 1 rfl) ?_
  obtain ⟨v_1, e_v_1, l_v_1, u_v_1⟩ := f_8_0 hI r_h
  refine t_callV (n := 1) (As := [.int n]) (rest := []) (ci := 7) hB hT hl.1 (m_isService l D cI cZ cS cR N0 g hI h n v_1 r_h e_v_1 (by omega) (by omega)) (ro_ci r_h rfl) rfl k_991 k_65 k_988 k_990 k_27 (by decide +kernel) ⟨(Nat.le_of_ble_eq_true rfl), (Nat.le_of_ble_eq_true rfl)⟩ rfl (Nat.le_of_ble_eq_true rfl) ⟨(Nat.le_of_ble_eq_true rfl), (Nat.le_of_ble_eq_true rfl)⟩ dX7_call_2 (fun v g_2 H locs hp hT => ?_)
  obtain ⟨r_3, rfl, eg, f_4⟩ := hp
  rw [eg] at hT
  clear eg
  refine W.eq (g2 := F0 m 5 ls [.int r_3]) rfl ?_
  rcases f_4 with ⟨rfl, hw_7, hw_8⟩ | ⟨rfl, hw_9⟩
  · refine W.eq (g2 := F0 m 5 ls [.int 1]) rfl ?_
    refine lv_if_ne (tgt := 11) hx hb dX7_call_5 (by decide) (fun c_ => ?_) (fun c_ => absurd c_ (by decide))
    refine lv_iload_n hx hb dX7_call_11 rfl (lv_at hl 2 rfl) ?_
    refine lv_iconst (v := 0) hx hb dX7_call_12 (by decide) ?_
    refine lv_sipush (v := 999) hx hb dX7_call_13 (by decide) ?_
    refine t_callS (n := 3) (As := [.int k, .int 0, .int 999]) (rest := []) hB hT hl.1 (m_in l D cI cZ cS cR N0 g hI k 0 999 ) k_954 k_65 k_952 k_953 (by decide +kernel) ⟨(Nat.le_of_ble_eq_true rfl), (Nat.le_of_ble_eq_true rfl)⟩ rfl (Nat.le_of_ble_eq_true rfl) ⟨(Nat.le_of_ble_eq_true rfl), (Nat.le_of_ble_eq_true rfl)⟩ dX7_call_16 (fun v g_10 H locs hp hT => ?_)
    obtain ⟨r_11, rfl, eg, f_12⟩ := hp
    rw [eg] at hT
    clear eg
    refine W.eq (g2 := F0 m 19 ls [.int r_11]) rfl ?_
    have qc_15 : (0 : Int32).toInt = 0 := (by decide)
    have qc_16 : (999 : Int32).toInt = 999 := (by decide)
    rcases f_12 with ⟨rfl, hw_17, hw_18⟩ | ⟨rfl, hw_19⟩
    · refine W.eq (g2 := F0 m 19 ls [.int 1]) rfl ?_
      refine lv_if_eq (tgt := 43) hx hb dX7_call_19 (by decide) (fun c_ => absurd c_ (by decide)) (fun c_ => ?_)
      refine lv_iload_n hx hb dX7_call_22 rfl (lv_at hl 3 rfl) ?_
      refine lv_iconst (v := 0) hx hb dX7_call_23 (by decide) ?_
      refine lv_bipush (v := 99) hx hb dX7_call_24 (by decide) ?_
      refine t_callS (n := 3) (As := [.int j, .int 0, .int 99]) (rest := []) hB hT hl.1 (m_in l D cI cZ cS cR N0 g hI j 0 99 ) k_954 k_65 k_952 k_953 (by decide +kernel) ⟨(Nat.le_of_ble_eq_true rfl), (Nat.le_of_ble_eq_true rfl)⟩ rfl (Nat.le_of_ble_eq_true rfl) ⟨(Nat.le_of_ble_eq_true rfl), (Nat.le_of_ble_eq_true rfl)⟩ dX7_call_26 (fun v g_20 H locs hp hT => ?_)
      obtain ⟨r_21, rfl, eg, f_22⟩ := hp
      rw [eg] at hT
      clear eg
      refine W.eq (g2 := F0 m 29 ls [.int r_21]) rfl ?_
      have qc_25 : (0 : Int32).toInt = 0 := (by decide)
      have qc_26 : (99 : Int32).toInt = 99 := (by decide)
      rcases f_22 with ⟨rfl, hw_27, hw_28⟩ | ⟨rfl, hw_29⟩
      · refine W.eq (g2 := F0 m 29 ls [.int 1]) rfl ?_
        refine lv_if_eq (tgt := 43) hx hb dX7_call_29 (by decide) (fun c_ => absurd c_ (by decide)) (fun c_ => ?_)
        refine lv_iload hx hb dX7_call_32 (lv_at hl 4 rfl) ?_
        refine lv_iconst (v := 0) hx hb dX7_call_34 (by decide) ?_
        refine lv_bipush (v := 99) hx hb dX7_call_35 (by decide) ?_
        refine t_callS (n := 3) (As := [.int x4, .int 0, .int 99]) (rest := []) hB hT hl.1 (m_in l D cI cZ cS cR N0 g hI x4 0 99 ) k_954 k_65 k_952 k_953 (by decide +kernel) ⟨(Nat.le_of_ble_eq_true rfl), (Nat.le_of_ble_eq_true rfl)⟩ rfl (Nat.le_of_ble_eq_true rfl) ⟨(Nat.le_of_ble_eq_true rfl), (Nat.le_of_ble_eq_true rfl)⟩ dX7_call_37 (fun v g_30 H locs hp hT => ?_)
        obtain ⟨r_31, rfl, eg, f_32⟩ := hp
        rw [eg] at hT
        clear eg
        refine W.eq (g2 := F0 m 40 ls [.int r_31]) rfl ?_
        have qc_35 : (0 : Int32).toInt = 0 := (by decide)
        have qc_36 : (99 : Int32).toInt = 99 := (by decide)
        rcases f_32 with ⟨rfl, hw_37, hw_38⟩ | ⟨rfl, hw_39⟩
        · refine W.eq (g2 := F0 m 40 ls [.int 1]) rfl ?_
          refine lv_if_ne (tgt := 46) hx hb dX7_call_40 (by decide) (fun c_ => ?_) (fun c_ => absurd c_ (by decide))
          refine lv_aload_n hx hb dX7_call_46 rfl (lv_at hl 0 rfl) ?_
          obtain ⟨v_40, e_v_40, l_v_40, u_v_40⟩ := f_8_24 hI r_h
          refine t_get (ci := 7) (v := .int v_40) hB hT (ro_ci r_h rfl) rfl 24 (by decide) k_769 e_v_40 dX7_call_47 ?_
          refine lv_bipush (v := 20) hx hb dX7_call_50 (by decide) ?_
          refine lv_icmp_ne (tgt := 129) hx hb dX7_call_52 (by decide) (fun c_41 => ?_) (fun c_41 => ?_)
          · have c_41' : v_40.toInt ≠ 20 := i_ne c_41 rfl (by decide)
            exact lt_m_call_b l D cI cZ cS cR N0 g h n k j x4 o0 r_h ko l_o0 u_o0 hw hB hr   g v_40 n k H locs ls hT hI hE hM (by omega) (by omega) (by omega) (by omega) (by omega) (by omega) e_v_40 ko (lv_sub hl [0, 1, 2, 3, 4] rfl)
          · have c_41' : v_40.toInt = 20 := i_eq c_41 rfl (by decide)
            refine lv_iconst (v := 1) hx hb dX7_call_55 (by decide) ?_
            refine lv_istore (lv' := [(5, .int 1), (0, .ref h), (1, .int n), (2, .int k), (3, .int j), (4, .int x4)]) hx hb dX7_call_56 hl (by decide) rfl (fun ls hl => ?_)
            exact lt_m_call_a l D cI cZ cS cR N0 g h n k j x4 o0 r_h ko l_o0 u_o0 hw hB hr   19 g (1 : Int32) v_40 n k H locs ls hT hI hE hM (by decide) (by decide) (by omega) (by omega) (by omega) (by omega) (by omega) (by omega) e_v_40 ko (by have e0_ : (0 : Int32).toInt = 0 := (by decide); have e1_ : (1 : Int32).toInt = 1 := (by decide); omega) (lv_sub hl [0, 1, 2, 3, 4, 5] rfl)
        · refine W.eq (g2 := F0 m 40 ls [.int 0]) rfl ?_
          refine lv_if_ne (tgt := 46) hx hb dX7_call_40 (by decide) (fun c_ => absurd (by decide) c_) (fun c_ => ?_)
          refine lv_bipush (v := (-4)) hx hb dX7_call_43 (by decide) ?_
          exact t_iret hB hr hT (Nat.le_of_ble_eq_true rfl) (Nat.le_of_ble_eq_true rfl) dX7_call_45 ⟨(-4), o0, rfl, hI, hE, hM, ko, (by omega)⟩
      · refine W.eq (g2 := F0 m 29 ls [.int 0]) rfl ?_
        refine lv_if_eq (tgt := 43) hx hb dX7_call_29 (by decide) (fun c_ => ?_) (fun c_ => absurd (by decide) c_)
        refine lv_bipush (v := (-4)) hx hb dX7_call_43 (by decide) ?_
        exact t_iret hB hr hT (Nat.le_of_ble_eq_true rfl) (Nat.le_of_ble_eq_true rfl) dX7_call_45 ⟨(-4), o0, rfl, hI, hE, hM, ko, (by omega)⟩
    · refine W.eq (g2 := F0 m 19 ls [.int 0]) rfl ?_
      refine lv_if_eq (tgt := 43) hx hb dX7_call_19 (by decide) (fun c_ => ?_) (fun c_ => absurd (by decide) c_)
      refine lv_bipush (v := (-4)) hx hb dX7_call_43 (by decide) ?_
      exact t_iret hB hr hT (Nat.le_of_ble_eq_true rfl) (Nat.le_of_ble_eq_true rfl) dX7_call_45 ⟨(-4), o0, rfl, hI, hE, hM, ko, (by omega)⟩
  · refine W.eq (g2 := F0 m 5 ls [.int 0]) rfl ?_
    refine lv_if_ne (tgt := 11) hx hb dX7_call_5 (by decide) (fun c_ => absurd (by decide) c_) (fun c_ => ?_)
    refine lv_bipush (v := (-3)) hx hb dX7_call_8 (by decide) ?_
    exact t_iret hB hr hT (Nat.le_of_ble_eq_true rfl) (Nat.le_of_ble_eq_true rfl) dX7_call_10 ⟨(-3), o0, rfl, hI, hE, hM, ko, (by omega)⟩
abbrev md_m_safe : Nat → Nat → Bool := mdf [(8, 21), (8, 49), (8, 50), (8, 51), (8, 52), (8, 60), (40, 99), (50, 99), (51, 99), (54, 99), (55, 99), (56, 99), (58, 99)]
theorem mdle_m_safe_m_isSafe {r k : Nat} (h : md_m_safe r k = false) : md_m_isSafe r k = false := mdf_le (by decide +kernel) h
theorem mdle_m_safe_m_once {r k : Nat} (h : md_m_safe r k = false) : md_m_once r k = false := mdf_le (by decide +kernel) h
set_option maxHeartbeats 4000000 in
set_option maxRecDepth 100000 in
theorem m_safe (l : Launch) (D : va_G) (cI cZ cS cR : ClassId) (N0 : NT) (g : GS) (hI : Inv g) (h : Nat) (n : Int32) (k : Int32) (j : Int32) (r_h : g.1 h = 8) (hw : PX 48 2 3 71 72 g h) : Ty l D cI cZ cS cR N0 yX7_safe cX7_safe 4 (some .int) 8 0 0 [.ref h, .int n, .int k, .int j] g (fun v g' => ∃ (r : Int32), v = some (.int r) ∧ Inv g' ∧ Ex g g' ∧ Sm md_m_safe g g') := by
  refine t_enter (by decide) (Nat.le_of_ble_eq_true rfl) ?_
  intro p e s m args below meth c ls H locs hB hr hin hl hT
  have hx := hB.1
  have hb := hB.2.1
  have hl : lv_has ls 4 [(0, .ref h), (1, .int n), (2, .int k), (3, .int j)] := hl
  have hE : Ex g g := Ex.rf
  have hM : Sm md_m_safe g g := Sm.rf
  refine lv_iload_n hx hb dX7_safe_0 rfl (lv_at hl 1 rfl) ?_
  refine lv_iconst (v := 0) hx hb dX7_safe_1 (by decide) ?_
  refine lv_aload_n hx hb dX7_safe_2 rfl (lv_at hl 0 rfl) ?_
  obtain ⟨v_1, e_v_1, l_v_1, u_v_1⟩ := f_8_30 hI r_h
  refine t_get (ci := 7) (v := .int v_1) hB hT (ro_ci r_h rfl) rfl 30 (by decide) k_775 e_v_1 dX7_safe_3 ?_
  refine lv_iconst (v := 1) hx hb dX7_safe_6 (by decide) ?_
  refine lv_isub hx hb dX7_safe_7 ?_
  refine lv_topi (fun z_2 ez_2 => ?_)
  have e_z_2 : z_2.toInt = v_1.toInt - 1 := i_sub ez_2 rfl (by decide) (by omega) (by omega)
  refine t_callS (n := 3) (As := [.int n, .int 0, .int z_2]) (rest := []) hB hT hl.1 (m_in l D cI cZ cS cR N0 g hI n 0 z_2 ) k_954 k_65 k_952 k_953 (by decide +kernel) ⟨(Nat.le_of_ble_eq_true rfl), (Nat.le_of_ble_eq_true rfl)⟩ rfl (Nat.le_of_ble_eq_true rfl) ⟨(Nat.le_of_ble_eq_true rfl), (Nat.le_of_ble_eq_true rfl)⟩ dX7_safe_8 (fun v g_3 H locs hp hT => ?_)
  obtain ⟨r_4, rfl, eg, f_5⟩ := hp
  rw [eg] at hT
  clear eg
  refine W.eq (g2 := F0 m 11 ls [.int r_4]) rfl ?_
  have qc_8 : (0 : Int32).toInt = 0 := (by decide)
  rcases f_5 with ⟨rfl, hw_9, hw_10⟩ | ⟨rfl, hw_11⟩
  · refine W.eq (g2 := F0 m 11 ls [.int 1]) rfl ?_
    refine lv_if_ne (tgt := 16) hx hb dX7_safe_11 (by decide) (fun c_ => ?_) (fun c_ => absurd c_ (by decide))
    refine lv_iload_n hx hb dX7_safe_16 rfl (lv_at hl 2 rfl) ?_
    refine lv_iconst (v := 0) hx hb dX7_safe_17 (by decide) ?_
    refine lv_aload_n hx hb dX7_safe_18 rfl (lv_at hl 0 rfl) ?_
    refine t_get (ci := 7) (v := .int v_1) hB hT (ro_ci r_h rfl) rfl 30 (by decide) k_775 e_v_1 dX7_safe_19 ?_
    refine lv_iconst (v := 1) hx hb dX7_safe_22 (by decide) ?_
    refine lv_isub hx hb dX7_safe_23 ?_
    refine lv_topi (fun z_12 ez_12 => ?_)
    have e_z_12 : z_12.toInt = v_1.toInt - 1 := i_sub ez_12 rfl (by decide) (by omega) (by omega)
    refine lv_iload_n hx hb dX7_safe_24 rfl (lv_at hl 1 rfl) ?_
    refine lv_isub hx hb dX7_safe_25 ?_
    refine lv_topi (fun z_13 ez_13 => ?_)
    have e_z_13 : z_13.toInt = z_12.toInt - n.toInt := i_sub ez_13 rfl rfl (by omega) (by omega)
    refine t_callS (n := 3) (As := [.int k, .int 0, .int z_13]) (rest := []) hB hT hl.1 (m_in l D cI cZ cS cR N0 g hI k 0 z_13 ) k_954 k_65 k_952 k_953 (by decide +kernel) ⟨(Nat.le_of_ble_eq_true rfl), (Nat.le_of_ble_eq_true rfl)⟩ rfl (Nat.le_of_ble_eq_true rfl) ⟨(Nat.le_of_ble_eq_true rfl), (Nat.le_of_ble_eq_true rfl)⟩ dX7_safe_26 (fun v g_14 H locs hp hT => ?_)
    obtain ⟨r_15, rfl, eg, f_16⟩ := hp
    rw [eg] at hT
    clear eg
    refine W.eq (g2 := F0 m 29 ls [.int r_15]) rfl ?_
    have qc_19 : (0 : Int32).toInt = 0 := (by decide)
    rcases f_16 with ⟨rfl, hw_20, hw_21⟩ | ⟨rfl, hw_22⟩
    · refine W.eq (g2 := F0 m 29 ls [.int 1]) rfl ?_
      refine lv_if_eq (tgt := 42) hx hb dX7_safe_29 (by decide) (fun c_ => absurd c_ (by decide)) (fun c_ => ?_)
      refine lv_iload_n hx hb dX7_safe_32 rfl (lv_at hl 3 rfl) ?_
      refine lv_iconst (v := 0) hx hb dX7_safe_33 (by decide) ?_
      refine lv_bipush (v := 99) hx hb dX7_safe_34 (by decide) ?_
      refine t_callS (n := 3) (As := [.int j, .int 0, .int 99]) (rest := []) hB hT hl.1 (m_in l D cI cZ cS cR N0 g hI j 0 99 ) k_954 k_65 k_952 k_953 (by decide +kernel) ⟨(Nat.le_of_ble_eq_true rfl), (Nat.le_of_ble_eq_true rfl)⟩ rfl (Nat.le_of_ble_eq_true rfl) ⟨(Nat.le_of_ble_eq_true rfl), (Nat.le_of_ble_eq_true rfl)⟩ dX7_safe_36 (fun v g_23 H locs hp hT => ?_)
      obtain ⟨r_24, rfl, eg, f_25⟩ := hp
      rw [eg] at hT
      clear eg
      refine W.eq (g2 := F0 m 39 ls [.int r_24]) rfl ?_
      have qc_28 : (0 : Int32).toInt = 0 := (by decide)
      have qc_29 : (99 : Int32).toInt = 99 := (by decide)
      rcases f_25 with ⟨rfl, hw_30, hw_31⟩ | ⟨rfl, hw_32⟩
      · refine W.eq (g2 := F0 m 39 ls [.int 1]) rfl ?_
        refine lv_if_ne (tgt := 45) hx hb dX7_safe_39 (by decide) (fun c_ => ?_) (fun c_ => absurd c_ (by decide))
        refine lv_aload_n hx hb dX7_safe_45 rfl (lv_at hl 0 rfl) ?_
        refine t_callV (n := 0) (As := []) (rest := []) (ci := 7) hB hT hl.1 (m_once l D cI cZ cS cR N0 g hI h r_h hw) (ro_ci r_h rfl) rfl k_1103 k_65 k_1100 k_1102 k_44 (by decide +kernel) ⟨(Nat.le_of_ble_eq_true rfl), (Nat.le_of_ble_eq_true rfl)⟩ rfl (Nat.le_of_ble_eq_true rfl) ⟨(Nat.le_of_ble_eq_true rfl), (Nat.le_of_ble_eq_true rfl)⟩ dX7_safe_46 (fun v g_33 H locs hp hT => ?_)
        obtain ⟨rfl, hI, x_35, m_34⟩ := hp
        have hM : Sm md_m_safe g g_33 := hM.tr hE (m_34.mo (fun r k h => mdle_m_safe_m_once h))
        have hE : Ex g g_33 := hE.tr x_35
        have r_36 : g_33.1 h = 8 := (Ex.r x_35 r_h (by decide))
        have kn_37 : g_33.2.1 h 30 = .int v_1 := (Sm.v m_34 r_h (by decide) rfl e_v_1)
        refine W.eq (g2 := F0 m 49 ls []) rfl ?_
        refine lv_aload_n hx hb dX7_safe_49 rfl (lv_at hl 0 rfl) ?_
        refine lv_iload_n hx hb dX7_safe_50 rfl (lv_at hl 1 rfl) ?_
        refine lv_iload_n hx hb dX7_safe_51 rfl (lv_at hl 2 rfl) ?_
        refine lv_iload_n hx hb dX7_safe_52 rfl (lv_at hl 3 rfl) ?_
        refine t_callV (n := 3) (As := [.int n, .int k, .int j]) (rest := []) (ci := 7) hB hT hl.1 (m_isSafe l D cI cZ cS cR N0 g_33 hI h n k j r_36 (by omega) (by omega) (hw.mono hM hE r_h (by decide) (by decide) rfl rfl rfl rfl)) (ro_ci r_36 rfl) rfl k_1115 k_65 k_1112 k_1114 k_47 (by decide +kernel) ⟨(Nat.le_of_ble_eq_true rfl), (Nat.le_of_ble_eq_true rfl)⟩ rfl (Nat.le_of_ble_eq_true rfl) ⟨(Nat.le_of_ble_eq_true rfl), (Nat.le_of_ble_eq_true rfl)⟩ dX7_safe_53 (fun v g_38 H locs hp hT => ?_)
        obtain ⟨r_39, rfl, hI, x_42, m_41, f_40⟩ := hp
        have hM : Sm md_m_safe g g_38 := hM.tr hE (m_41.mo (fun r k h => mdle_m_safe_m_isSafe h))
        have hE : Ex g g_38 := hE.tr x_42
        have r_43 : g_38.1 h = 8 := (Ex.r x_42 r_36 (by decide))
        have kn_44 : g_38.2.1 h 30 = .int v_1 := (Sm.v m_41 r_36 (by decide) rfl kn_37)
        refine W.eq (g2 := F0 m 56 ls [.int r_39]) rfl ?_
        rcases f_40 with rfl | rfl
        · refine W.eq (g2 := F0 m 56 ls [.int 1]) rfl ?_
          refine lv_if_eq (tgt := 63) hx hb dX7_safe_56 (by decide) (fun c_ => absurd c_ (by decide)) (fun c_ => ?_)
          refine lv_iconst (v := 1) hx hb dX7_safe_59 (by decide) ?_
          refine lv_goto (tgt := 64) hx hb dX7_safe_60 (by decide) ?_
          exact t_iret hB hr hT (Nat.le_of_ble_eq_true rfl) (Nat.le_of_ble_eq_true rfl) dX7_safe_64 ⟨1, rfl, hI, hE, hM⟩
        · refine W.eq (g2 := F0 m 56 ls [.int 0]) rfl ?_
          refine lv_if_eq (tgt := 63) hx hb dX7_safe_56 (by decide) (fun c_ => ?_) (fun c_ => absurd (by decide) c_)
          refine lv_iconst (v := 0) hx hb dX7_safe_63 (by decide) ?_
          exact t_iret hB hr hT (Nat.le_of_ble_eq_true rfl) (Nat.le_of_ble_eq_true rfl) dX7_safe_64 ⟨0, rfl, hI, hE, hM⟩
      · refine W.eq (g2 := F0 m 39 ls [.int 0]) rfl ?_
        refine lv_if_ne (tgt := 45) hx hb dX7_safe_39 (by decide) (fun c_ => absurd (by decide) c_) (fun c_ => ?_)
        refine lv_bipush (v := (-2)) hx hb dX7_safe_42 (by decide) ?_
        exact t_iret hB hr hT (Nat.le_of_ble_eq_true rfl) (Nat.le_of_ble_eq_true rfl) dX7_safe_44 ⟨(-2), rfl, hI, hE, hM⟩
    · refine W.eq (g2 := F0 m 29 ls [.int 0]) rfl ?_
      refine lv_if_eq (tgt := 42) hx hb dX7_safe_29 (by decide) (fun c_ => ?_) (fun c_ => absurd (by decide) c_)
      refine lv_bipush (v := (-2)) hx hb dX7_safe_42 (by decide) ?_
      exact t_iret hB hr hT (Nat.le_of_ble_eq_true rfl) (Nat.le_of_ble_eq_true rfl) dX7_safe_44 ⟨(-2), rfl, hI, hE, hM⟩
  · refine W.eq (g2 := F0 m 11 ls [.int 0]) rfl ?_
    refine lv_if_ne (tgt := 16) hx hb dX7_safe_11 (by decide) (fun c_ => absurd (by decide) c_) (fun c_ => ?_)
    refine lv_iconst (v := (-1)) hx hb dX7_safe_14 (by decide) ?_
    exact t_iret hB hr hT (Nat.le_of_ble_eq_true rfl) (Nat.le_of_ble_eq_true rfl) dX7_safe_15 ⟨(-1), rfl, hI, hE, hM⟩
abbrev md_m_worst : Nat → Nat → Bool := mdf [(8, 21), (8, 49), (8, 50), (8, 51), (8, 52), (8, 60), (40, 99), (50, 99), (51, 99), (54, 99), (55, 99), (56, 99), (58, 99)]
theorem mdle_m_worst_m_worstOf {r k : Nat} (h : md_m_worst r k = false) : md_m_worstOf r k = false := mdf_le (by decide +kernel) h
set_option maxHeartbeats 4000000 in
set_option maxRecDepth 100000 in
theorem m_worst (l : Launch) (D : va_G) (cI cZ cS cR : ClassId) (N0 : NT) (g : GS) (hI : Inv g) (h : Nat) (r_h : g.1 h = 8) (hw : PX 48 2 3 71 72 g h) : Ty l D cI cZ cS cR N0 yX7_worst cX7_worst 1 (some .int) 9 0 0 [.ref h] g (fun v g' => ∃ (r : Int32), v = some (.int r) ∧ Inv g' ∧ Ex g g' ∧ Sm md_m_worst g g') := by
  refine t_enter (by decide) (Nat.le_of_ble_eq_true rfl) ?_
  intro p e s m args below meth c ls H locs hB hr hin hl hT
  have hx := hB.1
  have hb := hB.2.1
  have hl : lv_has ls 1 [(0, .ref h)] := hl
  have hE : Ex g g := Ex.rf
  have hM : Sm md_m_worst g g := Sm.rf
  refine lv_aload_n hx hb dX7_worst_0 rfl (lv_at hl 0 rfl) ?_
  refine t_callV (n := 0) (As := []) (rest := []) (ci := 7) hB hT hl.1 (m_worstOf l D cI cZ cS cR N0 g hI h r_h hw) (ro_ci r_h rfl) rfl k_1123 k_65 k_1120 k_1122 k_48 (by decide +kernel) ⟨(Nat.le_of_ble_eq_true rfl), (Nat.le_of_ble_eq_true rfl)⟩ rfl (Nat.le_of_ble_eq_true rfl) ⟨(Nat.le_of_ble_eq_true rfl), (Nat.le_of_ble_eq_true rfl)⟩ dX7_worst_1 (fun v g_1 H locs hp hT => ?_)
  obtain ⟨r_2, rfl, hI, x_4, m_3⟩ := hp
  have hM : Sm md_m_worst g g_1 := hM.tr hE (m_3.mo (fun r k h => mdle_m_worst_m_worstOf h))
  have hE : Ex g g_1 := hE.tr x_4
  have r_5 : g_1.1 h = 8 := (Ex.r x_4 r_h (by decide))
  refine W.eq (g2 := F0 m 4 ls [.int r_2]) rfl ?_
  exact t_iret hB hr hT (Nat.le_of_ble_eq_true rfl) (Nat.le_of_ble_eq_true rfl) dX7_worst_4 ⟨r_2, rfl, hI, hE, hM⟩
