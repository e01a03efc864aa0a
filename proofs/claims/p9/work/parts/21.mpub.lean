theorem k_21 : Cond.selects RX7 yX7_reads yX7_reads ∈ tb := mt 21 (by decide +kernel) rfl
theorem k_26 : Cond.selects RX7 yX7_takes yX7_takes ∈ tb := mt 26 (by decide +kernel) rfl
theorem k_27 : Cond.selects RX7 yX7_isService yX7_isService ∈ tb := mt 27 (by decide +kernel) rfl
theorem k_28 : Cond.selects RX7 yX7_has yX7_has ∈ tb := mt 28 (by decide +kernel) rfl
theorem k_751 : Cond.fieldLink RX7 25 "TwiceOnceModel" "hold" "[I" ∈ tb := mt 751 (by decide +kernel) rfl
theorem k_752 : Cond.fieldLink RX7 28 "TwiceOnceModel" "store" "[I" ∈ tb := mt 752 (by decide +kernel) rfl
theorem k_759 : Cond.fieldLink RX7 49 "TwiceOnceModel" "tick" "[I" ∈ tb := mt 759 (by decide +kernel) rfl
theorem k_767 : Cond.fieldLink RX7 256 "TwiceOnceModel" "outs" "I" ∈ tb := mt 767 (by decide +kernel) rfl
theorem k_768 : Cond.fieldLink RX7 71 "TwiceOnceModel" "out" "[I" ∈ tb := mt 768 (by decide +kernel) rfl
theorem k_769 : Cond.fieldLink RX7 283 "TwiceOnceModel" "logged" "I" ∈ tb := mt 769 (by decide +kernel) rfl
theorem k_770 : Cond.fieldLink RX7 74 "TwiceOnceModel" "logS" "[I" ∈ tb := mt 770 (by decide +kernel) rfl
theorem k_771 : Cond.fieldLink RX7 77 "TwiceOnceModel" "logX" "[I" ∈ tb := mt 771 (by decide +kernel) rfl
theorem k_772 : Cond.fieldLink RX7 80 "TwiceOnceModel" "logKey" "[I" ∈ tb := mt 772 (by decide +kernel) rfl
theorem k_775 : Cond.fieldLink RX7 290 "TwiceOnceModel" "rows" "I" ∈ tb := mt 775 (by decide +kernel) rfl
theorem k_776 : Cond.fieldLink RX7 86 "TwiceOnceModel" "rowS" "[I" ∈ tb := mt 776 (by decide +kernel) rfl
theorem k_777 : Cond.fieldLink RX7 89 "TwiceOnceModel" "rowX" "[I" ∈ tb := mt 777 (by decide +kernel) rfl
theorem k_778 : Cond.fieldLink RX7 92 "TwiceOnceModel" "rowKey" "[I" ∈ tb := mt 778 (by decide +kernel) rfl
theorem k_779 : Cond.fieldLink RX7 293 "TwiceOnceModel" "isFree" "Z" ∈ tb := mt 779 (by decide +kernel) rfl
theorem k_780 : Cond.fieldLink RX7 95 "TwiceOnceModel" "price" "[I" ∈ tb := mt 780 (by decide +kernel) rfl
theorem k_960 : Cond.methodLink RX7 205 yX7_reads ∈ tb := mt 960 (by decide +kernel) rfl
theorem k_962 : Cond.instanceMethod yX7_reads ∈ tb := mt 962 (by decide +kernel) rfl
set_option maxRecDepth 20000 in
theorem k_963 : Cond.code yX7_reads cX7_reads 2 (some .boolean) ∈ tb := mt 963 rfl rfl
theorem k_980 : Cond.methodLink RX7 209 yX7_takes ∈ tb := mt 980 (by decide +kernel) rfl
theorem k_982 : Cond.instanceMethod yX7_takes ∈ tb := mt 982 (by decide +kernel) rfl
set_option maxRecDepth 20000 in
theorem k_983 : Cond.code yX7_takes cX7_takes 3 none ∈ tb := mt 983 rfl rfl
theorem k_988 : Cond.methodLink RX7 212 yX7_isService ∈ tb := mt 988 (by decide +kernel) rfl
theorem k_990 : Cond.instanceMethod yX7_isService ∈ tb := mt 990 (by decide +kernel) rfl
set_option maxRecDepth 20000 in
theorem k_991 : Cond.code yX7_isService cX7_isService 2 (some .boolean) ∈ tb := mt 991 rfl rfl
theorem k_996 : Cond.methodLink RX7 216 yX7_has ∈ tb := mt 996 (by decide +kernel) rfl
theorem k_998 : Cond.instanceMethod yX7_has ∈ tb := mt 998 (by decide +kernel) rfl
set_option maxRecDepth 20000 in
theorem k_999 : Cond.code yX7_has cX7_has 3 (some .boolean) ∈ tb := mt 999 rfl rfl
theorem dX7_service_0 : decode cX7_service 0 = .ok (.aload_n 0, 1) := by decide +kernel
theorem dX7_service_1 : decode cX7_service 1 = .ok (.getfield 167, 3) := by decide +kernel
theorem dX7_service_4 : decode cX7_service 4 = .ok (.bipush 6, 2) := by decide +kernel
theorem dX7_service_6 : decode cX7_service 6 = .ok (.if_icmp .ne 6, 3) := by decide +kernel
theorem dX7_service_12 : decode cX7_service 12 = .ok (.aload_n 0, 1) := by decide +kernel
theorem dX7_service_13 : decode cX7_service 13 = .ok (.invokevirtual 205, 3) := by decide +kernel
theorem dX7_service_16 : decode cX7_service 16 = .ok (.ifCond .ne 16, 3) := by decide +kernel
theorem dX7_service_32 : decode cX7_service 32 = .ok (.aload_n 0, 1) := by decide +kernel
theorem dX7_service_33 : decode cX7_service 33 = .ok (.aload_n 0, 1) := by decide +kernel
theorem dX7_service_34 : decode cX7_service 34 = .ok (.getfield 167, 3) := by decide +kernel
theorem dX7_service_37 : decode cX7_service 37 = .ok (.invokevirtual 209, 3) := by decide +kernel
theorem dX7_service_40 : decode cX7_service 40 = .ok (.aload_n 0, 1) := by decide +kernel
theorem dX7_service_41 : decode cX7_service 41 = .ok (.getfield 22, 3) := by decide +kernel
theorem dX7_service_44 : decode cX7_service 44 = .ok (.aload_n 0, 1) := by decide +kernel
theorem dX7_service_45 : decode cX7_service 45 = .ok (.getfield 167, 3) := by decide +kernel
theorem dX7_service_48 : decode cX7_service 48 = .ok (.iconst 0, 1) := by decide +kernel
theorem dX7_service_49 : decode cX7_service 49 = .ok (.iastore, 1) := by decide +kernel
theorem dX7_service_50 : decode cX7_service 50 = .ok (.aload_n 0, 1) := by decide +kernel
theorem dX7_service_51 : decode cX7_service 51 = .ok (.getfield 25, 3) := by decide +kernel
theorem dX7_service_54 : decode cX7_service 54 = .ok (.aload_n 0, 1) := by decide +kernel
theorem dX7_service_55 : decode cX7_service 55 = .ok (.getfield 167, 3) := by decide +kernel
theorem dX7_service_58 : decode cX7_service 58 = .ok (.bipush 10, 2) := by decide +kernel
theorem dX7_service_60 : decode cX7_service 60 = .ok (.iastore, 1) := by decide +kernel
theorem dX7_service_61 : decode cX7_service 61 = .ok (.aload_n 0, 1) := by decide +kernel
theorem dX7_service_62 : decode cX7_service 62 = .ok (.dup, 1) := by decide +kernel
theorem dX7_service_63 : decode cX7_service 63 = .ok (.getfield 167, 3) := by decide +kernel
theorem dX7_service_66 : decode cX7_service 66 = .ok (.iconst 1, 1) := by decide +kernel
theorem dX7_service_67 : decode cX7_service 67 = .ok (.iadd, 1) := by decide +kernel
theorem dX7_service_68 : decode cX7_service 68 = .ok (.putfield 167, 3) := by decide +kernel
theorem dX7_service_71 : decode cX7_service 71 = .ok (.aload_n 0, 1) := by decide +kernel
theorem dX7_service_72 : decode cX7_service 72 = .ok (.getfield 167, 3) := by decide +kernel
theorem dX7_service_75 : decode cX7_service 75 = .ok (.iconst 1, 1) := by decide +kernel
theorem dX7_service_76 : decode cX7_service 76 = .ok (.isub, 1) := by decide +kernel
theorem dX7_service_77 : decode cX7_service 77 = .ok (.ireturn, 1) := by decide +kernel
theorem dX7_service_19 : decode cX7_service 19 = .ok (.aload_n 0, 1) := by decide +kernel
theorem dX7_service_20 : decode cX7_service 20 = .ok (.iconst 0, 1) := by decide +kernel
theorem dX7_service_21 : decode cX7_service 21 = .ok (.putfield 175, 3) := by decide +kernel
theorem dX7_service_24 : decode cX7_service 24 = .ok (.bipush (-10), 2) := by decide +kernel
theorem dX7_service_26 : decode cX7_service 26 = .ok (.aload_n 0, 1) := by decide +kernel
theorem dX7_service_27 : decode cX7_service 27 = .ok (.getfield 184, 3) := by decide +kernel
theorem dX7_service_30 : decode cX7_service 30 = .ok (.isub, 1) := by decide +kernel
theorem dX7_service_31 : decode cX7_service 31 = .ok (.ireturn, 1) := by decide +kernel
theorem dX7_service_9 : decode cX7_service 9 = .ok (.bipush (-4), 2) := by decide +kernel
theorem dX7_service_11 : decode cX7_service 11 = .ok (.ireturn, 1) := by decide +kernel
theorem dX7_change_0 : decode cX7_change 0 = .ok (.aload_n 0, 1) := by decide +kernel
theorem dX7_change_1 : decode cX7_change 1 = .ok (.iload_n 1, 1) := by decide +kernel
theorem dX7_change_2 : decode cX7_change 2 = .ok (.invokevirtual 212, 3) := by decide +kernel
theorem dX7_change_5 : decode cX7_change 5 = .ok (.ifCond .ne 5, 3) := by decide +kernel
theorem dX7_change_10 : decode cX7_change 10 = .ok (.aload_n 0, 1) := by decide +kernel
theorem dX7_change_11 : decode cX7_change 11 = .ok (.invokevirtual 205, 3) := by decide +kernel
theorem dX7_change_14 : decode cX7_change 14 = .ok (.ifCond .ne 16, 3) := by decide +kernel
theorem dX7_change_30 : decode cX7_change 30 = .ok (.aload_n 0, 1) := by decide +kernel
theorem dX7_change_31 : decode cX7_change 31 = .ok (.iload_n 1, 1) := by decide +kernel
theorem dX7_change_32 : decode cX7_change 32 = .ok (.invokevirtual 209, 3) := by decide +kernel
theorem dX7_change_35 : decode cX7_change 35 = .ok (.aload_n 0, 1) := by decide +kernel
theorem dX7_change_36 : decode cX7_change 36 = .ok (.getfield 199, 3) := by decide +kernel
theorem dX7_change_39 : decode cX7_change 39 = .ok (.ireturn, 1) := by decide +kernel
theorem dX7_change_17 : decode cX7_change 17 = .ok (.aload_n 0, 1) := by decide +kernel
theorem dX7_change_18 : decode cX7_change 18 = .ok (.iconst 0, 1) := by decide +kernel
theorem dX7_change_19 : decode cX7_change 19 = .ok (.putfield 175, 3) := by decide +kernel
theorem dX7_change_22 : decode cX7_change 22 = .ok (.bipush (-10), 2) := by decide +kernel
theorem dX7_change_24 : decode cX7_change 24 = .ok (.aload_n 0, 1) := by decide +kernel
theorem dX7_change_25 : decode cX7_change 25 = .ok (.getfield 184, 3) := by decide +kernel
theorem dX7_change_28 : decode cX7_change 28 = .ok (.isub, 1) := by decide +kernel
theorem dX7_change_29 : decode cX7_change 29 = .ok (.ireturn, 1) := by decide +kernel
theorem dX7_change_8 : decode cX7_change 8 = .ok (.iconst (-1), 1) := by decide +kernel
theorem dX7_change_9 : decode cX7_change 9 = .ok (.ireturn, 1) := by decide +kernel
theorem dX7_row_0 : decode cX7_row 0 = .ok (.aload_n 0, 1) := by decide +kernel
theorem dX7_row_1 : decode cX7_row 1 = .ok (.iload_n 1, 1) := by decide +kernel
theorem dX7_row_2 : decode cX7_row 2 = .ok (.invokevirtual 212, 3) := by decide +kernel
theorem dX7_row_5 : decode cX7_row 5 = .ok (.ifCond .ne 5, 3) := by decide +kernel
theorem dX7_row_10 : decode cX7_row 10 = .ok (.iload_n 2, 1) := by decide +kernel
theorem dX7_row_11 : decode cX7_row 11 = .ok (.iconst 0, 1) := by decide +kernel
theorem dX7_row_12 : decode cX7_row 12 = .ok (.sipush 999, 3) := by decide +kernel
theorem dX7_row_15 : decode cX7_row 15 = .ok (.invokestatic 171, 3) := by decide +kernel
theorem dX7_row_18 : decode cX7_row 18 = .ok (.ifCond .eq 13, 3) := by decide +kernel
theorem dX7_row_21 : decode cX7_row 21 = .ok (.iload_n 3, 1) := by decide +kernel
theorem dX7_row_22 : decode cX7_row 22 = .ok (.iconst 0, 1) := by decide +kernel
theorem dX7_row_23 : decode cX7_row 23 = .ok (.bipush 99, 2) := by decide +kernel
theorem dX7_row_25 : decode cX7_row 25 = .ok (.invokestatic 171, 3) := by decide +kernel
theorem dX7_row_28 : decode cX7_row 28 = .ok (.ifCond .ne 6, 3) := by decide +kernel
theorem dX7_row_34 : decode cX7_row 34 = .ok (.aload_n 0, 1) := by decide +kernel
theorem dX7_row_35 : decode cX7_row 35 = .ok (.getfield 290, 3) := by decide +kernel
theorem dX7_row_38 : decode cX7_row 38 = .ok (.bipush 6, 2) := by decide +kernel
theorem dX7_row_40 : decode cX7_row 40 = .ok (.if_icmp .ne 6, 3) := by decide +kernel
theorem dX7_row_46 : decode cX7_row 46 = .ok (.aload_n 0, 1) := by decide +kernel
theorem dX7_row_47 : decode cX7_row 47 = .ok (.getfield 86, 3) := by decide +kernel
theorem dX7_row_50 : decode cX7_row 50 = .ok (.aload_n 0, 1) := by decide +kernel
theorem dX7_row_51 : decode cX7_row 51 = .ok (.getfield 290, 3) := by decide +kernel
theorem dX7_row_54 : decode cX7_row 54 = .ok (.iload_n 1, 1) := by decide +kernel
theorem dX7_row_55 : decode cX7_row 55 = .ok (.iastore, 1) := by decide +kernel
theorem dX7_row_56 : decode cX7_row 56 = .ok (.aload_n 0, 1) := by decide +kernel
theorem dX7_row_57 : decode cX7_row 57 = .ok (.getfield 89, 3) := by decide +kernel
theorem dX7_row_60 : decode cX7_row 60 = .ok (.aload_n 0, 1) := by decide +kernel
theorem dX7_row_61 : decode cX7_row 61 = .ok (.getfield 290, 3) := by decide +kernel
theorem dX7_row_64 : decode cX7_row 64 = .ok (.iload_n 2, 1) := by decide +kernel
theorem dX7_row_65 : decode cX7_row 65 = .ok (.iastore, 1) := by decide +kernel
theorem dX7_row_66 : decode cX7_row 66 = .ok (.aload_n 0, 1) := by decide +kernel
theorem dX7_row_67 : decode cX7_row 67 = .ok (.getfield 92, 3) := by decide +kernel
theorem dX7_row_70 : decode cX7_row 70 = .ok (.aload_n 0, 1) := by decide +kernel
theorem dX7_row_71 : decode cX7_row 71 = .ok (.getfield 290, 3) := by decide +kernel
theorem dX7_row_74 : decode cX7_row 74 = .ok (.iload_n 3, 1) := by decide +kernel
theorem dX7_row_75 : decode cX7_row 75 = .ok (.iastore, 1) := by decide +kernel
theorem dX7_row_76 : decode cX7_row 76 = .ok (.aload_n 0, 1) := by decide +kernel
theorem dX7_row_77 : decode cX7_row 77 = .ok (.dup, 1) := by decide +kernel
theorem dX7_row_78 : decode cX7_row 78 = .ok (.getfield 290, 3) := by decide +kernel
theorem dX7_row_81 : decode cX7_row 81 = .ok (.iconst 1, 1) := by decide +kernel
theorem dX7_row_82 : decode cX7_row 82 = .ok (.iadd, 1) := by decide +kernel
theorem dX7_row_83 : decode cX7_row 83 = .ok (.putfield 290, 3) := by decide +kernel
theorem dX7_row_86 : decode cX7_row 86 = .ok (.aload_n 0, 1) := by decide +kernel
theorem dX7_row_87 : decode cX7_row 87 = .ok (.getfield 290, 3) := by decide +kernel
theorem dX7_row_90 : decode cX7_row 90 = .ok (.ireturn, 1) := by decide +kernel
theorem dX7_row_43 : decode cX7_row 43 = .ok (.bipush (-4), 2) := by decide +kernel
theorem dX7_row_45 : decode cX7_row 45 = .ok (.ireturn, 1) := by decide +kernel
theorem dX7_row_31 : decode cX7_row 31 = .ok (.bipush (-2), 2) := by decide +kernel
theorem dX7_row_33 : decode cX7_row 33 = .ok (.ireturn, 1) := by decide +kernel
theorem dX7_row_8 : decode cX7_row 8 = .ok (.iconst (-1), 1) := by decide +kernel
theorem dX7_row_9 : decode cX7_row 9 = .ok (.ireturn, 1) := by decide +kernel
theorem dX7_clear_0 : decode cX7_clear 0 = .ok (.aload_n 0, 1) := by decide +kernel
theorem dX7_clear_1 : decode cX7_clear 1 = .ok (.getfield 290, 3) := by decide +kernel
theorem dX7_clear_4 : decode cX7_clear 4 = .ok (.istore_n 1, 1) := by decide +kernel
theorem dX7_clear_5 : decode cX7_clear 5 = .ok (.aload_n 0, 1) := by decide +kernel
theorem dX7_clear_6 : decode cX7_clear 6 = .ok (.iconst 0, 1) := by decide +kernel
theorem dX7_clear_7 : decode cX7_clear 7 = .ok (.putfield 290, 3) := by decide +kernel
theorem dX7_clear_10 : decode cX7_clear 10 = .ok (.iload_n 1, 1) := by decide +kernel
theorem dX7_clear_11 : decode cX7_clear 11 = .ok (.ireturn, 1) := by decide +kernel
theorem dX7_act_0 : decode cX7_act 0 = .ok (.aload_n 0, 1) := by decide +kernel
theorem dX7_act_1 : decode cX7_act 1 = .ok (.iload_n 1, 1) := by decide +kernel
theorem dX7_act_2 : decode cX7_act 2 = .ok (.invokevirtual 212, 3) := by decide +kernel
theorem dX7_act_5 : decode cX7_act 5 = .ok (.ifCond .eq 19, 3) := by decide +kernel
theorem dX7_act_8 : decode cX7_act 8 = .ok (.iload_n 2, 1) := by decide +kernel
theorem dX7_act_9 : decode cX7_act 9 = .ok (.iconst 0, 1) := by decide +kernel
theorem dX7_act_10 : decode cX7_act 10 = .ok (.aload_n 0, 1) := by decide +kernel
theorem dX7_act_11 : decode cX7_act 11 = .ok (.getfield 7, 3) := by decide +kernel
theorem dX7_act_14 : decode cX7_act 14 = .ok (.iload_n 1, 1) := by decide +kernel
theorem dX7_act_15 : decode cX7_act 15 = .ok (.iaload, 1) := by decide +kernel
theorem dX7_act_16 : decode cX7_act 16 = .ok (.iconst 1, 1) := by decide +kernel
theorem dX7_act_17 : decode cX7_act 17 = .ok (.isub, 1) := by decide +kernel
theorem dX7_act_18 : decode cX7_act 18 = .ok (.invokestatic 171, 3) := by decide +kernel
theorem dX7_act_21 : decode cX7_act 21 = .ok (.ifCond .ne 5, 3) := by decide +kernel
theorem dX7_act_26 : decode cX7_act 26 = .ok (.bipush 8, 2) := by decide +kernel
theorem dX7_act_28 : decode cX7_act 28 = .ok (.iload_n 1, 1) := by decide +kernel
theorem dX7_act_29 : decode cX7_act 29 = .ok (.imul, 1) := by decide +kernel
theorem dX7_act_30 : decode cX7_act 30 = .ok (.iload_n 2, 1) := by decide +kernel
theorem dX7_act_31 : decode cX7_act 31 = .ok (.iadd, 1) := by decide +kernel
theorem dX7_act_32 : decode cX7_act 32 = .ok (.istore 4, 2) := by decide +kernel
theorem dX7_act_34 : decode cX7_act 34 = .ok (.iload_n 3, 1) := by decide +kernel
theorem dX7_act_35 : decode cX7_act 35 = .ok (.ifCond .ne 13, 3) := by decide +kernel
theorem dX7_act_48 : decode cX7_act 48 = .ok (.iload_n 3, 1) := by decide +kernel
theorem dX7_act_49 : decode cX7_act 49 = .ok (.iconst 1, 1) := by decide +kernel
theorem dX7_act_50 : decode cX7_act 50 = .ok (.if_icmp .ne 13, 3) := by decide +kernel
theorem dX7_act_63 : decode cX7_act 63 = .ok (.iload_n 3, 1) := by decide +kernel
theorem dX7_act_64 : decode cX7_act 64 = .ok (.iconst 2, 1) := by decide +kernel
theorem dX7_act_65 : decode cX7_act 65 = .ok (.if_icmp .ne 13, 3) := by decide +kernel
theorem dX7_act_78 : decode cX7_act 78 = .ok (.iconst (-1), 1) := by decide +kernel
theorem dX7_act_79 : decode cX7_act 79 = .ok (.ireturn, 1) := by decide +kernel
theorem dX7_act_68 : decode cX7_act 68 = .ok (.aload_n 0, 1) := by decide +kernel
theorem dX7_act_69 : decode cX7_act 69 = .ok (.getfield 19, 3) := by decide +kernel
theorem dX7_act_72 : decode cX7_act 72 = .ok (.iload 4, 2) := by decide +kernel
theorem dX7_act_74 : decode cX7_act 74 = .ok (.iaload, 1) := by decide +kernel
theorem dX7_act_75 : decode cX7_act 75 = .ok (.goto 4, 3) := by decide +kernel
theorem dX7_act_53 : decode cX7_act 53 = .ok (.aload_n 0, 1) := by decide +kernel
theorem dX7_act_54 : decode cX7_act 54 = .ok (.getfield 16, 3) := by decide +kernel
theorem dX7_act_57 : decode cX7_act 57 = .ok (.iload 4, 2) := by decide +kernel
theorem dX7_act_59 : decode cX7_act 59 = .ok (.iaload, 1) := by decide +kernel
theorem dX7_act_60 : decode cX7_act 60 = .ok (.goto 19, 3) := by decide +kernel
theorem dX7_act_38 : decode cX7_act 38 = .ok (.aload_n 0, 1) := by decide +kernel
theorem dX7_act_39 : decode cX7_act 39 = .ok (.getfield 13, 3) := by decide +kernel
theorem dX7_act_42 : decode cX7_act 42 = .ok (.iload 4, 2) := by decide +kernel
theorem dX7_act_44 : decode cX7_act 44 = .ok (.iaload, 1) := by decide +kernel
theorem dX7_act_45 : decode cX7_act 45 = .ok (.goto 34, 3) := by decide +kernel
theorem dX7_act_24 : decode cX7_act 24 = .ok (.iconst (-1), 1) := by decide +kernel
theorem dX7_act_25 : decode cX7_act 25 = .ok (.ireturn, 1) := by decide +kernel
theorem dX7_mend_0 : decode cX7_mend 0 = .ok (.aload_n 0, 1) := by decide +kernel
theorem dX7_mend_1 : decode cX7_mend 1 = .ok (.iload_n 1, 1) := by decide +kernel
theorem dX7_mend_2 : decode cX7_mend 2 = .ok (.invokevirtual 212, 3) := by decide +kernel
theorem dX7_mend_5 : decode cX7_mend 5 = .ok (.ifCond .eq 12, 3) := by decide +kernel
theorem dX7_mend_8 : decode cX7_mend 8 = .ok (.iload_n 2, 1) := by decide +kernel
theorem dX7_mend_9 : decode cX7_mend 9 = .ok (.iconst 0, 1) := by decide +kernel
theorem dX7_mend_10 : decode cX7_mend 10 = .ok (.iconst 3, 1) := by decide +kernel
theorem dX7_mend_11 : decode cX7_mend 11 = .ok (.invokestatic 171, 3) := by decide +kernel
theorem dX7_mend_14 : decode cX7_mend 14 = .ok (.ifCond .ne 5, 3) := by decide +kernel
theorem dX7_mend_19 : decode cX7_mend 19 = .ok (.iload_n 3, 1) := by decide +kernel
theorem dX7_mend_20 : decode cX7_mend 20 = .ok (.iconst 0, 1) := by decide +kernel
theorem dX7_mend_21 : decode cX7_mend 21 = .ok (.iconst 1, 1) := by decide +kernel
theorem dX7_mend_22 : decode cX7_mend 22 = .ok (.invokestatic 171, 3) := by decide +kernel
theorem dX7_mend_25 : decode cX7_mend 25 = .ok (.ifCond .ne 6, 3) := by decide +kernel
theorem dX7_mend_31 : decode cX7_mend 31 = .ok (.aload_n 0, 1) := by decide +kernel
theorem dX7_mend_32 : decode cX7_mend 32 = .ok (.iload_n 1, 1) := by decide +kernel
theorem dX7_mend_33 : decode cX7_mend 33 = .ok (.iload_n 2, 1) := by decide +kernel
theorem dX7_mend_34 : decode cX7_mend 34 = .ok (.invokevirtual 216, 3) := by decide +kernel
theorem dX7_mend_37 : decode cX7_mend 37 = .ok (.ifCond .eq 7, 3) := by decide +kernel
theorem dX7_mend_40 : decode cX7_mend 40 = .ok (.iconst 1, 1) := by decide +kernel
theorem dX7_mend_41 : decode cX7_mend 41 = .ok (.goto 4, 3) := by decide +kernel
theorem dX7_mend_45 : decode cX7_mend 45 = .ok (.istore 4, 2) := by decide +kernel
theorem dX7_mend_47 : decode cX7_mend 47 = .ok (.aload_n 0, 1) := by decide +kernel
theorem dX7_mend_48 : decode cX7_mend 48 = .ok (.getfield 22, 3) := by decide +kernel
theorem dX7_mend_51 : decode cX7_mend 51 = .ok (.iload_n 1, 1) := by decide +kernel
theorem dX7_mend_52 : decode cX7_mend 52 = .ok (.iload_n 3, 1) := by decide +kernel
theorem dX7_mend_53 : decode cX7_mend 53 = .ok (.iconst 1, 1) := by decide +kernel
theorem dX7_mend_54 : decode cX7_mend 54 = .ok (.if_icmp .ne 16, 3) := by decide +kernel
theorem dX7_mend_70 : decode cX7_mend 70 = .ok (.aload_n 0, 1) := by decide +kernel
theorem dX7_mend_71 : decode cX7_mend 71 = .ok (.getfield 22, 3) := by decide +kernel
theorem dX7_mend_74 : decode cX7_mend 74 = .ok (.iload_n 1, 1) := by decide +kernel
theorem dX7_mend_75 : decode cX7_mend 75 = .ok (.iaload, 1) := by decide +kernel
theorem dX7_mend_76 : decode cX7_mend 76 = .ok (.iconst 1, 1) := by decide +kernel
theorem dX7_mend_77 : decode cX7_mend 77 = .ok (.iload_n 2, 1) := by decide +kernel
theorem dX7_mend_78 : decode cX7_mend 78 = .ok (.ishl, 1) := by decide +kernel
theorem dX7_mend_79 : decode cX7_mend 79 = .ok (.iconst (-1), 1) := by decide +kernel
theorem dX7_mend_80 : decode cX7_mend 80 = .ok (.ixor, 1) := by decide +kernel
theorem dX7_mend_81 : decode cX7_mend 81 = .ok (.iand, 1) := by decide +kernel
theorem dX7_mend_82 : decode cX7_mend 82 = .ok (.iastore, 1) := by decide +kernel
theorem dX7_mend_83 : decode cX7_mend 83 = .ok (.iload 4, 2) := by decide +kernel
theorem dX7_mend_85 : decode cX7_mend 85 = .ok (.ireturn, 1) := by decide +kernel
theorem dX7_mend_57 : decode cX7_mend 57 = .ok (.aload_n 0, 1) := by decide +kernel
theorem dX7_mend_58 : decode cX7_mend 58 = .ok (.getfield 22, 3) := by decide +kernel
theorem dX7_mend_61 : decode cX7_mend 61 = .ok (.iload_n 1, 1) := by decide +kernel
theorem dX7_mend_62 : decode cX7_mend 62 = .ok (.iaload, 1) := by decide +kernel
theorem dX7_mend_63 : decode cX7_mend 63 = .ok (.iconst 1, 1) := by decide +kernel
theorem dX7_mend_64 : decode cX7_mend 64 = .ok (.iload_n 2, 1) := by decide +kernel
theorem dX7_mend_65 : decode cX7_mend 65 = .ok (.ishl, 1) := by decide +kernel
theorem dX7_mend_66 : decode cX7_mend 66 = .ok (.ior, 1) := by decide +kernel
theorem dX7_mend_67 : decode cX7_mend 67 = .ok (.goto 15, 3) := by decide +kernel
theorem dX7_mend_44 : decode cX7_mend 44 = .ok (.iconst 0, 1) := by decide +kernel
theorem dX7_mend_28 : decode cX7_mend 28 = .ok (.bipush (-2), 2) := by decide +kernel
theorem dX7_mend_30 : decode cX7_mend 30 = .ok (.ireturn, 1) := by decide +kernel
theorem dX7_mend_17 : decode cX7_mend 17 = .ok (.iconst (-1), 1) := by decide +kernel
theorem dX7_mend_18 : decode cX7_mend 18 = .ok (.ireturn, 1) := by decide +kernel
theorem dX7_hold_0 : decode cX7_hold 0 = .ok (.aload_n 0, 1) := by decide +kernel
theorem dX7_hold_1 : decode cX7_hold 1 = .ok (.iload_n 1, 1) := by decide +kernel
theorem dX7_hold_2 : decode cX7_hold 2 = .ok (.invokevirtual 212, 3) := by decide +kernel
theorem dX7_hold_5 : decode cX7_hold 5 = .ok (.ifCond .ne 5, 3) := by decide +kernel
theorem dX7_hold_10 : decode cX7_hold 10 = .ok (.iload_n 2, 1) := by decide +kernel
theorem dX7_hold_11 : decode cX7_hold 11 = .ok (.iconst 0, 1) := by decide +kernel
theorem dX7_hold_12 : decode cX7_hold 12 = .ok (.bipush 99, 2) := by decide +kernel
theorem dX7_hold_14 : decode cX7_hold 14 = .ok (.invokestatic 171, 3) := by decide +kernel
theorem dX7_hold_17 : decode cX7_hold 17 = .ok (.ifCond .ne 6, 3) := by decide +kernel
theorem dX7_hold_23 : decode cX7_hold 23 = .ok (.aload_n 0, 1) := by decide +kernel
theorem dX7_hold_24 : decode cX7_hold 24 = .ok (.getfield 25, 3) := by decide +kernel
theorem dX7_hold_27 : decode cX7_hold 27 = .ok (.iload_n 1, 1) := by decide +kernel
theorem dX7_hold_28 : decode cX7_hold 28 = .ok (.iaload, 1) := by decide +kernel
theorem dX7_hold_29 : decode cX7_hold 29 = .ok (.istore_n 3, 1) := by decide +kernel
theorem dX7_hold_30 : decode cX7_hold 30 = .ok (.aload_n 0, 1) := by decide +kernel
theorem dX7_hold_31 : decode cX7_hold 31 = .ok (.getfield 25, 3) := by decide +kernel
theorem dX7_hold_34 : decode cX7_hold 34 = .ok (.iload_n 1, 1) := by decide +kernel
theorem dX7_hold_35 : decode cX7_hold 35 = .ok (.iload_n 2, 1) := by decide +kernel
theorem dX7_hold_36 : decode cX7_hold 36 = .ok (.iastore, 1) := by decide +kernel
theorem dX7_hold_37 : decode cX7_hold 37 = .ok (.iload_n 3, 1) := by decide +kernel
theorem dX7_hold_38 : decode cX7_hold 38 = .ok (.ireturn, 1) := by decide +kernel
theorem dX7_hold_20 : decode cX7_hold 20 = .ok (.bipush (-2), 2) := by decide +kernel
theorem dX7_hold_22 : decode cX7_hold 22 = .ok (.ireturn, 1) := by decide +kernel
theorem dX7_hold_8 : decode cX7_hold 8 = .ok (.iconst (-1), 1) := by decide +kernel
theorem dX7_hold_9 : decode cX7_hold 9 = .ok (.ireturn, 1) := by decide +kernel
theorem dX7_set_0 : decode cX7_set 0 = .ok (.aload_n 0, 1) := by decide +kernel
theorem dX7_set_1 : decode cX7_set 1 = .ok (.iload_n 1, 1) := by decide +kernel
theorem dX7_set_2 : decode cX7_set 2 = .ok (.invokevirtual 212, 3) := by decide +kernel
theorem dX7_set_5 : decode cX7_set 5 = .ok (.ifCond .eq 12, 3) := by decide +kernel
theorem dX7_set_8 : decode cX7_set 8 = .ok (.iload_n 2, 1) := by decide +kernel
theorem dX7_set_9 : decode cX7_set 9 = .ok (.iconst 0, 1) := by decide +kernel
theorem dX7_set_10 : decode cX7_set 10 = .ok (.iconst 3, 1) := by decide +kernel
theorem dX7_set_11 : decode cX7_set 11 = .ok (.invokestatic 171, 3) := by decide +kernel
theorem dX7_set_14 : decode cX7_set 14 = .ok (.ifCond .ne 5, 3) := by decide +kernel
theorem dX7_set_19 : decode cX7_set 19 = .ok (.iload_n 3, 1) := by decide +kernel
theorem dX7_set_20 : decode cX7_set 20 = .ok (.iconst 0, 1) := by decide +kernel
theorem dX7_set_21 : decode cX7_set 21 = .ok (.sipush 999, 3) := by decide +kernel
theorem dX7_set_24 : decode cX7_set 24 = .ok (.invokestatic 171, 3) := by decide +kernel
theorem dX7_set_27 : decode cX7_set 27 = .ok (.ifCond .ne 6, 3) := by decide +kernel
theorem dX7_set_33 : decode cX7_set 33 = .ok (.aload_n 0, 1) := by decide +kernel
theorem dX7_set_34 : decode cX7_set 34 = .ok (.getfield 28, 3) := by decide +kernel
theorem dX7_set_37 : decode cX7_set 37 = .ok (.iconst 4, 1) := by decide +kernel
theorem dX7_set_38 : decode cX7_set 38 = .ok (.iload_n 1, 1) := by decide +kernel
theorem dX7_set_39 : decode cX7_set 39 = .ok (.imul, 1) := by decide +kernel
theorem dX7_set_40 : decode cX7_set 40 = .ok (.iload_n 2, 1) := by decide +kernel
theorem dX7_set_41 : decode cX7_set 41 = .ok (.iadd, 1) := by decide +kernel
theorem dX7_set_42 : decode cX7_set 42 = .ok (.iaload, 1) := by decide +kernel
theorem dX7_set_43 : decode cX7_set 43 = .ok (.istore 4, 2) := by decide +kernel
theorem dX7_set_45 : decode cX7_set 45 = .ok (.aload_n 0, 1) := by decide +kernel
theorem dX7_set_46 : decode cX7_set 46 = .ok (.getfield 28, 3) := by decide +kernel
theorem dX7_set_49 : decode cX7_set 49 = .ok (.iconst 4, 1) := by decide +kernel
theorem dX7_set_50 : decode cX7_set 50 = .ok (.iload_n 1, 1) := by decide +kernel
theorem dX7_set_51 : decode cX7_set 51 = .ok (.imul, 1) := by decide +kernel
theorem dX7_set_52 : decode cX7_set 52 = .ok (.iload_n 2, 1) := by decide +kernel
theorem dX7_set_53 : decode cX7_set 53 = .ok (.iadd, 1) := by decide +kernel
theorem dX7_set_54 : decode cX7_set 54 = .ok (.iload_n 3, 1) := by decide +kernel
theorem dX7_set_55 : decode cX7_set 55 = .ok (.iastore, 1) := by decide +kernel
theorem dX7_set_56 : decode cX7_set 56 = .ok (.iload 4, 2) := by decide +kernel
theorem dX7_set_58 : decode cX7_set 58 = .ok (.ireturn, 1) := by decide +kernel
theorem dX7_set_30 : decode cX7_set 30 = .ok (.bipush (-2), 2) := by decide +kernel
theorem dX7_set_32 : decode cX7_set 32 = .ok (.ireturn, 1) := by decide +kernel
theorem dX7_set_17 : decode cX7_set 17 = .ok (.iconst (-1), 1) := by decide +kernel
theorem dX7_set_18 : decode cX7_set 18 = .ok (.ireturn, 1) := by decide +kernel
theorem dX7_price_0 : decode cX7_price 0 = .ok (.iload_n 1, 1) := by decide +kernel
theorem dX7_price_1 : decode cX7_price 1 = .ok (.iconst 0, 1) := by decide +kernel
theorem dX7_price_2 : decode cX7_price 2 = .ok (.iconst 3, 1) := by decide +kernel
theorem dX7_price_3 : decode cX7_price 3 = .ok (.invokestatic 171, 3) := by decide +kernel
theorem dX7_price_6 : decode cX7_price 6 = .ok (.ifCond .ne 5, 3) := by decide +kernel
theorem dX7_price_11 : decode cX7_price 11 = .ok (.iload_n 2, 1) := by decide +kernel
theorem dX7_price_12 : decode cX7_price 12 = .ok (.iconst 0, 1) := by decide +kernel
theorem dX7_price_13 : decode cX7_price 13 = .ok (.bipush 99, 2) := by decide +kernel
theorem dX7_price_15 : decode cX7_price 15 = .ok (.invokestatic 171, 3) := by decide +kernel
theorem dX7_price_18 : decode cX7_price 18 = .ok (.ifCond .ne 6, 3) := by decide +kernel
theorem dX7_price_24 : decode cX7_price 24 = .ok (.aload_n 0, 1) := by decide +kernel
theorem dX7_price_25 : decode cX7_price 25 = .ok (.getfield 95, 3) := by decide +kernel
theorem dX7_price_28 : decode cX7_price 28 = .ok (.iload_n 1, 1) := by decide +kernel
theorem dX7_price_29 : decode cX7_price 29 = .ok (.iaload, 1) := by decide +kernel
theorem dX7_price_30 : decode cX7_price 30 = .ok (.istore_n 3, 1) := by decide +kernel
theorem dX7_price_31 : decode cX7_price 31 = .ok (.aload_n 0, 1) := by decide +kernel
theorem dX7_price_32 : decode cX7_price 32 = .ok (.getfield 95, 3) := by decide +kernel
theorem dX7_price_35 : decode cX7_price 35 = .ok (.iload_n 1, 1) := by decide +kernel
theorem dX7_price_36 : decode cX7_price 36 = .ok (.iload_n 2, 1) := by decide +kernel
theorem dX7_price_37 : decode cX7_price 37 = .ok (.iastore, 1) := by decide +kernel
theorem dX7_price_38 : decode cX7_price 38 = .ok (.iload_n 3, 1) := by decide +kernel
theorem dX7_price_39 : decode cX7_price 39 = .ok (.ireturn, 1) := by decide +kernel
theorem dX7_price_21 : decode cX7_price 21 = .ok (.bipush (-2), 2) := by decide +kernel
theorem dX7_price_23 : decode cX7_price 23 = .ok (.ireturn, 1) := by decide +kernel
theorem dX7_price_9 : decode cX7_price 9 = .ok (.iconst (-1), 1) := by decide +kernel
theorem dX7_price_10 : decode cX7_price 10 = .ok (.ireturn, 1) := by decide +kernel
theorem dX7_log_0 : decode cX7_log 0 = .ok (.iload_n 1, 1) := by decide +kernel
theorem dX7_log_1 : decode cX7_log 1 = .ok (.iconst 0, 1) := by decide +kernel
theorem dX7_log_2 : decode cX7_log 2 = .ok (.aload_n 0, 1) := by decide +kernel
theorem dX7_log_3 : decode cX7_log 3 = .ok (.getfield 283, 3) := by decide +kernel
theorem dX7_log_6 : decode cX7_log 6 = .ok (.iconst 1, 1) := by decide +kernel
theorem dX7_log_7 : decode cX7_log 7 = .ok (.isub, 1) := by decide +kernel
theorem dX7_log_8 : decode cX7_log 8 = .ok (.invokestatic 171, 3) := by decide +kernel
theorem dX7_log_11 : decode cX7_log 11 = .ok (.ifCond .ne 5, 3) := by decide +kernel
theorem dX7_log_16 : decode cX7_log 16 = .ok (.iload_n 2, 1) := by decide +kernel
theorem dX7_log_17 : decode cX7_log 17 = .ok (.ifCond .ne 12, 3) := by decide +kernel
theorem dX7_log_29 : decode cX7_log 29 = .ok (.iload_n 2, 1) := by decide +kernel
theorem dX7_log_30 : decode cX7_log 30 = .ok (.iconst 1, 1) := by decide +kernel
theorem dX7_log_31 : decode cX7_log 31 = .ok (.if_icmp .ne 12, 3) := by decide +kernel
theorem dX7_log_43 : decode cX7_log 43 = .ok (.iload_n 2, 1) := by decide +kernel
theorem dX7_log_44 : decode cX7_log 44 = .ok (.iconst 2, 1) := by decide +kernel
theorem dX7_log_45 : decode cX7_log 45 = .ok (.if_icmp .ne 12, 3) := by decide +kernel
theorem dX7_log_57 : decode cX7_log 57 = .ok (.iconst (-1), 1) := by decide +kernel
theorem dX7_log_58 : decode cX7_log 58 = .ok (.ireturn, 1) := by decide +kernel
theorem dX7_log_48 : decode cX7_log 48 = .ok (.aload_n 0, 1) := by decide +kernel
theorem dX7_log_49 : decode cX7_log 49 = .ok (.getfield 80, 3) := by decide +kernel
theorem dX7_log_52 : decode cX7_log 52 = .ok (.iload_n 1, 1) := by decide +kernel
theorem dX7_log_53 : decode cX7_log 53 = .ok (.iaload, 1) := by decide +kernel
theorem dX7_log_54 : decode cX7_log 54 = .ok (.goto 4, 3) := by decide +kernel
theorem dX7_log_34 : decode cX7_log 34 = .ok (.aload_n 0, 1) := by decide +kernel
theorem dX7_log_35 : decode cX7_log 35 = .ok (.getfield 77, 3) := by decide +kernel
theorem dX7_log_38 : decode cX7_log 38 = .ok (.iload_n 1, 1) := by decide +kernel
theorem dX7_log_39 : decode cX7_log 39 = .ok (.iaload, 1) := by decide +kernel
theorem dX7_log_40 : decode cX7_log 40 = .ok (.goto 18, 3) := by decide +kernel
theorem dX7_log_20 : decode cX7_log 20 = .ok (.aload_n 0, 1) := by decide +kernel
theorem dX7_log_21 : decode cX7_log 21 = .ok (.getfield 74, 3) := by decide +kernel
theorem dX7_log_24 : decode cX7_log 24 = .ok (.iload_n 1, 1) := by decide +kernel
theorem dX7_log_25 : decode cX7_log 25 = .ok (.iaload, 1) := by decide +kernel
theorem dX7_log_26 : decode cX7_log 26 = .ok (.goto 32, 3) := by decide +kernel
theorem dX7_log_14 : decode cX7_log 14 = .ok (.iconst (-1), 1) := by decide +kernel
theorem dX7_log_15 : decode cX7_log 15 = .ok (.ireturn, 1) := by decide +kernel
theorem dX7_count_0 : decode cX7_count 0 = .ok (.iload_n 1, 1) := by decide +kernel
theorem dX7_count_1 : decode cX7_count 1 = .ok (.tableswitch 71 0 5 #[39, 44, 49, 54, 61, 66], 39) := by decide +kernel
theorem dX7_count_72 : decode cX7_count 72 = .ok (.iconst (-1), 1) := by decide +kernel
theorem dX7_count_73 : decode cX7_count 73 = .ok (.ireturn, 1) := by decide +kernel
theorem dX7_count_40 : decode cX7_count 40 = .ok (.aload_n 0, 1) := by decide +kernel
theorem dX7_count_41 : decode cX7_count 41 = .ok (.getfield 167, 3) := by decide +kernel
theorem dX7_count_44 : decode cX7_count 44 = .ok (.ireturn, 1) := by decide +kernel
theorem dX7_count_45 : decode cX7_count 45 = .ok (.aload_n 0, 1) := by decide +kernel
theorem dX7_count_46 : decode cX7_count 46 = .ok (.getfield 290, 3) := by decide +kernel
theorem dX7_count_49 : decode cX7_count 49 = .ok (.ireturn, 1) := by decide +kernel
theorem dX7_count_50 : decode cX7_count 50 = .ok (.aload_n 0, 1) := by decide +kernel
theorem dX7_count_51 : decode cX7_count 51 = .ok (.getfield 256, 3) := by decide +kernel
theorem dX7_count_54 : decode cX7_count 54 = .ok (.ireturn, 1) := by decide +kernel
theorem dX7_count_55 : decode cX7_count 55 = .ok (.aload_n 0, 1) := by decide +kernel
theorem dX7_count_56 : decode cX7_count 56 = .ok (.getfield 49, 3) := by decide +kernel
theorem dX7_count_59 : decode cX7_count 59 = .ok (.iconst 0, 1) := by decide +kernel
theorem dX7_count_60 : decode cX7_count 60 = .ok (.iaload, 1) := by decide +kernel
theorem dX7_count_61 : decode cX7_count 61 = .ok (.ireturn, 1) := by decide +kernel
theorem dX7_count_62 : decode cX7_count 62 = .ok (.aload_n 0, 1) := by decide +kernel
theorem dX7_count_63 : decode cX7_count 63 = .ok (.getfield 283, 3) := by decide +kernel
theorem dX7_count_66 : decode cX7_count 66 = .ok (.ireturn, 1) := by decide +kernel
theorem dX7_count_67 : decode cX7_count 67 = .ok (.aload_n 0, 1) := by decide +kernel
theorem dX7_count_68 : decode cX7_count 68 = .ok (.getfield 175, 3) := by decide +kernel
theorem dX7_count_71 : decode cX7_count 71 = .ok (.ireturn, 1) := by decide +kernel
theorem dX7_outside_0 : decode cX7_outside 0 = .ok (.iload_n 1, 1) := by decide +kernel
theorem dX7_outside_1 : decode cX7_outside 1 = .ok (.iconst 0, 1) := by decide +kernel
theorem dX7_outside_2 : decode cX7_outside 2 = .ok (.aload_n 0, 1) := by decide +kernel
theorem dX7_outside_3 : decode cX7_outside 3 = .ok (.getfield 256, 3) := by decide +kernel
theorem dX7_outside_6 : decode cX7_outside 6 = .ok (.bipush 40, 2) := by decide +kernel
theorem dX7_outside_8 : decode cX7_outside 8 = .ok (.if_icmp .ge 10, 3) := by decide +kernel
theorem dX7_outside_18 : decode cX7_outside 18 = .ok (.bipush 40, 2) := by decide +kernel
theorem dX7_outside_20 : decode cX7_outside 20 = .ok (.iconst 1, 1) := by decide +kernel
theorem dX7_outside_21 : decode cX7_outside 21 = .ok (.isub, 1) := by decide +kernel
theorem dX7_outside_22 : decode cX7_outside 22 = .ok (.invokestatic 171, 3) := by decide +kernel
theorem dX7_outside_25 : decode cX7_outside 25 = .ok (.ifCond .eq 12, 3) := by decide +kernel
theorem dX7_outside_28 : decode cX7_outside 28 = .ok (.aload_n 0, 1) := by decide +kernel
theorem dX7_outside_29 : decode cX7_outside 29 = .ok (.getfield 71, 3) := by decide +kernel
theorem dX7_outside_32 : decode cX7_outside 32 = .ok (.iload_n 1, 1) := by decide +kernel
theorem dX7_outside_33 : decode cX7_outside 33 = .ok (.iaload, 1) := by decide +kernel
theorem dX7_outside_34 : decode cX7_outside 34 = .ok (.goto 4, 3) := by decide +kernel
theorem dX7_outside_38 : decode cX7_outside 38 = .ok (.ireturn, 1) := by decide +kernel
theorem dX7_outside_37 : decode cX7_outside 37 = .ok (.iconst (-1), 1) := by decide +kernel
theorem dX7_outside_11 : decode cX7_outside 11 = .ok (.aload_n 0, 1) := by decide +kernel
theorem dX7_outside_12 : decode cX7_outside 12 = .ok (.getfield 256, 3) := by decide +kernel
theorem dX7_outside_15 : decode cX7_outside 15 = .ok (.goto 5, 3) := by decide +kernel
theorem dX7_free_0 : decode cX7_free 0 = .ok (.iload_n 1, 1) := by decide +kernel
theorem dX7_free_1 : decode cX7_free 1 = .ok (.iconst 0, 1) := by decide +kernel
theorem dX7_free_2 : decode cX7_free 2 = .ok (.iconst 1, 1) := by decide +kernel
theorem dX7_free_3 : decode cX7_free 3 = .ok (.invokestatic 171, 3) := by decide +kernel
theorem dX7_free_6 : decode cX7_free 6 = .ok (.ifCond .ne 6, 3) := by decide +kernel
theorem dX7_free_12 : decode cX7_free 12 = .ok (.aload_n 0, 1) := by decide +kernel
theorem dX7_free_13 : decode cX7_free 13 = .ok (.getfield 293, 3) := by decide +kernel
theorem dX7_free_16 : decode cX7_free 16 = .ok (.ifCond .eq 7, 3) := by decide +kernel
theorem dX7_free_23 : decode cX7_free 23 = .ok (.iconst 0, 1) := by decide +kernel
theorem dX7_free_24 : decode cX7_free 24 = .ok (.istore_n 2, 1) := by decide +kernel
theorem dX7_free_25 : decode cX7_free 25 = .ok (.aload_n 0, 1) := by decide +kernel
theorem dX7_free_26 : decode cX7_free 26 = .ok (.iload_n 1, 1) := by decide +kernel
theorem dX7_free_27 : decode cX7_free 27 = .ok (.iconst 1, 1) := by decide +kernel
theorem dX7_free_28 : decode cX7_free 28 = .ok (.if_icmp .ne 7, 3) := by decide +kernel
theorem dX7_free_35 : decode cX7_free 35 = .ok (.iconst 0, 1) := by decide +kernel
theorem dX7_free_36 : decode cX7_free 36 = .ok (.putfield 293, 3) := by decide +kernel
theorem dX7_free_39 : decode cX7_free 39 = .ok (.iload_n 2, 1) := by decide +kernel
theorem dX7_free_40 : decode cX7_free 40 = .ok (.ireturn, 1) := by decide +kernel
theorem dX7_free_31 : decode cX7_free 31 = .ok (.iconst 1, 1) := by decide +kernel
theorem dX7_free_32 : decode cX7_free 32 = .ok (.goto 4, 3) := by decide +kernel
theorem dX7_free_19 : decode cX7_free 19 = .ok (.iconst 1, 1) := by decide +kernel
theorem dX7_free_20 : decode cX7_free 20 = .ok (.goto 4, 3) := by decide +kernel
theorem dX7_free_9 : decode cX7_free 9 = .ok (.bipush (-2), 2) := by decide +kernel
theorem dX7_free_11 : decode cX7_free 11 = .ok (.ireturn, 1) := by decide +kernel
abbrev md_m_service : Nat → Nat → Bool := mdf [(8, 0), (8, 29), (8, 36), (8, 37), (8, 38), (71, 99), (72, 99), (73, 99), (74, 99), (75, 99), (84, 99), (85, 99), (86, 99), (88, 99)]
theorem mdle_m_service_m_reads {r k : Nat} (h : md_m_service r k = false) : md_m_reads r k = false := mdf_le (by decide +kernel) h
theorem mdle_m_service_m_takes {r k : Nat} (h : md_m_service r k = false) : md_m_takes r k = false := mdf_le (by decide +kernel) h
set_option maxHeartbeats 4000000 in
set_option maxRecDepth 100000 in
theorem m_service (l : Launch) (D : va_G) (cI cZ cS cR : ClassId) (N0 : NT) (g : GS) (hI : Inv g) (h : Nat) (sv : Int32) (wt : Nat) (z : Int32) (t : Nat) (ct : Nat → Int32) (aa : Nat) (wa : Nat) (pl : Nat) (wr : Nat) (r_h : g.1 h = 8) (r_wt : g.1 wt = 87) (n_wt : g.2.2.1 wt = 24) (r_t : g.1 t = 79) (n_t : g.2.2.1 t = 100) (r_aa : g.1 aa = 88) (n_aa : g.2.2.1 aa = 6) (r_wa : g.1 wa = 71) (n_wa : g.2.2.1 wa = 48) (r_pl : g.1 pl = 72) (n_pl : g.2.2.1 pl = 48) (r_wr : g.1 wr = 73) (n_wr : g.2.2.1 wr = 48) (ksv : g.2.1 h 0 = .int sv) (kwt : g.2.1 h 42 = .ref wt) (kz : g.2.1 h 29 = .int z) (kt : g.2.1 h 28 = .ref t) (kaa : g.2.1 h 1 = .ref aa) (e_wa : g.2.1 h 2 = .ref wa) (e_pl : g.2.1 h 3 = .ref pl) (kwr : g.2.1 h 4 = .ref wr) (hw : PX 48 2 3 71 72 g h) (hN0 : PX 8 39 40 84 85 g h) (l_sv : 0 ≤ sv.toInt) (u_sv : sv.toInt ≤ 6) (hWT_0 : WT g wt) (l_z : 0 ≤ z.toInt) (u_z : z.toInt ≤ 100) (hc_0 : g.2.2.2.1 t = ct) : Ty l D cI cZ cS cR N0 yX7_service cX7_service 1 (some .int) 4 0 0 [.ref h] g (fun v g' => ∃ (r : Int32) (z2 : Int32) (s2 : Int32), v = some (.int r) ∧ Inv g' ∧ Ex g g' ∧ Sm md_m_service g g' ∧ (PX 48 2 3 71 72 g' h) ∧ (PX 8 39 40 84 85 g' h) ∧ (g'.2.1 h 29 = .int z2) ∧ (g'.2.1 h 0 = .int s2) ∧ (r.toInt = svR (txb ct z.toInt) z.toInt sv.toInt) ∧ (s2.toInt = svS (txb ct z.toInt) z.toInt sv.toInt) ∧ (z2.toInt = svZ z.toInt sv.toInt) ∧ (TK g g' aa wa pl wr sv.toNatClampNeg (svb (txb ct z.toInt) z.toInt sv.toInt) (txb ct z.toInt))) := by
  refine t_enter (by decide) (Nat.le_of_ble_eq_true rfl) ?_
  intro p e s m args below meth c ls H locs hB hr hin hl hT
  have hx := hB.1
  have hb := hB.2.1
  have hl : lv_has ls 1 [(0, .ref h)] := hl
  have hE : Ex g g := Ex.rf
  have hM : Sm md_m_service g g := Sm.rf
  have hWT := hWT_0
  have hc := hc_0
  have hW := PX.use hw e_wa e_pl
  obtain ⟨na, pa, e_na, e_pa, r_na, r_pa, n_na, n_pa, hN⟩ := hN0
  have hn_3 : g.2.2.2.1 wa = g.2.2.2.1 wa := rfl
  have hn_4 : g.2.2.2.1 pl = g.2.2.2.1 pl := rfl
  have hn_5 : g.2.2.2.1 wr = g.2.2.2.1 wr := rfl
  have hn_6 : g.2.2.2.1 aa = g.2.2.2.1 aa := rfl
  refine lv_aload_n hx hb dX7_service_0 rfl (lv_at hl 0 rfl) ?_
  refine t_get (ci := 7) (v := .int sv) hB hT (ro_ci r_h rfl) rfl 0 (by decide) k_745 ksv dX7_service_1 ?_
  refine lv_bipush (v := 6) hx hb dX7_service_4 (by decide) ?_
  refine lv_icmp_ne (tgt := 12) hx hb dX7_service_6 (by decide) (fun c_1 => ?_) (fun c_1 => ?_)
  · have c_1' : sv.toInt ≠ 6 := i_ne c_1 rfl (by decide)
    refine lv_aload_n hx hb dX7_service_12 rfl (lv_at hl 0 rfl) ?_
    obtain ⟨v_2, e_v_2, r_v_2, n_v_2⟩ := f_8_41 hI r_h
    refine t_callV (n := 0) (As := []) (rest := []) (ci := 7) hB hT hl.1 (m_reads l D cI cZ cS cR N0 g hI h wt na pa z t ct v_2 r_h r_na n_na r_pa n_pa r_wt n_wt r_t n_t r_v_2 n_v_2 kwt e_na e_pa kz kt e_v_2 hN hWT (by omega) (by omega) hc) (ro_ci r_h rfl) rfl k_963 k_65 k_960 k_962 k_21 (by decide +kernel) ⟨(Nat.le_of_ble_eq_true rfl), (Nat.le_of_ble_eq_true rfl)⟩ rfl (Nat.le_of_ble_eq_true rfl) ⟨(Nat.le_of_ble_eq_true rfl), (Nat.le_of_ble_eq_true rfl)⟩ dX7_service_13 (fun v g_3 H locs hp hT => ?_)
    obtain ⟨r_4, s2_5, z2_6, rfl, hI, x_16, m_15, f_7, f_8, f_9, f_10, f_11, f_12, f_13, f_14⟩ := hp
    have hW : PL 48 g_3 wa pl := hW.sm m_15 r_wa (by decide) rfl r_pl (by decide) rfl
    have hc : g_3.2.2.2.1 t = ct := (Sm.cf m_15 r_t (by decide) rfl).trans hc
    have hWT : WT g_3 wt := hWT.sm m_15 r_wt (by decide) rfl
    have hn_3 : g_3.2.2.2.1 wa = g.2.2.2.1 wa := (Sm.cf m_15 r_wa (by decide) rfl).trans hn_3
    have hn_4 : g_3.2.2.2.1 pl = g.2.2.2.1 pl := (Sm.cf m_15 r_pl (by decide) rfl).trans hn_4
    have hn_5 : g_3.2.2.2.1 wr = g.2.2.2.1 wr := (Sm.cf m_15 r_wr (by decide) rfl).trans hn_5
    have hn_6 : g_3.2.2.2.1 aa = g.2.2.2.1 aa := (Sm.cf m_15 r_aa (by decide) rfl).trans hn_6
    have hM : Sm md_m_service g g_3 := hM.tr hE (m_15.mo (fun r k h => mdle_m_service_m_reads h))
    have hE : Ex g g_3 := hE.tr x_16
    have r_17 : g_3.1 h = 8 := (Ex.r x_16 r_h (by decide))
    have r_18 : g_3.1 wt = 87 := (Ex.r x_16 r_wt (by decide))
    have r_19 : g_3.1 t = 79 := (Ex.r x_16 r_t (by decide))
    have r_20 : g_3.1 aa = 88 := (Ex.r x_16 r_aa (by decide))
    have r_21 : g_3.1 wa = 71 := (Ex.r x_16 r_wa (by decide))
    have r_22 : g_3.1 pl = 72 := (Ex.r x_16 r_pl (by decide))
    have r_23 : g_3.1 wr = 73 := (Ex.r x_16 r_wr (by decide))
    have r_24 : g_3.1 na = 84 := (Ex.r x_16 r_na (by decide))
    have r_25 : g_3.1 pa = 85 := (Ex.r x_16 r_pa (by decide))
    have r_26 : g_3.1 v_2 = 86 := (Ex.r x_16 r_v_2 (by decide))
    have n_27 : g_3.2.2.1 wt = 24 := (Ex.n x_16 r_wt (by decide) n_wt)
    have n_28 : g_3.2.2.1 t = 100 := (Ex.n x_16 r_t (by decide) n_t)
    have n_29 : g_3.2.2.1 aa = 6 := (Ex.n x_16 r_aa (by decide) n_aa)
    have n_30 : g_3.2.2.1 wa = 48 := (Ex.n x_16 r_wa (by decide) n_wa)
    have n_31 : g_3.2.2.1 pl = 48 := (Ex.n x_16 r_pl (by decide) n_pl)
    have n_32 : g_3.2.2.1 wr = 48 := (Ex.n x_16 r_wr (by decide) n_wr)
    have n_33 : g_3.2.2.1 na = 8 := (Ex.n x_16 r_na (by decide) n_na)
    have n_34 : g_3.2.2.1 pa = 8 := (Ex.n x_16 r_pa (by decide) n_pa)
    have n_35 : g_3.2.2.1 v_2 = 8 := (Ex.n x_16 r_v_2 (by decide) n_v_2)
    have kn_36 : g_3.2.1 h 0 = .int sv := (Sm.v m_15 r_h (by decide) rfl ksv)
    have kn_37 : g_3.2.1 h 42 = .ref wt := (Sm.v m_15 r_h (by decide) rfl kwt)
    have kn_38 : g_3.2.1 h 29 = .int z := (Sm.v m_15 r_h (by decide) rfl kz)
    have kn_39 : g_3.2.1 h 28 = .ref t := (Sm.v m_15 r_h (by decide) rfl kt)
    have kn_40 : g_3.2.1 h 1 = .ref aa := (Sm.v m_15 r_h (by decide) rfl kaa)
    have kn_41 : g_3.2.1 h 2 = .ref wa := (Sm.v m_15 r_h (by decide) rfl e_wa)
    have kn_42 : g_3.2.1 h 3 = .ref pl := (Sm.v m_15 r_h (by decide) rfl e_pl)
    have kn_43 : g_3.2.1 h 4 = .ref wr := (Sm.v m_15 r_h (by decide) rfl kwr)
    have kn_44 : g_3.2.1 h 39 = .ref na := (Sm.v m_15 r_h (by decide) rfl e_na)
    have kn_45 : g_3.2.1 h 40 = .ref pa := (Sm.v m_15 r_h (by decide) rfl e_pa)
    have kn_46 : g_3.2.1 h 41 = .ref v_2 := (Sm.v m_15 r_h (by decide) rfl e_v_2)
    refine W.eq (g2 := F0 m 16 ls [.int r_4]) rfl ?_
    have hN := f_8
    rcases f_7 with ⟨rfl, hw_47⟩ | ⟨rfl, hw_48⟩
    · have hPG_ := f_14 rfl
      refine W.eq (g2 := F0 m 16 ls [.int 1]) rfl ?_
      refine lv_if_ne (tgt := 32) hx hb dX7_service_16 (by decide) (fun c_ => ?_) (fun c_ => absurd c_ (by decide))
      refine lv_aload_n hx hb dX7_service_32 rfl (lv_at hl 0 rfl) ?_
      refine lv_aload_n hx hb dX7_service_33 rfl (lv_at hl 0 rfl) ?_
      refine t_get (ci := 7) (v := .int sv) hB hT (ro_ci r_17 rfl) rfl 0 (by decide) k_745 kn_36 dX7_service_34 ?_
      have hPGo_ := hPG_
      have hno_3 := hn_3
      have hno_4 := hn_4
      have hno_5 := hn_5
      have hno_6 := hn_6
      refine t_callV (n := 1) (As := [.int sv]) (rest := []) (ci := 7) hB hT hl.1 (m_takes l D cI cZ cS cR N0 g_3 hI h sv na pa wa pl v_2 wr aa z2_6 r_17 r_24 n_33 r_25 n_34 r_21 n_30 r_22 n_31 r_26 n_35 r_23 n_32 r_20 n_29 kn_44 kn_45 kn_41 kn_42 kn_46 kn_43 kn_40 f_11 (by omega) (by omega) (by omega) (by omega) hN hW) (ro_ci r_17 rfl) rfl k_983 k_65 k_980 k_982 k_26 (by decide +kernel) ⟨(Nat.le_of_ble_eq_true rfl), (Nat.le_of_ble_eq_true rfl)⟩ rfl (Nat.le_of_ble_eq_true rfl) ⟨(Nat.le_of_ble_eq_true rfl), (Nat.le_of_ble_eq_true rfl)⟩ dX7_service_37 (fun v g_49 H locs hp hT => ?_)
      obtain ⟨rfl, hI, x_57, m_56, f_50, f_51, f_52, f_53, f_54, f_55⟩ := hp
      have hc : g_49.2.2.2.1 t = ct := (Sm.cf m_56 r_19 (by decide) rfl).trans hc
      have hWT : WT g_49 wt := hWT.sm m_56 r_18 (by decide) rfl
      have hN : PL 8 g_49 na pa := hN.sm m_56 r_24 (by decide) rfl r_25 (by decide) rfl
      have hPG_ : PG g_49 na pa v_2 (txb ct z.toInt) (pgn (txb ct z.toInt)) := hPG_.sm m_56 r_24 (by decide) rfl r_25 (by decide) rfl r_26 (by decide) rfl
      have hM : Sm md_m_service g g_49 := hM.tr hE (m_56.mo (fun r k h => mdle_m_service_m_takes h))
      have hE : Ex g g_49 := hE.tr x_57
      have r_58 : g_49.1 h = 8 := (Ex.r x_57 r_17 (by decide))
      have r_59 : g_49.1 wt = 87 := (Ex.r x_57 r_18 (by decide))
      have r_60 : g_49.1 t = 79 := (Ex.r x_57 r_19 (by decide))
      have r_61 : g_49.1 aa = 88 := (Ex.r x_57 r_20 (by decide))
      have r_62 : g_49.1 wa = 71 := (Ex.r x_57 r_21 (by decide))
      have r_63 : g_49.1 pl = 72 := (Ex.r x_57 r_22 (by decide))
      have r_64 : g_49.1 wr = 73 := (Ex.r x_57 r_23 (by decide))
      have r_65 : g_49.1 na = 84 := (Ex.r x_57 r_24 (by decide))
      have r_66 : g_49.1 pa = 85 := (Ex.r x_57 r_25 (by decide))
      have r_67 : g_49.1 v_2 = 86 := (Ex.r x_57 r_26 (by decide))
      have n_68 : g_49.2.2.1 wt = 24 := (Ex.n x_57 r_18 (by decide) n_27)
      have n_69 : g_49.2.2.1 t = 100 := (Ex.n x_57 r_19 (by decide) n_28)
      have n_70 : g_49.2.2.1 aa = 6 := (Ex.n x_57 r_20 (by decide) n_29)
      have n_71 : g_49.2.2.1 wa = 48 := (Ex.n x_57 r_21 (by decide) n_30)
      have n_72 : g_49.2.2.1 pl = 48 := (Ex.n x_57 r_22 (by decide) n_31)
      have n_73 : g_49.2.2.1 wr = 48 := (Ex.n x_57 r_23 (by decide) n_32)
      have n_74 : g_49.2.2.1 na = 8 := (Ex.n x_57 r_24 (by decide) n_33)
      have n_75 : g_49.2.2.1 pa = 8 := (Ex.n x_57 r_25 (by decide) n_34)
      have n_76 : g_49.2.2.1 v_2 = 8 := (Ex.n x_57 r_26 (by decide) n_35)
      have kn_77 : g_49.2.1 h 0 = .int sv := (Sm.v m_56 r_17 (by decide) rfl kn_36)
      have kn_78 : g_49.2.1 h 42 = .ref wt := (Sm.v m_56 r_17 (by decide) rfl kn_37)
      have kn_79 : g_49.2.1 h 28 = .ref t := (Sm.v m_56 r_17 (by decide) rfl kn_39)
      have kn_80 : g_49.2.1 h 1 = .ref aa := (Sm.v m_56 r_17 (by decide) rfl kn_40)
      have kn_81 : g_49.2.1 h 2 = .ref wa := (Sm.v m_56 r_17 (by decide) rfl kn_41)
      have kn_82 : g_49.2.1 h 3 = .ref pl := (Sm.v m_56 r_17 (by decide) rfl kn_42)
      have kn_83 : g_49.2.1 h 4 = .ref wr := (Sm.v m_56 r_17 (by decide) rfl kn_43)
      have kn_84 : g_49.2.1 h 39 = .ref na := (Sm.v m_56 r_17 (by decide) rfl kn_44)
      have kn_85 : g_49.2.1 h 40 = .ref pa := (Sm.v m_56 r_17 (by decide) rfl kn_45)
      have kn_86 : g_49.2.1 h 41 = .ref v_2 := (Sm.v m_56 r_17 (by decide) rfl kn_46)
      have kn_87 : g_49.2.1 h 36 = .int s2_5 := (Sm.v m_56 r_17 (by decide) rfl f_9)
      have kn_88 : g_49.2.1 h 38 = .int z2_6 := (Sm.v m_56 r_17 (by decide) rfl f_11)
      refine W.eq (g2 := F0 m 40 ls []) rfl ?_
      have hW := f_50
      have hKu := f_52
      rw [hno_6] at hKu
      have hK0 := f_53
      rw [hno_3] at hK0
      have hK1 := f_54
      rw [hno_4] at hK1
      have hK2 := f_55
      rw [hno_5] at hK2
      refine lv_aload_n hx hb dX7_service_40 rfl (lv_at hl 0 rfl) ?_
      obtain ⟨v_89, e_v_89, r_v_89, n_v_89⟩ := f_8_5 hI r_58
      refine t_get (ci := 7) (v := .ref v_89) hB hT (ro_ci r_58 rfl) rfl 5 (by decide) k_750 e_v_89 dX7_service_41 ?_
      refine lv_aload_n hx hb dX7_service_44 rfl (lv_at hl 0 rfl) ?_
      refine t_get (ci := 7) (v := .int sv) hB hT (ro_ci r_58 rfl) rfl 0 (by decide) k_745 kn_77 dX7_service_45 ?_
      refine lv_iconst (v := 0) hx hb dX7_service_48 (by decide) ?_
      have i_90 : vp_in sv 6 := (i_in (n := 6) rfl (by omega) (by omega))
      refine t_iast hB hT (ro_in r_v_89 (by decide)) n_v_89 i_90 dX7_service_49 (fun H locs hT => ?_)
      have hI : Inv (sC g_49 v_89 sv.toNatClampNeg (0 : Int32)) := hI.sC (ck r_v_89 trivial)
      have hM : Sm md_m_service g (sC g_49 v_89 sv.toNatClampNeg (0 : Int32)) := hM.tr hE (Sm_sC (by rw [r_v_89]; rfl))
      have hE : Ex g (sC g_49 v_89 sv.toNatClampNeg (0 : Int32)) := hE
      have hc : (sC g_49 v_89 sv.toNatClampNeg (0 : Int32)).2.2.2.1 t = ct := sC_f hc (ro_ne r_60 r_v_89 (by decide))
      have hWT : WT (sC g_49 v_89 sv.toNatClampNeg (0 : Int32)) wt := hWT.tC (ro_ne r_59 r_v_89 (by decide))
      have hN : PL 8 (sC g_49 v_89 sv.toNatClampNeg (0 : Int32)) na pa := hN.tC (ro_ne r_65 r_v_89 (by decide)) (ro_ne r_66 r_v_89 (by decide))
      have hPG_ : PG (sC g_49 v_89 sv.toNatClampNeg (0 : Int32)) na pa v_2 (txb ct z.toInt) (pgn (txb ct z.toInt)) := hPG_.tC (ro_ne r_65 r_v_89 (by decide)) (ro_ne r_66 r_v_89 (by decide)) (ro_ne r_67 r_v_89 (by decide))
      have hW : PL 48 (sC g_49 v_89 sv.toNatClampNeg (0 : Int32)) wa pl := hW.tC (ro_ne r_62 r_v_89 (by decide)) (ro_ne r_63 r_v_89 (by decide))
      have hKu : UP (sC g_49 v_89 sv.toNatClampNeg (0 : Int32)) aa (g.2.2.2.1 aa) true sv.toNatClampNeg z2_6 := hKu.tC (ro_ne r_61 r_v_89 (by decide))
      have hK0 : CP (sC g_49 v_89 sv.toNatClampNeg (0 : Int32)) wa (g.2.2.2.1 wa) (g_3.2.2.2.1 na) (8 * sv.toNatClampNeg) z2_6.toInt := hK0.tC (ro_ne r_62 r_v_89 (by decide))
      have hK1 : CP (sC g_49 v_89 sv.toNatClampNeg (0 : Int32)) pl (g.2.2.2.1 pl) (g_3.2.2.2.1 pa) (8 * sv.toNatClampNeg) z2_6.toInt := hK1.tC (ro_ne r_63 r_v_89 (by decide))
      have hK2 : CP (sC g_49 v_89 sv.toNatClampNeg (0 : Int32)) wr (g.2.2.2.1 wr) (g_3.2.2.2.1 v_2) (8 * sv.toNatClampNeg) z2_6.toInt := hK2.tC (ro_ne r_64 r_v_89 (by decide))
      refine lv_aload_n hx hb dX7_service_50 rfl (lv_at hl 0 rfl) ?_
      obtain ⟨v_91, e_v_91, r_v_91, n_v_91⟩ := f_8_6 hI r_58
      refine t_get (ci := 7) (v := .ref v_91) hB hT (ro_ci r_58 rfl) rfl 6 (by decide) k_751 e_v_91 dX7_service_51 ?_
      refine lv_aload_n hx hb dX7_service_54 rfl (lv_at hl 0 rfl) ?_
      refine t_get (ci := 7) (v := .int sv) hB hT (ro_ci r_58 rfl) rfl 0 (by decide) k_745 kn_77 dX7_service_55 ?_
      refine lv_bipush (v := 10) hx hb dX7_service_58 (by decide) ?_
      have i_92 : vp_in sv 6 := (i_in (n := 6) rfl (by omega) (by omega))
      refine t_iast hB hT (ro_in r_v_91 (by decide)) n_v_91 i_92 dX7_service_60 (fun H locs hT => ?_)
      have hI : Inv (sC (sC g_49 v_89 sv.toNatClampNeg (0 : Int32)) v_91 sv.toNatClampNeg (10 : Int32)) := hI.sC (ck r_v_91 trivial)
      have hM : Sm md_m_service g (sC (sC g_49 v_89 sv.toNatClampNeg (0 : Int32)) v_91 sv.toNatClampNeg (10 : Int32)) := hM.tr hE (Sm_sC (by rw [r_v_91]; rfl))
      have hE : Ex g (sC (sC g_49 v_89 sv.toNatClampNeg (0 : Int32)) v_91 sv.toNatClampNeg (10 : Int32)) := hE
      have hc : (sC (sC g_49 v_89 sv.toNatClampNeg (0 : Int32)) v_91 sv.toNatClampNeg (10 : Int32)).2.2.2.1 t = ct := sC_f hc (ro_ne r_60 r_v_91 (by decide))
      have hWT : WT (sC (sC g_49 v_89 sv.toNatClampNeg (0 : Int32)) v_91 sv.toNatClampNeg (10 : Int32)) wt := hWT.tC (ro_ne r_59 r_v_91 (by decide))
      have hN : PL 8 (sC (sC g_49 v_89 sv.toNatClampNeg (0 : Int32)) v_91 sv.toNatClampNeg (10 : Int32)) na pa := hN.tC (ro_ne r_65 r_v_91 (by decide)) (ro_ne r_66 r_v_91 (by decide))
      have hPG_ : PG (sC (sC g_49 v_89 sv.toNatClampNeg (0 : Int32)) v_91 sv.toNatClampNeg (10 : Int32)) na pa v_2 (txb ct z.toInt) (pgn (txb ct z.toInt)) := hPG_.tC (ro_ne r_65 r_v_91 (by decide)) (ro_ne r_66 r_v_91 (by decide)) (ro_ne r_67 r_v_91 (by decide))
      have hW : PL 48 (sC (sC g_49 v_89 sv.toNatClampNeg (0 : Int32)) v_91 sv.toNatClampNeg (10 : Int32)) wa pl := hW.tC (ro_ne r_62 r_v_91 (by decide)) (ro_ne r_63 r_v_91 (by decide))
      have hKu : UP (sC (sC g_49 v_89 sv.toNatClampNeg (0 : Int32)) v_91 sv.toNatClampNeg (10 : Int32)) aa (g.2.2.2.1 aa) true sv.toNatClampNeg z2_6 := hKu.tC (ro_ne r_61 r_v_91 (by decide))
      have hK0 : CP (sC (sC g_49 v_89 sv.toNatClampNeg (0 : Int32)) v_91 sv.toNatClampNeg (10 : Int32)) wa (g.2.2.2.1 wa) (g_3.2.2.2.1 na) (8 * sv.toNatClampNeg) z2_6.toInt := hK0.tC (ro_ne r_62 r_v_91 (by decide))
      have hK1 : CP (sC (sC g_49 v_89 sv.toNatClampNeg (0 : Int32)) v_91 sv.toNatClampNeg (10 : Int32)) pl (g.2.2.2.1 pl) (g_3.2.2.2.1 pa) (8 * sv.toNatClampNeg) z2_6.toInt := hK1.tC (ro_ne r_63 r_v_91 (by decide))
      have hK2 : CP (sC (sC g_49 v_89 sv.toNatClampNeg (0 : Int32)) v_91 sv.toNatClampNeg (10 : Int32)) wr (g.2.2.2.1 wr) (g_3.2.2.2.1 v_2) (8 * sv.toNatClampNeg) z2_6.toInt := hK2.tC (ro_ne r_64 r_v_91 (by decide))
      refine lv_aload_n hx hb dX7_service_61 rfl (lv_at hl 0 rfl) ?_
      refine lv_dup hx hb dX7_service_62 rfl ?_
      refine t_get (ci := 7) (v := .int sv) hB hT (ro_ci r_58 rfl) rfl 0 (by decide) k_745 kn_77 dX7_service_63 ?_
      refine lv_iconst (v := 1) hx hb dX7_service_66 (by decide) ?_
      refine lv_iadd hx hb dX7_service_67 ?_
      refine lv_topi (fun z_93 ez_93 => ?_)
      have e_z_93 : z_93.toInt = sv.toInt + 1 := i_add ez_93 rfl (by decide) (by omega) (by omega)
      refine t_put0 (ci := 7) (v := .int z_93) hB hT (ro_ci r_58 rfl) (ro_n0 r_58 (by decide)) rfl 0 (by decide) k_745 (Or.inl rfl) rfl rfl dX7_service_68 (fun H locs hT => ?_)
      have hI : Inv (sF (sC (sC g_49 v_89 sv.toNatClampNeg (0 : Int32)) v_91 sv.toNatClampNeg (10 : Int32)) h 0 (.int z_93)) := hI.sF (p_8_0 r_58 (⟨_, rfl, by omega, by omega⟩))
      have hM : Sm md_m_service g (sF (sC (sC g_49 v_89 sv.toNatClampNeg (0 : Int32)) v_91 sv.toNatClampNeg (10 : Int32)) h 0 (.int z_93)) := hM.tr hE (Sm_sF (by rw [r_58]; rfl))
      have hE : Ex g (sF (sC (sC g_49 v_89 sv.toNatClampNeg (0 : Int32)) v_91 sv.toNatClampNeg (10 : Int32)) h 0 (.int z_93)) := hE
      have hc : (sF (sC (sC g_49 v_89 sv.toNatClampNeg (0 : Int32)) v_91 sv.toNatClampNeg (10 : Int32)) h 0 (.int z_93)).2.2.2.1 t = ct := hc
      have hWT : WT (sF (sC (sC g_49 v_89 sv.toNatClampNeg (0 : Int32)) v_91 sv.toNatClampNeg (10 : Int32)) h 0 (.int z_93)) wt := hWT
      have hN : PL 8 (sF (sC (sC g_49 v_89 sv.toNatClampNeg (0 : Int32)) v_91 sv.toNatClampNeg (10 : Int32)) h 0 (.int z_93)) na pa := hN
      have hPG_ : PG (sF (sC (sC g_49 v_89 sv.toNatClampNeg (0 : Int32)) v_91 sv.toNatClampNeg (10 : Int32)) h 0 (.int z_93)) na pa v_2 (txb ct z.toInt) (pgn (txb ct z.toInt)) := hPG_
      have hW : PL 48 (sF (sC (sC g_49 v_89 sv.toNatClampNeg (0 : Int32)) v_91 sv.toNatClampNeg (10 : Int32)) h 0 (.int z_93)) wa pl := hW
      have hKu : UP (sF (sC (sC g_49 v_89 sv.toNatClampNeg (0 : Int32)) v_91 sv.toNatClampNeg (10 : Int32)) h 0 (.int z_93)) aa (g.2.2.2.1 aa) true sv.toNatClampNeg z2_6 := hKu
      have hK0 : CP (sF (sC (sC g_49 v_89 sv.toNatClampNeg (0 : Int32)) v_91 sv.toNatClampNeg (10 : Int32)) h 0 (.int z_93)) wa (g.2.2.2.1 wa) (g_3.2.2.2.1 na) (8 * sv.toNatClampNeg) z2_6.toInt := hK0
      have hK1 : CP (sF (sC (sC g_49 v_89 sv.toNatClampNeg (0 : Int32)) v_91 sv.toNatClampNeg (10 : Int32)) h 0 (.int z_93)) pl (g.2.2.2.1 pl) (g_3.2.2.2.1 pa) (8 * sv.toNatClampNeg) z2_6.toInt := hK1
      have hK2 : CP (sF (sC (sC g_49 v_89 sv.toNatClampNeg (0 : Int32)) v_91 sv.toNatClampNeg (10 : Int32)) h 0 (.int z_93)) wr (g.2.2.2.1 wr) (g_3.2.2.2.1 v_2) (8 * sv.toNatClampNeg) z2_6.toInt := hK2
      refine lv_aload_n hx hb dX7_service_71 rfl (lv_at hl 0 rfl) ?_
      refine t_get (ci := 7) (v := .int z_93) hB hT (ro_ci r_58 rfl) rfl 0 (by decide) k_745 sF_eq dX7_service_72 ?_
      refine lv_iconst (v := 1) hx hb dX7_service_75 (by decide) ?_
      refine lv_isub hx hb dX7_service_76 ?_
      refine lv_topi (fun z_94 ez_94 => ?_)
      have e_z_94 : z_94.toInt = z_93.toInt - 1 := i_sub ez_94 rfl (by decide) (by omega) (by omega)
      exact t_iret hB hr hT (Nat.le_of_ble_eq_true rfl) (Nat.le_of_ble_eq_true rfl) dX7_service_77 ⟨z_94, (0 : Int32), z_93, rfl, hI, hE, hM, ⟨_, _, (sF_k kn_81 (by decide)), (sF_k kn_82 (by decide)), r_62, r_63, n_71, n_72, hW⟩, ⟨_, _, (sF_k kn_84 (by decide)), (sF_k kn_85 (by decide)), r_65, r_66, n_74, n_75, hN⟩, (sF_k f_51 (by decide)), sF_eq, (by have q2_ : (-2 : Int32).toInt = -2 := (by decide); have q4_ : (-4 : Int32).toInt = -4 := (by decide); have q1_ : (-1 : Int32).toInt = -1 := (by decide); have q0_ : (0 : Int32).toInt = 0 := (by decide); unfold svR; rw [if_pos (show sv.toInt ≤ 5 from by omega), k_true hw_47] <;> omega), (by have q2_ : (-2 : Int32).toInt = -2 := (by decide); have q4_ : (-4 : Int32).toInt = -4 := (by decide); have q1_ : (-1 : Int32).toInt = -1 := (by decide); have q0_ : (0 : Int32).toInt = 0 := (by decide); unfold svS; rw [if_pos (show sv.toInt ≤ 5 from by omega), k_true hw_47] <;> omega), (by have q2_ : (-2 : Int32).toInt = -2 := (by decide); have q4_ : (-4 : Int32).toInt = -4 := (by decide); have q1_ : (-1 : Int32).toInt = -1 := (by decide); have q0_ : (0 : Int32).toInt = 0 := (by decide); unfold svZ; omega), (by rw [svb_k (by omega) hw_47]; exact TK.of (z := z2_6.toInt) (by omega) (by omega) (hPGo_.cast (by omega)) ((congrArg Int32.toInt (hKu sv.toNatClampNeg)).trans (by rw [if_pos ⟨rfl, rfl⟩])) (fun i_ hi_ => (hKu i_).trans (if_neg (fun q_ => hi_ q_.2))) hK0 hK1 hK2)⟩
    · refine W.eq (g2 := F0 m 16 ls [.int 0]) rfl ?_
      refine lv_if_ne (tgt := 32) hx hb dX7_service_16 (by decide) (fun c_ => absurd (by decide) c_) (fun c_ => ?_)
      refine lv_aload_n hx hb dX7_service_19 rfl (lv_at hl 0 rfl) ?_
      refine lv_iconst (v := 0) hx hb dX7_service_20 (by decide) ?_
      refine t_put0 (ci := 7) (v := .int 0) hB hT (ro_ci r_17 rfl) (ro_n0 r_17 (by decide)) rfl 29 (by decide) k_774 (Or.inl rfl) rfl rfl dX7_service_21 (fun H locs hT => ?_)
      have hI : Inv (sF g_3 h 29 (.int 0)) := hI.sF (p_8_29 r_17 (⟨_, rfl, by decide, by decide⟩))
      have hM : Sm md_m_service g (sF g_3 h 29 (.int 0)) := hM.tr hE (Sm_sF (by rw [r_17]; rfl))
      have hE : Ex g (sF g_3 h 29 (.int 0)) := hE
      have hW : PL 48 (sF g_3 h 29 (.int 0)) wa pl := hW
      have hc : (sF g_3 h 29 (.int 0)).2.2.2.1 t = ct := hc
      have hWT : WT (sF g_3 h 29 (.int 0)) wt := hWT
      have hn_3 : (sF g_3 h 29 (.int 0)).2.2.2.1 wa = g.2.2.2.1 wa := hn_3
      have hn_4 : (sF g_3 h 29 (.int 0)).2.2.2.1 pl = g.2.2.2.1 pl := hn_4
      have hn_5 : (sF g_3 h 29 (.int 0)).2.2.2.1 wr = g.2.2.2.1 wr := hn_5
      have hn_6 : (sF g_3 h 29 (.int 0)).2.2.2.1 aa = g.2.2.2.1 aa := hn_6
      have hN : PL 8 (sF g_3 h 29 (.int 0)) na pa := hN
      refine lv_bipush (v := (-10)) hx hb dX7_service_24 (by decide) ?_
      refine lv_aload_n hx hb dX7_service_26 rfl (lv_at hl 0 rfl) ?_
      refine t_get (ci := 7) (v := .int s2_5) hB hT (ro_ci r_17 rfl) rfl 36 (by decide) k_781 (sF_k f_9 (by decide)) dX7_service_27 ?_
      refine lv_isub hx hb dX7_service_30 ?_
      refine lv_topi (fun z_95 ez_95 => ?_)
      have e_z_95 : z_95.toInt = (-10) - s2_5.toInt := i_sub ez_95 (by decide) rfl (by omega) (by omega)
      exact t_iret hB hr hT (Nat.le_of_ble_eq_true rfl) (Nat.le_of_ble_eq_true rfl) dX7_service_31 ⟨z_95, (0 : Int32), sv, rfl, hI, hE, hM, ⟨_, _, (sF_k kn_41 (by decide)), (sF_k kn_42 (by decide)), r_21, r_22, n_30, n_31, hW⟩, ⟨_, _, (sF_k kn_44 (by decide)), (sF_k kn_45 (by decide)), r_24, r_25, n_33, n_34, hN⟩, sF_eq, (sF_k kn_36 (by decide)), (by have q2_ : (-2 : Int32).toInt = -2 := (by decide); have q4_ : (-4 : Int32).toInt = -4 := (by decide); have q1_ : (-1 : Int32).toInt = -1 := (by decide); have q0_ : (0 : Int32).toInt = 0 := (by decide); unfold svR; rw [if_pos (show sv.toInt ≤ 5 from by omega), k_false hw_48] <;> omega), (by have q2_ : (-2 : Int32).toInt = -2 := (by decide); have q4_ : (-4 : Int32).toInt = -4 := (by decide); have q1_ : (-1 : Int32).toInt = -1 := (by decide); have q0_ : (0 : Int32).toInt = 0 := (by decide); unfold svS; rw [if_pos (show sv.toInt ≤ 5 from by omega), k_false hw_48] <;> omega), (by have q2_ : (-2 : Int32).toInt = -2 := (by decide); have q4_ : (-4 : Int32).toInt = -4 := (by decide); have q1_ : (-1 : Int32).toInt = -1 := (by decide); have q0_ : (0 : Int32).toInt = 0 := (by decide); unfold svZ; omega), (by rw [svb_k (by omega) hw_48]; exact Or.inl ⟨rfl, hn_6, hn_3, hn_4, hn_5⟩)⟩
  · have c_1' : sv.toInt = 6 := i_eq c_1 rfl (by decide)
    refine lv_bipush (v := (-4)) hx hb dX7_service_9 (by decide) ?_
    exact t_iret hB hr hT (Nat.le_of_ble_eq_true rfl) (Nat.le_of_ble_eq_true rfl) dX7_service_11 ⟨(-4), z, sv, rfl, hI, hE, hM, ⟨_, _, e_wa, e_pl, r_wa, r_pl, n_wa, n_pl, hW⟩, ⟨_, _, e_na, e_pa, r_na, r_pa, n_na, n_pa, hN⟩, kz, ksv, (by have q2_ : (-2 : Int32).toInt = -2 := (by decide); have q4_ : (-4 : Int32).toInt = -4 := (by decide); have q1_ : (-1 : Int32).toInt = -1 := (by decide); have q0_ : (0 : Int32).toInt = 0 := (by decide); unfold svR; omega), (by have q2_ : (-2 : Int32).toInt = -2 := (by decide); have q4_ : (-4 : Int32).toInt = -4 := (by decide); have q1_ : (-1 : Int32).toInt = -1 := (by decide); have q0_ : (0 : Int32).toInt = 0 := (by decide); unfold svS; omega), (by have q2_ : (-2 : Int32).toInt = -2 := (by decide); have q4_ : (-4 : Int32).toInt = -4 := (by decide); have q1_ : (-1 : Int32).toInt = -1 := (by decide); have q0_ : (0 : Int32).toInt = 0 := (by decide); unfold svZ; omega), (by rw [svb_0 (by have q2_ : (-2 : Int32).toInt = -2 := (by decide); have q4_ : (-4 : Int32).toInt = -4 := (by decide); have q1_ : (-1 : Int32).toInt = -1 := (by decide); have q0_ : (0 : Int32).toInt = 0 := (by decide); omega)]; exact Or.inl ⟨rfl, rfl, rfl, rfl, rfl⟩)⟩
abbrev md_m_change : Nat → Nat → Bool := mdf [(8, 29), (8, 36), (8, 37), (8, 38), (71, 99), (72, 99), (73, 99), (84, 99), (85, 99), (86, 99), (88, 99)]
theorem mdle_m_change_m_reads {r k : Nat} (h : md_m_change r k = false) : md_m_reads r k = false := mdf_le (by decide +kernel) h
theorem mdle_m_change_m_takes {r k : Nat} (h : md_m_change r k = false) : md_m_takes r k = false := mdf_le (by decide +kernel) h
set_option maxHeartbeats 4000000 in
set_option maxRecDepth 100000 in
theorem m_change (l : Launch) (D : va_G) (cI cZ cS cR : ClassId) (N0 : NT) (g : GS) (hI : Inv g) (h : Nat) (n : Int32) (sv : Int32) (wt : Nat) (z : Int32) (t : Nat) (ct : Nat → Int32) (aa : Nat) (wa : Nat) (pl : Nat) (wr : Nat) (r_h : g.1 h = 8) (r_wt : g.1 wt = 87) (n_wt : g.2.2.1 wt = 24) (r_t : g.1 t = 79) (n_t : g.2.2.1 t = 100) (r_aa : g.1 aa = 88) (n_aa : g.2.2.1 aa = 6) (r_wa : g.1 wa = 71) (n_wa : g.2.2.1 wa = 48) (r_pl : g.1 pl = 72) (n_pl : g.2.2.1 pl = 48) (r_wr : g.1 wr = 73) (n_wr : g.2.2.1 wr = 48) (ksv : g.2.1 h 0 = .int sv) (kwt : g.2.1 h 42 = .ref wt) (kz : g.2.1 h 29 = .int z) (kt : g.2.1 h 28 = .ref t) (kaa : g.2.1 h 1 = .ref aa) (e_wa : g.2.1 h 2 = .ref wa) (e_pl : g.2.1 h 3 = .ref pl) (kwr : g.2.1 h 4 = .ref wr) (hw : PX 48 2 3 71 72 g h) (hN0 : PX 8 39 40 84 85 g h) (l_sv : 0 ≤ sv.toInt) (u_sv : sv.toInt ≤ 6) (hWT_0 : WT g wt) (l_z : 0 ≤ z.toInt) (u_z : z.toInt ≤ 100) (hc_0 : g.2.2.2.1 t = ct) : Ty l D cI cZ cS cR N0 yX7_change cX7_change 2 (some .int) 4 0 0 [.ref h, .int n] g (fun v g' => ∃ (r : Int32) (z2 : Int32), v = some (.int r) ∧ Inv g' ∧ Ex g g' ∧ Sm md_m_change g g' ∧ (PX 48 2 3 71 72 g' h) ∧ (PX 8 39 40 84 85 g' h) ∧ (g'.2.1 h 29 = .int z2) ∧ (r.toInt = chR (txb ct z.toInt) z.toInt sv.toInt n.toInt) ∧ (z2.toInt = chZ z.toInt sv.toInt n.toInt) ∧ (TK g g' aa wa pl wr n.toNatClampNeg (chb (txb ct z.toInt) z.toInt sv.toInt n.toInt) (txb ct z.toInt))) := by
  refine t_enter (by decide) (Nat.le_of_ble_eq_true rfl) ?_
  intro p e s m args below meth c ls H locs hB hr hin hl hT
  have hx := hB.1
  have hb := hB.2.1
  have hl : lv_has ls 2 [(0, .ref h), (1, .int n)] := hl
  have hE : Ex g g := Ex.rf
  have hM : Sm md_m_change g g := Sm.rf
  have hWT := hWT_0
  have hc := hc_0
  have hW := PX.use hw e_wa e_pl
  obtain ⟨na, pa, e_na, e_pa, r_na, r_pa, n_na, n_pa, hN⟩ := hN0
  have hn_3 : g.2.2.2.1 wa = g.2.2.2.1 wa := rfl
  have hn_4 : g.2.2.2.1 pl = g.2.2.2.1 pl := rfl
  have hn_5 : g.2.2.2.1 wr = g.2.2.2.1 wr := rfl
  have hn_6 : g.2.2.2.1 aa = g.2.2.2.1 aa := rfl
  refine lv_aload_n hx hb dX7_change_0 rfl (lv_at hl 0 rfl) ?_
  refine lv_iload_n hx hb dX7_change_1 rfl (lv_at hl 1 rfl) ?_
  refine t_callV (n := 1) (As := [.int n]) (rest := []) (ci := 7) hB hT hl.1 (m_isService l D cI cZ cS cR N0 g hI h n sv r_h ksv (by omega) (by omega)) (ro_ci r_h rfl) rfl k_991 k_65 k_988 k_990 k_27 (by decide +kernel) ⟨(Nat.le_of_ble_eq_true rfl), (Nat.le_of_ble_eq_true rfl)⟩ rfl (Nat.le_of_ble_eq_true rfl) ⟨(Nat.le_of_ble_eq_true rfl), (Nat.le_of_ble_eq_true rfl)⟩ dX7_change_2 (fun v g_1 H locs hp hT => ?_)
  obtain ⟨r_2, rfl, eg, f_3⟩ := hp
  rw [eg] at hT
  clear eg
  refine W.eq (g2 := F0 m 5 ls [.int r_2]) rfl ?_
  rcases f_3 with ⟨rfl, hw_6, hw_7⟩ | ⟨rfl, hw_8⟩
  · refine W.eq (g2 := F0 m 5 ls [.int 1]) rfl ?_
    refine lv_if_ne (tgt := 10) hx hb dX7_change_5 (by decide) (fun c_ => ?_) (fun c_ => absurd c_ (by decide))
    refine lv_aload_n hx hb dX7_change_10 rfl (lv_at hl 0 rfl) ?_
    obtain ⟨v_9, e_v_9, r_v_9, n_v_9⟩ := f_8_41 hI r_h
    refine t_callV (n := 0) (As := []) (rest := []) (ci := 7) hB hT hl.1 (m_reads l D cI cZ cS cR N0 g hI h wt na pa z t ct v_9 r_h r_na n_na r_pa n_pa r_wt n_wt r_t n_t r_v_9 n_v_9 kwt e_na e_pa kz kt e_v_9 hN hWT (by omega) (by omega) hc) (ro_ci r_h rfl) rfl k_963 k_65 k_960 k_962 k_21 (by decide +kernel) ⟨(Nat.le_of_ble_eq_true rfl), (Nat.le_of_ble_eq_true rfl)⟩ rfl (Nat.le_of_ble_eq_true rfl) ⟨(Nat.le_of_ble_eq_true rfl), (Nat.le_of_ble_eq_true rfl)⟩ dX7_change_11 (fun v g_10 H locs hp hT => ?_)
    obtain ⟨r_11, s2_12, z2_13, rfl, hI, x_23, m_22, f_14, f_15, f_16, f_17, f_18, f_19, f_20, f_21⟩ := hp
    have hW : PL 48 g_10 wa pl := hW.sm m_22 r_wa (by decide) rfl r_pl (by decide) rfl
    have hc : g_10.2.2.2.1 t = ct := (Sm.cf m_22 r_t (by decide) rfl).trans hc
    have hWT : WT g_10 wt := hWT.sm m_22 r_wt (by decide) rfl
    have hn_3 : g_10.2.2.2.1 wa = g.2.2.2.1 wa := (Sm.cf m_22 r_wa (by decide) rfl).trans hn_3
    have hn_4 : g_10.2.2.2.1 pl = g.2.2.2.1 pl := (Sm.cf m_22 r_pl (by decide) rfl).trans hn_4
    have hn_5 : g_10.2.2.2.1 wr = g.2.2.2.1 wr := (Sm.cf m_22 r_wr (by decide) rfl).trans hn_5
    have hn_6 : g_10.2.2.2.1 aa = g.2.2.2.1 aa := (Sm.cf m_22 r_aa (by decide) rfl).trans hn_6
    have hM : Sm md_m_change g g_10 := hM.tr hE (m_22.mo (fun r k h => mdle_m_change_m_reads h))
    have hE : Ex g g_10 := hE.tr x_23
    have r_24 : g_10.1 h = 8 := (Ex.r x_23 r_h (by decide))
    have r_25 : g_10.1 wt = 87 := (Ex.r x_23 r_wt (by decide))
    have r_26 : g_10.1 t = 79 := (Ex.r x_23 r_t (by decide))
    have r_27 : g_10.1 aa = 88 := (Ex.r x_23 r_aa (by decide))
    have r_28 : g_10.1 wa = 71 := (Ex.r x_23 r_wa (by decide))
    have r_29 : g_10.1 pl = 72 := (Ex.r x_23 r_pl (by decide))
    have r_30 : g_10.1 wr = 73 := (Ex.r x_23 r_wr (by decide))
    have r_31 : g_10.1 na = 84 := (Ex.r x_23 r_na (by decide))
    have r_32 : g_10.1 pa = 85 := (Ex.r x_23 r_pa (by decide))
    have r_33 : g_10.1 v_9 = 86 := (Ex.r x_23 r_v_9 (by decide))
    have n_34 : g_10.2.2.1 wt = 24 := (Ex.n x_23 r_wt (by decide) n_wt)
    have n_35 : g_10.2.2.1 t = 100 := (Ex.n x_23 r_t (by decide) n_t)
    have n_36 : g_10.2.2.1 aa = 6 := (Ex.n x_23 r_aa (by decide) n_aa)
    have n_37 : g_10.2.2.1 wa = 48 := (Ex.n x_23 r_wa (by decide) n_wa)
    have n_38 : g_10.2.2.1 pl = 48 := (Ex.n x_23 r_pl (by decide) n_pl)
    have n_39 : g_10.2.2.1 wr = 48 := (Ex.n x_23 r_wr (by decide) n_wr)
    have n_40 : g_10.2.2.1 na = 8 := (Ex.n x_23 r_na (by decide) n_na)
    have n_41 : g_10.2.2.1 pa = 8 := (Ex.n x_23 r_pa (by decide) n_pa)
    have n_42 : g_10.2.2.1 v_9 = 8 := (Ex.n x_23 r_v_9 (by decide) n_v_9)
    have kn_43 : g_10.2.1 h 0 = .int sv := (Sm.v m_22 r_h (by decide) rfl ksv)
    have kn_44 : g_10.2.1 h 42 = .ref wt := (Sm.v m_22 r_h (by decide) rfl kwt)
    have kn_45 : g_10.2.1 h 29 = .int z := (Sm.v m_22 r_h (by decide) rfl kz)
    have kn_46 : g_10.2.1 h 28 = .ref t := (Sm.v m_22 r_h (by decide) rfl kt)
    have kn_47 : g_10.2.1 h 1 = .ref aa := (Sm.v m_22 r_h (by decide) rfl kaa)
    have kn_48 : g_10.2.1 h 2 = .ref wa := (Sm.v m_22 r_h (by decide) rfl e_wa)
    have kn_49 : g_10.2.1 h 3 = .ref pl := (Sm.v m_22 r_h (by decide) rfl e_pl)
    have kn_50 : g_10.2.1 h 4 = .ref wr := (Sm.v m_22 r_h (by decide) rfl kwr)
    have kn_51 : g_10.2.1 h 39 = .ref na := (Sm.v m_22 r_h (by decide) rfl e_na)
    have kn_52 : g_10.2.1 h 40 = .ref pa := (Sm.v m_22 r_h (by decide) rfl e_pa)
    have kn_53 : g_10.2.1 h 41 = .ref v_9 := (Sm.v m_22 r_h (by decide) rfl e_v_9)
    refine W.eq (g2 := F0 m 14 ls [.int r_11]) rfl ?_
    have hN := f_15
    rcases f_14 with ⟨rfl, hw_54⟩ | ⟨rfl, hw_55⟩
    · have hPG_ := f_21 rfl
      refine W.eq (g2 := F0 m 14 ls [.int 1]) rfl ?_
      refine lv_if_ne (tgt := 30) hx hb dX7_change_14 (by decide) (fun c_ => ?_) (fun c_ => absurd c_ (by decide))
      refine lv_aload_n hx hb dX7_change_30 rfl (lv_at hl 0 rfl) ?_
      refine lv_iload_n hx hb dX7_change_31 rfl (lv_at hl 1 rfl) ?_
      have hPGo_ := hPG_
      have hno_3 := hn_3
      have hno_4 := hn_4
      have hno_5 := hn_5
      have hno_6 := hn_6
      refine t_callV (n := 1) (As := [.int n]) (rest := []) (ci := 7) hB hT hl.1 (m_takes l D cI cZ cS cR N0 g_10 hI h n na pa wa pl v_9 wr aa z2_13 r_24 r_31 n_40 r_32 n_41 r_28 n_37 r_29 n_38 r_33 n_42 r_30 n_39 r_27 n_36 kn_51 kn_52 kn_48 kn_49 kn_53 kn_50 kn_47 f_18 (by omega) (by omega) (by omega) (by omega) hN hW) (ro_ci r_24 rfl) rfl k_983 k_65 k_980 k_982 k_26 (by decide +kernel) ⟨(Nat.le_of_ble_eq_true rfl), (Nat.le_of_ble_eq_true rfl)⟩ rfl (Nat.le_of_ble_eq_true rfl) ⟨(Nat.le_of_ble_eq_true rfl), (Nat.le_of_ble_eq_true rfl)⟩ dX7_change_32 (fun v g_56 H locs hp hT => ?_)
      obtain ⟨rfl, hI, x_64, m_63, f_57, f_58, f_59, f_60, f_61, f_62⟩ := hp
      have hc : g_56.2.2.2.1 t = ct := (Sm.cf m_63 r_26 (by decide) rfl).trans hc
      have hWT : WT g_56 wt := hWT.sm m_63 r_25 (by decide) rfl
      have hN : PL 8 g_56 na pa := hN.sm m_63 r_31 (by decide) rfl r_32 (by decide) rfl
      have hPG_ : PG g_56 na pa v_9 (txb ct z.toInt) (pgn (txb ct z.toInt)) := hPG_.sm m_63 r_31 (by decide) rfl r_32 (by decide) rfl r_33 (by decide) rfl
      have hM : Sm md_m_change g g_56 := hM.tr hE (m_63.mo (fun r k h => mdle_m_change_m_takes h))
      have hE : Ex g g_56 := hE.tr x_64
      have r_65 : g_56.1 h = 8 := (Ex.r x_64 r_24 (by decide))
      have r_66 : g_56.1 wt = 87 := (Ex.r x_64 r_25 (by decide))
      have r_67 : g_56.1 t = 79 := (Ex.r x_64 r_26 (by decide))
      have r_68 : g_56.1 aa = 88 := (Ex.r x_64 r_27 (by decide))
      have r_69 : g_56.1 wa = 71 := (Ex.r x_64 r_28 (by decide))
      have r_70 : g_56.1 pl = 72 := (Ex.r x_64 r_29 (by decide))
      have r_71 : g_56.1 wr = 73 := (Ex.r x_64 r_30 (by decide))
      have r_72 : g_56.1 na = 84 := (Ex.r x_64 r_31 (by decide))
      have r_73 : g_56.1 pa = 85 := (Ex.r x_64 r_32 (by decide))
      have r_74 : g_56.1 v_9 = 86 := (Ex.r x_64 r_33 (by decide))
      have n_75 : g_56.2.2.1 wt = 24 := (Ex.n x_64 r_25 (by decide) n_34)
      have n_76 : g_56.2.2.1 t = 100 := (Ex.n x_64 r_26 (by decide) n_35)
      have n_77 : g_56.2.2.1 aa = 6 := (Ex.n x_64 r_27 (by decide) n_36)
      have n_78 : g_56.2.2.1 wa = 48 := (Ex.n x_64 r_28 (by decide) n_37)
      have n_79 : g_56.2.2.1 pl = 48 := (Ex.n x_64 r_29 (by decide) n_38)
      have n_80 : g_56.2.2.1 wr = 48 := (Ex.n x_64 r_30 (by decide) n_39)
      have n_81 : g_56.2.2.1 na = 8 := (Ex.n x_64 r_31 (by decide) n_40)
      have n_82 : g_56.2.2.1 pa = 8 := (Ex.n x_64 r_32 (by decide) n_41)
      have n_83 : g_56.2.2.1 v_9 = 8 := (Ex.n x_64 r_33 (by decide) n_42)
      have kn_84 : g_56.2.1 h 0 = .int sv := (Sm.v m_63 r_24 (by decide) rfl kn_43)
      have kn_85 : g_56.2.1 h 42 = .ref wt := (Sm.v m_63 r_24 (by decide) rfl kn_44)
      have kn_86 : g_56.2.1 h 28 = .ref t := (Sm.v m_63 r_24 (by decide) rfl kn_46)
      have kn_87 : g_56.2.1 h 1 = .ref aa := (Sm.v m_63 r_24 (by decide) rfl kn_47)
      have kn_88 : g_56.2.1 h 2 = .ref wa := (Sm.v m_63 r_24 (by decide) rfl kn_48)
      have kn_89 : g_56.2.1 h 3 = .ref pl := (Sm.v m_63 r_24 (by decide) rfl kn_49)
      have kn_90 : g_56.2.1 h 4 = .ref wr := (Sm.v m_63 r_24 (by decide) rfl kn_50)
      have kn_91 : g_56.2.1 h 39 = .ref na := (Sm.v m_63 r_24 (by decide) rfl kn_51)
      have kn_92 : g_56.2.1 h 40 = .ref pa := (Sm.v m_63 r_24 (by decide) rfl kn_52)
      have kn_93 : g_56.2.1 h 41 = .ref v_9 := (Sm.v m_63 r_24 (by decide) rfl kn_53)
      have kn_94 : g_56.2.1 h 36 = .int s2_12 := (Sm.v m_63 r_24 (by decide) rfl f_16)
      have kn_95 : g_56.2.1 h 38 = .int z2_13 := (Sm.v m_63 r_24 (by decide) rfl f_18)
      refine W.eq (g2 := F0 m 35 ls []) rfl ?_
      have hW := f_57
      have hKu := f_59
      rw [hno_6] at hKu
      have hK0 := f_60
      rw [hno_3] at hK0
      have hK1 := f_61
      rw [hno_4] at hK1
      have hK2 := f_62
      rw [hno_5] at hK2
      refine lv_aload_n hx hb dX7_change_35 rfl (lv_at hl 0 rfl) ?_
      refine t_get (ci := 7) (v := .int z2_13) hB hT (ro_ci r_65 rfl) rfl 38 (by decide) k_783 kn_95 dX7_change_36 ?_
      exact t_iret hB hr hT (Nat.le_of_ble_eq_true rfl) (Nat.le_of_ble_eq_true rfl) dX7_change_39 ⟨z2_13, (0 : Int32), rfl, hI, hE, hM, ⟨_, _, kn_88, kn_89, r_69, r_70, n_78, n_79, hW⟩, ⟨_, _, kn_91, kn_92, r_72, r_73, n_81, n_82, hN⟩, f_58, (by have q2_ : (-2 : Int32).toInt = -2 := (by decide); have q4_ : (-4 : Int32).toInt = -4 := (by decide); have q1_ : (-1 : Int32).toInt = -1 := (by decide); have q0_ : (0 : Int32).toInt = 0 := (by decide); unfold chR; rw [if_pos (show 0 ≤ n.toInt ∧ n.toInt < sv.toInt from ⟨by omega, by omega⟩), k_true hw_54] <;> omega), (by have q2_ : (-2 : Int32).toInt = -2 := (by decide); have q4_ : (-4 : Int32).toInt = -4 := (by decide); have q1_ : (-1 : Int32).toInt = -1 := (by decide); have q0_ : (0 : Int32).toInt = 0 := (by decide); unfold chZ; omega), (by rw [chb_k ⟨by omega, by omega⟩ hw_54]; exact TK.of (z := z2_13.toInt) (by omega) (by omega) (hPGo_.cast (by omega)) ((congrArg Int32.toInt (hKu n.toNatClampNeg)).trans (by rw [if_pos ⟨rfl, rfl⟩])) (fun i_ hi_ => (hKu i_).trans (if_neg (fun q_ => hi_ q_.2))) hK0 hK1 hK2)⟩
    · refine W.eq (g2 := F0 m 14 ls [.int 0]) rfl ?_
      refine lv_if_ne (tgt := 30) hx hb dX7_change_14 (by decide) (fun c_ => absurd (by decide) c_) (fun c_ => ?_)
      refine lv_aload_n hx hb dX7_change_17 rfl (lv_at hl 0 rfl) ?_
      refine lv_iconst (v := 0) hx hb dX7_change_18 (by decide) ?_
      refine t_put0 (ci := 7) (v := .int 0) hB hT (ro_ci r_24 rfl) (ro_n0 r_24 (by decide)) rfl 29 (by decide) k_774 (Or.inl rfl) rfl rfl dX7_change_19 (fun H locs hT => ?_)
      have hI : Inv (sF g_10 h 29 (.int 0)) := hI.sF (p_8_29 r_24 (⟨_, rfl, by decide, by decide⟩))
      have hM : Sm md_m_change g (sF g_10 h 29 (.int 0)) := hM.tr hE (Sm_sF (by rw [r_24]; rfl))
      have hE : Ex g (sF g_10 h 29 (.int 0)) := hE
      have hW : PL 48 (sF g_10 h 29 (.int 0)) wa pl := hW
      have hc : (sF g_10 h 29 (.int 0)).2.2.2.1 t = ct := hc
      have hWT : WT (sF g_10 h 29 (.int 0)) wt := hWT
      have hn_3 : (sF g_10 h 29 (.int 0)).2.2.2.1 wa = g.2.2.2.1 wa := hn_3
      have hn_4 : (sF g_10 h 29 (.int 0)).2.2.2.1 pl = g.2.2.2.1 pl := hn_4
      have hn_5 : (sF g_10 h 29 (.int 0)).2.2.2.1 wr = g.2.2.2.1 wr := hn_5
      have hn_6 : (sF g_10 h 29 (.int 0)).2.2.2.1 aa = g.2.2.2.1 aa := hn_6
      have hN : PL 8 (sF g_10 h 29 (.int 0)) na pa := hN
      refine lv_bipush (v := (-10)) hx hb dX7_change_22 (by decide) ?_
      refine lv_aload_n hx hb dX7_change_24 rfl (lv_at hl 0 rfl) ?_
      refine t_get (ci := 7) (v := .int s2_12) hB hT (ro_ci r_24 rfl) rfl 36 (by decide) k_781 (sF_k f_16 (by decide)) dX7_change_25 ?_
      refine lv_isub hx hb dX7_change_28 ?_
      refine lv_topi (fun z_96 ez_96 => ?_)
      have e_z_96 : z_96.toInt = (-10) - s2_12.toInt := i_sub ez_96 (by decide) rfl (by omega) (by omega)
      exact t_iret hB hr hT (Nat.le_of_ble_eq_true rfl) (Nat.le_of_ble_eq_true rfl) dX7_change_29 ⟨z_96, (0 : Int32), rfl, hI, hE, hM, ⟨_, _, (sF_k kn_48 (by decide)), (sF_k kn_49 (by decide)), r_28, r_29, n_37, n_38, hW⟩, ⟨_, _, (sF_k kn_51 (by decide)), (sF_k kn_52 (by decide)), r_31, r_32, n_40, n_41, hN⟩, sF_eq, (by have q2_ : (-2 : Int32).toInt = -2 := (by decide); have q4_ : (-4 : Int32).toInt = -4 := (by decide); have q1_ : (-1 : Int32).toInt = -1 := (by decide); have q0_ : (0 : Int32).toInt = 0 := (by decide); unfold chR; rw [if_pos (show 0 ≤ n.toInt ∧ n.toInt < sv.toInt from ⟨by omega, by omega⟩), k_false hw_55] <;> omega), (by have q2_ : (-2 : Int32).toInt = -2 := (by decide); have q4_ : (-4 : Int32).toInt = -4 := (by decide); have q1_ : (-1 : Int32).toInt = -1 := (by decide); have q0_ : (0 : Int32).toInt = 0 := (by decide); unfold chZ; omega), (by rw [chb_k ⟨by omega, by omega⟩ hw_55]; exact Or.inl ⟨rfl, hn_6, hn_3, hn_4, hn_5⟩)⟩
  · refine W.eq (g2 := F0 m 5 ls [.int 0]) rfl ?_
    refine lv_if_ne (tgt := 10) hx hb dX7_change_5 (by decide) (fun c_ => absurd (by decide) c_) (fun c_ => ?_)
    refine lv_iconst (v := (-1)) hx hb dX7_change_8 (by decide) ?_
    exact t_iret hB hr hT (Nat.le_of_ble_eq_true rfl) (Nat.le_of_ble_eq_true rfl) dX7_change_9 ⟨(-1), z, rfl, hI, hE, hM, ⟨_, _, e_wa, e_pl, r_wa, r_pl, n_wa, n_pl, hW⟩, ⟨_, _, e_na, e_pa, r_na, r_pa, n_na, n_pa, hN⟩, kz, (by have q2_ : (-2 : Int32).toInt = -2 := (by decide); have q4_ : (-4 : Int32).toInt = -4 := (by decide); have q1_ : (-1 : Int32).toInt = -1 := (by decide); have q0_ : (0 : Int32).toInt = 0 := (by decide); unfold chR; omega), (by have q2_ : (-2 : Int32).toInt = -2 := (by decide); have q4_ : (-4 : Int32).toInt = -4 := (by decide); have q1_ : (-1 : Int32).toInt = -1 := (by decide); have q0_ : (0 : Int32).toInt = 0 := (by decide); unfold chZ; omega), (by rw [chb_0 (by have q2_ : (-2 : Int32).toInt = -2 := (by decide); have q4_ : (-4 : Int32).toInt = -4 := (by decide); have q1_ : (-1 : Int32).toInt = -1 := (by decide); have q0_ : (0 : Int32).toInt = 0 := (by decide); omega)]; exact Or.inl ⟨rfl, rfl, rfl, rfl, rfl⟩)⟩
abbrev md_m_row : Nat → Nat → Bool := mdf [(8, 30), (80, 99), (81, 99), (82, 99)]
set_option maxHeartbeats 4000000 in
set_option maxRecDepth 100000 in
theorem m_row (l : Launch) (D : va_G) (cI cZ cS cR : ClassId) (N0 : NT) (g : GS) (hI : Inv g) (h : Nat) (n : Int32) (k : Int32) (j : Int32) (sv : Int32) (rz : Int32) (r_h : g.1 h = 8) (ksv : g.2.1 h 0 = .int sv) (krz : g.2.1 h 30 = .int rz) (l_sv : 0 ≤ sv.toInt) (u_sv : sv.toInt ≤ 6) (l_rz : 0 ≤ rz.toInt) (u_rz : rz.toInt ≤ 6) : Ty l D cI cZ cS cR N0 yX7_row cX7_row 4 (some .int) 2 0 0 [.ref h, .int n, .int k, .int j] g (fun v g' => ∃ (r : Int32) (q2 : Int32), v = some (.int r) ∧ Inv g' ∧ Ex g g' ∧ Sm md_m_row g g' ∧ (g'.2.1 h 30 = .int q2) ∧ (r.toInt = roR sv.toInt rz.toInt n.toInt k.toInt j.toInt) ∧ (q2.toInt = roQ sv.toInt rz.toInt n.toInt k.toInt j.toInt)) := by
  refine t_enter (by decide) (Nat.le_of_ble_eq_true rfl) ?_
  intro p e s m args below meth c ls H locs hB hr hin hl hT
  have hx := hB.1
  have hb := hB.2.1
  have hl : lv_has ls 4 [(0, .ref h), (1, .int n), (2, .int k), (3, .int j)] := hl
  have hE : Ex g g := Ex.rf
  have hM : Sm md_m_row g g := Sm.rf
  refine lv_aload_n hx hb dX7_row_0 rfl (lv_at hl 0 rfl) ?_
  refine lv_iload_n hx hb dX7_row_1 rfl (lv_at hl 1 rfl) ?_
  refine t_callV (n := 1) (As := [.int n]) (rest := []) (ci := 7) hB hT hl.1 (m_isService l D cI cZ cS cR N0 g hI h n sv r_h ksv (by omega) (by omega)) (ro_ci r_h rfl) rfl k_991 k_65 k_988 k_990 k_27 (by decide +kernel) ⟨(Nat.le_of_ble_eq_true rfl), (Nat.le_of_ble_eq_true rfl)⟩ rfl (Nat.le_of_ble_eq_true rfl) ⟨(Nat.le_of_ble_eq_true rfl), (Nat.le_of_ble_eq_true rfl)⟩ dX7_row_2 (fun v g_1 H locs hp hT => ?_)
  obtain ⟨r_2, rfl, eg, f_3⟩ := hp
  rw [eg] at hT
  clear eg
  refine W.eq (g2 := F0 m 5 ls [.int r_2]) rfl ?_
  rcases f_3 with ⟨rfl, hw_6, hw_7⟩ | ⟨rfl, hw_8⟩
  · refine W.eq (g2 := F0 m 5 ls [.int 1]) rfl ?_
    refine lv_if_ne (tgt := 10) hx hb dX7_row_5 (by decide) (fun c_ => ?_) (fun c_ => absurd c_ (by decide))
    refine lv_iload_n hx hb dX7_row_10 rfl (lv_at hl 2 rfl) ?_
    refine lv_iconst (v := 0) hx hb dX7_row_11 (by decide) ?_
    refine lv_sipush (v := 999) hx hb dX7_row_12 (by decide) ?_
    refine t_callS (n := 3) (As := [.int k, .int 0, .int 999]) (rest := []) hB hT hl.1 (m_in l D cI cZ cS cR N0 g hI k 0 999 ) k_954 k_65 k_952 k_953 (by decide +kernel) ⟨(Nat.le_of_ble_eq_true rfl), (Nat.le_of_ble_eq_true rfl)⟩ rfl (Nat.le_of_ble_eq_true rfl) ⟨(Nat.le_of_ble_eq_true rfl), (Nat.le_of_ble_eq_true rfl)⟩ dX7_row_15 (fun v g_9 H locs hp hT => ?_)
    obtain ⟨r_10, rfl, eg, f_11⟩ := hp
    rw [eg] at hT
    clear eg
    refine W.eq (g2 := F0 m 18 ls [.int r_10]) rfl ?_
    have qc_14 : (0 : Int32).toInt = 0 := (by decide)
    have qc_15 : (999 : Int32).toInt = 999 := (by decide)
    rcases f_11 with ⟨rfl, hw_16, hw_17⟩ | ⟨rfl, hw_18⟩
    · refine W.eq (g2 := F0 m 18 ls [.int 1]) rfl ?_
      refine lv_if_eq (tgt := 31) hx hb dX7_row_18 (by decide) (fun c_ => absurd c_ (by decide)) (fun c_ => ?_)
      refine lv_iload_n hx hb dX7_row_21 rfl (lv_at hl 3 rfl) ?_
      refine lv_iconst (v := 0) hx hb dX7_row_22 (by decide) ?_
      refine lv_bipush (v := 99) hx hb dX7_row_23 (by decide) ?_
      refine t_callS (n := 3) (As := [.int j, .int 0, .int 99]) (rest := []) hB hT hl.1 (m_in l D cI cZ cS cR N0 g hI j 0 99 ) k_954 k_65 k_952 k_953 (by decide +kernel) ⟨(Nat.le_of_ble_eq_true rfl), (Nat.le_of_ble_eq_true rfl)⟩ rfl (Nat.le_of_ble_eq_true rfl) ⟨(Nat.le_of_ble_eq_true rfl), (Nat.le_of_ble_eq_true rfl)⟩ dX7_row_25 (fun v g_19 H locs hp hT => ?_)
      obtain ⟨r_20, rfl, eg, f_21⟩ := hp
      rw [eg] at hT
      clear eg
      refine W.eq (g2 := F0 m 28 ls [.int r_20]) rfl ?_
      have qc_24 : (0 : Int32).toInt = 0 := (by decide)
      have qc_25 : (99 : Int32).toInt = 99 := (by decide)
      rcases f_21 with ⟨rfl, hw_26, hw_27⟩ | ⟨rfl, hw_28⟩
      · refine W.eq (g2 := F0 m 28 ls [.int 1]) rfl ?_
        refine lv_if_ne (tgt := 34) hx hb dX7_row_28 (by decide) (fun c_ => ?_) (fun c_ => absurd c_ (by decide))
        refine lv_aload_n hx hb dX7_row_34 rfl (lv_at hl 0 rfl) ?_
        refine t_get (ci := 7) (v := .int rz) hB hT (ro_ci r_h rfl) rfl 30 (by decide) k_775 krz dX7_row_35 ?_
        refine lv_bipush (v := 6) hx hb dX7_row_38 (by decide) ?_
        refine lv_icmp_ne (tgt := 46) hx hb dX7_row_40 (by decide) (fun c_29 => ?_) (fun c_29 => ?_)
        · have c_29' : rz.toInt ≠ 6 := i_ne c_29 rfl (by decide)
          refine lv_aload_n hx hb dX7_row_46 rfl (lv_at hl 0 rfl) ?_
          obtain ⟨v_30, e_v_30, r_v_30, n_v_30⟩ := f_8_31 hI r_h
          refine t_get (ci := 7) (v := .ref v_30) hB hT (ro_ci r_h rfl) rfl 31 (by decide) k_776 e_v_30 dX7_row_47 ?_
          refine lv_aload_n hx hb dX7_row_50 rfl (lv_at hl 0 rfl) ?_
          refine t_get (ci := 7) (v := .int rz) hB hT (ro_ci r_h rfl) rfl 30 (by decide) k_775 krz dX7_row_51 ?_
          refine lv_iload_n hx hb dX7_row_54 rfl (lv_at hl 1 rfl) ?_
          have i_31 : vp_in rz 6 := (i_in (n := 6) rfl (by omega) (by omega))
          refine t_iast hB hT (ro_in r_v_30 (by decide)) n_v_30 i_31 dX7_row_55 (fun H locs hT => ?_)
          have hI : Inv (sC g v_30 rz.toNatClampNeg n) := hI.sC (ck r_v_30 ⟨by omega, by omega⟩)
          have hM : Sm md_m_row g (sC g v_30 rz.toNatClampNeg n) := hM.tr hE (Sm_sC (by rw [r_v_30]; rfl))
          have hE : Ex g (sC g v_30 rz.toNatClampNeg n) := hE
          refine lv_aload_n hx hb dX7_row_56 rfl (lv_at hl 0 rfl) ?_
          obtain ⟨v_32, e_v_32, r_v_32, n_v_32⟩ := f_8_32 hI r_h
          refine t_get (ci := 7) (v := .ref v_32) hB hT (ro_ci r_h rfl) rfl 32 (by decide) k_777 e_v_32 dX7_row_57 ?_
          refine lv_aload_n hx hb dX7_row_60 rfl (lv_at hl 0 rfl) ?_
          refine t_get (ci := 7) (v := .int rz) hB hT (ro_ci r_h rfl) rfl 30 (by decide) k_775 krz dX7_row_61 ?_
          refine lv_iload_n hx hb dX7_row_64 rfl (lv_at hl 2 rfl) ?_
          have i_33 : vp_in rz 6 := (i_in (n := 6) rfl (by omega) (by omega))
          refine t_iast hB hT (ro_in r_v_32 (by decide)) n_v_32 i_33 dX7_row_65 (fun H locs hT => ?_)
          have hI : Inv (sC (sC g v_30 rz.toNatClampNeg n) v_32 rz.toNatClampNeg k) := hI.sC (ck r_v_32 ⟨by omega, by omega⟩)
          have hM : Sm md_m_row g (sC (sC g v_30 rz.toNatClampNeg n) v_32 rz.toNatClampNeg k) := hM.tr hE (Sm_sC (by rw [r_v_32]; rfl))
          have hE : Ex g (sC (sC g v_30 rz.toNatClampNeg n) v_32 rz.toNatClampNeg k) := hE
          refine lv_aload_n hx hb dX7_row_66 rfl (lv_at hl 0 rfl) ?_
          obtain ⟨v_34, e_v_34, r_v_34, n_v_34⟩ := f_8_33 hI r_h
          refine t_get (ci := 7) (v := .ref v_34) hB hT (ro_ci r_h rfl) rfl 33 (by decide) k_778 e_v_34 dX7_row_67 ?_
          refine lv_aload_n hx hb dX7_row_70 rfl (lv_at hl 0 rfl) ?_
          refine t_get (ci := 7) (v := .int rz) hB hT (ro_ci r_h rfl) rfl 30 (by decide) k_775 krz dX7_row_71 ?_
          refine lv_iload_n hx hb dX7_row_74 rfl (lv_at hl 3 rfl) ?_
          have i_35 : vp_in rz 6 := (i_in (n := 6) rfl (by omega) (by omega))
          refine t_iast hB hT (ro_in r_v_34 (by decide)) n_v_34 i_35 dX7_row_75 (fun H locs hT => ?_)
          have hI : Inv (sC (sC (sC g v_30 rz.toNatClampNeg n) v_32 rz.toNatClampNeg k) v_34 rz.toNatClampNeg j) := hI.sC (ck r_v_34 trivial)
          have hM : Sm md_m_row g (sC (sC (sC g v_30 rz.toNatClampNeg n) v_32 rz.toNatClampNeg k) v_34 rz.toNatClampNeg j) := hM.tr hE (Sm_sC (by rw [r_v_34]; rfl))
          have hE : Ex g (sC (sC (sC g v_30 rz.toNatClampNeg n) v_32 rz.toNatClampNeg k) v_34 rz.toNatClampNeg j) := hE
          refine lv_aload_n hx hb dX7_row_76 rfl (lv_at hl 0 rfl) ?_
          refine lv_dup hx hb dX7_row_77 rfl ?_
          refine t_get (ci := 7) (v := .int rz) hB hT (ro_ci r_h rfl) rfl 30 (by decide) k_775 krz dX7_row_78 ?_
          refine lv_iconst (v := 1) hx hb dX7_row_81 (by decide) ?_
          refine lv_iadd hx hb dX7_row_82 ?_
          refine lv_topi (fun z_36 ez_36 => ?_)
          have e_z_36 : z_36.toInt = rz.toInt + 1 := i_add ez_36 rfl (by decide) (by omega) (by omega)
          refine t_put0 (ci := 7) (v := .int z_36) hB hT (ro_ci r_h rfl) (ro_n0 r_h (by decide)) rfl 30 (by decide) k_775 (Or.inl rfl) rfl rfl dX7_row_83 (fun H locs hT => ?_)
          have hI : Inv (sF (sC (sC (sC g v_30 rz.toNatClampNeg n) v_32 rz.toNatClampNeg k) v_34 rz.toNatClampNeg j) h 30 (.int z_36)) := hI.sF (p_8_30 r_h (⟨_, rfl, by omega, by omega⟩))
          have hM : Sm md_m_row g (sF (sC (sC (sC g v_30 rz.toNatClampNeg n) v_32 rz.toNatClampNeg k) v_34 rz.toNatClampNeg j) h 30 (.int z_36)) := hM.tr hE (Sm_sF (by rw [r_h]; rfl))
          have hE : Ex g (sF (sC (sC (sC g v_30 rz.toNatClampNeg n) v_32 rz.toNatClampNeg k) v_34 rz.toNatClampNeg j) h 30 (.int z_36)) := hE
          refine lv_aload_n hx hb dX7_row_86 rfl (lv_at hl 0 rfl) ?_
          refine t_get (ci := 7) (v := .int z_36) hB hT (ro_ci r_h rfl) rfl 30 (by decide) k_775 sF_eq dX7_row_87 ?_
          exact t_iret hB hr hT (Nat.le_of_ble_eq_true rfl) (Nat.le_of_ble_eq_true rfl) dX7_row_90 ⟨z_36, z_36, rfl, hI, hE, hM, sF_eq, (by have q2_ : (-2 : Int32).toInt = -2 := (by decide); have q4_ : (-4 : Int32).toInt = -4 := (by decide); have q1_ : (-1 : Int32).toInt = -1 := (by decide); have q0_ : (0 : Int32).toInt = 0 := (by decide); unfold roR; omega), (by have q2_ : (-2 : Int32).toInt = -2 := (by decide); have q4_ : (-4 : Int32).toInt = -4 := (by decide); have q1_ : (-1 : Int32).toInt = -1 := (by decide); have q0_ : (0 : Int32).toInt = 0 := (by decide); unfold roQ; omega)⟩
        · have c_29' : rz.toInt = 6 := i_eq c_29 rfl (by decide)
          refine lv_bipush (v := (-4)) hx hb dX7_row_43 (by decide) ?_
          exact t_iret hB hr hT (Nat.le_of_ble_eq_true rfl) (Nat.le_of_ble_eq_true rfl) dX7_row_45 ⟨(-4), rz, rfl, hI, hE, hM, krz, (by have q2_ : (-2 : Int32).toInt = -2 := (by decide); have q4_ : (-4 : Int32).toInt = -4 := (by decide); have q1_ : (-1 : Int32).toInt = -1 := (by decide); have q0_ : (0 : Int32).toInt = 0 := (by decide); unfold roR; omega), (by have q2_ : (-2 : Int32).toInt = -2 := (by decide); have q4_ : (-4 : Int32).toInt = -4 := (by decide); have q1_ : (-1 : Int32).toInt = -1 := (by decide); have q0_ : (0 : Int32).toInt = 0 := (by decide); unfold roQ; omega)⟩
      · refine W.eq (g2 := F0 m 28 ls [.int 0]) rfl ?_
        refine lv_if_ne (tgt := 34) hx hb dX7_row_28 (by decide) (fun c_ => absurd (by decide) c_) (fun c_ => ?_)
        refine lv_bipush (v := (-2)) hx hb dX7_row_31 (by decide) ?_
        exact t_iret hB hr hT (Nat.le_of_ble_eq_true rfl) (Nat.le_of_ble_eq_true rfl) dX7_row_33 ⟨(-2), rz, rfl, hI, hE, hM, krz, (by have q2_ : (-2 : Int32).toInt = -2 := (by decide); have q4_ : (-4 : Int32).toInt = -4 := (by decide); have q1_ : (-1 : Int32).toInt = -1 := (by decide); have q0_ : (0 : Int32).toInt = 0 := (by decide); unfold roR; omega), (by have q2_ : (-2 : Int32).toInt = -2 := (by decide); have q4_ : (-4 : Int32).toInt = -4 := (by decide); have q1_ : (-1 : Int32).toInt = -1 := (by decide); have q0_ : (0 : Int32).toInt = 0 := (by decide); unfold roQ; omega)⟩
    · refine W.eq (g2 := F0 m 18 ls [.int 0]) rfl ?_
      refine lv_if_eq (tgt := 31) hx hb dX7_row_18 (by decide) (fun c_ => ?_) (fun c_ => absurd (by decide) c_)
      refine lv_bipush (v := (-2)) hx hb dX7_row_31 (by decide) ?_
      exact t_iret hB hr hT (Nat.le_of_ble_eq_true rfl) (Nat.le_of_ble_eq_true rfl) dX7_row_33 ⟨(-2), rz, rfl, hI, hE, hM, krz, (by have q2_ : (-2 : Int32).toInt = -2 := (by decide); have q4_ : (-4 : Int32).toInt = -4 := (by decide); have q1_ : (-1 : Int32).toInt = -1 := (by decide); have q0_ : (0 : Int32).toInt = 0 := (by decide); unfold roR; omega), (by have q2_ : (-2 : Int32).toInt = -2 := (by decide); have q4_ : (-4 : Int32).toInt = -4 := (by decide); have q1_ : (-1 : Int32).toInt = -1 := (by decide); have q0_ : (0 : Int32).toInt = 0 := (by decide); unfold roQ; omega)⟩
  · refine W.eq (g2 := F0 m 5 ls [.int 0]) rfl ?_
    refine lv_if_ne (tgt := 10) hx hb dX7_row_5 (by decide) (fun c_ => absurd (by decide) c_) (fun c_ => ?_)
    refine lv_iconst (v := (-1)) hx hb dX7_row_8 (by decide) ?_
    exact t_iret hB hr hT (Nat.le_of_ble_eq_true rfl) (Nat.le_of_ble_eq_true rfl) dX7_row_9 ⟨(-1), rz, rfl, hI, hE, hM, krz, (by have q2_ : (-2 : Int32).toInt = -2 := (by decide); have q4_ : (-4 : Int32).toInt = -4 := (by decide); have q1_ : (-1 : Int32).toInt = -1 := (by decide); have q0_ : (0 : Int32).toInt = 0 := (by decide); unfold roR; omega), (by have q2_ : (-2 : Int32).toInt = -2 := (by decide); have q4_ : (-4 : Int32).toInt = -4 := (by decide); have q1_ : (-1 : Int32).toInt = -1 := (by decide); have q0_ : (0 : Int32).toInt = 0 := (by decide); unfold roQ; omega)⟩
abbrev md_m_clear : Nat → Nat → Bool := mdf [(8, 30)]
set_option maxHeartbeats 4000000 in
set_option maxRecDepth 100000 in
theorem m_clear (l : Launch) (D : va_G) (cI cZ cS cR : ClassId) (N0 : NT) (g : GS) (hI : Inv g) (h : Nat) (rz : Int32) (r_h : g.1 h = 8) (krz : g.2.1 h 30 = .int rz) (l_rz : 0 ≤ rz.toInt) (u_rz : rz.toInt ≤ 6) : Ty l D cI cZ cS cR N0 yX7_clear cX7_clear 2 (some .int) 0 0 0 [.ref h] g (fun v g' => ∃ (r : Int32), v = some (.int r) ∧ Inv g' ∧ Ex g g' ∧ Sm md_m_clear g g' ∧ (g'.2.1 h 30 = .int 0) ∧ (r = rz)) := by
  refine t_enter (by decide) (Nat.le_of_ble_eq_true rfl) ?_
  intro p e s m args below meth c ls H locs hB hr hin hl hT
  have hx := hB.1
  have hb := hB.2.1
  have hl : lv_has ls 2 [(0, .ref h)] := hl
  have hE : Ex g g := Ex.rf
  have hM : Sm md_m_clear g g := Sm.rf
  refine lv_aload_n hx hb dX7_clear_0 rfl (lv_at hl 0 rfl) ?_
  refine t_get (ci := 7) (v := .int rz) hB hT (ro_ci r_h rfl) rfl 30 (by decide) k_775 krz dX7_clear_1 ?_
  refine lv_istore_n (lv' := [(1, .int rz), (0, .ref h)]) hx hb dX7_clear_4 rfl hl (by decide) rfl (fun ls hl => ?_)
  refine lv_aload_n hx hb dX7_clear_5 rfl (lv_at hl 1 rfl) ?_
  refine lv_iconst (v := 0) hx hb dX7_clear_6 (by decide) ?_
  refine t_put0 (ci := 7) (v := .int 0) hB hT (ro_ci r_h rfl) (ro_n0 r_h (by decide)) rfl 30 (by decide) k_775 (Or.inl rfl) rfl rfl dX7_clear_7 (fun H locs hT => ?_)
  have hI : Inv (sF g h 30 (.int 0)) := hI.sF (p_8_30 r_h (⟨_, rfl, by decide, by decide⟩))
  have hM : Sm md_m_clear g (sF g h 30 (.int 0)) := hM.tr hE (Sm_sF (by rw [r_h]; rfl))
  have hE : Ex g (sF g h 30 (.int 0)) := hE
  refine lv_iload_n hx hb dX7_clear_10 rfl (lv_at hl 0 rfl) ?_
  exact t_iret hB hr hT (Nat.le_of_ble_eq_true rfl) (Nat.le_of_ble_eq_true rfl) dX7_clear_11 ⟨rz, rfl, hI, hE, hM, sF_eq, rfl⟩
abbrev md_m_act : Nat → Nat → Bool := mdf []
set_option maxHeartbeats 4000000 in
set_option maxRecDepth 100000 in
theorem m_act (l : Launch) (D : va_G) (cI cZ cS cR : ClassId) (N0 : NT) (g : GS) (hI : Inv g) (h : Nat) (n : Int32) (k : Int32) (j : Int32) (sv : Int32) (aa : Nat) (wo : Nat) (pl : Nat) (wr : Nat) (r_h : g.1 h = 8) (r_aa : g.1 aa = 88) (n_aa : g.2.2.1 aa = 6) (r_wo : g.1 wo = 71) (n_wo : g.2.2.1 wo = 48) (r_pl : g.1 pl = 72) (n_pl : g.2.2.1 pl = 48) (r_wr : g.1 wr = 73) (n_wr : g.2.2.1 wr = 48) (ksv : g.2.1 h 0 = .int sv) (kaa : g.2.1 h 1 = .ref aa) (kwo : g.2.1 h 2 = .ref wo) (kpl : g.2.1 h 3 = .ref pl) (kwr : g.2.1 h 4 = .ref wr) (l_sv : 0 ≤ sv.toInt) (u_sv : sv.toInt ≤ 6) : Ty l D cI cZ cS cR N0 yX7_act cX7_act 5 (some .int) 2 0 0 [.ref h, .int n, .int k, .int j] g (fun v g' => ∃ (r : Int32), v = some (.int r) ∧ Inv g' ∧ Ex g g' ∧ Sm md_m_act g g' ∧ (r = amR g aa wo pl wr sv.toInt n.toInt k.toInt j.toInt n.toNatClampNeg k.toNatClampNeg)) := by
  refine t_enter (by decide) (Nat.le_of_ble_eq_true rfl) ?_
  intro p e s m args below meth c ls H locs hB hr hin hl hT
  have hx := hB.1
  have hb := hB.2.1
  have hl : lv_has ls 5 [(0, .ref h), (1, .int n), (2, .int k), (3, .int j)] := hl
  have hE : Ex g g := Ex.rf
  have hM : Sm md_m_act g g := Sm.rf
  refine lv_aload_n hx hb dX7_act_0 rfl (lv_at hl 0 rfl) ?_
  refine lv_iload_n hx hb dX7_act_1 rfl (lv_at hl 1 rfl) ?_
  refine t_callV (n := 1) (As := [.int n]) (rest := []) (ci := 7) hB hT hl.1 (m_isService l D cI cZ cS cR N0 g hI h n sv r_h ksv (by omega) (by omega)) (ro_ci r_h rfl) rfl k_991 k_65 k_988 k_990 k_27 (by decide +kernel) ⟨(Nat.le_of_ble_eq_true rfl), (Nat.le_of_ble_eq_true rfl)⟩ rfl (Nat.le_of_ble_eq_true rfl) ⟨(Nat.le_of_ble_eq_true rfl), (Nat.le_of_ble_eq_true rfl)⟩ dX7_act_2 (fun v g_1 H locs hp hT => ?_)
  obtain ⟨r_2, rfl, eg, f_3⟩ := hp
  rw [eg] at hT
  clear eg
  refine W.eq (g2 := F0 m 5 ls [.int r_2]) rfl ?_
  rcases f_3 with ⟨rfl, hw_6, hw_7⟩ | ⟨rfl, hw_8⟩
  · refine W.eq (g2 := F0 m 5 ls [.int 1]) rfl ?_
    refine lv_if_eq (tgt := 24) hx hb dX7_act_5 (by decide) (fun c_ => absurd c_ (by decide)) (fun c_ => ?_)
    refine lv_iload_n hx hb dX7_act_8 rfl (lv_at hl 2 rfl) ?_
    refine lv_iconst (v := 0) hx hb dX7_act_9 (by decide) ?_
    refine lv_aload_n hx hb dX7_act_10 rfl (lv_at hl 0 rfl) ?_
    refine t_get (ci := 7) (v := .ref aa) hB hT (ro_ci r_h rfl) rfl 1 (by decide) k_746 kaa dX7_act_11 ?_
    refine lv_iload_n hx hb dX7_act_14 rfl (lv_at hl 1 rfl) ?_
    have i_u_9 : vp_in n 6 := (i_in (n := 6) rfl (by omega) (by omega))
    refine t_iald hB hT (ro_in r_aa (by decide)) n_aa i_u_9 rfl dX7_act_15 ?_
    have c_u_9 := hI.c r_aa n_aa (i_cl i_u_9)
    refine lv_topi (fun u_9 e_u_9 => ?_)
    obtain ⟨l_u_9, u_u_9⟩ := c_u_9
    rw [← e_u_9] at l_u_9 u_u_9
    refine lv_iconst (v := 1) hx hb dX7_act_16 (by decide) ?_
    refine lv_isub hx hb dX7_act_17 ?_
    refine lv_topi (fun z_10 ez_10 => ?_)
    have e_z_10 : z_10.toInt = u_9.toInt - 1 := i_sub ez_10 rfl (by decide) (by omega) (by omega)
    refine t_callS (n := 3) (As := [.int k, .int 0, .int z_10]) (rest := []) hB hT hl.1 (m_in l D cI cZ cS cR N0 g hI k 0 z_10 ) k_954 k_65 k_952 k_953 (by decide +kernel) ⟨(Nat.le_of_ble_eq_true rfl), (Nat.le_of_ble_eq_true rfl)⟩ rfl (Nat.le_of_ble_eq_true rfl) ⟨(Nat.le_of_ble_eq_true rfl), (Nat.le_of_ble_eq_true rfl)⟩ dX7_act_18 (fun v g_11 H locs hp hT => ?_)
    obtain ⟨r_12, rfl, eg, f_13⟩ := hp
    rw [eg] at hT
    clear eg
    refine W.eq (g2 := F0 m 21 ls [.int r_12]) rfl ?_
    have qc_16 : (0 : Int32).toInt = 0 := (by decide)
    rcases f_13 with ⟨rfl, hw_17, hw_18⟩ | ⟨rfl, hw_19⟩
    · refine W.eq (g2 := F0 m 21 ls [.int 1]) rfl ?_
      refine lv_if_ne (tgt := 26) hx hb dX7_act_21 (by decide) (fun c_ => ?_) (fun c_ => absurd c_ (by decide))
      refine lv_bipush (v := 8) hx hb dX7_act_26 (by decide) ?_
      refine lv_iload_n hx hb dX7_act_28 rfl (lv_at hl 1 rfl) ?_
      refine lv_imul hx hb dX7_act_29 ?_
      refine lv_topi (fun z_20 ez_20 => ?_)
      have e_z_20 : z_20.toInt = 8 * n.toInt := i_mul ez_20 (by decide) rfl (by omega) (by omega)
      refine lv_iload_n hx hb dX7_act_30 rfl (lv_at hl 2 rfl) ?_
      refine lv_iadd hx hb dX7_act_31 ?_
      refine lv_topi (fun z_21 ez_21 => ?_)
      have e_z_21 : z_21.toInt = z_20.toInt + k.toInt := i_add ez_21 rfl rfl (by omega) (by omega)
      refine lv_istore (lv' := [(4, .int z_21), (0, .ref h), (1, .int n), (2, .int k), (3, .int j)]) hx hb dX7_act_32 hl (by decide) rfl (fun ls hl => ?_)
      refine lv_iload_n hx hb dX7_act_34 rfl (lv_at hl 4 rfl) ?_
      refine lv_if_ne (tgt := 48) hx hb dX7_act_35 (by decide) (fun c_22 => ?_) (fun c_22 => ?_)
      · have c_22' : j.toInt ≠ 0 := i_ne c_22 rfl (by decide)
        refine lv_iload_n hx hb dX7_act_48 rfl (lv_at hl 4 rfl) ?_
        refine lv_iconst (v := 1) hx hb dX7_act_49 (by decide) ?_
        refine lv_icmp_ne (tgt := 63) hx hb dX7_act_50 (by decide) (fun c_23 => ?_) (fun c_23 => ?_)
        · have c_23' : j.toInt ≠ 1 := i_ne c_23 rfl (by decide)
          refine lv_iload_n hx hb dX7_act_63 rfl (lv_at hl 4 rfl) ?_
          refine lv_iconst (v := 2) hx hb dX7_act_64 (by decide) ?_
          refine lv_icmp_ne (tgt := 78) hx hb dX7_act_65 (by decide) (fun c_24 => ?_) (fun c_24 => ?_)
          · have c_24' : j.toInt ≠ 2 := i_ne c_24 rfl (by decide)
            refine lv_iconst (v := (-1)) hx hb dX7_act_78 (by decide) ?_
            have hzu_ : u_9.toInt = (g.2.2.2.1 aa n.toNatClampNeg).toInt := congrArg Int32.toInt e_u_9
            exact t_iret hB hr hT (Nat.le_of_ble_eq_true rfl) (Nat.le_of_ble_eq_true rfl) dX7_act_79 ⟨(-1), rfl, hI, hE, hM, (am_y ⟨by omega, by omega⟩ (lgM_3 ⟨by omega, by omega⟩ (by omega) (by omega) (by omega)))⟩
          · have c_24' : j.toInt = 2 := i_eq c_24 rfl (by decide)
            refine lv_aload_n hx hb dX7_act_68 rfl (lv_at hl 1 rfl) ?_
            refine t_get (ci := 7) (v := .ref wr) hB hT (ro_ci r_h rfl) rfl 4 (by decide) k_749 kwr dX7_act_69 ?_
            refine lv_iload hx hb dX7_act_72 (lv_at hl 0 rfl) ?_
            have i_u_25 : vp_in z_21 48 := (i_in (n := 48) rfl (by omega) (by omega))
            refine t_iald hB hT (ro_in r_wr (by decide)) n_wr i_u_25 rfl dX7_act_74 ?_
            have c_u_25 := hI.c r_wr n_wr (i_cl i_u_25)
            refine lv_topi (fun u_25 e_u_25 => ?_)
            obtain ⟨l_u_25, u_u_25⟩ := c_u_25
            rw [← e_u_25] at l_u_25 u_u_25
            refine lv_goto (tgt := 79) hx hb dX7_act_75 (by decide) ?_
            have hzu_ : u_9.toInt = (g.2.2.2.1 aa n.toNatClampNeg).toInt := congrArg Int32.toInt e_u_9
            have hat_ : z_21.toNatClampNeg = 8 * n.toNatClampNeg + k.toNatClampNeg := (by have q1_ : (z_21.toNatClampNeg : Int) = z_21.toInt := Int.toNat_of_nonneg (by omega); have q2_ : (n.toNatClampNeg : Int) = n.toInt := Int.toNat_of_nonneg (by omega); have q3_ : (k.toNatClampNeg : Int) = k.toInt := Int.toNat_of_nonneg (by omega); omega)
            exact t_iret hB hr hT (Nat.le_of_ble_eq_true rfl) (Nat.le_of_ble_eq_true rfl) dX7_act_79 ⟨u_25, rfl, hI, hE, hM, (am_y ⟨by omega, by omega⟩ (lgR_2 ⟨by omega, by omega⟩ (by omega) (e_u_25.trans (congrArg _ hat_))))⟩
        · have c_23' : j.toInt = 1 := i_eq c_23 rfl (by decide)
          refine lv_aload_n hx hb dX7_act_53 rfl (lv_at hl 1 rfl) ?_
          refine t_get (ci := 7) (v := .ref pl) hB hT (ro_ci r_h rfl) rfl 3 (by decide) k_748 kpl dX7_act_54 ?_
          refine lv_iload hx hb dX7_act_57 (lv_at hl 0 rfl) ?_
          have i_u_26 : vp_in z_21 48 := (i_in (n := 48) rfl (by omega) (by omega))
          refine t_iald hB hT (ro_in r_pl (by decide)) n_pl i_u_26 rfl dX7_act_59 ?_
          have c_u_26 := hI.c r_pl n_pl (i_cl i_u_26)
          refine lv_topi (fun u_26 e_u_26 => ?_)
          obtain ⟨l_u_26, u_u_26⟩ := c_u_26
          rw [← e_u_26] at l_u_26 u_u_26
          refine lv_goto (tgt := 79) hx hb dX7_act_60 (by decide) ?_
          have hzu_ : u_9.toInt = (g.2.2.2.1 aa n.toNatClampNeg).toInt := congrArg Int32.toInt e_u_9
          have hat_ : z_21.toNatClampNeg = 8 * n.toNatClampNeg + k.toNatClampNeg := (by have q1_ : (z_21.toNatClampNeg : Int) = z_21.toInt := Int.toNat_of_nonneg (by omega); have q2_ : (n.toNatClampNeg : Int) = n.toInt := Int.toNat_of_nonneg (by omega); have q3_ : (k.toNatClampNeg : Int) = k.toInt := Int.toNat_of_nonneg (by omega); omega)
          exact t_iret hB hr hT (Nat.le_of_ble_eq_true rfl) (Nat.le_of_ble_eq_true rfl) dX7_act_79 ⟨u_26, rfl, hI, hE, hM, (am_y ⟨by omega, by omega⟩ (lgR_1 ⟨by omega, by omega⟩ (by omega) (e_u_26.trans (congrArg _ hat_))))⟩
      · have c_22' : j.toInt = 0 := i_eq c_22 rfl (by decide)
        refine lv_aload_n hx hb dX7_act_38 rfl (lv_at hl 1 rfl) ?_
        refine t_get (ci := 7) (v := .ref wo) hB hT (ro_ci r_h rfl) rfl 2 (by decide) k_747 kwo dX7_act_39 ?_
        refine lv_iload hx hb dX7_act_42 (lv_at hl 0 rfl) ?_
        have i_u_27 : vp_in z_21 48 := (i_in (n := 48) rfl (by omega) (by omega))
        refine t_iald hB hT (ro_in r_wo (by decide)) n_wo i_u_27 rfl dX7_act_44 ?_
        refine lv_topi (fun u_27 e_u_27 => ?_)
        refine lv_goto (tgt := 79) hx hb dX7_act_45 (by decide) ?_
        have hzu_ : u_9.toInt = (g.2.2.2.1 aa n.toNatClampNeg).toInt := congrArg Int32.toInt e_u_9
        have hat_ : z_21.toNatClampNeg = 8 * n.toNatClampNeg + k.toNatClampNeg := (by have q1_ : (z_21.toNatClampNeg : Int) = z_21.toInt := Int.toNat_of_nonneg (by omega); have q2_ : (n.toNatClampNeg : Int) = n.toInt := Int.toNat_of_nonneg (by omega); have q3_ : (k.toNatClampNeg : Int) = k.toInt := Int.toNat_of_nonneg (by omega); omega)
        exact t_iret hB hr hT (Nat.le_of_ble_eq_true rfl) (Nat.le_of_ble_eq_true rfl) dX7_act_79 ⟨u_27, rfl, hI, hE, hM, (am_y ⟨by omega, by omega⟩ (lgR_0 ⟨by omega, by omega⟩ (by omega) (e_u_27.trans (congrArg _ hat_))))⟩
    · refine W.eq (g2 := F0 m 21 ls [.int 0]) rfl ?_
      refine lv_if_ne (tgt := 26) hx hb dX7_act_21 (by decide) (fun c_ => absurd (by decide) c_) (fun c_ => ?_)
      refine lv_iconst (v := (-1)) hx hb dX7_act_24 (by decide) ?_
      have hzu_ : u_9.toInt = (g.2.2.2.1 aa n.toNatClampNeg).toInt := congrArg Int32.toInt e_u_9
      exact t_iret hB hr hT (Nat.le_of_ble_eq_true rfl) (Nat.le_of_ble_eq_true rfl) dX7_act_25 ⟨(-1), rfl, hI, hE, hM, (am_y ⟨by omega, by omega⟩ (lgR_n (by have q0_ : (0 : Int32).toInt = 0 := (by decide); omega)))⟩
  · refine W.eq (g2 := F0 m 5 ls [.int 0]) rfl ?_
    refine lv_if_eq (tgt := 24) hx hb dX7_act_5 (by decide) (fun c_ => ?_) (fun c_ => absurd (by decide) c_)
    refine lv_iconst (v := (-1)) hx hb dX7_act_24 (by decide) ?_
    exact t_iret hB hr hT (Nat.le_of_ble_eq_true rfl) (Nat.le_of_ble_eq_true rfl) dX7_act_25 ⟨(-1), rfl, hI, hE, hM, (am_n (by have q0_ : (0 : Int32).toInt = 0 := (by decide); omega))⟩
abbrev md_m_mend : Nat → Nat → Bool := mdf [(74, 99)]
set_option maxHeartbeats 4000000 in
set_option maxRecDepth 100000 in
theorem m_mend (l : Launch) (D : va_G) (cI cZ cS cR : ClassId) (N0 : NT) (g : GS) (hI : Inv g) (h : Nat) (n : Int32) (k : Int32) (j : Int32) (r_h : g.1 h = 8) : Ty l D cI cZ cS cR N0 yX7_mend cX7_mend 5 (some .int) 2 0 0 [.ref h, .int n, .int k, .int j] g (fun v g' => ∃ (r : Int32), v = some (.int r) ∧ Inv g' ∧ Ex g g' ∧ Sm md_m_mend g g') := by
  refine t_enter (by decide) (Nat.le_of_ble_eq_true rfl) ?_
  intro p e s m args below meth c ls H locs hB hr hin hl hT
  have hx := hB.1
  have hb := hB.2.1
  have hl : lv_has ls 5 [(0, .ref h), (1, .int n), (2, .int k), (3, .int j)] := hl
  have hE : Ex g g := Ex.rf
  have hM : Sm md_m_mend g g := Sm.rf
  refine lv_aload_n hx hb dX7_mend_0 rfl (lv_at hl 0 rfl) ?_
  refine lv_iload_n hx hb dX7_mend_1 rfl (lv_at hl 1 rfl) ?_
  obtain ⟨v_1, e_v_1, l_v_1, u_v_1⟩ := f_8_0 hI r_h
  refine t_callV (n := 1) (As := [.int n]) (rest := []) (ci := 7) hB hT hl.1 (m_isService l D cI cZ cS cR N0 g hI h n v_1 r_h e_v_1 (by omega) (by omega)) (ro_ci r_h rfl) rfl k_991 k_65 k_988 k_990 k_27 (by decide +kernel) ⟨(Nat.le_of_ble_eq_true rfl), (Nat.le_of_ble_eq_true rfl)⟩ rfl (Nat.le_of_ble_eq_true rfl) ⟨(Nat.le_of_ble_eq_true rfl), (Nat.le_of_ble_eq_true rfl)⟩ dX7_mend_2 (fun v g_2 H locs hp hT => ?_)
  obtain ⟨r_3, rfl, eg, f_4⟩ := hp
  rw [eg] at hT
  clear eg
  refine W.eq (g2 := F0 m 5 ls [.int r_3]) rfl ?_
  rcases f_4 with ⟨rfl, hw_7, hw_8⟩ | ⟨rfl, hw_9⟩
  · refine W.eq (g2 := F0 m 5 ls [.int 1]) rfl ?_
    refine lv_if_eq (tgt := 17) hx hb dX7_mend_5 (by decide) (fun c_ => absurd c_ (by decide)) (fun c_ => ?_)
    refine lv_iload_n hx hb dX7_mend_8 rfl (lv_at hl 2 rfl) ?_
    refine lv_iconst (v := 0) hx hb dX7_mend_9 (by decide) ?_
    refine lv_iconst (v := 3) hx hb dX7_mend_10 (by decide) ?_
    refine t_callS (n := 3) (As := [.int k, .int 0, .int 3]) (rest := []) hB hT hl.1 (m_in l D cI cZ cS cR N0 g hI k 0 3 ) k_954 k_65 k_952 k_953 (by decide +kernel) ⟨(Nat.le_of_ble_eq_true rfl), (Nat.le_of_ble_eq_true rfl)⟩ rfl (Nat.le_of_ble_eq_true rfl) ⟨(Nat.le_of_ble_eq_true rfl), (Nat.le_of_ble_eq_true rfl)⟩ dX7_mend_11 (fun v g_10 H locs hp hT => ?_)
    obtain ⟨r_11, rfl, eg, f_12⟩ := hp
    rw [eg] at hT
    clear eg
    refine W.eq (g2 := F0 m 14 ls [.int r_11]) rfl ?_
    have qc_15 : (0 : Int32).toInt = 0 := (by decide)
    have qc_16 : (3 : Int32).toInt = 3 := (by decide)
    rcases f_12 with ⟨rfl, hw_17, hw_18⟩ | ⟨rfl, hw_19⟩
    · refine W.eq (g2 := F0 m 14 ls [.int 1]) rfl ?_
      refine lv_if_ne (tgt := 19) hx hb dX7_mend_14 (by decide) (fun c_ => ?_) (fun c_ => absurd c_ (by decide))
      refine lv_iload_n hx hb dX7_mend_19 rfl (lv_at hl 3 rfl) ?_
      refine lv_iconst (v := 0) hx hb dX7_mend_20 (by decide) ?_
      refine lv_iconst (v := 1) hx hb dX7_mend_21 (by decide) ?_
      refine t_callS (n := 3) (As := [.int j, .int 0, .int 1]) (rest := []) hB hT hl.1 (m_in l D cI cZ cS cR N0 g hI j 0 1 ) k_954 k_65 k_952 k_953 (by decide +kernel) ⟨(Nat.le_of_ble_eq_true rfl), (Nat.le_of_ble_eq_true rfl)⟩ rfl (Nat.le_of_ble_eq_true rfl) ⟨(Nat.le_of_ble_eq_true rfl), (Nat.le_of_ble_eq_true rfl)⟩ dX7_mend_22 (fun v g_20 H locs hp hT => ?_)
      obtain ⟨r_21, rfl, eg, f_22⟩ := hp
      rw [eg] at hT
      clear eg
      refine W.eq (g2 := F0 m 25 ls [.int r_21]) rfl ?_
      have qc_25 : (0 : Int32).toInt = 0 := (by decide)
      have qc_26 : (1 : Int32).toInt = 1 := (by decide)
      rcases f_22 with ⟨rfl, hw_27, hw_28⟩ | ⟨rfl, hw_29⟩
      · refine W.eq (g2 := F0 m 25 ls [.int 1]) rfl ?_
        refine lv_if_ne (tgt := 31) hx hb dX7_mend_25 (by decide) (fun c_ => ?_) (fun c_ => absurd c_ (by decide))
        refine lv_aload_n hx hb dX7_mend_31 rfl (lv_at hl 0 rfl) ?_
        refine lv_iload_n hx hb dX7_mend_32 rfl (lv_at hl 1 rfl) ?_
        refine lv_iload_n hx hb dX7_mend_33 rfl (lv_at hl 2 rfl) ?_
        refine t_callV (n := 2) (As := [.int n, .int k]) (rest := []) (ci := 7) hB hT hl.1 (m_has l D cI cZ cS cR N0 g hI h n k r_h (by omega) (by omega)) (ro_ci r_h rfl) rfl k_999 k_65 k_996 k_998 k_28 (by decide +kernel) ⟨(Nat.le_of_ble_eq_true rfl), (Nat.le_of_ble_eq_true rfl)⟩ rfl (Nat.le_of_ble_eq_true rfl) ⟨(Nat.le_of_ble_eq_true rfl), (Nat.le_of_ble_eq_true rfl)⟩ dX7_mend_34 (fun v g_30 H locs hp hT => ?_)
        obtain ⟨r_31, rfl, eg, f_32⟩ := hp
        rw [eg] at hT
        clear eg
        refine W.eq (g2 := F0 m 37 ls [.int r_31]) rfl ?_
        rcases f_32 with rfl | rfl
        · refine W.eq (g2 := F0 m 37 ls [.int 1]) rfl ?_
          refine lv_if_eq (tgt := 44) hx hb dX7_mend_37 (by decide) (fun c_ => absurd c_ (by decide)) (fun c_ => ?_)
          refine lv_iconst (v := 1) hx hb dX7_mend_40 (by decide) ?_
          refine lv_goto (tgt := 45) hx hb dX7_mend_41 (by decide) ?_
          refine lv_istore (lv' := [(4, .int 1), (0, .ref h), (1, .int n), (2, .int k), (3, .int j)]) hx hb dX7_mend_45 hl (by decide) rfl (fun ls hl => ?_)
          refine lv_aload_n hx hb dX7_mend_47 rfl (lv_at hl 1 rfl) ?_
          obtain ⟨v_35, e_v_35, r_v_35, n_v_35⟩ := f_8_5 hI r_h
          refine t_get (ci := 7) (v := .ref v_35) hB hT (ro_ci r_h rfl) rfl 5 (by decide) k_750 e_v_35 dX7_mend_48 ?_
          refine lv_iload_n hx hb dX7_mend_51 rfl (lv_at hl 2 rfl) ?_
          refine lv_iload_n hx hb dX7_mend_52 rfl (lv_at hl 4 rfl) ?_
          refine lv_iconst (v := 1) hx hb dX7_mend_53 (by decide) ?_
          refine lv_icmp_ne (tgt := 70) hx hb dX7_mend_54 (by decide) (fun c_36 => ?_) (fun c_36 => ?_)
          · have c_36' : j.toInt ≠ 1 := i_ne c_36 rfl (by decide)
            refine lv_aload_n hx hb dX7_mend_70 rfl (lv_at hl 1 rfl) ?_
            refine t_get (ci := 7) (v := .ref v_35) hB hT (ro_ci r_h rfl) rfl 5 (by decide) k_750 e_v_35 dX7_mend_71 ?_
            refine lv_iload_n hx hb dX7_mend_74 rfl (lv_at hl 2 rfl) ?_
            have i_u_37 : vp_in n 6 := (i_in (n := 6) rfl (by omega) (by omega))
            refine t_iald hB hT (ro_in r_v_35 (by decide)) n_v_35 i_u_37 rfl dX7_mend_75 ?_
            refine lv_topi (fun u_37 e_u_37 => ?_)
            refine lv_iconst (v := 1) hx hb dX7_mend_76 (by decide) ?_
            refine lv_iload_n hx hb dX7_mend_77 rfl (lv_at hl 3 rfl) ?_
            refine lv_ishl hx hb dX7_mend_78 ?_
            refine lv_topi (fun z_38 ez_38 => ?_)
            refine lv_iconst (v := (-1)) hx hb dX7_mend_79 (by decide) ?_
            refine lv_ixor hx hb dX7_mend_80 ?_
            refine lv_topi (fun z_39 ez_39 => ?_)
            refine lv_iand hx hb dX7_mend_81 ?_
            refine lv_topi (fun z_40 ez_40 => ?_)
            have i_41 : vp_in n 6 := (i_in (n := 6) rfl (by omega) (by omega))
            refine t_iast hB hT (ro_in r_v_35 (by decide)) n_v_35 i_41 dX7_mend_82 (fun H locs hT => ?_)
            have hI : Inv (sC g v_35 n.toNatClampNeg z_40) := hI.sC (ck r_v_35 trivial)
            have hM : Sm md_m_mend g (sC g v_35 n.toNatClampNeg z_40) := hM.tr hE (Sm_sC (by rw [r_v_35]; rfl))
            have hE : Ex g (sC g v_35 n.toNatClampNeg z_40) := hE
            refine lv_iload hx hb dX7_mend_83 (lv_at hl 0 rfl) ?_
            exact t_iret hB hr hT (Nat.le_of_ble_eq_true rfl) (Nat.le_of_ble_eq_true rfl) dX7_mend_85 ⟨1, rfl, hI, hE, hM⟩
          · have c_36' : j.toInt = 1 := i_eq c_36 rfl (by decide)
            refine lv_aload_n hx hb dX7_mend_57 rfl (lv_at hl 1 rfl) ?_
            refine t_get (ci := 7) (v := .ref v_35) hB hT (ro_ci r_h rfl) rfl 5 (by decide) k_750 e_v_35 dX7_mend_58 ?_
            refine lv_iload_n hx hb dX7_mend_61 rfl (lv_at hl 2 rfl) ?_
            have i_u_42 : vp_in n 6 := (i_in (n := 6) rfl (by omega) (by omega))
            refine t_iald hB hT (ro_in r_v_35 (by decide)) n_v_35 i_u_42 rfl dX7_mend_62 ?_
            refine lv_topi (fun u_42 e_u_42 => ?_)
            refine lv_iconst (v := 1) hx hb dX7_mend_63 (by decide) ?_
            refine lv_iload_n hx hb dX7_mend_64 rfl (lv_at hl 3 rfl) ?_
            refine lv_ishl hx hb dX7_mend_65 ?_
            refine lv_topi (fun z_43 ez_43 => ?_)
            refine lv_ior hx hb dX7_mend_66 ?_
            refine lv_topi (fun z_44 ez_44 => ?_)
            refine lv_goto (tgt := 82) hx hb dX7_mend_67 (by decide) ?_
            have i_45 : vp_in n 6 := (i_in (n := 6) rfl (by omega) (by omega))
            refine t_iast hB hT (ro_in r_v_35 (by decide)) n_v_35 i_45 dX7_mend_82 (fun H locs hT => ?_)
            have hI : Inv (sC g v_35 n.toNatClampNeg z_44) := hI.sC (ck r_v_35 trivial)
            have hM : Sm md_m_mend g (sC g v_35 n.toNatClampNeg z_44) := hM.tr hE (Sm_sC (by rw [r_v_35]; rfl))
            have hE : Ex g (sC g v_35 n.toNatClampNeg z_44) := hE
            refine lv_iload hx hb dX7_mend_83 (lv_at hl 0 rfl) ?_
            exact t_iret hB hr hT (Nat.le_of_ble_eq_true rfl) (Nat.le_of_ble_eq_true rfl) dX7_mend_85 ⟨1, rfl, hI, hE, hM⟩
        · refine W.eq (g2 := F0 m 37 ls [.int 0]) rfl ?_
          refine lv_if_eq (tgt := 44) hx hb dX7_mend_37 (by decide) (fun c_ => ?_) (fun c_ => absurd (by decide) c_)
          refine lv_iconst (v := 0) hx hb dX7_mend_44 (by decide) ?_
          refine lv_istore (lv' := [(4, .int 0), (0, .ref h), (1, .int n), (2, .int k), (3, .int j)]) hx hb dX7_mend_45 hl (by decide) rfl (fun ls hl => ?_)
          refine lv_aload_n hx hb dX7_mend_47 rfl (lv_at hl 1 rfl) ?_
          obtain ⟨v_46, e_v_46, r_v_46, n_v_46⟩ := f_8_5 hI r_h
          refine t_get (ci := 7) (v := .ref v_46) hB hT (ro_ci r_h rfl) rfl 5 (by decide) k_750 e_v_46 dX7_mend_48 ?_
          refine lv_iload_n hx hb dX7_mend_51 rfl (lv_at hl 2 rfl) ?_
          refine lv_iload_n hx hb dX7_mend_52 rfl (lv_at hl 4 rfl) ?_
          refine lv_iconst (v := 1) hx hb dX7_mend_53 (by decide) ?_
          refine lv_icmp_ne (tgt := 70) hx hb dX7_mend_54 (by decide) (fun c_47 => ?_) (fun c_47 => ?_)
          · have c_47' : j.toInt ≠ 1 := i_ne c_47 rfl (by decide)
            refine lv_aload_n hx hb dX7_mend_70 rfl (lv_at hl 1 rfl) ?_
            refine t_get (ci := 7) (v := .ref v_46) hB hT (ro_ci r_h rfl) rfl 5 (by decide) k_750 e_v_46 dX7_mend_71 ?_
            refine lv_iload_n hx hb dX7_mend_74 rfl (lv_at hl 2 rfl) ?_
            have i_u_48 : vp_in n 6 := (i_in (n := 6) rfl (by omega) (by omega))
            refine t_iald hB hT (ro_in r_v_46 (by decide)) n_v_46 i_u_48 rfl dX7_mend_75 ?_
            refine lv_topi (fun u_48 e_u_48 => ?_)
            refine lv_iconst (v := 1) hx hb dX7_mend_76 (by decide) ?_
            refine lv_iload_n hx hb dX7_mend_77 rfl (lv_at hl 3 rfl) ?_
            refine lv_ishl hx hb dX7_mend_78 ?_
            refine lv_topi (fun z_49 ez_49 => ?_)
            refine lv_iconst (v := (-1)) hx hb dX7_mend_79 (by decide) ?_
            refine lv_ixor hx hb dX7_mend_80 ?_
            refine lv_topi (fun z_50 ez_50 => ?_)
            refine lv_iand hx hb dX7_mend_81 ?_
            refine lv_topi (fun z_51 ez_51 => ?_)
            have i_52 : vp_in n 6 := (i_in (n := 6) rfl (by omega) (by omega))
            refine t_iast hB hT (ro_in r_v_46 (by decide)) n_v_46 i_52 dX7_mend_82 (fun H locs hT => ?_)
            have hI : Inv (sC g v_46 n.toNatClampNeg z_51) := hI.sC (ck r_v_46 trivial)
            have hM : Sm md_m_mend g (sC g v_46 n.toNatClampNeg z_51) := hM.tr hE (Sm_sC (by rw [r_v_46]; rfl))
            have hE : Ex g (sC g v_46 n.toNatClampNeg z_51) := hE
            refine lv_iload hx hb dX7_mend_83 (lv_at hl 0 rfl) ?_
            exact t_iret hB hr hT (Nat.le_of_ble_eq_true rfl) (Nat.le_of_ble_eq_true rfl) dX7_mend_85 ⟨0, rfl, hI, hE, hM⟩
          · have c_47' : j.toInt = 1 := i_eq c_47 rfl (by decide)
            refine lv_aload_n hx hb dX7_mend_57 rfl (lv_at hl 1 rfl) ?_
            refine t_get (ci := 7) (v := .ref v_46) hB hT (ro_ci r_h rfl) rfl 5 (by decide) k_750 e_v_46 dX7_mend_58 ?_
            refine lv_iload_n hx hb dX7_mend_61 rfl (lv_at hl 2 rfl) ?_
            have i_u_53 : vp_in n 6 := (i_in (n := 6) rfl (by omega) (by omega))
            refine t_iald hB hT (ro_in r_v_46 (by decide)) n_v_46 i_u_53 rfl dX7_mend_62 ?_
            refine lv_topi (fun u_53 e_u_53 => ?_)
            refine lv_iconst (v := 1) hx hb dX7_mend_63 (by decide) ?_
            refine lv_iload_n hx hb dX7_mend_64 rfl (lv_at hl 3 rfl) ?_
            refine lv_ishl hx hb dX7_mend_65 ?_
            refine lv_topi (fun z_54 ez_54 => ?_)
            refine lv_ior hx hb dX7_mend_66 ?_
            refine lv_topi (fun z_55 ez_55 => ?_)
            refine lv_goto (tgt := 82) hx hb dX7_mend_67 (by decide) ?_
            have i_56 : vp_in n 6 := (i_in (n := 6) rfl (by omega) (by omega))
            refine t_iast hB hT (ro_in r_v_46 (by decide)) n_v_46 i_56 dX7_mend_82 (fun H locs hT => ?_)
            have hI : Inv (sC g v_46 n.toNatClampNeg z_55) := hI.sC (ck r_v_46 trivial)
            have hM : Sm md_m_mend g (sC g v_46 n.toNatClampNeg z_55) := hM.tr hE (Sm_sC (by rw [r_v_46]; rfl))
            have hE : Ex g (sC g v_46 n.toNatClampNeg z_55) := hE
            refine lv_iload hx hb dX7_mend_83 (lv_at hl 0 rfl) ?_
            exact t_iret hB hr hT (Nat.le_of_ble_eq_true rfl) (Nat.le_of_ble_eq_true rfl) dX7_mend_85 ⟨0, rfl, hI, hE, hM⟩
      · refine W.eq (g2 := F0 m 25 ls [.int 0]) rfl ?_
        refine lv_if_ne (tgt := 31) hx hb dX7_mend_25 (by decide) (fun c_ => absurd (by decide) c_) (fun c_ => ?_)
        refine lv_bipush (v := (-2)) hx hb dX7_mend_28 (by decide) ?_
        exact t_iret hB hr hT (Nat.le_of_ble_eq_true rfl) (Nat.le_of_ble_eq_true rfl) dX7_mend_30 ⟨(-2), rfl, hI, hE, hM⟩
    · refine W.eq (g2 := F0 m 14 ls [.int 0]) rfl ?_
      refine lv_if_ne (tgt := 19) hx hb dX7_mend_14 (by decide) (fun c_ => absurd (by decide) c_) (fun c_ => ?_)
      refine lv_iconst (v := (-1)) hx hb dX7_mend_17 (by decide) ?_
      exact t_iret hB hr hT (Nat.le_of_ble_eq_true rfl) (Nat.le_of_ble_eq_true rfl) dX7_mend_18 ⟨(-1), rfl, hI, hE, hM⟩
  · refine W.eq (g2 := F0 m 5 ls [.int 0]) rfl ?_
    refine lv_if_eq (tgt := 17) hx hb dX7_mend_5 (by decide) (fun c_ => ?_) (fun c_ => absurd (by decide) c_)
    refine lv_iconst (v := (-1)) hx hb dX7_mend_17 (by decide) ?_
    exact t_iret hB hr hT (Nat.le_of_ble_eq_true rfl) (Nat.le_of_ble_eq_true rfl) dX7_mend_18 ⟨(-1), rfl, hI, hE, hM⟩
abbrev md_m_hold : Nat → Nat → Bool := mdf [(75, 99)]
set_option maxHeartbeats 4000000 in
set_option maxRecDepth 100000 in
theorem m_hold (l : Launch) (D : va_G) (cI cZ cS cR : ClassId) (N0 : NT) (g : GS) (hI : Inv g) (h : Nat) (n : Int32) (k : Int32) (r_h : g.1 h = 8) : Ty l D cI cZ cS cR N0 yX7_hold cX7_hold 4 (some .int) 2 0 0 [.ref h, .int n, .int k] g (fun v g' => ∃ (r : Int32), v = some (.int r) ∧ Inv g' ∧ Ex g g' ∧ Sm md_m_hold g g') := by
  refine t_enter (by decide) (Nat.le_of_ble_eq_true rfl) ?_
  intro p e s m args below meth c ls H locs hB hr hin hl hT
  have hx := hB.1
  have hb := hB.2.1
  have hl : lv_has ls 4 [(0, .ref h), (1, .int n), (2, .int k)] := hl
  have hE : Ex g g := Ex.rf
  have hM : Sm md_m_hold g g := Sm.rf
  refine lv_aload_n hx hb dX7_hold_0 rfl (lv_at hl 0 rfl) ?_
  refine lv_iload_n hx hb dX7_hold_1 rfl (lv_at hl 1 rfl) ?_
  obtain ⟨v_1, e_v_1, l_v_1, u_v_1⟩ := f_8_0 hI r_h
  refine t_callV (n := 1) (As := [.int n]) (rest := []) (ci := 7) hB hT hl.1 (m_isService l D cI cZ cS cR N0 g hI h n v_1 r_h e_v_1 (by omega) (by omega)) (ro_ci r_h rfl) rfl k_991 k_65 k_988 k_990 k_27 (by decide +kernel) ⟨(Nat.le_of_ble_eq_true rfl), (Nat.le_of_ble_eq_true rfl)⟩ rfl (Nat.le_of_ble_eq_true rfl) ⟨(Nat.le_of_ble_eq_true rfl), (Nat.le_of_ble_eq_true rfl)⟩ dX7_hold_2 (fun v g_2 H locs hp hT => ?_)
  obtain ⟨r_3, rfl, eg, f_4⟩ := hp
  rw [eg] at hT
  clear eg
  refine W.eq (g2 := F0 m 5 ls [.int r_3]) rfl ?_
  rcases f_4 with ⟨rfl, hw_7, hw_8⟩ | ⟨rfl, hw_9⟩
  · refine W.eq (g2 := F0 m 5 ls [.int 1]) rfl ?_
    refine lv_if_ne (tgt := 10) hx hb dX7_hold_5 (by decide) (fun c_ => ?_) (fun c_ => absurd c_ (by decide))
    refine lv_iload_n hx hb dX7_hold_10 rfl (lv_at hl 2 rfl) ?_
    refine lv_iconst (v := 0) hx hb dX7_hold_11 (by decide) ?_
    refine lv_bipush (v := 99) hx hb dX7_hold_12 (by decide) ?_
    refine t_callS (n := 3) (As := [.int k, .int 0, .int 99]) (rest := []) hB hT hl.1 (m_in l D cI cZ cS cR N0 g hI k 0 99 ) k_954 k_65 k_952 k_953 (by decide +kernel) ⟨(Nat.le_of_ble_eq_true rfl), (Nat.le_of_ble_eq_true rfl)⟩ rfl (Nat.le_of_ble_eq_true rfl) ⟨(Nat.le_of_ble_eq_true rfl), (Nat.le_of_ble_eq_true rfl)⟩ dX7_hold_14 (fun v g_10 H locs hp hT => ?_)
    obtain ⟨r_11, rfl, eg, f_12⟩ := hp
    rw [eg] at hT
    clear eg
    refine W.eq (g2 := F0 m 17 ls [.int r_11]) rfl ?_
    have qc_15 : (0 : Int32).toInt = 0 := (by decide)
    have qc_16 : (99 : Int32).toInt = 99 := (by decide)
    rcases f_12 with ⟨rfl, hw_17, hw_18⟩ | ⟨rfl, hw_19⟩
    · refine W.eq (g2 := F0 m 17 ls [.int 1]) rfl ?_
      refine lv_if_ne (tgt := 23) hx hb dX7_hold_17 (by decide) (fun c_ => ?_) (fun c_ => absurd c_ (by decide))
      refine lv_aload_n hx hb dX7_hold_23 rfl (lv_at hl 0 rfl) ?_
      obtain ⟨v_20, e_v_20, r_v_20, n_v_20⟩ := f_8_6 hI r_h
      refine t_get (ci := 7) (v := .ref v_20) hB hT (ro_ci r_h rfl) rfl 6 (by decide) k_751 e_v_20 dX7_hold_24 ?_
      refine lv_iload_n hx hb dX7_hold_27 rfl (lv_at hl 1 rfl) ?_
      have i_u_21 : vp_in n 6 := (i_in (n := 6) rfl (by omega) (by omega))
      refine t_iald hB hT (ro_in r_v_20 (by decide)) n_v_20 i_u_21 rfl dX7_hold_28 ?_
      refine lv_topi (fun u_21 e_u_21 => ?_)
      refine lv_istore_n (lv' := [(3, .int u_21), (0, .ref h), (1, .int n), (2, .int k)]) hx hb dX7_hold_29 rfl hl (by decide) rfl (fun ls hl => ?_)
      refine lv_aload_n hx hb dX7_hold_30 rfl (lv_at hl 1 rfl) ?_
      refine t_get (ci := 7) (v := .ref v_20) hB hT (ro_ci r_h rfl) rfl 6 (by decide) k_751 e_v_20 dX7_hold_31 ?_
      refine lv_iload_n hx hb dX7_hold_34 rfl (lv_at hl 2 rfl) ?_
      refine lv_iload_n hx hb dX7_hold_35 rfl (lv_at hl 3 rfl) ?_
      have i_22 : vp_in n 6 := (i_in (n := 6) rfl (by omega) (by omega))
      refine t_iast hB hT (ro_in r_v_20 (by decide)) n_v_20 i_22 dX7_hold_36 (fun H locs hT => ?_)
      have hI : Inv (sC g v_20 n.toNatClampNeg k) := hI.sC (ck r_v_20 trivial)
      have hM : Sm md_m_hold g (sC g v_20 n.toNatClampNeg k) := hM.tr hE (Sm_sC (by rw [r_v_20]; rfl))
      have hE : Ex g (sC g v_20 n.toNatClampNeg k) := hE
      refine lv_iload_n hx hb dX7_hold_37 rfl (lv_at hl 0 rfl) ?_
      exact t_iret hB hr hT (Nat.le_of_ble_eq_true rfl) (Nat.le_of_ble_eq_true rfl) dX7_hold_38 ⟨u_21, rfl, hI, hE, hM⟩
    · refine W.eq (g2 := F0 m 17 ls [.int 0]) rfl ?_
      refine lv_if_ne (tgt := 23) hx hb dX7_hold_17 (by decide) (fun c_ => absurd (by decide) c_) (fun c_ => ?_)
      refine lv_bipush (v := (-2)) hx hb dX7_hold_20 (by decide) ?_
      exact t_iret hB hr hT (Nat.le_of_ble_eq_true rfl) (Nat.le_of_ble_eq_true rfl) dX7_hold_22 ⟨(-2), rfl, hI, hE, hM⟩
  · refine W.eq (g2 := F0 m 5 ls [.int 0]) rfl ?_
    refine lv_if_ne (tgt := 10) hx hb dX7_hold_5 (by decide) (fun c_ => absurd (by decide) c_) (fun c_ => ?_)
    refine lv_iconst (v := (-1)) hx hb dX7_hold_8 (by decide) ?_
    exact t_iret hB hr hT (Nat.le_of_ble_eq_true rfl) (Nat.le_of_ble_eq_true rfl) dX7_hold_9 ⟨(-1), rfl, hI, hE, hM⟩
abbrev md_m_set : Nat → Nat → Bool := mdf [(56, 99)]
set_option maxHeartbeats 4000000 in
set_option maxRecDepth 100000 in
theorem m_set (l : Launch) (D : va_G) (cI cZ cS cR : ClassId) (N0 : NT) (g : GS) (hI : Inv g) (h : Nat) (n : Int32) (k : Int32) (j : Int32) (r_h : g.1 h = 8) : Ty l D cI cZ cS cR N0 yX7_set cX7_set 5 (some .int) 2 0 0 [.ref h, .int n, .int k, .int j] g (fun v g' => ∃ (r : Int32), v = some (.int r) ∧ Inv g' ∧ Ex g g' ∧ Sm md_m_set g g') := by
  refine t_enter (by decide) (Nat.le_of_ble_eq_true rfl) ?_
  intro p e s m args below meth c ls H locs hB hr hin hl hT
  have hx := hB.1
  have hb := hB.2.1
  have hl : lv_has ls 5 [(0, .ref h), (1, .int n), (2, .int k), (3, .int j)] := hl
  have hE : Ex g g := Ex.rf
  have hM : Sm md_m_set g g := Sm.rf
  refine lv_aload_n hx hb dX7_set_0 rfl (lv_at hl 0 rfl) ?_
  refine lv_iload_n hx hb dX7_set_1 rfl (lv_at hl 1 rfl) ?_
  obtain ⟨v_1, e_v_1, l_v_1, u_v_1⟩ := f_8_0 hI r_h
  refine t_callV (n := 1) (As := [.int n]) (rest := []) (ci := 7) hB hT hl.1 (m_isService l D cI cZ cS cR N0 g hI h n v_1 r_h e_v_1 (by omega) (by omega)) (ro_ci r_h rfl) rfl k_991 k_65 k_988 k_990 k_27 (by decide +kernel) ⟨(Nat.le_of_ble_eq_true rfl), (Nat.le_of_ble_eq_true rfl)⟩ rfl (Nat.le_of_ble_eq_true rfl) ⟨(Nat.le_of_ble_eq_true rfl), (Nat.le_of_ble_eq_true rfl)⟩ dX7_set_2 (fun v g_2 H locs hp hT => ?_)
  obtain ⟨r_3, rfl, eg, f_4⟩ := hp
  rw [eg] at hT
  clear eg
  refine W.eq (g2 := F0 m 5 ls [.int r_3]) rfl ?_
  rcases f_4 with ⟨rfl, hw_7, hw_8⟩ | ⟨rfl, hw_9⟩
  · refine W.eq (g2 := F0 m 5 ls [.int 1]) rfl ?_
    refine lv_if_eq (tgt := 17) hx hb dX7_set_5 (by decide) (fun c_ => absurd c_ (by decide)) (fun c_ => ?_)
    refine lv_iload_n hx hb dX7_set_8 rfl (lv_at hl 2 rfl) ?_
    refine lv_iconst (v := 0) hx hb dX7_set_9 (by decide) ?_
    refine lv_iconst (v := 3) hx hb dX7_set_10 (by decide) ?_
    refine t_callS (n := 3) (As := [.int k, .int 0, .int 3]) (rest := []) hB hT hl.1 (m_in l D cI cZ cS cR N0 g hI k 0 3 ) k_954 k_65 k_952 k_953 (by decide +kernel) ⟨(Nat.le_of_ble_eq_true rfl), (Nat.le_of_ble_eq_true rfl)⟩ rfl (Nat.le_of_ble_eq_true rfl) ⟨(Nat.le_of_ble_eq_true rfl), (Nat.le_of_ble_eq_true rfl)⟩ dX7_set_11 (fun v g_10 H locs hp hT => ?_)
    obtain ⟨r_11, rfl, eg, f_12⟩ := hp
    rw [eg] at hT
    clear eg
    refine W.eq (g2 := F0 m 14 ls [.int r_11]) rfl ?_
    have qc_15 : (0 : Int32).toInt = 0 := (by decide)
    have qc_16 : (3 : Int32).toInt = 3 := (by decide)
    rcases f_12 with ⟨rfl, hw_17, hw_18⟩ | ⟨rfl, hw_19⟩
    · refine W.eq (g2 := F0 m 14 ls [.int 1]) rfl ?_
      refine lv_if_ne (tgt := 19) hx hb dX7_set_14 (by decide) (fun c_ => ?_) (fun c_ => absurd c_ (by decide))
      refine lv_iload_n hx hb dX7_set_19 rfl (lv_at hl 3 rfl) ?_
      refine lv_iconst (v := 0) hx hb dX7_set_20 (by decide) ?_
      refine lv_sipush (v := 999) hx hb dX7_set_21 (by decide) ?_
      refine t_callS (n := 3) (As := [.int j, .int 0, .int 999]) (rest := []) hB hT hl.1 (m_in l D cI cZ cS cR N0 g hI j 0 999 ) k_954 k_65 k_952 k_953 (by decide +kernel) ⟨(Nat.le_of_ble_eq_true rfl), (Nat.le_of_ble_eq_true rfl)⟩ rfl (Nat.le_of_ble_eq_true rfl) ⟨(Nat.le_of_ble_eq_true rfl), (Nat.le_of_ble_eq_true rfl)⟩ dX7_set_24 (fun v g_20 H locs hp hT => ?_)
      obtain ⟨r_21, rfl, eg, f_22⟩ := hp
      rw [eg] at hT
      clear eg
      refine W.eq (g2 := F0 m 27 ls [.int r_21]) rfl ?_
      have qc_25 : (0 : Int32).toInt = 0 := (by decide)
      have qc_26 : (999 : Int32).toInt = 999 := (by decide)
      rcases f_22 with ⟨rfl, hw_27, hw_28⟩ | ⟨rfl, hw_29⟩
      · refine W.eq (g2 := F0 m 27 ls [.int 1]) rfl ?_
        refine lv_if_ne (tgt := 33) hx hb dX7_set_27 (by decide) (fun c_ => ?_) (fun c_ => absurd c_ (by decide))
        refine lv_aload_n hx hb dX7_set_33 rfl (lv_at hl 0 rfl) ?_
        obtain ⟨v_30, e_v_30, r_v_30, n_v_30⟩ := f_8_7 hI r_h
        refine t_get (ci := 7) (v := .ref v_30) hB hT (ro_ci r_h rfl) rfl 7 (by decide) k_752 e_v_30 dX7_set_34 ?_
        refine lv_iconst (v := 4) hx hb dX7_set_37 (by decide) ?_
        refine lv_iload_n hx hb dX7_set_38 rfl (lv_at hl 1 rfl) ?_
        refine lv_imul hx hb dX7_set_39 ?_
        refine lv_topi (fun z_31 ez_31 => ?_)
        have e_z_31 : z_31.toInt = 4 * n.toInt := i_mul ez_31 (by decide) rfl (by omega) (by omega)
        refine lv_iload_n hx hb dX7_set_40 rfl (lv_at hl 2 rfl) ?_
        refine lv_iadd hx hb dX7_set_41 ?_
        refine lv_topi (fun z_32 ez_32 => ?_)
        have e_z_32 : z_32.toInt = z_31.toInt + k.toInt := i_add ez_32 rfl rfl (by omega) (by omega)
        have i_u_33 : vp_in z_32 48 := (i_in (n := 48) rfl (by omega) (by omega))
        refine t_iald hB hT (ro_in r_v_30 (by decide)) n_v_30 i_u_33 rfl dX7_set_42 ?_
        have c_u_33 := hI.c r_v_30 n_v_30 (i_cl i_u_33)
        refine lv_topi (fun u_33 e_u_33 => ?_)
        obtain ⟨l_u_33, u_u_33⟩ := c_u_33
        rw [← e_u_33] at l_u_33 u_u_33
        refine lv_istore (lv' := [(4, .int u_33), (0, .ref h), (1, .int n), (2, .int k), (3, .int j)]) hx hb dX7_set_43 hl (by decide) rfl (fun ls hl => ?_)
        refine lv_aload_n hx hb dX7_set_45 rfl (lv_at hl 1 rfl) ?_
        refine t_get (ci := 7) (v := .ref v_30) hB hT (ro_ci r_h rfl) rfl 7 (by decide) k_752 e_v_30 dX7_set_46 ?_
        refine lv_iconst (v := 4) hx hb dX7_set_49 (by decide) ?_
        refine lv_iload_n hx hb dX7_set_50 rfl (lv_at hl 2 rfl) ?_
        refine lv_imul hx hb dX7_set_51 ?_
        refine lv_topi (fun z_34 ez_34 => ?_)
        have e_z_34 : z_34.toInt = 4 * n.toInt := i_mul ez_34 (by decide) rfl (by omega) (by omega)
        refine lv_iload_n hx hb dX7_set_52 rfl (lv_at hl 3 rfl) ?_
        refine lv_iadd hx hb dX7_set_53 ?_
        refine lv_topi (fun z_35 ez_35 => ?_)
        have e_z_35 : z_35.toInt = z_34.toInt + k.toInt := i_add ez_35 rfl rfl (by omega) (by omega)
        refine lv_iload_n hx hb dX7_set_54 rfl (lv_at hl 4 rfl) ?_
        have i_36 : vp_in z_35 48 := (i_in (n := 48) rfl (by omega) (by omega))
        refine t_iast hB hT (ro_in r_v_30 (by decide)) n_v_30 i_36 dX7_set_55 (fun H locs hT => ?_)
        have hI : Inv (sC g v_30 z_35.toNatClampNeg j) := hI.sC (ck r_v_30 ⟨by omega, by omega⟩)
        have hM : Sm md_m_set g (sC g v_30 z_35.toNatClampNeg j) := hM.tr hE (Sm_sC (by rw [r_v_30]; rfl))
        have hE : Ex g (sC g v_30 z_35.toNatClampNeg j) := hE
        refine lv_iload hx hb dX7_set_56 (lv_at hl 0 rfl) ?_
        exact t_iret hB hr hT (Nat.le_of_ble_eq_true rfl) (Nat.le_of_ble_eq_true rfl) dX7_set_58 ⟨u_33, rfl, hI, hE, hM⟩
      · refine W.eq (g2 := F0 m 27 ls [.int 0]) rfl ?_
        refine lv_if_ne (tgt := 33) hx hb dX7_set_27 (by decide) (fun c_ => absurd (by decide) c_) (fun c_ => ?_)
        refine lv_bipush (v := (-2)) hx hb dX7_set_30 (by decide) ?_
        exact t_iret hB hr hT (Nat.le_of_ble_eq_true rfl) (Nat.le_of_ble_eq_true rfl) dX7_set_32 ⟨(-2), rfl, hI, hE, hM⟩
    · refine W.eq (g2 := F0 m 14 ls [.int 0]) rfl ?_
      refine lv_if_ne (tgt := 19) hx hb dX7_set_14 (by decide) (fun c_ => absurd (by decide) c_) (fun c_ => ?_)
      refine lv_iconst (v := (-1)) hx hb dX7_set_17 (by decide) ?_
      exact t_iret hB hr hT (Nat.le_of_ble_eq_true rfl) (Nat.le_of_ble_eq_true rfl) dX7_set_18 ⟨(-1), rfl, hI, hE, hM⟩
  · refine W.eq (g2 := F0 m 5 ls [.int 0]) rfl ?_
    refine lv_if_eq (tgt := 17) hx hb dX7_set_5 (by decide) (fun c_ => ?_) (fun c_ => absurd (by decide) c_)
    refine lv_iconst (v := (-1)) hx hb dX7_set_17 (by decide) ?_
    exact t_iret hB hr hT (Nat.le_of_ble_eq_true rfl) (Nat.le_of_ble_eq_true rfl) dX7_set_18 ⟨(-1), rfl, hI, hE, hM⟩
abbrev md_m_price : Nat → Nat → Bool := mdf [(83, 99)]
set_option maxHeartbeats 4000000 in
set_option maxRecDepth 100000 in
theorem m_price (l : Launch) (D : va_G) (cI cZ cS cR : ClassId) (N0 : NT) (g : GS) (hI : Inv g) (h : Nat) (n : Int32) (k : Int32) (r_h : g.1 h = 8) : Ty l D cI cZ cS cR N0 yX7_price cX7_price 4 (some .int) 1 0 0 [.ref h, .int n, .int k] g (fun v g' => ∃ (r : Int32), v = some (.int r) ∧ Inv g' ∧ Ex g g' ∧ Sm md_m_price g g') := by
  refine t_enter (by decide) (Nat.le_of_ble_eq_true rfl) ?_
  intro p e s m args below meth c ls H locs hB hr hin hl hT
  have hx := hB.1
  have hb := hB.2.1
  have hl : lv_has ls 4 [(0, .ref h), (1, .int n), (2, .int k)] := hl
  have hE : Ex g g := Ex.rf
  have hM : Sm md_m_price g g := Sm.rf
  refine lv_iload_n hx hb dX7_price_0 rfl (lv_at hl 1 rfl) ?_
  refine lv_iconst (v := 0) hx hb dX7_price_1 (by decide) ?_
  refine lv_iconst (v := 3) hx hb dX7_price_2 (by decide) ?_
  refine t_callS (n := 3) (As := [.int n, .int 0, .int 3]) (rest := []) hB hT hl.1 (m_in l D cI cZ cS cR N0 g hI n 0 3 ) k_954 k_65 k_952 k_953 (by decide +kernel) ⟨(Nat.le_of_ble_eq_true rfl), (Nat.le_of_ble_eq_true rfl)⟩ rfl (Nat.le_of_ble_eq_true rfl) ⟨(Nat.le_of_ble_eq_true rfl), (Nat.le_of_ble_eq_true rfl)⟩ dX7_price_3 (fun v g_1 H locs hp hT => ?_)
  obtain ⟨r_2, rfl, eg, f_3⟩ := hp
  rw [eg] at hT
  clear eg
  refine W.eq (g2 := F0 m 6 ls [.int r_2]) rfl ?_
  have qc_6 : (0 : Int32).toInt = 0 := (by decide)
  have qc_7 : (3 : Int32).toInt = 3 := (by decide)
  rcases f_3 with ⟨rfl, hw_8, hw_9⟩ | ⟨rfl, hw_10⟩
  · refine W.eq (g2 := F0 m 6 ls [.int 1]) rfl ?_
    refine lv_if_ne (tgt := 11) hx hb dX7_price_6 (by decide) (fun c_ => ?_) (fun c_ => absurd c_ (by decide))
    refine lv_iload_n hx hb dX7_price_11 rfl (lv_at hl 2 rfl) ?_
    refine lv_iconst (v := 0) hx hb dX7_price_12 (by decide) ?_
    refine lv_bipush (v := 99) hx hb dX7_price_13 (by decide) ?_
    refine t_callS (n := 3) (As := [.int k, .int 0, .int 99]) (rest := []) hB hT hl.1 (m_in l D cI cZ cS cR N0 g hI k 0 99 ) k_954 k_65 k_952 k_953 (by decide +kernel) ⟨(Nat.le_of_ble_eq_true rfl), (Nat.le_of_ble_eq_true rfl)⟩ rfl (Nat.le_of_ble_eq_true rfl) ⟨(Nat.le_of_ble_eq_true rfl), (Nat.le_of_ble_eq_true rfl)⟩ dX7_price_15 (fun v g_11 H locs hp hT => ?_)
    obtain ⟨r_12, rfl, eg, f_13⟩ := hp
    rw [eg] at hT
    clear eg
    refine W.eq (g2 := F0 m 18 ls [.int r_12]) rfl ?_
    have qc_16 : (0 : Int32).toInt = 0 := (by decide)
    have qc_17 : (99 : Int32).toInt = 99 := (by decide)
    rcases f_13 with ⟨rfl, hw_18, hw_19⟩ | ⟨rfl, hw_20⟩
    · refine W.eq (g2 := F0 m 18 ls [.int 1]) rfl ?_
      refine lv_if_ne (tgt := 24) hx hb dX7_price_18 (by decide) (fun c_ => ?_) (fun c_ => absurd c_ (by decide))
      refine lv_aload_n hx hb dX7_price_24 rfl (lv_at hl 0 rfl) ?_
      obtain ⟨v_21, e_v_21, r_v_21, n_v_21⟩ := f_8_35 hI r_h
      refine t_get (ci := 7) (v := .ref v_21) hB hT (ro_ci r_h rfl) rfl 35 (by decide) k_780 e_v_21 dX7_price_25 ?_
      refine lv_iload_n hx hb dX7_price_28 rfl (lv_at hl 1 rfl) ?_
      have i_u_22 : vp_in n 4 := (i_in (n := 4) rfl (by omega) (by omega))
      refine t_iald hB hT (ro_in r_v_21 (by decide)) n_v_21 i_u_22 rfl dX7_price_29 ?_
      refine lv_topi (fun u_22 e_u_22 => ?_)
      refine lv_istore_n (lv' := [(3, .int u_22), (0, .ref h), (1, .int n), (2, .int k)]) hx hb dX7_price_30 rfl hl (by decide) rfl (fun ls hl => ?_)
      refine lv_aload_n hx hb dX7_price_31 rfl (lv_at hl 1 rfl) ?_
      refine t_get (ci := 7) (v := .ref v_21) hB hT (ro_ci r_h rfl) rfl 35 (by decide) k_780 e_v_21 dX7_price_32 ?_
      refine lv_iload_n hx hb dX7_price_35 rfl (lv_at hl 2 rfl) ?_
      refine lv_iload_n hx hb dX7_price_36 rfl (lv_at hl 3 rfl) ?_
      have i_23 : vp_in n 4 := (i_in (n := 4) rfl (by omega) (by omega))
      refine t_iast hB hT (ro_in r_v_21 (by decide)) n_v_21 i_23 dX7_price_37 (fun H locs hT => ?_)
      have hI : Inv (sC g v_21 n.toNatClampNeg k) := hI.sC (ck r_v_21 trivial)
      have hM : Sm md_m_price g (sC g v_21 n.toNatClampNeg k) := hM.tr hE (Sm_sC (by rw [r_v_21]; rfl))
      have hE : Ex g (sC g v_21 n.toNatClampNeg k) := hE
      refine lv_iload_n hx hb dX7_price_38 rfl (lv_at hl 0 rfl) ?_
      exact t_iret hB hr hT (Nat.le_of_ble_eq_true rfl) (Nat.le_of_ble_eq_true rfl) dX7_price_39 ⟨u_22, rfl, hI, hE, hM⟩
    · refine W.eq (g2 := F0 m 18 ls [.int 0]) rfl ?_
      refine lv_if_ne (tgt := 24) hx hb dX7_price_18 (by decide) (fun c_ => absurd (by decide) c_) (fun c_ => ?_)
      refine lv_bipush (v := (-2)) hx hb dX7_price_21 (by decide) ?_
      exact t_iret hB hr hT (Nat.le_of_ble_eq_true rfl) (Nat.le_of_ble_eq_true rfl) dX7_price_23 ⟨(-2), rfl, hI, hE, hM⟩
  · refine W.eq (g2 := F0 m 6 ls [.int 0]) rfl ?_
    refine lv_if_ne (tgt := 11) hx hb dX7_price_6 (by decide) (fun c_ => absurd (by decide) c_) (fun c_ => ?_)
    refine lv_iconst (v := (-1)) hx hb dX7_price_9 (by decide) ?_
    exact t_iret hB hr hT (Nat.le_of_ble_eq_true rfl) (Nat.le_of_ble_eq_true rfl) dX7_price_10 ⟨(-1), rfl, hI, hE, hM⟩
abbrev md_m_log : Nat → Nat → Bool := mdf []
set_option maxHeartbeats 4000000 in
set_option maxRecDepth 100000 in
theorem m_log (l : Launch) (D : va_G) (cI cZ cS cR : ClassId) (N0 : NT) (g : GS) (hI : Inv g) (h : Nat) (n : Int32) (k : Int32) (r_h : g.1 h = 8) : Ty l D cI cZ cS cR N0 yX7_log cX7_log 3 (some .int) 1 0 0 [.ref h, .int n, .int k] g (fun v g' => ∃ (r : Int32), v = some (.int r) ∧ Inv g' ∧ Ex g g' ∧ Sm md_m_log g g') := by
  refine t_enter (by decide) (Nat.le_of_ble_eq_true rfl) ?_
  intro p e s m args below meth c ls H locs hB hr hin hl hT
  have hx := hB.1
  have hb := hB.2.1
  have hl : lv_has ls 3 [(0, .ref h), (1, .int n), (2, .int k)] := hl
  have hE : Ex g g := Ex.rf
  have hM : Sm md_m_log g g := Sm.rf
  refine lv_iload_n hx hb dX7_log_0 rfl (lv_at hl 1 rfl) ?_
  refine lv_iconst (v := 0) hx hb dX7_log_1 (by decide) ?_
  refine lv_aload_n hx hb dX7_log_2 rfl (lv_at hl 0 rfl) ?_
  obtain ⟨v_1, e_v_1, l_v_1, u_v_1⟩ := f_8_24 hI r_h
  refine t_get (ci := 7) (v := .int v_1) hB hT (ro_ci r_h rfl) rfl 24 (by decide) k_769 e_v_1 dX7_log_3 ?_
  refine lv_iconst (v := 1) hx hb dX7_log_6 (by decide) ?_
  refine lv_isub hx hb dX7_log_7 ?_
  refine lv_topi (fun z_2 ez_2 => ?_)
  have e_z_2 : z_2.toInt = v_1.toInt - 1 := i_sub ez_2 rfl (by decide) (by omega) (by omega)
  refine t_callS (n := 3) (As := [.int n, .int 0, .int z_2]) (rest := []) hB hT hl.1 (m_in l D cI cZ cS cR N0 g hI n 0 z_2 ) k_954 k_65 k_952 k_953 (by decide +kernel) ⟨(Nat.le_of_ble_eq_true rfl), (Nat.le_of_ble_eq_true rfl)⟩ rfl (Nat.le_of_ble_eq_true rfl) ⟨(Nat.le_of_ble_eq_true rfl), (Nat.le_of_ble_eq_true rfl)⟩ dX7_log_8 (fun v g_3 H locs hp hT => ?_)
  obtain ⟨r_4, rfl, eg, f_5⟩ := hp
  rw [eg] at hT
  clear eg
  refine W.eq (g2 := F0 m 11 ls [.int r_4]) rfl ?_
  have qc_8 : (0 : Int32).toInt = 0 := (by decide)
  rcases f_5 with ⟨rfl, hw_9, hw_10⟩ | ⟨rfl, hw_11⟩
  · refine W.eq (g2 := F0 m 11 ls [.int 1]) rfl ?_
    refine lv_if_ne (tgt := 16) hx hb dX7_log_11 (by decide) (fun c_ => ?_) (fun c_ => absurd c_ (by decide))
    refine lv_iload_n hx hb dX7_log_16 rfl (lv_at hl 2 rfl) ?_
    refine lv_if_ne (tgt := 29) hx hb dX7_log_17 (by decide) (fun c_12 => ?_) (fun c_12 => ?_)
    · have c_12' : k.toInt ≠ 0 := i_ne c_12 rfl (by decide)
      refine lv_iload_n hx hb dX7_log_29 rfl (lv_at hl 2 rfl) ?_
      refine lv_iconst (v := 1) hx hb dX7_log_30 (by decide) ?_
      refine lv_icmp_ne (tgt := 43) hx hb dX7_log_31 (by decide) (fun c_13 => ?_) (fun c_13 => ?_)
      · have c_13' : k.toInt ≠ 1 := i_ne c_13 rfl (by decide)
        refine lv_iload_n hx hb dX7_log_43 rfl (lv_at hl 2 rfl) ?_
        refine lv_iconst (v := 2) hx hb dX7_log_44 (by decide) ?_
        refine lv_icmp_ne (tgt := 57) hx hb dX7_log_45 (by decide) (fun c_14 => ?_) (fun c_14 => ?_)
        · have c_14' : k.toInt ≠ 2 := i_ne c_14 rfl (by decide)
          refine lv_iconst (v := (-1)) hx hb dX7_log_57 (by decide) ?_
          exact t_iret hB hr hT (Nat.le_of_ble_eq_true rfl) (Nat.le_of_ble_eq_true rfl) dX7_log_58 ⟨(-1), rfl, hI, hE, hM⟩
        · have c_14' : k.toInt = 2 := i_eq c_14 rfl (by decide)
          refine lv_aload_n hx hb dX7_log_48 rfl (lv_at hl 0 rfl) ?_
          obtain ⟨v_15, e_v_15, r_v_15, n_v_15⟩ := f_8_27 hI r_h
          refine t_get (ci := 7) (v := .ref v_15) hB hT (ro_ci r_h rfl) rfl 27 (by decide) k_772 e_v_15 dX7_log_49 ?_
          refine lv_iload_n hx hb dX7_log_52 rfl (lv_at hl 1 rfl) ?_
          have i_u_16 : vp_in n 20 := (i_in (n := 20) rfl (by omega) (by omega))
          refine t_iald hB hT (ro_in r_v_15 (by decide)) n_v_15 i_u_16 rfl dX7_log_53 ?_
          refine lv_topi (fun u_16 e_u_16 => ?_)
          refine lv_goto (tgt := 58) hx hb dX7_log_54 (by decide) ?_
          exact t_iret hB hr hT (Nat.le_of_ble_eq_true rfl) (Nat.le_of_ble_eq_true rfl) dX7_log_58 ⟨u_16, rfl, hI, hE, hM⟩
      · have c_13' : k.toInt = 1 := i_eq c_13 rfl (by decide)
        refine lv_aload_n hx hb dX7_log_34 rfl (lv_at hl 0 rfl) ?_
        obtain ⟨v_17, e_v_17, r_v_17, n_v_17⟩ := f_8_26 hI r_h
        refine t_get (ci := 7) (v := .ref v_17) hB hT (ro_ci r_h rfl) rfl 26 (by decide) k_771 e_v_17 dX7_log_35 ?_
        refine lv_iload_n hx hb dX7_log_38 rfl (lv_at hl 1 rfl) ?_
        have i_u_18 : vp_in n 20 := (i_in (n := 20) rfl (by omega) (by omega))
        refine t_iald hB hT (ro_in r_v_17 (by decide)) n_v_17 i_u_18 rfl dX7_log_39 ?_
        have c_u_18 := hI.c r_v_17 n_v_17 (i_cl i_u_18)
        refine lv_topi (fun u_18 e_u_18 => ?_)
        obtain ⟨l_u_18, u_u_18⟩ := c_u_18
        rw [← e_u_18] at l_u_18 u_u_18
        refine lv_goto (tgt := 58) hx hb dX7_log_40 (by decide) ?_
        exact t_iret hB hr hT (Nat.le_of_ble_eq_true rfl) (Nat.le_of_ble_eq_true rfl) dX7_log_58 ⟨u_18, rfl, hI, hE, hM⟩
    · have c_12' : k.toInt = 0 := i_eq c_12 rfl (by decide)
      refine lv_aload_n hx hb dX7_log_20 rfl (lv_at hl 0 rfl) ?_
      obtain ⟨v_19, e_v_19, r_v_19, n_v_19⟩ := f_8_25 hI r_h
      refine t_get (ci := 7) (v := .ref v_19) hB hT (ro_ci r_h rfl) rfl 25 (by decide) k_770 e_v_19 dX7_log_21 ?_
      refine lv_iload_n hx hb dX7_log_24 rfl (lv_at hl 1 rfl) ?_
      have i_u_20 : vp_in n 20 := (i_in (n := 20) rfl (by omega) (by omega))
      refine t_iald hB hT (ro_in r_v_19 (by decide)) n_v_19 i_u_20 rfl dX7_log_25 ?_
      have c_u_20 := hI.c r_v_19 n_v_19 (i_cl i_u_20)
      refine lv_topi (fun u_20 e_u_20 => ?_)
      obtain ⟨l_u_20, u_u_20⟩ := c_u_20
      rw [← e_u_20] at l_u_20 u_u_20
      refine lv_goto (tgt := 58) hx hb dX7_log_26 (by decide) ?_
      exact t_iret hB hr hT (Nat.le_of_ble_eq_true rfl) (Nat.le_of_ble_eq_true rfl) dX7_log_58 ⟨u_20, rfl, hI, hE, hM⟩
  · refine W.eq (g2 := F0 m 11 ls [.int 0]) rfl ?_
    refine lv_if_ne (tgt := 16) hx hb dX7_log_11 (by decide) (fun c_ => absurd (by decide) c_) (fun c_ => ?_)
    refine lv_iconst (v := (-1)) hx hb dX7_log_14 (by decide) ?_
    exact t_iret hB hr hT (Nat.le_of_ble_eq_true rfl) (Nat.le_of_ble_eq_true rfl) dX7_log_15 ⟨(-1), rfl, hI, hE, hM⟩
abbrev md_m_count : Nat → Nat → Bool := mdf []
set_option maxHeartbeats 4000000 in
set_option maxRecDepth 100000 in
theorem m_count (l : Launch) (D : va_G) (cI cZ cS cR : ClassId) (N0 : NT) (g : GS) (hI : Inv g) (h : Nat) (n : Int32) (r_h : g.1 h = 8) : Ty l D cI cZ cS cR N0 yX7_count cX7_count 2 (some .int) 0 0 0 [.ref h, .int n] g (fun v g' => ∃ (r : Int32), v = some (.int r) ∧ Inv g' ∧ Ex g g' ∧ Sm md_m_count g g') := by
  refine t_enter (by decide) (Nat.le_of_ble_eq_true rfl) ?_
  intro p e s m args below meth c ls H locs hB hr hin hl hT
  have hx := hB.1
  have hb := hB.2.1
  have hl : lv_has ls 2 [(0, .ref h), (1, .int n)] := hl
  have hE : Ex g g := Ex.rf
  have hM : Sm md_m_count g g := Sm.rf
  refine lv_iload_n hx hb dX7_count_0 rfl (lv_at hl 1 rfl) ?_
  by_cases ht_1 : (n < 0 ∨ 5 < n)
  · refine lv_tableOut (tgt := 72) hx hb dX7_count_1 (sw_out ht_1) (by decide) ?_
    refine lv_iconst (v := (-1)) hx hb dX7_count_72 (by decide) ?_
    exact t_iret hB hr hT (Nat.le_of_ble_eq_true rfl) (Nat.le_of_ble_eq_true rfl) dX7_count_73 ⟨(-1), rfl, hI, hE, hM⟩
  · obtain ⟨j_2, hj_2, ej_2⟩ := sw_in (n := 6) rfl ht_1
    rcases (show j_2 = 0 ∨ j_2 = 1 ∨ j_2 = 2 ∨ j_2 = 3 ∨ j_2 = 4 ∨ j_2 = 5 by omega) with rfl | rfl | rfl | rfl | rfl | rfl
    · refine x_ev (y := 0) ej_2 ?_
      refine lv_tableIn (off := 39) (tgt := 40) hx hb dX7_count_1 (by decide) (by decide) rfl (by decide) ?_
      refine lv_aload_n hx hb dX7_count_40 rfl (lv_at hl 0 rfl) ?_
      obtain ⟨v_3, e_v_3, l_v_3, u_v_3⟩ := f_8_0 hI r_h
      refine t_get (ci := 7) (v := .int v_3) hB hT (ro_ci r_h rfl) rfl 0 (by decide) k_745 e_v_3 dX7_count_41 ?_
      exact t_iret hB hr hT (Nat.le_of_ble_eq_true rfl) (Nat.le_of_ble_eq_true rfl) dX7_count_44 ⟨v_3, rfl, hI, hE, hM⟩
    · refine x_ev (y := 1) ej_2 ?_
      refine lv_tableIn (off := 44) (tgt := 45) hx hb dX7_count_1 (by decide) (by decide) rfl (by decide) ?_
      refine lv_aload_n hx hb dX7_count_45 rfl (lv_at hl 0 rfl) ?_
      obtain ⟨v_4, e_v_4, l_v_4, u_v_4⟩ := f_8_30 hI r_h
      refine t_get (ci := 7) (v := .int v_4) hB hT (ro_ci r_h rfl) rfl 30 (by decide) k_775 e_v_4 dX7_count_46 ?_
      exact t_iret hB hr hT (Nat.le_of_ble_eq_true rfl) (Nat.le_of_ble_eq_true rfl) dX7_count_49 ⟨v_4, rfl, hI, hE, hM⟩
    · refine x_ev (y := 2) ej_2 ?_
      refine lv_tableIn (off := 49) (tgt := 50) hx hb dX7_count_1 (by decide) (by decide) rfl (by decide) ?_
      refine lv_aload_n hx hb dX7_count_50 rfl (lv_at hl 0 rfl) ?_
      obtain ⟨v_5, e_v_5⟩ := f_8_22 hI r_h
      refine t_get (ci := 7) (v := .int v_5) hB hT (ro_ci r_h rfl) rfl 22 (by decide) k_767 e_v_5 dX7_count_51 ?_
      exact t_iret hB hr hT (Nat.le_of_ble_eq_true rfl) (Nat.le_of_ble_eq_true rfl) dX7_count_54 ⟨v_5, rfl, hI, hE, hM⟩
    · refine x_ev (y := 3) ej_2 ?_
      refine lv_tableIn (off := 54) (tgt := 55) hx hb dX7_count_1 (by decide) (by decide) rfl (by decide) ?_
      refine lv_aload_n hx hb dX7_count_55 rfl (lv_at hl 0 rfl) ?_
      obtain ⟨v_6, e_v_6, r_v_6, n_v_6⟩ := f_8_14 hI r_h
      refine t_get (ci := 7) (v := .ref v_6) hB hT (ro_ci r_h rfl) rfl 14 (by decide) k_759 e_v_6 dX7_count_56 ?_
      refine lv_iconst (v := 0) hx hb dX7_count_59 (by decide) ?_
      have i_u_7 : vp_in (0 : Int32) 2 := (by unfold vp_in; decide)
      refine t_iald hB hT (ro_in r_v_6 (by decide)) n_v_6 i_u_7 rfl dX7_count_60 ?_
      refine lv_topi (fun u_7 e_u_7 => ?_)
      exact t_iret hB hr hT (Nat.le_of_ble_eq_true rfl) (Nat.le_of_ble_eq_true rfl) dX7_count_61 ⟨u_7, rfl, hI, hE, hM⟩
    · refine x_ev (y := 4) ej_2 ?_
      refine lv_tableIn (off := 61) (tgt := 62) hx hb dX7_count_1 (by decide) (by decide) rfl (by decide) ?_
      refine lv_aload_n hx hb dX7_count_62 rfl (lv_at hl 0 rfl) ?_
      obtain ⟨v_8, e_v_8, l_v_8, u_v_8⟩ := f_8_24 hI r_h
      refine t_get (ci := 7) (v := .int v_8) hB hT (ro_ci r_h rfl) rfl 24 (by decide) k_769 e_v_8 dX7_count_63 ?_
      exact t_iret hB hr hT (Nat.le_of_ble_eq_true rfl) (Nat.le_of_ble_eq_true rfl) dX7_count_66 ⟨v_8, rfl, hI, hE, hM⟩
    · refine x_ev (y := 5) ej_2 ?_
      refine lv_tableIn (off := 66) (tgt := 67) hx hb dX7_count_1 (by decide) (by decide) rfl (by decide) ?_
      refine lv_aload_n hx hb dX7_count_67 rfl (lv_at hl 0 rfl) ?_
      obtain ⟨v_9, e_v_9, l_v_9, u_v_9⟩ := f_8_29 hI r_h
      refine t_get (ci := 7) (v := .int v_9) hB hT (ro_ci r_h rfl) rfl 29 (by decide) k_774 e_v_9 dX7_count_68 ?_
      exact t_iret hB hr hT (Nat.le_of_ble_eq_true rfl) (Nat.le_of_ble_eq_true rfl) dX7_count_71 ⟨v_9, rfl, hI, hE, hM⟩
abbrev md_m_outside : Nat → Nat → Bool := mdf []
set_option maxHeartbeats 4000000 in
set_option maxRecDepth 100000 in
theorem m_outside (l : Launch) (D : va_G) (cI cZ cS cR : ClassId) (N0 : NT) (g : GS) (hI : Inv g) (h : Nat) (n : Int32) (o0 : Int32) (r_h : g.1 h = 8) (ko : g.2.1 h 22 = .int o0) (l_o0 : 0 ≤ o0.toInt) (u_o0 : o0.toInt ≤ 1000000000) : Ty l D cI cZ cS cR N0 yX7_outside cX7_outside 2 (some .int) 1 0 0 [.ref h, .int n] g (fun v g' => ∃ (r : Int32), v = some (.int r) ∧ Inv g' ∧ Ex g g' ∧ Sm md_m_outside g g') := by
  refine t_enter (by decide) (Nat.le_of_ble_eq_true rfl) ?_
  intro p e s m args below meth c ls H locs hB hr hin hl hT
  have hx := hB.1
  have hb := hB.2.1
  have hl : lv_has ls 2 [(0, .ref h), (1, .int n)] := hl
  have hE : Ex g g := Ex.rf
  have hM : Sm md_m_outside g g := Sm.rf
  refine lv_iload_n hx hb dX7_outside_0 rfl (lv_at hl 1 rfl) ?_
  refine lv_iconst (v := 0) hx hb dX7_outside_1 (by decide) ?_
  refine lv_aload_n hx hb dX7_outside_2 rfl (lv_at hl 0 rfl) ?_
  refine t_get (ci := 7) (v := .int o0) hB hT (ro_ci r_h rfl) rfl 22 (by decide) k_767 ko dX7_outside_3 ?_
  refine lv_bipush (v := 40) hx hb dX7_outside_6 (by decide) ?_
  refine lv_icmp_ge (tgt := 18) hx hb dX7_outside_8 (by decide) (fun c_1 => ?_) (fun c_1 => ?_)
  · have c_1' : 40 ≤ o0.toInt := i_le c_1 (by decide) rfl
    refine lv_bipush (v := 40) hx hb dX7_outside_18 (by decide) ?_
    refine lv_iconst (v := 1) hx hb dX7_outside_20 (by decide) ?_
    refine lv_isub hx hb dX7_outside_21 ?_
    refine x_ev (y := 39) (by decide) ?_
    refine t_callS (n := 3) (As := [.int n, .int 0, .int 39]) (rest := []) hB hT hl.1 (m_in l D cI cZ cS cR N0 g hI n 0 39 ) k_954 k_65 k_952 k_953 (by decide +kernel) ⟨(Nat.le_of_ble_eq_true rfl), (Nat.le_of_ble_eq_true rfl)⟩ rfl (Nat.le_of_ble_eq_true rfl) ⟨(Nat.le_of_ble_eq_true rfl), (Nat.le_of_ble_eq_true rfl)⟩ dX7_outside_22 (fun v g_2 H locs hp hT => ?_)
    obtain ⟨r_3, rfl, eg, f_4⟩ := hp
    rw [eg] at hT
    clear eg
    refine W.eq (g2 := F0 m 25 ls [.int r_3]) rfl ?_
    have qc_7 : (0 : Int32).toInt = 0 := (by decide)
    have qc_8 : (39 : Int32).toInt = 39 := (by decide)
    rcases f_4 with ⟨rfl, hw_9, hw_10⟩ | ⟨rfl, hw_11⟩
    · refine W.eq (g2 := F0 m 25 ls [.int 1]) rfl ?_
      refine lv_if_eq (tgt := 37) hx hb dX7_outside_25 (by decide) (fun c_ => absurd c_ (by decide)) (fun c_ => ?_)
      refine lv_aload_n hx hb dX7_outside_28 rfl (lv_at hl 0 rfl) ?_
      obtain ⟨v_12, e_v_12, r_v_12, n_v_12⟩ := f_8_23 hI r_h
      refine t_get (ci := 7) (v := .ref v_12) hB hT (ro_ci r_h rfl) rfl 23 (by decide) k_768 e_v_12 dX7_outside_29 ?_
      refine lv_iload_n hx hb dX7_outside_32 rfl (lv_at hl 1 rfl) ?_
      have i_u_13 : vp_in n 40 := (i_in (n := 40) rfl (by omega) (by omega))
      refine t_iald hB hT (ro_in r_v_12 (by decide)) n_v_12 i_u_13 rfl dX7_outside_33 ?_
      refine lv_topi (fun u_13 e_u_13 => ?_)
      refine lv_goto (tgt := 38) hx hb dX7_outside_34 (by decide) ?_
      exact t_iret hB hr hT (Nat.le_of_ble_eq_true rfl) (Nat.le_of_ble_eq_true rfl) dX7_outside_38 ⟨u_13, rfl, hI, hE, hM⟩
    · refine W.eq (g2 := F0 m 25 ls [.int 0]) rfl ?_
      refine lv_if_eq (tgt := 37) hx hb dX7_outside_25 (by decide) (fun c_ => ?_) (fun c_ => absurd (by decide) c_)
      refine lv_iconst (v := (-1)) hx hb dX7_outside_37 (by decide) ?_
      exact t_iret hB hr hT (Nat.le_of_ble_eq_true rfl) (Nat.le_of_ble_eq_true rfl) dX7_outside_38 ⟨(-1), rfl, hI, hE, hM⟩
  · have c_1' : o0.toInt < 40 := i_nle c_1 (by decide) rfl
    refine lv_aload_n hx hb dX7_outside_11 rfl (lv_at hl 0 rfl) ?_
    refine t_get (ci := 7) (v := .int o0) hB hT (ro_ci r_h rfl) rfl 22 (by decide) k_767 ko dX7_outside_12 ?_
    refine lv_goto (tgt := 20) hx hb dX7_outside_15 (by decide) ?_
    refine lv_iconst (v := 1) hx hb dX7_outside_20 (by decide) ?_
    refine lv_isub hx hb dX7_outside_21 ?_
    refine lv_topi (fun z_14 ez_14 => ?_)
    have e_z_14 : z_14.toInt = o0.toInt - 1 := i_sub ez_14 rfl (by decide) (by omega) (by omega)
    refine t_callS (n := 3) (As := [.int n, .int 0, .int z_14]) (rest := []) hB hT hl.1 (m_in l D cI cZ cS cR N0 g hI n 0 z_14 ) k_954 k_65 k_952 k_953 (by decide +kernel) ⟨(Nat.le_of_ble_eq_true rfl), (Nat.le_of_ble_eq_true rfl)⟩ rfl (Nat.le_of_ble_eq_true rfl) ⟨(Nat.le_of_ble_eq_true rfl), (Nat.le_of_ble_eq_true rfl)⟩ dX7_outside_22 (fun v g_15 H locs hp hT => ?_)
    obtain ⟨r_16, rfl, eg, f_17⟩ := hp
    rw [eg] at hT
    clear eg
    refine W.eq (g2 := F0 m 25 ls [.int r_16]) rfl ?_
    have qc_20 : (0 : Int32).toInt = 0 := (by decide)
    rcases f_17 with ⟨rfl, hw_21, hw_22⟩ | ⟨rfl, hw_23⟩
    · refine W.eq (g2 := F0 m 25 ls [.int 1]) rfl ?_
      refine lv_if_eq (tgt := 37) hx hb dX7_outside_25 (by decide) (fun c_ => absurd c_ (by decide)) (fun c_ => ?_)
      refine lv_aload_n hx hb dX7_outside_28 rfl (lv_at hl 0 rfl) ?_
      obtain ⟨v_24, e_v_24, r_v_24, n_v_24⟩ := f_8_23 hI r_h
      refine t_get (ci := 7) (v := .ref v_24) hB hT (ro_ci r_h rfl) rfl 23 (by decide) k_768 e_v_24 dX7_outside_29 ?_
      refine lv_iload_n hx hb dX7_outside_32 rfl (lv_at hl 1 rfl) ?_
      have i_u_25 : vp_in n 40 := (i_in (n := 40) rfl (by omega) (by omega))
      refine t_iald hB hT (ro_in r_v_24 (by decide)) n_v_24 i_u_25 rfl dX7_outside_33 ?_
      refine lv_topi (fun u_25 e_u_25 => ?_)
      refine lv_goto (tgt := 38) hx hb dX7_outside_34 (by decide) ?_
      exact t_iret hB hr hT (Nat.le_of_ble_eq_true rfl) (Nat.le_of_ble_eq_true rfl) dX7_outside_38 ⟨u_25, rfl, hI, hE, hM⟩
    · refine W.eq (g2 := F0 m 25 ls [.int 0]) rfl ?_
      refine lv_if_eq (tgt := 37) hx hb dX7_outside_25 (by decide) (fun c_ => ?_) (fun c_ => absurd (by decide) c_)
      refine lv_iconst (v := (-1)) hx hb dX7_outside_37 (by decide) ?_
      exact t_iret hB hr hT (Nat.le_of_ble_eq_true rfl) (Nat.le_of_ble_eq_true rfl) dX7_outside_38 ⟨(-1), rfl, hI, hE, hM⟩
abbrev md_m_free : Nat → Nat → Bool := mdf [(8, 34)]
set_option maxHeartbeats 4000000 in
set_option maxRecDepth 100000 in
theorem m_free (l : Launch) (D : va_G) (cI cZ cS cR : ClassId) (N0 : NT) (g : GS) (hI : Inv g) (h : Nat) (n : Int32) (z : Int32) (r_h : g.1 h = 8) (kz : g.2.1 h 34 = .int z) (l_z : 0 ≤ z.toInt) (u_z : z.toInt ≤ 1) : Ty l D cI cZ cS cR N0 yX7_free cX7_free 3 (some .int) 1 0 0 [.ref h, .int n] g (fun v g' => ∃ (r : Int32) (z2 : Int32), v = some (.int r) ∧ Inv g' ∧ Ex g g' ∧ Sm md_m_free g g' ∧ (g'.2.1 h 34 = .int z2) ∧ ((0 ≤ n.toInt ∧ n.toInt ≤ 1 ∧ r.toInt = z.toInt ∧ z2.toInt = n.toInt) ∨ ((n.toInt < 0 ∨ 1 < n.toInt) ∧ r.toInt = -2 ∧ z2.toInt = z.toInt))) := by
  refine t_enter (by decide) (Nat.le_of_ble_eq_true rfl) ?_
  intro p e s m args below meth c ls H locs hB hr hin hl hT
  have hx := hB.1
  have hb := hB.2.1
  have hl : lv_has ls 3 [(0, .ref h), (1, .int n)] := hl
  have hE : Ex g g := Ex.rf
  have hM : Sm md_m_free g g := Sm.rf
  refine lv_iload_n hx hb dX7_free_0 rfl (lv_at hl 1 rfl) ?_
  refine lv_iconst (v := 0) hx hb dX7_free_1 (by decide) ?_
  refine lv_iconst (v := 1) hx hb dX7_free_2 (by decide) ?_
  refine t_callS (n := 3) (As := [.int n, .int 0, .int 1]) (rest := []) hB hT hl.1 (m_in l D cI cZ cS cR N0 g hI n 0 1 ) k_954 k_65 k_952 k_953 (by decide +kernel) ⟨(Nat.le_of_ble_eq_true rfl), (Nat.le_of_ble_eq_true rfl)⟩ rfl (Nat.le_of_ble_eq_true rfl) ⟨(Nat.le_of_ble_eq_true rfl), (Nat.le_of_ble_eq_true rfl)⟩ dX7_free_3 (fun v g_1 H locs hp hT => ?_)
  obtain ⟨r_2, rfl, eg, f_3⟩ := hp
  rw [eg] at hT
  clear eg
  refine W.eq (g2 := F0 m 6 ls [.int r_2]) rfl ?_
  have qc_6 : (0 : Int32).toInt = 0 := (by decide)
  have qc_7 : (1 : Int32).toInt = 1 := (by decide)
  rcases f_3 with ⟨rfl, hw_8, hw_9⟩ | ⟨rfl, hw_10⟩
  · refine W.eq (g2 := F0 m 6 ls [.int 1]) rfl ?_
    refine lv_if_ne (tgt := 12) hx hb dX7_free_6 (by decide) (fun c_ => ?_) (fun c_ => absurd c_ (by decide))
    refine lv_aload_n hx hb dX7_free_12 rfl (lv_at hl 0 rfl) ?_
    refine t_get (ci := 7) (v := .int z) hB hT (ro_ci r_h rfl) rfl 34 (by decide) k_779 kz dX7_free_13 ?_
    refine lv_if_eq (tgt := 23) hx hb dX7_free_16 (by decide) (fun c_11 => ?_) (fun c_11 => ?_)
    · have c_11' : z.toInt = 0 := i_eq c_11 rfl (by decide)
      refine lv_iconst (v := 0) hx hb dX7_free_23 (by decide) ?_
      refine lv_istore_n (lv' := [(2, .int 0), (0, .ref h), (1, .int n)]) hx hb dX7_free_24 rfl hl (by decide) rfl (fun ls hl => ?_)
      refine lv_aload_n hx hb dX7_free_25 rfl (lv_at hl 1 rfl) ?_
      refine lv_iload_n hx hb dX7_free_26 rfl (lv_at hl 2 rfl) ?_
      refine lv_iconst (v := 1) hx hb dX7_free_27 (by decide) ?_
      refine lv_icmp_ne (tgt := 35) hx hb dX7_free_28 (by decide) (fun c_12 => ?_) (fun c_12 => ?_)
      · have c_12' : n.toInt ≠ 1 := i_ne c_12 rfl (by decide)
        refine lv_iconst (v := 0) hx hb dX7_free_35 (by decide) ?_
        refine t_put0 (ci := 7) (v := .int 0) hB hT (ro_ci r_h rfl) (ro_n0 r_h (by decide)) rfl 34 (by decide) k_779 (Or.inl rfl) rfl rfl dX7_free_36 (fun H locs hT => ?_)
        have hI : Inv (sF g h 34 (.int 0)) := hI.sF (p_8_34 r_h (⟨_, rfl, by decide, by decide⟩))
        have hM : Sm md_m_free g (sF g h 34 (.int 0)) := hM.tr hE (Sm_sF (by rw [r_h]; rfl))
        have hE : Ex g (sF g h 34 (.int 0)) := hE
        refine lv_iload_n hx hb dX7_free_39 rfl (lv_at hl 0 rfl) ?_
        exact t_iret hB hr hT (Nat.le_of_ble_eq_true rfl) (Nat.le_of_ble_eq_true rfl) dX7_free_40 ⟨0, 0, rfl, hI, hE, hM, sF_eq, (by have q1 : (1 : Int32).toInt = 1 := (by decide); have q0 : (0 : Int32).toInt = 0 := (by decide); have q2 : (-2 : Int32).toInt = -2 := (by decide); omega)⟩
      · have c_12' : n.toInt = 1 := i_eq c_12 rfl (by decide)
        refine lv_iconst (v := 1) hx hb dX7_free_31 (by decide) ?_
        refine lv_goto (tgt := 36) hx hb dX7_free_32 (by decide) ?_
        refine t_put0 (ci := 7) (v := .int 1) hB hT (ro_ci r_h rfl) (ro_n0 r_h (by decide)) rfl 34 (by decide) k_779 (Or.inl rfl) rfl rfl dX7_free_36 (fun H locs hT => ?_)
        have hI : Inv (sF g h 34 (.int 1)) := hI.sF (p_8_34 r_h (⟨_, rfl, by decide, by decide⟩))
        have hM : Sm md_m_free g (sF g h 34 (.int 1)) := hM.tr hE (Sm_sF (by rw [r_h]; rfl))
        have hE : Ex g (sF g h 34 (.int 1)) := hE
        refine lv_iload_n hx hb dX7_free_39 rfl (lv_at hl 0 rfl) ?_
        exact t_iret hB hr hT (Nat.le_of_ble_eq_true rfl) (Nat.le_of_ble_eq_true rfl) dX7_free_40 ⟨0, 1, rfl, hI, hE, hM, sF_eq, (by have q1 : (1 : Int32).toInt = 1 := (by decide); have q0 : (0 : Int32).toInt = 0 := (by decide); have q2 : (-2 : Int32).toInt = -2 := (by decide); omega)⟩
    · have c_11' : z.toInt ≠ 0 := i_ne c_11 rfl (by decide)
      refine lv_iconst (v := 1) hx hb dX7_free_19 (by decide) ?_
      refine lv_goto (tgt := 24) hx hb dX7_free_20 (by decide) ?_
      refine lv_istore_n (lv' := [(2, .int 1), (0, .ref h), (1, .int n)]) hx hb dX7_free_24 rfl hl (by decide) rfl (fun ls hl => ?_)
      refine lv_aload_n hx hb dX7_free_25 rfl (lv_at hl 1 rfl) ?_
      refine lv_iload_n hx hb dX7_free_26 rfl (lv_at hl 2 rfl) ?_
      refine lv_iconst (v := 1) hx hb dX7_free_27 (by decide) ?_
      refine lv_icmp_ne (tgt := 35) hx hb dX7_free_28 (by decide) (fun c_13 => ?_) (fun c_13 => ?_)
      · have c_13' : n.toInt ≠ 1 := i_ne c_13 rfl (by decide)
        refine lv_iconst (v := 0) hx hb dX7_free_35 (by decide) ?_
        refine t_put0 (ci := 7) (v := .int 0) hB hT (ro_ci r_h rfl) (ro_n0 r_h (by decide)) rfl 34 (by decide) k_779 (Or.inl rfl) rfl rfl dX7_free_36 (fun H locs hT => ?_)
        have hI : Inv (sF g h 34 (.int 0)) := hI.sF (p_8_34 r_h (⟨_, rfl, by decide, by decide⟩))
        have hM : Sm md_m_free g (sF g h 34 (.int 0)) := hM.tr hE (Sm_sF (by rw [r_h]; rfl))
        have hE : Ex g (sF g h 34 (.int 0)) := hE
        refine lv_iload_n hx hb dX7_free_39 rfl (lv_at hl 0 rfl) ?_
        exact t_iret hB hr hT (Nat.le_of_ble_eq_true rfl) (Nat.le_of_ble_eq_true rfl) dX7_free_40 ⟨1, 0, rfl, hI, hE, hM, sF_eq, (by have q1 : (1 : Int32).toInt = 1 := (by decide); have q0 : (0 : Int32).toInt = 0 := (by decide); have q2 : (-2 : Int32).toInt = -2 := (by decide); omega)⟩
      · have c_13' : n.toInt = 1 := i_eq c_13 rfl (by decide)
        refine lv_iconst (v := 1) hx hb dX7_free_31 (by decide) ?_
        refine lv_goto (tgt := 36) hx hb dX7_free_32 (by decide) ?_
        refine t_put0 (ci := 7) (v := .int 1) hB hT (ro_ci r_h rfl) (ro_n0 r_h (by decide)) rfl 34 (by decide) k_779 (Or.inl rfl) rfl rfl dX7_free_36 (fun H locs hT => ?_)
        have hI : Inv (sF g h 34 (.int 1)) := hI.sF (p_8_34 r_h (⟨_, rfl, by decide, by decide⟩))
        have hM : Sm md_m_free g (sF g h 34 (.int 1)) := hM.tr hE (Sm_sF (by rw [r_h]; rfl))
        have hE : Ex g (sF g h 34 (.int 1)) := hE
        refine lv_iload_n hx hb dX7_free_39 rfl (lv_at hl 0 rfl) ?_
        exact t_iret hB hr hT (Nat.le_of_ble_eq_true rfl) (Nat.le_of_ble_eq_true rfl) dX7_free_40 ⟨1, 1, rfl, hI, hE, hM, sF_eq, (by have q1 : (1 : Int32).toInt = 1 := (by decide); have q0 : (0 : Int32).toInt = 0 := (by decide); have q2 : (-2 : Int32).toInt = -2 := (by decide); omega)⟩
  · refine W.eq (g2 := F0 m 6 ls [.int 0]) rfl ?_
    refine lv_if_ne (tgt := 12) hx hb dX7_free_6 (by decide) (fun c_ => absurd (by decide) c_) (fun c_ => ?_)
    refine lv_bipush (v := (-2)) hx hb dX7_free_9 (by decide) ?_
    exact t_iret hB hr hT (Nat.le_of_ble_eq_true rfl) (Nat.le_of_ble_eq_true rfl) dX7_free_11 ⟨(-2), z, rfl, hI, hE, hM, kz, (by have q1 : (1 : Int32).toInt = 1 := (by decide); have q0 : (0 : Int32).toInt = 0 := (by decide); have q2 : (-2 : Int32).toInt = -2 := (by decide); omega)⟩
