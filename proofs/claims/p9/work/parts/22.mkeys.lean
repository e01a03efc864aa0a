theorem k_29 : Cond.selects RX7 yX7_isOver yX7_isOver ∈ tb := mt 29 (by decide +kernel) rfl
theorem k_34 : Cond.selects RX7 yX7_base yX7_base ∈ tb := mt 34 (by decide +kernel) rfl
theorem k_35 : Cond.selects RX7 yX7_goes yX7_goes ∈ tb := mt 35 (by decide +kernel) rfl
theorem k_36 : Cond.selects RX7 yX7_moves yX7_moves ∈ tb := mt 36 (by decide +kernel) rfl
theorem k_754 : Cond.fieldLink RX7 34 "TwiceOnceModel" "kept" "[I" ∈ tb := mt 754 (by decide +kernel) rfl
theorem k_755 : Cond.fieldLink RX7 37 "TwiceOnceModel" "key" "[I" ∈ tb := mt 755 (by decide +kernel) rfl
theorem k_756 : Cond.fieldLink RX7 40 "TwiceOnceModel" "keyX" "[I" ∈ tb := mt 756 (by decide +kernel) rfl
theorem k_757 : Cond.fieldLink RX7 43 "TwiceOnceModel" "keyAnswer" "[I" ∈ tb := mt 757 (by decide +kernel) rfl
theorem k_758 : Cond.fieldLink RX7 46 "TwiceOnceModel" "keyTick" "[I" ∈ tb := mt 758 (by decide +kernel) rfl
theorem k_766 : Cond.fieldLink RX7 223 "TwiceOnceModel" "world" "I" ∈ tb := mt 766 (by decide +kernel) rfl
theorem k_1012 : Cond.methodLink RX7 226 yX7_isOver ∈ tb := mt 1012 (by decide +kernel) rfl
theorem k_1014 : Cond.instanceMethod yX7_isOver ∈ tb := mt 1014 (by decide +kernel) rfl
set_option maxRecDepth 20000 in
theorem k_1015 : Cond.code yX7_isOver cX7_isOver 3 (some .boolean) ∈ tb := mt 1015 rfl rfl
theorem k_1040 : Cond.methodLink RX7 232 yX7_base ∈ tb := mt 1040 (by decide +kernel) rfl
theorem k_1042 : Cond.instanceMethod yX7_base ∈ tb := mt 1042 (by decide +kernel) rfl
set_option maxRecDepth 20000 in
theorem k_1043 : Cond.code yX7_base cX7_base 2 (some .int) ∈ tb := mt 1043 rfl rfl
theorem k_1044 : Cond.methodLink RX7 239 yX7_goes ∈ tb := mt 1044 (by decide +kernel) rfl
theorem k_1046 : Cond.instanceMethod yX7_goes ∈ tb := mt 1046 (by decide +kernel) rfl
set_option maxRecDepth 20000 in
theorem k_1047 : Cond.code yX7_goes cX7_goes 5 none ∈ tb := mt 1047 rfl rfl
theorem k_1048 : Cond.methodLink RX7 235 yX7_moves ∈ tb := mt 1048 (by decide +kernel) rfl
theorem k_1050 : Cond.instanceMethod yX7_moves ∈ tb := mt 1050 (by decide +kernel) rfl
set_option maxRecDepth 20000 in
theorem k_1051 : Cond.code yX7_moves cX7_moves 3 none ∈ tb := mt 1051 rfl rfl
theorem dX7_moves_0 : decode cX7_moves 0 = .ok (.aload_n 0, 1) := by decide +kernel
theorem dX7_moves_1 : decode cX7_moves 1 = .ok (.getfield 37, 3) := by decide +kernel
theorem dX7_moves_4 : decode cX7_moves 4 = .ok (.iload_n 2, 1) := by decide +kernel
theorem dX7_moves_5 : decode cX7_moves 5 = .ok (.aload_n 0, 1) := by decide +kernel
theorem dX7_moves_6 : decode cX7_moves 6 = .ok (.getfield 37, 3) := by decide +kernel
theorem dX7_moves_9 : decode cX7_moves 9 = .ok (.iload_n 1, 1) := by decide +kernel
theorem dX7_moves_10 : decode cX7_moves 10 = .ok (.iaload, 1) := by decide +kernel
theorem dX7_moves_11 : decode cX7_moves 11 = .ok (.iastore, 1) := by decide +kernel
theorem dX7_moves_12 : decode cX7_moves 12 = .ok (.aload_n 0, 1) := by decide +kernel
theorem dX7_moves_13 : decode cX7_moves 13 = .ok (.getfield 40, 3) := by decide +kernel
theorem dX7_moves_16 : decode cX7_moves 16 = .ok (.iload_n 2, 1) := by decide +kernel
theorem dX7_moves_17 : decode cX7_moves 17 = .ok (.aload_n 0, 1) := by decide +kernel
theorem dX7_moves_18 : decode cX7_moves 18 = .ok (.getfield 40, 3) := by decide +kernel
theorem dX7_moves_21 : decode cX7_moves 21 = .ok (.iload_n 1, 1) := by decide +kernel
theorem dX7_moves_22 : decode cX7_moves 22 = .ok (.iaload, 1) := by decide +kernel
theorem dX7_moves_23 : decode cX7_moves 23 = .ok (.iastore, 1) := by decide +kernel
theorem dX7_moves_24 : decode cX7_moves 24 = .ok (.aload_n 0, 1) := by decide +kernel
theorem dX7_moves_25 : decode cX7_moves 25 = .ok (.getfield 43, 3) := by decide +kernel
theorem dX7_moves_28 : decode cX7_moves 28 = .ok (.iload_n 2, 1) := by decide +kernel
theorem dX7_moves_29 : decode cX7_moves 29 = .ok (.aload_n 0, 1) := by decide +kernel
theorem dX7_moves_30 : decode cX7_moves 30 = .ok (.getfield 43, 3) := by decide +kernel
theorem dX7_moves_33 : decode cX7_moves 33 = .ok (.iload_n 1, 1) := by decide +kernel
theorem dX7_moves_34 : decode cX7_moves 34 = .ok (.iaload, 1) := by decide +kernel
theorem dX7_moves_35 : decode cX7_moves 35 = .ok (.iastore, 1) := by decide +kernel
theorem dX7_moves_36 : decode cX7_moves 36 = .ok (.aload_n 0, 1) := by decide +kernel
theorem dX7_moves_37 : decode cX7_moves 37 = .ok (.getfield 46, 3) := by decide +kernel
theorem dX7_moves_40 : decode cX7_moves 40 = .ok (.iload_n 2, 1) := by decide +kernel
theorem dX7_moves_41 : decode cX7_moves 41 = .ok (.aload_n 0, 1) := by decide +kernel
theorem dX7_moves_42 : decode cX7_moves 42 = .ok (.getfield 46, 3) := by decide +kernel
theorem dX7_moves_45 : decode cX7_moves 45 = .ok (.iload_n 1, 1) := by decide +kernel
theorem dX7_moves_46 : decode cX7_moves 46 = .ok (.iaload, 1) := by decide +kernel
theorem dX7_moves_47 : decode cX7_moves 47 = .ok (.iastore, 1) := by decide +kernel
theorem dX7_moves_48 : decode cX7_moves 48 = .ok (.return_, 1) := by decide +kernel
theorem dX7_isOver_0 : decode cX7_isOver 0 = .ok (.aload_n 0, 1) := by decide +kernel
theorem dX7_isOver_1 : decode cX7_isOver 1 = .ok (.getfield 49, 3) := by decide +kernel
theorem dX7_isOver_4 : decode cX7_isOver 4 = .ok (.aload_n 0, 1) := by decide +kernel
theorem dX7_isOver_5 : decode cX7_isOver 5 = .ok (.getfield 223, 3) := by decide +kernel
theorem dX7_isOver_8 : decode cX7_isOver 8 = .ok (.iaload, 1) := by decide +kernel
theorem dX7_isOver_9 : decode cX7_isOver 9 = .ok (.aload_n 0, 1) := by decide +kernel
theorem dX7_isOver_10 : decode cX7_isOver 10 = .ok (.getfield 46, 3) := by decide +kernel
theorem dX7_isOver_13 : decode cX7_isOver 13 = .ok (.iload_n 1, 1) := by decide +kernel
theorem dX7_isOver_14 : decode cX7_isOver 14 = .ok (.iaload, 1) := by decide +kernel
theorem dX7_isOver_15 : decode cX7_isOver 15 = .ok (.aload_n 0, 1) := by decide +kernel
theorem dX7_isOver_16 : decode cX7_isOver 16 = .ok (.getfield 25, 3) := by decide +kernel
theorem dX7_isOver_19 : decode cX7_isOver 19 = .ok (.iload_n 2, 1) := by decide +kernel
theorem dX7_isOver_20 : decode cX7_isOver 20 = .ok (.iaload, 1) := by decide +kernel
theorem dX7_isOver_21 : decode cX7_isOver 21 = .ok (.iadd, 1) := by decide +kernel
theorem dX7_isOver_22 : decode cX7_isOver 22 = .ok (.if_icmp .le 7, 3) := by decide +kernel
theorem dX7_isOver_29 : decode cX7_isOver 29 = .ok (.iconst 0, 1) := by decide +kernel
theorem dX7_isOver_30 : decode cX7_isOver 30 = .ok (.ireturn, 1) := by decide +kernel
theorem dX7_isOver_25 : decode cX7_isOver 25 = .ok (.iconst 1, 1) := by decide +kernel
theorem dX7_isOver_26 : decode cX7_isOver 26 = .ok (.goto 4, 3) := by decide +kernel
theorem dX7_canAsk_0 : decode cX7_canAsk 0 = .ok (.aload_n 0, 1) := by decide +kernel
theorem dX7_canAsk_1 : decode cX7_canAsk 1 = .ok (.getfield 13, 3) := by decide +kernel
theorem dX7_canAsk_4 : decode cX7_canAsk 4 = .ok (.iload_n 2, 1) := by decide +kernel
theorem dX7_canAsk_5 : decode cX7_canAsk 5 = .ok (.iaload, 1) := by decide +kernel
theorem dX7_canAsk_6 : decode cX7_canAsk 6 = .ok (.iconst 5, 1) := by decide +kernel
theorem dX7_canAsk_7 : decode cX7_canAsk 7 = .ok (.if_icmp .ne 30, 3) := by decide +kernel
theorem dX7_canAsk_37 : decode cX7_canAsk 37 = .ok (.iconst 0, 1) := by decide +kernel
theorem dX7_canAsk_38 : decode cX7_canAsk 38 = .ok (.ireturn, 1) := by decide +kernel
theorem dX7_canAsk_10 : decode cX7_canAsk 10 = .ok (.aload_n 0, 1) := by decide +kernel
theorem dX7_canAsk_11 : decode cX7_canAsk 11 = .ok (.getfield 16, 3) := by decide +kernel
theorem dX7_canAsk_14 : decode cX7_canAsk 14 = .ok (.iload_n 2, 1) := by decide +kernel
theorem dX7_canAsk_15 : decode cX7_canAsk 15 = .ok (.iaload, 1) := by decide +kernel
theorem dX7_canAsk_16 : decode cX7_canAsk 16 = .ok (.iload_n 1, 1) := by decide +kernel
theorem dX7_canAsk_17 : decode cX7_canAsk 17 = .ok (.if_icmp .le 20, 3) := by decide +kernel
theorem dX7_canAsk_20 : decode cX7_canAsk 20 = .ok (.aload_n 0, 1) := by decide +kernel
theorem dX7_canAsk_21 : decode cX7_canAsk 21 = .ok (.aload_n 0, 1) := by decide +kernel
theorem dX7_canAsk_22 : decode cX7_canAsk 22 = .ok (.getfield 16, 3) := by decide +kernel
theorem dX7_canAsk_25 : decode cX7_canAsk 25 = .ok (.iload_n 2, 1) := by decide +kernel
theorem dX7_canAsk_26 : decode cX7_canAsk 26 = .ok (.iaload, 1) := by decide +kernel
theorem dX7_canAsk_27 : decode cX7_canAsk 27 = .ok (.invokevirtual 212, 3) := by decide +kernel
theorem dX7_canAsk_30 : decode cX7_canAsk 30 = .ok (.ifCond .eq 7, 3) := by decide +kernel
theorem dX7_canAsk_33 : decode cX7_canAsk 33 = .ok (.iconst 1, 1) := by decide +kernel
theorem dX7_canAsk_34 : decode cX7_canAsk 34 = .ok (.goto 4, 3) := by decide +kernel
theorem dX7_base_0 : decode cX7_base 0 = .ok (.bipush 6, 2) := by decide +kernel
theorem dX7_base_2 : decode cX7_base 2 = .ok (.aload_n 0, 1) := by decide +kernel
theorem dX7_base_3 : decode cX7_base 3 = .ok (.getfield 223, 3) := by decide +kernel
theorem dX7_base_6 : decode cX7_base 6 = .ok (.imul, 1) := by decide +kernel
theorem dX7_base_7 : decode cX7_base 7 = .ok (.iload_n 1, 1) := by decide +kernel
theorem dX7_base_8 : decode cX7_base 8 = .ok (.iadd, 1) := by decide +kernel
theorem dX7_base_9 : decode cX7_base 9 = .ok (.ireturn, 1) := by decide +kernel
theorem dX7_find_12 : decode cX7_find 12 = .ok (.iload 4, 2) := by decide +kernel
theorem dX7_find_14 : decode cX7_find 14 = .ok (.iload_n 3, 1) := by decide +kernel
theorem dX7_find_15 : decode cX7_find 15 = .ok (.aload_n 0, 1) := by decide +kernel
theorem dX7_find_16 : decode cX7_find 16 = .ok (.getfield 34, 3) := by decide +kernel
theorem dX7_find_19 : decode cX7_find 19 = .ok (.aload_n 0, 1) := by decide +kernel
theorem dX7_find_20 : decode cX7_find 20 = .ok (.iload_n 1, 1) := by decide +kernel
theorem dX7_find_21 : decode cX7_find 21 = .ok (.invokevirtual 232, 3) := by decide +kernel
theorem dX7_find_24 : decode cX7_find 24 = .ok (.iaload, 1) := by decide +kernel
theorem dX7_find_25 : decode cX7_find 25 = .ok (.iadd, 1) := by decide +kernel
theorem dX7_find_26 : decode cX7_find 26 = .ok (.if_icmp .ge 23, 3) := by decide +kernel
theorem dX7_find_49 : decode cX7_find 49 = .ok (.iconst (-1), 1) := by decide +kernel
theorem dX7_find_50 : decode cX7_find 50 = .ok (.ireturn, 1) := by decide +kernel
theorem dX7_find_29 : decode cX7_find 29 = .ok (.aload_n 0, 1) := by decide +kernel
theorem dX7_find_30 : decode cX7_find 30 = .ok (.getfield 37, 3) := by decide +kernel
theorem dX7_find_33 : decode cX7_find 33 = .ok (.iload 4, 2) := by decide +kernel
theorem dX7_find_35 : decode cX7_find 35 = .ok (.iaload, 1) := by decide +kernel
theorem dX7_find_36 : decode cX7_find 36 = .ok (.iload_n 2, 1) := by decide +kernel
theorem dX7_find_37 : decode cX7_find 37 = .ok (.if_icmp .ne 6, 3) := by decide +kernel
theorem dX7_find_43 : decode cX7_find 43 = .ok (.iinc 4 1, 3) := by decide +kernel
theorem dX7_find_46 : decode cX7_find 46 = .ok (.goto (-34), 3) := by decide +kernel
theorem dX7_find_40 : decode cX7_find 40 = .ok (.iload 4, 2) := by decide +kernel
theorem dX7_find_42 : decode cX7_find 42 = .ok (.ireturn, 1) := by decide +kernel
theorem dX7_find_0 : decode cX7_find 0 = .ok (.bipush 16, 2) := by decide +kernel
theorem dX7_find_2 : decode cX7_find 2 = .ok (.aload_n 0, 1) := by decide +kernel
theorem dX7_find_3 : decode cX7_find 3 = .ok (.iload_n 1, 1) := by decide +kernel
theorem dX7_find_4 : decode cX7_find 4 = .ok (.invokevirtual 232, 3) := by decide +kernel
theorem dX7_find_7 : decode cX7_find 7 = .ok (.imul, 1) := by decide +kernel
theorem dX7_find_8 : decode cX7_find 8 = .ok (.istore_n 3, 1) := by decide +kernel
theorem dX7_find_9 : decode cX7_find 9 = .ok (.iload_n 3, 1) := by decide +kernel
theorem dX7_find_10 : decode cX7_find 10 = .ok (.istore 4, 2) := by decide +kernel
theorem dX7_goes_25 : decode cX7_goes 25 = .ok (.iload 4, 2) := by decide +kernel
theorem dX7_goes_27 : decode cX7_goes 27 = .ok (.iload_n 3, 1) := by decide +kernel
theorem dX7_goes_28 : decode cX7_goes 28 = .ok (.if_icmp .ge 19, 3) := by decide +kernel
theorem dX7_goes_47 : decode cX7_goes 47 = .ok (.aload_n 0, 1) := by decide +kernel
theorem dX7_goes_48 : decode cX7_goes 48 = .ok (.getfield 34, 3) := by decide +kernel
theorem dX7_goes_51 : decode cX7_goes 51 = .ok (.aload_n 0, 1) := by decide +kernel
theorem dX7_goes_52 : decode cX7_goes 52 = .ok (.iload_n 1, 1) := by decide +kernel
theorem dX7_goes_53 : decode cX7_goes 53 = .ok (.invokevirtual 232, 3) := by decide +kernel
theorem dX7_goes_56 : decode cX7_goes 56 = .ok (.dup2, 1) := by decide +kernel
theorem dX7_goes_57 : decode cX7_goes 57 = .ok (.iaload, 1) := by decide +kernel
theorem dX7_goes_58 : decode cX7_goes 58 = .ok (.iconst 1, 1) := by decide +kernel
theorem dX7_goes_59 : decode cX7_goes 59 = .ok (.isub, 1) := by decide +kernel
theorem dX7_goes_60 : decode cX7_goes 60 = .ok (.iastore, 1) := by decide +kernel
theorem dX7_goes_61 : decode cX7_goes 61 = .ok (.return_, 1) := by decide +kernel
theorem dX7_goes_31 : decode cX7_goes 31 = .ok (.aload_n 0, 1) := by decide +kernel
theorem dX7_goes_32 : decode cX7_goes 32 = .ok (.iload 4, 2) := by decide +kernel
theorem dX7_goes_34 : decode cX7_goes 34 = .ok (.iload 4, 2) := by decide +kernel
theorem dX7_goes_36 : decode cX7_goes 36 = .ok (.iconst 1, 1) := by decide +kernel
theorem dX7_goes_37 : decode cX7_goes 37 = .ok (.isub, 1) := by decide +kernel
theorem dX7_goes_38 : decode cX7_goes 38 = .ok (.invokevirtual 235, 3) := by decide +kernel
theorem dX7_goes_41 : decode cX7_goes 41 = .ok (.iinc 4 1, 3) := by decide +kernel
theorem dX7_goes_44 : decode cX7_goes 44 = .ok (.goto (-19), 3) := by decide +kernel
theorem dX7_goes_0 : decode cX7_goes 0 = .ok (.bipush 16, 2) := by decide +kernel
theorem dX7_goes_2 : decode cX7_goes 2 = .ok (.aload_n 0, 1) := by decide +kernel
theorem dX7_goes_3 : decode cX7_goes 3 = .ok (.iload_n 1, 1) := by decide +kernel
theorem dX7_goes_4 : decode cX7_goes 4 = .ok (.invokevirtual 232, 3) := by decide +kernel
theorem dX7_goes_7 : decode cX7_goes 7 = .ok (.imul, 1) := by decide +kernel
theorem dX7_goes_8 : decode cX7_goes 8 = .ok (.aload_n 0, 1) := by decide +kernel
theorem dX7_goes_9 : decode cX7_goes 9 = .ok (.getfield 34, 3) := by decide +kernel
theorem dX7_goes_12 : decode cX7_goes 12 = .ok (.aload_n 0, 1) := by decide +kernel
theorem dX7_goes_13 : decode cX7_goes 13 = .ok (.iload_n 1, 1) := by decide +kernel
theorem dX7_goes_14 : decode cX7_goes 14 = .ok (.invokevirtual 232, 3) := by decide +kernel
theorem dX7_goes_17 : decode cX7_goes 17 = .ok (.iaload, 1) := by decide +kernel
theorem dX7_goes_18 : decode cX7_goes 18 = .ok (.iadd, 1) := by decide +kernel
theorem dX7_goes_19 : decode cX7_goes 19 = .ok (.istore_n 3, 1) := by decide +kernel
theorem dX7_goes_20 : decode cX7_goes 20 = .ok (.iload_n 2, 1) := by decide +kernel
theorem dX7_goes_21 : decode cX7_goes 21 = .ok (.iconst 1, 1) := by decide +kernel
theorem dX7_goes_22 : decode cX7_goes 22 = .ok (.iadd, 1) := by decide +kernel
theorem dX7_goes_23 : decode cX7_goes 23 = .ok (.istore 4, 2) := by decide +kernel
theorem dX7_keeps_0 : decode cX7_keeps 0 = .ok (.aload_n 0, 1) := by decide +kernel
theorem dX7_keeps_1 : decode cX7_keeps 1 = .ok (.getfield 34, 3) := by decide +kernel
theorem dX7_keeps_4 : decode cX7_keeps 4 = .ok (.aload_n 0, 1) := by decide +kernel
theorem dX7_keeps_5 : decode cX7_keeps 5 = .ok (.iload_n 1, 1) := by decide +kernel
theorem dX7_keeps_6 : decode cX7_keeps 6 = .ok (.invokevirtual 232, 3) := by decide +kernel
theorem dX7_keeps_9 : decode cX7_keeps 9 = .ok (.iaload, 1) := by decide +kernel
theorem dX7_keeps_10 : decode cX7_keeps 10 = .ok (.bipush 16, 2) := by decide +kernel
theorem dX7_keeps_12 : decode cX7_keeps 12 = .ok (.if_icmp .ne 16, 3) := by decide +kernel
theorem dX7_keeps_28 : decode cX7_keeps 28 = .ok (.bipush 16, 2) := by decide +kernel
theorem dX7_keeps_30 : decode cX7_keeps 30 = .ok (.aload_n 0, 1) := by decide +kernel
theorem dX7_keeps_31 : decode cX7_keeps 31 = .ok (.iload_n 1, 1) := by decide +kernel
theorem dX7_keeps_32 : decode cX7_keeps 32 = .ok (.invokevirtual 232, 3) := by decide +kernel
theorem dX7_keeps_35 : decode cX7_keeps 35 = .ok (.imul, 1) := by decide +kernel
theorem dX7_keeps_36 : decode cX7_keeps 36 = .ok (.aload_n 0, 1) := by decide +kernel
theorem dX7_keeps_37 : decode cX7_keeps 37 = .ok (.getfield 34, 3) := by decide +kernel
theorem dX7_keeps_40 : decode cX7_keeps 40 = .ok (.aload_n 0, 1) := by decide +kernel
theorem dX7_keeps_41 : decode cX7_keeps 41 = .ok (.iload_n 1, 1) := by decide +kernel
theorem dX7_keeps_42 : decode cX7_keeps 42 = .ok (.invokevirtual 232, 3) := by decide +kernel
theorem dX7_keeps_45 : decode cX7_keeps 45 = .ok (.iaload, 1) := by decide +kernel
theorem dX7_keeps_46 : decode cX7_keeps 46 = .ok (.iadd, 1) := by decide +kernel
theorem dX7_keeps_47 : decode cX7_keeps 47 = .ok (.istore 5, 2) := by decide +kernel
theorem dX7_keeps_49 : decode cX7_keeps 49 = .ok (.aload_n 0, 1) := by decide +kernel
theorem dX7_keeps_50 : decode cX7_keeps 50 = .ok (.getfield 37, 3) := by decide +kernel
theorem dX7_keeps_53 : decode cX7_keeps 53 = .ok (.iload 5, 2) := by decide +kernel
theorem dX7_keeps_55 : decode cX7_keeps 55 = .ok (.iload_n 2, 1) := by decide +kernel
theorem dX7_keeps_56 : decode cX7_keeps 56 = .ok (.iastore, 1) := by decide +kernel
theorem dX7_keeps_57 : decode cX7_keeps 57 = .ok (.aload_n 0, 1) := by decide +kernel
theorem dX7_keeps_58 : decode cX7_keeps 58 = .ok (.getfield 40, 3) := by decide +kernel
theorem dX7_keeps_61 : decode cX7_keeps 61 = .ok (.iload 5, 2) := by decide +kernel
theorem dX7_keeps_63 : decode cX7_keeps 63 = .ok (.iload_n 3, 1) := by decide +kernel
theorem dX7_keeps_64 : decode cX7_keeps 64 = .ok (.iastore, 1) := by decide +kernel
theorem dX7_keeps_65 : decode cX7_keeps 65 = .ok (.aload_n 0, 1) := by decide +kernel
theorem dX7_keeps_66 : decode cX7_keeps 66 = .ok (.getfield 43, 3) := by decide +kernel
theorem dX7_keeps_69 : decode cX7_keeps 69 = .ok (.iload 5, 2) := by decide +kernel
theorem dX7_keeps_71 : decode cX7_keeps 71 = .ok (.iload 4, 2) := by decide +kernel
theorem dX7_keeps_73 : decode cX7_keeps 73 = .ok (.iastore, 1) := by decide +kernel
theorem dX7_keeps_74 : decode cX7_keeps 74 = .ok (.aload_n 0, 1) := by decide +kernel
theorem dX7_keeps_75 : decode cX7_keeps 75 = .ok (.getfield 46, 3) := by decide +kernel
theorem dX7_keeps_78 : decode cX7_keeps 78 = .ok (.iload 5, 2) := by decide +kernel
theorem dX7_keeps_80 : decode cX7_keeps 80 = .ok (.aload_n 0, 1) := by decide +kernel
theorem dX7_keeps_81 : decode cX7_keeps 81 = .ok (.getfield 49, 3) := by decide +kernel
theorem dX7_keeps_84 : decode cX7_keeps 84 = .ok (.aload_n 0, 1) := by decide +kernel
theorem dX7_keeps_85 : decode cX7_keeps 85 = .ok (.getfield 223, 3) := by decide +kernel
theorem dX7_keeps_88 : decode cX7_keeps 88 = .ok (.iaload, 1) := by decide +kernel
theorem dX7_keeps_89 : decode cX7_keeps 89 = .ok (.iastore, 1) := by decide +kernel
theorem dX7_keeps_90 : decode cX7_keeps 90 = .ok (.aload_n 0, 1) := by decide +kernel
theorem dX7_keeps_91 : decode cX7_keeps 91 = .ok (.getfield 34, 3) := by decide +kernel
theorem dX7_keeps_94 : decode cX7_keeps 94 = .ok (.aload_n 0, 1) := by decide +kernel
theorem dX7_keeps_95 : decode cX7_keeps 95 = .ok (.iload_n 1, 1) := by decide +kernel
theorem dX7_keeps_96 : decode cX7_keeps 96 = .ok (.invokevirtual 232, 3) := by decide +kernel
theorem dX7_keeps_99 : decode cX7_keeps 99 = .ok (.dup2, 1) := by decide +kernel
theorem dX7_keeps_100 : decode cX7_keeps 100 = .ok (.iaload, 1) := by decide +kernel
theorem dX7_keeps_101 : decode cX7_keeps 101 = .ok (.iconst 1, 1) := by decide +kernel
theorem dX7_keeps_102 : decode cX7_keeps 102 = .ok (.iadd, 1) := by decide +kernel
theorem dX7_keeps_103 : decode cX7_keeps 103 = .ok (.iastore, 1) := by decide +kernel
theorem dX7_keeps_104 : decode cX7_keeps 104 = .ok (.return_, 1) := by decide +kernel
theorem dX7_keeps_15 : decode cX7_keeps 15 = .ok (.aload_n 0, 1) := by decide +kernel
theorem dX7_keeps_16 : decode cX7_keeps 16 = .ok (.iload_n 1, 1) := by decide +kernel
theorem dX7_keeps_17 : decode cX7_keeps 17 = .ok (.bipush 16, 2) := by decide +kernel
theorem dX7_keeps_19 : decode cX7_keeps 19 = .ok (.aload_n 0, 1) := by decide +kernel
theorem dX7_keeps_20 : decode cX7_keeps 20 = .ok (.iload_n 1, 1) := by decide +kernel
theorem dX7_keeps_21 : decode cX7_keeps 21 = .ok (.invokevirtual 232, 3) := by decide +kernel
theorem dX7_keeps_24 : decode cX7_keeps 24 = .ok (.imul, 1) := by decide +kernel
theorem dX7_keeps_25 : decode cX7_keeps 25 = .ok (.invokevirtual 239, 3) := by decide +kernel
theorem dX7_ends_19 : decode cX7_ends 19 = .ok (.iload_n 2, 1) := by decide +kernel
theorem dX7_ends_20 : decode cX7_ends 20 = .ok (.bipush 16, 2) := by decide +kernel
theorem dX7_ends_22 : decode cX7_ends 22 = .ok (.aload_n 0, 1) := by decide +kernel
theorem dX7_ends_23 : decode cX7_ends 23 = .ok (.iload_n 1, 1) := by decide +kernel
theorem dX7_ends_24 : decode cX7_ends 24 = .ok (.invokevirtual 232, 3) := by decide +kernel
theorem dX7_ends_27 : decode cX7_ends 27 = .ok (.imul, 1) := by decide +kernel
theorem dX7_ends_28 : decode cX7_ends 28 = .ok (.aload_n 0, 1) := by decide +kernel
theorem dX7_ends_29 : decode cX7_ends 29 = .ok (.getfield 34, 3) := by decide +kernel
theorem dX7_ends_32 : decode cX7_ends 32 = .ok (.aload_n 0, 1) := by decide +kernel
theorem dX7_ends_33 : decode cX7_ends 33 = .ok (.iload_n 1, 1) := by decide +kernel
theorem dX7_ends_34 : decode cX7_ends 34 = .ok (.invokevirtual 232, 3) := by decide +kernel
theorem dX7_ends_37 : decode cX7_ends 37 = .ok (.iaload, 1) := by decide +kernel
theorem dX7_ends_38 : decode cX7_ends 38 = .ok (.iadd, 1) := by decide +kernel
theorem dX7_ends_39 : decode cX7_ends 39 = .ok (.if_icmp .ge 27, 3) := by decide +kernel
theorem dX7_ends_42 : decode cX7_ends 42 = .ok (.aload_n 0, 1) := by decide +kernel
theorem dX7_ends_43 : decode cX7_ends 43 = .ok (.iload_n 2, 1) := by decide +kernel
theorem dX7_ends_44 : decode cX7_ends 44 = .ok (.iload_n 1, 1) := by decide +kernel
theorem dX7_ends_45 : decode cX7_ends 45 = .ok (.invokevirtual 226, 3) := by decide +kernel
theorem dX7_ends_48 : decode cX7_ends 48 = .ok (.ifCond .eq 12, 3) := by decide +kernel
theorem dX7_ends_51 : decode cX7_ends 51 = .ok (.aload_n 0, 1) := by decide +kernel
theorem dX7_ends_52 : decode cX7_ends 52 = .ok (.iload_n 1, 1) := by decide +kernel
theorem dX7_ends_53 : decode cX7_ends 53 = .ok (.iload_n 2, 1) := by decide +kernel
theorem dX7_ends_54 : decode cX7_ends 54 = .ok (.invokevirtual 239, 3) := by decide +kernel
theorem dX7_ends_57 : decode cX7_ends 57 = .ok (.goto (-38), 3) := by decide +kernel
theorem dX7_ends_60 : decode cX7_ends 60 = .ok (.iinc 2 1, 3) := by decide +kernel
theorem dX7_ends_63 : decode cX7_ends 63 = .ok (.goto (-44), 3) := by decide +kernel
theorem dX7_ends_2 : decode cX7_ends 2 = .ok (.iload_n 1, 1) := by decide +kernel
theorem dX7_ends_3 : decode cX7_ends 3 = .ok (.aload_n 0, 1) := by decide +kernel
theorem dX7_ends_4 : decode cX7_ends 4 = .ok (.getfield 167, 3) := by decide +kernel
theorem dX7_ends_7 : decode cX7_ends 7 = .ok (.if_icmp .ge 65, 3) := by decide +kernel
theorem dX7_ends_72 : decode cX7_ends 72 = .ok (.return_, 1) := by decide +kernel
theorem dX7_ends_10 : decode cX7_ends 10 = .ok (.bipush 16, 2) := by decide +kernel
theorem dX7_ends_12 : decode cX7_ends 12 = .ok (.aload_n 0, 1) := by decide +kernel
theorem dX7_ends_13 : decode cX7_ends 13 = .ok (.iload_n 1, 1) := by decide +kernel
theorem dX7_ends_14 : decode cX7_ends 14 = .ok (.invokevirtual 232, 3) := by decide +kernel
theorem dX7_ends_17 : decode cX7_ends 17 = .ok (.imul, 1) := by decide +kernel
theorem dX7_ends_18 : decode cX7_ends 18 = .ok (.istore_n 2, 1) := by decide +kernel
theorem dX7_ends_66 : decode cX7_ends 66 = .ok (.iinc 1 1, 3) := by decide +kernel
theorem dX7_ends_69 : decode cX7_ends 69 = .ok (.goto (-67), 3) := by decide +kernel
theorem dX7_ends_0 : decode cX7_ends 0 = .ok (.iconst 0, 1) := by decide +kernel
theorem dX7_ends_1 : decode cX7_ends 1 = .ok (.istore_n 1, 1) := by decide +kernel
abbrev md_m_moves : Nat → Nat → Bool := mdf [(50, 99), (58, 99)]
set_option maxHeartbeats 4000000 in
set_option maxRecDepth 100000 in
theorem m_moves (l : Launch) (D : va_G) (cI cZ cS cR : ClassId) (N0 : NT) (g : GS) (hI : Inv g) (h : Nat) (n : Int32) (k : Int32) (r_h : g.1 h = 8) (l_n : 0 ≤ n.toInt) (u_n : n.toInt ≤ 191) (l_k : 0 ≤ k.toInt) (u_k : k.toInt ≤ 191) : Ty l D cI cZ cS cR N0 yX7_moves cX7_moves 3 none 0 0 0 [.ref h, .int n, .int k] g (fun v g' => v = none ∧ Inv g' ∧ Ex g g' ∧ Sm md_m_moves g g') := by
  refine t_enter (by decide) (Nat.le_of_ble_eq_true rfl) ?_
  intro p e s m args below meth c ls H locs hB hr hin hl hT
  have hx := hB.1
  have hb := hB.2.1
  have hl : lv_has ls 3 [(0, .ref h), (1, .int n), (2, .int k)] := hl
  have hE : Ex g g := Ex.rf
  have hM : Sm md_m_moves g g := Sm.rf
  refine lv_aload_n hx hb dX7_moves_0 rfl (lv_at hl 0 rfl) ?_
  obtain ⟨v_1, e_v_1, r_v_1, n_v_1⟩ := f_8_10 hI r_h
  refine t_get (ci := 7) (v := .ref v_1) hB hT (ro_ci r_h rfl) rfl 10 (by decide) k_755 e_v_1 dX7_moves_1 ?_
  refine lv_iload_n hx hb dX7_moves_4 rfl (lv_at hl 2 rfl) ?_
  refine lv_aload_n hx hb dX7_moves_5 rfl (lv_at hl 0 rfl) ?_
  refine t_get (ci := 7) (v := .ref v_1) hB hT (ro_ci r_h rfl) rfl 10 (by decide) k_755 e_v_1 dX7_moves_6 ?_
  refine lv_iload_n hx hb dX7_moves_9 rfl (lv_at hl 1 rfl) ?_
  have i_u_2 : vp_in n 192 := (i_in (n := 192) rfl (by omega) (by omega))
  refine t_iald hB hT (ro_in r_v_1 (by decide)) n_v_1 i_u_2 rfl dX7_moves_10 ?_
  refine lv_topi (fun u_2 e_u_2 => ?_)
  have i_3 : vp_in k 192 := (i_in (n := 192) rfl (by omega) (by omega))
  refine t_iast hB hT (ro_in r_v_1 (by decide)) n_v_1 i_3 dX7_moves_11 (fun H locs hT => ?_)
  have hI : Inv (sC g v_1 k.toNatClampNeg u_2) := hI.sC (ck r_v_1 trivial)
  have hM : Sm md_m_moves g (sC g v_1 k.toNatClampNeg u_2) := hM.tr hE (Sm_sC (by rw [r_v_1]; rfl))
  have hE : Ex g (sC g v_1 k.toNatClampNeg u_2) := hE
  refine lv_aload_n hx hb dX7_moves_12 rfl (lv_at hl 0 rfl) ?_
  obtain ⟨v_4, e_v_4, r_v_4, n_v_4⟩ := f_8_11 hI r_h
  refine t_get (ci := 7) (v := .ref v_4) hB hT (ro_ci r_h rfl) rfl 11 (by decide) k_756 e_v_4 dX7_moves_13 ?_
  refine lv_iload_n hx hb dX7_moves_16 rfl (lv_at hl 2 rfl) ?_
  refine lv_aload_n hx hb dX7_moves_17 rfl (lv_at hl 0 rfl) ?_
  refine t_get (ci := 7) (v := .ref v_4) hB hT (ro_ci r_h rfl) rfl 11 (by decide) k_756 e_v_4 dX7_moves_18 ?_
  refine lv_iload_n hx hb dX7_moves_21 rfl (lv_at hl 1 rfl) ?_
  have i_u_5 : vp_in n 192 := (i_in (n := 192) rfl (by omega) (by omega))
  refine t_iald hB hT (ro_in r_v_4 (by decide)) n_v_4 i_u_5 rfl dX7_moves_22 ?_
  refine lv_topi (fun u_5 e_u_5 => ?_)
  have i_6 : vp_in k 192 := (i_in (n := 192) rfl (by omega) (by omega))
  refine t_iast hB hT (ro_in r_v_4 (by decide)) n_v_4 i_6 dX7_moves_23 (fun H locs hT => ?_)
  have hI : Inv (sC (sC g v_1 k.toNatClampNeg u_2) v_4 k.toNatClampNeg u_5) := hI.sC (ck r_v_4 trivial)
  have hM : Sm md_m_moves g (sC (sC g v_1 k.toNatClampNeg u_2) v_4 k.toNatClampNeg u_5) := hM.tr hE (Sm_sC (by rw [r_v_4]; rfl))
  have hE : Ex g (sC (sC g v_1 k.toNatClampNeg u_2) v_4 k.toNatClampNeg u_5) := hE
  refine lv_aload_n hx hb dX7_moves_24 rfl (lv_at hl 0 rfl) ?_
  obtain ⟨v_7, e_v_7, r_v_7, n_v_7⟩ := f_8_12 hI r_h
  refine t_get (ci := 7) (v := .ref v_7) hB hT (ro_ci r_h rfl) rfl 12 (by decide) k_757 e_v_7 dX7_moves_25 ?_
  refine lv_iload_n hx hb dX7_moves_28 rfl (lv_at hl 2 rfl) ?_
  refine lv_aload_n hx hb dX7_moves_29 rfl (lv_at hl 0 rfl) ?_
  refine t_get (ci := 7) (v := .ref v_7) hB hT (ro_ci r_h rfl) rfl 12 (by decide) k_757 e_v_7 dX7_moves_30 ?_
  refine lv_iload_n hx hb dX7_moves_33 rfl (lv_at hl 1 rfl) ?_
  have i_u_8 : vp_in n 192 := (i_in (n := 192) rfl (by omega) (by omega))
  refine t_iald hB hT (ro_in r_v_7 (by decide)) n_v_7 i_u_8 rfl dX7_moves_34 ?_
  have c_u_8 := hI.c r_v_7 n_v_7 (i_cl i_u_8)
  refine lv_topi (fun u_8 e_u_8 => ?_)
  obtain ⟨l_u_8, u_u_8⟩ := c_u_8
  rw [← e_u_8] at l_u_8 u_u_8
  have i_9 : vp_in k 192 := (i_in (n := 192) rfl (by omega) (by omega))
  refine t_iast hB hT (ro_in r_v_7 (by decide)) n_v_7 i_9 dX7_moves_35 (fun H locs hT => ?_)
  have hI : Inv (sC (sC (sC g v_1 k.toNatClampNeg u_2) v_4 k.toNatClampNeg u_5) v_7 k.toNatClampNeg u_8) := hI.sC (ck r_v_7 ⟨by omega, by omega⟩)
  have hM : Sm md_m_moves g (sC (sC (sC g v_1 k.toNatClampNeg u_2) v_4 k.toNatClampNeg u_5) v_7 k.toNatClampNeg u_8) := hM.tr hE (Sm_sC (by rw [r_v_7]; rfl))
  have hE : Ex g (sC (sC (sC g v_1 k.toNatClampNeg u_2) v_4 k.toNatClampNeg u_5) v_7 k.toNatClampNeg u_8) := hE
  refine lv_aload_n hx hb dX7_moves_36 rfl (lv_at hl 0 rfl) ?_
  obtain ⟨v_10, e_v_10, r_v_10, n_v_10⟩ := f_8_13 hI r_h
  refine t_get (ci := 7) (v := .ref v_10) hB hT (ro_ci r_h rfl) rfl 13 (by decide) k_758 e_v_10 dX7_moves_37 ?_
  refine lv_iload_n hx hb dX7_moves_40 rfl (lv_at hl 2 rfl) ?_
  refine lv_aload_n hx hb dX7_moves_41 rfl (lv_at hl 0 rfl) ?_
  refine t_get (ci := 7) (v := .ref v_10) hB hT (ro_ci r_h rfl) rfl 13 (by decide) k_758 e_v_10 dX7_moves_42 ?_
  refine lv_iload_n hx hb dX7_moves_45 rfl (lv_at hl 1 rfl) ?_
  have i_u_11 : vp_in n 192 := (i_in (n := 192) rfl (by omega) (by omega))
  refine t_iald hB hT (ro_in r_v_10 (by decide)) n_v_10 i_u_11 rfl dX7_moves_46 ?_
  refine lv_topi (fun u_11 e_u_11 => ?_)
  have i_12 : vp_in k 192 := (i_in (n := 192) rfl (by omega) (by omega))
  refine t_iast hB hT (ro_in r_v_10 (by decide)) n_v_10 i_12 dX7_moves_47 (fun H locs hT => ?_)
  have hI : Inv (sC (sC (sC (sC g v_1 k.toNatClampNeg u_2) v_4 k.toNatClampNeg u_5) v_7 k.toNatClampNeg u_8) v_10 k.toNatClampNeg u_11) := hI.sC (ck r_v_10 trivial)
  have hM : Sm md_m_moves g (sC (sC (sC (sC g v_1 k.toNatClampNeg u_2) v_4 k.toNatClampNeg u_5) v_7 k.toNatClampNeg u_8) v_10 k.toNatClampNeg u_11) := hM.tr hE (Sm_sC (by rw [r_v_10]; rfl))
  have hE : Ex g (sC (sC (sC (sC g v_1 k.toNatClampNeg u_2) v_4 k.toNatClampNeg u_5) v_7 k.toNatClampNeg u_8) v_10 k.toNatClampNeg u_11) := hE
  exact t_vret hB hr hT (Nat.le_of_ble_eq_true rfl) (Nat.le_of_ble_eq_true rfl) dX7_moves_48 ⟨rfl, hI, hE, hM⟩
abbrev md_m_isOver : Nat → Nat → Bool := mdf []
set_option maxHeartbeats 4000000 in
set_option maxRecDepth 100000 in
theorem m_isOver (l : Launch) (D : va_G) (cI cZ cS cR : ClassId) (N0 : NT) (g : GS) (hI : Inv g) (h : Nat) (n : Int32) (k : Int32) (r_h : g.1 h = 8) (l_n : 0 ≤ n.toInt) (u_n : n.toInt ≤ 191) (l_k : 0 ≤ k.toInt) (u_k : k.toInt ≤ 5) : Ty l D cI cZ cS cR N0 yX7_isOver cX7_isOver 3 (some .boolean) 0 0 0 [.ref h, .int n, .int k] g (fun v g' => ∃ (r : Int32), v = some (.int r) ∧ g' = g ∧ (r = 1 ∨ r = 0)) := by
  refine t_enter (by decide) (Nat.le_of_ble_eq_true rfl) ?_
  intro p e s m args below meth c ls H locs hB hr hin hl hT
  have hx := hB.1
  have hb := hB.2.1
  have hl : lv_has ls 3 [(0, .ref h), (1, .int n), (2, .int k)] := hl
  have hE : Ex g g := Ex.rf
  have hM : Sm md_m_isOver g g := Sm.rf
  refine lv_aload_n hx hb dX7_isOver_0 rfl (lv_at hl 0 rfl) ?_
  obtain ⟨v_1, e_v_1, r_v_1, n_v_1⟩ := f_8_14 hI r_h
  refine t_get (ci := 7) (v := .ref v_1) hB hT (ro_ci r_h rfl) rfl 14 (by decide) k_759 e_v_1 dX7_isOver_1 ?_
  refine lv_aload_n hx hb dX7_isOver_4 rfl (lv_at hl 0 rfl) ?_
  obtain ⟨v_2, e_v_2, l_v_2, u_v_2⟩ := f_8_21 hI r_h
  refine t_get (ci := 7) (v := .int v_2) hB hT (ro_ci r_h rfl) rfl 21 (by decide) k_766 e_v_2 dX7_isOver_5 ?_
  have i_u_3 : vp_in v_2 2 := (i_in (n := 2) rfl (by omega) (by omega))
  refine t_iald hB hT (ro_in r_v_1 (by decide)) n_v_1 i_u_3 rfl dX7_isOver_8 ?_
  refine lv_topi (fun u_3 e_u_3 => ?_)
  refine lv_aload_n hx hb dX7_isOver_9 rfl (lv_at hl 0 rfl) ?_
  obtain ⟨v_4, e_v_4, r_v_4, n_v_4⟩ := f_8_13 hI r_h
  refine t_get (ci := 7) (v := .ref v_4) hB hT (ro_ci r_h rfl) rfl 13 (by decide) k_758 e_v_4 dX7_isOver_10 ?_
  refine lv_iload_n hx hb dX7_isOver_13 rfl (lv_at hl 1 rfl) ?_
  have i_u_5 : vp_in n 192 := (i_in (n := 192) rfl (by omega) (by omega))
  refine t_iald hB hT (ro_in r_v_4 (by decide)) n_v_4 i_u_5 rfl dX7_isOver_14 ?_
  refine lv_topi (fun u_5 e_u_5 => ?_)
  refine lv_aload_n hx hb dX7_isOver_15 rfl (lv_at hl 0 rfl) ?_
  obtain ⟨v_6, e_v_6, r_v_6, n_v_6⟩ := f_8_6 hI r_h
  refine t_get (ci := 7) (v := .ref v_6) hB hT (ro_ci r_h rfl) rfl 6 (by decide) k_751 e_v_6 dX7_isOver_16 ?_
  refine lv_iload_n hx hb dX7_isOver_19 rfl (lv_at hl 2 rfl) ?_
  have i_u_7 : vp_in k 6 := (i_in (n := 6) rfl (by omega) (by omega))
  refine t_iald hB hT (ro_in r_v_6 (by decide)) n_v_6 i_u_7 rfl dX7_isOver_20 ?_
  refine lv_topi (fun u_7 e_u_7 => ?_)
  refine lv_iadd hx hb dX7_isOver_21 ?_
  refine lv_topi (fun z_8 ez_8 => ?_)
  refine lv_icmp_le (tgt := 29) hx hb dX7_isOver_22 (by decide) (fun c_9 => ?_) (fun c_9 => ?_)
  · have c_9' : u_3.toInt ≤ z_8.toInt := i_le c_9 rfl rfl
    refine lv_iconst (v := 0) hx hb dX7_isOver_29 (by decide) ?_
    exact t_zret hB hr rfl hT (Nat.le_of_ble_eq_true rfl) (Nat.le_of_ble_eq_true rfl) dX7_isOver_30 ⟨0, rfl, rfl, (Or.inr rfl)⟩
  · have c_9' : z_8.toInt < u_3.toInt := i_nle c_9 rfl rfl
    refine lv_iconst (v := 1) hx hb dX7_isOver_25 (by decide) ?_
    refine lv_goto (tgt := 30) hx hb dX7_isOver_26 (by decide) ?_
    exact t_zret hB hr rfl hT (Nat.le_of_ble_eq_true rfl) (Nat.le_of_ble_eq_true rfl) dX7_isOver_30 ⟨1, rfl, rfl, (Or.inl rfl)⟩
abbrev md_m_canAsk : Nat → Nat → Bool := mdf []
set_option maxHeartbeats 4000000 in
set_option maxRecDepth 100000 in
theorem m_canAsk (l : Launch) (D : va_G) (cI cZ cS cR : ClassId) (N0 : NT) (g : GS) (hI : Inv g) (h : Nat) (n : Int32) (k : Int32) (pl : Nat) (pv : Int32) (r_h : g.1 h = 8) (r_pl : g.1 pl = 72) (n_pl : g.2.2.1 pl = 48) (kpl : g.2.1 h 3 = .ref pl) (l_k : 0 ≤ k.toInt) (u_k : k.toInt ≤ 47) (hpv : g.2.2.2.1 pl k.toNatClampNeg = pv) : Ty l D cI cZ cS cR N0 yX7_canAsk cX7_canAsk 3 (some .boolean) 2 0 0 [.ref h, .int n, .int k] g (fun v g' => ∃ (r : Int32), v = some (.int r) ∧ g' = g ∧ ((r = 1 ∧ n.toInt < pv.toInt) ∨ r = 0)) := by
  refine t_enter (by decide) (Nat.le_of_ble_eq_true rfl) ?_
  intro p e s m args below meth c ls H locs hB hr hin hl hT
  have hx := hB.1
  have hb := hB.2.1
  have hl : lv_has ls 3 [(0, .ref h), (1, .int n), (2, .int k)] := hl
  have hE : Ex g g := Ex.rf
  have hM : Sm md_m_canAsk g g := Sm.rf
  refine lv_aload_n hx hb dX7_canAsk_0 rfl (lv_at hl 0 rfl) ?_
  obtain ⟨v_1, e_v_1, r_v_1, n_v_1⟩ := f_8_2 hI r_h
  refine t_get (ci := 7) (v := .ref v_1) hB hT (ro_ci r_h rfl) rfl 2 (by decide) k_747 e_v_1 dX7_canAsk_1 ?_
  refine lv_iload_n hx hb dX7_canAsk_4 rfl (lv_at hl 2 rfl) ?_
  have i_u_2 : vp_in k 48 := (i_in (n := 48) rfl (by omega) (by omega))
  refine t_iald hB hT (ro_in r_v_1 (by decide)) n_v_1 i_u_2 rfl dX7_canAsk_5 ?_
  refine lv_topi (fun u_2 e_u_2 => ?_)
  refine lv_iconst (v := 5) hx hb dX7_canAsk_6 (by decide) ?_
  refine lv_icmp_ne (tgt := 37) hx hb dX7_canAsk_7 (by decide) (fun c_3 => ?_) (fun c_3 => ?_)
  · have c_3' : u_2.toInt ≠ 5 := i_ne c_3 rfl (by decide)
    refine lv_iconst (v := 0) hx hb dX7_canAsk_37 (by decide) ?_
    exact t_zret hB hr rfl hT (Nat.le_of_ble_eq_true rfl) (Nat.le_of_ble_eq_true rfl) dX7_canAsk_38 ⟨0, rfl, rfl, (Or.inr rfl)⟩
  · have c_3' : u_2.toInt = 5 := i_eq c_3 rfl (by decide)
    refine lv_aload_n hx hb dX7_canAsk_10 rfl (lv_at hl 0 rfl) ?_
    refine t_get (ci := 7) (v := .ref pl) hB hT (ro_ci r_h rfl) rfl 3 (by decide) k_748 kpl dX7_canAsk_11 ?_
    refine lv_iload_n hx hb dX7_canAsk_14 rfl (lv_at hl 2 rfl) ?_
    have i_u_4 : vp_in k 48 := (i_in (n := 48) rfl (by omega) (by omega))
    refine t_iald (v := pv) hB hT (ro_in r_pl (by decide)) n_pl i_u_4 hpv dX7_canAsk_15 ?_
    refine lv_iload_n hx hb dX7_canAsk_16 rfl (lv_at hl 1 rfl) ?_
    refine lv_icmp_le (tgt := 37) hx hb dX7_canAsk_17 (by decide) (fun c_5 => ?_) (fun c_5 => ?_)
    · have c_5' : pv.toInt ≤ n.toInt := i_le c_5 rfl rfl
      refine lv_iconst (v := 0) hx hb dX7_canAsk_37 (by decide) ?_
      exact t_zret hB hr rfl hT (Nat.le_of_ble_eq_true rfl) (Nat.le_of_ble_eq_true rfl) dX7_canAsk_38 ⟨0, rfl, rfl, (Or.inr rfl)⟩
    · have c_5' : n.toInt < pv.toInt := i_nle c_5 rfl rfl
      refine lv_aload_n hx hb dX7_canAsk_20 rfl (lv_at hl 0 rfl) ?_
      refine lv_aload_n hx hb dX7_canAsk_21 rfl (lv_at hl 0 rfl) ?_
      refine t_get (ci := 7) (v := .ref pl) hB hT (ro_ci r_h rfl) rfl 3 (by decide) k_748 kpl dX7_canAsk_22 ?_
      refine lv_iload_n hx hb dX7_canAsk_25 rfl (lv_at hl 2 rfl) ?_
      have i_u_6 : vp_in k 48 := (i_in (n := 48) rfl (by omega) (by omega))
      refine t_iald (v := pv) hB hT (ro_in r_pl (by decide)) n_pl i_u_6 hpv dX7_canAsk_26 ?_
      obtain ⟨v_7, e_v_7, l_v_7, u_v_7⟩ := f_8_0 hI r_h
      refine t_callV (n := 1) (As := [.int pv]) (rest := []) (ci := 7) hB hT hl.1 (m_isService l D cI cZ cS cR N0 g hI h pv v_7 r_h e_v_7 (by omega) (by omega)) (ro_ci r_h rfl) rfl k_991 k_65 k_988 k_990 k_27 (by decide +kernel) ⟨(Nat.le_of_ble_eq_true rfl), (Nat.le_of_ble_eq_true rfl)⟩ rfl (Nat.le_of_ble_eq_true rfl) ⟨(Nat.le_of_ble_eq_true rfl), (Nat.le_of_ble_eq_true rfl)⟩ dX7_canAsk_27 (fun v g_8 H locs hp hT => ?_)
      obtain ⟨r_9, rfl, eg, f_10⟩ := hp
      rw [eg] at hT
      clear eg
      refine W.eq (g2 := F0 m 30 ls [.int r_9]) rfl ?_
      rcases f_10 with ⟨rfl, hw_13, hw_14⟩ | ⟨rfl, hw_15⟩
      · refine W.eq (g2 := F0 m 30 ls [.int 1]) rfl ?_
        refine lv_if_eq (tgt := 37) hx hb dX7_canAsk_30 (by decide) (fun c_ => absurd c_ (by decide)) (fun c_ => ?_)
        refine lv_iconst (v := 1) hx hb dX7_canAsk_33 (by decide) ?_
        refine lv_goto (tgt := 38) hx hb dX7_canAsk_34 (by decide) ?_
        exact t_zret hB hr rfl hT (Nat.le_of_ble_eq_true rfl) (Nat.le_of_ble_eq_true rfl) dX7_canAsk_38 ⟨1, rfl, rfl, (Or.inl ⟨rfl, by omega⟩)⟩
      · refine W.eq (g2 := F0 m 30 ls [.int 0]) rfl ?_
        refine lv_if_eq (tgt := 37) hx hb dX7_canAsk_30 (by decide) (fun c_ => ?_) (fun c_ => absurd (by decide) c_)
        refine lv_iconst (v := 0) hx hb dX7_canAsk_37 (by decide) ?_
        exact t_zret hB hr rfl hT (Nat.le_of_ble_eq_true rfl) (Nat.le_of_ble_eq_true rfl) dX7_canAsk_38 ⟨0, rfl, rfl, (Or.inr rfl)⟩
abbrev md_m_base : Nat → Nat → Bool := mdf []
set_option maxHeartbeats 4000000 in
set_option maxRecDepth 100000 in
theorem m_base (l : Launch) (D : va_G) (cI cZ cS cR : ClassId) (N0 : NT) (g : GS) (hI : Inv g) (h : Nat) (n : Int32) (w : Int32) (r_h : g.1 h = 8) (kw : g.2.1 h 21 = .int w) (l_n : 0 ≤ n.toInt) (u_n : n.toInt ≤ 5) (l_w : 0 ≤ w.toInt) (u_w : w.toInt ≤ 1) : Ty l D cI cZ cS cR N0 yX7_base cX7_base 2 (some .int) 0 0 0 [.ref h, .int n] g (fun v g' => ∃ (r : Int32), v = some (.int r) ∧ g' = g ∧ (r = 6 * w + n) ∧ (r.toInt = 6 * w.toInt + n.toInt)) := by
  refine t_enter (by decide) (Nat.le_of_ble_eq_true rfl) ?_
  intro p e s m args below meth c ls H locs hB hr hin hl hT
  have hx := hB.1
  have hb := hB.2.1
  have hl : lv_has ls 2 [(0, .ref h), (1, .int n)] := hl
  have hE : Ex g g := Ex.rf
  have hM : Sm md_m_base g g := Sm.rf
  refine lv_bipush (v := 6) hx hb dX7_base_0 (by decide) ?_
  refine lv_aload_n hx hb dX7_base_2 rfl (lv_at hl 0 rfl) ?_
  refine t_get (ci := 7) (v := .int w) hB hT (ro_ci r_h rfl) rfl 21 (by decide) k_766 kw dX7_base_3 ?_
  refine lv_imul hx hb dX7_base_6 ?_
  refine lv_topi (fun z_1 ez_1 => ?_)
  have e_z_1 : z_1.toInt = 6 * w.toInt := i_mul ez_1 (by decide) rfl (by omega) (by omega)
  refine lv_iload_n hx hb dX7_base_7 rfl (lv_at hl 1 rfl) ?_
  refine lv_iadd hx hb dX7_base_8 ?_
  refine lv_topi (fun z_2 ez_2 => ?_)
  have e_z_2 : z_2.toInt = z_1.toInt + n.toInt := i_add ez_2 rfl rfl (by omega) (by omega)
  exact t_iret hB hr hT (Nat.le_of_ble_eq_true rfl) (Nat.le_of_ble_eq_true rfl) dX7_base_9 ⟨z_2, rfl, rfl, (by subst_vars; rfl), (by omega)⟩
abbrev md_m_find : Nat → Nat → Bool := mdf []
set_option maxHeartbeats 4000000 in
set_option maxRecDepth 100000 in
theorem lt_m_find_a (l : Launch) (D : va_G) (cI cZ cS cR : ClassId) (N0 : NT) (g : GS) (h : Nat) (n : Int32) (k : Int32) (r_h : g.1 h = 8) (l_n : 0 ≤ n.toInt) (u_n : n.toInt ≤ 5) {p : Program} {e : Env} {s : State} {m : MethodId} {args : Array Value} {below : List Frame} {meth : Method} {c : Code} (hB : Tz p s m meth c args cX7_find 5 RX7 D cI cZ cS cR N0) (hr : meth.sig.returnType = (some .int))    : ∀ (kf : Nat) (i : Int32) (a1 : Int32)  (H : Heap) (locs : List Loc) (ls : Array Slot), Tv D cI cZ cS cR N0 s.heap H locs g → Inv g → Ex g g → Sm md_m_find g g → 0 ≤ i.toInt → i.toInt ≤ 192 → 0 ≤ a1.toInt → a1.toInt ≤ 176 → (192 ≤ i.toInt + kf) → lv_has ls 5 [(4, .int i), (3, .int a1), (0, .ref h), (1, .int n), (2, .int k)] → W p l e (rmx 1 0 0) s m args below meth c H locs 0 0 (MQ below (tQ D cI cZ cS cR N0 (fun v g' => ∃ (r : Int32), v = some (.int r) ∧ g' = g ∧ (r = -1 ∨ (0 ≤ r.toInt ∧ r.toInt ≤ 191)))) args s 0 0 (fun q => N0.1 ≤ q)) (F0 m 12 ls []) := by
  have hx := hB.1
  have hb := hB.2.1
  intro kf
  induction kf using Nat.strongRecOn with
  | ind kf ih =>
    intro i a1 H locs ls hT hI hE hM l_i u_i l_a1 u_a1 hk hl
    have r_1 : g.1 h = 8 := Ex.r hE r_h (by decide)
    refine lv_iload hx hb dX7_find_12 (lv_at hl 0 rfl) ?_
    refine lv_iload_n hx hb dX7_find_14 rfl (lv_at hl 1 rfl) ?_
    refine lv_aload_n hx hb dX7_find_15 rfl (lv_at hl 2 rfl) ?_
    obtain ⟨v_2, e_v_2, r_v_2, n_v_2⟩ := f_8_9 hI r_1
    refine t_get (ci := 7) (v := .ref v_2) hB hT (ro_ci r_1 rfl) rfl 9 (by decide) k_754 e_v_2 dX7_find_16 ?_
    refine lv_aload_n hx hb dX7_find_19 rfl (lv_at hl 2 rfl) ?_
    refine lv_iload_n hx hb dX7_find_20 rfl (lv_at hl 3 rfl) ?_
    obtain ⟨v_3, e_v_3, l_v_3, u_v_3⟩ := f_8_21 hI r_1
    refine t_callV (n := 1) (As := [.int n]) (rest := [.ref v_2, .int a1, .int i]) (ci := 7) hB hT hl.1 (m_base l D cI cZ cS cR N0 g hI h n v_3 r_1 e_v_3 (by omega) (by omega) (by omega) (by omega)) (ro_ci r_1 rfl) rfl k_1043 k_65 k_1040 k_1042 k_34 (by decide +kernel) ⟨(Nat.le_of_ble_eq_true rfl), (Nat.le_of_ble_eq_true rfl)⟩ rfl (Nat.le_of_ble_eq_true rfl) ⟨(Nat.le_of_ble_eq_true rfl), (Nat.le_of_ble_eq_true rfl)⟩ dX7_find_21 (fun v g_4 H locs hp hT => ?_)
    obtain ⟨r_5, rfl, eg, f_6, f_7⟩ := hp
    rw [eg] at hT
    clear eg
    refine W.eq (g2 := F0 m 24 ls [.int r_5, .ref v_2, .int a1, .int i]) rfl ?_
    have i_u_10 : vp_in r_5 12 := (i_in (n := 12) rfl (by omega) (by omega))
    refine t_iald hB hT (ro_in r_v_2 (by decide)) n_v_2 i_u_10 rfl dX7_find_24 ?_
    have c_u_10 := hI.c r_v_2 n_v_2 (i_cl i_u_10)
    refine lv_topi (fun u_10 e_u_10 => ?_)
    obtain ⟨l_u_10, u_u_10⟩ := c_u_10
    rw [← e_u_10] at l_u_10 u_u_10
    refine lv_iadd hx hb dX7_find_25 ?_
    refine lv_topi (fun z_11 ez_11 => ?_)
    have e_z_11 : z_11.toInt = a1.toInt + u_10.toInt := i_add ez_11 rfl rfl (by omega) (by omega)
    refine lv_icmp_ge (tgt := 49) hx hb dX7_find_26 (by decide) (fun c_12 => ?_) (fun c_12 => ?_)
    · have c_12' : z_11.toInt ≤ i.toInt := i_le c_12 rfl rfl
      refine lv_iconst (v := (-1)) hx hb dX7_find_49 (by decide) ?_
      exact t_iret hB hr hT (Nat.le_of_ble_eq_true rfl) (Nat.le_of_ble_eq_true rfl) dX7_find_50 ⟨(-1), rfl, rfl, (Or.inl rfl)⟩
    · have c_12' : i.toInt < z_11.toInt := i_nle c_12 rfl rfl
      refine lv_aload_n hx hb dX7_find_29 rfl (lv_at hl 2 rfl) ?_
      obtain ⟨v_13, e_v_13, r_v_13, n_v_13⟩ := f_8_10 hI r_1
      refine t_get (ci := 7) (v := .ref v_13) hB hT (ro_ci r_1 rfl) rfl 10 (by decide) k_755 e_v_13 dX7_find_30 ?_
      refine lv_iload hx hb dX7_find_33 (lv_at hl 0 rfl) ?_
      have i_u_14 : vp_in i 192 := (i_in (n := 192) rfl (by omega) (by omega))
      refine t_iald hB hT (ro_in r_v_13 (by decide)) n_v_13 i_u_14 rfl dX7_find_35 ?_
      refine lv_topi (fun u_14 e_u_14 => ?_)
      refine lv_iload_n hx hb dX7_find_36 rfl (lv_at hl 4 rfl) ?_
      refine lv_icmp_ne (tgt := 43) hx hb dX7_find_37 (by decide) (fun c_15 => ?_) (fun c_15 => ?_)
      · have c_15' : u_14.toInt ≠ k.toInt := i_ne c_15 rfl rfl
        obtain ⟨z_16, ez_16⟩ : ∃ z : Int32, z = i + 1 := ⟨_, rfl⟩
        have e_z_16 : z_16.toInt = i.toInt + 1 := i_add ez_16 rfl (by decide) (by omega) (by omega)
        refine lv_iinc (v := z_16) (lv' := [(4, .int z_16), (3, .int a1), (0, .ref h), (1, .int n), (2, .int k)]) hx hb dX7_find_43 hl (k := 0) rfl (by rw [ez_16]; rfl) (by decide) rfl (fun ls hl => ?_)
        refine lv_goto (tgt := 12) hx hb dX7_find_46 (by decide) ?_
        exact ih (kf - 1) (by omega) z_16 a1 H locs ls hT hI hE hM (by omega) (by omega) (by omega) (by omega) (by have e0_ : (0 : Int32).toInt = 0 := (by decide); omega) (lv_sub hl [0, 1, 2, 3, 4] rfl)
      · have c_15' : u_14.toInt = k.toInt := i_eq c_15 rfl rfl
        refine lv_iload hx hb dX7_find_40 (lv_at hl 0 rfl) ?_
        exact t_iret hB hr hT (Nat.le_of_ble_eq_true rfl) (Nat.le_of_ble_eq_true rfl) dX7_find_42 ⟨i, rfl, rfl, (Or.inr ⟨by omega, by omega⟩)⟩
set_option maxHeartbeats 4000000 in
set_option maxRecDepth 100000 in
theorem m_find (l : Launch) (D : va_G) (cI cZ cS cR : ClassId) (N0 : NT) (g : GS) (hI : Inv g) (h : Nat) (n : Int32) (k : Int32) (r_h : g.1 h = 8) (l_n : 0 ≤ n.toInt) (u_n : n.toInt ≤ 5) : Ty l D cI cZ cS cR N0 yX7_find cX7_find 5 (some .int) 1 0 0 [.ref h, .int n, .int k] g (fun v g' => ∃ (r : Int32), v = some (.int r) ∧ g' = g ∧ (r = -1 ∨ (0 ≤ r.toInt ∧ r.toInt ≤ 191))) := by
  refine t_enter (by decide) (Nat.le_of_ble_eq_true rfl) ?_
  intro p e s m args below meth c ls H locs hB hr hin hl hT
  have hx := hB.1
  have hb := hB.2.1
  have hl : lv_has ls 5 [(0, .ref h), (1, .int n), (2, .int k)] := hl
  have hE : Ex g g := Ex.rf
  have hM : Sm md_m_find g g := Sm.rf
  refine lv_bipush (v := 16) hx hb dX7_find_0 (by decide) ?_
  refine lv_aload_n hx hb dX7_find_2 rfl (lv_at hl 0 rfl) ?_
  refine lv_iload_n hx hb dX7_find_3 rfl (lv_at hl 1 rfl) ?_
  obtain ⟨v_1, e_v_1, l_v_1, u_v_1⟩ := f_8_21 hI r_h
  refine t_callV (n := 1) (As := [.int n]) (rest := [.int 16]) (ci := 7) hB hT hl.1 (m_base l D cI cZ cS cR N0 g hI h n v_1 r_h e_v_1 (by omega) (by omega) (by omega) (by omega)) (ro_ci r_h rfl) rfl k_1043 k_65 k_1040 k_1042 k_34 (by decide +kernel) ⟨(Nat.le_of_ble_eq_true rfl), (Nat.le_of_ble_eq_true rfl)⟩ rfl (Nat.le_of_ble_eq_true rfl) ⟨(Nat.le_of_ble_eq_true rfl), (Nat.le_of_ble_eq_true rfl)⟩ dX7_find_4 (fun v g_2 H locs hp hT => ?_)
  obtain ⟨r_3, rfl, eg, f_4, f_5⟩ := hp
  rw [eg] at hT
  clear eg
  refine W.eq (g2 := F0 m 7 ls [.int r_3, .int 16]) rfl ?_
  refine lv_imul hx hb dX7_find_7 ?_
  refine lv_topi (fun z_8 ez_8 => ?_)
  have e_z_8 : z_8.toInt = 16 * r_3.toInt := i_mul ez_8 (by decide) rfl (by omega) (by omega)
  refine lv_istore_n (lv' := [(3, .int z_8), (0, .ref h), (1, .int n), (2, .int k)]) hx hb dX7_find_8 rfl hl (by decide) rfl (fun ls hl => ?_)
  refine lv_iload_n hx hb dX7_find_9 rfl (lv_at hl 0 rfl) ?_
  refine lv_istore (lv' := [(4, .int z_8), (3, .int z_8), (0, .ref h), (1, .int n), (2, .int k)]) hx hb dX7_find_10 hl (by decide) rfl (fun ls hl => ?_)
  exact lt_m_find_a l D cI cZ cS cR N0 g h n k r_h l_n u_n hB hr   192 z_8 z_8 H locs ls hT hI hE hM (by omega) (by omega) (by omega) (by omega) (by have e0_ : (0 : Int32).toInt = 0 := (by decide); omega) (lv_sub hl [0, 1, 2, 3, 4] rfl)
abbrev md_m_goes : Nat → Nat → Bool := mdf [(50, 99), (54, 99), (58, 99)]
theorem mdle_m_goes_m_moves {r k : Nat} (h : md_m_goes r k = false) : md_m_moves r k = false := mdf_le (by decide +kernel) h
set_option maxHeartbeats 4000000 in
set_option maxRecDepth 100000 in
theorem lt_m_goes_a (l : Launch) (D : va_G) (cI cZ cS cR : ClassId) (N0 : NT) (g : GS) (h : Nat) (n : Int32) (k : Int32) (w : Int32) (b : Int32) (vk : Int32) (kp : Nat) (r_h : g.1 h = 8) (r_kp : g.1 kp = 54) (n_kp : g.2.2.1 kp = 12) (kw : g.2.1 h 21 = .int w) (kkp : g.2.1 h 9 = .ref kp) (l_n : 0 ≤ n.toInt) (u_n : n.toInt ≤ 5) (l_k : 0 ≤ k.toInt) (u_k : k.toInt ≤ 191) (l_w : 0 ≤ w.toInt) (u_w : w.toInt ≤ 1) (e_b : b = 6 * w + n) (f_b : b.toInt = 6 * w.toInt + n.toInt) (hv : g.2.2.2.1 kp b.toNatClampNeg = vk) (l_vk : 1 ≤ vk.toInt) (u_vk : vk.toInt ≤ 16) {p : Program} {e : Env} {s : State} {m : MethodId} {args : Array Value} {below : List Frame} {meth : Method} {c : Code} (hB : Tz p s m meth c args cX7_goes 5 RX7 D cI cZ cS cR N0) (hr : meth.sig.returnType = none)    : ∀ (kf : Nat) (g1 : GS) (i : Int32) (en : Int32)  (H : Heap) (locs : List Loc) (ls : Array Slot), Tv D cI cZ cS cR N0 s.heap H locs g1 → Inv g1 → Ex g g1 → Sm md_m_goes g g1 → 1 ≤ i.toInt → i.toInt ≤ 192 → 0 ≤ en.toInt → en.toInt ≤ 192 → g1.2.2.2.1 kp b.toNatClampNeg = vk → (192 ≤ i.toInt + kf) → lv_has ls 5 [(4, .int i), (3, .int en), (0, .ref h), (1, .int n), (2, .int k)] → W p l e (rmx 1 0 0) s m args below meth c H locs 0 0 (MQ below (tQ D cI cZ cS cR N0 (fun v g' => ∃ (v2 : Int32), v = none ∧ Inv g' ∧ Ex g g' ∧ Sm md_m_goes g g' ∧ (g'.2.2.2.1 kp b.toNatClampNeg = v2) ∧ (v2.toInt = vk.toInt - 1))) args s 0 0 (fun q => N0.1 ≤ q)) (F0 m 25 ls []) := by
  have hx := hB.1
  have hb := hB.2.1
  intro kf
  induction kf using Nat.strongRecOn with
  | ind kf ih =>
    intro g1 i en H locs ls hT hI hE hM l_i u_i l_en u_en kc0 hk hl
    have r_1 : g1.1 h = 8 := Ex.r hE r_h (by decide)
    have r_2 : g1.1 kp = 54 := Ex.r hE r_kp (by decide)
    have n_3 : g1.2.2.1 kp = 12 := Ex.n hE r_kp (by decide) n_kp
    have kn_4 : g1.2.1 h 21 = .int w := Sm.v hM r_h (by decide) rfl kw
    have kn_5 : g1.2.1 h 9 = .ref kp := Sm.v hM r_h (by decide) rfl kkp
    refine lv_iload hx hb dX7_goes_25 (lv_at hl 0 rfl) ?_
    refine lv_iload_n hx hb dX7_goes_27 rfl (lv_at hl 1 rfl) ?_
    refine lv_icmp_ge (tgt := 47) hx hb dX7_goes_28 (by decide) (fun c_6 => ?_) (fun c_6 => ?_)
    · have c_6' : en.toInt ≤ i.toInt := i_le c_6 rfl rfl
      refine lv_aload_n hx hb dX7_goes_47 rfl (lv_at hl 2 rfl) ?_
      refine t_get (ci := 7) (v := .ref kp) hB hT (ro_ci r_1 rfl) rfl 9 (by decide) k_754 kn_5 dX7_goes_48 ?_
      refine lv_aload_n hx hb dX7_goes_51 rfl (lv_at hl 2 rfl) ?_
      refine lv_iload_n hx hb dX7_goes_52 rfl (lv_at hl 3 rfl) ?_
      refine t_callV (n := 1) (As := [.int n]) (rest := [.ref kp]) (ci := 7) hB hT hl.1 (m_base l D cI cZ cS cR N0 g1 hI h n w r_1 kn_4 (by omega) (by omega) (by omega) (by omega)) (ro_ci r_1 rfl) rfl k_1043 k_65 k_1040 k_1042 k_34 (by decide +kernel) ⟨(Nat.le_of_ble_eq_true rfl), (Nat.le_of_ble_eq_true rfl)⟩ rfl (Nat.le_of_ble_eq_true rfl) ⟨(Nat.le_of_ble_eq_true rfl), (Nat.le_of_ble_eq_true rfl)⟩ dX7_goes_53 (fun v g_7 H locs hp hT => ?_)
      obtain ⟨r_8, rfl, eg, f_9, f_10⟩ := hp
      rw [eg] at hT
      clear eg
      refine W.eq (g2 := F0 m 56 ls [.int r_8, .ref kp]) rfl ?_
      have q_r_8 : r_8 = b := f_9.trans e_b.symm
      refine W.eq (g2 := F0 m 56 ls [.int b, .ref kp]) (by rw [q_r_8]) ?_
      refine lv_dup2_11 hx hb dX7_goes_56 rfl rfl ?_
      have i_u_13 : vp_in b 12 := (i_in (n := 12) rfl (by omega) (by omega))
      refine t_iald (v := vk) hB hT (ro_in r_2 (by decide)) n_3 i_u_13 kc0 dX7_goes_57 ?_
      refine lv_iconst (v := 1) hx hb dX7_goes_58 (by decide) ?_
      refine lv_isub hx hb dX7_goes_59 ?_
      refine lv_topi (fun z_14 ez_14 => ?_)
      have e_z_14 : z_14.toInt = vk.toInt - 1 := i_sub ez_14 rfl (by decide) (by omega) (by omega)
      have i_15 : vp_in b 12 := (i_in (n := 12) rfl (by omega) (by omega))
      refine t_iast hB hT (ro_in r_2 (by decide)) n_3 i_15 dX7_goes_60 (fun H locs hT => ?_)
      have hI : Inv (sC g1 kp b.toNatClampNeg z_14) := hI.sC (ck r_2 ⟨by omega, by omega⟩)
      have hM : Sm md_m_goes g (sC g1 kp b.toNatClampNeg z_14) := hM.tr hE (Sm_sC (by rw [r_2]; rfl))
      have hE : Ex g (sC g1 kp b.toNatClampNeg z_14) := hE
      exact t_vret hB hr hT (Nat.le_of_ble_eq_true rfl) (Nat.le_of_ble_eq_true rfl) dX7_goes_61 ⟨z_14, rfl, hI, hE, hM, sC_eq, (by omega)⟩
    · have c_6' : i.toInt < en.toInt := i_nle c_6 rfl rfl
      refine lv_aload_n hx hb dX7_goes_31 rfl (lv_at hl 2 rfl) ?_
      refine lv_iload hx hb dX7_goes_32 (lv_at hl 0 rfl) ?_
      refine lv_iload hx hb dX7_goes_34 (lv_at hl 0 rfl) ?_
      refine lv_iconst (v := 1) hx hb dX7_goes_36 (by decide) ?_
      refine lv_isub hx hb dX7_goes_37 ?_
      refine lv_topi (fun z_16 ez_16 => ?_)
      have e_z_16 : z_16.toInt = i.toInt - 1 := i_sub ez_16 rfl (by decide) (by omega) (by omega)
      refine t_callV (n := 2) (As := [.int i, .int z_16]) (rest := []) (ci := 7) hB hT hl.1 (m_moves l D cI cZ cS cR N0 g1 hI h i z_16 r_1 (by omega) (by omega) (by omega) (by omega)) (ro_ci r_1 rfl) rfl k_1051 k_65 k_1048 k_1050 k_36 (by decide +kernel) ⟨(Nat.le_of_ble_eq_true rfl), (Nat.le_of_ble_eq_true rfl)⟩ rfl (Nat.le_of_ble_eq_true rfl) ⟨(Nat.le_of_ble_eq_true rfl), (Nat.le_of_ble_eq_true rfl)⟩ dX7_goes_38 (fun v g_17 H locs hp hT => ?_)
      obtain ⟨rfl, hI, x_19, m_18⟩ := hp
      have hM : Sm md_m_goes g g_17 := hM.tr hE (m_18.mo (fun r k h => mdle_m_goes_m_moves h))
      have hE : Ex g g_17 := hE.tr x_19
      have r_20 : g_17.1 h = 8 := (Ex.r x_19 r_1 (by decide))
      have r_21 : g_17.1 kp = 54 := (Ex.r x_19 r_2 (by decide))
      have n_22 : g_17.2.2.1 kp = 12 := (Ex.n x_19 r_2 (by decide) n_3)
      have kn_23 : g_17.2.1 h 21 = .int w := (Sm.v m_18 r_1 (by decide) rfl kn_4)
      have kn_24 : g_17.2.1 h 9 = .ref kp := (Sm.v m_18 r_1 (by decide) rfl kn_5)
      have kn_25 : g_17.2.2.2.1 kp b.toNatClampNeg = vk := (Sm.c m_18 r_2 (by decide) rfl kc0)
      refine W.eq (g2 := F0 m 41 ls []) rfl ?_
      obtain ⟨z_26, ez_26⟩ : ∃ z : Int32, z = i + 1 := ⟨_, rfl⟩
      have e_z_26 : z_26.toInt = i.toInt + 1 := i_add ez_26 rfl (by decide) (by omega) (by omega)
      refine lv_iinc (v := z_26) (lv' := [(4, .int z_26), (3, .int en), (0, .ref h), (1, .int n), (2, .int k)]) hx hb dX7_goes_41 hl (k := 0) rfl (by rw [ez_26]; rfl) (by decide) rfl (fun ls hl => ?_)
      refine lv_goto (tgt := 25) hx hb dX7_goes_44 (by decide) ?_
      exact ih (kf - 1) (by omega) g_17 z_26 en H locs ls hT hI hE hM (by omega) (by omega) (by omega) (by omega) kn_25 (by have e0_ : (0 : Int32).toInt = 0 := (by decide); omega) (lv_sub hl [0, 1, 2, 3, 4] rfl)
set_option maxHeartbeats 4000000 in
set_option maxRecDepth 100000 in
theorem m_goes (l : Launch) (D : va_G) (cI cZ cS cR : ClassId) (N0 : NT) (g : GS) (hI : Inv g) (h : Nat) (n : Int32) (k : Int32) (w : Int32) (b : Int32) (vk : Int32) (kp : Nat) (r_h : g.1 h = 8) (r_kp : g.1 kp = 54) (n_kp : g.2.2.1 kp = 12) (kw : g.2.1 h 21 = .int w) (kkp : g.2.1 h 9 = .ref kp) (l_n : 0 ≤ n.toInt) (u_n : n.toInt ≤ 5) (l_k : 0 ≤ k.toInt) (u_k : k.toInt ≤ 191) (l_w : 0 ≤ w.toInt) (u_w : w.toInt ≤ 1) (e_b : b = 6 * w + n) (f_b : b.toInt = 6 * w.toInt + n.toInt) (hv : g.2.2.2.1 kp b.toNatClampNeg = vk) (l_vk : 1 ≤ vk.toInt) (u_vk : vk.toInt ≤ 16) : Ty l D cI cZ cS cR N0 yX7_goes cX7_goes 5 none 1 0 0 [.ref h, .int n, .int k] g (fun v g' => ∃ (v2 : Int32), v = none ∧ Inv g' ∧ Ex g g' ∧ Sm md_m_goes g g' ∧ (g'.2.2.2.1 kp b.toNatClampNeg = v2) ∧ (v2.toInt = vk.toInt - 1)) := by
  refine t_enter (by decide) (Nat.le_of_ble_eq_true rfl) ?_
  intro p e s m args below meth c ls H locs hB hr hin hl hT
  have hx := hB.1
  have hb := hB.2.1
  have hl : lv_has ls 5 [(0, .ref h), (1, .int n), (2, .int k)] := hl
  have hE : Ex g g := Ex.rf
  have hM : Sm md_m_goes g g := Sm.rf
  refine lv_bipush (v := 16) hx hb dX7_goes_0 (by decide) ?_
  refine lv_aload_n hx hb dX7_goes_2 rfl (lv_at hl 0 rfl) ?_
  refine lv_iload_n hx hb dX7_goes_3 rfl (lv_at hl 1 rfl) ?_
  refine t_callV (n := 1) (As := [.int n]) (rest := [.int 16]) (ci := 7) hB hT hl.1 (m_base l D cI cZ cS cR N0 g hI h n w r_h kw (by omega) (by omega) (by omega) (by omega)) (ro_ci r_h rfl) rfl k_1043 k_65 k_1040 k_1042 k_34 (by decide +kernel) ⟨(Nat.le_of_ble_eq_true rfl), (Nat.le_of_ble_eq_true rfl)⟩ rfl (Nat.le_of_ble_eq_true rfl) ⟨(Nat.le_of_ble_eq_true rfl), (Nat.le_of_ble_eq_true rfl)⟩ dX7_goes_4 (fun v g_1 H locs hp hT => ?_)
  obtain ⟨r_2, rfl, eg, f_3, f_4⟩ := hp
  rw [eg] at hT
  clear eg
  refine W.eq (g2 := F0 m 7 ls [.int r_2, .int 16]) rfl ?_
  have q_r_2 : r_2 = b := f_3.trans e_b.symm
  refine W.eq (g2 := F0 m 7 ls [.int b, .int 16]) (by rw [q_r_2]) ?_
  refine lv_imul hx hb dX7_goes_7 ?_
  refine lv_topi (fun z_7 ez_7 => ?_)
  have e_z_7 : z_7.toInt = 16 * b.toInt := i_mul ez_7 (by decide) rfl (by omega) (by omega)
  refine lv_aload_n hx hb dX7_goes_8 rfl (lv_at hl 0 rfl) ?_
  refine t_get (ci := 7) (v := .ref kp) hB hT (ro_ci r_h rfl) rfl 9 (by decide) k_754 kkp dX7_goes_9 ?_
  refine lv_aload_n hx hb dX7_goes_12 rfl (lv_at hl 0 rfl) ?_
  refine lv_iload_n hx hb dX7_goes_13 rfl (lv_at hl 1 rfl) ?_
  refine t_callV (n := 1) (As := [.int n]) (rest := [.ref kp, .int z_7]) (ci := 7) hB hT hl.1 (m_base l D cI cZ cS cR N0 g hI h n w r_h kw (by omega) (by omega) (by omega) (by omega)) (ro_ci r_h rfl) rfl k_1043 k_65 k_1040 k_1042 k_34 (by decide +kernel) ⟨(Nat.le_of_ble_eq_true rfl), (Nat.le_of_ble_eq_true rfl)⟩ rfl (Nat.le_of_ble_eq_true rfl) ⟨(Nat.le_of_ble_eq_true rfl), (Nat.le_of_ble_eq_true rfl)⟩ dX7_goes_14 (fun v g_8 H locs hp hT => ?_)
  obtain ⟨r_9, rfl, eg, f_10, f_11⟩ := hp
  rw [eg] at hT
  clear eg
  refine W.eq (g2 := F0 m 17 ls [.int r_9, .ref kp, .int z_7]) rfl ?_
  have q_r_9 : r_9 = b := f_10.trans e_b.symm
  refine W.eq (g2 := F0 m 17 ls [.int b, .ref kp, .int z_7]) (by rw [q_r_9]) ?_
  have i_u_14 : vp_in b 12 := (i_in (n := 12) rfl (by omega) (by omega))
  refine t_iald (v := vk) hB hT (ro_in r_kp (by decide)) n_kp i_u_14 hv dX7_goes_17 ?_
  refine lv_iadd hx hb dX7_goes_18 ?_
  refine lv_topi (fun z_15 ez_15 => ?_)
  have e_z_15 : z_15.toInt = z_7.toInt + vk.toInt := i_add ez_15 rfl rfl (by omega) (by omega)
  refine lv_istore_n (lv' := [(3, .int z_15), (0, .ref h), (1, .int n), (2, .int k)]) hx hb dX7_goes_19 rfl hl (by decide) rfl (fun ls hl => ?_)
  refine lv_iload_n hx hb dX7_goes_20 rfl (lv_at hl 3 rfl) ?_
  refine lv_iconst (v := 1) hx hb dX7_goes_21 (by decide) ?_
  refine lv_iadd hx hb dX7_goes_22 ?_
  refine lv_topi (fun z_16 ez_16 => ?_)
  have e_z_16 : z_16.toInt = k.toInt + 1 := i_add ez_16 rfl (by decide) (by omega) (by omega)
  refine lv_istore (lv' := [(4, .int z_16), (3, .int z_15), (0, .ref h), (1, .int n), (2, .int k)]) hx hb dX7_goes_23 hl (by decide) rfl (fun ls hl => ?_)
  exact lt_m_goes_a l D cI cZ cS cR N0 g h n k w b vk kp r_h r_kp n_kp kw kkp l_n u_n l_k u_k l_w u_w e_b f_b hv l_vk u_vk hB hr   192 g z_16 z_15 H locs ls hT hI hE hM (by omega) (by omega) (by omega) (by omega) hv (by have e0_ : (0 : Int32).toInt = 0 := (by decide); omega) (lv_sub hl [0, 1, 2, 3, 4] rfl)
abbrev md_m_keeps : Nat → Nat → Bool := mdf [(50, 99), (54, 99), (58, 99)]
theorem mdle_m_keeps_m_goes {r k : Nat} (h : md_m_keeps r k = false) : md_m_goes r k = false := mdf_le (by decide +kernel) h
set_option maxHeartbeats 4000000 in
set_option maxRecDepth 100000 in
theorem m_keeps (l : Launch) (D : va_G) (cI cZ cS cR : ClassId) (N0 : NT) (g : GS) (hI : Inv g) (h : Nat) (n : Int32) (k : Int32) (j : Int32) (x4 : Int32) (r_h : g.1 h = 8) (l_n : 0 ≤ n.toInt) (u_n : n.toInt ≤ 5) (l_x4 : (-2) ≤ x4.toInt) (u_x4 : x4.toInt ≤ 999) : Ty l D cI cZ cS cR N0 yX7_keeps cX7_keeps 6 none 2 0 0 [.ref h, .int n, .int k, .int j, .int x4] g (fun v g' => v = none ∧ Inv g' ∧ Ex g g' ∧ Sm md_m_keeps g g') := by
  refine t_enter (by decide) (Nat.le_of_ble_eq_true rfl) ?_
  intro p e s m args below meth c ls H locs hB hr hin hl hT
  have hx := hB.1
  have hb := hB.2.1
  have hl : lv_has ls 6 [(0, .ref h), (1, .int n), (2, .int k), (3, .int j), (4, .int x4)] := hl
  have hE : Ex g g := Ex.rf
  have hM : Sm md_m_keeps g g := Sm.rf
  refine lv_aload_n hx hb dX7_keeps_0 rfl (lv_at hl 0 rfl) ?_
  obtain ⟨v_1, e_v_1, r_v_1, n_v_1⟩ := f_8_9 hI r_h
  refine t_get (ci := 7) (v := .ref v_1) hB hT (ro_ci r_h rfl) rfl 9 (by decide) k_754 e_v_1 dX7_keeps_1 ?_
  refine lv_aload_n hx hb dX7_keeps_4 rfl (lv_at hl 0 rfl) ?_
  refine lv_iload_n hx hb dX7_keeps_5 rfl (lv_at hl 1 rfl) ?_
  obtain ⟨v_2, e_v_2, l_v_2, u_v_2⟩ := f_8_21 hI r_h
  refine t_callV (n := 1) (As := [.int n]) (rest := [.ref v_1]) (ci := 7) hB hT hl.1 (m_base l D cI cZ cS cR N0 g hI h n v_2 r_h e_v_2 (by omega) (by omega) (by omega) (by omega)) (ro_ci r_h rfl) rfl k_1043 k_65 k_1040 k_1042 k_34 (by decide +kernel) ⟨(Nat.le_of_ble_eq_true rfl), (Nat.le_of_ble_eq_true rfl)⟩ rfl (Nat.le_of_ble_eq_true rfl) ⟨(Nat.le_of_ble_eq_true rfl), (Nat.le_of_ble_eq_true rfl)⟩ dX7_keeps_6 (fun v g_3 H locs hp hT => ?_)
  obtain ⟨r_4, rfl, eg, f_5, f_6⟩ := hp
  rw [eg] at hT
  clear eg
  refine W.eq (g2 := F0 m 9 ls [.int r_4, .ref v_1]) rfl ?_
  have i_u_9 : vp_in r_4 12 := (i_in (n := 12) rfl (by omega) (by omega))
  refine t_iald hB hT (ro_in r_v_1 (by decide)) n_v_1 i_u_9 rfl dX7_keeps_9 ?_
  have c_u_9 := hI.c r_v_1 n_v_1 (i_cl i_u_9)
  refine lv_topi (fun u_9 e_u_9 => ?_)
  obtain ⟨l_u_9, u_u_9⟩ := c_u_9
  rw [← e_u_9] at l_u_9 u_u_9
  refine lv_bipush (v := 16) hx hb dX7_keeps_10 (by decide) ?_
  refine lv_icmp_ne (tgt := 28) hx hb dX7_keeps_12 (by decide) (fun c_10 => ?_) (fun c_10 => ?_)
  · have c_10' : u_9.toInt ≠ 16 := i_ne c_10 rfl (by decide)
    refine lv_bipush (v := 16) hx hb dX7_keeps_28 (by decide) ?_
    refine lv_aload_n hx hb dX7_keeps_30 rfl (lv_at hl 0 rfl) ?_
    refine lv_iload_n hx hb dX7_keeps_31 rfl (lv_at hl 1 rfl) ?_
    refine t_callV (n := 1) (As := [.int n]) (rest := [.int 16]) (ci := 7) hB hT hl.1 (m_base l D cI cZ cS cR N0 g hI h n v_2 r_h e_v_2 (by omega) (by omega) (by omega) (by omega)) (ro_ci r_h rfl) rfl k_1043 k_65 k_1040 k_1042 k_34 (by decide +kernel) ⟨(Nat.le_of_ble_eq_true rfl), (Nat.le_of_ble_eq_true rfl)⟩ rfl (Nat.le_of_ble_eq_true rfl) ⟨(Nat.le_of_ble_eq_true rfl), (Nat.le_of_ble_eq_true rfl)⟩ dX7_keeps_32 (fun v g_11 H locs hp hT => ?_)
    obtain ⟨r_12, rfl, eg, f_13, f_14⟩ := hp
    rw [eg] at hT
    clear eg
    refine W.eq (g2 := F0 m 35 ls [.int r_12, .int 16]) rfl ?_
    have q_r_12 : r_12 = r_4 := f_13.trans f_5.symm
    refine W.eq (g2 := F0 m 35 ls [.int r_4, .int 16]) (by rw [q_r_12]) ?_
    refine lv_imul hx hb dX7_keeps_35 ?_
    refine lv_topi (fun z_17 ez_17 => ?_)
    have e_z_17 : z_17.toInt = 16 * r_4.toInt := i_mul ez_17 (by decide) rfl (by omega) (by omega)
    refine lv_aload_n hx hb dX7_keeps_36 rfl (lv_at hl 0 rfl) ?_
    refine t_get (ci := 7) (v := .ref v_1) hB hT (ro_ci r_h rfl) rfl 9 (by decide) k_754 e_v_1 dX7_keeps_37 ?_
    refine lv_aload_n hx hb dX7_keeps_40 rfl (lv_at hl 0 rfl) ?_
    refine lv_iload_n hx hb dX7_keeps_41 rfl (lv_at hl 1 rfl) ?_
    refine t_callV (n := 1) (As := [.int n]) (rest := [.ref v_1, .int z_17]) (ci := 7) hB hT hl.1 (m_base l D cI cZ cS cR N0 g hI h n v_2 r_h e_v_2 (by omega) (by omega) (by omega) (by omega)) (ro_ci r_h rfl) rfl k_1043 k_65 k_1040 k_1042 k_34 (by decide +kernel) ⟨(Nat.le_of_ble_eq_true rfl), (Nat.le_of_ble_eq_true rfl)⟩ rfl (Nat.le_of_ble_eq_true rfl) ⟨(Nat.le_of_ble_eq_true rfl), (Nat.le_of_ble_eq_true rfl)⟩ dX7_keeps_42 (fun v g_18 H locs hp hT => ?_)
    obtain ⟨r_19, rfl, eg, f_20, f_21⟩ := hp
    rw [eg] at hT
    clear eg
    refine W.eq (g2 := F0 m 45 ls [.int r_19, .ref v_1, .int z_17]) rfl ?_
    have q_r_19 : r_19 = r_4 := f_20.trans f_5.symm
    refine W.eq (g2 := F0 m 45 ls [.int r_4, .ref v_1, .int z_17]) (by rw [q_r_19]) ?_
    have i_u_24 : vp_in r_4 12 := (i_in (n := 12) rfl (by omega) (by omega))
    refine t_iald (v := u_9) hB hT (ro_in r_v_1 (by decide)) n_v_1 i_u_24 e_u_9.symm dX7_keeps_45 ?_
    refine lv_iadd hx hb dX7_keeps_46 ?_
    refine lv_topi (fun z_25 ez_25 => ?_)
    have e_z_25 : z_25.toInt = z_17.toInt + u_9.toInt := i_add ez_25 rfl rfl (by omega) (by omega)
    refine lv_istore (lv' := [(5, .int z_25), (0, .ref h), (1, .int n), (2, .int k), (3, .int j), (4, .int x4)]) hx hb dX7_keeps_47 hl (by decide) rfl (fun ls hl => ?_)
    refine lv_aload_n hx hb dX7_keeps_49 rfl (lv_at hl 1 rfl) ?_
    obtain ⟨v_26, e_v_26, r_v_26, n_v_26⟩ := f_8_10 hI r_h
    refine t_get (ci := 7) (v := .ref v_26) hB hT (ro_ci r_h rfl) rfl 10 (by decide) k_755 e_v_26 dX7_keeps_50 ?_
    refine lv_iload hx hb dX7_keeps_53 (lv_at hl 0 rfl) ?_
    refine lv_iload_n hx hb dX7_keeps_55 rfl (lv_at hl 3 rfl) ?_
    have i_27 : vp_in z_25 192 := (i_in (n := 192) rfl (by omega) (by omega))
    refine t_iast hB hT (ro_in r_v_26 (by decide)) n_v_26 i_27 dX7_keeps_56 (fun H locs hT => ?_)
    have hI : Inv (sC g v_26 z_25.toNatClampNeg k) := hI.sC (ck r_v_26 trivial)
    have hM : Sm md_m_keeps g (sC g v_26 z_25.toNatClampNeg k) := hM.tr hE (Sm_sC (by rw [r_v_26]; rfl))
    have hE : Ex g (sC g v_26 z_25.toNatClampNeg k) := hE
    refine lv_aload_n hx hb dX7_keeps_57 rfl (lv_at hl 1 rfl) ?_
    obtain ⟨v_28, e_v_28, r_v_28, n_v_28⟩ := f_8_11 hI r_h
    refine t_get (ci := 7) (v := .ref v_28) hB hT (ro_ci r_h rfl) rfl 11 (by decide) k_756 e_v_28 dX7_keeps_58 ?_
    refine lv_iload hx hb dX7_keeps_61 (lv_at hl 0 rfl) ?_
    refine lv_iload_n hx hb dX7_keeps_63 rfl (lv_at hl 4 rfl) ?_
    have i_29 : vp_in z_25 192 := (i_in (n := 192) rfl (by omega) (by omega))
    refine t_iast hB hT (ro_in r_v_28 (by decide)) n_v_28 i_29 dX7_keeps_64 (fun H locs hT => ?_)
    have hI : Inv (sC (sC g v_26 z_25.toNatClampNeg k) v_28 z_25.toNatClampNeg j) := hI.sC (ck r_v_28 trivial)
    have hM : Sm md_m_keeps g (sC (sC g v_26 z_25.toNatClampNeg k) v_28 z_25.toNatClampNeg j) := hM.tr hE (Sm_sC (by rw [r_v_28]; rfl))
    have hE : Ex g (sC (sC g v_26 z_25.toNatClampNeg k) v_28 z_25.toNatClampNeg j) := hE
    refine lv_aload_n hx hb dX7_keeps_65 rfl (lv_at hl 1 rfl) ?_
    obtain ⟨v_30, e_v_30, r_v_30, n_v_30⟩ := f_8_12 hI r_h
    refine t_get (ci := 7) (v := .ref v_30) hB hT (ro_ci r_h rfl) rfl 12 (by decide) k_757 e_v_30 dX7_keeps_66 ?_
    refine lv_iload hx hb dX7_keeps_69 (lv_at hl 0 rfl) ?_
    refine lv_iload hx hb dX7_keeps_71 (lv_at hl 5 rfl) ?_
    have i_31 : vp_in z_25 192 := (i_in (n := 192) rfl (by omega) (by omega))
    refine t_iast hB hT (ro_in r_v_30 (by decide)) n_v_30 i_31 dX7_keeps_73 (fun H locs hT => ?_)
    have hI : Inv (sC (sC (sC g v_26 z_25.toNatClampNeg k) v_28 z_25.toNatClampNeg j) v_30 z_25.toNatClampNeg x4) := hI.sC (ck r_v_30 ⟨by omega, by omega⟩)
    have hM : Sm md_m_keeps g (sC (sC (sC g v_26 z_25.toNatClampNeg k) v_28 z_25.toNatClampNeg j) v_30 z_25.toNatClampNeg x4) := hM.tr hE (Sm_sC (by rw [r_v_30]; rfl))
    have hE : Ex g (sC (sC (sC g v_26 z_25.toNatClampNeg k) v_28 z_25.toNatClampNeg j) v_30 z_25.toNatClampNeg x4) := hE
    refine lv_aload_n hx hb dX7_keeps_74 rfl (lv_at hl 1 rfl) ?_
    obtain ⟨v_32, e_v_32, r_v_32, n_v_32⟩ := f_8_13 hI r_h
    refine t_get (ci := 7) (v := .ref v_32) hB hT (ro_ci r_h rfl) rfl 13 (by decide) k_758 e_v_32 dX7_keeps_75 ?_
    refine lv_iload hx hb dX7_keeps_78 (lv_at hl 0 rfl) ?_
    refine lv_aload_n hx hb dX7_keeps_80 rfl (lv_at hl 1 rfl) ?_
    obtain ⟨v_33, e_v_33, r_v_33, n_v_33⟩ := f_8_14 hI r_h
    refine t_get (ci := 7) (v := .ref v_33) hB hT (ro_ci r_h rfl) rfl 14 (by decide) k_759 e_v_33 dX7_keeps_81 ?_
    refine lv_aload_n hx hb dX7_keeps_84 rfl (lv_at hl 1 rfl) ?_
    refine t_get (ci := 7) (v := .int v_2) hB hT (ro_ci r_h rfl) rfl 21 (by decide) k_766 e_v_2 dX7_keeps_85 ?_
    have i_u_34 : vp_in v_2 2 := (i_in (n := 2) rfl (by omega) (by omega))
    refine t_iald hB hT (ro_in r_v_33 (by decide)) n_v_33 i_u_34 rfl dX7_keeps_88 ?_
    refine lv_topi (fun u_34 e_u_34 => ?_)
    have i_35 : vp_in z_25 192 := (i_in (n := 192) rfl (by omega) (by omega))
    refine t_iast hB hT (ro_in r_v_32 (by decide)) n_v_32 i_35 dX7_keeps_89 (fun H locs hT => ?_)
    have hI : Inv (sC (sC (sC (sC g v_26 z_25.toNatClampNeg k) v_28 z_25.toNatClampNeg j) v_30 z_25.toNatClampNeg x4) v_32 z_25.toNatClampNeg u_34) := hI.sC (ck r_v_32 trivial)
    have hM : Sm md_m_keeps g (sC (sC (sC (sC g v_26 z_25.toNatClampNeg k) v_28 z_25.toNatClampNeg j) v_30 z_25.toNatClampNeg x4) v_32 z_25.toNatClampNeg u_34) := hM.tr hE (Sm_sC (by rw [r_v_32]; rfl))
    have hE : Ex g (sC (sC (sC (sC g v_26 z_25.toNatClampNeg k) v_28 z_25.toNatClampNeg j) v_30 z_25.toNatClampNeg x4) v_32 z_25.toNatClampNeg u_34) := hE
    refine lv_aload_n hx hb dX7_keeps_90 rfl (lv_at hl 1 rfl) ?_
    refine t_get (ci := 7) (v := .ref v_1) hB hT (ro_ci r_h rfl) rfl 9 (by decide) k_754 e_v_1 dX7_keeps_91 ?_
    refine lv_aload_n hx hb dX7_keeps_94 rfl (lv_at hl 1 rfl) ?_
    refine lv_iload_n hx hb dX7_keeps_95 rfl (lv_at hl 2 rfl) ?_
    refine t_callV (n := 1) (As := [.int n]) (rest := [.ref v_1]) (ci := 7) hB hT hl.1 (m_base l D cI cZ cS cR N0 (sC (sC (sC (sC g v_26 z_25.toNatClampNeg k) v_28 z_25.toNatClampNeg j) v_30 z_25.toNatClampNeg x4) v_32 z_25.toNatClampNeg u_34) hI h n v_2 r_h e_v_2 (by omega) (by omega) (by omega) (by omega)) (ro_ci r_h rfl) rfl k_1043 k_65 k_1040 k_1042 k_34 (by decide +kernel) ⟨(Nat.le_of_ble_eq_true rfl), (Nat.le_of_ble_eq_true rfl)⟩ rfl (Nat.le_of_ble_eq_true rfl) ⟨(Nat.le_of_ble_eq_true rfl), (Nat.le_of_ble_eq_true rfl)⟩ dX7_keeps_96 (fun v g_36 H locs hp hT => ?_)
    obtain ⟨r_37, rfl, eg, f_38, f_39⟩ := hp
    rw [eg] at hT
    clear eg
    refine W.eq (g2 := F0 m 99 ls [.int r_37, .ref v_1]) rfl ?_
    have q_r_37 : r_37 = r_4 := f_38.trans f_5.symm
    refine W.eq (g2 := F0 m 99 ls [.int r_4, .ref v_1]) (by rw [q_r_37]) ?_
    refine lv_dup2_11 hx hb dX7_keeps_99 rfl rfl ?_
    have i_u_42 : vp_in r_4 12 := (i_in (n := 12) rfl (by omega) (by omega))
    refine t_iald (v := u_9) hB hT (ro_in r_v_1 (by decide)) n_v_1 i_u_42 (sC_a (sC_a (sC_a (sC_a e_u_9.symm (ro_ne r_v_1 r_v_26 (by decide))) (ro_ne r_v_1 r_v_28 (by decide))) (ro_ne r_v_1 r_v_30 (by decide))) (ro_ne r_v_1 r_v_32 (by decide))) dX7_keeps_100 ?_
    refine lv_iconst (v := 1) hx hb dX7_keeps_101 (by decide) ?_
    refine lv_iadd hx hb dX7_keeps_102 ?_
    refine lv_topi (fun z_43 ez_43 => ?_)
    have e_z_43 : z_43.toInt = u_9.toInt + 1 := i_add ez_43 rfl (by decide) (by omega) (by omega)
    have i_44 : vp_in r_4 12 := (i_in (n := 12) rfl (by omega) (by omega))
    refine t_iast hB hT (ro_in r_v_1 (by decide)) n_v_1 i_44 dX7_keeps_103 (fun H locs hT => ?_)
    have hI : Inv (sC (sC (sC (sC (sC g v_26 z_25.toNatClampNeg k) v_28 z_25.toNatClampNeg j) v_30 z_25.toNatClampNeg x4) v_32 z_25.toNatClampNeg u_34) v_1 r_4.toNatClampNeg z_43) := hI.sC (ck r_v_1 ⟨by omega, by omega⟩)
    have hM : Sm md_m_keeps g (sC (sC (sC (sC (sC g v_26 z_25.toNatClampNeg k) v_28 z_25.toNatClampNeg j) v_30 z_25.toNatClampNeg x4) v_32 z_25.toNatClampNeg u_34) v_1 r_4.toNatClampNeg z_43) := hM.tr hE (Sm_sC (by rw [r_v_1]; rfl))
    have hE : Ex g (sC (sC (sC (sC (sC g v_26 z_25.toNatClampNeg k) v_28 z_25.toNatClampNeg j) v_30 z_25.toNatClampNeg x4) v_32 z_25.toNatClampNeg u_34) v_1 r_4.toNatClampNeg z_43) := hE
    exact t_vret hB hr hT (Nat.le_of_ble_eq_true rfl) (Nat.le_of_ble_eq_true rfl) dX7_keeps_104 ⟨rfl, hI, hE, hM⟩
  · have c_10' : u_9.toInt = 16 := i_eq c_10 rfl (by decide)
    refine lv_aload_n hx hb dX7_keeps_15 rfl (lv_at hl 0 rfl) ?_
    refine lv_iload_n hx hb dX7_keeps_16 rfl (lv_at hl 1 rfl) ?_
    refine lv_bipush (v := 16) hx hb dX7_keeps_17 (by decide) ?_
    refine lv_aload_n hx hb dX7_keeps_19 rfl (lv_at hl 0 rfl) ?_
    refine lv_iload_n hx hb dX7_keeps_20 rfl (lv_at hl 1 rfl) ?_
    refine t_callV (n := 1) (As := [.int n]) (rest := [.int 16, .int n, .ref h]) (ci := 7) hB hT hl.1 (m_base l D cI cZ cS cR N0 g hI h n v_2 r_h e_v_2 (by omega) (by omega) (by omega) (by omega)) (ro_ci r_h rfl) rfl k_1043 k_65 k_1040 k_1042 k_34 (by decide +kernel) ⟨(Nat.le_of_ble_eq_true rfl), (Nat.le_of_ble_eq_true rfl)⟩ rfl (Nat.le_of_ble_eq_true rfl) ⟨(Nat.le_of_ble_eq_true rfl), (Nat.le_of_ble_eq_true rfl)⟩ dX7_keeps_21 (fun v g_45 H locs hp hT => ?_)
    obtain ⟨r_46, rfl, eg, f_47, f_48⟩ := hp
    rw [eg] at hT
    clear eg
    refine W.eq (g2 := F0 m 24 ls [.int r_46, .int 16, .int n, .ref h]) rfl ?_
    have q_r_46 : r_46 = r_4 := f_47.trans f_5.symm
    refine W.eq (g2 := F0 m 24 ls [.int r_4, .int 16, .int n, .ref h]) (by rw [q_r_46]) ?_
    refine lv_imul hx hb dX7_keeps_24 ?_
    refine lv_topi (fun z_51 ez_51 => ?_)
    have e_z_51 : z_51.toInt = 16 * r_4.toInt := i_mul ez_51 (by decide) rfl (by omega) (by omega)
    refine t_callV (n := 2) (As := [.int n, .int z_51]) (rest := []) (ci := 7) hB hT hl.1 (m_goes l D cI cZ cS cR N0 g hI h n z_51 v_2 r_4 u_9 v_1 r_h r_v_1 n_v_1 e_v_2 e_v_1 (by omega) (by omega) (by omega) (by omega) (by omega) (by omega) f_5 (by omega) e_u_9.symm (by omega) (by omega)) (ro_ci r_h rfl) rfl k_1047 k_65 k_1044 k_1046 k_35 (by decide +kernel) ⟨(Nat.le_of_ble_eq_true rfl), (Nat.le_of_ble_eq_true rfl)⟩ rfl (Nat.le_of_ble_eq_true rfl) ⟨(Nat.le_of_ble_eq_true rfl), (Nat.le_of_ble_eq_true rfl)⟩ dX7_keeps_25 (fun v g_52 H locs hp hT => ?_)
    obtain ⟨v2_53, rfl, hI, x_57, m_56, f_54, f_55⟩ := hp
    have hM : Sm md_m_keeps g g_52 := hM.tr hE (m_56.mo (fun r k h => mdle_m_keeps_m_goes h))
    have hE : Ex g g_52 := hE.tr x_57
    have r_58 : g_52.1 h = 8 := (Ex.r x_57 r_h (by decide))
    have r_59 : g_52.1 v_1 = 54 := (Ex.r x_57 r_v_1 (by decide))
    have n_60 : g_52.2.2.1 v_1 = 12 := (Ex.n x_57 r_v_1 (by decide) n_v_1)
    have kn_61 : g_52.2.1 h 9 = .ref v_1 := (Sm.v m_56 r_h (by decide) rfl e_v_1)
    have kn_62 : g_52.2.1 h 21 = .int v_2 := (Sm.v m_56 r_h (by decide) rfl e_v_2)
    refine W.eq (g2 := F0 m 28 ls []) rfl ?_
    refine lv_bipush (v := 16) hx hb dX7_keeps_28 (by decide) ?_
    refine lv_aload_n hx hb dX7_keeps_30 rfl (lv_at hl 0 rfl) ?_
    refine lv_iload_n hx hb dX7_keeps_31 rfl (lv_at hl 1 rfl) ?_
    refine t_callV (n := 1) (As := [.int n]) (rest := [.int 16]) (ci := 7) hB hT hl.1 (m_base l D cI cZ cS cR N0 g_52 hI h n v_2 r_58 kn_62 (by omega) (by omega) (by omega) (by omega)) (ro_ci r_58 rfl) rfl k_1043 k_65 k_1040 k_1042 k_34 (by decide +kernel) ⟨(Nat.le_of_ble_eq_true rfl), (Nat.le_of_ble_eq_true rfl)⟩ rfl (Nat.le_of_ble_eq_true rfl) ⟨(Nat.le_of_ble_eq_true rfl), (Nat.le_of_ble_eq_true rfl)⟩ dX7_keeps_32 (fun v g_63 H locs hp hT => ?_)
    obtain ⟨r_64, rfl, eg, f_65, f_66⟩ := hp
    rw [eg] at hT
    clear eg
    refine W.eq (g2 := F0 m 35 ls [.int r_64, .int 16]) rfl ?_
    have q_r_64 : r_64 = r_4 := f_65.trans f_5.symm
    refine W.eq (g2 := F0 m 35 ls [.int r_4, .int 16]) (by rw [q_r_64]) ?_
    refine lv_imul hx hb dX7_keeps_35 ?_
    refine lv_topi (fun z_69 ez_69 => ?_)
    have e_z_69 : z_69.toInt = 16 * r_4.toInt := i_mul ez_69 (by decide) rfl (by omega) (by omega)
    refine lv_aload_n hx hb dX7_keeps_36 rfl (lv_at hl 0 rfl) ?_
    refine t_get (ci := 7) (v := .ref v_1) hB hT (ro_ci r_58 rfl) rfl 9 (by decide) k_754 kn_61 dX7_keeps_37 ?_
    refine lv_aload_n hx hb dX7_keeps_40 rfl (lv_at hl 0 rfl) ?_
    refine lv_iload_n hx hb dX7_keeps_41 rfl (lv_at hl 1 rfl) ?_
    refine t_callV (n := 1) (As := [.int n]) (rest := [.ref v_1, .int z_69]) (ci := 7) hB hT hl.1 (m_base l D cI cZ cS cR N0 g_52 hI h n v_2 r_58 kn_62 (by omega) (by omega) (by omega) (by omega)) (ro_ci r_58 rfl) rfl k_1043 k_65 k_1040 k_1042 k_34 (by decide +kernel) ⟨(Nat.le_of_ble_eq_true rfl), (Nat.le_of_ble_eq_true rfl)⟩ rfl (Nat.le_of_ble_eq_true rfl) ⟨(Nat.le_of_ble_eq_true rfl), (Nat.le_of_ble_eq_true rfl)⟩ dX7_keeps_42 (fun v g_70 H locs hp hT => ?_)
    obtain ⟨r_71, rfl, eg, f_72, f_73⟩ := hp
    rw [eg] at hT
    clear eg
    refine W.eq (g2 := F0 m 45 ls [.int r_71, .ref v_1, .int z_69]) rfl ?_
    have q_r_71 : r_71 = r_4 := f_72.trans f_5.symm
    refine W.eq (g2 := F0 m 45 ls [.int r_4, .ref v_1, .int z_69]) (by rw [q_r_71]) ?_
    have i_u_76 : vp_in r_4 12 := (i_in (n := 12) rfl (by omega) (by omega))
    refine t_iald (v := v2_53) hB hT (ro_in r_59 (by decide)) n_60 i_u_76 f_54 dX7_keeps_45 ?_
    refine lv_iadd hx hb dX7_keeps_46 ?_
    refine lv_topi (fun z_77 ez_77 => ?_)
    have e_z_77 : z_77.toInt = z_69.toInt + v2_53.toInt := i_add ez_77 rfl rfl (by omega) (by omega)
    refine lv_istore (lv' := [(5, .int z_77), (0, .ref h), (1, .int n), (2, .int k), (3, .int j), (4, .int x4)]) hx hb dX7_keeps_47 hl (by decide) rfl (fun ls hl => ?_)
    refine lv_aload_n hx hb dX7_keeps_49 rfl (lv_at hl 1 rfl) ?_
    obtain ⟨v_78, e_v_78, r_v_78, n_v_78⟩ := f_8_10 hI r_58
    refine t_get (ci := 7) (v := .ref v_78) hB hT (ro_ci r_58 rfl) rfl 10 (by decide) k_755 e_v_78 dX7_keeps_50 ?_
    refine lv_iload hx hb dX7_keeps_53 (lv_at hl 0 rfl) ?_
    refine lv_iload_n hx hb dX7_keeps_55 rfl (lv_at hl 3 rfl) ?_
    have i_79 : vp_in z_77 192 := (i_in (n := 192) rfl (by omega) (by omega))
    refine t_iast hB hT (ro_in r_v_78 (by decide)) n_v_78 i_79 dX7_keeps_56 (fun H locs hT => ?_)
    have hI : Inv (sC g_52 v_78 z_77.toNatClampNeg k) := hI.sC (ck r_v_78 trivial)
    have hM : Sm md_m_keeps g (sC g_52 v_78 z_77.toNatClampNeg k) := hM.tr hE (Sm_sC (by rw [r_v_78]; rfl))
    have hE : Ex g (sC g_52 v_78 z_77.toNatClampNeg k) := hE
    refine lv_aload_n hx hb dX7_keeps_57 rfl (lv_at hl 1 rfl) ?_
    obtain ⟨v_80, e_v_80, r_v_80, n_v_80⟩ := f_8_11 hI r_58
    refine t_get (ci := 7) (v := .ref v_80) hB hT (ro_ci r_58 rfl) rfl 11 (by decide) k_756 e_v_80 dX7_keeps_58 ?_
    refine lv_iload hx hb dX7_keeps_61 (lv_at hl 0 rfl) ?_
    refine lv_iload_n hx hb dX7_keeps_63 rfl (lv_at hl 4 rfl) ?_
    have i_81 : vp_in z_77 192 := (i_in (n := 192) rfl (by omega) (by omega))
    refine t_iast hB hT (ro_in r_v_80 (by decide)) n_v_80 i_81 dX7_keeps_64 (fun H locs hT => ?_)
    have hI : Inv (sC (sC g_52 v_78 z_77.toNatClampNeg k) v_80 z_77.toNatClampNeg j) := hI.sC (ck r_v_80 trivial)
    have hM : Sm md_m_keeps g (sC (sC g_52 v_78 z_77.toNatClampNeg k) v_80 z_77.toNatClampNeg j) := hM.tr hE (Sm_sC (by rw [r_v_80]; rfl))
    have hE : Ex g (sC (sC g_52 v_78 z_77.toNatClampNeg k) v_80 z_77.toNatClampNeg j) := hE
    refine lv_aload_n hx hb dX7_keeps_65 rfl (lv_at hl 1 rfl) ?_
    obtain ⟨v_82, e_v_82, r_v_82, n_v_82⟩ := f_8_12 hI r_58
    refine t_get (ci := 7) (v := .ref v_82) hB hT (ro_ci r_58 rfl) rfl 12 (by decide) k_757 e_v_82 dX7_keeps_66 ?_
    refine lv_iload hx hb dX7_keeps_69 (lv_at hl 0 rfl) ?_
    refine lv_iload hx hb dX7_keeps_71 (lv_at hl 5 rfl) ?_
    have i_83 : vp_in z_77 192 := (i_in (n := 192) rfl (by omega) (by omega))
    refine t_iast hB hT (ro_in r_v_82 (by decide)) n_v_82 i_83 dX7_keeps_73 (fun H locs hT => ?_)
    have hI : Inv (sC (sC (sC g_52 v_78 z_77.toNatClampNeg k) v_80 z_77.toNatClampNeg j) v_82 z_77.toNatClampNeg x4) := hI.sC (ck r_v_82 ⟨by omega, by omega⟩)
    have hM : Sm md_m_keeps g (sC (sC (sC g_52 v_78 z_77.toNatClampNeg k) v_80 z_77.toNatClampNeg j) v_82 z_77.toNatClampNeg x4) := hM.tr hE (Sm_sC (by rw [r_v_82]; rfl))
    have hE : Ex g (sC (sC (sC g_52 v_78 z_77.toNatClampNeg k) v_80 z_77.toNatClampNeg j) v_82 z_77.toNatClampNeg x4) := hE
    refine lv_aload_n hx hb dX7_keeps_74 rfl (lv_at hl 1 rfl) ?_
    obtain ⟨v_84, e_v_84, r_v_84, n_v_84⟩ := f_8_13 hI r_58
    refine t_get (ci := 7) (v := .ref v_84) hB hT (ro_ci r_58 rfl) rfl 13 (by decide) k_758 e_v_84 dX7_keeps_75 ?_
    refine lv_iload hx hb dX7_keeps_78 (lv_at hl 0 rfl) ?_
    refine lv_aload_n hx hb dX7_keeps_80 rfl (lv_at hl 1 rfl) ?_
    obtain ⟨v_85, e_v_85, r_v_85, n_v_85⟩ := f_8_14 hI r_58
    refine t_get (ci := 7) (v := .ref v_85) hB hT (ro_ci r_58 rfl) rfl 14 (by decide) k_759 e_v_85 dX7_keeps_81 ?_
    refine lv_aload_n hx hb dX7_keeps_84 rfl (lv_at hl 1 rfl) ?_
    refine t_get (ci := 7) (v := .int v_2) hB hT (ro_ci r_58 rfl) rfl 21 (by decide) k_766 kn_62 dX7_keeps_85 ?_
    have i_u_86 : vp_in v_2 2 := (i_in (n := 2) rfl (by omega) (by omega))
    refine t_iald hB hT (ro_in r_v_85 (by decide)) n_v_85 i_u_86 rfl dX7_keeps_88 ?_
    refine lv_topi (fun u_86 e_u_86 => ?_)
    have i_87 : vp_in z_77 192 := (i_in (n := 192) rfl (by omega) (by omega))
    refine t_iast hB hT (ro_in r_v_84 (by decide)) n_v_84 i_87 dX7_keeps_89 (fun H locs hT => ?_)
    have hI : Inv (sC (sC (sC (sC g_52 v_78 z_77.toNatClampNeg k) v_80 z_77.toNatClampNeg j) v_82 z_77.toNatClampNeg x4) v_84 z_77.toNatClampNeg u_86) := hI.sC (ck r_v_84 trivial)
    have hM : Sm md_m_keeps g (sC (sC (sC (sC g_52 v_78 z_77.toNatClampNeg k) v_80 z_77.toNatClampNeg j) v_82 z_77.toNatClampNeg x4) v_84 z_77.toNatClampNeg u_86) := hM.tr hE (Sm_sC (by rw [r_v_84]; rfl))
    have hE : Ex g (sC (sC (sC (sC g_52 v_78 z_77.toNatClampNeg k) v_80 z_77.toNatClampNeg j) v_82 z_77.toNatClampNeg x4) v_84 z_77.toNatClampNeg u_86) := hE
    refine lv_aload_n hx hb dX7_keeps_90 rfl (lv_at hl 1 rfl) ?_
    refine t_get (ci := 7) (v := .ref v_1) hB hT (ro_ci r_58 rfl) rfl 9 (by decide) k_754 kn_61 dX7_keeps_91 ?_
    refine lv_aload_n hx hb dX7_keeps_94 rfl (lv_at hl 1 rfl) ?_
    refine lv_iload_n hx hb dX7_keeps_95 rfl (lv_at hl 2 rfl) ?_
    refine t_callV (n := 1) (As := [.int n]) (rest := [.ref v_1]) (ci := 7) hB hT hl.1 (m_base l D cI cZ cS cR N0 (sC (sC (sC (sC g_52 v_78 z_77.toNatClampNeg k) v_80 z_77.toNatClampNeg j) v_82 z_77.toNatClampNeg x4) v_84 z_77.toNatClampNeg u_86) hI h n v_2 r_58 kn_62 (by omega) (by omega) (by omega) (by omega)) (ro_ci r_58 rfl) rfl k_1043 k_65 k_1040 k_1042 k_34 (by decide +kernel) ⟨(Nat.le_of_ble_eq_true rfl), (Nat.le_of_ble_eq_true rfl)⟩ rfl (Nat.le_of_ble_eq_true rfl) ⟨(Nat.le_of_ble_eq_true rfl), (Nat.le_of_ble_eq_true rfl)⟩ dX7_keeps_96 (fun v g_88 H locs hp hT => ?_)
    obtain ⟨r_89, rfl, eg, f_90, f_91⟩ := hp
    rw [eg] at hT
    clear eg
    refine W.eq (g2 := F0 m 99 ls [.int r_89, .ref v_1]) rfl ?_
    have q_r_89 : r_89 = r_4 := f_90.trans f_5.symm
    refine W.eq (g2 := F0 m 99 ls [.int r_4, .ref v_1]) (by rw [q_r_89]) ?_
    refine lv_dup2_11 hx hb dX7_keeps_99 rfl rfl ?_
    have i_u_94 : vp_in r_4 12 := (i_in (n := 12) rfl (by omega) (by omega))
    refine t_iald (v := v2_53) hB hT (ro_in r_59 (by decide)) n_60 i_u_94 (sC_a (sC_a (sC_a (sC_a f_54 (ro_ne r_59 r_v_78 (by decide))) (ro_ne r_59 r_v_80 (by decide))) (ro_ne r_59 r_v_82 (by decide))) (ro_ne r_59 r_v_84 (by decide))) dX7_keeps_100 ?_
    refine lv_iconst (v := 1) hx hb dX7_keeps_101 (by decide) ?_
    refine lv_iadd hx hb dX7_keeps_102 ?_
    refine lv_topi (fun z_95 ez_95 => ?_)
    have e_z_95 : z_95.toInt = v2_53.toInt + 1 := i_add ez_95 rfl (by decide) (by omega) (by omega)
    have i_96 : vp_in r_4 12 := (i_in (n := 12) rfl (by omega) (by omega))
    refine t_iast hB hT (ro_in r_59 (by decide)) n_60 i_96 dX7_keeps_103 (fun H locs hT => ?_)
    have hI : Inv (sC (sC (sC (sC (sC g_52 v_78 z_77.toNatClampNeg k) v_80 z_77.toNatClampNeg j) v_82 z_77.toNatClampNeg x4) v_84 z_77.toNatClampNeg u_86) v_1 r_4.toNatClampNeg z_95) := hI.sC (ck r_59 ⟨by omega, by omega⟩)
    have hM : Sm md_m_keeps g (sC (sC (sC (sC (sC g_52 v_78 z_77.toNatClampNeg k) v_80 z_77.toNatClampNeg j) v_82 z_77.toNatClampNeg x4) v_84 z_77.toNatClampNeg u_86) v_1 r_4.toNatClampNeg z_95) := hM.tr hE (Sm_sC (by rw [r_59]; rfl))
    have hE : Ex g (sC (sC (sC (sC (sC g_52 v_78 z_77.toNatClampNeg k) v_80 z_77.toNatClampNeg j) v_82 z_77.toNatClampNeg x4) v_84 z_77.toNatClampNeg u_86) v_1 r_4.toNatClampNeg z_95) := hE
    exact t_vret hB hr hT (Nat.le_of_ble_eq_true rfl) (Nat.le_of_ble_eq_true rfl) dX7_keeps_104 ⟨rfl, hI, hE, hM⟩
abbrev md_m_ends : Nat → Nat → Bool := mdf [(50, 99), (54, 99), (58, 99)]
theorem mdle_m_ends_m_goes {r k : Nat} (h : md_m_ends r k = false) : md_m_goes r k = false := mdf_le (by decide +kernel) h
set_option maxHeartbeats 4000000 in
set_option maxRecDepth 100000 in
theorem lt_m_ends_b (l : Launch) (D : va_G) (cI cZ cS cR : ClassId) (N0 : NT) (g : GS) (h : Nat) (r_h : g.1 h = 8) {p : Program} {e : Env} {s : State} {m : MethodId} {args : Array Value} {below : List Frame} {meth : Method} {c : Code} (hB : Tz p s m meth c args cX7_ends 3 RX7 D cI cZ cS cR N0) (hr : meth.sig.returnType = none) (sv : Int32) (l_sv : 0 ≤ sv.toInt) (u_sv : sv.toInt ≤ 5) (K : ∀ (g1 : GS)   (H : Heap) (locs : List Loc) (ls : Array Slot), Tv D cI cZ cS cR N0 s.heap H locs g1 → Inv g1 → Ex g g1 → Sm md_m_ends g g1 → lv_has ls 3 [(1, .int sv), (0, .ref h)] → W p l e (rmx 2 0 0) s m args below meth c H locs 0 0 (MQ below (tQ D cI cZ cS cR N0 (fun v g' => v = none ∧ Inv g' ∧ Ex g g' ∧ Sm md_m_ends g g')) args s 0 0 (fun q => N0.1 ≤ q)) (F0 m 66 ls [])) : ∀ (kf : Nat) (g1 : GS) (i : Int32) (w : Int32) (kp : Nat) (H : Heap) (locs : List Loc) (ls : Array Slot), Tv D cI cZ cS cR N0 s.heap H locs g1 → Inv g1 → Ex g g1 → Sm md_m_ends g g1 → 0 ≤ i.toInt → i.toInt ≤ 192 → 0 ≤ w.toInt → w.toInt ≤ 1 → g1.1 kp = 54 → g1.2.2.1 kp = 12 → g1.2.1 h 21 = .int w → g1.2.1 h 9 = .ref kp → (∀ q : Int32, q.toInt = 6 * w.toInt + sv.toInt → 16 * q.toInt ≤ i.toInt ∧ 16 * q.toInt + (g1.2.2.2.1 kp q.toNatClampNeg).toInt ≤ i.toInt + kf) → (i.toInt ≤ 192) → lv_has ls 3 [(2, .int i), (1, .int sv), (0, .ref h)] → W p l e (rmx 2 0 0) s m args below meth c H locs 0 0 (MQ below (tQ D cI cZ cS cR N0 (fun v g' => v = none ∧ Inv g' ∧ Ex g g' ∧ Sm md_m_ends g g')) args s 0 0 (fun q => N0.1 ≤ q)) (F0 m 19 ls []) := by
  have hx := hB.1
  have hb := hB.2.1
  intro kf
  induction kf using Nat.strongRecOn with
  | ind kf ih =>
    intro g1 i w kp H locs ls hT hI hE hM l_i u_i l_w u_w r1_kp n1_kp kp0 kp1 hf hk hl
    have r_1 : g1.1 h = 8 := Ex.r hE r_h (by decide)
    refine lv_iload_n hx hb dX7_ends_19 rfl (lv_at hl 0 rfl) ?_
    refine lv_bipush (v := 16) hx hb dX7_ends_20 (by decide) ?_
    refine lv_aload_n hx hb dX7_ends_22 rfl (lv_at hl 2 rfl) ?_
    refine lv_iload_n hx hb dX7_ends_23 rfl (lv_at hl 1 rfl) ?_
    refine t_callV (n := 1) (As := [.int sv]) (rest := [.int 16, .int i]) (ci := 7) hB hT hl.1 (m_base l D cI cZ cS cR N0 g1 hI h sv w r_1 kp0 (by omega) (by omega) (by omega) (by omega)) (ro_ci r_1 rfl) rfl k_1043 k_65 k_1040 k_1042 k_34 (by decide +kernel) ⟨(Nat.le_of_ble_eq_true rfl), (Nat.le_of_ble_eq_true rfl)⟩ rfl (Nat.le_of_ble_eq_true rfl) ⟨(Nat.le_of_ble_eq_true rfl), (Nat.le_of_ble_eq_true rfl)⟩ dX7_ends_24 (fun v g_2 H locs hp hT => ?_)
    obtain ⟨r_3, rfl, eg, f_4, f_5⟩ := hp
    rw [eg] at hT
    clear eg
    refine W.eq (g2 := F0 m 27 ls [.int r_3, .int 16, .int i]) rfl ?_
    refine lv_imul hx hb dX7_ends_27 ?_
    refine lv_topi (fun z_8 ez_8 => ?_)
    have e_z_8 : z_8.toInt = 16 * r_3.toInt := i_mul ez_8 (by decide) rfl (by omega) (by omega)
    refine lv_aload_n hx hb dX7_ends_28 rfl (lv_at hl 2 rfl) ?_
    refine t_get (ci := 7) (v := .ref kp) hB hT (ro_ci r_1 rfl) rfl 9 (by decide) k_754 kp1 dX7_ends_29 ?_
    refine lv_aload_n hx hb dX7_ends_32 rfl (lv_at hl 2 rfl) ?_
    refine lv_iload_n hx hb dX7_ends_33 rfl (lv_at hl 1 rfl) ?_
    refine t_callV (n := 1) (As := [.int sv]) (rest := [.ref kp, .int z_8, .int i]) (ci := 7) hB hT hl.1 (m_base l D cI cZ cS cR N0 g1 hI h sv w r_1 kp0 (by omega) (by omega) (by omega) (by omega)) (ro_ci r_1 rfl) rfl k_1043 k_65 k_1040 k_1042 k_34 (by decide +kernel) ⟨(Nat.le_of_ble_eq_true rfl), (Nat.le_of_ble_eq_true rfl)⟩ rfl (Nat.le_of_ble_eq_true rfl) ⟨(Nat.le_of_ble_eq_true rfl), (Nat.le_of_ble_eq_true rfl)⟩ dX7_ends_34 (fun v g_9 H locs hp hT => ?_)
    obtain ⟨r_10, rfl, eg, f_11, f_12⟩ := hp
    rw [eg] at hT
    clear eg
    refine W.eq (g2 := F0 m 37 ls [.int r_10, .ref kp, .int z_8, .int i]) rfl ?_
    have q_r_10 : r_10 = r_3 := f_11.trans f_4.symm
    refine W.eq (g2 := F0 m 37 ls [.int r_3, .ref kp, .int z_8, .int i]) (by rw [q_r_10]) ?_
    have i_u_15 : vp_in r_3 12 := (i_in (n := 12) rfl (by omega) (by omega))
    refine t_iald hB hT (ro_in r1_kp (by decide)) n1_kp i_u_15 rfl dX7_ends_37 ?_
    have c_u_15 := hI.c r1_kp n1_kp (i_cl i_u_15)
    refine lv_topi (fun u_15 e_u_15 => ?_)
    obtain ⟨l_u_15, u_u_15⟩ := c_u_15
    rw [← e_u_15] at l_u_15 u_u_15
    have hf1 := hf r_3 (by omega)
    rw [e_u_15.symm] at hf1
    refine lv_iadd hx hb dX7_ends_38 ?_
    refine lv_topi (fun z_16 ez_16 => ?_)
    have e_z_16 : z_16.toInt = z_8.toInt + u_15.toInt := i_add ez_16 rfl rfl (by omega) (by omega)
    refine lv_icmp_ge (tgt := 66) hx hb dX7_ends_39 (by decide) (fun c_17 => ?_) (fun c_17 => ?_)
    · have c_17' : z_16.toInt ≤ i.toInt := i_le c_17 rfl rfl
      exact K g1 H locs ls hT hI hE hM (lv_sub hl [1, 2] rfl)
    · have c_17' : i.toInt < z_16.toInt := i_nle c_17 rfl rfl
      refine lv_aload_n hx hb dX7_ends_42 rfl (lv_at hl 2 rfl) ?_
      refine lv_iload_n hx hb dX7_ends_43 rfl (lv_at hl 0 rfl) ?_
      refine lv_iload_n hx hb dX7_ends_44 rfl (lv_at hl 1 rfl) ?_
      refine t_callV (n := 2) (As := [.int i, .int sv]) (rest := []) (ci := 7) hB hT hl.1 (m_isOver l D cI cZ cS cR N0 g1 hI h i sv r_1 (by omega) (by omega) (by omega) (by omega)) (ro_ci r_1 rfl) rfl k_1015 k_65 k_1012 k_1014 k_29 (by decide +kernel) ⟨(Nat.le_of_ble_eq_true rfl), (Nat.le_of_ble_eq_true rfl)⟩ rfl (Nat.le_of_ble_eq_true rfl) ⟨(Nat.le_of_ble_eq_true rfl), (Nat.le_of_ble_eq_true rfl)⟩ dX7_ends_45 (fun v g_18 H locs hp hT => ?_)
      obtain ⟨r_19, rfl, eg, f_20⟩ := hp
      rw [eg] at hT
      clear eg
      refine W.eq (g2 := F0 m 48 ls [.int r_19]) rfl ?_
      rcases f_20 with rfl | rfl
      · refine W.eq (g2 := F0 m 48 ls [.int 1]) rfl ?_
        refine lv_if_eq (tgt := 60) hx hb dX7_ends_48 (by decide) (fun c_ => absurd c_ (by decide)) (fun c_ => ?_)
        refine lv_aload_n hx hb dX7_ends_51 rfl (lv_at hl 2 rfl) ?_
        refine lv_iload_n hx hb dX7_ends_52 rfl (lv_at hl 1 rfl) ?_
        refine lv_iload_n hx hb dX7_ends_53 rfl (lv_at hl 0 rfl) ?_
        refine t_callV (n := 2) (As := [.int sv, .int i]) (rest := []) (ci := 7) hB hT hl.1 (m_goes l D cI cZ cS cR N0 g1 hI h sv i w r_3 u_15 kp r_1 r1_kp n1_kp kp0 kp1 (by omega) (by omega) (by omega) (by omega) (by omega) (by omega) f_4 (by omega) e_u_15.symm (by omega) (by omega)) (ro_ci r_1 rfl) rfl k_1047 k_65 k_1044 k_1046 k_35 (by decide +kernel) ⟨(Nat.le_of_ble_eq_true rfl), (Nat.le_of_ble_eq_true rfl)⟩ rfl (Nat.le_of_ble_eq_true rfl) ⟨(Nat.le_of_ble_eq_true rfl), (Nat.le_of_ble_eq_true rfl)⟩ dX7_ends_54 (fun v g_23 H locs hp hT => ?_)
        obtain ⟨v2_24, rfl, hI, x_28, m_27, f_25, f_26⟩ := hp
        have hM : Sm md_m_ends g g_23 := hM.tr hE (m_27.mo (fun r k h => mdle_m_ends_m_goes h))
        have hE : Ex g g_23 := hE.tr x_28
        have r_29 : g_23.1 h = 8 := (Ex.r x_28 r_1 (by decide))
        have r_30 : g_23.1 kp = 54 := (Ex.r x_28 r1_kp (by decide))
        have n_31 : g_23.2.2.1 kp = 12 := (Ex.n x_28 r1_kp (by decide) n1_kp)
        have kn_32 : g_23.2.1 h 21 = .int w := (Sm.v m_27 r_1 (by decide) rfl kp0)
        have kn_33 : g_23.2.1 h 9 = .ref kp := (Sm.v m_27 r_1 (by decide) rfl kp1)
        refine W.eq (g2 := F0 m 57 ls []) rfl ?_
        refine lv_goto (tgt := 19) hx hb dX7_ends_57 (by decide) ?_
        exact ih (kf - 1) (by omega) g_23 i w kp H locs ls hT hI hE hM (by omega) (by omega) (by omega) (by omega) r_30 n_31 kn_32 kn_33 (fun q hq => by have e1_ : q = r_3 := i_inj (by omega); rw [e1_, f_25]; omega) (by have e0_ : (0 : Int32).toInt = 0 := (by decide); omega) (lv_sub hl [0, 1, 2] rfl)
      · refine W.eq (g2 := F0 m 48 ls [.int 0]) rfl ?_
        refine lv_if_eq (tgt := 60) hx hb dX7_ends_48 (by decide) (fun c_ => ?_) (fun c_ => absurd (by decide) c_)
        obtain ⟨z_34, ez_34⟩ : ∃ z : Int32, z = i + 1 := ⟨_, rfl⟩
        have e_z_34 : z_34.toInt = i.toInt + 1 := i_add ez_34 rfl (by decide) (by omega) (by omega)
        refine lv_iinc (v := z_34) (lv' := [(2, .int z_34), (1, .int sv), (0, .ref h)]) hx hb dX7_ends_60 hl (k := 0) rfl (by rw [ez_34]; rfl) (by decide) rfl (fun ls hl => ?_)
        refine lv_goto (tgt := 19) hx hb dX7_ends_63 (by decide) ?_
        exact ih (kf - 1) (by omega) g1 z_34 w kp H locs ls hT hI hE hM (by omega) (by omega) (by omega) (by omega) r1_kp n1_kp kp0 kp1 (fun q hq => by have e1_ : q = r_3 := i_inj (by omega); rw [e1_, e_u_15.symm]; omega) (by have e0_ : (0 : Int32).toInt = 0 := (by decide); omega) (lv_sub hl [0, 1, 2] rfl)
set_option maxHeartbeats 4000000 in
set_option maxRecDepth 100000 in
theorem lt_m_ends_a (l : Launch) (D : va_G) (cI cZ cS cR : ClassId) (N0 : NT) (g : GS) (h : Nat) (r_h : g.1 h = 8) {p : Program} {e : Env} {s : State} {m : MethodId} {args : Array Value} {below : List Frame} {meth : Method} {c : Code} (hB : Tz p s m meth c args cX7_ends 3 RX7 D cI cZ cS cR N0) (hr : meth.sig.returnType = none)    : ∀ (kf : Nat) (g1 : GS) (sv : Int32)  (H : Heap) (locs : List Loc) (ls : Array Slot), Tv D cI cZ cS cR N0 s.heap H locs g1 → Inv g1 → Ex g g1 → Sm md_m_ends g g1 → 0 ≤ sv.toInt → sv.toInt ≤ 6 → (6 ≤ sv.toInt + kf) → lv_has ls 3 [(1, .int sv), (0, .ref h)] → W p l e (rmx 2 0 0) s m args below meth c H locs 0 0 (MQ below (tQ D cI cZ cS cR N0 (fun v g' => v = none ∧ Inv g' ∧ Ex g g' ∧ Sm md_m_ends g g')) args s 0 0 (fun q => N0.1 ≤ q)) (F0 m 2 ls []) := by
  have hx := hB.1
  have hb := hB.2.1
  intro kf
  induction kf using Nat.strongRecOn with
  | ind kf ih =>
    intro g1 sv H locs ls hT hI hE hM l_sv u_sv hk hl
    have r_1 : g1.1 h = 8 := Ex.r hE r_h (by decide)
    refine lv_iload_n hx hb dX7_ends_2 rfl (lv_at hl 0 rfl) ?_
    refine lv_aload_n hx hb dX7_ends_3 rfl (lv_at hl 1 rfl) ?_
    obtain ⟨v_2, e_v_2, l_v_2, u_v_2⟩ := f_8_0 hI r_1
    refine t_get (ci := 7) (v := .int v_2) hB hT (ro_ci r_1 rfl) rfl 0 (by decide) k_745 e_v_2 dX7_ends_4 ?_
    refine lv_icmp_ge (tgt := 72) hx hb dX7_ends_7 (by decide) (fun c_3 => ?_) (fun c_3 => ?_)
    · have c_3' : v_2.toInt ≤ sv.toInt := i_le c_3 rfl rfl
      exact t_vret hB hr hT (Nat.le_of_ble_eq_true rfl) (Nat.le_of_ble_eq_true rfl) dX7_ends_72 ⟨rfl, hI, hE, hM⟩
    · have c_3' : sv.toInt < v_2.toInt := i_nle c_3 rfl rfl
      refine lv_bipush (v := 16) hx hb dX7_ends_10 (by decide) ?_
      refine lv_aload_n hx hb dX7_ends_12 rfl (lv_at hl 1 rfl) ?_
      refine lv_iload_n hx hb dX7_ends_13 rfl (lv_at hl 0 rfl) ?_
      obtain ⟨v_4, e_v_4, l_v_4, u_v_4⟩ := f_8_21 hI r_1
      refine t_callV (n := 1) (As := [.int sv]) (rest := [.int 16]) (ci := 7) hB hT hl.1 (m_base l D cI cZ cS cR N0 g1 hI h sv v_4 r_1 e_v_4 (by omega) (by omega) (by omega) (by omega)) (ro_ci r_1 rfl) rfl k_1043 k_65 k_1040 k_1042 k_34 (by decide +kernel) ⟨(Nat.le_of_ble_eq_true rfl), (Nat.le_of_ble_eq_true rfl)⟩ rfl (Nat.le_of_ble_eq_true rfl) ⟨(Nat.le_of_ble_eq_true rfl), (Nat.le_of_ble_eq_true rfl)⟩ dX7_ends_14 (fun v g_5 H locs hp hT => ?_)
      obtain ⟨r_6, rfl, eg, f_7, f_8⟩ := hp
      rw [eg] at hT
      clear eg
      refine W.eq (g2 := F0 m 17 ls [.int r_6, .int 16]) rfl ?_
      refine lv_imul hx hb dX7_ends_17 ?_
      refine lv_topi (fun z_11 ez_11 => ?_)
      have e_z_11 : z_11.toInt = 16 * r_6.toInt := i_mul ez_11 (by decide) rfl (by omega) (by omega)
      refine lv_istore_n (lv' := [(2, .int z_11), (1, .int sv), (0, .ref h)]) hx hb dX7_ends_18 rfl hl (by decide) rfl (fun ls hl => ?_)
      obtain ⟨v_13, e_v_13, r_v_13, n_v_13⟩ := f_8_9 hI r_1
      refine lt_m_ends_b l D cI cZ cS cR N0 g h r_h hB hr sv (by omega) (by omega) (fun g1_b_12 H locs ls hT hI hE hM hl => ?_) 16 g1 z_11 v_4 v_13 H locs ls hT hI hE hM (by omega) (by omega) (by omega) (by omega) r_v_13 n_v_13 e_v_4 e_v_13 (fun q hq => by obtain ⟨hc1_, hc2_⟩ := hI.c r_v_13 n_v_13 (i_cl (i_in (x := q) (n := 12) rfl (by omega) (by omega))); omega) (by have e0_ : (0 : Int32).toInt = 0 := (by decide); omega) (lv_sub hl [0, 1, 2] rfl)
      have r_14 : g1_b_12.1 h = 8 := Ex.r hE r_h (by decide)
      obtain ⟨z_15, ez_15⟩ : ∃ z : Int32, z = sv + 1 := ⟨_, rfl⟩
      have e_z_15 : z_15.toInt = sv.toInt + 1 := i_add ez_15 rfl (by decide) (by omega) (by omega)
      refine lv_iinc (v := z_15) (lv' := [(1, .int z_15), (0, .ref h)]) hx hb dX7_ends_66 hl (k := 0) rfl (by rw [ez_15]; rfl) (by decide) rfl (fun ls hl => ?_)
      refine lv_goto (tgt := 2) hx hb dX7_ends_69 (by decide) ?_
      exact ih (kf - 1) (by omega) g1_b_12 z_15 H locs ls hT hI hE hM (by omega) (by omega) (by have e0_ : (0 : Int32).toInt = 0 := (by decide); omega) (lv_sub hl [0, 1] rfl)
set_option maxHeartbeats 4000000 in
set_option maxRecDepth 100000 in
theorem m_ends (l : Launch) (D : va_G) (cI cZ cS cR : ClassId) (N0 : NT) (g : GS) (hI : Inv g) (h : Nat) (r_h : g.1 h = 8) : Ty l D cI cZ cS cR N0 yX7_ends cX7_ends 3 none 2 0 0 [.ref h] g (fun v g' => v = none ∧ Inv g' ∧ Ex g g' ∧ Sm md_m_ends g g') := by
  refine t_enter (by decide) (Nat.le_of_ble_eq_true rfl) ?_
  intro p e s m args below meth c ls H locs hB hr hin hl hT
  have hx := hB.1
  have hb := hB.2.1
  have hl : lv_has ls 3 [(0, .ref h)] := hl
  have hE : Ex g g := Ex.rf
  have hM : Sm md_m_ends g g := Sm.rf
  refine lv_iconst (v := 0) hx hb dX7_ends_0 (by decide) ?_
  refine lv_istore_n (lv' := [(1, .int 0), (0, .ref h)]) hx hb dX7_ends_1 rfl hl (by decide) rfl (fun ls hl => ?_)
  exact lt_m_ends_a l D cI cZ cS cR N0 g h r_h hB hr   6 g (0 : Int32) H locs ls hT hI hE hM (by decide) (by decide) (by have e0_ : (0 : Int32).toInt = 0 := (by decide); omega) (lv_sub hl [0, 1] rfl)
