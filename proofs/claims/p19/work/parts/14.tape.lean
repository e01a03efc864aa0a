theorem k_1 : Cond.selects RX4 yX4_readAct yX4_readAct ∈ tb := mt 1 (by decide +kernel) rfl
theorem k_2 : Cond.selects RX4 yX4_readWord yX4_readWord ∈ tb := mt 2 (by decide +kernel) rfl
theorem k_4 : Cond.selects RX4 yX4_readDigit yX4_readDigit ∈ tb := mt 4 (by decide +kernel) rfl
theorem k_5 : Cond.selects RX4 yX4_pass yX4_pass ∈ tb := mt 5 (by decide +kernel) rfl
theorem k_6 : Cond.selects RX4 yX4_readValue yX4_readValue ∈ tb := mt 6 (by decide +kernel) rfl
theorem k_57 : Cond.initialized RX6 ∈ tb := mt 57 (by decide +kernel) rfl
theorem k_241 : Cond.static Lib.Math.max.name ∈ tb := mt 241 (by decide +kernel) rfl
set_option maxRecDepth 20000 in
theorem k_242 : Cond.code Lib.Math.max.name Lib.Math.max.code 2 (some .int) ∈ tb := mt 242 rfl rfl
theorem k_338 : Cond.constantLong RX4 25 255 ∈ tb := mt 338 (by decide +kernel) rfl
theorem k_353 : Cond.methodLink RX4 34 yX4_readAct ∈ tb := mt 353 (by decide +kernel) rfl
theorem k_355 : Cond.instanceMethod yX4_readAct ∈ tb := mt 355 (by decide +kernel) rfl
set_option maxRecDepth 20000 in
theorem k_356 : Cond.code yX4_readAct cX4_readAct 5 (some .boolean) ∈ tb := mt 356 rfl rfl
theorem k_357 : Cond.methodLink RX4 41 yX4_readWord ∈ tb := mt 357 (by decide +kernel) rfl
theorem k_359 : Cond.instanceMethod yX4_readWord ∈ tb := mt 359 (by decide +kernel) rfl
set_option maxRecDepth 20000 in
theorem k_360 : Cond.code yX4_readWord cX4_readWord 6 (some .int) ∈ tb := mt 360 rfl rfl
theorem k_361 : Cond.fieldLink RX4 56 "TwiceOnce$Tape" "WORD_BEGINS" "[I" ∈ tb := mt 361 (by decide +kernel) rfl
theorem k_368 : Cond.methodLink RX4 64 yJ0_charAt_5068e ∈ tb := mt 368 (by decide +kernel) rfl
theorem k_369 : Cond.instanceMethod yJ0_charAt_5068e ∈ tb := mt 369 (by decide +kernel) rfl
theorem k_370 : Cond.selects RJ0 yJ0_charAt_5068e yJ0_charAt_5068e ∈ tb := mt 370 (by decide +kernel) rfl
set_option maxRecDepth 20000 in
theorem k_371 : Cond.code yJ0_charAt_5068e cJ0_charAt_5068e 2 (some .char) ∈ tb := mt 371 rfl rfl
theorem k_408 : Cond.methodLink RX4 70 Lib.Math.max.name ∈ tb := mt 408 (by decide +kernel) rfl
theorem k_409 : Cond.methodLink RX4 45 yX4_readDigit ∈ tb := mt 409 (by decide +kernel) rfl
theorem k_411 : Cond.instanceMethod yX4_readDigit ∈ tb := mt 411 (by decide +kernel) rfl
set_option maxRecDepth 20000 in
theorem k_412 : Cond.code yX4_readDigit cX4_readDigit 3 (some .int) ∈ tb := mt 412 rfl rfl
theorem k_414 : Cond.static yX6_within ∈ tb := mt 414 (by decide +kernel) rfl
set_option maxRecDepth 20000 in
theorem k_415 : Cond.code yX6_within cX6_within 2 (some .boolean) ∈ tb := mt 415 rfl rfl
theorem k_416 : Cond.methodLink RX4 37 yX4_pass ∈ tb := mt 416 (by decide +kernel) rfl
theorem k_418 : Cond.instanceMethod yX4_pass ∈ tb := mt 418 (by decide +kernel) rfl
set_option maxRecDepth 20000 in
theorem k_419 : Cond.code yX4_pass cX4_pass 2 (some .boolean) ∈ tb := mt 419 rfl rfl
theorem k_420 : Cond.methodLink RX4 49 yX4_readValue ∈ tb := mt 420 (by decide +kernel) rfl
theorem k_422 : Cond.instanceMethod yX4_readValue ∈ tb := mt 422 (by decide +kernel) rfl
set_option maxRecDepth 20000 in
theorem k_423 : Cond.code yX4_readValue cX4_readValue 4 (some .int) ∈ tb := mt 423 rfl rfl
theorem k_424 : Cond.methodLink RX4 52 yX2_append ∈ tb := mt 424 (by decide +kernel) rfl
theorem k_425 : Cond.instanceMethod yX2_append ∈ tb := mt 425 (by decide +kernel) rfl
theorem k_426 : Cond.selects RX2 yX2_append yX2_append ∈ tb := mt 426 (by decide +kernel) rfl
set_option maxRecDepth 20000 in
theorem k_427 : Cond.code yX2_append cX2_append 4 none ∈ tb := mt 427 rfl rfl
theorem dX4_append_5 : decode cX4_append 5 = .ok (.iload 4, 2) := by decide +kernel
theorem dX4_append_7 : decode cX4_append 7 = .ok (.ifCond .lt 49, 3) := by decide +kernel
theorem dX4_append_56 : decode cX4_append 56 = .ok (.return_, 1) := by decide +kernel
theorem dX4_append_10 : decode cX4_append 10 = .ok (.aload_n 0, 1) := by decide +kernel
theorem dX4_append_11 : decode cX4_append 11 = .ok (.getfield 15, 3) := by decide +kernel
theorem dX4_append_14 : decode cX4_append 14 = .ok (.bipush 100, 2) := by decide +kernel
theorem dX4_append_16 : decode cX4_append 16 = .ok (.if_icmp .ge 40, 3) := by decide +kernel
theorem dX4_append_19 : decode cX4_append 19 = .ok (.aload_n 0, 1) := by decide +kernel
theorem dX4_append_20 : decode cX4_append 20 = .ok (.getfield 9, 3) := by decide +kernel
theorem dX4_append_23 : decode cX4_append 23 = .ok (.aload_n 0, 1) := by decide +kernel
theorem dX4_append_24 : decode cX4_append 24 = .ok (.getfield 15, 3) := by decide +kernel
theorem dX4_append_27 : decode cX4_append 27 = .ok (.lload_n 1, 1) := by decide +kernel
theorem dX4_append_28 : decode cX4_append 28 = .ok (.bipush 8, 2) := by decide +kernel
theorem dX4_append_30 : decode cX4_append 30 = .ok (.iload 4, 2) := by decide +kernel
theorem dX4_append_32 : decode cX4_append 32 = .ok (.imul, 1) := by decide +kernel
theorem dX4_append_33 : decode cX4_append 33 = .ok (.lushr, 1) := by decide +kernel
theorem dX4_append_34 : decode cX4_append 34 = .ok (.ldc2_w 25, 3) := by decide +kernel
theorem dX4_append_37 : decode cX4_append 37 = .ok (.land, 1) := by decide +kernel
theorem dX4_append_38 : decode cX4_append 38 = .ok (.l2i, 1) := by decide +kernel
theorem dX4_append_39 : decode cX4_append 39 = .ok (.iastore, 1) := by decide +kernel
theorem dX4_append_40 : decode cX4_append 40 = .ok (.aload_n 0, 1) := by decide +kernel
theorem dX4_append_41 : decode cX4_append 41 = .ok (.dup, 1) := by decide +kernel
theorem dX4_append_42 : decode cX4_append 42 = .ok (.getfield 15, 3) := by decide +kernel
theorem dX4_append_45 : decode cX4_append 45 = .ok (.iconst 1, 1) := by decide +kernel
theorem dX4_append_46 : decode cX4_append 46 = .ok (.iadd, 1) := by decide +kernel
theorem dX4_append_47 : decode cX4_append 47 = .ok (.putfield 15, 3) := by decide +kernel
theorem dX4_append_50 : decode cX4_append 50 = .ok (.iinc 4 (-1), 3) := by decide +kernel
theorem dX4_append_53 : decode cX4_append 53 = .ok (.goto (-48), 3) := by decide +kernel
theorem dX4_append_0 : decode cX4_append 0 = .ok (.iload_n 3, 1) := by decide +kernel
theorem dX4_append_1 : decode cX4_append 1 = .ok (.iconst 1, 1) := by decide +kernel
theorem dX4_append_2 : decode cX4_append 2 = .ok (.isub, 1) := by decide +kernel
theorem dX4_append_3 : decode cX4_append 3 = .ok (.istore 4, 2) := by decide +kernel
theorem dX4_readDigit_0 : decode cX4_readDigit 0 = .ok (.aload_n 0, 1) := by decide +kernel
theorem dX4_readDigit_1 : decode cX4_readDigit 1 = .ok (.aload_n 0, 1) := by decide +kernel
theorem dX4_readDigit_2 : decode cX4_readDigit 2 = .ok (.getfield 22, 3) := by decide +kernel
theorem dX4_readDigit_5 : decode cX4_readDigit 5 = .ok (.invokevirtual 59, 3) := by decide +kernel
theorem dX4_readDigit_8 : decode cX4_readDigit 8 = .ok (.bipush 48, 2) := by decide +kernel
theorem dX4_readDigit_10 : decode cX4_readDigit 10 = .ok (.isub, 1) := by decide +kernel
theorem dX4_readDigit_11 : decode cX4_readDigit 11 = .ok (.istore_n 2, 1) := by decide +kernel
theorem dX4_readDigit_12 : decode cX4_readDigit 12 = .ok (.iload_n 2, 1) := by decide +kernel
theorem dX4_readDigit_13 : decode cX4_readDigit 13 = .ok (.iload_n 1, 1) := by decide +kernel
theorem dX4_readDigit_14 : decode cX4_readDigit 14 = .ok (.invokestatic 76, 3) := by decide +kernel
theorem dX4_readDigit_17 : decode cX4_readDigit 17 = .ok (.ifCond .ne 5, 3) := by decide +kernel
theorem dX4_readDigit_22 : decode cX4_readDigit 22 = .ok (.aload_n 0, 1) := by decide +kernel
theorem dX4_readDigit_23 : decode cX4_readDigit 23 = .ok (.dup, 1) := by decide +kernel
theorem dX4_readDigit_24 : decode cX4_readDigit 24 = .ok (.getfield 22, 3) := by decide +kernel
theorem dX4_readDigit_27 : decode cX4_readDigit 27 = .ok (.iconst 1, 1) := by decide +kernel
theorem dX4_readDigit_28 : decode cX4_readDigit 28 = .ok (.iadd, 1) := by decide +kernel
theorem dX4_readDigit_29 : decode cX4_readDigit 29 = .ok (.putfield 22, 3) := by decide +kernel
theorem dX4_readDigit_32 : decode cX4_readDigit 32 = .ok (.iload_n 2, 1) := by decide +kernel
theorem dX4_readDigit_33 : decode cX4_readDigit 33 = .ok (.ireturn, 1) := by decide +kernel
theorem dX4_readDigit_20 : decode cX4_readDigit 20 = .ok (.iconst (-1), 1) := by decide +kernel
theorem dX4_readDigit_21 : decode cX4_readDigit 21 = .ok (.ireturn, 1) := by decide +kernel
theorem dX4_readValue_35 : decode cX4_readValue 35 = .ok (.iload_n 1, 1) := by decide +kernel
theorem dX4_readValue_36 : decode cX4_readValue 36 = .ok (.iconst (-1), 1) := by decide +kernel
theorem dX4_readValue_37 : decode cX4_readValue 37 = .ok (.if_icmp .eq 36, 3) := by decide +kernel
theorem dX4_readValue_73 : decode cX4_readValue 73 = .ok (.iload_n 1, 1) := by decide +kernel
theorem dX4_readValue_74 : decode cX4_readValue 74 = .ok (.ireturn, 1) := by decide +kernel
theorem dX4_readValue_40 : decode cX4_readValue 40 = .ok (.iload_n 2, 1) := by decide +kernel
theorem dX4_readValue_41 : decode cX4_readValue 41 = .ok (.iconst 2, 1) := by decide +kernel
theorem dX4_readValue_42 : decode cX4_readValue 42 = .ok (.if_icmp .ge 31, 3) := by decide +kernel
theorem dX4_readValue_45 : decode cX4_readValue 45 = .ok (.aload_n 0, 1) := by decide +kernel
theorem dX4_readValue_46 : decode cX4_readValue 46 = .ok (.bipush 9, 2) := by decide +kernel
theorem dX4_readValue_48 : decode cX4_readValue 48 = .ok (.invokevirtual 45, 3) := by decide +kernel
theorem dX4_readValue_51 : decode cX4_readValue 51 = .ok (.istore_n 3, 1) := by decide +kernel
theorem dX4_readValue_52 : decode cX4_readValue 52 = .ok (.iload_n 3, 1) := by decide +kernel
theorem dX4_readValue_53 : decode cX4_readValue 53 = .ok (.iconst (-1), 1) := by decide +kernel
theorem dX4_readValue_54 : decode cX4_readValue 54 = .ok (.if_icmp .ne 6, 3) := by decide +kernel
theorem dX4_readValue_57 : decode cX4_readValue 57 = .ok (.goto 16, 3) := by decide +kernel
theorem dX4_readValue_60 : decode cX4_readValue 60 = .ok (.iload_n 1, 1) := by decide +kernel
theorem dX4_readValue_61 : decode cX4_readValue 61 = .ok (.bipush 10, 2) := by decide +kernel
theorem dX4_readValue_63 : decode cX4_readValue 63 = .ok (.imul, 1) := by decide +kernel
theorem dX4_readValue_64 : decode cX4_readValue 64 = .ok (.iload_n 3, 1) := by decide +kernel
theorem dX4_readValue_65 : decode cX4_readValue 65 = .ok (.iadd, 1) := by decide +kernel
theorem dX4_readValue_66 : decode cX4_readValue 66 = .ok (.istore_n 1, 1) := by decide +kernel
theorem dX4_readValue_67 : decode cX4_readValue 67 = .ok (.iinc 2 1, 3) := by decide +kernel
theorem dX4_readValue_70 : decode cX4_readValue 70 = .ok (.goto (-35), 3) := by decide +kernel
theorem dX4_readValue_0 : decode cX4_readValue 0 = .ok (.aload_n 0, 1) := by decide +kernel
theorem dX4_readValue_1 : decode cX4_readValue 1 = .ok (.bipush 120, 2) := by decide +kernel
theorem dX4_readValue_3 : decode cX4_readValue 3 = .ok (.invokevirtual 37, 3) := by decide +kernel
theorem dX4_readValue_6 : decode cX4_readValue 6 = .ok (.ifCond .eq 7, 3) := by decide +kernel
theorem dX4_readValue_9 : decode cX4_readValue 9 = .ok (.sipush 1000, 3) := by decide +kernel
theorem dX4_readValue_12 : decode cX4_readValue 12 = .ok (.ireturn, 1) := by decide +kernel
theorem dX4_readValue_13 : decode cX4_readValue 13 = .ok (.aload_n 0, 1) := by decide +kernel
theorem dX4_readValue_14 : decode cX4_readValue 14 = .ok (.bipush 114, 2) := by decide +kernel
theorem dX4_readValue_16 : decode cX4_readValue 16 = .ok (.invokevirtual 37, 3) := by decide +kernel
theorem dX4_readValue_19 : decode cX4_readValue 19 = .ok (.ifCond .eq 7, 3) := by decide +kernel
theorem dX4_readValue_22 : decode cX4_readValue 22 = .ok (.sipush 1001, 3) := by decide +kernel
theorem dX4_readValue_25 : decode cX4_readValue 25 = .ok (.ireturn, 1) := by decide +kernel
theorem dX4_readValue_26 : decode cX4_readValue 26 = .ok (.aload_n 0, 1) := by decide +kernel
theorem dX4_readValue_27 : decode cX4_readValue 27 = .ok (.bipush 9, 2) := by decide +kernel
theorem dX4_readValue_29 : decode cX4_readValue 29 = .ok (.invokevirtual 45, 3) := by decide +kernel
theorem dX4_readValue_32 : decode cX4_readValue 32 = .ok (.istore_n 1, 1) := by decide +kernel
theorem dX4_readValue_33 : decode cX4_readValue 33 = .ok (.iconst 0, 1) := by decide +kernel
theorem dX4_readValue_34 : decode cX4_readValue 34 = .ok (.istore_n 2, 1) := by decide +kernel
theorem dX4_readWord_30 : decode cX4_readWord 30 = .ok (.iload 5, 2) := by decide +kernel
theorem dX4_readWord_32 : decode cX4_readWord 32 = .ok (.iload 4, 2) := by decide +kernel
theorem dX4_readWord_34 : decode cX4_readWord 34 = .ok (.if_icmp .ge 32, 3) := by decide +kernel
theorem dX4_readWord_37 : decode cX4_readWord 37 = .ok (.aload_n 0, 1) := by decide +kernel
theorem dX4_readWord_38 : decode cX4_readWord 38 = .ok (.aload_n 0, 1) := by decide +kernel
theorem dX4_readWord_39 : decode cX4_readWord 39 = .ok (.getfield 22, 3) := by decide +kernel
theorem dX4_readWord_42 : decode cX4_readWord 42 = .ok (.iload 5, 2) := by decide +kernel
theorem dX4_readWord_44 : decode cX4_readWord 44 = .ok (.iadd, 1) := by decide +kernel
theorem dX4_readWord_45 : decode cX4_readWord 45 = .ok (.invokevirtual 59, 3) := by decide +kernel
theorem dX4_readWord_48 : decode cX4_readWord 48 = .ok (.ldc 62, 2) := by decide +kernel
theorem dX4_readWord_50 : decode cX4_readWord 50 = .ok (.iload_n 3, 1) := by decide +kernel
theorem dX4_readWord_51 : decode cX4_readWord 51 = .ok (.iload 5, 2) := by decide +kernel
theorem dX4_readWord_53 : decode cX4_readWord 53 = .ok (.iadd, 1) := by decide +kernel
theorem dX4_readWord_54 : decode cX4_readWord 54 = .ok (.invokevirtual 64, 3) := by decide +kernel
theorem dX4_readWord_57 : decode cX4_readWord 57 = .ok (.if_icmp .ne 9, 3) := by decide +kernel
theorem dX4_readWord_60 : decode cX4_readWord 60 = .ok (.iinc 5 1, 3) := by decide +kernel
theorem dX4_readWord_63 : decode cX4_readWord 63 = .ok (.goto (-33), 3) := by decide +kernel
theorem dX4_readWord_4 : decode cX4_readWord 4 = .ok (.iload_n 2, 1) := by decide +kernel
theorem dX4_readWord_5 : decode cX4_readWord 5 = .ok (.bipush 8, 2) := by decide +kernel
theorem dX4_readWord_7 : decode cX4_readWord 7 = .ok (.if_icmp .ge 92, 3) := by decide +kernel
theorem dX4_readWord_99 : decode cX4_readWord 99 = .ok (.aload_n 0, 1) := by decide +kernel
theorem dX4_readWord_100 : decode cX4_readWord 100 = .ok (.dup, 1) := by decide +kernel
theorem dX4_readWord_101 : decode cX4_readWord 101 = .ok (.getfield 22, 3) := by decide +kernel
theorem dX4_readWord_104 : decode cX4_readWord 104 = .ok (.iload_n 1, 1) := by decide +kernel
theorem dX4_readWord_105 : decode cX4_readWord 105 = .ok (.iadd, 1) := by decide +kernel
theorem dX4_readWord_106 : decode cX4_readWord 106 = .ok (.putfield 22, 3) := by decide +kernel
theorem dX4_readWord_109 : decode cX4_readWord 109 = .ok (.iconst (-1), 1) := by decide +kernel
theorem dX4_readWord_110 : decode cX4_readWord 110 = .ok (.ireturn, 1) := by decide +kernel
theorem dX4_readWord_10 : decode cX4_readWord 10 = .ok (.getstatic 56, 3) := by decide +kernel
theorem dX4_readWord_13 : decode cX4_readWord 13 = .ok (.iload_n 2, 1) := by decide +kernel
theorem dX4_readWord_14 : decode cX4_readWord 14 = .ok (.iaload, 1) := by decide +kernel
theorem dX4_readWord_15 : decode cX4_readWord 15 = .ok (.istore_n 3, 1) := by decide +kernel
theorem dX4_readWord_16 : decode cX4_readWord 16 = .ok (.getstatic 56, 3) := by decide +kernel
theorem dX4_readWord_19 : decode cX4_readWord 19 = .ok (.iload_n 2, 1) := by decide +kernel
theorem dX4_readWord_20 : decode cX4_readWord 20 = .ok (.iconst 1, 1) := by decide +kernel
theorem dX4_readWord_21 : decode cX4_readWord 21 = .ok (.iadd, 1) := by decide +kernel
theorem dX4_readWord_22 : decode cX4_readWord 22 = .ok (.iaload, 1) := by decide +kernel
theorem dX4_readWord_23 : decode cX4_readWord 23 = .ok (.iload_n 3, 1) := by decide +kernel
theorem dX4_readWord_24 : decode cX4_readWord 24 = .ok (.isub, 1) := by decide +kernel
theorem dX4_readWord_25 : decode cX4_readWord 25 = .ok (.istore 4, 2) := by decide +kernel
theorem dX4_readWord_27 : decode cX4_readWord 27 = .ok (.iconst 0, 1) := by decide +kernel
theorem dX4_readWord_28 : decode cX4_readWord 28 = .ok (.istore 5, 2) := by decide +kernel
theorem dX4_readWord_66 : decode cX4_readWord 66 = .ok (.iload 5, 2) := by decide +kernel
theorem dX4_readWord_68 : decode cX4_readWord 68 = .ok (.iload 4, 2) := by decide +kernel
theorem dX4_readWord_70 : decode cX4_readWord 70 = .ok (.if_icmp .ne 16, 3) := by decide +kernel
theorem dX4_readWord_86 : decode cX4_readWord 86 = .ok (.iload_n 1, 1) := by decide +kernel
theorem dX4_readWord_87 : decode cX4_readWord 87 = .ok (.iload 5, 2) := by decide +kernel
theorem dX4_readWord_89 : decode cX4_readWord 89 = .ok (.invokestatic 70, 3) := by decide +kernel
theorem dX4_readWord_92 : decode cX4_readWord 92 = .ok (.istore_n 1, 1) := by decide +kernel
theorem dX4_readWord_93 : decode cX4_readWord 93 = .ok (.iinc 2 1, 3) := by decide +kernel
theorem dX4_readWord_96 : decode cX4_readWord 96 = .ok (.goto (-92), 3) := by decide +kernel
theorem dX4_readWord_73 : decode cX4_readWord 73 = .ok (.aload_n 0, 1) := by decide +kernel
theorem dX4_readWord_74 : decode cX4_readWord 74 = .ok (.dup, 1) := by decide +kernel
theorem dX4_readWord_75 : decode cX4_readWord 75 = .ok (.getfield 22, 3) := by decide +kernel
theorem dX4_readWord_78 : decode cX4_readWord 78 = .ok (.iload 4, 2) := by decide +kernel
theorem dX4_readWord_80 : decode cX4_readWord 80 = .ok (.iadd, 1) := by decide +kernel
theorem dX4_readWord_81 : decode cX4_readWord 81 = .ok (.putfield 22, 3) := by decide +kernel
theorem dX4_readWord_84 : decode cX4_readWord 84 = .ok (.iload_n 2, 1) := by decide +kernel
theorem dX4_readWord_85 : decode cX4_readWord 85 = .ok (.ireturn, 1) := by decide +kernel
theorem dX4_readWord_0 : decode cX4_readWord 0 = .ok (.iconst 0, 1) := by decide +kernel
theorem dX4_readWord_1 : decode cX4_readWord 1 = .ok (.istore_n 1, 1) := by decide +kernel
theorem dX4_readWord_2 : decode cX4_readWord 2 = .ok (.iconst 0, 1) := by decide +kernel
theorem dX4_readWord_3 : decode cX4_readWord 3 = .ok (.istore_n 2, 1) := by decide +kernel
theorem dX4_readAct_0 : decode cX4_readAct 0 = .ok (.aload_n 0, 1) := by decide +kernel
theorem dX4_readAct_1 : decode cX4_readAct 1 = .ok (.invokevirtual 41, 3) := by decide +kernel
theorem dX4_readAct_4 : decode cX4_readAct 4 = .ok (.istore_n 2, 1) := by decide +kernel
theorem dX4_readAct_5 : decode cX4_readAct 5 = .ok (.iload_n 2, 1) := by decide +kernel
theorem dX4_readAct_6 : decode cX4_readAct 6 = .ok (.iconst (-1), 1) := by decide +kernel
theorem dX4_readAct_7 : decode cX4_readAct 7 = .ok (.if_icmp .ne 5, 3) := by decide +kernel
theorem dX4_readAct_12 : decode cX4_readAct 12 = .ok (.iconst 0, 1) := by decide +kernel
theorem dX4_readAct_13 : decode cX4_readAct 13 = .ok (.istore_n 3, 1) := by decide +kernel
theorem dX4_readAct_14 : decode cX4_readAct 14 = .ok (.iload_n 2, 1) := by decide +kernel
theorem dX4_readAct_15 : decode cX4_readAct 15 = .ok (.bipush 6, 2) := by decide +kernel
theorem dX4_readAct_17 : decode cX4_readAct 17 = .ok (.if_icmp .eq 18, 3) := by decide +kernel
theorem dX4_readAct_35 : decode cX4_readAct 35 = .ok (.iload_n 3, 1) := by decide +kernel
theorem dX4_readAct_36 : decode cX4_readAct 36 = .ok (.iconst (-1), 1) := by decide +kernel
theorem dX4_readAct_37 : decode cX4_readAct 37 = .ok (.if_icmp .ne 5, 3) := by decide +kernel
theorem dX4_readAct_42 : decode cX4_readAct 42 = .ok (.iconst 0, 1) := by decide +kernel
theorem dX4_readAct_43 : decode cX4_readAct 43 = .ok (.istore 4, 2) := by decide +kernel
theorem dX4_readAct_45 : decode cX4_readAct 45 = .ok (.iload_n 2, 1) := by decide +kernel
theorem dX4_readAct_46 : decode cX4_readAct 46 = .ok (.iconst 3, 1) := by decide +kernel
theorem dX4_readAct_47 : decode cX4_readAct 47 = .ok (.if_icmp .eq 33, 3) := by decide +kernel
theorem dX4_readAct_50 : decode cX4_readAct 50 = .ok (.iload_n 2, 1) := by decide +kernel
theorem dX4_readAct_51 : decode cX4_readAct 51 = .ok (.iconst 4, 1) := by decide +kernel
theorem dX4_readAct_52 : decode cX4_readAct 52 = .ok (.if_icmp .eq 28, 3) := by decide +kernel
theorem dX4_readAct_55 : decode cX4_readAct 55 = .ok (.iload_n 2, 1) := by decide +kernel
theorem dX4_readAct_56 : decode cX4_readAct 56 = .ok (.bipush 6, 2) := by decide +kernel
theorem dX4_readAct_58 : decode cX4_readAct 58 = .ok (.if_icmp .eq 12, 3) := by decide +kernel
theorem dX4_readAct_70 : decode cX4_readAct 70 = .ok (.aload_n 0, 1) := by decide +kernel
theorem dX4_readAct_71 : decode cX4_readAct 71 = .ok (.invokevirtual 49, 3) := by decide +kernel
theorem dX4_readAct_74 : decode cX4_readAct 74 = .ok (.goto 4, 3) := by decide +kernel
theorem dX4_readAct_78 : decode cX4_readAct 78 = .ok (.istore 4, 2) := by decide +kernel
theorem dX4_readAct_80 : decode cX4_readAct 80 = .ok (.iload 4, 2) := by decide +kernel
theorem dX4_readAct_82 : decode cX4_readAct 82 = .ok (.iconst (-1), 1) := by decide +kernel
theorem dX4_readAct_83 : decode cX4_readAct 83 = .ok (.if_icmp .ne 5, 3) := by decide +kernel
theorem dX4_readAct_88 : decode cX4_readAct 88 = .ok (.aload_n 1, 1) := by decide +kernel
theorem dX4_readAct_89 : decode cX4_readAct 89 = .ok (.iload_n 2, 1) := by decide +kernel
theorem dX4_readAct_90 : decode cX4_readAct 90 = .ok (.iload_n 3, 1) := by decide +kernel
theorem dX4_readAct_91 : decode cX4_readAct 91 = .ok (.iload 4, 2) := by decide +kernel
theorem dX4_readAct_93 : decode cX4_readAct 93 = .ok (.invokevirtual 52, 3) := by decide +kernel
theorem dX4_readAct_96 : decode cX4_readAct 96 = .ok (.iconst 1, 1) := by decide +kernel
theorem dX4_readAct_97 : decode cX4_readAct 97 = .ok (.ireturn, 1) := by decide +kernel
theorem dX4_readAct_86 : decode cX4_readAct 86 = .ok (.iconst 0, 1) := by decide +kernel
theorem dX4_readAct_87 : decode cX4_readAct 87 = .ok (.ireturn, 1) := by decide +kernel
theorem dX4_readAct_20 : decode cX4_readAct 20 = .ok (.aload_n 0, 1) := by decide +kernel
theorem dX4_readAct_21 : decode cX4_readAct 21 = .ok (.iload_n 2, 1) := by decide +kernel
theorem dX4_readAct_22 : decode cX4_readAct 22 = .ok (.iconst 5, 1) := by decide +kernel
theorem dX4_readAct_23 : decode cX4_readAct 23 = .ok (.if_icmp .ne 7, 3) := by decide +kernel
theorem dX4_readAct_30 : decode cX4_readAct 30 = .ok (.iconst 3, 1) := by decide +kernel
theorem dX4_readAct_31 : decode cX4_readAct 31 = .ok (.invokevirtual 45, 3) := by decide +kernel
theorem dX4_readAct_34 : decode cX4_readAct 34 = .ok (.istore_n 3, 1) := by decide +kernel
theorem dX4_readAct_40 : decode cX4_readAct 40 = .ok (.iconst 0, 1) := by decide +kernel
theorem dX4_readAct_41 : decode cX4_readAct 41 = .ok (.ireturn, 1) := by decide +kernel
theorem dX4_readAct_61 : decode cX4_readAct 61 = .ok (.aload_n 0, 1) := by decide +kernel
theorem dX4_readAct_62 : decode cX4_readAct 62 = .ok (.bipush 32, 2) := by decide +kernel
theorem dX4_readAct_64 : decode cX4_readAct 64 = .ok (.invokevirtual 37, 3) := by decide +kernel
theorem dX4_readAct_67 : decode cX4_readAct 67 = .ok (.ifCond .eq 10, 3) := by decide +kernel
theorem dX4_readAct_77 : decode cX4_readAct 77 = .ok (.iconst (-1), 1) := by decide +kernel
theorem dX4_readAct_26 : decode cX4_readAct 26 = .ok (.iconst 5, 1) := by decide +kernel
theorem dX4_readAct_27 : decode cX4_readAct 27 = .ok (.goto 4, 3) := by decide +kernel
theorem dX4_readAct_10 : decode cX4_readAct 10 = .ok (.iconst 0, 1) := by decide +kernel
theorem dX4_readAct_11 : decode cX4_readAct 11 = .ok (.ireturn, 1) := by decide +kernel
theorem dX4_readActs_2 : decode cX4_readActs 2 = .ok (.iload_n 2, 1) := by decide +kernel
theorem dX4_readActs_3 : decode cX4_readActs 3 = .ok (.bipush 8, 2) := by decide +kernel
theorem dX4_readActs_5 : decode cX4_readActs 5 = .ok (.if_icmp .ge 37, 3) := by decide +kernel
theorem dX4_readActs_42 : decode cX4_readActs 42 = .ok (.iconst 1, 1) := by decide +kernel
theorem dX4_readActs_43 : decode cX4_readActs 43 = .ok (.ireturn, 1) := by decide +kernel
theorem dX4_readActs_8 : decode cX4_readActs 8 = .ok (.aload_n 0, 1) := by decide +kernel
theorem dX4_readActs_9 : decode cX4_readActs 9 = .ok (.aload_n 1, 1) := by decide +kernel
theorem dX4_readActs_10 : decode cX4_readActs 10 = .ok (.invokevirtual 34, 3) := by decide +kernel
theorem dX4_readActs_13 : decode cX4_readActs 13 = .ok (.ifCond .ne 5, 3) := by decide +kernel
theorem dX4_readActs_18 : decode cX4_readActs 18 = .ok (.iload_n 2, 1) := by decide +kernel
theorem dX4_readActs_19 : decode cX4_readActs 19 = .ok (.bipush 7, 2) := by decide +kernel
theorem dX4_readActs_21 : decode cX4_readActs 21 = .ok (.if_icmp .eq 21, 3) := by decide +kernel
theorem dX4_readActs_24 : decode cX4_readActs 24 = .ok (.aload_n 0, 1) := by decide +kernel
theorem dX4_readActs_25 : decode cX4_readActs 25 = .ok (.bipush 59, 2) := by decide +kernel
theorem dX4_readActs_27 : decode cX4_readActs 27 = .ok (.invokevirtual 37, 3) := by decide +kernel
theorem dX4_readActs_30 : decode cX4_readActs 30 = .ok (.ifCond .ne 6, 3) := by decide +kernel
theorem dX4_readActs_36 : decode cX4_readActs 36 = .ok (.iinc 2 1, 3) := by decide +kernel
theorem dX4_readActs_39 : decode cX4_readActs 39 = .ok (.goto (-37), 3) := by decide +kernel
theorem dX4_readActs_33 : decode cX4_readActs 33 = .ok (.goto 9, 3) := by decide +kernel
theorem dX4_readActs_16 : decode cX4_readActs 16 = .ok (.iconst 0, 1) := by decide +kernel
theorem dX4_readActs_17 : decode cX4_readActs 17 = .ok (.ireturn, 1) := by decide +kernel
theorem dX4_readActs_0 : decode cX4_readActs 0 = .ok (.iconst 0, 1) := by decide +kernel
theorem dX4_readActs_1 : decode cX4_readActs 1 = .ok (.istore_n 2, 1) := by decide +kernel
abbrev md_s_tappend : Nat → Nat → Bool := mdf [(5, 1), (67, 99)]
set_option maxHeartbeats 4000000 in
set_option maxRecDepth 100000 in
theorem lt_s_tappend_a (l : Launch) (D : va_G) (cI cZ cS cR : ClassId) (N0 : NT) (g : GS) (h : Nat) (w : Int64) (n : Int32) (r_h : g.1 h = 5) (l_n : 1 ≤ n.toInt) (u_n : n.toInt ≤ 8) {p : Program} {e : Env} {s : State} {m : MethodId} {args : Array Value} {below : List Frame} {meth : Method} {c : Code} (hB : Tz p s m meth c args cX4_append 5 RX4 D cI cZ cS cR N0) (hr : meth.sig.returnType = none)    : ∀ (kf : Nat) (g1 : GS) (i : Int32)  (H : Heap) (locs : List Loc) (ls : Array Slot), Tv D cI cZ cS cR N0 s.heap H locs g1 → Inv g1 → Ex g g1 → Sm md_s_tappend g g1 → (-1) ≤ i.toInt → i.toInt ≤ 7 → (i.toInt + 1 ≤ kf) → lv_has ls 5 [(4, .int i), (0, .ref h), (1, .long w), (3, .int n)] → W p l e (rmx 0 0 0) s m args below meth c H locs 0 0 (MQ below (tQ D cI cZ cS cR N0 (fun v g' => v = none ∧ Inv g' ∧ Ex g g' ∧ Sm md_s_tappend g g')) args s 0 0 (fun q => N0.1 ≤ q)) (F0 m 5 ls []) := by
  have hx := hB.1
  have hb := hB.2.1
  intro kf
  induction kf using Nat.strongRecOn with
  | ind kf ih =>
    intro g1 i H locs ls hT hI hE hM l_i u_i hk hl
    have r_1 : g1.1 h = 5 := Ex.r hE r_h (by decide)
    refine lv_iload hx hb dX4_append_5 (lv_at hl 0 rfl) ?_
    refine lv_if_lt (tgt := 56) hx hb dX4_append_7 (by decide) (fun c_2 => ?_) (fun c_2 => ?_)
    · have c_2' : i.toInt < 0 := i_lt c_2 rfl (by decide)
      exact t_vret hB hr hT (Nat.le_of_ble_eq_true rfl) (Nat.le_of_ble_eq_true rfl) dX4_append_56 ⟨rfl, hI, hE, hM⟩
    · have c_2' : 0 ≤ i.toInt := i_nlt c_2 rfl (by decide)
      refine lv_aload_n hx hb dX4_append_10 rfl (lv_at hl 1 rfl) ?_
      obtain ⟨v_3, e_v_3, l_v_3, u_v_3⟩ := f_5_1 hI r_1
      refine t_get (ci := 4) (v := .int v_3) hB hT (ro_ci r_1 rfl) rfl 1 (by decide) k_87 e_v_3 dX4_append_11 ?_
      refine lv_bipush (v := 100) hx hb dX4_append_14 (by decide) ?_
      refine lv_icmp_ge (tgt := 56) hx hb dX4_append_16 (by decide) (fun c_4 => ?_) (fun c_4 => ?_)
      · have c_4' : 100 ≤ v_3.toInt := i_le c_4 (by decide) rfl
        exact t_vret hB hr hT (Nat.le_of_ble_eq_true rfl) (Nat.le_of_ble_eq_true rfl) dX4_append_56 ⟨rfl, hI, hE, hM⟩
      · have c_4' : v_3.toInt < 100 := i_nle c_4 (by decide) rfl
        refine lv_aload_n hx hb dX4_append_19 rfl (lv_at hl 1 rfl) ?_
        obtain ⟨v_5, e_v_5, r_v_5, n_v_5⟩ := f_5_0 hI r_1
        refine t_get (ci := 4) (v := .ref v_5) hB hT (ro_ci r_1 rfl) rfl 0 (by decide) k_86 e_v_5 dX4_append_20 ?_
        refine lv_aload_n hx hb dX4_append_23 rfl (lv_at hl 1 rfl) ?_
        refine t_get (ci := 4) (v := .int v_3) hB hT (ro_ci r_1 rfl) rfl 1 (by decide) k_87 e_v_3 dX4_append_24 ?_
        refine lv_lload_n hx hb dX4_append_27 rfl (lv_at hl 2 rfl) ?_
        refine lv_bipush (v := 8) hx hb dX4_append_28 (by decide) ?_
        refine lv_iload hx hb dX4_append_30 (lv_at hl 0 rfl) ?_
        refine lv_imul hx hb dX4_append_32 ?_
        refine lv_topi (fun z_6 ez_6 => ?_)
        have e_z_6 : z_6.toInt = 8 * i.toInt := i_mul ez_6 (by decide) rfl (by omega) (by omega)
        refine lv_lushr hx hb dX4_append_33 rfl ?_
        refine lv_topl (fun z_7 ez_7 => ?_)
        refine lv_ldc2 (v := 255) hx hb hB.2.2.2.1 (hB.2.2.2.2.1 _ k_338) dX4_append_34 ?_
        refine lv_land hx hb dX4_append_37 ?_
        refine lv_topl (fun z_8 ez_8 => ?_)
        refine lv_l2i hx hb dX4_append_38 rfl ?_
        refine lv_topi (fun z_9 ez_9 => ?_)
        have i_10 : vp_in v_3 100 := (i_in (n := 100) rfl (by omega) (by omega))
        refine t_iast hB hT (ro_in r_v_5 (by decide)) n_v_5 i_10 dX4_append_39 (fun H locs hT => ?_)
        have hI : Inv (sC g1 v_5 v_3.toNatClampNeg z_9) := hI.sC (ck r_v_5 trivial)
        have hM : Sm md_s_tappend g (sC g1 v_5 v_3.toNatClampNeg z_9) := hM.tr hE (Sm_sC (by rw [r_v_5]; rfl))
        have hE : Ex g (sC g1 v_5 v_3.toNatClampNeg z_9) := hE
        refine lv_aload_n hx hb dX4_append_40 rfl (lv_at hl 1 rfl) ?_
        refine lv_dup hx hb dX4_append_41 rfl ?_
        refine t_get (ci := 4) (v := .int v_3) hB hT (ro_ci r_1 rfl) rfl 1 (by decide) k_87 e_v_3 dX4_append_42 ?_
        refine lv_iconst (v := 1) hx hb dX4_append_45 (by decide) ?_
        refine lv_iadd hx hb dX4_append_46 ?_
        refine lv_topi (fun z_11 ez_11 => ?_)
        have e_z_11 : z_11.toInt = v_3.toInt + 1 := i_add ez_11 rfl (by decide) (by omega) (by omega)
        refine t_put0 (ci := 4) (v := .int z_11) hB hT (ro_ci r_1 rfl) (ro_n0 r_1 (by decide)) rfl 1 (by decide) k_87 (Or.inl rfl) rfl rfl dX4_append_47 (fun H locs hT => ?_)
        have hI : Inv (sF (sC g1 v_5 v_3.toNatClampNeg z_9) h 1 (.int z_11)) := hI.sF (p_5_1 r_1 (⟨_, rfl, by omega, by omega⟩))
        have hM : Sm md_s_tappend g (sF (sC g1 v_5 v_3.toNatClampNeg z_9) h 1 (.int z_11)) := hM.tr hE (Sm_sF (by rw [r_1]; rfl))
        have hE : Ex g (sF (sC g1 v_5 v_3.toNatClampNeg z_9) h 1 (.int z_11)) := hE
        obtain ⟨z_12, ez_12⟩ : ∃ z : Int32, z = i + (-1) := ⟨_, rfl⟩
        have e_z_12 : z_12.toInt = i.toInt + (-1) := i_add ez_12 rfl (by decide) (by omega) (by omega)
        refine lv_iinc (v := z_12) (lv' := [(4, .int z_12), (0, .ref h), (1, .long w), (3, .int n)]) hx hb dX4_append_50 hl (k := 0) rfl (by rw [ez_12]; rfl) (by decide) rfl (fun ls hl => ?_)
        refine lv_goto (tgt := 5) hx hb dX4_append_53 (by decide) ?_
        exact ih (kf - 1) (by omega) (sF (sC g1 v_5 v_3.toNatClampNeg z_9) h 1 (.int z_11)) z_12 H locs ls hT hI hE hM (by omega) (by omega) (by have e0_ : (0 : Int32).toInt = 0 := (by decide); omega) (lv_sub hl [0, 1, 2, 3] rfl)
set_option maxHeartbeats 4000000 in
set_option maxRecDepth 100000 in
theorem s_tappend (l : Launch) (D : va_G) (cI cZ cS cR : ClassId) (N0 : NT) (g : GS) (hI : Inv g) (h : Nat) (w : Int64) (n : Int32) (r_h : g.1 h = 5) (l_n : 1 ≤ n.toInt) (u_n : n.toInt ≤ 8) : Ty l D cI cZ cS cR N0 yX4_append cX4_append 5 none 0 0 0 [.ref h, .long w, .int n] g (fun v g' => v = none ∧ Inv g' ∧ Ex g g' ∧ Sm md_s_tappend g g') := by
  refine t_enter (by decide) (Nat.le_of_ble_eq_true rfl) ?_
  intro p e s m args below meth c ls H locs hB hr hin hl hT
  have hx := hB.1
  have hb := hB.2.1
  have hl : lv_has ls 5 [(0, .ref h), (1, .long w), (3, .int n)] := hl
  have hE : Ex g g := Ex.rf
  have hM : Sm md_s_tappend g g := Sm.rf
  refine lv_iload_n hx hb dX4_append_0 rfl (lv_at hl 2 rfl) ?_
  refine lv_iconst (v := 1) hx hb dX4_append_1 (by decide) ?_
  refine lv_isub hx hb dX4_append_2 ?_
  refine lv_topi (fun z_1 ez_1 => ?_)
  have e_z_1 : z_1.toInt = n.toInt - 1 := i_sub ez_1 rfl (by decide) (by omega) (by omega)
  refine lv_istore (lv' := [(4, .int z_1), (0, .ref h), (1, .long w), (3, .int n)]) hx hb dX4_append_3 hl (by decide) rfl (fun ls hl => ?_)
  exact lt_s_tappend_a l D cI cZ cS cR N0 g h w n r_h l_n u_n hB hr   8 g z_1 H locs ls hT hI hE hM (by omega) (by omega) (by have e0_ : (0 : Int32).toInt = 0 := (by decide); omega) (lv_sub hl [0, 1, 2, 3] rfl)
abbrev md_s_readDigit : Nat → Nat → Bool := mdf [(5, 3)]
set_option maxHeartbeats 4000000 in
set_option maxRecDepth 100000 in
theorem s_readDigit (l : Launch) (D : va_G) (cI cZ cS cR : ClassId) (N0 : NT) (g : GS) (hI : Inv g) (h : Nat) (n : Int32) (r_h : g.1 h = 5) (l_n : 0 ≤ n.toInt) (u_n : n.toInt ≤ 9) : Ty l D cI cZ cS cR N0 yX4_readDigit cX4_readDigit 3 (some .int) 1 0 0 [.ref h, .int n] g (fun v g' => ∃ (r : Int32), v = some (.int r) ∧ Inv g' ∧ Ex g g' ∧ Sm md_s_readDigit g g' ∧ (r = -1 ∨ (0 ≤ r.toInt ∧ r.toInt ≤ n.toInt))) := by
  refine t_enter (by decide) (Nat.le_of_ble_eq_true rfl) ?_
  intro p e s m args below meth c ls H locs hB hr hin hl hT
  have hx := hB.1
  have hb := hB.2.1
  have hl : lv_has ls 3 [(0, .ref h), (1, .int n)] := hl
  have hE : Ex g g := Ex.rf
  have hM : Sm md_s_readDigit g g := Sm.rf
  refine lv_aload_n hx hb dX4_readDigit_0 rfl (lv_at hl 0 rfl) ?_
  refine lv_aload_n hx hb dX4_readDigit_1 rfl (lv_at hl 0 rfl) ?_
  obtain ⟨v_1, e_v_1⟩ := f_5_3 hI r_h
  refine t_get (ci := 4) (v := .int v_1) hB hT (ro_ci r_h rfl) rfl 3 (by decide) k_91 e_v_1 dX4_readDigit_2 ?_
  refine t_callV (n := 1) (As := [.int v_1]) (rest := []) (ci := 4) hB hT hl.1 (s_byteAt l D cI cZ cS cR N0 g hI h v_1 r_h) (ro_ci r_h rfl) rfl k_366 k_58 k_363 k_365 k_3 (by decide +kernel) ⟨(Nat.le_of_ble_eq_true rfl), (Nat.le_of_ble_eq_true rfl)⟩ rfl (Nat.le_of_ble_eq_true rfl) ⟨(Nat.le_of_ble_eq_true rfl), (Nat.le_of_ble_eq_true rfl)⟩ dX4_readDigit_5 (fun v g_2 H locs hp hT => ?_)
  obtain ⟨r_3, rfl, eg⟩ := hp
  rw [eg] at hT
  clear eg
  refine W.eq (g2 := F0 m 8 ls [.int r_3]) rfl ?_
  refine lv_bipush (v := 48) hx hb dX4_readDigit_8 (by decide) ?_
  refine lv_isub hx hb dX4_readDigit_10 ?_
  refine lv_topi (fun z_6 ez_6 => ?_)
  refine lv_istore_n (lv' := [(2, .int z_6), (0, .ref h), (1, .int n)]) hx hb dX4_readDigit_11 rfl hl (by decide) rfl (fun ls hl => ?_)
  refine lv_iload_n hx hb dX4_readDigit_12 rfl (lv_at hl 0 rfl) ?_
  refine lv_iload_n hx hb dX4_readDigit_13 rfl (lv_at hl 2 rfl) ?_
  refine t_callSN (n := 2) (As := [.int z_6, .int n]) (rest := []) hB hT hl.1 (s_within l D cI cZ cS cR N0 g hI z_6 n ) k_415 k_57 hB.2.2.2.2.2.2.2.1.2.2.2.2.2.2.2.2 k_414 (by decide +kernel) ⟨(Nat.le_of_ble_eq_true rfl), (Nat.le_of_ble_eq_true rfl)⟩ rfl (Nat.le_of_ble_eq_true rfl) ⟨(Nat.le_of_ble_eq_true rfl), (Nat.le_of_ble_eq_true rfl)⟩ dX4_readDigit_14 (fun v g_7 H locs hp hT => ?_)
  obtain ⟨r_8, rfl, eg, f_9⟩ := hp
  rw [eg] at hT
  clear eg
  refine W.eq (g2 := F0 m 17 ls [.int r_8]) rfl ?_
  rcases f_9 with ⟨rfl, hw_12, hw_13⟩ | ⟨rfl, hw_14⟩
  · refine W.eq (g2 := F0 m 17 ls [.int 1]) rfl ?_
    refine lv_if_ne (tgt := 22) hx hb dX4_readDigit_17 (by decide) (fun c_ => ?_) (fun c_ => absurd c_ (by decide))
    refine lv_aload_n hx hb dX4_readDigit_22 rfl (lv_at hl 1 rfl) ?_
    refine lv_dup hx hb dX4_readDigit_23 rfl ?_
    refine t_get (ci := 4) (v := .int v_1) hB hT (ro_ci r_h rfl) rfl 3 (by decide) k_91 e_v_1 dX4_readDigit_24 ?_
    refine lv_iconst (v := 1) hx hb dX4_readDigit_27 (by decide) ?_
    refine lv_iadd hx hb dX4_readDigit_28 ?_
    refine lv_topi (fun z_15 ez_15 => ?_)
    refine t_put0 (ci := 4) (v := .int z_15) hB hT (ro_ci r_h rfl) (ro_n0 r_h (by decide)) rfl 3 (by decide) k_91 (Or.inl rfl) rfl rfl dX4_readDigit_29 (fun H locs hT => ?_)
    have hI : Inv (sF g h 3 (.int z_15)) := hI.sF (p_5_3 r_h (⟨_, rfl⟩))
    have hM : Sm md_s_readDigit g (sF g h 3 (.int z_15)) := hM.tr hE (Sm_sF (by rw [r_h]; rfl))
    have hE : Ex g (sF g h 3 (.int z_15)) := hE
    refine lv_iload_n hx hb dX4_readDigit_32 rfl (lv_at hl 0 rfl) ?_
    exact t_iret hB hr hT (Nat.le_of_ble_eq_true rfl) (Nat.le_of_ble_eq_true rfl) dX4_readDigit_33 ⟨z_6, rfl, hI, hE, hM, (Or.inr ⟨by omega, by omega⟩)⟩
  · refine W.eq (g2 := F0 m 17 ls [.int 0]) rfl ?_
    refine lv_if_ne (tgt := 22) hx hb dX4_readDigit_17 (by decide) (fun c_ => absurd (by decide) c_) (fun c_ => ?_)
    refine lv_iconst (v := (-1)) hx hb dX4_readDigit_20 (by decide) ?_
    exact t_iret hB hr hT (Nat.le_of_ble_eq_true rfl) (Nat.le_of_ble_eq_true rfl) dX4_readDigit_21 ⟨(-1), rfl, hI, hE, hM, (Or.inl rfl)⟩
abbrev md_s_readValue : Nat → Nat → Bool := mdf [(5, 3)]
theorem mdle_s_readValue_s_pass {r k : Nat} (h : md_s_readValue r k = false) : md_s_pass r k = false := mdf_le (by decide +kernel) h
theorem mdle_s_readValue_s_readDigit {r k : Nat} (h : md_s_readValue r k = false) : md_s_readDigit r k = false := mdf_le (by decide +kernel) h
set_option maxHeartbeats 4000000 in
set_option maxRecDepth 100000 in
theorem lt_s_readValue_a (l : Launch) (D : va_G) (cI cZ cS cR : ClassId) (N0 : NT) (g : GS) (h : Nat) (r_h : g.1 h = 5) {p : Program} {e : Env} {s : State} {m : MethodId} {args : Array Value} {below : List Frame} {meth : Method} {c : Code} (hB : Tz p s m meth c args cX4_readValue 4 RX4 D cI cZ cS cR N0) (hr : meth.sig.returnType = (some .int))    : ∀ (kf : Nat) (g1 : GS) (v : Int32) (i : Int32)  (H : Heap) (locs : List Loc) (ls : Array Slot), Tv D cI cZ cS cR N0 s.heap H locs g1 → Inv g1 → Ex g g1 → Sm md_s_readValue g g1 → (-1) ≤ v.toInt → v.toInt ≤ 999 → 0 ≤ i.toInt → i.toInt ≤ 2 → (2 ≤ i.toInt + kf ∧ (v.toInt ≤ 9 ∨ (1 ≤ i.toInt ∧ v.toInt ≤ 99) ∨ 2 ≤ i.toInt)) → lv_has ls 4 [(1, .int v), (2, .int i), (0, .ref h)] → W p l e (rmx 2 0 0) s m args below meth c H locs 0 0 (MQ below (tQ D cI cZ cS cR N0 (fun v g' => ∃ (r : Int32), v = some (.int r) ∧ Inv g' ∧ Ex g g' ∧ Sm md_s_readValue g g')) args s 0 0 (fun q => N0.1 ≤ q)) (F0 m 35 ls []) := by
  have hx := hB.1
  have hb := hB.2.1
  intro kf
  induction kf using Nat.strongRecOn with
  | ind kf ih =>
    intro g1 v i H locs ls hT hI hE hM l_v u_v l_i u_i hk hl
    have r_1 : g1.1 h = 5 := Ex.r hE r_h (by decide)
    refine lv_iload_n hx hb dX4_readValue_35 rfl (lv_at hl 0 rfl) ?_
    refine lv_iconst (v := (-1)) hx hb dX4_readValue_36 (by decide) ?_
    refine lv_icmp_eq (tgt := 73) hx hb dX4_readValue_37 (by decide) (fun c_2 => ?_) (fun c_2 => ?_)
    · have c_2' : v.toInt = (-1) := i_eq c_2 rfl (by decide)
      refine lv_iload_n hx hb dX4_readValue_73 rfl (lv_at hl 0 rfl) ?_
      exact t_iret hB hr hT (Nat.le_of_ble_eq_true rfl) (Nat.le_of_ble_eq_true rfl) dX4_readValue_74 ⟨v, rfl, hI, hE, hM⟩
    · have c_2' : v.toInt ≠ (-1) := i_ne c_2 rfl (by decide)
      refine lv_iload_n hx hb dX4_readValue_40 rfl (lv_at hl 1 rfl) ?_
      refine lv_iconst (v := 2) hx hb dX4_readValue_41 (by decide) ?_
      refine lv_icmp_ge (tgt := 73) hx hb dX4_readValue_42 (by decide) (fun c_3 => ?_) (fun c_3 => ?_)
      · have c_3' : 2 ≤ i.toInt := i_le c_3 (by decide) rfl
        refine lv_iload_n hx hb dX4_readValue_73 rfl (lv_at hl 0 rfl) ?_
        exact t_iret hB hr hT (Nat.le_of_ble_eq_true rfl) (Nat.le_of_ble_eq_true rfl) dX4_readValue_74 ⟨v, rfl, hI, hE, hM⟩
      · have c_3' : i.toInt < 2 := i_nle c_3 (by decide) rfl
        refine lv_aload_n hx hb dX4_readValue_45 rfl (lv_at hl 2 rfl) ?_
        refine lv_bipush (v := 9) hx hb dX4_readValue_46 (by decide) ?_
        refine t_callV (n := 1) (As := [.int 9]) (rest := []) (ci := 4) hB hT hl.1 (s_readDigit l D cI cZ cS cR N0 g1 hI h 9 r_1 (by have q0 : (9 : Int32).toInt = 9 := (by decide); omega) (by have q0 : (9 : Int32).toInt = 9 := (by decide); omega)) (ro_ci r_1 rfl) rfl k_412 k_58 k_409 k_411 k_4 (by decide +kernel) ⟨(Nat.le_of_ble_eq_true rfl), (Nat.le_of_ble_eq_true rfl)⟩ rfl (Nat.le_of_ble_eq_true rfl) ⟨(Nat.le_of_ble_eq_true rfl), (Nat.le_of_ble_eq_true rfl)⟩ dX4_readValue_48 (fun v g_4 H locs hp hT => ?_)
        obtain ⟨r_5, rfl, hI, x_8, m_7, f_6⟩ := hp
        have hM : Sm md_s_readValue g g_4 := hM.tr hE (m_7.mo (fun r k h => mdle_s_readValue_s_readDigit h))
        have hE : Ex g g_4 := hE.tr x_8
        have r_9 : g_4.1 h = 5 := (Ex.r x_8 r_1 (by decide))
        refine W.eq (g2 := F0 m 51 ls [.int r_5]) rfl ?_
        have qc_10 : (9 : Int32).toInt = 9 := (by decide)
        rcases f_6 with rfl | ⟨hw_11, hw_12⟩
        · refine W.eq (g2 := F0 m 51 ls [.int (-1)]) rfl ?_
          refine lv_istore_n (lv' := [(3, .int (-1)), (1, .int v), (2, .int i), (0, .ref h)]) hx hb dX4_readValue_51 rfl hl (by decide) rfl (fun ls hl => ?_)
          refine lv_iload_n hx hb dX4_readValue_52 rfl (lv_at hl 0 rfl) ?_
          refine lv_iconst (v := (-1)) hx hb dX4_readValue_53 (by decide) ?_
          refine lv_icmp_ne (tgt := 60) hx hb dX4_readValue_54 (by decide) (fun c_ => absurd (by decide) c_) (fun c_ => ?_)
          refine lv_goto (tgt := 73) hx hb dX4_readValue_57 (by decide) ?_
          refine lv_iload_n hx hb dX4_readValue_73 rfl (lv_at hl 1 rfl) ?_
          exact t_iret hB hr hT (Nat.le_of_ble_eq_true rfl) (Nat.le_of_ble_eq_true rfl) dX4_readValue_74 ⟨v, rfl, hI, hE, hM⟩
        · refine W.eq (g2 := F0 m 51 ls [.int r_5]) rfl ?_
          refine lv_istore_n (lv' := [(3, .int r_5), (1, .int v), (2, .int i), (0, .ref h)]) hx hb dX4_readValue_51 rfl hl (by decide) rfl (fun ls hl => ?_)
          refine lv_iload_n hx hb dX4_readValue_52 rfl (lv_at hl 0 rfl) ?_
          refine lv_iconst (v := (-1)) hx hb dX4_readValue_53 (by decide) ?_
          refine lv_icmp_ne (tgt := 60) hx hb dX4_readValue_54 (by decide) (fun c_13 => ?_) (fun c_13 => ?_)
          · have c_13' : r_5.toInt ≠ (-1) := i_ne c_13 rfl (by decide)
            refine lv_iload_n hx hb dX4_readValue_60 rfl (lv_at hl 1 rfl) ?_
            refine lv_bipush (v := 10) hx hb dX4_readValue_61 (by decide) ?_
            refine lv_imul hx hb dX4_readValue_63 ?_
            refine lv_topi (fun z_14 ez_14 => ?_)
            have e_z_14 : z_14.toInt = v.toInt * 10 := i_mul ez_14 rfl (by decide) (by omega) (by omega)
            refine lv_iload_n hx hb dX4_readValue_64 rfl (lv_at hl 0 rfl) ?_
            refine lv_iadd hx hb dX4_readValue_65 ?_
            refine lv_topi (fun z_15 ez_15 => ?_)
            have e_z_15 : z_15.toInt = z_14.toInt + r_5.toInt := i_add ez_15 rfl rfl (by omega) (by omega)
            refine lv_istore_n (lv' := [(1, .int z_15), (3, .int r_5), (2, .int i), (0, .ref h)]) hx hb dX4_readValue_66 rfl hl (by decide) rfl (fun ls hl => ?_)
            obtain ⟨z_16, ez_16⟩ : ∃ z : Int32, z = i + 1 := ⟨_, rfl⟩
            have e_z_16 : z_16.toInt = i.toInt + 1 := i_add ez_16 rfl (by decide) (by omega) (by omega)
            refine lv_iinc (v := z_16) (lv' := [(2, .int z_16), (1, .int z_15), (3, .int r_5), (0, .ref h)]) hx hb dX4_readValue_67 hl (k := 2) rfl (by rw [ez_16]; rfl) (by decide) rfl (fun ls hl => ?_)
            refine lv_goto (tgt := 35) hx hb dX4_readValue_70 (by decide) ?_
            exact ih (kf - 1) (by omega) g_4 z_15 z_16 H locs ls hT hI hE hM (by omega) (by omega) (by omega) (by omega) (by have e0_ : (0 : Int32).toInt = 0 := (by decide); omega) (lv_sub hl [1, 0, 3] rfl)
          · have c_13' : r_5.toInt = (-1) := i_eq c_13 rfl (by decide)
            exact absurd c_13' (by omega)
set_option maxHeartbeats 4000000 in
set_option maxRecDepth 100000 in
theorem s_readValue (l : Launch) (D : va_G) (cI cZ cS cR : ClassId) (N0 : NT) (g : GS) (hI : Inv g) (h : Nat) (r_h : g.1 h = 5) : Ty l D cI cZ cS cR N0 yX4_readValue cX4_readValue 4 (some .int) 2 0 0 [.ref h] g (fun v g' => ∃ (r : Int32), v = some (.int r) ∧ Inv g' ∧ Ex g g' ∧ Sm md_s_readValue g g') := by
  refine t_enter (by decide) (Nat.le_of_ble_eq_true rfl) ?_
  intro p e s m args below meth c ls H locs hB hr hin hl hT
  have hx := hB.1
  have hb := hB.2.1
  have hl : lv_has ls 4 [(0, .ref h)] := hl
  have hE : Ex g g := Ex.rf
  have hM : Sm md_s_readValue g g := Sm.rf
  refine lv_aload_n hx hb dX4_readValue_0 rfl (lv_at hl 0 rfl) ?_
  refine lv_bipush (v := 120) hx hb dX4_readValue_1 (by decide) ?_
  refine t_callV (n := 1) (As := [.int 120]) (rest := []) (ci := 4) hB hT hl.1 (s_pass l D cI cZ cS cR N0 g hI h 120 r_h) (ro_ci r_h rfl) rfl k_419 k_58 k_416 k_418 k_5 (by decide +kernel) ⟨(Nat.le_of_ble_eq_true rfl), (Nat.le_of_ble_eq_true rfl)⟩ rfl (Nat.le_of_ble_eq_true rfl) ⟨(Nat.le_of_ble_eq_true rfl), (Nat.le_of_ble_eq_true rfl)⟩ dX4_readValue_3 (fun v g_1 H locs hp hT => ?_)
  obtain ⟨r_2, rfl, hI, x_5, m_4, f_3⟩ := hp
  have hM : Sm md_s_readValue g g_1 := hM.tr hE (m_4.mo (fun r k h => mdle_s_readValue_s_pass h))
  have hE : Ex g g_1 := hE.tr x_5
  have r_6 : g_1.1 h = 5 := (Ex.r x_5 r_h (by decide))
  refine W.eq (g2 := F0 m 6 ls [.int r_2]) rfl ?_
  have qc_7 : (120 : Int32).toInt = 120 := (by decide)
  rcases f_3 with rfl | rfl
  · refine W.eq (g2 := F0 m 6 ls [.int 1]) rfl ?_
    refine lv_if_eq (tgt := 13) hx hb dX4_readValue_6 (by decide) (fun c_ => absurd c_ (by decide)) (fun c_ => ?_)
    refine lv_sipush (v := 1000) hx hb dX4_readValue_9 (by decide) ?_
    exact t_iret hB hr hT (Nat.le_of_ble_eq_true rfl) (Nat.le_of_ble_eq_true rfl) dX4_readValue_12 ⟨1000, rfl, hI, hE, hM⟩
  · refine W.eq (g2 := F0 m 6 ls [.int 0]) rfl ?_
    refine lv_if_eq (tgt := 13) hx hb dX4_readValue_6 (by decide) (fun c_ => ?_) (fun c_ => absurd (by decide) c_)
    refine lv_aload_n hx hb dX4_readValue_13 rfl (lv_at hl 0 rfl) ?_
    refine lv_bipush (v := 114) hx hb dX4_readValue_14 (by decide) ?_
    refine t_callV (n := 1) (As := [.int 114]) (rest := []) (ci := 4) hB hT hl.1 (s_pass l D cI cZ cS cR N0 g_1 hI h 114 r_6) (ro_ci r_6 rfl) rfl k_419 k_58 k_416 k_418 k_5 (by decide +kernel) ⟨(Nat.le_of_ble_eq_true rfl), (Nat.le_of_ble_eq_true rfl)⟩ rfl (Nat.le_of_ble_eq_true rfl) ⟨(Nat.le_of_ble_eq_true rfl), (Nat.le_of_ble_eq_true rfl)⟩ dX4_readValue_16 (fun v g_8 H locs hp hT => ?_)
    obtain ⟨r_9, rfl, hI, x_12, m_11, f_10⟩ := hp
    have hM : Sm md_s_readValue g g_8 := hM.tr hE (m_11.mo (fun r k h => mdle_s_readValue_s_pass h))
    have hE : Ex g g_8 := hE.tr x_12
    have r_13 : g_8.1 h = 5 := (Ex.r x_12 r_6 (by decide))
    refine W.eq (g2 := F0 m 19 ls [.int r_9]) rfl ?_
    have qc_14 : (114 : Int32).toInt = 114 := (by decide)
    rcases f_10 with rfl | rfl
    · refine W.eq (g2 := F0 m 19 ls [.int 1]) rfl ?_
      refine lv_if_eq (tgt := 26) hx hb dX4_readValue_19 (by decide) (fun c_ => absurd c_ (by decide)) (fun c_ => ?_)
      refine lv_sipush (v := 1001) hx hb dX4_readValue_22 (by decide) ?_
      exact t_iret hB hr hT (Nat.le_of_ble_eq_true rfl) (Nat.le_of_ble_eq_true rfl) dX4_readValue_25 ⟨1001, rfl, hI, hE, hM⟩
    · refine W.eq (g2 := F0 m 19 ls [.int 0]) rfl ?_
      refine lv_if_eq (tgt := 26) hx hb dX4_readValue_19 (by decide) (fun c_ => ?_) (fun c_ => absurd (by decide) c_)
      refine lv_aload_n hx hb dX4_readValue_26 rfl (lv_at hl 0 rfl) ?_
      refine lv_bipush (v := 9) hx hb dX4_readValue_27 (by decide) ?_
      refine t_callV (n := 1) (As := [.int 9]) (rest := []) (ci := 4) hB hT hl.1 (s_readDigit l D cI cZ cS cR N0 g_8 hI h 9 r_13 (by have q0 : (9 : Int32).toInt = 9 := (by decide); omega) (by have q0 : (9 : Int32).toInt = 9 := (by decide); omega)) (ro_ci r_13 rfl) rfl k_412 k_58 k_409 k_411 k_4 (by decide +kernel) ⟨(Nat.le_of_ble_eq_true rfl), (Nat.le_of_ble_eq_true rfl)⟩ rfl (Nat.le_of_ble_eq_true rfl) ⟨(Nat.le_of_ble_eq_true rfl), (Nat.le_of_ble_eq_true rfl)⟩ dX4_readValue_29 (fun v g_15 H locs hp hT => ?_)
      obtain ⟨r_16, rfl, hI, x_19, m_18, f_17⟩ := hp
      have hM : Sm md_s_readValue g g_15 := hM.tr hE (m_18.mo (fun r k h => mdle_s_readValue_s_readDigit h))
      have hE : Ex g g_15 := hE.tr x_19
      have r_20 : g_15.1 h = 5 := (Ex.r x_19 r_13 (by decide))
      refine W.eq (g2 := F0 m 32 ls [.int r_16]) rfl ?_
      have qc_21 : (9 : Int32).toInt = 9 := (by decide)
      rcases f_17 with rfl | ⟨hw_22, hw_23⟩
      · refine W.eq (g2 := F0 m 32 ls [.int (-1)]) rfl ?_
        refine lv_istore_n (lv' := [(1, .int (-1)), (0, .ref h)]) hx hb dX4_readValue_32 rfl hl (by decide) rfl (fun ls hl => ?_)
        refine lv_iconst (v := 0) hx hb dX4_readValue_33 (by decide) ?_
        refine lv_istore_n (lv' := [(2, .int 0), (1, .int (-1)), (0, .ref h)]) hx hb dX4_readValue_34 rfl hl (by decide) rfl (fun ls hl => ?_)
        exact lt_s_readValue_a l D cI cZ cS cR N0 g h r_h hB hr   2 g_15 ((-1) : Int32) (0 : Int32) H locs ls hT hI hE hM (by decide) (by decide) (by decide) (by decide) (by have e0_ : ((-1) : Int32).toInt = (-1) := (by decide); have e1_ : (0 : Int32).toInt = 0 := (by decide); omega) (lv_sub hl [1, 0, 2] rfl)
      · refine W.eq (g2 := F0 m 32 ls [.int r_16]) rfl ?_
        refine lv_istore_n (lv' := [(1, .int r_16), (0, .ref h)]) hx hb dX4_readValue_32 rfl hl (by decide) rfl (fun ls hl => ?_)
        refine lv_iconst (v := 0) hx hb dX4_readValue_33 (by decide) ?_
        refine lv_istore_n (lv' := [(2, .int 0), (1, .int r_16), (0, .ref h)]) hx hb dX4_readValue_34 rfl hl (by decide) rfl (fun ls hl => ?_)
        exact lt_s_readValue_a l D cI cZ cS cR N0 g h r_h hB hr   2 g_15 r_16 (0 : Int32) H locs ls hT hI hE hM (by omega) (by omega) (by decide) (by decide) (by have e0_ : (0 : Int32).toInt = 0 := (by decide); omega) (lv_sub hl [1, 0, 2] rfl)
abbrev md_s_readWord : Nat → Nat → Bool := mdf [(5, 3)]
set_option maxHeartbeats 4000000 in
set_option maxRecDepth 100000 in
theorem lt_s_readWord_b (l : Launch) (D : va_G) (cI cZ cS cR : ClassId) (N0 : NT) (g : GS) (h : Nat) (r_h : g.1 h = 5) {p : Program} {e : Env} {s : State} {m : MethodId} {args : Array Value} {below : List Frame} {meth : Method} {c : Code} (hB : Tz p s m meth c args cX4_readWord 6 RX4 D cI cZ cS cR N0) (hr : meth.sig.returnType = (some .int)) (le : Int32) (bg : Int32) (wo : Int32) (fu : Int32) (l_le : (-30) ≤ le.toInt) (u_le : le.toInt ≤ 30) (l_bg : 0 ≤ bg.toInt) (u_bg : bg.toInt ≤ 30) (l_wo : 0 ≤ wo.toInt) (u_wo : wo.toInt ≤ 7)  (K : ∀ (g1 : GS) (a1 : Int32)  (H : Heap) (locs : List Loc) (ls : Array Slot), Tv D cI cZ cS cR N0 s.heap H locs g1 → Inv g1 → Ex g g1 → Sm md_s_readWord g g1 → 0 ≤ a1.toInt → a1.toInt ≤ 30 → lv_has ls 6 [(5, .int a1), (4, .int le), (3, .int bg), (2, .int wo), (1, .int fu), (0, .ref h)] → W p l e (rmx 4 0 0) s m args below meth c H locs 0 0 (MQ below (tQ D cI cZ cS cR N0 (fun v g' => ∃ (r : Int32), v = some (.int r) ∧ Inv g' ∧ Ex g g' ∧ Sm md_s_readWord g g')) args s 0 0 (fun q => N0.1 ≤ q)) (F0 m 66 ls [])) : ∀ (kf : Nat) (g1 : GS) (a1 : Int32)  (H : Heap) (locs : List Loc) (ls : Array Slot), Tv D cI cZ cS cR N0 s.heap H locs g1 → Inv g1 → Ex g g1 → Sm md_s_readWord g g1 → 0 ≤ a1.toInt → a1.toInt ≤ 30 → (bg.toInt + le.toInt ≤ 30 ∧ (a1.toInt ≤ le.toInt ∨ a1.toInt = 0)) → (30 ≤ a1.toInt + kf) → lv_has ls 6 [(5, .int a1), (4, .int le), (3, .int bg), (2, .int wo), (1, .int fu), (0, .ref h)] → W p l e (rmx 4 0 0) s m args below meth c H locs 0 0 (MQ below (tQ D cI cZ cS cR N0 (fun v g' => ∃ (r : Int32), v = some (.int r) ∧ Inv g' ∧ Ex g g' ∧ Sm md_s_readWord g g')) args s 0 0 (fun q => N0.1 ≤ q)) (F0 m 30 ls []) := by
  have hx := hB.1
  have hb := hB.2.1
  intro kf
  induction kf using Nat.strongRecOn with
  | ind kf ih =>
    intro g1 a1 H locs ls hT hI hE hM l_a1 u_a1 hbl hk hl
    have r_1 : g1.1 h = 5 := Ex.r hE r_h (by decide)
    refine lv_iload hx hb dX4_readWord_30 (lv_at hl 0 rfl) ?_
    refine lv_iload hx hb dX4_readWord_32 (lv_at hl 1 rfl) ?_
    refine lv_icmp_ge (tgt := 66) hx hb dX4_readWord_34 (by decide) (fun c_2 => ?_) (fun c_2 => ?_)
    · have c_2' : le.toInt ≤ a1.toInt := i_le c_2 rfl rfl
      exact K g1 a1 H locs ls hT hI hE hM (by omega) (by omega) (lv_sub hl [0, 1, 2, 3, 4, 5] rfl)
    · have c_2' : a1.toInt < le.toInt := i_nle c_2 rfl rfl
      refine lv_aload_n hx hb dX4_readWord_37 rfl (lv_at hl 5 rfl) ?_
      refine lv_aload_n hx hb dX4_readWord_38 rfl (lv_at hl 5 rfl) ?_
      obtain ⟨v_3, e_v_3⟩ := f_5_3 hI r_1
      refine t_get (ci := 4) (v := .int v_3) hB hT (ro_ci r_1 rfl) rfl 3 (by decide) k_91 e_v_3 dX4_readWord_39 ?_
      refine lv_iload hx hb dX4_readWord_42 (lv_at hl 0 rfl) ?_
      refine lv_iadd hx hb dX4_readWord_44 ?_
      refine lv_topi (fun z_4 ez_4 => ?_)
      refine t_callV (n := 1) (As := [.int z_4]) (rest := []) (ci := 4) hB hT hl.1 (s_byteAt l D cI cZ cS cR N0 g1 hI h z_4 r_1) (ro_ci r_1 rfl) rfl k_366 k_58 k_363 k_365 k_3 (by decide +kernel) ⟨(Nat.le_of_ble_eq_true rfl), (Nat.le_of_ble_eq_true rfl)⟩ rfl (Nat.le_of_ble_eq_true rfl) ⟨(Nat.le_of_ble_eq_true rfl), (Nat.le_of_ble_eq_true rfl)⟩ dX4_readWord_45 (fun v g_5 H locs hp hT => ?_)
      obtain ⟨r_6, rfl, eg⟩ := hp
      rw [eg] at hT
      clear eg
      refine W.eq (g2 := F0 m 48 ls [.int r_6]) rfl ?_
      refine va_ldcS hx hb hB.2.2.2.1 (ux_r hB) dX4_readWord_48 ?_
      refine lv_iload_n hx hb dX4_readWord_50 rfl (lv_at hl 2 rfl) ?_
      refine lv_iload hx hb dX4_readWord_51 (lv_at hl 0 rfl) ?_
      refine lv_iadd hx hb dX4_readWord_53 ?_
      refine lv_topi (fun z_9 ez_9 => ?_)
      have e_z_9 : z_9.toInt = bg.toInt + a1.toInt := i_add ez_9 rfl rfl (by omega) (by omega)
      refine t_callT (n := 1) (As := [.int z_9]) (rest := [.int r_6]) hB hT hl.1 (u_charAt l D cI cZ cS cR N0 g1 hI z_9 (by omega) (by omega)) k_371 k_66 k_368 k_369 k_370 (by decide +kernel) ⟨(Nat.le_of_ble_eq_true rfl), (Nat.le_of_ble_eq_true rfl)⟩ rfl (Nat.le_of_ble_eq_true rfl) ⟨(Nat.le_of_ble_eq_true rfl), (Nat.le_of_ble_eq_true rfl)⟩ dX4_readWord_54 (fun v g_10 H locs hp hT => ?_)
      obtain ⟨r_11, rfl, eg, f_12⟩ := hp
      rw [eg] at hT
      clear eg
      refine W.eq (g2 := F0 m 57 ls [.int r_11, .int r_6]) rfl ?_
      refine lv_icmp_ne (tgt := 66) hx hb dX4_readWord_57 (by decide) (fun c_15 => ?_) (fun c_15 => ?_)
      · have c_15' : r_6.toInt ≠ r_11.toInt := i_ne c_15 rfl rfl
        exact K g1 a1 H locs ls hT hI hE hM (by omega) (by omega) (lv_sub hl [0, 1, 2, 3, 4, 5] rfl)
      · have c_15' : r_6.toInt = r_11.toInt := i_eq c_15 rfl rfl
        obtain ⟨z_16, ez_16⟩ : ∃ z : Int32, z = a1 + 1 := ⟨_, rfl⟩
        have e_z_16 : z_16.toInt = a1.toInt + 1 := i_add ez_16 rfl (by decide) (by omega) (by omega)
        refine lv_iinc (v := z_16) (lv' := [(5, .int z_16), (4, .int le), (3, .int bg), (2, .int wo), (1, .int fu), (0, .ref h)]) hx hb dX4_readWord_60 hl (k := 0) rfl (by rw [ez_16]; rfl) (by decide) rfl (fun ls hl => ?_)
        refine lv_goto (tgt := 30) hx hb dX4_readWord_63 (by decide) ?_
        exact ih (kf - 1) (by omega) g1 z_16 H locs ls hT hI hE hM (by omega) (by omega) (by have e0_ : (0 : Int32).toInt = 0 := (by decide); omega) (by have e0_ : (0 : Int32).toInt = 0 := (by decide); omega) (lv_sub hl [0, 1, 2, 3, 4, 5] rfl)
set_option maxHeartbeats 4000000 in
set_option maxRecDepth 100000 in
theorem lt_s_readWord_a (l : Launch) (D : va_G) (cI cZ cS cR : ClassId) (N0 : NT) (g : GS) (h : Nat) (r_h : g.1 h = 5) {p : Program} {e : Env} {s : State} {m : MethodId} {args : Array Value} {below : List Frame} {meth : Method} {c : Code} (hB : Tz p s m meth c args cX4_readWord 6 RX4 D cI cZ cS cR N0) (hr : meth.sig.returnType = (some .int))    : ∀ (kf : Nat) (g1 : GS) (wo : Int32) (fu : Int32)  (H : Heap) (locs : List Loc) (ls : Array Slot), Tv D cI cZ cS cR N0 s.heap H locs g1 → Inv g1 → Ex g g1 → Sm md_s_readWord g g1 → 0 ≤ wo.toInt → wo.toInt ≤ 8 → (8 ≤ wo.toInt + kf) → lv_has ls 6 [(2, .int wo), (1, .int fu), (0, .ref h)] → W p l e (rmx 4 0 0) s m args below meth c H locs 0 0 (MQ below (tQ D cI cZ cS cR N0 (fun v g' => ∃ (r : Int32), v = some (.int r) ∧ Inv g' ∧ Ex g g' ∧ Sm md_s_readWord g g')) args s 0 0 (fun q => N0.1 ≤ q)) (F0 m 4 ls []) := by
  have hx := hB.1
  have hb := hB.2.1
  intro kf
  induction kf using Nat.strongRecOn with
  | ind kf ih =>
    intro g1 wo fu H locs ls hT hI hE hM l_wo u_wo hk hl
    have r_1 : g1.1 h = 5 := Ex.r hE r_h (by decide)
    refine lv_iload_n hx hb dX4_readWord_4 rfl (lv_at hl 0 rfl) ?_
    refine lv_bipush (v := 8) hx hb dX4_readWord_5 (by decide) ?_
    refine lv_icmp_ge (tgt := 99) hx hb dX4_readWord_7 (by decide) (fun c_2 => ?_) (fun c_2 => ?_)
    · have c_2' : 8 ≤ wo.toInt := i_le c_2 (by decide) rfl
      refine lv_aload_n hx hb dX4_readWord_99 rfl (lv_at hl 2 rfl) ?_
      refine lv_dup hx hb dX4_readWord_100 rfl ?_
      obtain ⟨v_3, e_v_3⟩ := f_5_3 hI r_1
      refine t_get (ci := 4) (v := .int v_3) hB hT (ro_ci r_1 rfl) rfl 3 (by decide) k_91 e_v_3 dX4_readWord_101 ?_
      refine lv_iload_n hx hb dX4_readWord_104 rfl (lv_at hl 1 rfl) ?_
      refine lv_iadd hx hb dX4_readWord_105 ?_
      refine lv_topi (fun z_4 ez_4 => ?_)
      refine t_put0 (ci := 4) (v := .int z_4) hB hT (ro_ci r_1 rfl) (ro_n0 r_1 (by decide)) rfl 3 (by decide) k_91 (Or.inl rfl) rfl rfl dX4_readWord_106 (fun H locs hT => ?_)
      have hI : Inv (sF g1 h 3 (.int z_4)) := hI.sF (p_5_3 r_1 (⟨_, rfl⟩))
      have hM : Sm md_s_readWord g (sF g1 h 3 (.int z_4)) := hM.tr hE (Sm_sF (by rw [r_1]; rfl))
      have hE : Ex g (sF g1 h 3 (.int z_4)) := hE
      refine lv_iconst (v := (-1)) hx hb dX4_readWord_109 (by decide) ?_
      exact t_iret hB hr hT (Nat.le_of_ble_eq_true rfl) (Nat.le_of_ble_eq_true rfl) dX4_readWord_110 ⟨(-1), rfl, hI, hE, hM⟩
    · have c_2' : wo.toInt < 8 := i_nle c_2 (by decide) rfl
      refine va_gets hx hb (ux_wb hB) hT.2 hB.2.2.2.1 (hB.2.2.2.2.1 _ k_361) (fun _ h => h) dX4_readWord_10 ?_
      refine lv_iload_n hx hb dX4_readWord_13 rfl (lv_at hl 0 rfl) ?_
      obtain ⟨u_5, e_u_5, l_u_5, u_u_5⟩ := tabW_in wo.toNatClampNeg
      refine va_ti hx hb (ux_tab hB) hT.2 (i_in (n := 9) rfl (by omega) (by omega)) e_u_5 dX4_readWord_14 ?_
      refine lv_istore_n (lv' := [(3, .int u_5), (2, .int wo), (1, .int fu), (0, .ref h)]) hx hb dX4_readWord_15 rfl hl (by decide) rfl (fun ls hl => ?_)
      refine va_gets hx hb (ux_wb hB) hT.2 hB.2.2.2.1 (hB.2.2.2.2.1 _ k_361) (fun _ h => h) dX4_readWord_16 ?_
      refine lv_iload_n hx hb dX4_readWord_19 rfl (lv_at hl 1 rfl) ?_
      refine lv_iconst (v := 1) hx hb dX4_readWord_20 (by decide) ?_
      refine lv_iadd hx hb dX4_readWord_21 ?_
      refine lv_topi (fun z_6 ez_6 => ?_)
      have e_z_6 : z_6.toInt = wo.toInt + 1 := i_add ez_6 rfl (by decide) (by omega) (by omega)
      obtain ⟨u_7, e_u_7, l_u_7, u_u_7⟩ := tabW_in z_6.toNatClampNeg
      refine va_ti hx hb (ux_tab hB) hT.2 (i_in (n := 9) rfl (by omega) (by omega)) e_u_7 dX4_readWord_22 ?_
      refine lv_iload_n hx hb dX4_readWord_23 rfl (lv_at hl 0 rfl) ?_
      refine lv_isub hx hb dX4_readWord_24 ?_
      refine lv_topi (fun z_8 ez_8 => ?_)
      have e_z_8 : z_8.toInt = u_7.toInt - u_5.toInt := i_sub ez_8 rfl rfl (by omega) (by omega)
      refine lv_istore (lv' := [(4, .int z_8), (3, .int u_5), (2, .int wo), (1, .int fu), (0, .ref h)]) hx hb dX4_readWord_25 hl (by decide) rfl (fun ls hl => ?_)
      refine lv_iconst (v := 0) hx hb dX4_readWord_27 (by decide) ?_
      refine lv_istore (lv' := [(5, .int 0), (4, .int z_8), (3, .int u_5), (2, .int wo), (1, .int fu), (0, .ref h)]) hx hb dX4_readWord_28 hl (by decide) rfl (fun ls hl => ?_)
      refine lt_s_readWord_b l D cI cZ cS cR N0 g h r_h hB hr z_8 u_5 wo fu (by omega) (by omega) (by omega) (by omega) (by omega) (by omega)  (fun g1_b_9 a1_b_9 H locs ls hT hI hE hM l_a1_b_9 u_a1_b_9 hl => ?_) 30 g1 (0 : Int32) H locs ls hT hI hE hM (by decide) (by decide) (by have e0_ : (0 : Int32).toInt = 0 := (by decide); omega) (by have e0_ : (0 : Int32).toInt = 0 := (by decide); omega) (lv_sub hl [0, 1, 2, 3, 4, 5] rfl)
      have r_10 : g1_b_9.1 h = 5 := Ex.r hE r_h (by decide)
      refine lv_iload hx hb dX4_readWord_66 (lv_at hl 0 rfl) ?_
      refine lv_iload hx hb dX4_readWord_68 (lv_at hl 1 rfl) ?_
      refine lv_icmp_ne (tgt := 86) hx hb dX4_readWord_70 (by decide) (fun c_11 => ?_) (fun c_11 => ?_)
      · have c_11' : a1_b_9.toInt ≠ z_8.toInt := i_ne c_11 rfl rfl
        refine lv_iload_n hx hb dX4_readWord_86 rfl (lv_at hl 4 rfl) ?_
        refine lv_iload hx hb dX4_readWord_87 (lv_at hl 0 rfl) ?_
        refine t_max hB k_408 k_241 k_63 k_242 hl.1 (Nat.le_of_ble_eq_true rfl) (Nat.le_of_ble_eq_true rfl) (Nat.le_of_ble_eq_true rfl) (Nat.le_of_ble_eq_true rfl) rfl dX4_readWord_89 ?_
        refine lv_topi (fun z_12 ez_12 => ?_)
        have e_z_12 := i_max (a := fu.toInt) (b := a1_b_9.toInt) ez_12 rfl rfl
        refine lv_istore_n (lv' := [(1, .int z_12), (5, .int a1_b_9), (4, .int z_8), (3, .int u_5), (2, .int wo), (0, .ref h)]) hx hb dX4_readWord_92 rfl hl (by decide) rfl (fun ls hl => ?_)
        obtain ⟨z_13, ez_13⟩ : ∃ z : Int32, z = wo + 1 := ⟨_, rfl⟩
        have e_z_13 : z_13.toInt = wo.toInt + 1 := i_add ez_13 rfl (by decide) (by omega) (by omega)
        refine lv_iinc (v := z_13) (lv' := [(2, .int z_13), (1, .int z_12), (5, .int a1_b_9), (4, .int z_8), (3, .int u_5), (0, .ref h)]) hx hb dX4_readWord_93 hl (k := 4) rfl (by rw [ez_13]; rfl) (by decide) rfl (fun ls hl => ?_)
        refine lv_goto (tgt := 4) hx hb dX4_readWord_96 (by decide) ?_
        exact ih (kf - 1) (by omega) g1_b_9 z_13 z_12 H locs ls hT hI hE hM (by omega) (by omega) (by have e0_ : (0 : Int32).toInt = 0 := (by decide); omega) (lv_sub hl [0, 1, 5] rfl)
      · have c_11' : a1_b_9.toInt = z_8.toInt := i_eq c_11 rfl rfl
        refine lv_aload_n hx hb dX4_readWord_73 rfl (lv_at hl 5 rfl) ?_
        refine lv_dup hx hb dX4_readWord_74 rfl ?_
        obtain ⟨v_14, e_v_14⟩ := f_5_3 hI r_10
        refine t_get (ci := 4) (v := .int v_14) hB hT (ro_ci r_10 rfl) rfl 3 (by decide) k_91 e_v_14 dX4_readWord_75 ?_
        refine lv_iload hx hb dX4_readWord_78 (lv_at hl 1 rfl) ?_
        refine lv_iadd hx hb dX4_readWord_80 ?_
        refine lv_topi (fun z_15 ez_15 => ?_)
        refine t_put0 (ci := 4) (v := .int z_15) hB hT (ro_ci r_10 rfl) (ro_n0 r_10 (by decide)) rfl 3 (by decide) k_91 (Or.inl rfl) rfl rfl dX4_readWord_81 (fun H locs hT => ?_)
        have hI : Inv (sF g1_b_9 h 3 (.int z_15)) := hI.sF (p_5_3 r_10 (⟨_, rfl⟩))
        have hM : Sm md_s_readWord g (sF g1_b_9 h 3 (.int z_15)) := hM.tr hE (Sm_sF (by rw [r_10]; rfl))
        have hE : Ex g (sF g1_b_9 h 3 (.int z_15)) := hE
        refine lv_iload_n hx hb dX4_readWord_84 rfl (lv_at hl 3 rfl) ?_
        exact t_iret hB hr hT (Nat.le_of_ble_eq_true rfl) (Nat.le_of_ble_eq_true rfl) dX4_readWord_85 ⟨wo, rfl, hI, hE, hM⟩
set_option maxHeartbeats 4000000 in
set_option maxRecDepth 100000 in
theorem s_readWord (l : Launch) (D : va_G) (cI cZ cS cR : ClassId) (N0 : NT) (g : GS) (hI : Inv g) (h : Nat) (r_h : g.1 h = 5) : Ty l D cI cZ cS cR N0 yX4_readWord cX4_readWord 6 (some .int) 4 0 0 [.ref h] g (fun v g' => ∃ (r : Int32), v = some (.int r) ∧ Inv g' ∧ Ex g g' ∧ Sm md_s_readWord g g') := by
  refine t_enter (by decide) (Nat.le_of_ble_eq_true rfl) ?_
  intro p e s m args below meth c ls H locs hB hr hin hl hT
  have hx := hB.1
  have hb := hB.2.1
  have hl : lv_has ls 6 [(0, .ref h)] := hl
  have hE : Ex g g := Ex.rf
  have hM : Sm md_s_readWord g g := Sm.rf
  refine lv_iconst (v := 0) hx hb dX4_readWord_0 (by decide) ?_
  refine lv_istore_n (lv' := [(1, .int 0), (0, .ref h)]) hx hb dX4_readWord_1 rfl hl (by decide) rfl (fun ls hl => ?_)
  refine lv_iconst (v := 0) hx hb dX4_readWord_2 (by decide) ?_
  refine lv_istore_n (lv' := [(2, .int 0), (1, .int 0), (0, .ref h)]) hx hb dX4_readWord_3 rfl hl (by decide) rfl (fun ls hl => ?_)
  exact lt_s_readWord_a l D cI cZ cS cR N0 g h r_h hB hr   8 g (0 : Int32) (0 : Int32) H locs ls hT hI hE hM (by decide) (by decide) (by have e0_ : (0 : Int32).toInt = 0 := (by decide); omega) (lv_sub hl [0, 1, 2] rfl)
abbrev md_s_readAct : Nat → Nat → Bool := mdf [(3, 3), (5, 3), (68, 99), (69, 99), (70, 99)]
theorem mdle_s_readAct_s_pappend {r k : Nat} (h : md_s_readAct r k = false) : md_s_pappend r k = false := mdf_le (by decide +kernel) h
theorem mdle_s_readAct_s_pass {r k : Nat} (h : md_s_readAct r k = false) : md_s_pass r k = false := mdf_le (by decide +kernel) h
theorem mdle_s_readAct_s_readDigit {r k : Nat} (h : md_s_readAct r k = false) : md_s_readDigit r k = false := mdf_le (by decide +kernel) h
theorem mdle_s_readAct_s_readValue {r k : Nat} (h : md_s_readAct r k = false) : md_s_readValue r k = false := mdf_le (by decide +kernel) h
theorem mdle_s_readAct_s_readWord {r k : Nat} (h : md_s_readAct r k = false) : md_s_readWord r k = false := mdf_le (by decide +kernel) h
set_option maxHeartbeats 4000000 in
set_option maxRecDepth 100000 in
theorem s_readAct (l : Launch) (D : va_G) (cI cZ cS cR : ClassId) (N0 : NT) (g : GS) (hI : Inv g) (h : Nat) (o : Nat) (r_h : g.1 h = 5) (r_o : g.1 o = 3) : Ty l D cI cZ cS cR N0 yX4_readAct cX4_readAct 5 (some .boolean) 5 0 0 [.ref h, .ref o] g (fun v g' => ∃ (r : Int32), v = some (.int r) ∧ Inv g' ∧ Ex g g' ∧ Sm md_s_readAct g g' ∧ (r = 1 ∨ r = 0)) := by
  refine t_enter (by decide) (Nat.le_of_ble_eq_true rfl) ?_
  intro p e s m args below meth c ls H locs hB hr hin hl hT
  have hx := hB.1
  have hb := hB.2.1
  have hl : lv_has ls 5 [(0, .ref h), (1, .ref o)] := hl
  have hE : Ex g g := Ex.rf
  have hM : Sm md_s_readAct g g := Sm.rf
  refine lv_aload_n hx hb dX4_readAct_0 rfl (lv_at hl 0 rfl) ?_
  refine t_callV (n := 0) (As := []) (rest := []) (ci := 4) hB hT hl.1 (s_readWord l D cI cZ cS cR N0 g hI h r_h) (ro_ci r_h rfl) rfl k_360 k_58 k_357 k_359 k_2 (by decide +kernel) ⟨(Nat.le_of_ble_eq_true rfl), (Nat.le_of_ble_eq_true rfl)⟩ rfl (Nat.le_of_ble_eq_true rfl) ⟨(Nat.le_of_ble_eq_true rfl), (Nat.le_of_ble_eq_true rfl)⟩ dX4_readAct_1 (fun v g_1 H locs hp hT => ?_)
  obtain ⟨r_2, rfl, hI, x_4, m_3⟩ := hp
  have hM : Sm md_s_readAct g g_1 := hM.tr hE (m_3.mo (fun r k h => mdle_s_readAct_s_readWord h))
  have hE : Ex g g_1 := hE.tr x_4
  have r_5 : g_1.1 h = 5 := (Ex.r x_4 r_h (by decide))
  have r_6 : g_1.1 o = 3 := (Ex.r x_4 r_o (by decide))
  refine W.eq (g2 := F0 m 4 ls [.int r_2]) rfl ?_
  refine lv_istore_n (lv' := [(2, .int r_2), (0, .ref h), (1, .ref o)]) hx hb dX4_readAct_4 rfl hl (by decide) rfl (fun ls hl => ?_)
  refine lv_iload_n hx hb dX4_readAct_5 rfl (lv_at hl 0 rfl) ?_
  refine lv_iconst (v := (-1)) hx hb dX4_readAct_6 (by decide) ?_
  refine lv_icmp_ne (tgt := 12) hx hb dX4_readAct_7 (by decide) (fun c_7 => ?_) (fun c_7 => ?_)
  · have c_7' : r_2.toInt ≠ (-1) := i_ne c_7 rfl (by decide)
    refine lv_iconst (v := 0) hx hb dX4_readAct_12 (by decide) ?_
    refine lv_istore_n (lv' := [(3, .int 0), (2, .int r_2), (0, .ref h), (1, .ref o)]) hx hb dX4_readAct_13 rfl hl (by decide) rfl (fun ls hl => ?_)
    refine lv_iload_n hx hb dX4_readAct_14 rfl (lv_at hl 1 rfl) ?_
    refine lv_bipush (v := 6) hx hb dX4_readAct_15 (by decide) ?_
    refine lv_icmp_eq (tgt := 35) hx hb dX4_readAct_17 (by decide) (fun c_8 => ?_) (fun c_8 => ?_)
    · have c_8' : r_2.toInt = 6 := i_eq c_8 rfl (by decide)
      refine lv_iload_n hx hb dX4_readAct_35 rfl (lv_at hl 0 rfl) ?_
      refine lv_iconst (v := (-1)) hx hb dX4_readAct_36 (by decide) ?_
      refine lv_icmp_ne (tgt := 42) hx hb dX4_readAct_37 (by decide) (fun c_ => ?_) (fun c_ => absurd c_ (by decide))
      refine lv_iconst (v := 0) hx hb dX4_readAct_42 (by decide) ?_
      refine lv_istore (lv' := [(4, .int 0), (3, .int 0), (2, .int r_2), (0, .ref h), (1, .ref o)]) hx hb dX4_readAct_43 hl (by decide) rfl (fun ls hl => ?_)
      refine lv_iload_n hx hb dX4_readAct_45 rfl (lv_at hl 2 rfl) ?_
      refine lv_iconst (v := 3) hx hb dX4_readAct_46 (by decide) ?_
      refine lv_icmp_eq (tgt := 80) hx hb dX4_readAct_47 (by decide) (fun c_9 => ?_) (fun c_9 => ?_)
      · have c_9' : r_2.toInt = 3 := i_eq c_9 rfl (by decide)
        exact absurd c_9' (by omega)
      · have c_9' : r_2.toInt ≠ 3 := i_ne c_9 rfl (by decide)
        refine lv_iload_n hx hb dX4_readAct_50 rfl (lv_at hl 2 rfl) ?_
        refine lv_iconst (v := 4) hx hb dX4_readAct_51 (by decide) ?_
        refine lv_icmp_eq (tgt := 80) hx hb dX4_readAct_52 (by decide) (fun c_10 => ?_) (fun c_10 => ?_)
        · have c_10' : r_2.toInt = 4 := i_eq c_10 rfl (by decide)
          exact absurd c_10' (by omega)
        · have c_10' : r_2.toInt ≠ 4 := i_ne c_10 rfl (by decide)
          refine lv_iload_n hx hb dX4_readAct_55 rfl (lv_at hl 2 rfl) ?_
          refine lv_bipush (v := 6) hx hb dX4_readAct_56 (by decide) ?_
          refine lv_icmp_eq (tgt := 70) hx hb dX4_readAct_58 (by decide) (fun c_11 => ?_) (fun c_11 => ?_)
          · have c_11' : r_2.toInt = 6 := i_eq c_11 rfl (by decide)
            refine lv_aload_n hx hb dX4_readAct_70 rfl (lv_at hl 3 rfl) ?_
            refine t_callV (n := 0) (As := []) (rest := []) (ci := 4) hB hT hl.1 (s_readValue l D cI cZ cS cR N0 g_1 hI h r_5) (ro_ci r_5 rfl) rfl k_423 k_58 k_420 k_422 k_6 (by decide +kernel) ⟨(Nat.le_of_ble_eq_true rfl), (Nat.le_of_ble_eq_true rfl)⟩ rfl (Nat.le_of_ble_eq_true rfl) ⟨(Nat.le_of_ble_eq_true rfl), (Nat.le_of_ble_eq_true rfl)⟩ dX4_readAct_71 (fun v g_12 H locs hp hT => ?_)
            obtain ⟨r_13, rfl, hI, x_15, m_14⟩ := hp
            have hM : Sm md_s_readAct g g_12 := hM.tr hE (m_14.mo (fun r k h => mdle_s_readAct_s_readValue h))
            have hE : Ex g g_12 := hE.tr x_15
            have r_16 : g_12.1 h = 5 := (Ex.r x_15 r_5 (by decide))
            have r_17 : g_12.1 o = 3 := (Ex.r x_15 r_6 (by decide))
            refine W.eq (g2 := F0 m 74 ls [.int r_13]) rfl ?_
            refine lv_goto (tgt := 78) hx hb dX4_readAct_74 (by decide) ?_
            refine lv_istore (lv' := [(4, .int r_13), (3, .int 0), (2, .int r_2), (0, .ref h), (1, .ref o)]) hx hb dX4_readAct_78 hl (by decide) rfl (fun ls hl => ?_)
            refine lv_iload hx hb dX4_readAct_80 (lv_at hl 0 rfl) ?_
            refine lv_iconst (v := (-1)) hx hb dX4_readAct_82 (by decide) ?_
            refine lv_icmp_ne (tgt := 88) hx hb dX4_readAct_83 (by decide) (fun c_18 => ?_) (fun c_18 => ?_)
            · have c_18' : r_13.toInt ≠ (-1) := i_ne c_18 rfl (by decide)
              refine lv_aload_n hx hb dX4_readAct_88 rfl (lv_at hl 4 rfl) ?_
              refine lv_iload_n hx hb dX4_readAct_89 rfl (lv_at hl 2 rfl) ?_
              refine lv_iload_n hx hb dX4_readAct_90 rfl (lv_at hl 1 rfl) ?_
              refine lv_iload hx hb dX4_readAct_91 (lv_at hl 0 rfl) ?_
              refine t_callV (n := 3) (As := [.int r_2, .int 0, .int r_13]) (rest := []) (ci := 2) hB hT hl.1 (s_pappend l D cI cZ cS cR N0 g_12 hI o r_2 0 r_13 r_17 (by have q0 : (0 : Int32).toInt = 0 := (by decide); omega) (by have q0 : (0 : Int32).toInt = 0 := (by decide); omega)) (ro_ci r_17 rfl) rfl k_427 k_61 k_424 k_425 k_426 (by decide +kernel) ⟨(Nat.le_of_ble_eq_true rfl), (Nat.le_of_ble_eq_true rfl)⟩ rfl (Nat.le_of_ble_eq_true rfl) ⟨(Nat.le_of_ble_eq_true rfl), (Nat.le_of_ble_eq_true rfl)⟩ dX4_readAct_93 (fun v g_19 H locs hp hT => ?_)
              obtain ⟨rfl, hI, x_21, m_20⟩ := hp
              have hM : Sm md_s_readAct g g_19 := hM.tr hE (m_20.mo (fun r k h => mdle_s_readAct_s_pappend h))
              have hE : Ex g g_19 := hE.tr x_21
              have r_22 : g_19.1 h = 5 := (Ex.r x_21 r_16 (by decide))
              have r_23 : g_19.1 o = 3 := (Ex.r x_21 r_17 (by decide))
              refine W.eq (g2 := F0 m 96 ls []) rfl ?_
              refine lv_iconst (v := 1) hx hb dX4_readAct_96 (by decide) ?_
              exact t_zret hB hr rfl hT (Nat.le_of_ble_eq_true rfl) (Nat.le_of_ble_eq_true rfl) dX4_readAct_97 ⟨1, rfl, hI, hE, hM, (Or.inl rfl)⟩
            · have c_18' : r_13.toInt = (-1) := i_eq c_18 rfl (by decide)
              refine lv_iconst (v := 0) hx hb dX4_readAct_86 (by decide) ?_
              exact t_zret hB hr rfl hT (Nat.le_of_ble_eq_true rfl) (Nat.le_of_ble_eq_true rfl) dX4_readAct_87 ⟨0, rfl, hI, hE, hM, (Or.inr rfl)⟩
          · have c_11' : r_2.toInt ≠ 6 := i_ne c_11 rfl (by decide)
            exact absurd c_11' (by omega)
    · have c_8' : r_2.toInt ≠ 6 := i_ne c_8 rfl (by decide)
      refine lv_aload_n hx hb dX4_readAct_20 rfl (lv_at hl 2 rfl) ?_
      refine lv_iload_n hx hb dX4_readAct_21 rfl (lv_at hl 1 rfl) ?_
      refine lv_iconst (v := 5) hx hb dX4_readAct_22 (by decide) ?_
      refine lv_icmp_ne (tgt := 30) hx hb dX4_readAct_23 (by decide) (fun c_24 => ?_) (fun c_24 => ?_)
      · have c_24' : r_2.toInt ≠ 5 := i_ne c_24 rfl (by decide)
        refine lv_iconst (v := 3) hx hb dX4_readAct_30 (by decide) ?_
        refine t_callV (n := 1) (As := [.int 3]) (rest := []) (ci := 4) hB hT hl.1 (s_readDigit l D cI cZ cS cR N0 g_1 hI h 3 r_5 (by have q0 : (3 : Int32).toInt = 3 := (by decide); omega) (by have q0 : (3 : Int32).toInt = 3 := (by decide); omega)) (ro_ci r_5 rfl) rfl k_412 k_58 k_409 k_411 k_4 (by decide +kernel) ⟨(Nat.le_of_ble_eq_true rfl), (Nat.le_of_ble_eq_true rfl)⟩ rfl (Nat.le_of_ble_eq_true rfl) ⟨(Nat.le_of_ble_eq_true rfl), (Nat.le_of_ble_eq_true rfl)⟩ dX4_readAct_31 (fun v g_25 H locs hp hT => ?_)
        obtain ⟨r_26, rfl, hI, x_29, m_28, f_27⟩ := hp
        have hM : Sm md_s_readAct g g_25 := hM.tr hE (m_28.mo (fun r k h => mdle_s_readAct_s_readDigit h))
        have hE : Ex g g_25 := hE.tr x_29
        have r_30 : g_25.1 h = 5 := (Ex.r x_29 r_5 (by decide))
        have r_31 : g_25.1 o = 3 := (Ex.r x_29 r_6 (by decide))
        refine W.eq (g2 := F0 m 34 ls [.int r_26]) rfl ?_
        have qc_32 : (3 : Int32).toInt = 3 := (by decide)
        rcases f_27 with rfl | ⟨hw_33, hw_34⟩
        · refine W.eq (g2 := F0 m 34 ls [.int (-1)]) rfl ?_
          refine lv_istore_n (lv' := [(3, .int (-1)), (2, .int r_2), (0, .ref h), (1, .ref o)]) hx hb dX4_readAct_34 rfl hl (by decide) rfl (fun ls hl => ?_)
          refine lv_iload_n hx hb dX4_readAct_35 rfl (lv_at hl 0 rfl) ?_
          refine lv_iconst (v := (-1)) hx hb dX4_readAct_36 (by decide) ?_
          refine lv_icmp_ne (tgt := 42) hx hb dX4_readAct_37 (by decide) (fun c_ => absurd (by decide) c_) (fun c_ => ?_)
          refine lv_iconst (v := 0) hx hb dX4_readAct_40 (by decide) ?_
          exact t_zret hB hr rfl hT (Nat.le_of_ble_eq_true rfl) (Nat.le_of_ble_eq_true rfl) dX4_readAct_41 ⟨0, rfl, hI, hE, hM, (Or.inr rfl)⟩
        · refine W.eq (g2 := F0 m 34 ls [.int r_26]) rfl ?_
          refine lv_istore_n (lv' := [(3, .int r_26), (2, .int r_2), (0, .ref h), (1, .ref o)]) hx hb dX4_readAct_34 rfl hl (by decide) rfl (fun ls hl => ?_)
          refine lv_iload_n hx hb dX4_readAct_35 rfl (lv_at hl 0 rfl) ?_
          refine lv_iconst (v := (-1)) hx hb dX4_readAct_36 (by decide) ?_
          refine lv_icmp_ne (tgt := 42) hx hb dX4_readAct_37 (by decide) (fun c_35 => ?_) (fun c_35 => ?_)
          · have c_35' : r_26.toInt ≠ (-1) := i_ne c_35 rfl (by decide)
            refine lv_iconst (v := 0) hx hb dX4_readAct_42 (by decide) ?_
            refine lv_istore (lv' := [(4, .int 0), (3, .int r_26), (2, .int r_2), (0, .ref h), (1, .ref o)]) hx hb dX4_readAct_43 hl (by decide) rfl (fun ls hl => ?_)
            refine lv_iload_n hx hb dX4_readAct_45 rfl (lv_at hl 2 rfl) ?_
            refine lv_iconst (v := 3) hx hb dX4_readAct_46 (by decide) ?_
            refine lv_icmp_eq (tgt := 80) hx hb dX4_readAct_47 (by decide) (fun c_36 => ?_) (fun c_36 => ?_)
            · have c_36' : r_2.toInt = 3 := i_eq c_36 rfl (by decide)
              refine lv_iload hx hb dX4_readAct_80 (lv_at hl 0 rfl) ?_
              refine lv_iconst (v := (-1)) hx hb dX4_readAct_82 (by decide) ?_
              refine lv_icmp_ne (tgt := 88) hx hb dX4_readAct_83 (by decide) (fun c_ => ?_) (fun c_ => absurd c_ (by decide))
              refine lv_aload_n hx hb dX4_readAct_88 rfl (lv_at hl 4 rfl) ?_
              refine lv_iload_n hx hb dX4_readAct_89 rfl (lv_at hl 2 rfl) ?_
              refine lv_iload_n hx hb dX4_readAct_90 rfl (lv_at hl 1 rfl) ?_
              refine lv_iload hx hb dX4_readAct_91 (lv_at hl 0 rfl) ?_
              refine t_callV (n := 3) (As := [.int r_2, .int r_26, .int 0]) (rest := []) (ci := 2) hB hT hl.1 (s_pappend l D cI cZ cS cR N0 g_25 hI o r_2 r_26 0 r_31 (by have q0 : (0 : Int32).toInt = 0 := (by decide); omega) (by have q0 : (0 : Int32).toInt = 0 := (by decide); omega)) (ro_ci r_31 rfl) rfl k_427 k_61 k_424 k_425 k_426 (by decide +kernel) ⟨(Nat.le_of_ble_eq_true rfl), (Nat.le_of_ble_eq_true rfl)⟩ rfl (Nat.le_of_ble_eq_true rfl) ⟨(Nat.le_of_ble_eq_true rfl), (Nat.le_of_ble_eq_true rfl)⟩ dX4_readAct_93 (fun v g_37 H locs hp hT => ?_)
              obtain ⟨rfl, hI, x_39, m_38⟩ := hp
              have hM : Sm md_s_readAct g g_37 := hM.tr hE (m_38.mo (fun r k h => mdle_s_readAct_s_pappend h))
              have hE : Ex g g_37 := hE.tr x_39
              have r_40 : g_37.1 h = 5 := (Ex.r x_39 r_30 (by decide))
              have r_41 : g_37.1 o = 3 := (Ex.r x_39 r_31 (by decide))
              refine W.eq (g2 := F0 m 96 ls []) rfl ?_
              refine lv_iconst (v := 1) hx hb dX4_readAct_96 (by decide) ?_
              exact t_zret hB hr rfl hT (Nat.le_of_ble_eq_true rfl) (Nat.le_of_ble_eq_true rfl) dX4_readAct_97 ⟨1, rfl, hI, hE, hM, (Or.inl rfl)⟩
            · have c_36' : r_2.toInt ≠ 3 := i_ne c_36 rfl (by decide)
              refine lv_iload_n hx hb dX4_readAct_50 rfl (lv_at hl 2 rfl) ?_
              refine lv_iconst (v := 4) hx hb dX4_readAct_51 (by decide) ?_
              refine lv_icmp_eq (tgt := 80) hx hb dX4_readAct_52 (by decide) (fun c_42 => ?_) (fun c_42 => ?_)
              · have c_42' : r_2.toInt = 4 := i_eq c_42 rfl (by decide)
                refine lv_iload hx hb dX4_readAct_80 (lv_at hl 0 rfl) ?_
                refine lv_iconst (v := (-1)) hx hb dX4_readAct_82 (by decide) ?_
                refine lv_icmp_ne (tgt := 88) hx hb dX4_readAct_83 (by decide) (fun c_ => ?_) (fun c_ => absurd c_ (by decide))
                refine lv_aload_n hx hb dX4_readAct_88 rfl (lv_at hl 4 rfl) ?_
                refine lv_iload_n hx hb dX4_readAct_89 rfl (lv_at hl 2 rfl) ?_
                refine lv_iload_n hx hb dX4_readAct_90 rfl (lv_at hl 1 rfl) ?_
                refine lv_iload hx hb dX4_readAct_91 (lv_at hl 0 rfl) ?_
                refine t_callV (n := 3) (As := [.int r_2, .int r_26, .int 0]) (rest := []) (ci := 2) hB hT hl.1 (s_pappend l D cI cZ cS cR N0 g_25 hI o r_2 r_26 0 r_31 (by have q0 : (0 : Int32).toInt = 0 := (by decide); omega) (by have q0 : (0 : Int32).toInt = 0 := (by decide); omega)) (ro_ci r_31 rfl) rfl k_427 k_61 k_424 k_425 k_426 (by decide +kernel) ⟨(Nat.le_of_ble_eq_true rfl), (Nat.le_of_ble_eq_true rfl)⟩ rfl (Nat.le_of_ble_eq_true rfl) ⟨(Nat.le_of_ble_eq_true rfl), (Nat.le_of_ble_eq_true rfl)⟩ dX4_readAct_93 (fun v g_43 H locs hp hT => ?_)
                obtain ⟨rfl, hI, x_45, m_44⟩ := hp
                have hM : Sm md_s_readAct g g_43 := hM.tr hE (m_44.mo (fun r k h => mdle_s_readAct_s_pappend h))
                have hE : Ex g g_43 := hE.tr x_45
                have r_46 : g_43.1 h = 5 := (Ex.r x_45 r_30 (by decide))
                have r_47 : g_43.1 o = 3 := (Ex.r x_45 r_31 (by decide))
                refine W.eq (g2 := F0 m 96 ls []) rfl ?_
                refine lv_iconst (v := 1) hx hb dX4_readAct_96 (by decide) ?_
                exact t_zret hB hr rfl hT (Nat.le_of_ble_eq_true rfl) (Nat.le_of_ble_eq_true rfl) dX4_readAct_97 ⟨1, rfl, hI, hE, hM, (Or.inl rfl)⟩
              · have c_42' : r_2.toInt ≠ 4 := i_ne c_42 rfl (by decide)
                refine lv_iload_n hx hb dX4_readAct_55 rfl (lv_at hl 2 rfl) ?_
                refine lv_bipush (v := 6) hx hb dX4_readAct_56 (by decide) ?_
                refine lv_icmp_eq (tgt := 70) hx hb dX4_readAct_58 (by decide) (fun c_48 => ?_) (fun c_48 => ?_)
                · have c_48' : r_2.toInt = 6 := i_eq c_48 rfl (by decide)
                  refine lv_aload_n hx hb dX4_readAct_70 rfl (lv_at hl 3 rfl) ?_
                  refine t_callV (n := 0) (As := []) (rest := []) (ci := 4) hB hT hl.1 (s_readValue l D cI cZ cS cR N0 g_25 hI h r_30) (ro_ci r_30 rfl) rfl k_423 k_58 k_420 k_422 k_6 (by decide +kernel) ⟨(Nat.le_of_ble_eq_true rfl), (Nat.le_of_ble_eq_true rfl)⟩ rfl (Nat.le_of_ble_eq_true rfl) ⟨(Nat.le_of_ble_eq_true rfl), (Nat.le_of_ble_eq_true rfl)⟩ dX4_readAct_71 (fun v g_49 H locs hp hT => ?_)
                  obtain ⟨r_50, rfl, hI, x_52, m_51⟩ := hp
                  have hM : Sm md_s_readAct g g_49 := hM.tr hE (m_51.mo (fun r k h => mdle_s_readAct_s_readValue h))
                  have hE : Ex g g_49 := hE.tr x_52
                  have r_53 : g_49.1 h = 5 := (Ex.r x_52 r_30 (by decide))
                  have r_54 : g_49.1 o = 3 := (Ex.r x_52 r_31 (by decide))
                  refine W.eq (g2 := F0 m 74 ls [.int r_50]) rfl ?_
                  refine lv_goto (tgt := 78) hx hb dX4_readAct_74 (by decide) ?_
                  refine lv_istore (lv' := [(4, .int r_50), (3, .int r_26), (2, .int r_2), (0, .ref h), (1, .ref o)]) hx hb dX4_readAct_78 hl (by decide) rfl (fun ls hl => ?_)
                  refine lv_iload hx hb dX4_readAct_80 (lv_at hl 0 rfl) ?_
                  refine lv_iconst (v := (-1)) hx hb dX4_readAct_82 (by decide) ?_
                  refine lv_icmp_ne (tgt := 88) hx hb dX4_readAct_83 (by decide) (fun c_55 => ?_) (fun c_55 => ?_)
                  · have c_55' : r_50.toInt ≠ (-1) := i_ne c_55 rfl (by decide)
                    refine lv_aload_n hx hb dX4_readAct_88 rfl (lv_at hl 4 rfl) ?_
                    refine lv_iload_n hx hb dX4_readAct_89 rfl (lv_at hl 2 rfl) ?_
                    refine lv_iload_n hx hb dX4_readAct_90 rfl (lv_at hl 1 rfl) ?_
                    refine lv_iload hx hb dX4_readAct_91 (lv_at hl 0 rfl) ?_
                    refine t_callV (n := 3) (As := [.int r_2, .int r_26, .int r_50]) (rest := []) (ci := 2) hB hT hl.1 (s_pappend l D cI cZ cS cR N0 g_49 hI o r_2 r_26 r_50 r_54 (by omega) (by omega)) (ro_ci r_54 rfl) rfl k_427 k_61 k_424 k_425 k_426 (by decide +kernel) ⟨(Nat.le_of_ble_eq_true rfl), (Nat.le_of_ble_eq_true rfl)⟩ rfl (Nat.le_of_ble_eq_true rfl) ⟨(Nat.le_of_ble_eq_true rfl), (Nat.le_of_ble_eq_true rfl)⟩ dX4_readAct_93 (fun v g_56 H locs hp hT => ?_)
                    obtain ⟨rfl, hI, x_58, m_57⟩ := hp
                    have hM : Sm md_s_readAct g g_56 := hM.tr hE (m_57.mo (fun r k h => mdle_s_readAct_s_pappend h))
                    have hE : Ex g g_56 := hE.tr x_58
                    have r_59 : g_56.1 h = 5 := (Ex.r x_58 r_53 (by decide))
                    have r_60 : g_56.1 o = 3 := (Ex.r x_58 r_54 (by decide))
                    refine W.eq (g2 := F0 m 96 ls []) rfl ?_
                    refine lv_iconst (v := 1) hx hb dX4_readAct_96 (by decide) ?_
                    exact t_zret hB hr rfl hT (Nat.le_of_ble_eq_true rfl) (Nat.le_of_ble_eq_true rfl) dX4_readAct_97 ⟨1, rfl, hI, hE, hM, (Or.inl rfl)⟩
                  · have c_55' : r_50.toInt = (-1) := i_eq c_55 rfl (by decide)
                    refine lv_iconst (v := 0) hx hb dX4_readAct_86 (by decide) ?_
                    exact t_zret hB hr rfl hT (Nat.le_of_ble_eq_true rfl) (Nat.le_of_ble_eq_true rfl) dX4_readAct_87 ⟨0, rfl, hI, hE, hM, (Or.inr rfl)⟩
                · have c_48' : r_2.toInt ≠ 6 := i_ne c_48 rfl (by decide)
                  refine lv_aload_n hx hb dX4_readAct_61 rfl (lv_at hl 3 rfl) ?_
                  refine lv_bipush (v := 32) hx hb dX4_readAct_62 (by decide) ?_
                  refine t_callV (n := 1) (As := [.int 32]) (rest := []) (ci := 4) hB hT hl.1 (s_pass l D cI cZ cS cR N0 g_25 hI h 32 r_30) (ro_ci r_30 rfl) rfl k_419 k_58 k_416 k_418 k_5 (by decide +kernel) ⟨(Nat.le_of_ble_eq_true rfl), (Nat.le_of_ble_eq_true rfl)⟩ rfl (Nat.le_of_ble_eq_true rfl) ⟨(Nat.le_of_ble_eq_true rfl), (Nat.le_of_ble_eq_true rfl)⟩ dX4_readAct_64 (fun v g_61 H locs hp hT => ?_)
                  obtain ⟨r_62, rfl, hI, x_65, m_64, f_63⟩ := hp
                  have hM : Sm md_s_readAct g g_61 := hM.tr hE (m_64.mo (fun r k h => mdle_s_readAct_s_pass h))
                  have hE : Ex g g_61 := hE.tr x_65
                  have r_66 : g_61.1 h = 5 := (Ex.r x_65 r_30 (by decide))
                  have r_67 : g_61.1 o = 3 := (Ex.r x_65 r_31 (by decide))
                  refine W.eq (g2 := F0 m 67 ls [.int r_62]) rfl ?_
                  have qc_68 : (32 : Int32).toInt = 32 := (by decide)
                  rcases f_63 with rfl | rfl
                  · refine W.eq (g2 := F0 m 67 ls [.int 1]) rfl ?_
                    refine lv_if_eq (tgt := 77) hx hb dX4_readAct_67 (by decide) (fun c_ => absurd c_ (by decide)) (fun c_ => ?_)
                    refine lv_aload_n hx hb dX4_readAct_70 rfl (lv_at hl 3 rfl) ?_
                    refine t_callV (n := 0) (As := []) (rest := []) (ci := 4) hB hT hl.1 (s_readValue l D cI cZ cS cR N0 g_61 hI h r_66) (ro_ci r_66 rfl) rfl k_423 k_58 k_420 k_422 k_6 (by decide +kernel) ⟨(Nat.le_of_ble_eq_true rfl), (Nat.le_of_ble_eq_true rfl)⟩ rfl (Nat.le_of_ble_eq_true rfl) ⟨(Nat.le_of_ble_eq_true rfl), (Nat.le_of_ble_eq_true rfl)⟩ dX4_readAct_71 (fun v g_69 H locs hp hT => ?_)
                    obtain ⟨r_70, rfl, hI, x_72, m_71⟩ := hp
                    have hM : Sm md_s_readAct g g_69 := hM.tr hE (m_71.mo (fun r k h => mdle_s_readAct_s_readValue h))
                    have hE : Ex g g_69 := hE.tr x_72
                    have r_73 : g_69.1 h = 5 := (Ex.r x_72 r_66 (by decide))
                    have r_74 : g_69.1 o = 3 := (Ex.r x_72 r_67 (by decide))
                    refine W.eq (g2 := F0 m 74 ls [.int r_70]) rfl ?_
                    refine lv_goto (tgt := 78) hx hb dX4_readAct_74 (by decide) ?_
                    refine lv_istore (lv' := [(4, .int r_70), (3, .int r_26), (2, .int r_2), (0, .ref h), (1, .ref o)]) hx hb dX4_readAct_78 hl (by decide) rfl (fun ls hl => ?_)
                    refine lv_iload hx hb dX4_readAct_80 (lv_at hl 0 rfl) ?_
                    refine lv_iconst (v := (-1)) hx hb dX4_readAct_82 (by decide) ?_
                    refine lv_icmp_ne (tgt := 88) hx hb dX4_readAct_83 (by decide) (fun c_75 => ?_) (fun c_75 => ?_)
                    · have c_75' : r_70.toInt ≠ (-1) := i_ne c_75 rfl (by decide)
                      refine lv_aload_n hx hb dX4_readAct_88 rfl (lv_at hl 4 rfl) ?_
                      refine lv_iload_n hx hb dX4_readAct_89 rfl (lv_at hl 2 rfl) ?_
                      refine lv_iload_n hx hb dX4_readAct_90 rfl (lv_at hl 1 rfl) ?_
                      refine lv_iload hx hb dX4_readAct_91 (lv_at hl 0 rfl) ?_
                      refine t_callV (n := 3) (As := [.int r_2, .int r_26, .int r_70]) (rest := []) (ci := 2) hB hT hl.1 (s_pappend l D cI cZ cS cR N0 g_69 hI o r_2 r_26 r_70 r_74 (by omega) (by omega)) (ro_ci r_74 rfl) rfl k_427 k_61 k_424 k_425 k_426 (by decide +kernel) ⟨(Nat.le_of_ble_eq_true rfl), (Nat.le_of_ble_eq_true rfl)⟩ rfl (Nat.le_of_ble_eq_true rfl) ⟨(Nat.le_of_ble_eq_true rfl), (Nat.le_of_ble_eq_true rfl)⟩ dX4_readAct_93 (fun v g_76 H locs hp hT => ?_)
                      obtain ⟨rfl, hI, x_78, m_77⟩ := hp
                      have hM : Sm md_s_readAct g g_76 := hM.tr hE (m_77.mo (fun r k h => mdle_s_readAct_s_pappend h))
                      have hE : Ex g g_76 := hE.tr x_78
                      have r_79 : g_76.1 h = 5 := (Ex.r x_78 r_73 (by decide))
                      have r_80 : g_76.1 o = 3 := (Ex.r x_78 r_74 (by decide))
                      refine W.eq (g2 := F0 m 96 ls []) rfl ?_
                      refine lv_iconst (v := 1) hx hb dX4_readAct_96 (by decide) ?_
                      exact t_zret hB hr rfl hT (Nat.le_of_ble_eq_true rfl) (Nat.le_of_ble_eq_true rfl) dX4_readAct_97 ⟨1, rfl, hI, hE, hM, (Or.inl rfl)⟩
                    · have c_75' : r_70.toInt = (-1) := i_eq c_75 rfl (by decide)
                      refine lv_iconst (v := 0) hx hb dX4_readAct_86 (by decide) ?_
                      exact t_zret hB hr rfl hT (Nat.le_of_ble_eq_true rfl) (Nat.le_of_ble_eq_true rfl) dX4_readAct_87 ⟨0, rfl, hI, hE, hM, (Or.inr rfl)⟩
                  · refine W.eq (g2 := F0 m 67 ls [.int 0]) rfl ?_
                    refine lv_if_eq (tgt := 77) hx hb dX4_readAct_67 (by decide) (fun c_ => ?_) (fun c_ => absurd (by decide) c_)
                    refine lv_iconst (v := (-1)) hx hb dX4_readAct_77 (by decide) ?_
                    refine lv_istore (lv' := [(4, .int (-1)), (3, .int r_26), (2, .int r_2), (0, .ref h), (1, .ref o)]) hx hb dX4_readAct_78 hl (by decide) rfl (fun ls hl => ?_)
                    refine lv_iload hx hb dX4_readAct_80 (lv_at hl 0 rfl) ?_
                    refine lv_iconst (v := (-1)) hx hb dX4_readAct_82 (by decide) ?_
                    refine lv_icmp_ne (tgt := 88) hx hb dX4_readAct_83 (by decide) (fun c_ => absurd (by decide) c_) (fun c_ => ?_)
                    refine lv_iconst (v := 0) hx hb dX4_readAct_86 (by decide) ?_
                    exact t_zret hB hr rfl hT (Nat.le_of_ble_eq_true rfl) (Nat.le_of_ble_eq_true rfl) dX4_readAct_87 ⟨0, rfl, hI, hE, hM, (Or.inr rfl)⟩
          · have c_35' : r_26.toInt = (-1) := i_eq c_35 rfl (by decide)
            exact absurd c_35' (by omega)
      · have c_24' : r_2.toInt = 5 := i_eq c_24 rfl (by decide)
        refine lv_iconst (v := 5) hx hb dX4_readAct_26 (by decide) ?_
        refine lv_goto (tgt := 31) hx hb dX4_readAct_27 (by decide) ?_
        refine t_callV (n := 1) (As := [.int 5]) (rest := []) (ci := 4) hB hT hl.1 (s_readDigit l D cI cZ cS cR N0 g_1 hI h 5 r_5 (by have q0 : (5 : Int32).toInt = 5 := (by decide); omega) (by have q0 : (5 : Int32).toInt = 5 := (by decide); omega)) (ro_ci r_5 rfl) rfl k_412 k_58 k_409 k_411 k_4 (by decide +kernel) ⟨(Nat.le_of_ble_eq_true rfl), (Nat.le_of_ble_eq_true rfl)⟩ rfl (Nat.le_of_ble_eq_true rfl) ⟨(Nat.le_of_ble_eq_true rfl), (Nat.le_of_ble_eq_true rfl)⟩ dX4_readAct_31 (fun v g_81 H locs hp hT => ?_)
        obtain ⟨r_82, rfl, hI, x_85, m_84, f_83⟩ := hp
        have hM : Sm md_s_readAct g g_81 := hM.tr hE (m_84.mo (fun r k h => mdle_s_readAct_s_readDigit h))
        have hE : Ex g g_81 := hE.tr x_85
        have r_86 : g_81.1 h = 5 := (Ex.r x_85 r_5 (by decide))
        have r_87 : g_81.1 o = 3 := (Ex.r x_85 r_6 (by decide))
        refine W.eq (g2 := F0 m 34 ls [.int r_82]) rfl ?_
        have qc_88 : (5 : Int32).toInt = 5 := (by decide)
        rcases f_83 with rfl | ⟨hw_89, hw_90⟩
        · refine W.eq (g2 := F0 m 34 ls [.int (-1)]) rfl ?_
          refine lv_istore_n (lv' := [(3, .int (-1)), (2, .int r_2), (0, .ref h), (1, .ref o)]) hx hb dX4_readAct_34 rfl hl (by decide) rfl (fun ls hl => ?_)
          refine lv_iload_n hx hb dX4_readAct_35 rfl (lv_at hl 0 rfl) ?_
          refine lv_iconst (v := (-1)) hx hb dX4_readAct_36 (by decide) ?_
          refine lv_icmp_ne (tgt := 42) hx hb dX4_readAct_37 (by decide) (fun c_ => absurd (by decide) c_) (fun c_ => ?_)
          refine lv_iconst (v := 0) hx hb dX4_readAct_40 (by decide) ?_
          exact t_zret hB hr rfl hT (Nat.le_of_ble_eq_true rfl) (Nat.le_of_ble_eq_true rfl) dX4_readAct_41 ⟨0, rfl, hI, hE, hM, (Or.inr rfl)⟩
        · refine W.eq (g2 := F0 m 34 ls [.int r_82]) rfl ?_
          refine lv_istore_n (lv' := [(3, .int r_82), (2, .int r_2), (0, .ref h), (1, .ref o)]) hx hb dX4_readAct_34 rfl hl (by decide) rfl (fun ls hl => ?_)
          refine lv_iload_n hx hb dX4_readAct_35 rfl (lv_at hl 0 rfl) ?_
          refine lv_iconst (v := (-1)) hx hb dX4_readAct_36 (by decide) ?_
          refine lv_icmp_ne (tgt := 42) hx hb dX4_readAct_37 (by decide) (fun c_91 => ?_) (fun c_91 => ?_)
          · have c_91' : r_82.toInt ≠ (-1) := i_ne c_91 rfl (by decide)
            refine lv_iconst (v := 0) hx hb dX4_readAct_42 (by decide) ?_
            refine lv_istore (lv' := [(4, .int 0), (3, .int r_82), (2, .int r_2), (0, .ref h), (1, .ref o)]) hx hb dX4_readAct_43 hl (by decide) rfl (fun ls hl => ?_)
            refine lv_iload_n hx hb dX4_readAct_45 rfl (lv_at hl 2 rfl) ?_
            refine lv_iconst (v := 3) hx hb dX4_readAct_46 (by decide) ?_
            refine lv_icmp_eq (tgt := 80) hx hb dX4_readAct_47 (by decide) (fun c_92 => ?_) (fun c_92 => ?_)
            · have c_92' : r_2.toInt = 3 := i_eq c_92 rfl (by decide)
              exact absurd c_92' (by omega)
            · have c_92' : r_2.toInt ≠ 3 := i_ne c_92 rfl (by decide)
              refine lv_iload_n hx hb dX4_readAct_50 rfl (lv_at hl 2 rfl) ?_
              refine lv_iconst (v := 4) hx hb dX4_readAct_51 (by decide) ?_
              refine lv_icmp_eq (tgt := 80) hx hb dX4_readAct_52 (by decide) (fun c_93 => ?_) (fun c_93 => ?_)
              · have c_93' : r_2.toInt = 4 := i_eq c_93 rfl (by decide)
                exact absurd c_93' (by omega)
              · have c_93' : r_2.toInt ≠ 4 := i_ne c_93 rfl (by decide)
                refine lv_iload_n hx hb dX4_readAct_55 rfl (lv_at hl 2 rfl) ?_
                refine lv_bipush (v := 6) hx hb dX4_readAct_56 (by decide) ?_
                refine lv_icmp_eq (tgt := 70) hx hb dX4_readAct_58 (by decide) (fun c_94 => ?_) (fun c_94 => ?_)
                · have c_94' : r_2.toInt = 6 := i_eq c_94 rfl (by decide)
                  exact absurd c_94' (by omega)
                · have c_94' : r_2.toInt ≠ 6 := i_ne c_94 rfl (by decide)
                  refine lv_aload_n hx hb dX4_readAct_61 rfl (lv_at hl 3 rfl) ?_
                  refine lv_bipush (v := 32) hx hb dX4_readAct_62 (by decide) ?_
                  refine t_callV (n := 1) (As := [.int 32]) (rest := []) (ci := 4) hB hT hl.1 (s_pass l D cI cZ cS cR N0 g_81 hI h 32 r_86) (ro_ci r_86 rfl) rfl k_419 k_58 k_416 k_418 k_5 (by decide +kernel) ⟨(Nat.le_of_ble_eq_true rfl), (Nat.le_of_ble_eq_true rfl)⟩ rfl (Nat.le_of_ble_eq_true rfl) ⟨(Nat.le_of_ble_eq_true rfl), (Nat.le_of_ble_eq_true rfl)⟩ dX4_readAct_64 (fun v g_95 H locs hp hT => ?_)
                  obtain ⟨r_96, rfl, hI, x_99, m_98, f_97⟩ := hp
                  have hM : Sm md_s_readAct g g_95 := hM.tr hE (m_98.mo (fun r k h => mdle_s_readAct_s_pass h))
                  have hE : Ex g g_95 := hE.tr x_99
                  have r_100 : g_95.1 h = 5 := (Ex.r x_99 r_86 (by decide))
                  have r_101 : g_95.1 o = 3 := (Ex.r x_99 r_87 (by decide))
                  refine W.eq (g2 := F0 m 67 ls [.int r_96]) rfl ?_
                  have qc_102 : (32 : Int32).toInt = 32 := (by decide)
                  rcases f_97 with rfl | rfl
                  · refine W.eq (g2 := F0 m 67 ls [.int 1]) rfl ?_
                    refine lv_if_eq (tgt := 77) hx hb dX4_readAct_67 (by decide) (fun c_ => absurd c_ (by decide)) (fun c_ => ?_)
                    refine lv_aload_n hx hb dX4_readAct_70 rfl (lv_at hl 3 rfl) ?_
                    refine t_callV (n := 0) (As := []) (rest := []) (ci := 4) hB hT hl.1 (s_readValue l D cI cZ cS cR N0 g_95 hI h r_100) (ro_ci r_100 rfl) rfl k_423 k_58 k_420 k_422 k_6 (by decide +kernel) ⟨(Nat.le_of_ble_eq_true rfl), (Nat.le_of_ble_eq_true rfl)⟩ rfl (Nat.le_of_ble_eq_true rfl) ⟨(Nat.le_of_ble_eq_true rfl), (Nat.le_of_ble_eq_true rfl)⟩ dX4_readAct_71 (fun v g_103 H locs hp hT => ?_)
                    obtain ⟨r_104, rfl, hI, x_106, m_105⟩ := hp
                    have hM : Sm md_s_readAct g g_103 := hM.tr hE (m_105.mo (fun r k h => mdle_s_readAct_s_readValue h))
                    have hE : Ex g g_103 := hE.tr x_106
                    have r_107 : g_103.1 h = 5 := (Ex.r x_106 r_100 (by decide))
                    have r_108 : g_103.1 o = 3 := (Ex.r x_106 r_101 (by decide))
                    refine W.eq (g2 := F0 m 74 ls [.int r_104]) rfl ?_
                    refine lv_goto (tgt := 78) hx hb dX4_readAct_74 (by decide) ?_
                    refine lv_istore (lv' := [(4, .int r_104), (3, .int r_82), (2, .int r_2), (0, .ref h), (1, .ref o)]) hx hb dX4_readAct_78 hl (by decide) rfl (fun ls hl => ?_)
                    refine lv_iload hx hb dX4_readAct_80 (lv_at hl 0 rfl) ?_
                    refine lv_iconst (v := (-1)) hx hb dX4_readAct_82 (by decide) ?_
                    refine lv_icmp_ne (tgt := 88) hx hb dX4_readAct_83 (by decide) (fun c_109 => ?_) (fun c_109 => ?_)
                    · have c_109' : r_104.toInt ≠ (-1) := i_ne c_109 rfl (by decide)
                      refine lv_aload_n hx hb dX4_readAct_88 rfl (lv_at hl 4 rfl) ?_
                      refine lv_iload_n hx hb dX4_readAct_89 rfl (lv_at hl 2 rfl) ?_
                      refine lv_iload_n hx hb dX4_readAct_90 rfl (lv_at hl 1 rfl) ?_
                      refine lv_iload hx hb dX4_readAct_91 (lv_at hl 0 rfl) ?_
                      refine t_callV (n := 3) (As := [.int r_2, .int r_82, .int r_104]) (rest := []) (ci := 2) hB hT hl.1 (s_pappend l D cI cZ cS cR N0 g_103 hI o r_2 r_82 r_104 r_108 (by omega) (by omega)) (ro_ci r_108 rfl) rfl k_427 k_61 k_424 k_425 k_426 (by decide +kernel) ⟨(Nat.le_of_ble_eq_true rfl), (Nat.le_of_ble_eq_true rfl)⟩ rfl (Nat.le_of_ble_eq_true rfl) ⟨(Nat.le_of_ble_eq_true rfl), (Nat.le_of_ble_eq_true rfl)⟩ dX4_readAct_93 (fun v g_110 H locs hp hT => ?_)
                      obtain ⟨rfl, hI, x_112, m_111⟩ := hp
                      have hM : Sm md_s_readAct g g_110 := hM.tr hE (m_111.mo (fun r k h => mdle_s_readAct_s_pappend h))
                      have hE : Ex g g_110 := hE.tr x_112
                      have r_113 : g_110.1 h = 5 := (Ex.r x_112 r_107 (by decide))
                      have r_114 : g_110.1 o = 3 := (Ex.r x_112 r_108 (by decide))
                      refine W.eq (g2 := F0 m 96 ls []) rfl ?_
                      refine lv_iconst (v := 1) hx hb dX4_readAct_96 (by decide) ?_
                      exact t_zret hB hr rfl hT (Nat.le_of_ble_eq_true rfl) (Nat.le_of_ble_eq_true rfl) dX4_readAct_97 ⟨1, rfl, hI, hE, hM, (Or.inl rfl)⟩
                    · have c_109' : r_104.toInt = (-1) := i_eq c_109 rfl (by decide)
                      refine lv_iconst (v := 0) hx hb dX4_readAct_86 (by decide) ?_
                      exact t_zret hB hr rfl hT (Nat.le_of_ble_eq_true rfl) (Nat.le_of_ble_eq_true rfl) dX4_readAct_87 ⟨0, rfl, hI, hE, hM, (Or.inr rfl)⟩
                  · refine W.eq (g2 := F0 m 67 ls [.int 0]) rfl ?_
                    refine lv_if_eq (tgt := 77) hx hb dX4_readAct_67 (by decide) (fun c_ => ?_) (fun c_ => absurd (by decide) c_)
                    refine lv_iconst (v := (-1)) hx hb dX4_readAct_77 (by decide) ?_
                    refine lv_istore (lv' := [(4, .int (-1)), (3, .int r_82), (2, .int r_2), (0, .ref h), (1, .ref o)]) hx hb dX4_readAct_78 hl (by decide) rfl (fun ls hl => ?_)
                    refine lv_iload hx hb dX4_readAct_80 (lv_at hl 0 rfl) ?_
                    refine lv_iconst (v := (-1)) hx hb dX4_readAct_82 (by decide) ?_
                    refine lv_icmp_ne (tgt := 88) hx hb dX4_readAct_83 (by decide) (fun c_ => absurd (by decide) c_) (fun c_ => ?_)
                    refine lv_iconst (v := 0) hx hb dX4_readAct_86 (by decide) ?_
                    exact t_zret hB hr rfl hT (Nat.le_of_ble_eq_true rfl) (Nat.le_of_ble_eq_true rfl) dX4_readAct_87 ⟨0, rfl, hI, hE, hM, (Or.inr rfl)⟩
          · have c_91' : r_82.toInt = (-1) := i_eq c_91 rfl (by decide)
            exact absurd c_91' (by omega)
  · have c_7' : r_2.toInt = (-1) := i_eq c_7 rfl (by decide)
    refine lv_iconst (v := 0) hx hb dX4_readAct_10 (by decide) ?_
    exact t_zret hB hr rfl hT (Nat.le_of_ble_eq_true rfl) (Nat.le_of_ble_eq_true rfl) dX4_readAct_11 ⟨0, rfl, hI, hE, hM, (Or.inr rfl)⟩
abbrev md_s_readActs : Nat → Nat → Bool := mdf [(3, 3), (5, 3), (68, 99), (69, 99), (70, 99)]
theorem mdle_s_readActs_s_pass {r k : Nat} (h : md_s_readActs r k = false) : md_s_pass r k = false := mdf_le (by decide +kernel) h
theorem mdle_s_readActs_s_readAct {r k : Nat} (h : md_s_readActs r k = false) : md_s_readAct r k = false := mdf_le (by decide +kernel) h
set_option maxHeartbeats 4000000 in
set_option maxRecDepth 100000 in
theorem lt_s_readActs_a (l : Launch) (D : va_G) (cI cZ cS cR : ClassId) (N0 : NT) (g : GS) (h : Nat) (o : Nat) (r_h : g.1 h = 5) (r_o : g.1 o = 3) {p : Program} {e : Env} {s : State} {m : MethodId} {args : Array Value} {below : List Frame} {meth : Method} {c : Code} (hB : Tz p s m meth c args cX4_readActs 3 RX4 D cI cZ cS cR N0) (hr : meth.sig.returnType = (some .boolean))    : ∀ (kf : Nat) (g1 : GS) (i : Int32)  (H : Heap) (locs : List Loc) (ls : Array Slot), Tv D cI cZ cS cR N0 s.heap H locs g1 → Inv g1 → Ex g g1 → Sm md_s_readActs g g1 → 0 ≤ i.toInt → i.toInt ≤ 8 → (8 ≤ i.toInt + kf) → lv_has ls 3 [(2, .int i), (0, .ref h), (1, .ref o)] → W p l e (rmx 6 0 0) s m args below meth c H locs 0 0 (MQ below (tQ D cI cZ cS cR N0 (fun v g' => ∃ (r : Int32), v = some (.int r) ∧ Inv g' ∧ Ex g g' ∧ Sm md_s_readActs g g' ∧ (r = 1 ∨ r = 0))) args s 0 0 (fun q => N0.1 ≤ q)) (F0 m 2 ls []) := by
  have hx := hB.1
  have hb := hB.2.1
  intro kf
  induction kf using Nat.strongRecOn with
  | ind kf ih =>
    intro g1 i H locs ls hT hI hE hM l_i u_i hk hl
    have r_1 : g1.1 h = 5 := Ex.r hE r_h (by decide)
    have r_2 : g1.1 o = 3 := Ex.r hE r_o (by decide)
    refine lv_iload_n hx hb dX4_readActs_2 rfl (lv_at hl 0 rfl) ?_
    refine lv_bipush (v := 8) hx hb dX4_readActs_3 (by decide) ?_
    refine lv_icmp_ge (tgt := 42) hx hb dX4_readActs_5 (by decide) (fun c_3 => ?_) (fun c_3 => ?_)
    · have c_3' : 8 ≤ i.toInt := i_le c_3 (by decide) rfl
      refine lv_iconst (v := 1) hx hb dX4_readActs_42 (by decide) ?_
      exact t_zret hB hr rfl hT (Nat.le_of_ble_eq_true rfl) (Nat.le_of_ble_eq_true rfl) dX4_readActs_43 ⟨1, rfl, hI, hE, hM, (Or.inl rfl)⟩
    · have c_3' : i.toInt < 8 := i_nle c_3 (by decide) rfl
      refine lv_aload_n hx hb dX4_readActs_8 rfl (lv_at hl 1 rfl) ?_
      refine lv_aload_n hx hb dX4_readActs_9 rfl (lv_at hl 2 rfl) ?_
      refine t_callV (n := 1) (As := [.ref o]) (rest := []) (ci := 4) hB hT hl.1 (s_readAct l D cI cZ cS cR N0 g1 hI h o r_1 r_2) (ro_ci r_1 rfl) rfl k_356 k_58 k_353 k_355 k_1 (by decide +kernel) ⟨(Nat.le_of_ble_eq_true rfl), (Nat.le_of_ble_eq_true rfl)⟩ rfl (Nat.le_of_ble_eq_true rfl) ⟨(Nat.le_of_ble_eq_true rfl), (Nat.le_of_ble_eq_true rfl)⟩ dX4_readActs_10 (fun v g_4 H locs hp hT => ?_)
      obtain ⟨r_5, rfl, hI, x_8, m_7, f_6⟩ := hp
      have hM : Sm md_s_readActs g g_4 := hM.tr hE (m_7.mo (fun r k h => mdle_s_readActs_s_readAct h))
      have hE : Ex g g_4 := hE.tr x_8
      have r_9 : g_4.1 h = 5 := (Ex.r x_8 r_1 (by decide))
      have r_10 : g_4.1 o = 3 := (Ex.r x_8 r_2 (by decide))
      refine W.eq (g2 := F0 m 13 ls [.int r_5]) rfl ?_
      rcases f_6 with rfl | rfl
      · refine W.eq (g2 := F0 m 13 ls [.int 1]) rfl ?_
        refine lv_if_ne (tgt := 18) hx hb dX4_readActs_13 (by decide) (fun c_ => ?_) (fun c_ => absurd c_ (by decide))
        refine lv_iload_n hx hb dX4_readActs_18 rfl (lv_at hl 0 rfl) ?_
        refine lv_bipush (v := 7) hx hb dX4_readActs_19 (by decide) ?_
        refine lv_icmp_eq (tgt := 42) hx hb dX4_readActs_21 (by decide) (fun c_11 => ?_) (fun c_11 => ?_)
        · have c_11' : i.toInt = 7 := i_eq c_11 rfl (by decide)
          refine lv_iconst (v := 1) hx hb dX4_readActs_42 (by decide) ?_
          exact t_zret hB hr rfl hT (Nat.le_of_ble_eq_true rfl) (Nat.le_of_ble_eq_true rfl) dX4_readActs_43 ⟨1, rfl, hI, hE, hM, (Or.inl rfl)⟩
        · have c_11' : i.toInt ≠ 7 := i_ne c_11 rfl (by decide)
          refine lv_aload_n hx hb dX4_readActs_24 rfl (lv_at hl 1 rfl) ?_
          refine lv_bipush (v := 59) hx hb dX4_readActs_25 (by decide) ?_
          refine t_callV (n := 1) (As := [.int 59]) (rest := []) (ci := 4) hB hT hl.1 (s_pass l D cI cZ cS cR N0 g_4 hI h 59 r_9) (ro_ci r_9 rfl) rfl k_419 k_58 k_416 k_418 k_5 (by decide +kernel) ⟨(Nat.le_of_ble_eq_true rfl), (Nat.le_of_ble_eq_true rfl)⟩ rfl (Nat.le_of_ble_eq_true rfl) ⟨(Nat.le_of_ble_eq_true rfl), (Nat.le_of_ble_eq_true rfl)⟩ dX4_readActs_27 (fun v g_12 H locs hp hT => ?_)
          obtain ⟨r_13, rfl, hI, x_16, m_15, f_14⟩ := hp
          have hM : Sm md_s_readActs g g_12 := hM.tr hE (m_15.mo (fun r k h => mdle_s_readActs_s_pass h))
          have hE : Ex g g_12 := hE.tr x_16
          have r_17 : g_12.1 h = 5 := (Ex.r x_16 r_9 (by decide))
          have r_18 : g_12.1 o = 3 := (Ex.r x_16 r_10 (by decide))
          refine W.eq (g2 := F0 m 30 ls [.int r_13]) rfl ?_
          have qc_19 : (59 : Int32).toInt = 59 := (by decide)
          rcases f_14 with rfl | rfl
          · refine W.eq (g2 := F0 m 30 ls [.int 1]) rfl ?_
            refine lv_if_ne (tgt := 36) hx hb dX4_readActs_30 (by decide) (fun c_ => ?_) (fun c_ => absurd c_ (by decide))
            obtain ⟨z_20, ez_20⟩ : ∃ z : Int32, z = i + 1 := ⟨_, rfl⟩
            have e_z_20 : z_20.toInt = i.toInt + 1 := i_add ez_20 rfl (by decide) (by omega) (by omega)
            refine lv_iinc (v := z_20) (lv' := [(2, .int z_20), (0, .ref h), (1, .ref o)]) hx hb dX4_readActs_36 hl (k := 0) rfl (by rw [ez_20]; rfl) (by decide) rfl (fun ls hl => ?_)
            refine lv_goto (tgt := 2) hx hb dX4_readActs_39 (by decide) ?_
            exact ih (kf - 1) (by omega) g_12 z_20 H locs ls hT hI hE hM (by omega) (by omega) (by have e0_ : (0 : Int32).toInt = 0 := (by decide); omega) (lv_sub hl [0, 1, 2] rfl)
          · refine W.eq (g2 := F0 m 30 ls [.int 0]) rfl ?_
            refine lv_if_ne (tgt := 36) hx hb dX4_readActs_30 (by decide) (fun c_ => absurd (by decide) c_) (fun c_ => ?_)
            refine lv_goto (tgt := 42) hx hb dX4_readActs_33 (by decide) ?_
            refine lv_iconst (v := 1) hx hb dX4_readActs_42 (by decide) ?_
            exact t_zret hB hr rfl hT (Nat.le_of_ble_eq_true rfl) (Nat.le_of_ble_eq_true rfl) dX4_readActs_43 ⟨1, rfl, hI, hE, hM, (Or.inl rfl)⟩
      · refine W.eq (g2 := F0 m 13 ls [.int 0]) rfl ?_
        refine lv_if_ne (tgt := 18) hx hb dX4_readActs_13 (by decide) (fun c_ => absurd (by decide) c_) (fun c_ => ?_)
        refine lv_iconst (v := 0) hx hb dX4_readActs_16 (by decide) ?_
        exact t_zret hB hr rfl hT (Nat.le_of_ble_eq_true rfl) (Nat.le_of_ble_eq_true rfl) dX4_readActs_17 ⟨0, rfl, hI, hE, hM, (Or.inr rfl)⟩
set_option maxHeartbeats 4000000 in
set_option maxRecDepth 100000 in
theorem s_readActs (l : Launch) (D : va_G) (cI cZ cS cR : ClassId) (N0 : NT) (g : GS) (hI : Inv g) (h : Nat) (o : Nat) (r_h : g.1 h = 5) (r_o : g.1 o = 3) : Ty l D cI cZ cS cR N0 yX4_readActs cX4_readActs 3 (some .boolean) 6 0 0 [.ref h, .ref o] g (fun v g' => ∃ (r : Int32), v = some (.int r) ∧ Inv g' ∧ Ex g g' ∧ Sm md_s_readActs g g' ∧ (r = 1 ∨ r = 0)) := by
  refine t_enter (by decide) (Nat.le_of_ble_eq_true rfl) ?_
  intro p e s m args below meth c ls H locs hB hr hin hl hT
  have hx := hB.1
  have hb := hB.2.1
  have hl : lv_has ls 3 [(0, .ref h), (1, .ref o)] := hl
  have hE : Ex g g := Ex.rf
  have hM : Sm md_s_readActs g g := Sm.rf
  refine lv_iconst (v := 0) hx hb dX4_readActs_0 (by decide) ?_
  refine lv_istore_n (lv' := [(2, .int 0), (0, .ref h), (1, .ref o)]) hx hb dX4_readActs_1 rfl hl (by decide) rfl (fun ls hl => ?_)
  exact lt_s_readActs_a l D cI cZ cS cR N0 g h o r_h r_o hB hr   8 g (0 : Int32) H locs ls hT hI hE hM (by decide) (by decide) (by have e0_ : (0 : Int32).toInt = 0 := (by decide); omega) (lv_sub hl [0, 1, 2] rfl)
