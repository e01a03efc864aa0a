theorem k_1 : Cond.selects RX4 yX4_readAct yX4_readAct ∈ tb := mt 1 (by decide +kernel) rfl
theorem k_2 : Cond.selects RX4 yX4_readWord yX4_readWord ∈ tb := mt 2 (by decide +kernel) rfl
theorem k_3 : Cond.selects RX4 yX4_byteAt yX4_byteAt ∈ tb := mt 3 (by decide +kernel) rfl
theorem k_4 : Cond.selects RX4 yX4_readDigit yX4_readDigit ∈ tb := mt 4 (by decide +kernel) rfl
theorem k_5 : Cond.selects RX4 yX4_pass yX4_pass ∈ tb := mt 5 (by decide +kernel) rfl
theorem k_6 : Cond.selects RX4 yX4_readValue yX4_readValue ∈ tb := mt 6 (by decide +kernel) rfl
theorem k_57 : Cond.initialized RX6 ∈ tb := mt 57 (by decide +kernel) rfl
theorem k_58 : Cond.initialized RX4 ∈ tb := mt 58 (by decide +kernel) rfl
theorem k_86 : Cond.fieldLink RX4 9 "TwiceOnce$Tape" "bytes" "[I" ∈ tb := mt 86 (by decide +kernel) rfl
theorem k_87 : Cond.fieldLink RX4 15 "TwiceOnce$Tape" "size" "I" ∈ tb := mt 87 (by decide +kernel) rfl
theorem k_91 : Cond.fieldLink RX4 22 "TwiceOnce$Tape" "place" "I" ∈ tb := mt 91 (by decide +kernel) rfl
theorem k_241 : Cond.static Lib.Math.max.name ∈ tb := mt 241 (by decide +kernel) rfl
set_option maxRecDepth 20000 in
theorem k_242 : Cond.code Lib.Math.max.name Lib.Math.max.code 2 (some .int) ∈ tb := mt 242 rfl rfl
theorem k_338 : Cond.constantLong RX4 25 255 ∈ tb := mt 338 (by decide +kernel) rfl
theorem k_353 : Cond.methodLink RX4 34 yX4_readAct ∈ tb := mt 353 (by decide +kernel) rfl
theorem k_355 : Cond.instanceMethod yX4_readAct ∈ tb := mt 355 (by decide +kernel) rfl
set_option maxRecDepth 20000 in
theorem k_356 : Cond.code yX4_readAct cX4_readAct 5 (some .boolean) ∈ tb := mt 356 rfl rfl
theorem k_357 : Cond.methodLink RX4 41 yX4_readWord ∈ tb := mt 357 (by decide +kernel) rfl
theorem k_359 : Cond.instanceMethod yX4_readWord ∈ tb := mt 359 (by decide +kernel) rfl
set_option maxRecDepth 20000 in
theorem k_360 : Cond.code yX4_readWord cX4_readWord 6 (some .int) ∈ tb := mt 360 rfl rfl
theorem k_361 : Cond.fieldLink RX4 56 "TwiceOnce$Tape" "WORD_BEGINS" "[I" ∈ tb := mt 361 (by decide +kernel) rfl
theorem k_363 : Cond.methodLink RX4 59 yX4_byteAt ∈ tb := mt 363 (by decide +kernel) rfl
theorem k_365 : Cond.instanceMethod yX4_byteAt ∈ tb := mt 365 (by decide +kernel) rfl
set_option maxRecDepth 20000 in
theorem k_366 : Cond.code yX4_byteAt cX4_byteAt 2 (some .int) ∈ tb := mt 366 rfl rfl
theorem k_368 : Cond.methodLink RX4 64 yJ0_charAt_5068e ∈ tb := mt 368 (by decide +kernel) rfl
theorem k_369 : Cond.instanceMethod yJ0_charAt_5068e ∈ tb := mt 369 (by decide +kernel) rfl
theorem k_370 : Cond.selects RJ0 yJ0_charAt_5068e yJ0_charAt_5068e ∈ tb := mt 370 (by decide +kernel) rfl
set_option maxRecDepth 20000 in
theorem k_371 : Cond.code yJ0_charAt_5068e cJ0_charAt_5068e 2 (some .char) ∈ tb := mt 371 rfl rfl
theorem k_408 : Cond.methodLink RX4 70 Lib.Math.max.name ∈ tb := mt 408 (by decide +kernel) rfl
theorem k_409 : Cond.methodLink RX4 45 yX4_readDigit ∈ tb := mt 409 (by decide +kernel) rfl
theorem k_411 : Cond.instanceMethod yX4_readDigit ∈ tb := mt 411 (by decide +kernel) rfl
set_option maxRecDepth 20000 in
theorem k_412 : Cond.code yX4_readDigit cX4_readDigit 3 (some .int) ∈ tb := mt 412 rfl rfl
theorem k_414 : Cond.static yX6_within ∈ tb := mt 414 (by decide +kernel) rfl
set_option maxRecDepth 20000 in
theorem k_415 : Cond.code yX6_within cX6_within 2 (some .boolean) ∈ tb := mt 415 rfl rfl
theorem k_416 : Cond.methodLink RX4 37 yX4_pass ∈ tb := mt 416 (by decide +kernel) rfl
theorem k_418 : Cond.instanceMethod yX4_pass ∈ tb := mt 418 (by decide +kernel) rfl
set_option maxRecDepth 20000 in
theorem k_419 : Cond.code yX4_pass cX4_pass 2 (some .boolean) ∈ tb := mt 419 rfl rfl
theorem k_420 : Cond.methodLink RX4 49 yX4_readValue ∈ tb := mt 420 (by decide +kernel) rfl
theorem k_422 : Cond.instanceMethod yX4_readValue ∈ tb := mt 422 (by decide +kernel) rfl
set_option maxRecDepth 20000 in
theorem k_423 : Cond.code yX4_readValue cX4_readValue 4 (some .int) ∈ tb := mt 423 rfl rfl
theorem k_424 : Cond.methodLink RX4 52 yX2_append ∈ tb := mt 424 (by decide +kernel) rfl
theorem k_425 : Cond.instanceMethod yX2_append ∈ tb := mt 425 (by decide +kernel) rfl
theorem k_426 : Cond.selects RX2 yX2_append yX2_append ∈ tb := mt 426 (by decide +kernel) rfl
set_option maxRecDepth 20000 in
theorem k_427 : Cond.code yX2_append cX2_append 4 none ∈ tb := mt 427 rfl rfl
theorem dX4_byteAt_0 : decode cX4_byteAt 0 = .ok (.iload_n 1, 1) := by decide +kernel
theorem dX4_byteAt_1 : decode cX4_byteAt 1 = .ok (.ifCond .lt 20, 3) := by decide +kernel
theorem dX4_byteAt_21 : decode cX4_byteAt 21 = .ok (.iconst (-1), 1) := by decide +kernel
theorem dX4_byteAt_22 : decode cX4_byteAt 22 = .ok (.ireturn, 1) := by decide +kernel
theorem dX4_byteAt_4 : decode cX4_byteAt 4 = .ok (.iload_n 1, 1) := by decide +kernel
theorem dX4_byteAt_5 : decode cX4_byteAt 5 = .ok (.aload_n 0, 1) := by decide +kernel
theorem dX4_byteAt_6 : decode cX4_byteAt 6 = .ok (.getfield 15, 3) := by decide +kernel
theorem dX4_byteAt_9 : decode cX4_byteAt 9 = .ok (.if_icmp .ge 12, 3) := by decide +kernel
theorem dX4_byteAt_12 : decode cX4_byteAt 12 = .ok (.aload_n 0, 1) := by decide +kernel
theorem dX4_byteAt_13 : decode cX4_byteAt 13 = .ok (.getfield 9, 3) := by decide +kernel
theorem dX4_byteAt_16 : decode cX4_byteAt 16 = .ok (.iload_n 1, 1) := by decide +kernel
theorem dX4_byteAt_17 : decode cX4_byteAt 17 = .ok (.iaload, 1) := by decide +kernel
theorem dX4_byteAt_18 : decode cX4_byteAt 18 = .ok (.goto 4, 3) := by decide +kernel
theorem dX4_pass_0 : decode cX4_pass 0 = .ok (.aload_n 0, 1) := by decide +kernel
theorem dX4_pass_1 : decode cX4_pass 1 = .ok (.aload_n 0, 1) := by decide +kernel
theorem dX4_pass_2 : decode cX4_pass 2 = .ok (.getfield 22, 3) := by decide +kernel
theorem dX4_pass_5 : decode cX4_pass 5 = .ok (.invokevirtual 59, 3) := by decide +kernel
theorem dX4_pass_8 : decode cX4_pass 8 = .ok (.iload_n 1, 1) := by decide +kernel
theorem dX4_pass_9 : decode cX4_pass 9 = .ok (.if_icmp .eq 5, 3) := by decide +kernel
theorem dX4_pass_14 : decode cX4_pass 14 = .ok (.aload_n 0, 1) := by decide +kernel
theorem dX4_pass_15 : decode cX4_pass 15 = .ok (.dup, 1) := by decide +kernel
theorem dX4_pass_16 : decode cX4_pass 16 = .ok (.getfield 22, 3) := by decide +kernel
theorem dX4_pass_19 : decode cX4_pass 19 = .ok (.iconst 1, 1) := by decide +kernel
theorem dX4_pass_20 : decode cX4_pass 20 = .ok (.iadd, 1) := by decide +kernel
theorem dX4_pass_21 : decode cX4_pass 21 = .ok (.putfield 22, 3) := by decide +kernel
theorem dX4_pass_24 : decode cX4_pass 24 = .ok (.iconst 1, 1) := by decide +kernel
theorem dX4_pass_25 : decode cX4_pass 25 = .ok (.ireturn, 1) := by decide +kernel
theorem dX4_pass_12 : decode cX4_pass 12 = .ok (.iconst 0, 1) := by decide +kernel
theorem dX4_pass_13 : decode cX4_pass 13 = .ok (.ireturn, 1) := by decide +kernel
theorem dX4_readDigit_0 : decode cX4_readDigit 0 = .ok (.aload_n 0, 1) := by decide +kernel
theorem dX4_readDigit_1 : decode cX4_readDigit 1 = .ok (.aload_n 0, 1) := by decide +kernel
theorem dX4_readDigit_2 : decode cX4_readDigit 2 = .ok (.getfield 22, 3) := by decide +kernel
theorem dX4_readDigit_5 : decode cX4_readDigit 5 = .ok (.invokevirtual 59, 3) := by decide +kernel
theorem dX4_readDigit_8 : decode cX4_readDigit 8 = .ok (.bipush 48, 2) := by decide +kernel
theorem dX4_readDigit_10 : decode cX4_readDigit 10 = .ok (.isub, 1) := by decide +kernel
theorem dX4_readDigit_11 : decode cX4_readDigit 11 = .ok (.istore_n 2, 1) := by decide +kernel
theorem dX4_readDigit_12 : decode cX4_readDigit 12 = .ok (.iload_n 2, 1) := by decide +kernel
theorem dX4_readDigit_13 : decode cX4_readDigit 13 = .ok (.iload_n 1, 1) := by decide +kernel
theorem dX4_readDigit_14 : decode cX4_readDigit 14 = .ok (.invokestatic 76, 3) := by decide +kernel
theorem dX4_readDigit_17 : decode cX4_readDigit 17 = .ok (.ifCond .ne 5, 3) := by decide +kernel
theorem dX4_readDigit_22 : decode cX4_readDigit 22 = .ok (.aload_n 0, 1) := by decide +kernel
theorem dX4_readDigit_23 : decode cX4_readDigit 23 = .ok (.dup, 1) := by decide +kernel
theorem dX4_readDigit_24 : decode cX4_readDigit 24 = .ok (.getfield 22, 3) := by decide +kernel
theorem dX4_readDigit_27 : decode cX4_readDigit 27 = .ok (.iconst 1, 1) := by decide +kernel
theorem dX4_readDigit_28 : decode cX4_readDigit 28 = .ok (.iadd, 1) := by decide +kernel
theorem dX4_readDigit_29 : decode cX4_readDigit 29 = .ok (.putfield 22, 3) := by decide +kernel
theorem dX4_readDigit_32 : decode cX4_readDigit 32 = .ok (.iload_n 2, 1) := by decide +kernel
theorem dX4_readDigit_33 : decode cX4_readDigit 33 = .ok (.ireturn, 1) := by decide +kernel
theorem dX4_readDigit_20 : decode cX4_readDigit 20 = .ok (.iconst (-1), 1) := by decide +kernel
theorem dX4_readDigit_21 : decode cX4_readDigit 21 = .ok (.ireturn, 1) := by decide +kernel
theorem dX4_readValue_0 : decode cX4_readValue 0 = .ok (.aload_n 0, 1) := by decide +kernel
theorem dX4_readValue_1 : decode cX4_readValue 1 = .ok (.bipush 120, 2) := by decide +kernel
theorem dX4_readValue_3 : decode cX4_readValue 3 = .ok (.invokevirtual 37, 3) := by decide +kernel
theorem dX4_readValue_6 : decode cX4_readValue 6 = .ok (.ifCond .eq 7, 3) := by decide +kernel
theorem dX4_readValue_9 : decode cX4_readValue 9 = .ok (.sipush 1000, 3) := by decide +kernel
theorem dX4_readValue_12 : decode cX4_readValue 12 = .ok (.ireturn, 1) := by decide +kernel
theorem dX4_readValue_13 : decode cX4_readValue 13 = .ok (.aload_n 0, 1) := by decide +kernel
theorem dX4_readValue_14 : decode cX4_readValue 14 = .ok (.bipush 114, 2) := by decide +kernel
theorem dX4_readValue_16 : decode cX4_readValue 16 = .ok (.invokevirtual 37, 3) := by decide +kernel
theorem dX4_readValue_19 : decode cX4_readValue 19 = .ok (.ifCond .eq 7, 3) := by decide +kernel
theorem dX4_readValue_22 : decode cX4_readValue 22 = .ok (.sipush 1001, 3) := by decide +kernel
theorem dX4_readValue_25 : decode cX4_readValue 25 = .ok (.ireturn, 1) := by decide +kernel
theorem dX4_readValue_26 : decode cX4_readValue 26 = .ok (.aload_n 0, 1) := by decide +kernel
theorem dX4_readValue_27 : decode cX4_readValue 27 = .ok (.bipush 9, 2) := by decide +kernel
theorem dX4_readValue_29 : decode cX4_readValue 29 = .ok (.invokevirtual 45, 3) := by decide +kernel
theorem dX4_readValue_32 : decode cX4_readValue 32 = .ok (.istore_n 1, 1) := by decide +kernel
theorem dX4_readValue_33 : decode cX4_readValue 33 = .ok (.iconst 0, 1) := by decide +kernel
theorem dX4_readValue_34 : decode cX4_readValue 34 = .ok (.istore_n 2, 1) := by decide +kernel
theorem dX4_readValue_35 : decode cX4_readValue 35 = .ok (.iload_n 1, 1) := by decide +kernel
theorem dX4_readValue_36 : decode cX4_readValue 36 = .ok (.iconst (-1), 1) := by decide +kernel
theorem dX4_readValue_37 : decode cX4_readValue 37 = .ok (.if_icmp .eq 36, 3) := by decide +kernel
theorem dX4_readValue_73 : decode cX4_readValue 73 = .ok (.iload_n 1, 1) := by decide +kernel
theorem dX4_readValue_74 : decode cX4_readValue 74 = .ok (.ireturn, 1) := by decide +kernel
theorem dX4_readValue_40 : decode cX4_readValue 40 = .ok (.iload_n 2, 1) := by decide +kernel
theorem dX4_readValue_41 : decode cX4_readValue 41 = .ok (.iconst 2, 1) := by decide +kernel
theorem dX4_readValue_42 : decode cX4_readValue 42 = .ok (.if_icmp .ge 31, 3) := by decide +kernel
theorem dX4_readValue_45 : decode cX4_readValue 45 = .ok (.aload_n 0, 1) := by decide +kernel
theorem dX4_readValue_46 : decode cX4_readValue 46 = .ok (.bipush 9, 2) := by decide +kernel
theorem dX4_readValue_48 : decode cX4_readValue 48 = .ok (.invokevirtual 45, 3) := by decide +kernel
theorem dX4_readValue_51 : decode cX4_readValue 51 = .ok (.istore_n 3, 1) := by decide +kernel
theorem dX4_readValue_52 : decode cX4_readValue 52 = .ok (.iload_n 3, 1) := by decide +kernel
theorem dX4_readValue_53 : decode cX4_readValue 53 = .ok (.iconst (-1), 1) := by decide +kernel
theorem dX4_readValue_54 : decode cX4_readValue 54 = .ok (.if_icmp .ne 6, 3) := by decide +kernel
theorem dX4_readValue_57 : decode cX4_readValue 57 = .ok (.goto 16, 3) := by decide +kernel
theorem dX4_readValue_60 : decode cX4_readValue 60 = .ok (.iload_n 1, 1) := by decide +kernel
theorem dX4_readValue_61 : decode cX4_readValue 61 = .ok (.bipush 10, 2) := by decide +kernel
theorem dX4_readValue_63 : decode cX4_readValue 63 = .ok (.imul, 1) := by decide +kernel
theorem dX4_readValue_64 : decode cX4_readValue 64 = .ok (.iload_n 3, 1) := by decide +kernel
theorem dX4_readValue_65 : decode cX4_readValue 65 = .ok (.iadd, 1) := by decide +kernel
theorem dX4_readValue_66 : decode cX4_readValue 66 = .ok (.istore_n 1, 1) := by decide +kernel
theorem dX4_readValue_67 : decode cX4_readValue 67 = .ok (.iinc 2 1, 3) := by decide +kernel
theorem dX4_readValue_70 : decode cX4_readValue 70 = .ok (.goto (-35), 3) := by decide +kernel
theorem dX4_readWord_4 : decode cX4_readWord 4 = .ok (.iload_n 2, 1) := by decide +kernel
theorem dX4_readWord_5 : decode cX4_readWord 5 = .ok (.bipush 8, 2) := by decide +kernel
theorem dX4_readWord_7 : decode cX4_readWord 7 = .ok (.if_icmp .ge 92, 3) := by decide +kernel
theorem dX4_readWord_99 : decode cX4_readWord 99 = .ok (.aload_n 0, 1) := by decide +kernel
theorem dX4_readWord_100 : decode cX4_readWord 100 = .ok (.dup, 1) := by decide +kernel
theorem dX4_readWord_101 : decode cX4_readWord 101 = .ok (.getfield 22, 3) := by decide +kernel
theorem dX4_readWord_104 : decode cX4_readWord 104 = .ok (.iload_n 1, 1) := by decide +kernel
theorem dX4_readWord_105 : decode cX4_readWord 105 = .ok (.iadd, 1) := by decide +kernel
theorem dX4_readWord_106 : decode cX4_readWord 106 = .ok (.putfield 22, 3) := by decide +kernel
theorem dX4_readWord_109 : decode cX4_readWord 109 = .ok (.iconst (-1), 1) := by decide +kernel
theorem dX4_readWord_110 : decode cX4_readWord 110 = .ok (.ireturn, 1) := by decide +kernel
theorem dX4_readWord_10 : decode cX4_readWord 10 = .ok (.getstatic 56, 3) := by decide +kernel
theorem dX4_readWord_13 : decode cX4_readWord 13 = .ok (.iload_n 2, 1) := by decide +kernel
theorem dX4_readWord_14 : decode cX4_readWord 14 = .ok (.iaload, 1) := by decide +kernel
theorem dX4_readWord_15 : decode cX4_readWord 15 = .ok (.istore_n 3, 1) := by decide +kernel
theorem dX4_readWord_16 : decode cX4_readWord 16 = .ok (.getstatic 56, 3) := by decide +kernel
theorem dX4_readWord_19 : decode cX4_readWord 19 = .ok (.iload_n 2, 1) := by decide +kernel
theorem dX4_readWord_20 : decode cX4_readWord 20 = .ok (.iconst 1, 1) := by decide +kernel
theorem dX4_readWord_21 : decode cX4_readWord 21 = .ok (.iadd, 1) := by decide +kernel
theorem dX4_readWord_22 : decode cX4_readWord 22 = .ok (.iaload, 1) := by decide +kernel
theorem dX4_readWord_23 : decode cX4_readWord 23 = .ok (.iload_n 3, 1) := by decide +kernel
theorem dX4_readWord_24 : decode cX4_readWord 24 = .ok (.isub, 1) := by decide +kernel
theorem dX4_readWord_25 : decode cX4_readWord 25 = .ok (.istore 4, 2) := by decide +kernel
theorem dX4_readWord_27 : decode cX4_readWord 27 = .ok (.iconst 0, 1) := by decide +kernel
theorem dX4_readWord_28 : decode cX4_readWord 28 = .ok (.istore 5, 2) := by decide +kernel
theorem dX4_readWord_30 : decode cX4_readWord 30 = .ok (.iload 5, 2) := by decide +kernel
theorem dX4_readWord_32 : decode cX4_readWord 32 = .ok (.iload 4, 2) := by decide +kernel
theorem dX4_readWord_34 : decode cX4_readWord 34 = .ok (.if_icmp .ge 32, 3) := by decide +kernel
theorem dX4_readWord_37 : decode cX4_readWord 37 = .ok (.aload_n 0, 1) := by decide +kernel
theorem dX4_readWord_38 : decode cX4_readWord 38 = .ok (.aload_n 0, 1) := by decide +kernel
theorem dX4_readWord_39 : decode cX4_readWord 39 = .ok (.getfield 22, 3) := by decide +kernel
theorem dX4_readWord_42 : decode cX4_readWord 42 = .ok (.iload 5, 2) := by decide +kernel
theorem dX4_readWord_44 : decode cX4_readWord 44 = .ok (.iadd, 1) := by decide +kernel
theorem dX4_readWord_45 : decode cX4_readWord 45 = .ok (.invokevirtual 59, 3) := by decide +kernel
theorem dX4_readWord_48 : decode cX4_readWord 48 = .ok (.ldc 62, 2) := by decide +kernel
theorem dX4_readWord_50 : decode cX4_readWord 50 = .ok (.iload_n 3, 1) := by decide +kernel
theorem dX4_readWord_51 : decode cX4_readWord 51 = .ok (.iload 5, 2) := by decide +kernel
theorem dX4_readWord_53 : decode cX4_readWord 53 = .ok (.iadd, 1) := by decide +kernel
theorem dX4_readWord_54 : decode cX4_readWord 54 = .ok (.invokevirtual 64, 3) := by decide +kernel
theorem dX4_readWord_57 : decode cX4_readWord 57 = .ok (.if_icmp .ne 9, 3) := by decide +kernel
theorem dX4_readWord_66 : decode cX4_readWord 66 = .ok (.iload 5, 2) := by decide +kernel
theorem dX4_readWord_68 : decode cX4_readWord 68 = .ok (.iload 4, 2) := by decide +kernel
theorem dX4_readWord_70 : decode cX4_readWord 70 = .ok (.if_icmp .ne 16, 3) := by decide +kernel
theorem dX4_readWord_86 : decode cX4_readWord 86 = .ok (.iload_n 1, 1) := by decide +kernel
theorem dX4_readWord_87 : decode cX4_readWord 87 = .ok (.iload 5, 2) := by decide +kernel
theorem dX4_readWord_89 : decode cX4_readWord 89 = .ok (.invokestatic 70, 3) := by decide +kernel
theorem dX4_readWord_92 : decode cX4_readWord 92 = .ok (.istore_n 1, 1) := by decide +kernel
theorem dX4_readWord_93 : decode cX4_readWord 93 = .ok (.iinc 2 1, 3) := by decide +kernel
theorem dX4_readWord_96 : decode cX4_readWord 96 = .ok (.goto (-92), 3) := by decide +kernel
theorem dX4_readWord_60 : decode cX4_readWord 60 = .ok (.iinc 5 1, 3) := by decide +kernel
theorem dX4_readWord_63 : decode cX4_readWord 63 = .ok (.goto (-33), 3) := by decide +kernel
theorem dX4_readWord_73 : decode cX4_readWord 73 = .ok (.aload_n 0, 1) := by decide +kernel
theorem dX4_readWord_74 : decode cX4_readWord 74 = .ok (.dup, 1) := by decide +kernel
theorem dX4_readWord_75 : decode cX4_readWord 75 = .ok (.getfield 22, 3) := by decide +kernel
theorem dX4_readWord_78 : decode cX4_readWord 78 = .ok (.iload 4, 2) := by decide +kernel
theorem dX4_readWord_80 : decode cX4_readWord 80 = .ok (.iadd, 1) := by decide +kernel
theorem dX4_readWord_81 : decode cX4_readWord 81 = .ok (.putfield 22, 3) := by decide +kernel
theorem dX4_readWord_84 : decode cX4_readWord 84 = .ok (.iload_n 2, 1) := by decide +kernel
theorem dX4_readWord_85 : decode cX4_readWord 85 = .ok (.ireturn, 1) := by decide +kernel
theorem dX4_readWord_0 : decode cX4_readWord 0 = .ok (.iconst 0, 1) := by decide +kernel
theorem dX4_readWord_1 : decode cX4_readWord 1 = .ok (.istore_n 1, 1) := by decide +kernel
theorem dX4_readWord_2 : decode cX4_readWord 2 = .ok (.iconst 0, 1) := by decide +kernel
theorem dX4_readWord_3 : decode cX4_readWord 3 = .ok (.istore_n 2, 1) := by decide +kernel
theorem dX4_readAct_0 : decode cX4_readAct 0 = .ok (.aload_n 0, 1) := by decide +kernel
theorem dX4_readAct_1 : decode cX4_readAct 1 = .ok (.invokevirtual 41, 3) := by decide +kernel
theorem dX4_readAct_4 : decode cX4_readAct 4 = .ok (.istore_n 2, 1) := by decide +kernel
theorem dX4_readAct_5 : decode cX4_readAct 5 = .ok (.iload_n 2, 1) := by decide +kernel
theorem dX4_readAct_6 : decode cX4_readAct 6 = .ok (.iconst (-1), 1) := by decide +kernel
theorem dX4_readAct_7 : decode cX4_readAct 7 = .ok (.if_icmp .ne 5, 3) := by decide +kernel
theorem dX4_readAct_10 : decode cX4_readAct 10 = .ok (.iconst 0, 1) := by decide +kernel
theorem dX4_readAct_11 : decode cX4_readAct 11 = .ok (.ireturn, 1) := by decide +kernel
theorem dX4_readAct_12 : decode cX4_readAct 12 = .ok (.iconst 0, 1) := by decide +kernel
theorem dX4_readAct_13 : decode cX4_readAct 13 = .ok (.istore_n 3, 1) := by decide +kernel
theorem dX4_readAct_14 : decode cX4_readAct 14 = .ok (.iload_n 2, 1) := by decide +kernel
theorem dX4_readAct_15 : decode cX4_readAct 15 = .ok (.bipush 6, 2) := by decide +kernel
theorem dX4_readAct_17 : decode cX4_readAct 17 = .ok (.if_icmp .eq 18, 3) := by decide +kernel
theorem dX4_readAct_35 : decode cX4_readAct 35 = .ok (.iload_n 3, 1) := by decide +kernel
theorem dX4_readAct_36 : decode cX4_readAct 36 = .ok (.iconst (-1), 1) := by decide +kernel
theorem dX4_readAct_37 : decode cX4_readAct 37 = .ok (.if_icmp .ne 5, 3) := by decide +kernel
theorem dX4_readAct_42 : decode cX4_readAct 42 = .ok (.iconst 0, 1) := by decide +kernel
theorem dX4_readAct_43 : decode cX4_readAct 43 = .ok (.istore 4, 2) := by decide +kernel
theorem dX4_readAct_45 : decode cX4_readAct 45 = .ok (.iload_n 2, 1) := by decide +kernel
theorem dX4_readAct_46 : decode cX4_readAct 46 = .ok (.iconst 3, 1) := by decide +kernel
theorem dX4_readAct_47 : decode cX4_readAct 47 = .ok (.if_icmp .eq 33, 3) := by decide +kernel
theorem dX4_readAct_50 : decode cX4_readAct 50 = .ok (.iload_n 2, 1) := by decide +kernel
theorem dX4_readAct_51 : decode cX4_readAct 51 = .ok (.iconst 4, 1) := by decide +kernel
theorem dX4_readAct_52 : decode cX4_readAct 52 = .ok (.if_icmp .eq 28, 3) := by decide +kernel
theorem dX4_readAct_55 : decode cX4_readAct 55 = .ok (.iload_n 2, 1) := by decide +kernel
theorem dX4_readAct_56 : decode cX4_readAct 56 = .ok (.bipush 6, 2) := by decide +kernel
theorem dX4_readAct_58 : decode cX4_readAct 58 = .ok (.if_icmp .eq 12, 3) := by decide +kernel
theorem dX4_readAct_70 : decode cX4_readAct 70 = .ok (.aload_n 0, 1) := by decide +kernel
theorem dX4_readAct_71 : decode cX4_readAct 71 = .ok (.invokevirtual 49, 3) := by decide +kernel
theorem dX4_readAct_74 : decode cX4_readAct 74 = .ok (.goto 4, 3) := by decide +kernel
theorem dX4_readAct_78 : decode cX4_readAct 78 = .ok (.istore 4, 2) := by decide +kernel
theorem dX4_readAct_80 : decode cX4_readAct 80 = .ok (.iload 4, 2) := by decide +kernel
theorem dX4_readAct_82 : decode cX4_readAct 82 = .ok (.iconst (-1), 1) := by decide +kernel
theorem dX4_readAct_83 : decode cX4_readAct 83 = .ok (.if_icmp .ne 5, 3) := by decide +kernel
theorem dX4_readAct_86 : decode cX4_readAct 86 = .ok (.iconst 0, 1) := by decide +kernel
theorem dX4_readAct_87 : decode cX4_readAct 87 = .ok (.ireturn, 1) := by decide +kernel
theorem dX4_readAct_88 : decode cX4_readAct 88 = .ok (.aload_n 1, 1) := by decide +kernel
theorem dX4_readAct_89 : decode cX4_readAct 89 = .ok (.iload_n 2, 1) := by decide +kernel
theorem dX4_readAct_90 : decode cX4_readAct 90 = .ok (.iload_n 3, 1) := by decide +kernel
theorem dX4_readAct_91 : decode cX4_readAct 91 = .ok (.iload 4, 2) := by decide +kernel
theorem dX4_readAct_93 : decode cX4_readAct 93 = .ok (.invokevirtual 52, 3) := by decide +kernel
theorem dX4_readAct_96 : decode cX4_readAct 96 = .ok (.iconst 1, 1) := by decide +kernel
theorem dX4_readAct_97 : decode cX4_readAct 97 = .ok (.ireturn, 1) := by decide +kernel
theorem dX4_readAct_20 : decode cX4_readAct 20 = .ok (.aload_n 0, 1) := by decide +kernel
theorem dX4_readAct_21 : decode cX4_readAct 21 = .ok (.iload_n 2, 1) := by decide +kernel
theorem dX4_readAct_22 : decode cX4_readAct 22 = .ok (.iconst 5, 1) := by decide +kernel
theorem dX4_readAct_23 : decode cX4_readAct 23 = .ok (.if_icmp .ne 7, 3) := by decide +kernel
theorem dX4_readAct_30 : decode cX4_readAct 30 = .ok (.iconst 3, 1) := by decide +kernel
theorem dX4_readAct_31 : decode cX4_readAct 31 = .ok (.invokevirtual 45, 3) := by decide +kernel
theorem dX4_readAct_34 : decode cX4_readAct 34 = .ok (.istore_n 3, 1) := by decide +kernel
theorem dX4_readAct_40 : decode cX4_readAct 40 = .ok (.iconst 0, 1) := by decide +kernel
theorem dX4_readAct_41 : decode cX4_readAct 41 = .ok (.ireturn, 1) := by decide +kernel
theorem dX4_readAct_61 : decode cX4_readAct 61 = .ok (.aload_n 0, 1) := by decide +kernel
theorem dX4_readAct_62 : decode cX4_readAct 62 = .ok (.bipush 32, 2) := by decide +kernel
theorem dX4_readAct_64 : decode cX4_readAct 64 = .ok (.invokevirtual 37, 3) := by decide +kernel
theorem dX4_readAct_67 : decode cX4_readAct 67 = .ok (.ifCond .eq 10, 3) := by decide +kernel
theorem dX4_readAct_77 : decode cX4_readAct 77 = .ok (.iconst (-1), 1) := by decide +kernel
theorem dX4_readAct_26 : decode cX4_readAct 26 = .ok (.iconst 5, 1) := by decide +kernel
theorem dX4_readAct_27 : decode cX4_readAct 27 = .ok (.goto 4, 3) := by decide +kernel
theorem dX4_readActs_2 : decode cX4_readActs 2 = .ok (.iload_n 2, 1) := by decide +kernel
theorem dX4_readActs_3 : decode cX4_readActs 3 = .ok (.bipush 8, 2) := by decide +kernel
theorem dX4_readActs_5 : decode cX4_readActs 5 = .ok (.if_icmp .ge 37, 3) := by decide +kernel
theorem dX4_readActs_8 : decode cX4_readActs 8 = .ok (.aload_n 0, 1) := by decide +kernel
theorem dX4_readActs_9 : decode cX4_readActs 9 = .ok (.aload_n 1, 1) := by decide +kernel
theorem dX4_readActs_10 : decode cX4_readActs 10 = .ok (.invokevirtual 34, 3) := by decide +kernel
theorem dX4_readActs_13 : decode cX4_readActs 13 = .ok (.ifCond .ne 5, 3) := by decide +kernel
theorem dX4_readActs_18 : decode cX4_readActs 18 = .ok (.iload_n 2, 1) := by decide +kernel
theorem dX4_readActs_19 : decode cX4_readActs 19 = .ok (.bipush 7, 2) := by decide +kernel
theorem dX4_readActs_21 : decode cX4_readActs 21 = .ok (.if_icmp .eq 21, 3) := by decide +kernel
theorem dX4_readActs_42 : decode cX4_readActs 42 = .ok (.iconst 1, 1) := by decide +kernel
theorem dX4_readActs_43 : decode cX4_readActs 43 = .ok (.ireturn, 1) := by decide +kernel
theorem dX4_readActs_24 : decode cX4_readActs 24 = .ok (.aload_n 0, 1) := by decide +kernel
theorem dX4_readActs_25 : decode cX4_readActs 25 = .ok (.bipush 59, 2) := by decide +kernel
theorem dX4_readActs_27 : decode cX4_readActs 27 = .ok (.invokevirtual 37, 3) := by decide +kernel
theorem dX4_readActs_30 : decode cX4_readActs 30 = .ok (.ifCond .ne 6, 3) := by decide +kernel
theorem dX4_readActs_36 : decode cX4_readActs 36 = .ok (.iinc 2 1, 3) := by decide +kernel
theorem dX4_readActs_39 : decode cX4_readActs 39 = .ok (.goto (-37), 3) := by decide +kernel
theorem dX4_readActs_33 : decode cX4_readActs 33 = .ok (.goto 9, 3) := by decide +kernel
theorem dX4_readActs_16 : decode cX4_readActs 16 = .ok (.iconst 0, 1) := by decide +kernel
theorem dX4_readActs_17 : decode cX4_readActs 17 = .ok (.ireturn, 1) := by decide +kernel
theorem dX4_readActs_0 : decode cX4_readActs 0 = .ok (.iconst 0, 1) := by decide +kernel
theorem dX4_readActs_1 : decode cX4_readActs 1 = .ok (.istore_n 2, 1) := by decide +kernel
theorem dX4_append_5 : decode cX4_append 5 = .ok (.iload 4, 2) := by decide +kernel
theorem dX4_append_7 : decode cX4_append 7 = .ok (.ifCond .lt 49, 3) := by decide +kernel
theorem dX4_append_56 : decode cX4_append 56 = .ok (.return_, 1) := by decide +kernel
theorem dX4_append_10 : decode cX4_append 10 = .ok (.aload_n 0, 1) := by decide +kernel
theorem dX4_append_11 : decode cX4_append 11 = .ok (.getfield 15, 3) := by decide +kernel
theorem dX4_append_14 : decode cX4_append 14 = .ok (.bipush 100, 2) := by decide +kernel
theorem dX4_append_16 : decode cX4_append 16 = .ok (.if_icmp .ge 40, 3) := by decide +kernel
theorem dX4_append_19 : decode cX4_append 19 = .ok (.aload_n 0, 1) := by decide +kernel
theorem dX4_append_20 : decode cX4_append 20 = .ok (.getfield 9, 3) := by decide +kernel
theorem dX4_append_23 : decode cX4_append 23 = .ok (.aload_n 0, 1) := by decide +kernel
theorem dX4_append_24 : decode cX4_append 24 = .ok (.getfield 15, 3) := by decide +kernel
theorem dX4_append_27 : decode cX4_append 27 = .ok (.lload_n 1, 1) := by decide +kernel
theorem dX4_append_28 : decode cX4_append 28 = .ok (.bipush 8, 2) := by decide +kernel
theorem dX4_append_30 : decode cX4_append 30 = .ok (.iload 4, 2) := by decide +kernel
theorem dX4_append_32 : decode cX4_append 32 = .ok (.imul, 1) := by decide +kernel
theorem dX4_append_33 : decode cX4_append 33 = .ok (.lushr, 1) := by decide +kernel
theorem dX4_append_34 : decode cX4_append 34 = .ok (.ldc2_w 25, 3) := by decide +kernel
theorem dX4_append_37 : decode cX4_append 37 = .ok (.land, 1) := by decide +kernel
theorem dX4_append_38 : decode cX4_append 38 = .ok (.l2i, 1) := by decide +kernel
theorem dX4_append_39 : decode cX4_append 39 = .ok (.iastore, 1) := by decide +kernel
theorem dX4_append_40 : decode cX4_append 40 = .ok (.aload_n 0, 1) := by decide +kernel
theorem dX4_append_41 : decode cX4_append 41 = .ok (.dup, 1) := by decide +kernel
theorem dX4_append_42 : decode cX4_append 42 = .ok (.getfield 15, 3) := by decide +kernel
theorem dX4_append_45 : decode cX4_append 45 = .ok (.iconst 1, 1) := by decide +kernel
theorem dX4_append_46 : decode cX4_append 46 = .ok (.iadd, 1) := by decide +kernel
theorem dX4_append_47 : decode cX4_append 47 = .ok (.putfield 15, 3) := by decide +kernel
theorem dX4_append_50 : decode cX4_append 50 = .ok (.iinc 4 (-1), 3) := by decide +kernel
theorem dX4_append_53 : decode cX4_append 53 = .ok (.goto (-48), 3) := by decide +kernel
theorem dX4_append_0 : decode cX4_append 0 = .ok (.iload_n 3, 1) := by decide +kernel
theorem dX4_append_1 : decode cX4_append 1 = .ok (.iconst 1, 1) := by decide +kernel
theorem dX4_append_2 : decode cX4_append 2 = .ok (.isub, 1) := by decide +kernel
theorem dX4_append_3 : decode cX4_append 3 = .ok (.istore 4, 2) := by decide +kernel
abbrev md_s_byteAt : Nat → Nat → Bool := mdf []
set_option maxHeartbeats 4000000 in
set_option maxRecDepth 100000 in
theorem s_byteAt (l : Launch) (D : va_G) (cI cZ cS cR : ClassId) (N0 : NT) (g : GS) (hI : Inv g) (h : Nat) (n : Int32) (sz : Int32) (ba : Nat) (ct : Nat → Int32) (r_h : g.1 h = 5) (r_ba : g.1 ba = 67) (n_ba : g.2.2.1 ba = 100) (ksz : g.2.1 h 1 = .int sz) (kba : g.2.1 h 0 = .ref ba) (l_sz : 0 ≤ sz.toInt) (u_sz : sz.toInt ≤ 100) (hc_0 : g.2.2.2.1 ba = ct) : Ty l D cI cZ cS cR N0 yX4_byteAt cX4_byteAt 2 (some .int) 0 0 0 [.ref h, .int n] g (fun v g' => ∃ (r : Int32), v = some (.int r) ∧ g' = g ∧ (r.toInt = txb ct sz.toInt n.toInt) ∧ (-1 ≤ r.toInt ∧ r.toInt ≤ 255) ∧ (r.toInt = -1 ∨ (0 ≤ n.toInt ∧ n.toInt < sz.toInt))) := by
  refine t_enter (by decide) (Nat.le_of_ble_eq_true rfl) ?_
  intro p e s m args below meth c ls H locs hB hr hin hl hT
  have hx := hB.1
  have hb := hB.2.1
  have hl : lv_has ls 2 [(0, .ref h), (1, .int n)] := hl
  have hE : Ex g g := Ex.rf
  have hM : Sm md_s_byteAt g g := Sm.rf
  have hc := hc_0
  refine lv_iload_n hx hb dX4_byteAt_0 rfl (lv_at hl 1 rfl) ?_
  refine lv_if_lt (tgt := 21) hx hb dX4_byteAt_1 (by decide) (fun c_1 => ?_) (fun c_1 => ?_)
  · have c_1' : n.toInt < 0 := i_lt c_1 rfl (by decide)
    refine lv_iconst (v := (-1)) hx hb dX4_byteAt_21 (by decide) ?_
    exact t_iret hB hr hT (Nat.le_of_ble_eq_true rfl) (Nat.le_of_ble_eq_true rfl) dX4_byteAt_22 ⟨(-1), rfl, rfl, (tb_0 (by omega)), ⟨by decide, by decide⟩, (Or.inl (by decide))⟩
  · have c_1' : 0 ≤ n.toInt := i_nlt c_1 rfl (by decide)
    refine lv_iload_n hx hb dX4_byteAt_4 rfl (lv_at hl 1 rfl) ?_
    refine lv_aload_n hx hb dX4_byteAt_5 rfl (lv_at hl 0 rfl) ?_
    refine t_get (ci := 4) (v := .int sz) hB hT (ro_ci r_h rfl) rfl 1 (by decide) k_87 ksz dX4_byteAt_6 ?_
    refine lv_icmp_ge (tgt := 21) hx hb dX4_byteAt_9 (by decide) (fun c_2 => ?_) (fun c_2 => ?_)
    · have c_2' : sz.toInt ≤ n.toInt := i_le c_2 rfl rfl
      refine lv_iconst (v := (-1)) hx hb dX4_byteAt_21 (by decide) ?_
      exact t_iret hB hr hT (Nat.le_of_ble_eq_true rfl) (Nat.le_of_ble_eq_true rfl) dX4_byteAt_22 ⟨(-1), rfl, rfl, (tb_0 (by omega)), ⟨by decide, by decide⟩, (Or.inl (by decide))⟩
    · have c_2' : n.toInt < sz.toInt := i_nle c_2 rfl rfl
      refine lv_aload_n hx hb dX4_byteAt_12 rfl (lv_at hl 0 rfl) ?_
      refine t_get (ci := 4) (v := .ref ba) hB hT (ro_ci r_h rfl) rfl 0 (by decide) k_86 kba dX4_byteAt_13 ?_
      refine lv_iload_n hx hb dX4_byteAt_16 rfl (lv_at hl 1 rfl) ?_
      have i_u_3 : vp_in n 100 := (i_in (n := 100) rfl (by omega) (by omega))
      refine t_iald hB hT (ro_in r_ba (by decide)) n_ba i_u_3 rfl dX4_byteAt_17 ?_
      have c_u_3 := hI.c r_ba n_ba (i_cl i_u_3)
      refine lv_topi (fun u_3 e_u_3 => ?_)
      obtain ⟨l_u_3, u_u_3⟩ := c_u_3
      rw [← e_u_3] at l_u_3 u_u_3
      refine lv_goto (tgt := 22) hx hb dX4_byteAt_18 (by decide) ?_
      exact t_iret hB hr hT (Nat.le_of_ble_eq_true rfl) (Nat.le_of_ble_eq_true rfl) dX4_byteAt_22 ⟨u_3, rfl, rfl, (tb_1 (by omega) (by omega) hc e_u_3.symm), ⟨by omega, by omega⟩, (Or.inr ⟨by omega, by omega⟩)⟩
abbrev md_s_pass : Nat → Nat → Bool := mdf [(5, 3)]
set_option maxHeartbeats 4000000 in
set_option maxRecDepth 100000 in
theorem s_pass (l : Launch) (D : va_G) (cI cZ cS cR : ClassId) (N0 : NT) (g : GS) (hI : Inv g) (h : Nat) (n : Int32) (pl : Int32) (sz : Int32) (ba : Nat) (ct : Nat → Int32) (r_h : g.1 h = 5) (r_ba : g.1 ba = 67) (n_ba : g.2.2.1 ba = 100) (kpl : g.2.1 h 3 = .int pl) (ksz : g.2.1 h 1 = .int sz) (kba : g.2.1 h 0 = .ref ba) (l_n : 0 ≤ n.toInt) (l_pl : 0 ≤ pl.toInt) (u_pl : pl.toInt ≤ 100) (l_sz : 0 ≤ sz.toInt) (u_sz : sz.toInt ≤ 100) (hc_0 : g.2.2.2.1 ba = ct) : Ty l D cI cZ cS cR N0 yX4_pass cX4_pass 2 (some .boolean) 1 0 0 [.ref h, .int n] g (fun v g' => ∃ (r : Int32) (pl2 : Int32), v = some (.int r) ∧ Inv g' ∧ Ex g g' ∧ Sm md_s_pass g g' ∧ ((r = 1 ∧ txb ct sz.toInt pl.toInt = n.toInt ∧ pl2.toInt = pl.toInt + 1 ∧ pl2.toInt ≤ sz.toInt) ∨ (r = 0 ∧ txb ct sz.toInt pl.toInt ≠ n.toInt ∧ pl = pl2)) ∧ (g'.2.1 h 3 = .int pl2)) := by
  refine t_enter (by decide) (Nat.le_of_ble_eq_true rfl) ?_
  intro p e s m args below meth c ls H locs hB hr hin hl hT
  have hx := hB.1
  have hb := hB.2.1
  have hl : lv_has ls 2 [(0, .ref h), (1, .int n)] := hl
  have hE : Ex g g := Ex.rf
  have hM : Sm md_s_pass g g := Sm.rf
  have hc := hc_0
  refine lv_aload_n hx hb dX4_pass_0 rfl (lv_at hl 0 rfl) ?_
  refine lv_aload_n hx hb dX4_pass_1 rfl (lv_at hl 0 rfl) ?_
  refine t_get (ci := 4) (v := .int pl) hB hT (ro_ci r_h rfl) rfl 3 (by decide) k_91 kpl dX4_pass_2 ?_
  refine t_callV (n := 1) (As := [.int pl]) (rest := []) (ci := 4) hB hT hl.1 (s_byteAt l D cI cZ cS cR N0 g hI h pl sz ba ct r_h r_ba n_ba ksz kba (by omega) (by omega) hc) (ro_ci r_h rfl) rfl k_366 k_58 k_363 k_365 k_3 (by decide +kernel) ⟨(Nat.le_of_ble_eq_true rfl), (Nat.le_of_ble_eq_true rfl)⟩ rfl (Nat.le_of_ble_eq_true rfl) ⟨(Nat.le_of_ble_eq_true rfl), (Nat.le_of_ble_eq_true rfl)⟩ dX4_pass_5 (fun v g_1 H locs hp hT => ?_)
  obtain ⟨r_2, rfl, eg, f_3, f_4, f_5⟩ := hp
  rw [eg] at hT
  clear eg
  refine W.eq (g2 := F0 m 8 ls [.int r_2]) rfl ?_
  refine lv_iload_n hx hb dX4_pass_8 rfl (lv_at hl 1 rfl) ?_
  refine lv_icmp_eq (tgt := 14) hx hb dX4_pass_9 (by decide) (fun c_8 => ?_) (fun c_8 => ?_)
  · have c_8' : r_2.toInt = n.toInt := i_eq c_8 rfl rfl
    refine lv_aload_n hx hb dX4_pass_14 rfl (lv_at hl 0 rfl) ?_
    refine lv_dup hx hb dX4_pass_15 rfl ?_
    refine t_get (ci := 4) (v := .int pl) hB hT (ro_ci r_h rfl) rfl 3 (by decide) k_91 kpl dX4_pass_16 ?_
    refine lv_iconst (v := 1) hx hb dX4_pass_19 (by decide) ?_
    refine lv_iadd hx hb dX4_pass_20 ?_
    refine lv_topi (fun z_9 ez_9 => ?_)
    have e_z_9 : z_9.toInt = pl.toInt + 1 := i_add ez_9 rfl (by decide) (by omega) (by omega)
    refine t_put0 (ci := 4) (v := .int z_9) hB hT (ro_ci r_h rfl) (ro_n0 r_h (by decide)) rfl 3 (by decide) k_91 (Or.inl rfl) rfl rfl dX4_pass_21 (fun H locs hT => ?_)
    have hI : Inv (sF g h 3 (.int z_9)) := hI.sF (p_5_3 r_h (⟨_, rfl⟩))
    have hM : Sm md_s_pass g (sF g h 3 (.int z_9)) := hM.tr hE (Sm_sF (by rw [r_h]; rfl))
    have hE : Ex g (sF g h 3 (.int z_9)) := hE
    have hc : (sF g h 3 (.int z_9)).2.2.2.1 ba = ct := hc
    refine lv_iconst (v := 1) hx hb dX4_pass_24 (by decide) ?_
    exact t_zret hB hr rfl hT (Nat.le_of_ble_eq_true rfl) (Nat.le_of_ble_eq_true rfl) dX4_pass_25 ⟨1, z_9, rfl, hI, hE, hM, (Or.inl ⟨rfl, by omega, by omega, by omega⟩), sF_eq⟩
  · have c_8' : r_2.toInt ≠ n.toInt := i_ne c_8 rfl rfl
    refine lv_iconst (v := 0) hx hb dX4_pass_12 (by decide) ?_
    exact t_zret hB hr rfl hT (Nat.le_of_ble_eq_true rfl) (Nat.le_of_ble_eq_true rfl) dX4_pass_13 ⟨0, pl, rfl, hI, hE, hM, (Or.inr ⟨rfl, by omega, rfl⟩), kpl⟩
abbrev md_s_readDigit : Nat → Nat → Bool := mdf [(5, 3)]
set_option maxHeartbeats 4000000 in
set_option maxRecDepth 100000 in
theorem s_readDigit (l : Launch) (D : va_G) (cI cZ cS cR : ClassId) (N0 : NT) (g : GS) (hI : Inv g) (h : Nat) (n : Int32) (pl : Int32) (sz : Int32) (ba : Nat) (ct : Nat → Int32) (r_h : g.1 h = 5) (r_ba : g.1 ba = 67) (n_ba : g.2.2.1 ba = 100) (kpl : g.2.1 h 3 = .int pl) (ksz : g.2.1 h 1 = .int sz) (kba : g.2.1 h 0 = .ref ba) (l_n : 0 ≤ n.toInt) (u_n : n.toInt ≤ 9) (l_pl : 0 ≤ pl.toInt) (u_pl : pl.toInt ≤ 100) (l_sz : 0 ≤ sz.toInt) (u_sz : sz.toInt ≤ 100) (hc_0 : g.2.2.2.1 ba = ct) : Ty l D cI cZ cS cR N0 yX4_readDigit cX4_readDigit 3 (some .int) 1 0 0 [.ref h, .int n] g (fun v g' => ∃ (r : Int32) (pl2 : Int32), v = some (.int r) ∧ Inv g' ∧ Ex g g' ∧ Sm md_s_readDigit g g' ∧ ((r = -1 ∧ (txb ct sz.toInt pl.toInt < 48 ∨ 48 + n.toInt < txb ct sz.toInt pl.toInt) ∧ pl = pl2) ∨ (0 ≤ r.toInt ∧ r.toInt ≤ n.toInt ∧ r.toInt = txb ct sz.toInt pl.toInt - 48 ∧ pl2.toInt = pl.toInt + 1 ∧ pl2.toInt ≤ sz.toInt)) ∧ (g'.2.1 h 3 = .int pl2)) := by
  refine t_enter (by decide) (Nat.le_of_ble_eq_true rfl) ?_
  intro p e s m args below meth c ls H locs hB hr hin hl hT
  have hx := hB.1
  have hb := hB.2.1
  have hl : lv_has ls 3 [(0, .ref h), (1, .int n)] := hl
  have hE : Ex g g := Ex.rf
  have hM : Sm md_s_readDigit g g := Sm.rf
  have hc := hc_0
  refine lv_aload_n hx hb dX4_readDigit_0 rfl (lv_at hl 0 rfl) ?_
  refine lv_aload_n hx hb dX4_readDigit_1 rfl (lv_at hl 0 rfl) ?_
  refine t_get (ci := 4) (v := .int pl) hB hT (ro_ci r_h rfl) rfl 3 (by decide) k_91 kpl dX4_readDigit_2 ?_
  refine t_callV (n := 1) (As := [.int pl]) (rest := []) (ci := 4) hB hT hl.1 (s_byteAt l D cI cZ cS cR N0 g hI h pl sz ba ct r_h r_ba n_ba ksz kba (by omega) (by omega) hc) (ro_ci r_h rfl) rfl k_366 k_58 k_363 k_365 k_3 (by decide +kernel) ⟨(Nat.le_of_ble_eq_true rfl), (Nat.le_of_ble_eq_true rfl)⟩ rfl (Nat.le_of_ble_eq_true rfl) ⟨(Nat.le_of_ble_eq_true rfl), (Nat.le_of_ble_eq_true rfl)⟩ dX4_readDigit_5 (fun v g_1 H locs hp hT => ?_)
  obtain ⟨r_2, rfl, eg, f_3, f_4, f_5⟩ := hp
  rw [eg] at hT
  clear eg
  refine W.eq (g2 := F0 m 8 ls [.int r_2]) rfl ?_
  refine lv_bipush (v := 48) hx hb dX4_readDigit_8 (by decide) ?_
  refine lv_isub hx hb dX4_readDigit_10 ?_
  refine lv_topi (fun z_8 ez_8 => ?_)
  have e_z_8 : z_8.toInt = r_2.toInt - 48 := i_sub ez_8 rfl (by decide) (by omega) (by omega)
  refine lv_istore_n (lv' := [(2, .int z_8), (0, .ref h), (1, .int n)]) hx hb dX4_readDigit_11 rfl hl (by decide) rfl (fun ls hl => ?_)
  refine lv_iload_n hx hb dX4_readDigit_12 rfl (lv_at hl 0 rfl) ?_
  refine lv_iload_n hx hb dX4_readDigit_13 rfl (lv_at hl 2 rfl) ?_
  refine t_callSN (n := 2) (As := [.int z_8, .int n]) (rest := []) hB hT hl.1 (s_within l D cI cZ cS cR N0 g hI z_8 n ) k_415 k_57 hB.2.2.2.2.2.2.2.1.2.2.2.2.2.2.2.2 k_414 (by decide +kernel) ⟨(Nat.le_of_ble_eq_true rfl), (Nat.le_of_ble_eq_true rfl)⟩ rfl (Nat.le_of_ble_eq_true rfl) ⟨(Nat.le_of_ble_eq_true rfl), (Nat.le_of_ble_eq_true rfl)⟩ dX4_readDigit_14 (fun v g_9 H locs hp hT => ?_)
  obtain ⟨r_10, rfl, eg, f_11⟩ := hp
  rw [eg] at hT
  clear eg
  refine W.eq (g2 := F0 m 17 ls [.int r_10]) rfl ?_
  rcases f_11 with ⟨rfl, hw_14, hw_15⟩ | ⟨rfl, hw_16⟩
  · refine W.eq (g2 := F0 m 17 ls [.int 1]) rfl ?_
    refine lv_if_ne (tgt := 22) hx hb dX4_readDigit_17 (by decide) (fun c_ => ?_) (fun c_ => absurd c_ (by decide))
    refine lv_aload_n hx hb dX4_readDigit_22 rfl (lv_at hl 1 rfl) ?_
    refine lv_dup hx hb dX4_readDigit_23 rfl ?_
    refine t_get (ci := 4) (v := .int pl) hB hT (ro_ci r_h rfl) rfl 3 (by decide) k_91 kpl dX4_readDigit_24 ?_
    refine lv_iconst (v := 1) hx hb dX4_readDigit_27 (by decide) ?_
    refine lv_iadd hx hb dX4_readDigit_28 ?_
    refine lv_topi (fun z_17 ez_17 => ?_)
    have e_z_17 : z_17.toInt = pl.toInt + 1 := i_add ez_17 rfl (by decide) (by omega) (by omega)
    refine t_put0 (ci := 4) (v := .int z_17) hB hT (ro_ci r_h rfl) (ro_n0 r_h (by decide)) rfl 3 (by decide) k_91 (Or.inl rfl) rfl rfl dX4_readDigit_29 (fun H locs hT => ?_)
    have hI : Inv (sF g h 3 (.int z_17)) := hI.sF (p_5_3 r_h (⟨_, rfl⟩))
    have hM : Sm md_s_readDigit g (sF g h 3 (.int z_17)) := hM.tr hE (Sm_sF (by rw [r_h]; rfl))
    have hE : Ex g (sF g h 3 (.int z_17)) := hE
    have hc : (sF g h 3 (.int z_17)).2.2.2.1 ba = ct := hc
    refine lv_iload_n hx hb dX4_readDigit_32 rfl (lv_at hl 0 rfl) ?_
    exact t_iret hB hr hT (Nat.le_of_ble_eq_true rfl) (Nat.le_of_ble_eq_true rfl) dX4_readDigit_33 ⟨z_8, z_17, rfl, hI, hE, hM, (Or.inr ⟨by omega, by omega, by omega, by omega, by omega⟩), sF_eq⟩
  · refine W.eq (g2 := F0 m 17 ls [.int 0]) rfl ?_
    refine lv_if_ne (tgt := 22) hx hb dX4_readDigit_17 (by decide) (fun c_ => absurd (by decide) c_) (fun c_ => ?_)
    refine lv_iconst (v := (-1)) hx hb dX4_readDigit_20 (by decide) ?_
    exact t_iret hB hr hT (Nat.le_of_ble_eq_true rfl) (Nat.le_of_ble_eq_true rfl) dX4_readDigit_21 ⟨(-1), pl, rfl, hI, hE, hM, (Or.inl ⟨rfl, by omega, rfl⟩), kpl⟩
abbrev md_s_readValue : Nat → Nat → Bool := mdf [(5, 3)]
theorem mdle_s_readValue_s_pass {r k : Nat} (h : md_s_readValue r k = false) : md_s_pass r k = false := mdf_le (by decide +kernel) h
theorem mdle_s_readValue_s_readDigit {r k : Nat} (h : md_s_readValue r k = false) : md_s_readDigit r k = false := mdf_le (by decide +kernel) h
set_option maxHeartbeats 4000000 in
set_option maxRecDepth 100000 in
theorem s_readValue (l : Launch) (D : va_G) (cI cZ cS cR : ClassId) (N0 : NT) (g : GS) (hI : Inv g) (h : Nat) (pl : Int32) (sz : Int32) (ba : Nat) (ct : Nat → Int32) (r_h : g.1 h = 5) (r_ba : g.1 ba = 67) (n_ba : g.2.2.1 ba = 100) (kpl : g.2.1 h 3 = .int pl) (ksz : g.2.1 h 1 = .int sz) (kba : g.2.1 h 0 = .ref ba) (l_pl : 0 ≤ pl.toInt) (u_pl : pl.toInt ≤ 100) (l_sz : 0 ≤ sz.toInt) (u_sz : sz.toInt ≤ 100) (hc_0 : g.2.2.2.1 ba = ct) : Ty l D cI cZ cS cR N0 yX4_readValue cX4_readValue 4 (some .int) 2 0 0 [.ref h] g (fun v g' => ∃ (r : Int32) (pl2 : Int32), v = some (.int r) ∧ Inv g' ∧ Ex g g' ∧ Sm md_s_readValue g g' ∧ ((r = -1 ∧ vlv (txb ct sz.toInt) pl.toInt = -1 ∧ vlp (txb ct sz.toInt) pl.toInt = pl2.toInt ∧ pl = pl2) ∨ (0 ≤ r.toInt ∧ r.toInt ≤ 1001 ∧ vlv (txb ct sz.toInt) pl.toInt = r.toInt ∧ vlp (txb ct sz.toInt) pl.toInt = pl2.toInt ∧ pl2.toInt ≤ sz.toInt ∧ 0 ≤ pl2.toInt)) ∧ (g'.2.1 h 3 = .int pl2)) := by
  refine t_enter (by decide) (Nat.le_of_ble_eq_true rfl) ?_
  intro p e s m args below meth c ls H locs hB hr hin hl hT
  have hx := hB.1
  have hb := hB.2.1
  have hl : lv_has ls 4 [(0, .ref h)] := hl
  have hE : Ex g g := Ex.rf
  have hM : Sm md_s_readValue g g := Sm.rf
  have hc := hc_0
  refine lv_aload_n hx hb dX4_readValue_0 rfl (lv_at hl 0 rfl) ?_
  refine lv_bipush (v := 120) hx hb dX4_readValue_1 (by decide) ?_
  refine t_callV (n := 1) (As := [.int 120]) (rest := []) (ci := 4) hB hT hl.1 (s_pass l D cI cZ cS cR N0 g hI h 120 pl sz ba ct r_h r_ba n_ba kpl ksz kba (by have q0 : (120 : Int32).toInt = 120 := (by decide); omega) (by have q0 : (120 : Int32).toInt = 120 := (by decide); omega) (by have q0 : (120 : Int32).toInt = 120 := (by decide); omega) (by have q0 : (120 : Int32).toInt = 120 := (by decide); omega) (by have q0 : (120 : Int32).toInt = 120 := (by decide); omega) hc) (ro_ci r_h rfl) rfl k_419 k_58 k_416 k_418 k_5 (by decide +kernel) ⟨(Nat.le_of_ble_eq_true rfl), (Nat.le_of_ble_eq_true rfl)⟩ rfl (Nat.le_of_ble_eq_true rfl) ⟨(Nat.le_of_ble_eq_true rfl), (Nat.le_of_ble_eq_true rfl)⟩ dX4_readValue_3 (fun v g_1 H locs hp hT => ?_)
  obtain ⟨r_2, pl2_3, rfl, hI, x_7, m_6, f_4, f_5⟩ := hp
  have hc : g_1.2.2.2.1 ba = ct := (Sm.cf m_6 r_ba (by decide) rfl).trans hc
  have hM : Sm md_s_readValue g g_1 := hM.tr hE (m_6.mo (fun r k h => mdle_s_readValue_s_pass h))
  have hE : Ex g g_1 := hE.tr x_7
  have r_8 : g_1.1 h = 5 := (Ex.r x_7 r_h (by decide))
  have r_9 : g_1.1 ba = 67 := (Ex.r x_7 r_ba (by decide))
  have n_10 : g_1.2.2.1 ba = 100 := (Ex.n x_7 r_ba (by decide) n_ba)
  have kn_11 : g_1.2.1 h 1 = .int sz := (Sm.v m_6 r_h (by decide) rfl ksz)
  have kn_12 : g_1.2.1 h 0 = .ref ba := (Sm.v m_6 r_h (by decide) rfl kba)
  refine W.eq (g2 := F0 m 6 ls [.int r_2]) rfl ?_
  have qc_13 : (120 : Int32).toInt = 120 := (by decide)
  rcases f_4 with ⟨rfl, hw_14, hw_15, hw_16⟩ | ⟨rfl, hw_17, rfl⟩
  · refine W.eq (g2 := F0 m 6 ls [.int 1]) rfl ?_
    refine lv_if_eq (tgt := 13) hx hb dX4_readValue_6 (by decide) (fun c_ => absurd c_ (by decide)) (fun c_ => ?_)
    refine lv_sipush (v := 1000) hx hb dX4_readValue_9 (by decide) ?_
    have hv_ := vl_x (T := (txb ct sz.toInt)) (p := pl.toInt) (q := pl2_3.toInt) (by omega) (by omega)
    exact t_iret hB hr hT (Nat.le_of_ble_eq_true rfl) (Nat.le_of_ble_eq_true rfl) dX4_readValue_12 ⟨1000, pl2_3, rfl, hI, hE, hM, (Or.inr ⟨by decide, by decide, hv_.1.trans (by decide), hv_.2, by omega, by omega⟩), f_5⟩
  · refine W.eq (g2 := F0 m 6 ls [.int 0]) rfl ?_
    refine lv_if_eq (tgt := 13) hx hb dX4_readValue_6 (by decide) (fun c_ => ?_) (fun c_ => absurd (by decide) c_)
    refine lv_aload_n hx hb dX4_readValue_13 rfl (lv_at hl 0 rfl) ?_
    refine lv_bipush (v := 114) hx hb dX4_readValue_14 (by decide) ?_
    refine t_callV (n := 1) (As := [.int 114]) (rest := []) (ci := 4) hB hT hl.1 (s_pass l D cI cZ cS cR N0 g_1 hI h 114 pl sz ba ct r_8 r_9 n_10 f_5 kn_11 kn_12 (by have q0 : (114 : Int32).toInt = 114 := (by decide); omega) (by have q0 : (114 : Int32).toInt = 114 := (by decide); omega) (by have q0 : (114 : Int32).toInt = 114 := (by decide); omega) (by have q0 : (114 : Int32).toInt = 114 := (by decide); omega) (by have q0 : (114 : Int32).toInt = 114 := (by decide); omega) hc) (ro_ci r_8 rfl) rfl k_419 k_58 k_416 k_418 k_5 (by decide +kernel) ⟨(Nat.le_of_ble_eq_true rfl), (Nat.le_of_ble_eq_true rfl)⟩ rfl (Nat.le_of_ble_eq_true rfl) ⟨(Nat.le_of_ble_eq_true rfl), (Nat.le_of_ble_eq_true rfl)⟩ dX4_readValue_16 (fun v g_18 H locs hp hT => ?_)
    obtain ⟨r_19, pl2_20, rfl, hI, x_24, m_23, f_21, f_22⟩ := hp
    have hc : g_18.2.2.2.1 ba = ct := (Sm.cf m_23 r_9 (by decide) rfl).trans hc
    have hM : Sm md_s_readValue g g_18 := hM.tr hE (m_23.mo (fun r k h => mdle_s_readValue_s_pass h))
    have hE : Ex g g_18 := hE.tr x_24
    have r_25 : g_18.1 h = 5 := (Ex.r x_24 r_8 (by decide))
    have r_26 : g_18.1 ba = 67 := (Ex.r x_24 r_9 (by decide))
    have n_27 : g_18.2.2.1 ba = 100 := (Ex.n x_24 r_9 (by decide) n_10)
    have kn_28 : g_18.2.1 h 1 = .int sz := (Sm.v m_23 r_8 (by decide) rfl kn_11)
    have kn_29 : g_18.2.1 h 0 = .ref ba := (Sm.v m_23 r_8 (by decide) rfl kn_12)
    refine W.eq (g2 := F0 m 19 ls [.int r_19]) rfl ?_
    have qc_30 : (114 : Int32).toInt = 114 := (by decide)
    rcases f_21 with ⟨rfl, hw_31, hw_32, hw_33⟩ | ⟨rfl, hw_34, rfl⟩
    · refine W.eq (g2 := F0 m 19 ls [.int 1]) rfl ?_
      refine lv_if_eq (tgt := 26) hx hb dX4_readValue_19 (by decide) (fun c_ => absurd c_ (by decide)) (fun c_ => ?_)
      refine lv_sipush (v := 1001) hx hb dX4_readValue_22 (by decide) ?_
      have hv_ := vl_r (T := (txb ct sz.toInt)) (p := pl.toInt) (q := pl2_20.toInt) (by omega) (by omega)
      exact t_iret hB hr hT (Nat.le_of_ble_eq_true rfl) (Nat.le_of_ble_eq_true rfl) dX4_readValue_25 ⟨1001, pl2_20, rfl, hI, hE, hM, (Or.inr ⟨by decide, by decide, hv_.1.trans (by decide), hv_.2, by omega, by omega⟩), f_22⟩
    · refine W.eq (g2 := F0 m 19 ls [.int 0]) rfl ?_
      refine lv_if_eq (tgt := 26) hx hb dX4_readValue_19 (by decide) (fun c_ => ?_) (fun c_ => absurd (by decide) c_)
      refine lv_aload_n hx hb dX4_readValue_26 rfl (lv_at hl 0 rfl) ?_
      refine lv_bipush (v := 9) hx hb dX4_readValue_27 (by decide) ?_
      refine t_callV (n := 1) (As := [.int 9]) (rest := []) (ci := 4) hB hT hl.1 (s_readDigit l D cI cZ cS cR N0 g_18 hI h 9 pl sz ba ct r_25 r_26 n_27 f_22 kn_28 kn_29 (by have q0 : (9 : Int32).toInt = 9 := (by decide); omega) (by have q0 : (9 : Int32).toInt = 9 := (by decide); omega) (by have q0 : (9 : Int32).toInt = 9 := (by decide); omega) (by have q0 : (9 : Int32).toInt = 9 := (by decide); omega) (by have q0 : (9 : Int32).toInt = 9 := (by decide); omega) (by have q0 : (9 : Int32).toInt = 9 := (by decide); omega) hc) (ro_ci r_25 rfl) rfl k_412 k_58 k_409 k_411 k_4 (by decide +kernel) ⟨(Nat.le_of_ble_eq_true rfl), (Nat.le_of_ble_eq_true rfl)⟩ rfl (Nat.le_of_ble_eq_true rfl) ⟨(Nat.le_of_ble_eq_true rfl), (Nat.le_of_ble_eq_true rfl)⟩ dX4_readValue_29 (fun v g_35 H locs hp hT => ?_)
      obtain ⟨r_36, pl2_37, rfl, hI, x_41, m_40, f_38, f_39⟩ := hp
      have hc : g_35.2.2.2.1 ba = ct := (Sm.cf m_40 r_26 (by decide) rfl).trans hc
      have hM : Sm md_s_readValue g g_35 := hM.tr hE (m_40.mo (fun r k h => mdle_s_readValue_s_readDigit h))
      have hE : Ex g g_35 := hE.tr x_41
      have r_42 : g_35.1 h = 5 := (Ex.r x_41 r_25 (by decide))
      have r_43 : g_35.1 ba = 67 := (Ex.r x_41 r_26 (by decide))
      have n_44 : g_35.2.2.1 ba = 100 := (Ex.n x_41 r_26 (by decide) n_27)
      have kn_45 : g_35.2.1 h 1 = .int sz := (Sm.v m_40 r_25 (by decide) rfl kn_28)
      have kn_46 : g_35.2.1 h 0 = .ref ba := (Sm.v m_40 r_25 (by decide) rfl kn_29)
      refine W.eq (g2 := F0 m 32 ls [.int r_36]) rfl ?_
      have qc_47 : (9 : Int32).toInt = 9 := (by decide)
      rcases f_38 with ⟨rfl, hw_48, rfl⟩ | ⟨hw_49, hw_50, hw_51, hw_52, hw_53⟩
      · refine W.eq (g2 := F0 m 32 ls [.int (-1)]) rfl ?_
        refine lv_istore_n (lv' := [(1, .int (-1)), (0, .ref h)]) hx hb dX4_readValue_32 rfl hl (by decide) rfl (fun ls hl => ?_)
        refine lv_iconst (v := 0) hx hb dX4_readValue_33 (by decide) ?_
        refine lv_istore_n (lv' := [(2, .int 0), (1, .int (-1)), (0, .ref h)]) hx hb dX4_readValue_34 rfl hl (by decide) rfl (fun ls hl => ?_)
        refine lv_iload_n hx hb dX4_readValue_35 rfl (lv_at hl 1 rfl) ?_
        refine lv_iconst (v := (-1)) hx hb dX4_readValue_36 (by decide) ?_
        refine lv_icmp_eq (tgt := 73) hx hb dX4_readValue_37 (by decide) (fun c_ => ?_) (fun c_ => absurd (by decide) c_)
        refine lv_iload_n hx hb dX4_readValue_73 rfl (lv_at hl 1 rfl) ?_
        have hv_ := vl_0 (T := (txb ct sz.toInt)) (p := pl.toInt) (q := pl.toInt) (by omega) (by omega) (by omega) rfl
        exact t_iret hB hr hT (Nat.le_of_ble_eq_true rfl) (Nat.le_of_ble_eq_true rfl) dX4_readValue_74 ⟨(-1), pl, rfl, hI, hE, hM, (Or.inl ⟨rfl, hv_.1, hv_.2, rfl⟩), f_39⟩
      · refine W.eq (g2 := F0 m 32 ls [.int r_36]) rfl ?_
        refine lv_istore_n (lv' := [(1, .int r_36), (0, .ref h)]) hx hb dX4_readValue_32 rfl hl (by decide) rfl (fun ls hl => ?_)
        refine lv_iconst (v := 0) hx hb dX4_readValue_33 (by decide) ?_
        refine lv_istore_n (lv' := [(2, .int 0), (1, .int r_36), (0, .ref h)]) hx hb dX4_readValue_34 rfl hl (by decide) rfl (fun ls hl => ?_)
        refine lv_iload_n hx hb dX4_readValue_35 rfl (lv_at hl 1 rfl) ?_
        refine lv_iconst (v := (-1)) hx hb dX4_readValue_36 (by decide) ?_
        refine lv_icmp_eq (tgt := 73) hx hb dX4_readValue_37 (by decide) (fun c_54 => ?_) (fun c_54 => ?_)
        · have c_54' : r_36.toInt = (-1) := i_eq c_54 rfl (by decide)
          exact absurd c_54' (by omega)
        · have c_54' : r_36.toInt ≠ (-1) := i_ne c_54 rfl (by decide)
          refine lv_iload_n hx hb dX4_readValue_40 rfl (lv_at hl 0 rfl) ?_
          refine lv_iconst (v := 2) hx hb dX4_readValue_41 (by decide) ?_
          refine lv_icmp_ge (tgt := 73) hx hb dX4_readValue_42 (by decide) (fun c_ => absurd c_ (by decide)) (fun c_ => ?_)
          refine lv_aload_n hx hb dX4_readValue_45 rfl (lv_at hl 2 rfl) ?_
          refine lv_bipush (v := 9) hx hb dX4_readValue_46 (by decide) ?_
          refine t_callV (n := 1) (As := [.int 9]) (rest := []) (ci := 4) hB hT hl.1 (s_readDigit l D cI cZ cS cR N0 g_35 hI h 9 pl2_37 sz ba ct r_42 r_43 n_44 f_39 kn_45 kn_46 (by have q0 : (9 : Int32).toInt = 9 := (by decide); omega) (by have q0 : (9 : Int32).toInt = 9 := (by decide); omega) (by have q0 : (9 : Int32).toInt = 9 := (by decide); omega) (by have q0 : (9 : Int32).toInt = 9 := (by decide); omega) (by have q0 : (9 : Int32).toInt = 9 := (by decide); omega) (by have q0 : (9 : Int32).toInt = 9 := (by decide); omega) hc) (ro_ci r_42 rfl) rfl k_412 k_58 k_409 k_411 k_4 (by decide +kernel) ⟨(Nat.le_of_ble_eq_true rfl), (Nat.le_of_ble_eq_true rfl)⟩ rfl (Nat.le_of_ble_eq_true rfl) ⟨(Nat.le_of_ble_eq_true rfl), (Nat.le_of_ble_eq_true rfl)⟩ dX4_readValue_48 (fun v g_55 H locs hp hT => ?_)
          obtain ⟨r_56, pl2_57, rfl, hI, x_61, m_60, f_58, f_59⟩ := hp
          have hc : g_55.2.2.2.1 ba = ct := (Sm.cf m_60 r_43 (by decide) rfl).trans hc
          have hM : Sm md_s_readValue g g_55 := hM.tr hE (m_60.mo (fun r k h => mdle_s_readValue_s_readDigit h))
          have hE : Ex g g_55 := hE.tr x_61
          have r_62 : g_55.1 h = 5 := (Ex.r x_61 r_42 (by decide))
          have r_63 : g_55.1 ba = 67 := (Ex.r x_61 r_43 (by decide))
          have n_64 : g_55.2.2.1 ba = 100 := (Ex.n x_61 r_43 (by decide) n_44)
          have kn_65 : g_55.2.1 h 1 = .int sz := (Sm.v m_60 r_42 (by decide) rfl kn_45)
          have kn_66 : g_55.2.1 h 0 = .ref ba := (Sm.v m_60 r_42 (by decide) rfl kn_46)
          refine W.eq (g2 := F0 m 51 ls [.int r_56]) rfl ?_
          have qc_67 : (9 : Int32).toInt = 9 := (by decide)
          rcases f_58 with ⟨rfl, hw_68, rfl⟩ | ⟨hw_69, hw_70, hw_71, hw_72, hw_73⟩
          · refine W.eq (g2 := F0 m 51 ls [.int (-1)]) rfl ?_
            refine lv_istore_n (lv' := [(3, .int (-1)), (2, .int 0), (1, .int r_36), (0, .ref h)]) hx hb dX4_readValue_51 rfl hl (by decide) rfl (fun ls hl => ?_)
            refine lv_iload_n hx hb dX4_readValue_52 rfl (lv_at hl 0 rfl) ?_
            refine lv_iconst (v := (-1)) hx hb dX4_readValue_53 (by decide) ?_
            refine lv_icmp_ne (tgt := 60) hx hb dX4_readValue_54 (by decide) (fun c_ => absurd (by decide) c_) (fun c_ => ?_)
            refine lv_goto (tgt := 73) hx hb dX4_readValue_57 (by decide) ?_
            refine lv_iload_n hx hb dX4_readValue_73 rfl (lv_at hl 2 rfl) ?_
            have hv_ := vl_1 (T := (txb ct sz.toInt)) (p := pl.toInt) (v := r_36.toInt) (q := pl2_37.toInt) ⟨by omega, by omega⟩ (by omega) (by omega) (by omega)
            exact t_iret hB hr hT (Nat.le_of_ble_eq_true rfl) (Nat.le_of_ble_eq_true rfl) dX4_readValue_74 ⟨r_36, pl2_37, rfl, hI, hE, hM, (Or.inr ⟨by omega, by omega, hv_.1, hv_.2, by omega, by omega⟩), f_59⟩
          · refine W.eq (g2 := F0 m 51 ls [.int r_56]) rfl ?_
            refine lv_istore_n (lv' := [(3, .int r_56), (2, .int 0), (1, .int r_36), (0, .ref h)]) hx hb dX4_readValue_51 rfl hl (by decide) rfl (fun ls hl => ?_)
            refine lv_iload_n hx hb dX4_readValue_52 rfl (lv_at hl 0 rfl) ?_
            refine lv_iconst (v := (-1)) hx hb dX4_readValue_53 (by decide) ?_
            refine lv_icmp_ne (tgt := 60) hx hb dX4_readValue_54 (by decide) (fun c_74 => ?_) (fun c_74 => ?_)
            · have c_74' : r_56.toInt ≠ (-1) := i_ne c_74 rfl (by decide)
              refine lv_iload_n hx hb dX4_readValue_60 rfl (lv_at hl 2 rfl) ?_
              refine lv_bipush (v := 10) hx hb dX4_readValue_61 (by decide) ?_
              refine lv_imul hx hb dX4_readValue_63 ?_
              refine lv_topi (fun z_75 ez_75 => ?_)
              have e_z_75 : z_75.toInt = r_36.toInt * 10 := i_mul ez_75 rfl (by decide) (by omega) (by omega)
              refine lv_iload_n hx hb dX4_readValue_64 rfl (lv_at hl 0 rfl) ?_
              refine lv_iadd hx hb dX4_readValue_65 ?_
              refine lv_topi (fun z_76 ez_76 => ?_)
              have e_z_76 : z_76.toInt = z_75.toInt + r_56.toInt := i_add ez_76 rfl rfl (by omega) (by omega)
              refine lv_istore_n (lv' := [(1, .int z_76), (3, .int r_56), (2, .int 0), (0, .ref h)]) hx hb dX4_readValue_66 rfl hl (by decide) rfl (fun ls hl => ?_)
              refine lv_iinc (v := 1) (lv' := [(2, .int 1), (1, .int z_76), (3, .int r_56), (0, .ref h)]) hx hb dX4_readValue_67 hl (k := 2) rfl (by decide) (by decide) rfl (fun ls hl => ?_)
              refine lv_goto (tgt := 35) hx hb dX4_readValue_70 (by decide) ?_
              refine lv_iload_n hx hb dX4_readValue_35 rfl (lv_at hl 1 rfl) ?_
              refine lv_iconst (v := (-1)) hx hb dX4_readValue_36 (by decide) ?_
              refine lv_icmp_eq (tgt := 73) hx hb dX4_readValue_37 (by decide) (fun c_77 => ?_) (fun c_77 => ?_)
              · have c_77' : z_76.toInt = (-1) := i_eq c_77 rfl (by decide)
                exact absurd c_77' (by omega)
              · have c_77' : z_76.toInt ≠ (-1) := i_ne c_77 rfl (by decide)
                refine lv_iload_n hx hb dX4_readValue_40 rfl (lv_at hl 0 rfl) ?_
                refine lv_iconst (v := 2) hx hb dX4_readValue_41 (by decide) ?_
                refine lv_icmp_ge (tgt := 73) hx hb dX4_readValue_42 (by decide) (fun c_ => absurd c_ (by decide)) (fun c_ => ?_)
                refine lv_aload_n hx hb dX4_readValue_45 rfl (lv_at hl 3 rfl) ?_
                refine lv_bipush (v := 9) hx hb dX4_readValue_46 (by decide) ?_
                refine t_callV (n := 1) (As := [.int 9]) (rest := []) (ci := 4) hB hT hl.1 (s_readDigit l D cI cZ cS cR N0 g_55 hI h 9 pl2_57 sz ba ct r_62 r_63 n_64 f_59 kn_65 kn_66 (by have q0 : (9 : Int32).toInt = 9 := (by decide); omega) (by have q0 : (9 : Int32).toInt = 9 := (by decide); omega) (by have q0 : (9 : Int32).toInt = 9 := (by decide); omega) (by have q0 : (9 : Int32).toInt = 9 := (by decide); omega) (by have q0 : (9 : Int32).toInt = 9 := (by decide); omega) (by have q0 : (9 : Int32).toInt = 9 := (by decide); omega) hc) (ro_ci r_62 rfl) rfl k_412 k_58 k_409 k_411 k_4 (by decide +kernel) ⟨(Nat.le_of_ble_eq_true rfl), (Nat.le_of_ble_eq_true rfl)⟩ rfl (Nat.le_of_ble_eq_true rfl) ⟨(Nat.le_of_ble_eq_true rfl), (Nat.le_of_ble_eq_true rfl)⟩ dX4_readValue_48 (fun v g_78 H locs hp hT => ?_)
                obtain ⟨r_79, pl2_80, rfl, hI, x_84, m_83, f_81, f_82⟩ := hp
                have hc : g_78.2.2.2.1 ba = ct := (Sm.cf m_83 r_63 (by decide) rfl).trans hc
                have hM : Sm md_s_readValue g g_78 := hM.tr hE (m_83.mo (fun r k h => mdle_s_readValue_s_readDigit h))
                have hE : Ex g g_78 := hE.tr x_84
                have r_85 : g_78.1 h = 5 := (Ex.r x_84 r_62 (by decide))
                have r_86 : g_78.1 ba = 67 := (Ex.r x_84 r_63 (by decide))
                have n_87 : g_78.2.2.1 ba = 100 := (Ex.n x_84 r_63 (by decide) n_64)
                have kn_88 : g_78.2.1 h 1 = .int sz := (Sm.v m_83 r_62 (by decide) rfl kn_65)
                have kn_89 : g_78.2.1 h 0 = .ref ba := (Sm.v m_83 r_62 (by decide) rfl kn_66)
                refine W.eq (g2 := F0 m 51 ls [.int r_79]) rfl ?_
                have qc_90 : (9 : Int32).toInt = 9 := (by decide)
                rcases f_81 with ⟨rfl, hw_91, rfl⟩ | ⟨hw_92, hw_93, hw_94, hw_95, hw_96⟩
                · refine W.eq (g2 := F0 m 51 ls [.int (-1)]) rfl ?_
                  refine lv_istore_n (lv' := [(3, .int (-1)), (2, .int 1), (1, .int z_76), (0, .ref h)]) hx hb dX4_readValue_51 rfl hl (by decide) rfl (fun ls hl => ?_)
                  refine lv_iload_n hx hb dX4_readValue_52 rfl (lv_at hl 0 rfl) ?_
                  refine lv_iconst (v := (-1)) hx hb dX4_readValue_53 (by decide) ?_
                  refine lv_icmp_ne (tgt := 60) hx hb dX4_readValue_54 (by decide) (fun c_ => absurd (by decide) c_) (fun c_ => ?_)
                  refine lv_goto (tgt := 73) hx hb dX4_readValue_57 (by decide) ?_
                  refine lv_iload_n hx hb dX4_readValue_73 rfl (lv_at hl 2 rfl) ?_
                  have hv_ := vl_2 (T := (txb ct sz.toInt)) (p := pl.toInt) (v := z_76.toInt) (q := pl2_37.toInt) (q2 := pl2_57.toInt) ⟨by omega, by omega⟩ (by omega) ⟨by omega, by omega⟩ (by omega) (by omega) (by omega)
                  exact t_iret hB hr hT (Nat.le_of_ble_eq_true rfl) (Nat.le_of_ble_eq_true rfl) dX4_readValue_74 ⟨z_76, pl2_57, rfl, hI, hE, hM, (Or.inr ⟨by omega, by omega, hv_.1, hv_.2, by omega, by omega⟩), f_82⟩
                · refine W.eq (g2 := F0 m 51 ls [.int r_79]) rfl ?_
                  refine lv_istore_n (lv' := [(3, .int r_79), (2, .int 1), (1, .int z_76), (0, .ref h)]) hx hb dX4_readValue_51 rfl hl (by decide) rfl (fun ls hl => ?_)
                  refine lv_iload_n hx hb dX4_readValue_52 rfl (lv_at hl 0 rfl) ?_
                  refine lv_iconst (v := (-1)) hx hb dX4_readValue_53 (by decide) ?_
                  refine lv_icmp_ne (tgt := 60) hx hb dX4_readValue_54 (by decide) (fun c_97 => ?_) (fun c_97 => ?_)
                  · have c_97' : r_79.toInt ≠ (-1) := i_ne c_97 rfl (by decide)
                    refine lv_iload_n hx hb dX4_readValue_60 rfl (lv_at hl 2 rfl) ?_
                    refine lv_bipush (v := 10) hx hb dX4_readValue_61 (by decide) ?_
                    refine lv_imul hx hb dX4_readValue_63 ?_
                    refine lv_topi (fun z_98 ez_98 => ?_)
                    have e_z_98 : z_98.toInt = z_76.toInt * 10 := i_mul ez_98 rfl (by decide) (by omega) (by omega)
                    refine lv_iload_n hx hb dX4_readValue_64 rfl (lv_at hl 0 rfl) ?_
                    refine lv_iadd hx hb dX4_readValue_65 ?_
                    refine lv_topi (fun z_99 ez_99 => ?_)
                    have e_z_99 : z_99.toInt = z_98.toInt + r_79.toInt := i_add ez_99 rfl rfl (by omega) (by omega)
                    refine lv_istore_n (lv' := [(1, .int z_99), (3, .int r_79), (2, .int 1), (0, .ref h)]) hx hb dX4_readValue_66 rfl hl (by decide) rfl (fun ls hl => ?_)
                    refine lv_iinc (v := 2) (lv' := [(2, .int 2), (1, .int z_99), (3, .int r_79), (0, .ref h)]) hx hb dX4_readValue_67 hl (k := 2) rfl (by decide) (by decide) rfl (fun ls hl => ?_)
                    refine lv_goto (tgt := 35) hx hb dX4_readValue_70 (by decide) ?_
                    refine lv_iload_n hx hb dX4_readValue_35 rfl (lv_at hl 1 rfl) ?_
                    refine lv_iconst (v := (-1)) hx hb dX4_readValue_36 (by decide) ?_
                    refine lv_icmp_eq (tgt := 73) hx hb dX4_readValue_37 (by decide) (fun c_100 => ?_) (fun c_100 => ?_)
                    · have c_100' : z_99.toInt = (-1) := i_eq c_100 rfl (by decide)
                      exact absurd c_100' (by omega)
                    · have c_100' : z_99.toInt ≠ (-1) := i_ne c_100 rfl (by decide)
                      refine lv_iload_n hx hb dX4_readValue_40 rfl (lv_at hl 0 rfl) ?_
                      refine lv_iconst (v := 2) hx hb dX4_readValue_41 (by decide) ?_
                      refine lv_icmp_ge (tgt := 73) hx hb dX4_readValue_42 (by decide) (fun c_ => ?_) (fun c_ => absurd (by decide) c_)
                      refine lv_iload_n hx hb dX4_readValue_73 rfl (lv_at hl 1 rfl) ?_
                      have hv_ := vl_3 (T := (txb ct sz.toInt)) (p := pl.toInt) (v := z_99.toInt) (q := pl2_37.toInt) (q2 := pl2_57.toInt) (q3 := pl2_80.toInt) ⟨by omega, by omega⟩ (by omega) ⟨by omega, by omega⟩ (by omega) ⟨by omega, by omega⟩ (by omega) (by omega)
                      exact t_iret hB hr hT (Nat.le_of_ble_eq_true rfl) (Nat.le_of_ble_eq_true rfl) dX4_readValue_74 ⟨z_99, pl2_80, rfl, hI, hE, hM, (Or.inr ⟨by omega, by omega, hv_.1, hv_.2, by omega, by omega⟩), f_82⟩
                  · have c_97' : r_79.toInt = (-1) := i_eq c_97 rfl (by decide)
                    exact absurd c_97' (by omega)
            · have c_74' : r_56.toInt = (-1) := i_eq c_74 rfl (by decide)
              exact absurd c_74' (by omega)
abbrev md_s_readWord : Nat → Nat → Bool := mdf [(5, 3)]
set_option maxHeartbeats 4000000 in
set_option maxRecDepth 100000 in
theorem lt_s_readWord_w8 (l : Launch) (D : va_G) (cI cZ cS cR : ClassId) (N0 : NT) (g : GS) (h : Nat) (pl : Int32) (sz : Int32) (ba : Nat) (ct : Nat → Int32) (r_h : g.1 h = 5) (r_ba : g.1 ba = 67) (n_ba : g.2.2.1 ba = 100) (kpl : g.2.1 h 3 = .int pl) (ksz : g.2.1 h 1 = .int sz) (kba : g.2.1 h 0 = .ref ba) (l_pl : 0 ≤ pl.toInt) (u_pl : pl.toInt ≤ 100) (l_sz : 0 ≤ sz.toInt) (u_sz : sz.toInt ≤ 100) (hc_0 : g.2.2.2.1 ba = ct) {p : Program} {e : Env} {s : State} {m : MethodId} {args : Array Value} {below : List Frame} {meth : Method} {c : Code} (hB : Tz p s m meth c args cX4_readWord 6 RX4 D cI cZ cS cR N0) (hr : meth.sig.returnType = (some .int))    : ∀ (g1 : GS) (fu : Int32)  (H : Heap) (locs : List Loc) (ls : Array Slot), Tv D cI cZ cS cR N0 s.heap H locs g1 → Inv g1 → Ex g g1 → Sm md_s_readWord g g1 → 0 ≤ fu.toInt → fu.toInt ≤ 4 → g1.2.1 h 3 = .int pl → (g1.2.2.2.1 ba = ct) → (fu.toInt = fw (txb ct sz.toInt) pl.toInt 8) → (qj (txb ct sz.toInt) pl.toInt 0 ≠ 4) → (qj (txb ct sz.toInt) pl.toInt 1 ≠ 4) → (qj (txb ct sz.toInt) pl.toInt 2 ≠ 4) → (qj (txb ct sz.toInt) pl.toInt 3 ≠ 4) → (qj (txb ct sz.toInt) pl.toInt 4 ≠ 4) → (qj (txb ct sz.toInt) pl.toInt 5 ≠ 4) → (qj (txb ct sz.toInt) pl.toInt 6 ≠ 3) → (qj (txb ct sz.toInt) pl.toInt 7 ≠ 3) → lv_has ls 6 [(2, .int 8), (1, .int fu), (0, .ref h)] → W p l e (rmx 4 0 0) s m args below meth c H locs 0 0 (MQ below (tQ D cI cZ cS cR N0 (fun v g' => ∃ (r : Int32) (pl2 : Int32), v = some (.int r) ∧ Inv g' ∧ Ex g g' ∧ Sm md_s_readWord g g' ∧ ((r = -1 ∧ wdr (txb ct sz.toInt) pl.toInt = -1 ∧ pl2.toInt = wdp (txb ct sz.toInt) pl.toInt ∧ 0 ≤ pl2.toInt ∧ pl2.toInt ≤ 104) ∨ (0 ≤ r.toInt ∧ r.toInt ≤ 7 ∧ wdr (txb ct sz.toInt) pl.toInt = r.toInt ∧ pl2.toInt = wdp (txb ct sz.toInt) pl.toInt ∧ pl2.toInt ≤ sz.toInt ∧ 0 ≤ pl2.toInt)) ∧ (g'.2.1 h 3 = .int pl2))) args s 0 0 (fun q => N0.1 ≤ q)) (F0 m 4 ls []) := by
  have hx := hB.1
  have hb := hB.2.1
  intro g1 fu H locs ls hT hI hE hM l_fu u_fu kp0 hc hfu hn0 hn1 hn2 hn3 hn4 hn5 hn6 hn7 hl
  have r_1 : g1.1 h = 5 := Ex.r hE r_h (by decide)
  have r_2 : g1.1 ba = 67 := Ex.r hE r_ba (by decide)
  have n_3 : g1.2.2.1 ba = 100 := Ex.n hE r_ba (by decide) n_ba
  have kn_4 : g1.2.1 h 1 = .int sz := Sm.v hM r_h (by decide) rfl ksz
  have kn_5 : g1.2.1 h 0 = .ref ba := Sm.v hM r_h (by decide) rfl kba
  refine lv_iload_n hx hb dX4_readWord_4 rfl (lv_at hl 0 rfl) ?_
  refine lv_bipush (v := 8) hx hb dX4_readWord_5 (by decide) ?_
  refine lv_icmp_ge (tgt := 99) hx hb dX4_readWord_7 (by decide) (fun c_ => ?_) (fun c_ => absurd (by decide) c_)
  refine lv_aload_n hx hb dX4_readWord_99 rfl (lv_at hl 2 rfl) ?_
  refine lv_dup hx hb dX4_readWord_100 rfl ?_
  refine t_get (ci := 4) (v := .int pl) hB hT (ro_ci r_1 rfl) rfl 3 (by decide) k_91 kp0 dX4_readWord_101 ?_
  refine lv_iload_n hx hb dX4_readWord_104 rfl (lv_at hl 1 rfl) ?_
  refine lv_iadd hx hb dX4_readWord_105 ?_
  refine lv_topi (fun z_6 ez_6 => ?_)
  have e_z_6 : z_6.toInt = pl.toInt + fu.toInt := i_add ez_6 rfl rfl (by omega) (by omega)
  refine t_put0 (ci := 4) (v := .int z_6) hB hT (ro_ci r_1 rfl) (ro_n0 r_1 (by decide)) rfl 3 (by decide) k_91 (Or.inl rfl) rfl rfl dX4_readWord_106 (fun H locs hT => ?_)
  have hI : Inv (sF g1 h 3 (.int z_6)) := hI.sF (p_5_3 r_1 (⟨_, rfl⟩))
  have hM : Sm md_s_readWord g (sF g1 h 3 (.int z_6)) := hM.tr hE (Sm_sF (by rw [r_1]; rfl))
  have hE : Ex g (sF g1 h 3 (.int z_6)) := hE
  have hc : (sF g1 h 3 (.int z_6)).2.2.2.1 ba = ct := hc
  refine lv_iconst (v := (-1)) hx hb dX4_readWord_109 (by decide) ?_
  have hv_ := wd_none hn0 hn1 hn2 hn3 hn4 hn5 hn6 hn7
  exact t_iret hB hr hT (Nat.le_of_ble_eq_true rfl) (Nat.le_of_ble_eq_true rfl) dX4_readWord_110 ⟨(-1), z_6, rfl, hI, hE, hM, (Or.inl ⟨rfl, hv_.1, (by have q_ := hv_.2; omega), by omega, by omega⟩), sF_eq⟩
set_option maxHeartbeats 4000000 in
set_option maxRecDepth 100000 in
theorem lt_s_readWord_w7 (l : Launch) (D : va_G) (cI cZ cS cR : ClassId) (N0 : NT) (g : GS) (h : Nat) (pl : Int32) (sz : Int32) (ba : Nat) (ct : Nat → Int32) (r_h : g.1 h = 5) (r_ba : g.1 ba = 67) (n_ba : g.2.2.1 ba = 100) (kpl : g.2.1 h 3 = .int pl) (ksz : g.2.1 h 1 = .int sz) (kba : g.2.1 h 0 = .ref ba) (l_pl : 0 ≤ pl.toInt) (u_pl : pl.toInt ≤ 100) (l_sz : 0 ≤ sz.toInt) (u_sz : sz.toInt ≤ 100) (hc_0 : g.2.2.2.1 ba = ct) {p : Program} {e : Env} {s : State} {m : MethodId} {args : Array Value} {below : List Frame} {meth : Method} {c : Code} (hB : Tz p s m meth c args cX4_readWord 6 RX4 D cI cZ cS cR N0) (hr : meth.sig.returnType = (some .int))    : ∀ (g1 : GS) (fu : Int32)  (H : Heap) (locs : List Loc) (ls : Array Slot), Tv D cI cZ cS cR N0 s.heap H locs g1 → Inv g1 → Ex g g1 → Sm md_s_readWord g g1 → 0 ≤ fu.toInt → fu.toInt ≤ 4 → g1.2.1 h 3 = .int pl → (g1.2.2.2.1 ba = ct) → (fu.toInt = fw (txb ct sz.toInt) pl.toInt 7) → (qj (txb ct sz.toInt) pl.toInt 0 ≠ 4) → (qj (txb ct sz.toInt) pl.toInt 1 ≠ 4) → (qj (txb ct sz.toInt) pl.toInt 2 ≠ 4) → (qj (txb ct sz.toInt) pl.toInt 3 ≠ 4) → (qj (txb ct sz.toInt) pl.toInt 4 ≠ 4) → (qj (txb ct sz.toInt) pl.toInt 5 ≠ 4) → (qj (txb ct sz.toInt) pl.toInt 6 ≠ 3) → lv_has ls 6 [(2, .int 7), (1, .int fu), (0, .ref h)] → W p l e (rmx 4 0 0) s m args below meth c H locs 0 0 (MQ below (tQ D cI cZ cS cR N0 (fun v g' => ∃ (r : Int32) (pl2 : Int32), v = some (.int r) ∧ Inv g' ∧ Ex g g' ∧ Sm md_s_readWord g g' ∧ ((r = -1 ∧ wdr (txb ct sz.toInt) pl.toInt = -1 ∧ pl2.toInt = wdp (txb ct sz.toInt) pl.toInt ∧ 0 ≤ pl2.toInt ∧ pl2.toInt ≤ 104) ∨ (0 ≤ r.toInt ∧ r.toInt ≤ 7 ∧ wdr (txb ct sz.toInt) pl.toInt = r.toInt ∧ pl2.toInt = wdp (txb ct sz.toInt) pl.toInt ∧ pl2.toInt ≤ sz.toInt ∧ 0 ≤ pl2.toInt)) ∧ (g'.2.1 h 3 = .int pl2))) args s 0 0 (fun q => N0.1 ≤ q)) (F0 m 4 ls []) := by
  have hx := hB.1
  have hb := hB.2.1
  intro g1 fu H locs ls hT hI hE hM l_fu u_fu kp0 hc hfu hn0 hn1 hn2 hn3 hn4 hn5 hn6 hl
  have r_1 : g1.1 h = 5 := Ex.r hE r_h (by decide)
  have r_2 : g1.1 ba = 67 := Ex.r hE r_ba (by decide)
  have n_3 : g1.2.2.1 ba = 100 := Ex.n hE r_ba (by decide) n_ba
  have kn_4 : g1.2.1 h 1 = .int sz := Sm.v hM r_h (by decide) rfl ksz
  have kn_5 : g1.2.1 h 0 = .ref ba := Sm.v hM r_h (by decide) rfl kba
  refine lv_iload_n hx hb dX4_readWord_4 rfl (lv_at hl 0 rfl) ?_
  refine lv_bipush (v := 8) hx hb dX4_readWord_5 (by decide) ?_
  refine lv_icmp_ge (tgt := 99) hx hb dX4_readWord_7 (by decide) (fun c_ => absurd c_ (by decide)) (fun c_ => ?_)
  refine va_gets hx hb (ux_wb hB) hT.2 hB.2.2.2.1 (hB.2.2.2.2.1 _ k_361) (fun _ h => h) dX4_readWord_10 ?_
  refine lv_iload_n hx hb dX4_readWord_13 rfl (lv_at hl 0 rfl) ?_
  refine va_ti (v := .int 27) hx hb (ux_tab hB) hT.2 (by unfold vp_in; decide) rfl dX4_readWord_14 ?_
  refine lv_istore_n (lv' := [(3, .int 27), (2, .int 7), (1, .int fu), (0, .ref h)]) hx hb dX4_readWord_15 rfl hl (by decide) rfl (fun ls hl => ?_)
  refine va_gets hx hb (ux_wb hB) hT.2 hB.2.2.2.1 (hB.2.2.2.2.1 _ k_361) (fun _ h => h) dX4_readWord_16 ?_
  refine lv_iload_n hx hb dX4_readWord_19 rfl (lv_at hl 1 rfl) ?_
  refine lv_iconst (v := 1) hx hb dX4_readWord_20 (by decide) ?_
  refine lv_iadd hx hb dX4_readWord_21 ?_
  refine x_ev (y := 8) (by decide) ?_
  refine va_ti (v := .int 30) hx hb (ux_tab hB) hT.2 (by unfold vp_in; decide) rfl dX4_readWord_22 ?_
  refine lv_iload_n hx hb dX4_readWord_23 rfl (lv_at hl 0 rfl) ?_
  refine lv_isub hx hb dX4_readWord_24 ?_
  refine x_ev (y := 3) (by decide) ?_
  refine lv_istore (lv' := [(4, .int 3), (3, .int 27), (2, .int 7), (1, .int fu), (0, .ref h)]) hx hb dX4_readWord_25 hl (by decide) rfl (fun ls hl => ?_)
  refine lv_iconst (v := 0) hx hb dX4_readWord_27 (by decide) ?_
  refine lv_istore (lv' := [(5, .int 0), (4, .int 3), (3, .int 27), (2, .int 7), (1, .int fu), (0, .ref h)]) hx hb dX4_readWord_28 hl (by decide) rfl (fun ls hl => ?_)
  refine lv_iload hx hb dX4_readWord_30 (lv_at hl 0 rfl) ?_
  refine lv_iload hx hb dX4_readWord_32 (lv_at hl 1 rfl) ?_
  refine lv_icmp_ge (tgt := 66) hx hb dX4_readWord_34 (by decide) (fun c_ => absurd c_ (by decide)) (fun c_ => ?_)
  refine lv_aload_n hx hb dX4_readWord_37 rfl (lv_at hl 5 rfl) ?_
  refine lv_aload_n hx hb dX4_readWord_38 rfl (lv_at hl 5 rfl) ?_
  refine t_get (ci := 4) (v := .int pl) hB hT (ro_ci r_1 rfl) rfl 3 (by decide) k_91 kp0 dX4_readWord_39 ?_
  refine lv_iload hx hb dX4_readWord_42 (lv_at hl 0 rfl) ?_
  refine lv_iadd hx hb dX4_readWord_44 ?_
  refine lv_topi (fun z_8 ez_8 => ?_)
  have e_z_8 : z_8.toInt = pl.toInt + 0 := i_add ez_8 rfl (by decide) (by omega) (by omega)
  refine t_callV (n := 1) (As := [.int z_8]) (rest := []) (ci := 4) hB hT hl.1 (s_byteAt l D cI cZ cS cR N0 g1 hI h z_8 sz ba ct r_1 r_2 n_3 kn_4 kn_5 (by omega) (by omega) hc) (ro_ci r_1 rfl) rfl k_366 k_58 k_363 k_365 k_3 (by decide +kernel) ⟨(Nat.le_of_ble_eq_true rfl), (Nat.le_of_ble_eq_true rfl)⟩ rfl (Nat.le_of_ble_eq_true rfl) ⟨(Nat.le_of_ble_eq_true rfl), (Nat.le_of_ble_eq_true rfl)⟩ dX4_readWord_45 (fun v g_9 H locs hp hT => ?_)
  obtain ⟨r_10, rfl, eg, f_11, f_12, f_13⟩ := hp
  rw [eg] at hT
  clear eg
  refine W.eq (g2 := F0 m 48 ls [.int r_10]) rfl ?_
  rw [show z_8.toInt = pl.toInt by omega] at f_11
  have f_11' := f_13
  refine va_ldcS hx hb hB.2.2.2.1 (ux_r hB) dX4_readWord_48 ?_
  refine lv_iload_n hx hb dX4_readWord_50 rfl (lv_at hl 2 rfl) ?_
  refine lv_iload hx hb dX4_readWord_51 (lv_at hl 0 rfl) ?_
  refine lv_iadd hx hb dX4_readWord_53 ?_
  refine x_ev (y := 27) (by decide) ?_
  refine t_callT (n := 1) (As := [.int 27]) (rest := [.int r_10]) hB hT hl.1 (u_charAt l D cI cZ cS cR N0 g1 hI 27 (by have q0 : (27 : Int32).toInt = 27 := (by decide); omega) (by have q0 : (27 : Int32).toInt = 27 := (by decide); omega)) k_371 k_66 k_368 k_369 k_370 (by decide +kernel) ⟨(Nat.le_of_ble_eq_true rfl), (Nat.le_of_ble_eq_true rfl)⟩ rfl (Nat.le_of_ble_eq_true rfl) ⟨(Nat.le_of_ble_eq_true rfl), (Nat.le_of_ble_eq_true rfl)⟩ dX4_readWord_54 (fun v g_16 H locs hp hT => ?_)
  obtain ⟨r_17, rfl, eg, f_18, f_19⟩ := hp
  rw [eg] at hT
  clear eg
  refine W.eq (g2 := F0 m 57 ls [.int r_17, .int r_10]) rfl ?_
  have qc_22 : (27 : Int32).toInt = 27 := (by decide)
  have hch_r_17 : r_17 = 105 := f_19.trans (by decide)
  subst hch_r_17
  refine W.eq (g2 := F0 m 57 ls [.int 105, .int r_10]) rfl ?_
  refine lv_icmp_ne (tgt := 66) hx hb dX4_readWord_57 (by decide) (fun c_23 => ?_) (fun c_23 => ?_)
  · have c_23' : r_10.toInt ≠ 105 := i_ne c_23 rfl (by decide)
    have hqw_ : qj (txb ct sz.toInt) pl.toInt 7 = 0 := wp3_0 (by omega)
    refine lv_iload hx hb dX4_readWord_66 (lv_at hl 0 rfl) ?_
    refine lv_iload hx hb dX4_readWord_68 (lv_at hl 1 rfl) ?_
    refine lv_icmp_ne (tgt := 86) hx hb dX4_readWord_70 (by decide) (fun c_ => ?_) (fun c_ => absurd c_ (by decide))
    refine lv_iload_n hx hb dX4_readWord_86 rfl (lv_at hl 4 rfl) ?_
    refine lv_iload hx hb dX4_readWord_87 (lv_at hl 0 rfl) ?_
    refine t_max hB k_408 k_241 k_63 k_242 hl.1 (Nat.le_of_ble_eq_true rfl) (Nat.le_of_ble_eq_true rfl) (Nat.le_of_ble_eq_true rfl) (Nat.le_of_ble_eq_true rfl) rfl dX4_readWord_89 ?_
    refine lv_topi (fun z_24 ez_24 => ?_)
    have e_z_24 := i_max (a := fu.toInt) (b := 0) ez_24 rfl (by decide)
    refine lv_istore_n (lv' := [(1, .int z_24), (5, .int 0), (4, .int 3), (3, .int 27), (2, .int 7), (0, .ref h)]) hx hb dX4_readWord_92 rfl hl (by decide) rfl (fun ls hl => ?_)
    refine lv_iinc (v := 8) (lv' := [(2, .int 8), (1, .int z_24), (5, .int 0), (4, .int 3), (3, .int 27), (0, .ref h)]) hx hb dX4_readWord_93 hl (k := 4) rfl (by decide) (by decide) rfl (fun ls hl => ?_)
    refine lv_goto (tgt := 4) hx hb dX4_readWord_96 (by decide) ?_
    exact lt_s_readWord_w8 l D cI cZ cS cR N0 g h pl sz ba ct r_h r_ba n_ba kpl ksz kba l_pl u_pl l_sz u_sz hc_0 hB hr   g1 z_24 H locs ls hT hI hE hM (by omega) (by omega) kp0 hc (fw_st (k := 7) hfu hqw_ (by omega)) hn0 hn1 hn2 hn3 hn4 hn5 hn6 (fun h_ => absurd (hqw_.symm.trans h_) (by decide)) (lv_sub hl [0, 1, 5] rfl)
  · have c_23' : r_10.toInt = 105 := i_eq c_23 rfl (by decide)
    refine lv_iinc (v := 1) (lv' := [(5, .int 1), (4, .int 3), (3, .int 27), (2, .int 7), (1, .int fu), (0, .ref h)]) hx hb dX4_readWord_60 hl (k := 0) rfl (by decide) (by decide) rfl (fun ls hl => ?_)
    refine lv_goto (tgt := 30) hx hb dX4_readWord_63 (by decide) ?_
    refine lv_iload hx hb dX4_readWord_30 (lv_at hl 0 rfl) ?_
    refine lv_iload hx hb dX4_readWord_32 (lv_at hl 1 rfl) ?_
    refine lv_icmp_ge (tgt := 66) hx hb dX4_readWord_34 (by decide) (fun c_ => absurd c_ (by decide)) (fun c_ => ?_)
    refine lv_aload_n hx hb dX4_readWord_37 rfl (lv_at hl 5 rfl) ?_
    refine lv_aload_n hx hb dX4_readWord_38 rfl (lv_at hl 5 rfl) ?_
    refine t_get (ci := 4) (v := .int pl) hB hT (ro_ci r_1 rfl) rfl 3 (by decide) k_91 kp0 dX4_readWord_39 ?_
    refine lv_iload hx hb dX4_readWord_42 (lv_at hl 0 rfl) ?_
    refine lv_iadd hx hb dX4_readWord_44 ?_
    refine lv_topi (fun z_25 ez_25 => ?_)
    have e_z_25 : z_25.toInt = pl.toInt + 1 := i_add ez_25 rfl (by decide) (by omega) (by omega)
    refine t_callV (n := 1) (As := [.int z_25]) (rest := []) (ci := 4) hB hT hl.1 (s_byteAt l D cI cZ cS cR N0 g1 hI h z_25 sz ba ct r_1 r_2 n_3 kn_4 kn_5 (by omega) (by omega) hc) (ro_ci r_1 rfl) rfl k_366 k_58 k_363 k_365 k_3 (by decide +kernel) ⟨(Nat.le_of_ble_eq_true rfl), (Nat.le_of_ble_eq_true rfl)⟩ rfl (Nat.le_of_ble_eq_true rfl) ⟨(Nat.le_of_ble_eq_true rfl), (Nat.le_of_ble_eq_true rfl)⟩ dX4_readWord_45 (fun v g_26 H locs hp hT => ?_)
    obtain ⟨r_27, rfl, eg, f_28, f_29, f_30⟩ := hp
    rw [eg] at hT
    clear eg
    refine W.eq (g2 := F0 m 48 ls [.int r_27]) rfl ?_
    rw [show z_25.toInt = pl.toInt + 1 by omega] at f_28
    have f_28' := f_30
    refine va_ldcS hx hb hB.2.2.2.1 (ux_r hB) dX4_readWord_48 ?_
    refine lv_iload_n hx hb dX4_readWord_50 rfl (lv_at hl 2 rfl) ?_
    refine lv_iload hx hb dX4_readWord_51 (lv_at hl 0 rfl) ?_
    refine lv_iadd hx hb dX4_readWord_53 ?_
    refine x_ev (y := 28) (by decide) ?_
    refine t_callT (n := 1) (As := [.int 28]) (rest := [.int r_27]) hB hT hl.1 (u_charAt l D cI cZ cS cR N0 g1 hI 28 (by have q0 : (28 : Int32).toInt = 28 := (by decide); omega) (by have q0 : (28 : Int32).toInt = 28 := (by decide); omega)) k_371 k_66 k_368 k_369 k_370 (by decide +kernel) ⟨(Nat.le_of_ble_eq_true rfl), (Nat.le_of_ble_eq_true rfl)⟩ rfl (Nat.le_of_ble_eq_true rfl) ⟨(Nat.le_of_ble_eq_true rfl), (Nat.le_of_ble_eq_true rfl)⟩ dX4_readWord_54 (fun v g_33 H locs hp hT => ?_)
    obtain ⟨r_34, rfl, eg, f_35, f_36⟩ := hp
    rw [eg] at hT
    clear eg
    refine W.eq (g2 := F0 m 57 ls [.int r_34, .int r_27]) rfl ?_
    have qc_39 : (28 : Int32).toInt = 28 := (by decide)
    have hch_r_34 : r_34 = 102 := f_36.trans (by decide)
    subst hch_r_34
    refine W.eq (g2 := F0 m 57 ls [.int 102, .int r_27]) rfl ?_
    refine lv_icmp_ne (tgt := 66) hx hb dX4_readWord_57 (by decide) (fun c_40 => ?_) (fun c_40 => ?_)
    · have c_40' : r_27.toInt ≠ 102 := i_ne c_40 rfl (by decide)
      have hqw_ : qj (txb ct sz.toInt) pl.toInt 7 = 1 := wp3_1 (by omega) (by omega)
      refine lv_iload hx hb dX4_readWord_66 (lv_at hl 0 rfl) ?_
      refine lv_iload hx hb dX4_readWord_68 (lv_at hl 1 rfl) ?_
      refine lv_icmp_ne (tgt := 86) hx hb dX4_readWord_70 (by decide) (fun c_ => ?_) (fun c_ => absurd c_ (by decide))
      refine lv_iload_n hx hb dX4_readWord_86 rfl (lv_at hl 4 rfl) ?_
      refine lv_iload hx hb dX4_readWord_87 (lv_at hl 0 rfl) ?_
      refine t_max hB k_408 k_241 k_63 k_242 hl.1 (Nat.le_of_ble_eq_true rfl) (Nat.le_of_ble_eq_true rfl) (Nat.le_of_ble_eq_true rfl) (Nat.le_of_ble_eq_true rfl) rfl dX4_readWord_89 ?_
      refine lv_topi (fun z_41 ez_41 => ?_)
      have e_z_41 := i_max (a := fu.toInt) (b := 1) ez_41 rfl (by decide)
      refine lv_istore_n (lv' := [(1, .int z_41), (5, .int 1), (4, .int 3), (3, .int 27), (2, .int 7), (0, .ref h)]) hx hb dX4_readWord_92 rfl hl (by decide) rfl (fun ls hl => ?_)
      refine lv_iinc (v := 8) (lv' := [(2, .int 8), (1, .int z_41), (5, .int 1), (4, .int 3), (3, .int 27), (0, .ref h)]) hx hb dX4_readWord_93 hl (k := 4) rfl (by decide) (by decide) rfl (fun ls hl => ?_)
      refine lv_goto (tgt := 4) hx hb dX4_readWord_96 (by decide) ?_
      exact lt_s_readWord_w8 l D cI cZ cS cR N0 g h pl sz ba ct r_h r_ba n_ba kpl ksz kba l_pl u_pl l_sz u_sz hc_0 hB hr   g1 z_41 H locs ls hT hI hE hM (by omega) (by omega) kp0 hc (fw_st (k := 7) hfu hqw_ (by omega)) hn0 hn1 hn2 hn3 hn4 hn5 hn6 (fun h_ => absurd (hqw_.symm.trans h_) (by decide)) (lv_sub hl [0, 1, 5] rfl)
    · have c_40' : r_27.toInt = 102 := i_eq c_40 rfl (by decide)
      refine lv_iinc (v := 2) (lv' := [(5, .int 2), (4, .int 3), (3, .int 27), (2, .int 7), (1, .int fu), (0, .ref h)]) hx hb dX4_readWord_60 hl (k := 0) rfl (by decide) (by decide) rfl (fun ls hl => ?_)
      refine lv_goto (tgt := 30) hx hb dX4_readWord_63 (by decide) ?_
      refine lv_iload hx hb dX4_readWord_30 (lv_at hl 0 rfl) ?_
      refine lv_iload hx hb dX4_readWord_32 (lv_at hl 1 rfl) ?_
      refine lv_icmp_ge (tgt := 66) hx hb dX4_readWord_34 (by decide) (fun c_ => absurd c_ (by decide)) (fun c_ => ?_)
      refine lv_aload_n hx hb dX4_readWord_37 rfl (lv_at hl 5 rfl) ?_
      refine lv_aload_n hx hb dX4_readWord_38 rfl (lv_at hl 5 rfl) ?_
      refine t_get (ci := 4) (v := .int pl) hB hT (ro_ci r_1 rfl) rfl 3 (by decide) k_91 kp0 dX4_readWord_39 ?_
      refine lv_iload hx hb dX4_readWord_42 (lv_at hl 0 rfl) ?_
      refine lv_iadd hx hb dX4_readWord_44 ?_
      refine lv_topi (fun z_42 ez_42 => ?_)
      have e_z_42 : z_42.toInt = pl.toInt + 2 := i_add ez_42 rfl (by decide) (by omega) (by omega)
      refine t_callV (n := 1) (As := [.int z_42]) (rest := []) (ci := 4) hB hT hl.1 (s_byteAt l D cI cZ cS cR N0 g1 hI h z_42 sz ba ct r_1 r_2 n_3 kn_4 kn_5 (by omega) (by omega) hc) (ro_ci r_1 rfl) rfl k_366 k_58 k_363 k_365 k_3 (by decide +kernel) ⟨(Nat.le_of_ble_eq_true rfl), (Nat.le_of_ble_eq_true rfl)⟩ rfl (Nat.le_of_ble_eq_true rfl) ⟨(Nat.le_of_ble_eq_true rfl), (Nat.le_of_ble_eq_true rfl)⟩ dX4_readWord_45 (fun v g_43 H locs hp hT => ?_)
      obtain ⟨r_44, rfl, eg, f_45, f_46, f_47⟩ := hp
      rw [eg] at hT
      clear eg
      refine W.eq (g2 := F0 m 48 ls [.int r_44]) rfl ?_
      rw [show z_42.toInt = pl.toInt + 2 by omega] at f_45
      have f_45' := f_47
      refine va_ldcS hx hb hB.2.2.2.1 (ux_r hB) dX4_readWord_48 ?_
      refine lv_iload_n hx hb dX4_readWord_50 rfl (lv_at hl 2 rfl) ?_
      refine lv_iload hx hb dX4_readWord_51 (lv_at hl 0 rfl) ?_
      refine lv_iadd hx hb dX4_readWord_53 ?_
      refine x_ev (y := 29) (by decide) ?_
      refine t_callT (n := 1) (As := [.int 29]) (rest := [.int r_44]) hB hT hl.1 (u_charAt l D cI cZ cS cR N0 g1 hI 29 (by have q0 : (29 : Int32).toInt = 29 := (by decide); omega) (by have q0 : (29 : Int32).toInt = 29 := (by decide); omega)) k_371 k_66 k_368 k_369 k_370 (by decide +kernel) ⟨(Nat.le_of_ble_eq_true rfl), (Nat.le_of_ble_eq_true rfl)⟩ rfl (Nat.le_of_ble_eq_true rfl) ⟨(Nat.le_of_ble_eq_true rfl), (Nat.le_of_ble_eq_true rfl)⟩ dX4_readWord_54 (fun v g_50 H locs hp hT => ?_)
      obtain ⟨r_51, rfl, eg, f_52, f_53⟩ := hp
      rw [eg] at hT
      clear eg
      refine W.eq (g2 := F0 m 57 ls [.int r_51, .int r_44]) rfl ?_
      have qc_56 : (29 : Int32).toInt = 29 := (by decide)
      have hch_r_51 : r_51 = 32 := f_53.trans (by decide)
      subst hch_r_51
      refine W.eq (g2 := F0 m 57 ls [.int 32, .int r_44]) rfl ?_
      refine lv_icmp_ne (tgt := 66) hx hb dX4_readWord_57 (by decide) (fun c_57 => ?_) (fun c_57 => ?_)
      · have c_57' : r_44.toInt ≠ 32 := i_ne c_57 rfl (by decide)
        have hqw_ : qj (txb ct sz.toInt) pl.toInt 7 = 2 := wp3_2 (by omega) (by omega) (by omega)
        refine lv_iload hx hb dX4_readWord_66 (lv_at hl 0 rfl) ?_
        refine lv_iload hx hb dX4_readWord_68 (lv_at hl 1 rfl) ?_
        refine lv_icmp_ne (tgt := 86) hx hb dX4_readWord_70 (by decide) (fun c_ => ?_) (fun c_ => absurd c_ (by decide))
        refine lv_iload_n hx hb dX4_readWord_86 rfl (lv_at hl 4 rfl) ?_
        refine lv_iload hx hb dX4_readWord_87 (lv_at hl 0 rfl) ?_
        refine t_max hB k_408 k_241 k_63 k_242 hl.1 (Nat.le_of_ble_eq_true rfl) (Nat.le_of_ble_eq_true rfl) (Nat.le_of_ble_eq_true rfl) (Nat.le_of_ble_eq_true rfl) rfl dX4_readWord_89 ?_
        refine lv_topi (fun z_58 ez_58 => ?_)
        have e_z_58 := i_max (a := fu.toInt) (b := 2) ez_58 rfl (by decide)
        refine lv_istore_n (lv' := [(1, .int z_58), (5, .int 2), (4, .int 3), (3, .int 27), (2, .int 7), (0, .ref h)]) hx hb dX4_readWord_92 rfl hl (by decide) rfl (fun ls hl => ?_)
        refine lv_iinc (v := 8) (lv' := [(2, .int 8), (1, .int z_58), (5, .int 2), (4, .int 3), (3, .int 27), (0, .ref h)]) hx hb dX4_readWord_93 hl (k := 4) rfl (by decide) (by decide) rfl (fun ls hl => ?_)
        refine lv_goto (tgt := 4) hx hb dX4_readWord_96 (by decide) ?_
        exact lt_s_readWord_w8 l D cI cZ cS cR N0 g h pl sz ba ct r_h r_ba n_ba kpl ksz kba l_pl u_pl l_sz u_sz hc_0 hB hr   g1 z_58 H locs ls hT hI hE hM (by omega) (by omega) kp0 hc (fw_st (k := 7) hfu hqw_ (by omega)) hn0 hn1 hn2 hn3 hn4 hn5 hn6 (fun h_ => absurd (hqw_.symm.trans h_) (by decide)) (lv_sub hl [0, 1, 5] rfl)
      · have c_57' : r_44.toInt = 32 := i_eq c_57 rfl (by decide)
        refine lv_iinc (v := 3) (lv' := [(5, .int 3), (4, .int 3), (3, .int 27), (2, .int 7), (1, .int fu), (0, .ref h)]) hx hb dX4_readWord_60 hl (k := 0) rfl (by decide) (by decide) rfl (fun ls hl => ?_)
        refine lv_goto (tgt := 30) hx hb dX4_readWord_63 (by decide) ?_
        refine lv_iload hx hb dX4_readWord_30 (lv_at hl 0 rfl) ?_
        refine lv_iload hx hb dX4_readWord_32 (lv_at hl 1 rfl) ?_
        refine lv_icmp_ge (tgt := 66) hx hb dX4_readWord_34 (by decide) (fun c_ => ?_) (fun c_ => absurd (by decide) c_)
        have hqw_ : qj (txb ct sz.toInt) pl.toInt 7 = 3 := wp3_3 (by omega) (by omega) (by omega)
        refine lv_iload hx hb dX4_readWord_66 (lv_at hl 0 rfl) ?_
        refine lv_iload hx hb dX4_readWord_68 (lv_at hl 1 rfl) ?_
        refine lv_icmp_ne (tgt := 86) hx hb dX4_readWord_70 (by decide) (fun c_ => absurd (by decide) c_) (fun c_ => ?_)
        refine lv_aload_n hx hb dX4_readWord_73 rfl (lv_at hl 5 rfl) ?_
        refine lv_dup hx hb dX4_readWord_74 rfl ?_
        refine t_get (ci := 4) (v := .int pl) hB hT (ro_ci r_1 rfl) rfl 3 (by decide) k_91 kp0 dX4_readWord_75 ?_
        refine lv_iload hx hb dX4_readWord_78 (lv_at hl 1 rfl) ?_
        refine lv_iadd hx hb dX4_readWord_80 ?_
        refine lv_topi (fun z_59 ez_59 => ?_)
        have e_z_59 : z_59.toInt = pl.toInt + 3 := i_add ez_59 rfl (by decide) (by omega) (by omega)
        refine t_put0 (ci := 4) (v := .int z_59) hB hT (ro_ci r_1 rfl) (ro_n0 r_1 (by decide)) rfl 3 (by decide) k_91 (Or.inl rfl) rfl rfl dX4_readWord_81 (fun H locs hT => ?_)
        have hI : Inv (sF g1 h 3 (.int z_59)) := hI.sF (p_5_3 r_1 (⟨_, rfl⟩))
        have hM : Sm md_s_readWord g (sF g1 h 3 (.int z_59)) := hM.tr hE (Sm_sF (by rw [r_1]; rfl))
        have hE : Ex g (sF g1 h 3 (.int z_59)) := hE
        have hc : (sF g1 h 3 (.int z_59)).2.2.2.1 ba = ct := hc
        refine lv_iload_n hx hb dX4_readWord_84 rfl (lv_at hl 3 rfl) ?_
        have hv_ := wo_7 (T := (txb ct sz.toInt)) (p := pl.toInt) ⟨by omega, by omega, by omega⟩
        exact t_iret hB hr hT (Nat.le_of_ble_eq_true rfl) (Nat.le_of_ble_eq_true rfl) dX4_readWord_85 ⟨7, z_59, rfl, hI, hE, hM, (Or.inr ⟨by decide, by decide, hv_.1.trans (by decide), (by have q_ := hv_.2; omega), by omega, by omega⟩), sF_eq⟩
set_option maxHeartbeats 4000000 in
set_option maxRecDepth 100000 in
theorem lt_s_readWord_w6 (l : Launch) (D : va_G) (cI cZ cS cR : ClassId) (N0 : NT) (g : GS) (h : Nat) (pl : Int32) (sz : Int32) (ba : Nat) (ct : Nat → Int32) (r_h : g.1 h = 5) (r_ba : g.1 ba = 67) (n_ba : g.2.2.1 ba = 100) (kpl : g.2.1 h 3 = .int pl) (ksz : g.2.1 h 1 = .int sz) (kba : g.2.1 h 0 = .ref ba) (l_pl : 0 ≤ pl.toInt) (u_pl : pl.toInt ≤ 100) (l_sz : 0 ≤ sz.toInt) (u_sz : sz.toInt ≤ 100) (hc_0 : g.2.2.2.1 ba = ct) {p : Program} {e : Env} {s : State} {m : MethodId} {args : Array Value} {below : List Frame} {meth : Method} {c : Code} (hB : Tz p s m meth c args cX4_readWord 6 RX4 D cI cZ cS cR N0) (hr : meth.sig.returnType = (some .int))    : ∀ (g1 : GS) (fu : Int32)  (H : Heap) (locs : List Loc) (ls : Array Slot), Tv D cI cZ cS cR N0 s.heap H locs g1 → Inv g1 → Ex g g1 → Sm md_s_readWord g g1 → 0 ≤ fu.toInt → fu.toInt ≤ 4 → g1.2.1 h 3 = .int pl → (g1.2.2.2.1 ba = ct) → (fu.toInt = fw (txb ct sz.toInt) pl.toInt 6) → (qj (txb ct sz.toInt) pl.toInt 0 ≠ 4) → (qj (txb ct sz.toInt) pl.toInt 1 ≠ 4) → (qj (txb ct sz.toInt) pl.toInt 2 ≠ 4) → (qj (txb ct sz.toInt) pl.toInt 3 ≠ 4) → (qj (txb ct sz.toInt) pl.toInt 4 ≠ 4) → (qj (txb ct sz.toInt) pl.toInt 5 ≠ 4) → lv_has ls 6 [(2, .int 6), (1, .int fu), (0, .ref h)] → W p l e (rmx 4 0 0) s m args below meth c H locs 0 0 (MQ below (tQ D cI cZ cS cR N0 (fun v g' => ∃ (r : Int32) (pl2 : Int32), v = some (.int r) ∧ Inv g' ∧ Ex g g' ∧ Sm md_s_readWord g g' ∧ ((r = -1 ∧ wdr (txb ct sz.toInt) pl.toInt = -1 ∧ pl2.toInt = wdp (txb ct sz.toInt) pl.toInt ∧ 0 ≤ pl2.toInt ∧ pl2.toInt ≤ 104) ∨ (0 ≤ r.toInt ∧ r.toInt ≤ 7 ∧ wdr (txb ct sz.toInt) pl.toInt = r.toInt ∧ pl2.toInt = wdp (txb ct sz.toInt) pl.toInt ∧ pl2.toInt ≤ sz.toInt ∧ 0 ≤ pl2.toInt)) ∧ (g'.2.1 h 3 = .int pl2))) args s 0 0 (fun q => N0.1 ≤ q)) (F0 m 4 ls []) := by
  have hx := hB.1
  have hb := hB.2.1
  intro g1 fu H locs ls hT hI hE hM l_fu u_fu kp0 hc hfu hn0 hn1 hn2 hn3 hn4 hn5 hl
  have r_1 : g1.1 h = 5 := Ex.r hE r_h (by decide)
  have r_2 : g1.1 ba = 67 := Ex.r hE r_ba (by decide)
  have n_3 : g1.2.2.1 ba = 100 := Ex.n hE r_ba (by decide) n_ba
  have kn_4 : g1.2.1 h 1 = .int sz := Sm.v hM r_h (by decide) rfl ksz
  have kn_5 : g1.2.1 h 0 = .ref ba := Sm.v hM r_h (by decide) rfl kba
  refine lv_iload_n hx hb dX4_readWord_4 rfl (lv_at hl 0 rfl) ?_
  refine lv_bipush (v := 8) hx hb dX4_readWord_5 (by decide) ?_
  refine lv_icmp_ge (tgt := 99) hx hb dX4_readWord_7 (by decide) (fun c_ => absurd c_ (by decide)) (fun c_ => ?_)
  refine va_gets hx hb (ux_wb hB) hT.2 hB.2.2.2.1 (hB.2.2.2.2.1 _ k_361) (fun _ h => h) dX4_readWord_10 ?_
  refine lv_iload_n hx hb dX4_readWord_13 rfl (lv_at hl 0 rfl) ?_
  refine va_ti (v := .int 24) hx hb (ux_tab hB) hT.2 (by unfold vp_in; decide) rfl dX4_readWord_14 ?_
  refine lv_istore_n (lv' := [(3, .int 24), (2, .int 6), (1, .int fu), (0, .ref h)]) hx hb dX4_readWord_15 rfl hl (by decide) rfl (fun ls hl => ?_)
  refine va_gets hx hb (ux_wb hB) hT.2 hB.2.2.2.1 (hB.2.2.2.2.1 _ k_361) (fun _ h => h) dX4_readWord_16 ?_
  refine lv_iload_n hx hb dX4_readWord_19 rfl (lv_at hl 1 rfl) ?_
  refine lv_iconst (v := 1) hx hb dX4_readWord_20 (by decide) ?_
  refine lv_iadd hx hb dX4_readWord_21 ?_
  refine x_ev (y := 7) (by decide) ?_
  refine va_ti (v := .int 27) hx hb (ux_tab hB) hT.2 (by unfold vp_in; decide) rfl dX4_readWord_22 ?_
  refine lv_iload_n hx hb dX4_readWord_23 rfl (lv_at hl 0 rfl) ?_
  refine lv_isub hx hb dX4_readWord_24 ?_
  refine x_ev (y := 3) (by decide) ?_
  refine lv_istore (lv' := [(4, .int 3), (3, .int 24), (2, .int 6), (1, .int fu), (0, .ref h)]) hx hb dX4_readWord_25 hl (by decide) rfl (fun ls hl => ?_)
  refine lv_iconst (v := 0) hx hb dX4_readWord_27 (by decide) ?_
  refine lv_istore (lv' := [(5, .int 0), (4, .int 3), (3, .int 24), (2, .int 6), (1, .int fu), (0, .ref h)]) hx hb dX4_readWord_28 hl (by decide) rfl (fun ls hl => ?_)
  refine lv_iload hx hb dX4_readWord_30 (lv_at hl 0 rfl) ?_
  refine lv_iload hx hb dX4_readWord_32 (lv_at hl 1 rfl) ?_
  refine lv_icmp_ge (tgt := 66) hx hb dX4_readWord_34 (by decide) (fun c_ => absurd c_ (by decide)) (fun c_ => ?_)
  refine lv_aload_n hx hb dX4_readWord_37 rfl (lv_at hl 5 rfl) ?_
  refine lv_aload_n hx hb dX4_readWord_38 rfl (lv_at hl 5 rfl) ?_
  refine t_get (ci := 4) (v := .int pl) hB hT (ro_ci r_1 rfl) rfl 3 (by decide) k_91 kp0 dX4_readWord_39 ?_
  refine lv_iload hx hb dX4_readWord_42 (lv_at hl 0 rfl) ?_
  refine lv_iadd hx hb dX4_readWord_44 ?_
  refine lv_topi (fun z_8 ez_8 => ?_)
  have e_z_8 : z_8.toInt = pl.toInt + 0 := i_add ez_8 rfl (by decide) (by omega) (by omega)
  refine t_callV (n := 1) (As := [.int z_8]) (rest := []) (ci := 4) hB hT hl.1 (s_byteAt l D cI cZ cS cR N0 g1 hI h z_8 sz ba ct r_1 r_2 n_3 kn_4 kn_5 (by omega) (by omega) hc) (ro_ci r_1 rfl) rfl k_366 k_58 k_363 k_365 k_3 (by decide +kernel) ⟨(Nat.le_of_ble_eq_true rfl), (Nat.le_of_ble_eq_true rfl)⟩ rfl (Nat.le_of_ble_eq_true rfl) ⟨(Nat.le_of_ble_eq_true rfl), (Nat.le_of_ble_eq_true rfl)⟩ dX4_readWord_45 (fun v g_9 H locs hp hT => ?_)
  obtain ⟨r_10, rfl, eg, f_11, f_12, f_13⟩ := hp
  rw [eg] at hT
  clear eg
  refine W.eq (g2 := F0 m 48 ls [.int r_10]) rfl ?_
  rw [show z_8.toInt = pl.toInt by omega] at f_11
  have f_11' := f_13
  refine va_ldcS hx hb hB.2.2.2.1 (ux_r hB) dX4_readWord_48 ?_
  refine lv_iload_n hx hb dX4_readWord_50 rfl (lv_at hl 2 rfl) ?_
  refine lv_iload hx hb dX4_readWord_51 (lv_at hl 0 rfl) ?_
  refine lv_iadd hx hb dX4_readWord_53 ?_
  refine x_ev (y := 24) (by decide) ?_
  refine t_callT (n := 1) (As := [.int 24]) (rest := [.int r_10]) hB hT hl.1 (u_charAt l D cI cZ cS cR N0 g1 hI 24 (by have q0 : (24 : Int32).toInt = 24 := (by decide); omega) (by have q0 : (24 : Int32).toInt = 24 := (by decide); omega)) k_371 k_66 k_368 k_369 k_370 (by decide +kernel) ⟨(Nat.le_of_ble_eq_true rfl), (Nat.le_of_ble_eq_true rfl)⟩ rfl (Nat.le_of_ble_eq_true rfl) ⟨(Nat.le_of_ble_eq_true rfl), (Nat.le_of_ble_eq_true rfl)⟩ dX4_readWord_54 (fun v g_16 H locs hp hT => ?_)
  obtain ⟨r_17, rfl, eg, f_18, f_19⟩ := hp
  rw [eg] at hT
  clear eg
  refine W.eq (g2 := F0 m 57 ls [.int r_17, .int r_10]) rfl ?_
  have qc_22 : (24 : Int32).toInt = 24 := (by decide)
  have hch_r_17 : r_17 = 100 := f_19.trans (by decide)
  subst hch_r_17
  refine W.eq (g2 := F0 m 57 ls [.int 100, .int r_10]) rfl ?_
  refine lv_icmp_ne (tgt := 66) hx hb dX4_readWord_57 (by decide) (fun c_23 => ?_) (fun c_23 => ?_)
  · have c_23' : r_10.toInt ≠ 100 := i_ne c_23 rfl (by decide)
    have hqw_ : qj (txb ct sz.toInt) pl.toInt 6 = 0 := wp3_0 (by omega)
    refine lv_iload hx hb dX4_readWord_66 (lv_at hl 0 rfl) ?_
    refine lv_iload hx hb dX4_readWord_68 (lv_at hl 1 rfl) ?_
    refine lv_icmp_ne (tgt := 86) hx hb dX4_readWord_70 (by decide) (fun c_ => ?_) (fun c_ => absurd c_ (by decide))
    refine lv_iload_n hx hb dX4_readWord_86 rfl (lv_at hl 4 rfl) ?_
    refine lv_iload hx hb dX4_readWord_87 (lv_at hl 0 rfl) ?_
    refine t_max hB k_408 k_241 k_63 k_242 hl.1 (Nat.le_of_ble_eq_true rfl) (Nat.le_of_ble_eq_true rfl) (Nat.le_of_ble_eq_true rfl) (Nat.le_of_ble_eq_true rfl) rfl dX4_readWord_89 ?_
    refine lv_topi (fun z_24 ez_24 => ?_)
    have e_z_24 := i_max (a := fu.toInt) (b := 0) ez_24 rfl (by decide)
    refine lv_istore_n (lv' := [(1, .int z_24), (5, .int 0), (4, .int 3), (3, .int 24), (2, .int 6), (0, .ref h)]) hx hb dX4_readWord_92 rfl hl (by decide) rfl (fun ls hl => ?_)
    refine lv_iinc (v := 7) (lv' := [(2, .int 7), (1, .int z_24), (5, .int 0), (4, .int 3), (3, .int 24), (0, .ref h)]) hx hb dX4_readWord_93 hl (k := 4) rfl (by decide) (by decide) rfl (fun ls hl => ?_)
    refine lv_goto (tgt := 4) hx hb dX4_readWord_96 (by decide) ?_
    exact lt_s_readWord_w7 l D cI cZ cS cR N0 g h pl sz ba ct r_h r_ba n_ba kpl ksz kba l_pl u_pl l_sz u_sz hc_0 hB hr   g1 z_24 H locs ls hT hI hE hM (by omega) (by omega) kp0 hc (fw_st (k := 6) hfu hqw_ (by omega)) hn0 hn1 hn2 hn3 hn4 hn5 (fun h_ => absurd (hqw_.symm.trans h_) (by decide)) (lv_sub hl [0, 1, 5] rfl)
  · have c_23' : r_10.toInt = 100 := i_eq c_23 rfl (by decide)
    refine lv_iinc (v := 1) (lv' := [(5, .int 1), (4, .int 3), (3, .int 24), (2, .int 6), (1, .int fu), (0, .ref h)]) hx hb dX4_readWord_60 hl (k := 0) rfl (by decide) (by decide) rfl (fun ls hl => ?_)
    refine lv_goto (tgt := 30) hx hb dX4_readWord_63 (by decide) ?_
    refine lv_iload hx hb dX4_readWord_30 (lv_at hl 0 rfl) ?_
    refine lv_iload hx hb dX4_readWord_32 (lv_at hl 1 rfl) ?_
    refine lv_icmp_ge (tgt := 66) hx hb dX4_readWord_34 (by decide) (fun c_ => absurd c_ (by decide)) (fun c_ => ?_)
    refine lv_aload_n hx hb dX4_readWord_37 rfl (lv_at hl 5 rfl) ?_
    refine lv_aload_n hx hb dX4_readWord_38 rfl (lv_at hl 5 rfl) ?_
    refine t_get (ci := 4) (v := .int pl) hB hT (ro_ci r_1 rfl) rfl 3 (by decide) k_91 kp0 dX4_readWord_39 ?_
    refine lv_iload hx hb dX4_readWord_42 (lv_at hl 0 rfl) ?_
    refine lv_iadd hx hb dX4_readWord_44 ?_
    refine lv_topi (fun z_25 ez_25 => ?_)
    have e_z_25 : z_25.toInt = pl.toInt + 1 := i_add ez_25 rfl (by decide) (by omega) (by omega)
    refine t_callV (n := 1) (As := [.int z_25]) (rest := []) (ci := 4) hB hT hl.1 (s_byteAt l D cI cZ cS cR N0 g1 hI h z_25 sz ba ct r_1 r_2 n_3 kn_4 kn_5 (by omega) (by omega) hc) (ro_ci r_1 rfl) rfl k_366 k_58 k_363 k_365 k_3 (by decide +kernel) ⟨(Nat.le_of_ble_eq_true rfl), (Nat.le_of_ble_eq_true rfl)⟩ rfl (Nat.le_of_ble_eq_true rfl) ⟨(Nat.le_of_ble_eq_true rfl), (Nat.le_of_ble_eq_true rfl)⟩ dX4_readWord_45 (fun v g_26 H locs hp hT => ?_)
    obtain ⟨r_27, rfl, eg, f_28, f_29, f_30⟩ := hp
    rw [eg] at hT
    clear eg
    refine W.eq (g2 := F0 m 48 ls [.int r_27]) rfl ?_
    rw [show z_25.toInt = pl.toInt + 1 by omega] at f_28
    have f_28' := f_30
    refine va_ldcS hx hb hB.2.2.2.1 (ux_r hB) dX4_readWord_48 ?_
    refine lv_iload_n hx hb dX4_readWord_50 rfl (lv_at hl 2 rfl) ?_
    refine lv_iload hx hb dX4_readWord_51 (lv_at hl 0 rfl) ?_
    refine lv_iadd hx hb dX4_readWord_53 ?_
    refine x_ev (y := 25) (by decide) ?_
    refine t_callT (n := 1) (As := [.int 25]) (rest := [.int r_27]) hB hT hl.1 (u_charAt l D cI cZ cS cR N0 g1 hI 25 (by have q0 : (25 : Int32).toInt = 25 := (by decide); omega) (by have q0 : (25 : Int32).toInt = 25 := (by decide); omega)) k_371 k_66 k_368 k_369 k_370 (by decide +kernel) ⟨(Nat.le_of_ble_eq_true rfl), (Nat.le_of_ble_eq_true rfl)⟩ rfl (Nat.le_of_ble_eq_true rfl) ⟨(Nat.le_of_ble_eq_true rfl), (Nat.le_of_ble_eq_true rfl)⟩ dX4_readWord_54 (fun v g_33 H locs hp hT => ?_)
    obtain ⟨r_34, rfl, eg, f_35, f_36⟩ := hp
    rw [eg] at hT
    clear eg
    refine W.eq (g2 := F0 m 57 ls [.int r_34, .int r_27]) rfl ?_
    have qc_39 : (25 : Int32).toInt = 25 := (by decide)
    have hch_r_34 : r_34 = 111 := f_36.trans (by decide)
    subst hch_r_34
    refine W.eq (g2 := F0 m 57 ls [.int 111, .int r_27]) rfl ?_
    refine lv_icmp_ne (tgt := 66) hx hb dX4_readWord_57 (by decide) (fun c_40 => ?_) (fun c_40 => ?_)
    · have c_40' : r_27.toInt ≠ 111 := i_ne c_40 rfl (by decide)
      have hqw_ : qj (txb ct sz.toInt) pl.toInt 6 = 1 := wp3_1 (by omega) (by omega)
      refine lv_iload hx hb dX4_readWord_66 (lv_at hl 0 rfl) ?_
      refine lv_iload hx hb dX4_readWord_68 (lv_at hl 1 rfl) ?_
      refine lv_icmp_ne (tgt := 86) hx hb dX4_readWord_70 (by decide) (fun c_ => ?_) (fun c_ => absurd c_ (by decide))
      refine lv_iload_n hx hb dX4_readWord_86 rfl (lv_at hl 4 rfl) ?_
      refine lv_iload hx hb dX4_readWord_87 (lv_at hl 0 rfl) ?_
      refine t_max hB k_408 k_241 k_63 k_242 hl.1 (Nat.le_of_ble_eq_true rfl) (Nat.le_of_ble_eq_true rfl) (Nat.le_of_ble_eq_true rfl) (Nat.le_of_ble_eq_true rfl) rfl dX4_readWord_89 ?_
      refine lv_topi (fun z_41 ez_41 => ?_)
      have e_z_41 := i_max (a := fu.toInt) (b := 1) ez_41 rfl (by decide)
      refine lv_istore_n (lv' := [(1, .int z_41), (5, .int 1), (4, .int 3), (3, .int 24), (2, .int 6), (0, .ref h)]) hx hb dX4_readWord_92 rfl hl (by decide) rfl (fun ls hl => ?_)
      refine lv_iinc (v := 7) (lv' := [(2, .int 7), (1, .int z_41), (5, .int 1), (4, .int 3), (3, .int 24), (0, .ref h)]) hx hb dX4_readWord_93 hl (k := 4) rfl (by decide) (by decide) rfl (fun ls hl => ?_)
      refine lv_goto (tgt := 4) hx hb dX4_readWord_96 (by decide) ?_
      exact lt_s_readWord_w7 l D cI cZ cS cR N0 g h pl sz ba ct r_h r_ba n_ba kpl ksz kba l_pl u_pl l_sz u_sz hc_0 hB hr   g1 z_41 H locs ls hT hI hE hM (by omega) (by omega) kp0 hc (fw_st (k := 6) hfu hqw_ (by omega)) hn0 hn1 hn2 hn3 hn4 hn5 (fun h_ => absurd (hqw_.symm.trans h_) (by decide)) (lv_sub hl [0, 1, 5] rfl)
    · have c_40' : r_27.toInt = 111 := i_eq c_40 rfl (by decide)
      refine lv_iinc (v := 2) (lv' := [(5, .int 2), (4, .int 3), (3, .int 24), (2, .int 6), (1, .int fu), (0, .ref h)]) hx hb dX4_readWord_60 hl (k := 0) rfl (by decide) (by decide) rfl (fun ls hl => ?_)
      refine lv_goto (tgt := 30) hx hb dX4_readWord_63 (by decide) ?_
      refine lv_iload hx hb dX4_readWord_30 (lv_at hl 0 rfl) ?_
      refine lv_iload hx hb dX4_readWord_32 (lv_at hl 1 rfl) ?_
      refine lv_icmp_ge (tgt := 66) hx hb dX4_readWord_34 (by decide) (fun c_ => absurd c_ (by decide)) (fun c_ => ?_)
      refine lv_aload_n hx hb dX4_readWord_37 rfl (lv_at hl 5 rfl) ?_
      refine lv_aload_n hx hb dX4_readWord_38 rfl (lv_at hl 5 rfl) ?_
      refine t_get (ci := 4) (v := .int pl) hB hT (ro_ci r_1 rfl) rfl 3 (by decide) k_91 kp0 dX4_readWord_39 ?_
      refine lv_iload hx hb dX4_readWord_42 (lv_at hl 0 rfl) ?_
      refine lv_iadd hx hb dX4_readWord_44 ?_
      refine lv_topi (fun z_42 ez_42 => ?_)
      have e_z_42 : z_42.toInt = pl.toInt + 2 := i_add ez_42 rfl (by decide) (by omega) (by omega)
      refine t_callV (n := 1) (As := [.int z_42]) (rest := []) (ci := 4) hB hT hl.1 (s_byteAt l D cI cZ cS cR N0 g1 hI h z_42 sz ba ct r_1 r_2 n_3 kn_4 kn_5 (by omega) (by omega) hc) (ro_ci r_1 rfl) rfl k_366 k_58 k_363 k_365 k_3 (by decide +kernel) ⟨(Nat.le_of_ble_eq_true rfl), (Nat.le_of_ble_eq_true rfl)⟩ rfl (Nat.le_of_ble_eq_true rfl) ⟨(Nat.le_of_ble_eq_true rfl), (Nat.le_of_ble_eq_true rfl)⟩ dX4_readWord_45 (fun v g_43 H locs hp hT => ?_)
      obtain ⟨r_44, rfl, eg, f_45, f_46, f_47⟩ := hp
      rw [eg] at hT
      clear eg
      refine W.eq (g2 := F0 m 48 ls [.int r_44]) rfl ?_
      rw [show z_42.toInt = pl.toInt + 2 by omega] at f_45
      have f_45' := f_47
      refine va_ldcS hx hb hB.2.2.2.1 (ux_r hB) dX4_readWord_48 ?_
      refine lv_iload_n hx hb dX4_readWord_50 rfl (lv_at hl 2 rfl) ?_
      refine lv_iload hx hb dX4_readWord_51 (lv_at hl 0 rfl) ?_
      refine lv_iadd hx hb dX4_readWord_53 ?_
      refine x_ev (y := 26) (by decide) ?_
      refine t_callT (n := 1) (As := [.int 26]) (rest := [.int r_44]) hB hT hl.1 (u_charAt l D cI cZ cS cR N0 g1 hI 26 (by have q0 : (26 : Int32).toInt = 26 := (by decide); omega) (by have q0 : (26 : Int32).toInt = 26 := (by decide); omega)) k_371 k_66 k_368 k_369 k_370 (by decide +kernel) ⟨(Nat.le_of_ble_eq_true rfl), (Nat.le_of_ble_eq_true rfl)⟩ rfl (Nat.le_of_ble_eq_true rfl) ⟨(Nat.le_of_ble_eq_true rfl), (Nat.le_of_ble_eq_true rfl)⟩ dX4_readWord_54 (fun v g_50 H locs hp hT => ?_)
      obtain ⟨r_51, rfl, eg, f_52, f_53⟩ := hp
      rw [eg] at hT
      clear eg
      refine W.eq (g2 := F0 m 57 ls [.int r_51, .int r_44]) rfl ?_
      have qc_56 : (26 : Int32).toInt = 26 := (by decide)
      have hch_r_51 : r_51 = 32 := f_53.trans (by decide)
      subst hch_r_51
      refine W.eq (g2 := F0 m 57 ls [.int 32, .int r_44]) rfl ?_
      refine lv_icmp_ne (tgt := 66) hx hb dX4_readWord_57 (by decide) (fun c_57 => ?_) (fun c_57 => ?_)
      · have c_57' : r_44.toInt ≠ 32 := i_ne c_57 rfl (by decide)
        have hqw_ : qj (txb ct sz.toInt) pl.toInt 6 = 2 := wp3_2 (by omega) (by omega) (by omega)
        refine lv_iload hx hb dX4_readWord_66 (lv_at hl 0 rfl) ?_
        refine lv_iload hx hb dX4_readWord_68 (lv_at hl 1 rfl) ?_
        refine lv_icmp_ne (tgt := 86) hx hb dX4_readWord_70 (by decide) (fun c_ => ?_) (fun c_ => absurd c_ (by decide))
        refine lv_iload_n hx hb dX4_readWord_86 rfl (lv_at hl 4 rfl) ?_
        refine lv_iload hx hb dX4_readWord_87 (lv_at hl 0 rfl) ?_
        refine t_max hB k_408 k_241 k_63 k_242 hl.1 (Nat.le_of_ble_eq_true rfl) (Nat.le_of_ble_eq_true rfl) (Nat.le_of_ble_eq_true rfl) (Nat.le_of_ble_eq_true rfl) rfl dX4_readWord_89 ?_
        refine lv_topi (fun z_58 ez_58 => ?_)
        have e_z_58 := i_max (a := fu.toInt) (b := 2) ez_58 rfl (by decide)
        refine lv_istore_n (lv' := [(1, .int z_58), (5, .int 2), (4, .int 3), (3, .int 24), (2, .int 6), (0, .ref h)]) hx hb dX4_readWord_92 rfl hl (by decide) rfl (fun ls hl => ?_)
        refine lv_iinc (v := 7) (lv' := [(2, .int 7), (1, .int z_58), (5, .int 2), (4, .int 3), (3, .int 24), (0, .ref h)]) hx hb dX4_readWord_93 hl (k := 4) rfl (by decide) (by decide) rfl (fun ls hl => ?_)
        refine lv_goto (tgt := 4) hx hb dX4_readWord_96 (by decide) ?_
        exact lt_s_readWord_w7 l D cI cZ cS cR N0 g h pl sz ba ct r_h r_ba n_ba kpl ksz kba l_pl u_pl l_sz u_sz hc_0 hB hr   g1 z_58 H locs ls hT hI hE hM (by omega) (by omega) kp0 hc (fw_st (k := 6) hfu hqw_ (by omega)) hn0 hn1 hn2 hn3 hn4 hn5 (fun h_ => absurd (hqw_.symm.trans h_) (by decide)) (lv_sub hl [0, 1, 5] rfl)
      · have c_57' : r_44.toInt = 32 := i_eq c_57 rfl (by decide)
        refine lv_iinc (v := 3) (lv' := [(5, .int 3), (4, .int 3), (3, .int 24), (2, .int 6), (1, .int fu), (0, .ref h)]) hx hb dX4_readWord_60 hl (k := 0) rfl (by decide) (by decide) rfl (fun ls hl => ?_)
        refine lv_goto (tgt := 30) hx hb dX4_readWord_63 (by decide) ?_
        refine lv_iload hx hb dX4_readWord_30 (lv_at hl 0 rfl) ?_
        refine lv_iload hx hb dX4_readWord_32 (lv_at hl 1 rfl) ?_
        refine lv_icmp_ge (tgt := 66) hx hb dX4_readWord_34 (by decide) (fun c_ => ?_) (fun c_ => absurd (by decide) c_)
        have hqw_ : qj (txb ct sz.toInt) pl.toInt 6 = 3 := wp3_3 (by omega) (by omega) (by omega)
        refine lv_iload hx hb dX4_readWord_66 (lv_at hl 0 rfl) ?_
        refine lv_iload hx hb dX4_readWord_68 (lv_at hl 1 rfl) ?_
        refine lv_icmp_ne (tgt := 86) hx hb dX4_readWord_70 (by decide) (fun c_ => absurd (by decide) c_) (fun c_ => ?_)
        refine lv_aload_n hx hb dX4_readWord_73 rfl (lv_at hl 5 rfl) ?_
        refine lv_dup hx hb dX4_readWord_74 rfl ?_
        refine t_get (ci := 4) (v := .int pl) hB hT (ro_ci r_1 rfl) rfl 3 (by decide) k_91 kp0 dX4_readWord_75 ?_
        refine lv_iload hx hb dX4_readWord_78 (lv_at hl 1 rfl) ?_
        refine lv_iadd hx hb dX4_readWord_80 ?_
        refine lv_topi (fun z_59 ez_59 => ?_)
        have e_z_59 : z_59.toInt = pl.toInt + 3 := i_add ez_59 rfl (by decide) (by omega) (by omega)
        refine t_put0 (ci := 4) (v := .int z_59) hB hT (ro_ci r_1 rfl) (ro_n0 r_1 (by decide)) rfl 3 (by decide) k_91 (Or.inl rfl) rfl rfl dX4_readWord_81 (fun H locs hT => ?_)
        have hI : Inv (sF g1 h 3 (.int z_59)) := hI.sF (p_5_3 r_1 (⟨_, rfl⟩))
        have hM : Sm md_s_readWord g (sF g1 h 3 (.int z_59)) := hM.tr hE (Sm_sF (by rw [r_1]; rfl))
        have hE : Ex g (sF g1 h 3 (.int z_59)) := hE
        have hc : (sF g1 h 3 (.int z_59)).2.2.2.1 ba = ct := hc
        refine lv_iload_n hx hb dX4_readWord_84 rfl (lv_at hl 3 rfl) ?_
        have hv_ := wo_6 (T := (txb ct sz.toInt)) (p := pl.toInt) ⟨by omega, by omega, by omega⟩
        exact t_iret hB hr hT (Nat.le_of_ble_eq_true rfl) (Nat.le_of_ble_eq_true rfl) dX4_readWord_85 ⟨6, z_59, rfl, hI, hE, hM, (Or.inr ⟨by decide, by decide, hv_.1.trans (by decide), (by have q_ := hv_.2; omega), by omega, by omega⟩), sF_eq⟩
set_option maxHeartbeats 4000000 in
set_option maxRecDepth 100000 in
theorem lt_s_readWord_w5 (l : Launch) (D : va_G) (cI cZ cS cR : ClassId) (N0 : NT) (g : GS) (h : Nat) (pl : Int32) (sz : Int32) (ba : Nat) (ct : Nat → Int32) (r_h : g.1 h = 5) (r_ba : g.1 ba = 67) (n_ba : g.2.2.1 ba = 100) (kpl : g.2.1 h 3 = .int pl) (ksz : g.2.1 h 1 = .int sz) (kba : g.2.1 h 0 = .ref ba) (l_pl : 0 ≤ pl.toInt) (u_pl : pl.toInt ≤ 100) (l_sz : 0 ≤ sz.toInt) (u_sz : sz.toInt ≤ 100) (hc_0 : g.2.2.2.1 ba = ct) {p : Program} {e : Env} {s : State} {m : MethodId} {args : Array Value} {below : List Frame} {meth : Method} {c : Code} (hB : Tz p s m meth c args cX4_readWord 6 RX4 D cI cZ cS cR N0) (hr : meth.sig.returnType = (some .int))    : ∀ (g1 : GS) (fu : Int32)  (H : Heap) (locs : List Loc) (ls : Array Slot), Tv D cI cZ cS cR N0 s.heap H locs g1 → Inv g1 → Ex g g1 → Sm md_s_readWord g g1 → 0 ≤ fu.toInt → fu.toInt ≤ 4 → g1.2.1 h 3 = .int pl → (g1.2.2.2.1 ba = ct) → (fu.toInt = fw (txb ct sz.toInt) pl.toInt 5) → (qj (txb ct sz.toInt) pl.toInt 0 ≠ 4) → (qj (txb ct sz.toInt) pl.toInt 1 ≠ 4) → (qj (txb ct sz.toInt) pl.toInt 2 ≠ 4) → (qj (txb ct sz.toInt) pl.toInt 3 ≠ 4) → (qj (txb ct sz.toInt) pl.toInt 4 ≠ 4) → lv_has ls 6 [(2, .int 5), (1, .int fu), (0, .ref h)] → W p l e (rmx 4 0 0) s m args below meth c H locs 0 0 (MQ below (tQ D cI cZ cS cR N0 (fun v g' => ∃ (r : Int32) (pl2 : Int32), v = some (.int r) ∧ Inv g' ∧ Ex g g' ∧ Sm md_s_readWord g g' ∧ ((r = -1 ∧ wdr (txb ct sz.toInt) pl.toInt = -1 ∧ pl2.toInt = wdp (txb ct sz.toInt) pl.toInt ∧ 0 ≤ pl2.toInt ∧ pl2.toInt ≤ 104) ∨ (0 ≤ r.toInt ∧ r.toInt ≤ 7 ∧ wdr (txb ct sz.toInt) pl.toInt = r.toInt ∧ pl2.toInt = wdp (txb ct sz.toInt) pl.toInt ∧ pl2.toInt ≤ sz.toInt ∧ 0 ≤ pl2.toInt)) ∧ (g'.2.1 h 3 = .int pl2))) args s 0 0 (fun q => N0.1 ≤ q)) (F0 m 4 ls []) := by
  have hx := hB.1
  have hb := hB.2.1
  intro g1 fu H locs ls hT hI hE hM l_fu u_fu kp0 hc hfu hn0 hn1 hn2 hn3 hn4 hl
  have r_1 : g1.1 h = 5 := Ex.r hE r_h (by decide)
  have r_2 : g1.1 ba = 67 := Ex.r hE r_ba (by decide)
  have n_3 : g1.2.2.1 ba = 100 := Ex.n hE r_ba (by decide) n_ba
  have kn_4 : g1.2.1 h 1 = .int sz := Sm.v hM r_h (by decide) rfl ksz
  have kn_5 : g1.2.1 h 0 = .ref ba := Sm.v hM r_h (by decide) rfl kba
  refine lv_iload_n hx hb dX4_readWord_4 rfl (lv_at hl 0 rfl) ?_
  refine lv_bipush (v := 8) hx hb dX4_readWord_5 (by decide) ?_
  refine lv_icmp_ge (tgt := 99) hx hb dX4_readWord_7 (by decide) (fun c_ => absurd c_ (by decide)) (fun c_ => ?_)
  refine va_gets hx hb (ux_wb hB) hT.2 hB.2.2.2.1 (hB.2.2.2.2.1 _ k_361) (fun _ h => h) dX4_readWord_10 ?_
  refine lv_iload_n hx hb dX4_readWord_13 rfl (lv_at hl 0 rfl) ?_
  refine va_ti (v := .int 20) hx hb (ux_tab hB) hT.2 (by unfold vp_in; decide) rfl dX4_readWord_14 ?_
  refine lv_istore_n (lv' := [(3, .int 20), (2, .int 5), (1, .int fu), (0, .ref h)]) hx hb dX4_readWord_15 rfl hl (by decide) rfl (fun ls hl => ?_)
  refine va_gets hx hb (ux_wb hB) hT.2 hB.2.2.2.1 (hB.2.2.2.2.1 _ k_361) (fun _ h => h) dX4_readWord_16 ?_
  refine lv_iload_n hx hb dX4_readWord_19 rfl (lv_at hl 1 rfl) ?_
  refine lv_iconst (v := 1) hx hb dX4_readWord_20 (by decide) ?_
  refine lv_iadd hx hb dX4_readWord_21 ?_
  refine x_ev (y := 6) (by decide) ?_
  refine va_ti (v := .int 24) hx hb (ux_tab hB) hT.2 (by unfold vp_in; decide) rfl dX4_readWord_22 ?_
  refine lv_iload_n hx hb dX4_readWord_23 rfl (lv_at hl 0 rfl) ?_
  refine lv_isub hx hb dX4_readWord_24 ?_
  refine x_ev (y := 4) (by decide) ?_
  refine lv_istore (lv' := [(4, .int 4), (3, .int 20), (2, .int 5), (1, .int fu), (0, .ref h)]) hx hb dX4_readWord_25 hl (by decide) rfl (fun ls hl => ?_)
  refine lv_iconst (v := 0) hx hb dX4_readWord_27 (by decide) ?_
  refine lv_istore (lv' := [(5, .int 0), (4, .int 4), (3, .int 20), (2, .int 5), (1, .int fu), (0, .ref h)]) hx hb dX4_readWord_28 hl (by decide) rfl (fun ls hl => ?_)
  refine lv_iload hx hb dX4_readWord_30 (lv_at hl 0 rfl) ?_
  refine lv_iload hx hb dX4_readWord_32 (lv_at hl 1 rfl) ?_
  refine lv_icmp_ge (tgt := 66) hx hb dX4_readWord_34 (by decide) (fun c_ => absurd c_ (by decide)) (fun c_ => ?_)
  refine lv_aload_n hx hb dX4_readWord_37 rfl (lv_at hl 5 rfl) ?_
  refine lv_aload_n hx hb dX4_readWord_38 rfl (lv_at hl 5 rfl) ?_
  refine t_get (ci := 4) (v := .int pl) hB hT (ro_ci r_1 rfl) rfl 3 (by decide) k_91 kp0 dX4_readWord_39 ?_
  refine lv_iload hx hb dX4_readWord_42 (lv_at hl 0 rfl) ?_
  refine lv_iadd hx hb dX4_readWord_44 ?_
  refine lv_topi (fun z_8 ez_8 => ?_)
  have e_z_8 : z_8.toInt = pl.toInt + 0 := i_add ez_8 rfl (by decide) (by omega) (by omega)
  refine t_callV (n := 1) (As := [.int z_8]) (rest := []) (ci := 4) hB hT hl.1 (s_byteAt l D cI cZ cS cR N0 g1 hI h z_8 sz ba ct r_1 r_2 n_3 kn_4 kn_5 (by omega) (by omega) hc) (ro_ci r_1 rfl) rfl k_366 k_58 k_363 k_365 k_3 (by decide +kernel) ⟨(Nat.le_of_ble_eq_true rfl), (Nat.le_of_ble_eq_true rfl)⟩ rfl (Nat.le_of_ble_eq_true rfl) ⟨(Nat.le_of_ble_eq_true rfl), (Nat.le_of_ble_eq_true rfl)⟩ dX4_readWord_45 (fun v g_9 H locs hp hT => ?_)
  obtain ⟨r_10, rfl, eg, f_11, f_12, f_13⟩ := hp
  rw [eg] at hT
  clear eg
  refine W.eq (g2 := F0 m 48 ls [.int r_10]) rfl ?_
  rw [show z_8.toInt = pl.toInt by omega] at f_11
  have f_11' := f_13
  refine va_ldcS hx hb hB.2.2.2.1 (ux_r hB) dX4_readWord_48 ?_
  refine lv_iload_n hx hb dX4_readWord_50 rfl (lv_at hl 2 rfl) ?_
  refine lv_iload hx hb dX4_readWord_51 (lv_at hl 0 rfl) ?_
  refine lv_iadd hx hb dX4_readWord_53 ?_
  refine x_ev (y := 20) (by decide) ?_
  refine t_callT (n := 1) (As := [.int 20]) (rest := [.int r_10]) hB hT hl.1 (u_charAt l D cI cZ cS cR N0 g1 hI 20 (by have q0 : (20 : Int32).toInt = 20 := (by decide); omega) (by have q0 : (20 : Int32).toInt = 20 := (by decide); omega)) k_371 k_66 k_368 k_369 k_370 (by decide +kernel) ⟨(Nat.le_of_ble_eq_true rfl), (Nat.le_of_ble_eq_true rfl)⟩ rfl (Nat.le_of_ble_eq_true rfl) ⟨(Nat.le_of_ble_eq_true rfl), (Nat.le_of_ble_eq_true rfl)⟩ dX4_readWord_54 (fun v g_16 H locs hp hT => ?_)
  obtain ⟨r_17, rfl, eg, f_18, f_19⟩ := hp
  rw [eg] at hT
  clear eg
  refine W.eq (g2 := F0 m 57 ls [.int r_17, .int r_10]) rfl ?_
  have qc_22 : (20 : Int32).toInt = 20 := (by decide)
  have hch_r_17 : r_17 = 97 := f_19.trans (by decide)
  subst hch_r_17
  refine W.eq (g2 := F0 m 57 ls [.int 97, .int r_10]) rfl ?_
  refine lv_icmp_ne (tgt := 66) hx hb dX4_readWord_57 (by decide) (fun c_23 => ?_) (fun c_23 => ?_)
  · have c_23' : r_10.toInt ≠ 97 := i_ne c_23 rfl (by decide)
    have hqw_ : qj (txb ct sz.toInt) pl.toInt 5 = 0 := wp4_0 (by omega)
    refine lv_iload hx hb dX4_readWord_66 (lv_at hl 0 rfl) ?_
    refine lv_iload hx hb dX4_readWord_68 (lv_at hl 1 rfl) ?_
    refine lv_icmp_ne (tgt := 86) hx hb dX4_readWord_70 (by decide) (fun c_ => ?_) (fun c_ => absurd c_ (by decide))
    refine lv_iload_n hx hb dX4_readWord_86 rfl (lv_at hl 4 rfl) ?_
    refine lv_iload hx hb dX4_readWord_87 (lv_at hl 0 rfl) ?_
    refine t_max hB k_408 k_241 k_63 k_242 hl.1 (Nat.le_of_ble_eq_true rfl) (Nat.le_of_ble_eq_true rfl) (Nat.le_of_ble_eq_true rfl) (Nat.le_of_ble_eq_true rfl) rfl dX4_readWord_89 ?_
    refine lv_topi (fun z_24 ez_24 => ?_)
    have e_z_24 := i_max (a := fu.toInt) (b := 0) ez_24 rfl (by decide)
    refine lv_istore_n (lv' := [(1, .int z_24), (5, .int 0), (4, .int 4), (3, .int 20), (2, .int 5), (0, .ref h)]) hx hb dX4_readWord_92 rfl hl (by decide) rfl (fun ls hl => ?_)
    refine lv_iinc (v := 6) (lv' := [(2, .int 6), (1, .int z_24), (5, .int 0), (4, .int 4), (3, .int 20), (0, .ref h)]) hx hb dX4_readWord_93 hl (k := 4) rfl (by decide) (by decide) rfl (fun ls hl => ?_)
    refine lv_goto (tgt := 4) hx hb dX4_readWord_96 (by decide) ?_
    exact lt_s_readWord_w6 l D cI cZ cS cR N0 g h pl sz ba ct r_h r_ba n_ba kpl ksz kba l_pl u_pl l_sz u_sz hc_0 hB hr   g1 z_24 H locs ls hT hI hE hM (by omega) (by omega) kp0 hc (fw_st (k := 5) hfu hqw_ (by omega)) hn0 hn1 hn2 hn3 hn4 (fun h_ => absurd (hqw_.symm.trans h_) (by decide)) (lv_sub hl [0, 1, 5] rfl)
  · have c_23' : r_10.toInt = 97 := i_eq c_23 rfl (by decide)
    refine lv_iinc (v := 1) (lv' := [(5, .int 1), (4, .int 4), (3, .int 20), (2, .int 5), (1, .int fu), (0, .ref h)]) hx hb dX4_readWord_60 hl (k := 0) rfl (by decide) (by decide) rfl (fun ls hl => ?_)
    refine lv_goto (tgt := 30) hx hb dX4_readWord_63 (by decide) ?_
    refine lv_iload hx hb dX4_readWord_30 (lv_at hl 0 rfl) ?_
    refine lv_iload hx hb dX4_readWord_32 (lv_at hl 1 rfl) ?_
    refine lv_icmp_ge (tgt := 66) hx hb dX4_readWord_34 (by decide) (fun c_ => absurd c_ (by decide)) (fun c_ => ?_)
    refine lv_aload_n hx hb dX4_readWord_37 rfl (lv_at hl 5 rfl) ?_
    refine lv_aload_n hx hb dX4_readWord_38 rfl (lv_at hl 5 rfl) ?_
    refine t_get (ci := 4) (v := .int pl) hB hT (ro_ci r_1 rfl) rfl 3 (by decide) k_91 kp0 dX4_readWord_39 ?_
    refine lv_iload hx hb dX4_readWord_42 (lv_at hl 0 rfl) ?_
    refine lv_iadd hx hb dX4_readWord_44 ?_
    refine lv_topi (fun z_25 ez_25 => ?_)
    have e_z_25 : z_25.toInt = pl.toInt + 1 := i_add ez_25 rfl (by decide) (by omega) (by omega)
    refine t_callV (n := 1) (As := [.int z_25]) (rest := []) (ci := 4) hB hT hl.1 (s_byteAt l D cI cZ cS cR N0 g1 hI h z_25 sz ba ct r_1 r_2 n_3 kn_4 kn_5 (by omega) (by omega) hc) (ro_ci r_1 rfl) rfl k_366 k_58 k_363 k_365 k_3 (by decide +kernel) ⟨(Nat.le_of_ble_eq_true rfl), (Nat.le_of_ble_eq_true rfl)⟩ rfl (Nat.le_of_ble_eq_true rfl) ⟨(Nat.le_of_ble_eq_true rfl), (Nat.le_of_ble_eq_true rfl)⟩ dX4_readWord_45 (fun v g_26 H locs hp hT => ?_)
    obtain ⟨r_27, rfl, eg, f_28, f_29, f_30⟩ := hp
    rw [eg] at hT
    clear eg
    refine W.eq (g2 := F0 m 48 ls [.int r_27]) rfl ?_
    rw [show z_25.toInt = pl.toInt + 1 by omega] at f_28
    have f_28' := f_30
    refine va_ldcS hx hb hB.2.2.2.1 (ux_r hB) dX4_readWord_48 ?_
    refine lv_iload_n hx hb dX4_readWord_50 rfl (lv_at hl 2 rfl) ?_
    refine lv_iload hx hb dX4_readWord_51 (lv_at hl 0 rfl) ?_
    refine lv_iadd hx hb dX4_readWord_53 ?_
    refine x_ev (y := 21) (by decide) ?_
    refine t_callT (n := 1) (As := [.int 21]) (rest := [.int r_27]) hB hT hl.1 (u_charAt l D cI cZ cS cR N0 g1 hI 21 (by have q0 : (21 : Int32).toInt = 21 := (by decide); omega) (by have q0 : (21 : Int32).toInt = 21 := (by decide); omega)) k_371 k_66 k_368 k_369 k_370 (by decide +kernel) ⟨(Nat.le_of_ble_eq_true rfl), (Nat.le_of_ble_eq_true rfl)⟩ rfl (Nat.le_of_ble_eq_true rfl) ⟨(Nat.le_of_ble_eq_true rfl), (Nat.le_of_ble_eq_true rfl)⟩ dX4_readWord_54 (fun v g_33 H locs hp hT => ?_)
    obtain ⟨r_34, rfl, eg, f_35, f_36⟩ := hp
    rw [eg] at hT
    clear eg
    refine W.eq (g2 := F0 m 57 ls [.int r_34, .int r_27]) rfl ?_
    have qc_39 : (21 : Int32).toInt = 21 := (by decide)
    have hch_r_34 : r_34 = 115 := f_36.trans (by decide)
    subst hch_r_34
    refine W.eq (g2 := F0 m 57 ls [.int 115, .int r_27]) rfl ?_
    refine lv_icmp_ne (tgt := 66) hx hb dX4_readWord_57 (by decide) (fun c_40 => ?_) (fun c_40 => ?_)
    · have c_40' : r_27.toInt ≠ 115 := i_ne c_40 rfl (by decide)
      have hqw_ : qj (txb ct sz.toInt) pl.toInt 5 = 1 := wp4_1 (by omega) (by omega)
      refine lv_iload hx hb dX4_readWord_66 (lv_at hl 0 rfl) ?_
      refine lv_iload hx hb dX4_readWord_68 (lv_at hl 1 rfl) ?_
      refine lv_icmp_ne (tgt := 86) hx hb dX4_readWord_70 (by decide) (fun c_ => ?_) (fun c_ => absurd c_ (by decide))
      refine lv_iload_n hx hb dX4_readWord_86 rfl (lv_at hl 4 rfl) ?_
      refine lv_iload hx hb dX4_readWord_87 (lv_at hl 0 rfl) ?_
      refine t_max hB k_408 k_241 k_63 k_242 hl.1 (Nat.le_of_ble_eq_true rfl) (Nat.le_of_ble_eq_true rfl) (Nat.le_of_ble_eq_true rfl) (Nat.le_of_ble_eq_true rfl) rfl dX4_readWord_89 ?_
      refine lv_topi (fun z_41 ez_41 => ?_)
      have e_z_41 := i_max (a := fu.toInt) (b := 1) ez_41 rfl (by decide)
      refine lv_istore_n (lv' := [(1, .int z_41), (5, .int 1), (4, .int 4), (3, .int 20), (2, .int 5), (0, .ref h)]) hx hb dX4_readWord_92 rfl hl (by decide) rfl (fun ls hl => ?_)
      refine lv_iinc (v := 6) (lv' := [(2, .int 6), (1, .int z_41), (5, .int 1), (4, .int 4), (3, .int 20), (0, .ref h)]) hx hb dX4_readWord_93 hl (k := 4) rfl (by decide) (by decide) rfl (fun ls hl => ?_)
      refine lv_goto (tgt := 4) hx hb dX4_readWord_96 (by decide) ?_
      exact lt_s_readWord_w6 l D cI cZ cS cR N0 g h pl sz ba ct r_h r_ba n_ba kpl ksz kba l_pl u_pl l_sz u_sz hc_0 hB hr   g1 z_41 H locs ls hT hI hE hM (by omega) (by omega) kp0 hc (fw_st (k := 5) hfu hqw_ (by omega)) hn0 hn1 hn2 hn3 hn4 (fun h_ => absurd (hqw_.symm.trans h_) (by decide)) (lv_sub hl [0, 1, 5] rfl)
    · have c_40' : r_27.toInt = 115 := i_eq c_40 rfl (by decide)
      refine lv_iinc (v := 2) (lv' := [(5, .int 2), (4, .int 4), (3, .int 20), (2, .int 5), (1, .int fu), (0, .ref h)]) hx hb dX4_readWord_60 hl (k := 0) rfl (by decide) (by decide) rfl (fun ls hl => ?_)
      refine lv_goto (tgt := 30) hx hb dX4_readWord_63 (by decide) ?_
      refine lv_iload hx hb dX4_readWord_30 (lv_at hl 0 rfl) ?_
      refine lv_iload hx hb dX4_readWord_32 (lv_at hl 1 rfl) ?_
      refine lv_icmp_ge (tgt := 66) hx hb dX4_readWord_34 (by decide) (fun c_ => absurd c_ (by decide)) (fun c_ => ?_)
      refine lv_aload_n hx hb dX4_readWord_37 rfl (lv_at hl 5 rfl) ?_
      refine lv_aload_n hx hb dX4_readWord_38 rfl (lv_at hl 5 rfl) ?_
      refine t_get (ci := 4) (v := .int pl) hB hT (ro_ci r_1 rfl) rfl 3 (by decide) k_91 kp0 dX4_readWord_39 ?_
      refine lv_iload hx hb dX4_readWord_42 (lv_at hl 0 rfl) ?_
      refine lv_iadd hx hb dX4_readWord_44 ?_
      refine lv_topi (fun z_42 ez_42 => ?_)
      have e_z_42 : z_42.toInt = pl.toInt + 2 := i_add ez_42 rfl (by decide) (by omega) (by omega)
      refine t_callV (n := 1) (As := [.int z_42]) (rest := []) (ci := 4) hB hT hl.1 (s_byteAt l D cI cZ cS cR N0 g1 hI h z_42 sz ba ct r_1 r_2 n_3 kn_4 kn_5 (by omega) (by omega) hc) (ro_ci r_1 rfl) rfl k_366 k_58 k_363 k_365 k_3 (by decide +kernel) ⟨(Nat.le_of_ble_eq_true rfl), (Nat.le_of_ble_eq_true rfl)⟩ rfl (Nat.le_of_ble_eq_true rfl) ⟨(Nat.le_of_ble_eq_true rfl), (Nat.le_of_ble_eq_true rfl)⟩ dX4_readWord_45 (fun v g_43 H locs hp hT => ?_)
      obtain ⟨r_44, rfl, eg, f_45, f_46, f_47⟩ := hp
      rw [eg] at hT
      clear eg
      refine W.eq (g2 := F0 m 48 ls [.int r_44]) rfl ?_
      rw [show z_42.toInt = pl.toInt + 2 by omega] at f_45
      have f_45' := f_47
      refine va_ldcS hx hb hB.2.2.2.1 (ux_r hB) dX4_readWord_48 ?_
      refine lv_iload_n hx hb dX4_readWord_50 rfl (lv_at hl 2 rfl) ?_
      refine lv_iload hx hb dX4_readWord_51 (lv_at hl 0 rfl) ?_
      refine lv_iadd hx hb dX4_readWord_53 ?_
      refine x_ev (y := 22) (by decide) ?_
      refine t_callT (n := 1) (As := [.int 22]) (rest := [.int r_44]) hB hT hl.1 (u_charAt l D cI cZ cS cR N0 g1 hI 22 (by have q0 : (22 : Int32).toInt = 22 := (by decide); omega) (by have q0 : (22 : Int32).toInt = 22 := (by decide); omega)) k_371 k_66 k_368 k_369 k_370 (by decide +kernel) ⟨(Nat.le_of_ble_eq_true rfl), (Nat.le_of_ble_eq_true rfl)⟩ rfl (Nat.le_of_ble_eq_true rfl) ⟨(Nat.le_of_ble_eq_true rfl), (Nat.le_of_ble_eq_true rfl)⟩ dX4_readWord_54 (fun v g_50 H locs hp hT => ?_)
      obtain ⟨r_51, rfl, eg, f_52, f_53⟩ := hp
      rw [eg] at hT
      clear eg
      refine W.eq (g2 := F0 m 57 ls [.int r_51, .int r_44]) rfl ?_
      have qc_56 : (22 : Int32).toInt = 22 := (by decide)
      have hch_r_51 : r_51 = 107 := f_53.trans (by decide)
      subst hch_r_51
      refine W.eq (g2 := F0 m 57 ls [.int 107, .int r_44]) rfl ?_
      refine lv_icmp_ne (tgt := 66) hx hb dX4_readWord_57 (by decide) (fun c_57 => ?_) (fun c_57 => ?_)
      · have c_57' : r_44.toInt ≠ 107 := i_ne c_57 rfl (by decide)
        have hqw_ : qj (txb ct sz.toInt) pl.toInt 5 = 2 := wp4_2 (by omega) (by omega) (by omega)
        refine lv_iload hx hb dX4_readWord_66 (lv_at hl 0 rfl) ?_
        refine lv_iload hx hb dX4_readWord_68 (lv_at hl 1 rfl) ?_
        refine lv_icmp_ne (tgt := 86) hx hb dX4_readWord_70 (by decide) (fun c_ => ?_) (fun c_ => absurd c_ (by decide))
        refine lv_iload_n hx hb dX4_readWord_86 rfl (lv_at hl 4 rfl) ?_
        refine lv_iload hx hb dX4_readWord_87 (lv_at hl 0 rfl) ?_
        refine t_max hB k_408 k_241 k_63 k_242 hl.1 (Nat.le_of_ble_eq_true rfl) (Nat.le_of_ble_eq_true rfl) (Nat.le_of_ble_eq_true rfl) (Nat.le_of_ble_eq_true rfl) rfl dX4_readWord_89 ?_
        refine lv_topi (fun z_58 ez_58 => ?_)
        have e_z_58 := i_max (a := fu.toInt) (b := 2) ez_58 rfl (by decide)
        refine lv_istore_n (lv' := [(1, .int z_58), (5, .int 2), (4, .int 4), (3, .int 20), (2, .int 5), (0, .ref h)]) hx hb dX4_readWord_92 rfl hl (by decide) rfl (fun ls hl => ?_)
        refine lv_iinc (v := 6) (lv' := [(2, .int 6), (1, .int z_58), (5, .int 2), (4, .int 4), (3, .int 20), (0, .ref h)]) hx hb dX4_readWord_93 hl (k := 4) rfl (by decide) (by decide) rfl (fun ls hl => ?_)
        refine lv_goto (tgt := 4) hx hb dX4_readWord_96 (by decide) ?_
        exact lt_s_readWord_w6 l D cI cZ cS cR N0 g h pl sz ba ct r_h r_ba n_ba kpl ksz kba l_pl u_pl l_sz u_sz hc_0 hB hr   g1 z_58 H locs ls hT hI hE hM (by omega) (by omega) kp0 hc (fw_st (k := 5) hfu hqw_ (by omega)) hn0 hn1 hn2 hn3 hn4 (fun h_ => absurd (hqw_.symm.trans h_) (by decide)) (lv_sub hl [0, 1, 5] rfl)
      · have c_57' : r_44.toInt = 107 := i_eq c_57 rfl (by decide)
        refine lv_iinc (v := 3) (lv' := [(5, .int 3), (4, .int 4), (3, .int 20), (2, .int 5), (1, .int fu), (0, .ref h)]) hx hb dX4_readWord_60 hl (k := 0) rfl (by decide) (by decide) rfl (fun ls hl => ?_)
        refine lv_goto (tgt := 30) hx hb dX4_readWord_63 (by decide) ?_
        refine lv_iload hx hb dX4_readWord_30 (lv_at hl 0 rfl) ?_
        refine lv_iload hx hb dX4_readWord_32 (lv_at hl 1 rfl) ?_
        refine lv_icmp_ge (tgt := 66) hx hb dX4_readWord_34 (by decide) (fun c_ => absurd c_ (by decide)) (fun c_ => ?_)
        refine lv_aload_n hx hb dX4_readWord_37 rfl (lv_at hl 5 rfl) ?_
        refine lv_aload_n hx hb dX4_readWord_38 rfl (lv_at hl 5 rfl) ?_
        refine t_get (ci := 4) (v := .int pl) hB hT (ro_ci r_1 rfl) rfl 3 (by decide) k_91 kp0 dX4_readWord_39 ?_
        refine lv_iload hx hb dX4_readWord_42 (lv_at hl 0 rfl) ?_
        refine lv_iadd hx hb dX4_readWord_44 ?_
        refine lv_topi (fun z_59 ez_59 => ?_)
        have e_z_59 : z_59.toInt = pl.toInt + 3 := i_add ez_59 rfl (by decide) (by omega) (by omega)
        refine t_callV (n := 1) (As := [.int z_59]) (rest := []) (ci := 4) hB hT hl.1 (s_byteAt l D cI cZ cS cR N0 g1 hI h z_59 sz ba ct r_1 r_2 n_3 kn_4 kn_5 (by omega) (by omega) hc) (ro_ci r_1 rfl) rfl k_366 k_58 k_363 k_365 k_3 (by decide +kernel) ⟨(Nat.le_of_ble_eq_true rfl), (Nat.le_of_ble_eq_true rfl)⟩ rfl (Nat.le_of_ble_eq_true rfl) ⟨(Nat.le_of_ble_eq_true rfl), (Nat.le_of_ble_eq_true rfl)⟩ dX4_readWord_45 (fun v g_60 H locs hp hT => ?_)
        obtain ⟨r_61, rfl, eg, f_62, f_63, f_64⟩ := hp
        rw [eg] at hT
        clear eg
        refine W.eq (g2 := F0 m 48 ls [.int r_61]) rfl ?_
        rw [show z_59.toInt = pl.toInt + 3 by omega] at f_62
        have f_62' := f_64
        refine va_ldcS hx hb hB.2.2.2.1 (ux_r hB) dX4_readWord_48 ?_
        refine lv_iload_n hx hb dX4_readWord_50 rfl (lv_at hl 2 rfl) ?_
        refine lv_iload hx hb dX4_readWord_51 (lv_at hl 0 rfl) ?_
        refine lv_iadd hx hb dX4_readWord_53 ?_
        refine x_ev (y := 23) (by decide) ?_
        refine t_callT (n := 1) (As := [.int 23]) (rest := [.int r_61]) hB hT hl.1 (u_charAt l D cI cZ cS cR N0 g1 hI 23 (by have q0 : (23 : Int32).toInt = 23 := (by decide); omega) (by have q0 : (23 : Int32).toInt = 23 := (by decide); omega)) k_371 k_66 k_368 k_369 k_370 (by decide +kernel) ⟨(Nat.le_of_ble_eq_true rfl), (Nat.le_of_ble_eq_true rfl)⟩ rfl (Nat.le_of_ble_eq_true rfl) ⟨(Nat.le_of_ble_eq_true rfl), (Nat.le_of_ble_eq_true rfl)⟩ dX4_readWord_54 (fun v g_67 H locs hp hT => ?_)
        obtain ⟨r_68, rfl, eg, f_69, f_70⟩ := hp
        rw [eg] at hT
        clear eg
        refine W.eq (g2 := F0 m 57 ls [.int r_68, .int r_61]) rfl ?_
        have qc_73 : (23 : Int32).toInt = 23 := (by decide)
        have hch_r_68 : r_68 = 32 := f_70.trans (by decide)
        subst hch_r_68
        refine W.eq (g2 := F0 m 57 ls [.int 32, .int r_61]) rfl ?_
        refine lv_icmp_ne (tgt := 66) hx hb dX4_readWord_57 (by decide) (fun c_74 => ?_) (fun c_74 => ?_)
        · have c_74' : r_61.toInt ≠ 32 := i_ne c_74 rfl (by decide)
          have hqw_ : qj (txb ct sz.toInt) pl.toInt 5 = 3 := wp4_3 (by omega) (by omega) (by omega) (by omega)
          refine lv_iload hx hb dX4_readWord_66 (lv_at hl 0 rfl) ?_
          refine lv_iload hx hb dX4_readWord_68 (lv_at hl 1 rfl) ?_
          refine lv_icmp_ne (tgt := 86) hx hb dX4_readWord_70 (by decide) (fun c_ => ?_) (fun c_ => absurd c_ (by decide))
          refine lv_iload_n hx hb dX4_readWord_86 rfl (lv_at hl 4 rfl) ?_
          refine lv_iload hx hb dX4_readWord_87 (lv_at hl 0 rfl) ?_
          refine t_max hB k_408 k_241 k_63 k_242 hl.1 (Nat.le_of_ble_eq_true rfl) (Nat.le_of_ble_eq_true rfl) (Nat.le_of_ble_eq_true rfl) (Nat.le_of_ble_eq_true rfl) rfl dX4_readWord_89 ?_
          refine lv_topi (fun z_75 ez_75 => ?_)
          have e_z_75 := i_max (a := fu.toInt) (b := 3) ez_75 rfl (by decide)
          refine lv_istore_n (lv' := [(1, .int z_75), (5, .int 3), (4, .int 4), (3, .int 20), (2, .int 5), (0, .ref h)]) hx hb dX4_readWord_92 rfl hl (by decide) rfl (fun ls hl => ?_)
          refine lv_iinc (v := 6) (lv' := [(2, .int 6), (1, .int z_75), (5, .int 3), (4, .int 4), (3, .int 20), (0, .ref h)]) hx hb dX4_readWord_93 hl (k := 4) rfl (by decide) (by decide) rfl (fun ls hl => ?_)
          refine lv_goto (tgt := 4) hx hb dX4_readWord_96 (by decide) ?_
          exact lt_s_readWord_w6 l D cI cZ cS cR N0 g h pl sz ba ct r_h r_ba n_ba kpl ksz kba l_pl u_pl l_sz u_sz hc_0 hB hr   g1 z_75 H locs ls hT hI hE hM (by omega) (by omega) kp0 hc (fw_st (k := 5) hfu hqw_ (by omega)) hn0 hn1 hn2 hn3 hn4 (fun h_ => absurd (hqw_.symm.trans h_) (by decide)) (lv_sub hl [0, 1, 5] rfl)
        · have c_74' : r_61.toInt = 32 := i_eq c_74 rfl (by decide)
          refine lv_iinc (v := 4) (lv' := [(5, .int 4), (4, .int 4), (3, .int 20), (2, .int 5), (1, .int fu), (0, .ref h)]) hx hb dX4_readWord_60 hl (k := 0) rfl (by decide) (by decide) rfl (fun ls hl => ?_)
          refine lv_goto (tgt := 30) hx hb dX4_readWord_63 (by decide) ?_
          refine lv_iload hx hb dX4_readWord_30 (lv_at hl 0 rfl) ?_
          refine lv_iload hx hb dX4_readWord_32 (lv_at hl 1 rfl) ?_
          refine lv_icmp_ge (tgt := 66) hx hb dX4_readWord_34 (by decide) (fun c_ => ?_) (fun c_ => absurd (by decide) c_)
          have hqw_ : qj (txb ct sz.toInt) pl.toInt 5 = 4 := wp4_4 (by omega) (by omega) (by omega) (by omega)
          refine lv_iload hx hb dX4_readWord_66 (lv_at hl 0 rfl) ?_
          refine lv_iload hx hb dX4_readWord_68 (lv_at hl 1 rfl) ?_
          refine lv_icmp_ne (tgt := 86) hx hb dX4_readWord_70 (by decide) (fun c_ => absurd (by decide) c_) (fun c_ => ?_)
          refine lv_aload_n hx hb dX4_readWord_73 rfl (lv_at hl 5 rfl) ?_
          refine lv_dup hx hb dX4_readWord_74 rfl ?_
          refine t_get (ci := 4) (v := .int pl) hB hT (ro_ci r_1 rfl) rfl 3 (by decide) k_91 kp0 dX4_readWord_75 ?_
          refine lv_iload hx hb dX4_readWord_78 (lv_at hl 1 rfl) ?_
          refine lv_iadd hx hb dX4_readWord_80 ?_
          refine lv_topi (fun z_76 ez_76 => ?_)
          have e_z_76 : z_76.toInt = pl.toInt + 4 := i_add ez_76 rfl (by decide) (by omega) (by omega)
          refine t_put0 (ci := 4) (v := .int z_76) hB hT (ro_ci r_1 rfl) (ro_n0 r_1 (by decide)) rfl 3 (by decide) k_91 (Or.inl rfl) rfl rfl dX4_readWord_81 (fun H locs hT => ?_)
          have hI : Inv (sF g1 h 3 (.int z_76)) := hI.sF (p_5_3 r_1 (⟨_, rfl⟩))
          have hM : Sm md_s_readWord g (sF g1 h 3 (.int z_76)) := hM.tr hE (Sm_sF (by rw [r_1]; rfl))
          have hE : Ex g (sF g1 h 3 (.int z_76)) := hE
          have hc : (sF g1 h 3 (.int z_76)).2.2.2.1 ba = ct := hc
          refine lv_iload_n hx hb dX4_readWord_84 rfl (lv_at hl 3 rfl) ?_
          have hv_ := wo_5 (T := (txb ct sz.toInt)) (p := pl.toInt) ⟨by omega, by omega, by omega, by omega⟩
          exact t_iret hB hr hT (Nat.le_of_ble_eq_true rfl) (Nat.le_of_ble_eq_true rfl) dX4_readWord_85 ⟨5, z_76, rfl, hI, hE, hM, (Or.inr ⟨by decide, by decide, hv_.1.trans (by decide), (by have q_ := hv_.2; omega), by omega, by omega⟩), sF_eq⟩
set_option maxHeartbeats 4000000 in
set_option maxRecDepth 100000 in
theorem lt_s_readWord_w4 (l : Launch) (D : va_G) (cI cZ cS cR : ClassId) (N0 : NT) (g : GS) (h : Nat) (pl : Int32) (sz : Int32) (ba : Nat) (ct : Nat → Int32) (r_h : g.1 h = 5) (r_ba : g.1 ba = 67) (n_ba : g.2.2.1 ba = 100) (kpl : g.2.1 h 3 = .int pl) (ksz : g.2.1 h 1 = .int sz) (kba : g.2.1 h 0 = .ref ba) (l_pl : 0 ≤ pl.toInt) (u_pl : pl.toInt ≤ 100) (l_sz : 0 ≤ sz.toInt) (u_sz : sz.toInt ≤ 100) (hc_0 : g.2.2.2.1 ba = ct) {p : Program} {e : Env} {s : State} {m : MethodId} {args : Array Value} {below : List Frame} {meth : Method} {c : Code} (hB : Tz p s m meth c args cX4_readWord 6 RX4 D cI cZ cS cR N0) (hr : meth.sig.returnType = (some .int))    : ∀ (g1 : GS) (fu : Int32)  (H : Heap) (locs : List Loc) (ls : Array Slot), Tv D cI cZ cS cR N0 s.heap H locs g1 → Inv g1 → Ex g g1 → Sm md_s_readWord g g1 → 0 ≤ fu.toInt → fu.toInt ≤ 4 → g1.2.1 h 3 = .int pl → (g1.2.2.2.1 ba = ct) → (fu.toInt = fw (txb ct sz.toInt) pl.toInt 4) → (qj (txb ct sz.toInt) pl.toInt 0 ≠ 4) → (qj (txb ct sz.toInt) pl.toInt 1 ≠ 4) → (qj (txb ct sz.toInt) pl.toInt 2 ≠ 4) → (qj (txb ct sz.toInt) pl.toInt 3 ≠ 4) → lv_has ls 6 [(2, .int 4), (1, .int fu), (0, .ref h)] → W p l e (rmx 4 0 0) s m args below meth c H locs 0 0 (MQ below (tQ D cI cZ cS cR N0 (fun v g' => ∃ (r : Int32) (pl2 : Int32), v = some (.int r) ∧ Inv g' ∧ Ex g g' ∧ Sm md_s_readWord g g' ∧ ((r = -1 ∧ wdr (txb ct sz.toInt) pl.toInt = -1 ∧ pl2.toInt = wdp (txb ct sz.toInt) pl.toInt ∧ 0 ≤ pl2.toInt ∧ pl2.toInt ≤ 104) ∨ (0 ≤ r.toInt ∧ r.toInt ≤ 7 ∧ wdr (txb ct sz.toInt) pl.toInt = r.toInt ∧ pl2.toInt = wdp (txb ct sz.toInt) pl.toInt ∧ pl2.toInt ≤ sz.toInt ∧ 0 ≤ pl2.toInt)) ∧ (g'.2.1 h 3 = .int pl2))) args s 0 0 (fun q => N0.1 ≤ q)) (F0 m 4 ls []) := by
  have hx := hB.1
  have hb := hB.2.1
  intro g1 fu H locs ls hT hI hE hM l_fu u_fu kp0 hc hfu hn0 hn1 hn2 hn3 hl
  have r_1 : g1.1 h = 5 := Ex.r hE r_h (by decide)
  have r_2 : g1.1 ba = 67 := Ex.r hE r_ba (by decide)
  have n_3 : g1.2.2.1 ba = 100 := Ex.n hE r_ba (by decide) n_ba
  have kn_4 : g1.2.1 h 1 = .int sz := Sm.v hM r_h (by decide) rfl ksz
  have kn_5 : g1.2.1 h 0 = .ref ba := Sm.v hM r_h (by decide) rfl kba
  refine lv_iload_n hx hb dX4_readWord_4 rfl (lv_at hl 0 rfl) ?_
  refine lv_bipush (v := 8) hx hb dX4_readWord_5 (by decide) ?_
  refine lv_icmp_ge (tgt := 99) hx hb dX4_readWord_7 (by decide) (fun c_ => absurd c_ (by decide)) (fun c_ => ?_)
  refine va_gets hx hb (ux_wb hB) hT.2 hB.2.2.2.1 (hB.2.2.2.2.1 _ k_361) (fun _ h => h) dX4_readWord_10 ?_
  refine lv_iload_n hx hb dX4_readWord_13 rfl (lv_at hl 0 rfl) ?_
  refine va_ti (v := .int 16) hx hb (ux_tab hB) hT.2 (by unfold vp_in; decide) rfl dX4_readWord_14 ?_
  refine lv_istore_n (lv' := [(3, .int 16), (2, .int 4), (1, .int fu), (0, .ref h)]) hx hb dX4_readWord_15 rfl hl (by decide) rfl (fun ls hl => ?_)
  refine va_gets hx hb (ux_wb hB) hT.2 hB.2.2.2.1 (hB.2.2.2.2.1 _ k_361) (fun _ h => h) dX4_readWord_16 ?_
  refine lv_iload_n hx hb dX4_readWord_19 rfl (lv_at hl 1 rfl) ?_
  refine lv_iconst (v := 1) hx hb dX4_readWord_20 (by decide) ?_
  refine lv_iadd hx hb dX4_readWord_21 ?_
  refine x_ev (y := 5) (by decide) ?_
  refine va_ti (v := .int 20) hx hb (ux_tab hB) hT.2 (by unfold vp_in; decide) rfl dX4_readWord_22 ?_
  refine lv_iload_n hx hb dX4_readWord_23 rfl (lv_at hl 0 rfl) ?_
  refine lv_isub hx hb dX4_readWord_24 ?_
  refine x_ev (y := 4) (by decide) ?_
  refine lv_istore (lv' := [(4, .int 4), (3, .int 16), (2, .int 4), (1, .int fu), (0, .ref h)]) hx hb dX4_readWord_25 hl (by decide) rfl (fun ls hl => ?_)
  refine lv_iconst (v := 0) hx hb dX4_readWord_27 (by decide) ?_
  refine lv_istore (lv' := [(5, .int 0), (4, .int 4), (3, .int 16), (2, .int 4), (1, .int fu), (0, .ref h)]) hx hb dX4_readWord_28 hl (by decide) rfl (fun ls hl => ?_)
  refine lv_iload hx hb dX4_readWord_30 (lv_at hl 0 rfl) ?_
  refine lv_iload hx hb dX4_readWord_32 (lv_at hl 1 rfl) ?_
  refine lv_icmp_ge (tgt := 66) hx hb dX4_readWord_34 (by decide) (fun c_ => absurd c_ (by decide)) (fun c_ => ?_)
  refine lv_aload_n hx hb dX4_readWord_37 rfl (lv_at hl 5 rfl) ?_
  refine lv_aload_n hx hb dX4_readWord_38 rfl (lv_at hl 5 rfl) ?_
  refine t_get (ci := 4) (v := .int pl) hB hT (ro_ci r_1 rfl) rfl 3 (by decide) k_91 kp0 dX4_readWord_39 ?_
  refine lv_iload hx hb dX4_readWord_42 (lv_at hl 0 rfl) ?_
  refine lv_iadd hx hb dX4_readWord_44 ?_
  refine lv_topi (fun z_8 ez_8 => ?_)
  have e_z_8 : z_8.toInt = pl.toInt + 0 := i_add ez_8 rfl (by decide) (by omega) (by omega)
  refine t_callV (n := 1) (As := [.int z_8]) (rest := []) (ci := 4) hB hT hl.1 (s_byteAt l D cI cZ cS cR N0 g1 hI h z_8 sz ba ct r_1 r_2 n_3 kn_4 kn_5 (by omega) (by omega) hc) (ro_ci r_1 rfl) rfl k_366 k_58 k_363 k_365 k_3 (by decide +kernel) ⟨(Nat.le_of_ble_eq_true rfl), (Nat.le_of_ble_eq_true rfl)⟩ rfl (Nat.le_of_ble_eq_true rfl) ⟨(Nat.le_of_ble_eq_true rfl), (Nat.le_of_ble_eq_true rfl)⟩ dX4_readWord_45 (fun v g_9 H locs hp hT => ?_)
  obtain ⟨r_10, rfl, eg, f_11, f_12, f_13⟩ := hp
  rw [eg] at hT
  clear eg
  refine W.eq (g2 := F0 m 48 ls [.int r_10]) rfl ?_
  rw [show z_8.toInt = pl.toInt by omega] at f_11
  have f_11' := f_13
  refine va_ldcS hx hb hB.2.2.2.1 (ux_r hB) dX4_readWord_48 ?_
  refine lv_iload_n hx hb dX4_readWord_50 rfl (lv_at hl 2 rfl) ?_
  refine lv_iload hx hb dX4_readWord_51 (lv_at hl 0 rfl) ?_
  refine lv_iadd hx hb dX4_readWord_53 ?_
  refine x_ev (y := 16) (by decide) ?_
  refine t_callT (n := 1) (As := [.int 16]) (rest := [.int r_10]) hB hT hl.1 (u_charAt l D cI cZ cS cR N0 g1 hI 16 (by have q0 : (16 : Int32).toInt = 16 := (by decide); omega) (by have q0 : (16 : Int32).toInt = 16 := (by decide); omega)) k_371 k_66 k_368 k_369 k_370 (by decide +kernel) ⟨(Nat.le_of_ble_eq_true rfl), (Nat.le_of_ble_eq_true rfl)⟩ rfl (Nat.le_of_ble_eq_true rfl) ⟨(Nat.le_of_ble_eq_true rfl), (Nat.le_of_ble_eq_true rfl)⟩ dX4_readWord_54 (fun v g_16 H locs hp hT => ?_)
  obtain ⟨r_17, rfl, eg, f_18, f_19⟩ := hp
  rw [eg] at hT
  clear eg
  refine W.eq (g2 := F0 m 57 ls [.int r_17, .int r_10]) rfl ?_
  have qc_22 : (16 : Int32).toInt = 16 := (by decide)
  have hch_r_17 : r_17 = 103 := f_19.trans (by decide)
  subst hch_r_17
  refine W.eq (g2 := F0 m 57 ls [.int 103, .int r_10]) rfl ?_
  refine lv_icmp_ne (tgt := 66) hx hb dX4_readWord_57 (by decide) (fun c_23 => ?_) (fun c_23 => ?_)
  · have c_23' : r_10.toInt ≠ 103 := i_ne c_23 rfl (by decide)
    have hqw_ : qj (txb ct sz.toInt) pl.toInt 4 = 0 := wp4_0 (by omega)
    refine lv_iload hx hb dX4_readWord_66 (lv_at hl 0 rfl) ?_
    refine lv_iload hx hb dX4_readWord_68 (lv_at hl 1 rfl) ?_
    refine lv_icmp_ne (tgt := 86) hx hb dX4_readWord_70 (by decide) (fun c_ => ?_) (fun c_ => absurd c_ (by decide))
    refine lv_iload_n hx hb dX4_readWord_86 rfl (lv_at hl 4 rfl) ?_
    refine lv_iload hx hb dX4_readWord_87 (lv_at hl 0 rfl) ?_
    refine t_max hB k_408 k_241 k_63 k_242 hl.1 (Nat.le_of_ble_eq_true rfl) (Nat.le_of_ble_eq_true rfl) (Nat.le_of_ble_eq_true rfl) (Nat.le_of_ble_eq_true rfl) rfl dX4_readWord_89 ?_
    refine lv_topi (fun z_24 ez_24 => ?_)
    have e_z_24 := i_max (a := fu.toInt) (b := 0) ez_24 rfl (by decide)
    refine lv_istore_n (lv' := [(1, .int z_24), (5, .int 0), (4, .int 4), (3, .int 16), (2, .int 4), (0, .ref h)]) hx hb dX4_readWord_92 rfl hl (by decide) rfl (fun ls hl => ?_)
    refine lv_iinc (v := 5) (lv' := [(2, .int 5), (1, .int z_24), (5, .int 0), (4, .int 4), (3, .int 16), (0, .ref h)]) hx hb dX4_readWord_93 hl (k := 4) rfl (by decide) (by decide) rfl (fun ls hl => ?_)
    refine lv_goto (tgt := 4) hx hb dX4_readWord_96 (by decide) ?_
    exact lt_s_readWord_w5 l D cI cZ cS cR N0 g h pl sz ba ct r_h r_ba n_ba kpl ksz kba l_pl u_pl l_sz u_sz hc_0 hB hr   g1 z_24 H locs ls hT hI hE hM (by omega) (by omega) kp0 hc (fw_st (k := 4) hfu hqw_ (by omega)) hn0 hn1 hn2 hn3 (fun h_ => absurd (hqw_.symm.trans h_) (by decide)) (lv_sub hl [0, 1, 5] rfl)
  · have c_23' : r_10.toInt = 103 := i_eq c_23 rfl (by decide)
    refine lv_iinc (v := 1) (lv' := [(5, .int 1), (4, .int 4), (3, .int 16), (2, .int 4), (1, .int fu), (0, .ref h)]) hx hb dX4_readWord_60 hl (k := 0) rfl (by decide) (by decide) rfl (fun ls hl => ?_)
    refine lv_goto (tgt := 30) hx hb dX4_readWord_63 (by decide) ?_
    refine lv_iload hx hb dX4_readWord_30 (lv_at hl 0 rfl) ?_
    refine lv_iload hx hb dX4_readWord_32 (lv_at hl 1 rfl) ?_
    refine lv_icmp_ge (tgt := 66) hx hb dX4_readWord_34 (by decide) (fun c_ => absurd c_ (by decide)) (fun c_ => ?_)
    refine lv_aload_n hx hb dX4_readWord_37 rfl (lv_at hl 5 rfl) ?_
    refine lv_aload_n hx hb dX4_readWord_38 rfl (lv_at hl 5 rfl) ?_
    refine t_get (ci := 4) (v := .int pl) hB hT (ro_ci r_1 rfl) rfl 3 (by decide) k_91 kp0 dX4_readWord_39 ?_
    refine lv_iload hx hb dX4_readWord_42 (lv_at hl 0 rfl) ?_
    refine lv_iadd hx hb dX4_readWord_44 ?_
    refine lv_topi (fun z_25 ez_25 => ?_)
    have e_z_25 : z_25.toInt = pl.toInt + 1 := i_add ez_25 rfl (by decide) (by omega) (by omega)
    refine t_callV (n := 1) (As := [.int z_25]) (rest := []) (ci := 4) hB hT hl.1 (s_byteAt l D cI cZ cS cR N0 g1 hI h z_25 sz ba ct r_1 r_2 n_3 kn_4 kn_5 (by omega) (by omega) hc) (ro_ci r_1 rfl) rfl k_366 k_58 k_363 k_365 k_3 (by decide +kernel) ⟨(Nat.le_of_ble_eq_true rfl), (Nat.le_of_ble_eq_true rfl)⟩ rfl (Nat.le_of_ble_eq_true rfl) ⟨(Nat.le_of_ble_eq_true rfl), (Nat.le_of_ble_eq_true rfl)⟩ dX4_readWord_45 (fun v g_26 H locs hp hT => ?_)
    obtain ⟨r_27, rfl, eg, f_28, f_29, f_30⟩ := hp
    rw [eg] at hT
    clear eg
    refine W.eq (g2 := F0 m 48 ls [.int r_27]) rfl ?_
    rw [show z_25.toInt = pl.toInt + 1 by omega] at f_28
    have f_28' := f_30
    refine va_ldcS hx hb hB.2.2.2.1 (ux_r hB) dX4_readWord_48 ?_
    refine lv_iload_n hx hb dX4_readWord_50 rfl (lv_at hl 2 rfl) ?_
    refine lv_iload hx hb dX4_readWord_51 (lv_at hl 0 rfl) ?_
    refine lv_iadd hx hb dX4_readWord_53 ?_
    refine x_ev (y := 17) (by decide) ?_
    refine t_callT (n := 1) (As := [.int 17]) (rest := [.int r_27]) hB hT hl.1 (u_charAt l D cI cZ cS cR N0 g1 hI 17 (by have q0 : (17 : Int32).toInt = 17 := (by decide); omega) (by have q0 : (17 : Int32).toInt = 17 := (by decide); omega)) k_371 k_66 k_368 k_369 k_370 (by decide +kernel) ⟨(Nat.le_of_ble_eq_true rfl), (Nat.le_of_ble_eq_true rfl)⟩ rfl (Nat.le_of_ble_eq_true rfl) ⟨(Nat.le_of_ble_eq_true rfl), (Nat.le_of_ble_eq_true rfl)⟩ dX4_readWord_54 (fun v g_33 H locs hp hT => ?_)
    obtain ⟨r_34, rfl, eg, f_35, f_36⟩ := hp
    rw [eg] at hT
    clear eg
    refine W.eq (g2 := F0 m 57 ls [.int r_34, .int r_27]) rfl ?_
    have qc_39 : (17 : Int32).toInt = 17 := (by decide)
    have hch_r_34 : r_34 = 101 := f_36.trans (by decide)
    subst hch_r_34
    refine W.eq (g2 := F0 m 57 ls [.int 101, .int r_27]) rfl ?_
    refine lv_icmp_ne (tgt := 66) hx hb dX4_readWord_57 (by decide) (fun c_40 => ?_) (fun c_40 => ?_)
    · have c_40' : r_27.toInt ≠ 101 := i_ne c_40 rfl (by decide)
      have hqw_ : qj (txb ct sz.toInt) pl.toInt 4 = 1 := wp4_1 (by omega) (by omega)
      refine lv_iload hx hb dX4_readWord_66 (lv_at hl 0 rfl) ?_
      refine lv_iload hx hb dX4_readWord_68 (lv_at hl 1 rfl) ?_
      refine lv_icmp_ne (tgt := 86) hx hb dX4_readWord_70 (by decide) (fun c_ => ?_) (fun c_ => absurd c_ (by decide))
      refine lv_iload_n hx hb dX4_readWord_86 rfl (lv_at hl 4 rfl) ?_
      refine lv_iload hx hb dX4_readWord_87 (lv_at hl 0 rfl) ?_
      refine t_max hB k_408 k_241 k_63 k_242 hl.1 (Nat.le_of_ble_eq_true rfl) (Nat.le_of_ble_eq_true rfl) (Nat.le_of_ble_eq_true rfl) (Nat.le_of_ble_eq_true rfl) rfl dX4_readWord_89 ?_
      refine lv_topi (fun z_41 ez_41 => ?_)
      have e_z_41 := i_max (a := fu.toInt) (b := 1) ez_41 rfl (by decide)
      refine lv_istore_n (lv' := [(1, .int z_41), (5, .int 1), (4, .int 4), (3, .int 16), (2, .int 4), (0, .ref h)]) hx hb dX4_readWord_92 rfl hl (by decide) rfl (fun ls hl => ?_)
      refine lv_iinc (v := 5) (lv' := [(2, .int 5), (1, .int z_41), (5, .int 1), (4, .int 4), (3, .int 16), (0, .ref h)]) hx hb dX4_readWord_93 hl (k := 4) rfl (by decide) (by decide) rfl (fun ls hl => ?_)
      refine lv_goto (tgt := 4) hx hb dX4_readWord_96 (by decide) ?_
      exact lt_s_readWord_w5 l D cI cZ cS cR N0 g h pl sz ba ct r_h r_ba n_ba kpl ksz kba l_pl u_pl l_sz u_sz hc_0 hB hr   g1 z_41 H locs ls hT hI hE hM (by omega) (by omega) kp0 hc (fw_st (k := 4) hfu hqw_ (by omega)) hn0 hn1 hn2 hn3 (fun h_ => absurd (hqw_.symm.trans h_) (by decide)) (lv_sub hl [0, 1, 5] rfl)
    · have c_40' : r_27.toInt = 101 := i_eq c_40 rfl (by decide)
      refine lv_iinc (v := 2) (lv' := [(5, .int 2), (4, .int 4), (3, .int 16), (2, .int 4), (1, .int fu), (0, .ref h)]) hx hb dX4_readWord_60 hl (k := 0) rfl (by decide) (by decide) rfl (fun ls hl => ?_)
      refine lv_goto (tgt := 30) hx hb dX4_readWord_63 (by decide) ?_
      refine lv_iload hx hb dX4_readWord_30 (lv_at hl 0 rfl) ?_
      refine lv_iload hx hb dX4_readWord_32 (lv_at hl 1 rfl) ?_
      refine lv_icmp_ge (tgt := 66) hx hb dX4_readWord_34 (by decide) (fun c_ => absurd c_ (by decide)) (fun c_ => ?_)
      refine lv_aload_n hx hb dX4_readWord_37 rfl (lv_at hl 5 rfl) ?_
      refine lv_aload_n hx hb dX4_readWord_38 rfl (lv_at hl 5 rfl) ?_
      refine t_get (ci := 4) (v := .int pl) hB hT (ro_ci r_1 rfl) rfl 3 (by decide) k_91 kp0 dX4_readWord_39 ?_
      refine lv_iload hx hb dX4_readWord_42 (lv_at hl 0 rfl) ?_
      refine lv_iadd hx hb dX4_readWord_44 ?_
      refine lv_topi (fun z_42 ez_42 => ?_)
      have e_z_42 : z_42.toInt = pl.toInt + 2 := i_add ez_42 rfl (by decide) (by omega) (by omega)
      refine t_callV (n := 1) (As := [.int z_42]) (rest := []) (ci := 4) hB hT hl.1 (s_byteAt l D cI cZ cS cR N0 g1 hI h z_42 sz ba ct r_1 r_2 n_3 kn_4 kn_5 (by omega) (by omega) hc) (ro_ci r_1 rfl) rfl k_366 k_58 k_363 k_365 k_3 (by decide +kernel) ⟨(Nat.le_of_ble_eq_true rfl), (Nat.le_of_ble_eq_true rfl)⟩ rfl (Nat.le_of_ble_eq_true rfl) ⟨(Nat.le_of_ble_eq_true rfl), (Nat.le_of_ble_eq_true rfl)⟩ dX4_readWord_45 (fun v g_43 H locs hp hT => ?_)
      obtain ⟨r_44, rfl, eg, f_45, f_46, f_47⟩ := hp
      rw [eg] at hT
      clear eg
      refine W.eq (g2 := F0 m 48 ls [.int r_44]) rfl ?_
      rw [show z_42.toInt = pl.toInt + 2 by omega] at f_45
      have f_45' := f_47
      refine va_ldcS hx hb hB.2.2.2.1 (ux_r hB) dX4_readWord_48 ?_
      refine lv_iload_n hx hb dX4_readWord_50 rfl (lv_at hl 2 rfl) ?_
      refine lv_iload hx hb dX4_readWord_51 (lv_at hl 0 rfl) ?_
      refine lv_iadd hx hb dX4_readWord_53 ?_
      refine x_ev (y := 18) (by decide) ?_
      refine t_callT (n := 1) (As := [.int 18]) (rest := [.int r_44]) hB hT hl.1 (u_charAt l D cI cZ cS cR N0 g1 hI 18 (by have q0 : (18 : Int32).toInt = 18 := (by decide); omega) (by have q0 : (18 : Int32).toInt = 18 := (by decide); omega)) k_371 k_66 k_368 k_369 k_370 (by decide +kernel) ⟨(Nat.le_of_ble_eq_true rfl), (Nat.le_of_ble_eq_true rfl)⟩ rfl (Nat.le_of_ble_eq_true rfl) ⟨(Nat.le_of_ble_eq_true rfl), (Nat.le_of_ble_eq_true rfl)⟩ dX4_readWord_54 (fun v g_50 H locs hp hT => ?_)
      obtain ⟨r_51, rfl, eg, f_52, f_53⟩ := hp
      rw [eg] at hT
      clear eg
      refine W.eq (g2 := F0 m 57 ls [.int r_51, .int r_44]) rfl ?_
      have qc_56 : (18 : Int32).toInt = 18 := (by decide)
      have hch_r_51 : r_51 = 116 := f_53.trans (by decide)
      subst hch_r_51
      refine W.eq (g2 := F0 m 57 ls [.int 116, .int r_44]) rfl ?_
      refine lv_icmp_ne (tgt := 66) hx hb dX4_readWord_57 (by decide) (fun c_57 => ?_) (fun c_57 => ?_)
      · have c_57' : r_44.toInt ≠ 116 := i_ne c_57 rfl (by decide)
        have hqw_ : qj (txb ct sz.toInt) pl.toInt 4 = 2 := wp4_2 (by omega) (by omega) (by omega)
        refine lv_iload hx hb dX4_readWord_66 (lv_at hl 0 rfl) ?_
        refine lv_iload hx hb dX4_readWord_68 (lv_at hl 1 rfl) ?_
        refine lv_icmp_ne (tgt := 86) hx hb dX4_readWord_70 (by decide) (fun c_ => ?_) (fun c_ => absurd c_ (by decide))
        refine lv_iload_n hx hb dX4_readWord_86 rfl (lv_at hl 4 rfl) ?_
        refine lv_iload hx hb dX4_readWord_87 (lv_at hl 0 rfl) ?_
        refine t_max hB k_408 k_241 k_63 k_242 hl.1 (Nat.le_of_ble_eq_true rfl) (Nat.le_of_ble_eq_true rfl) (Nat.le_of_ble_eq_true rfl) (Nat.le_of_ble_eq_true rfl) rfl dX4_readWord_89 ?_
        refine lv_topi (fun z_58 ez_58 => ?_)
        have e_z_58 := i_max (a := fu.toInt) (b := 2) ez_58 rfl (by decide)
        refine lv_istore_n (lv' := [(1, .int z_58), (5, .int 2), (4, .int 4), (3, .int 16), (2, .int 4), (0, .ref h)]) hx hb dX4_readWord_92 rfl hl (by decide) rfl (fun ls hl => ?_)
        refine lv_iinc (v := 5) (lv' := [(2, .int 5), (1, .int z_58), (5, .int 2), (4, .int 4), (3, .int 16), (0, .ref h)]) hx hb dX4_readWord_93 hl (k := 4) rfl (by decide) (by decide) rfl (fun ls hl => ?_)
        refine lv_goto (tgt := 4) hx hb dX4_readWord_96 (by decide) ?_
        exact lt_s_readWord_w5 l D cI cZ cS cR N0 g h pl sz ba ct r_h r_ba n_ba kpl ksz kba l_pl u_pl l_sz u_sz hc_0 hB hr   g1 z_58 H locs ls hT hI hE hM (by omega) (by omega) kp0 hc (fw_st (k := 4) hfu hqw_ (by omega)) hn0 hn1 hn2 hn3 (fun h_ => absurd (hqw_.symm.trans h_) (by decide)) (lv_sub hl [0, 1, 5] rfl)
      · have c_57' : r_44.toInt = 116 := i_eq c_57 rfl (by decide)
        refine lv_iinc (v := 3) (lv' := [(5, .int 3), (4, .int 4), (3, .int 16), (2, .int 4), (1, .int fu), (0, .ref h)]) hx hb dX4_readWord_60 hl (k := 0) rfl (by decide) (by decide) rfl (fun ls hl => ?_)
        refine lv_goto (tgt := 30) hx hb dX4_readWord_63 (by decide) ?_
        refine lv_iload hx hb dX4_readWord_30 (lv_at hl 0 rfl) ?_
        refine lv_iload hx hb dX4_readWord_32 (lv_at hl 1 rfl) ?_
        refine lv_icmp_ge (tgt := 66) hx hb dX4_readWord_34 (by decide) (fun c_ => absurd c_ (by decide)) (fun c_ => ?_)
        refine lv_aload_n hx hb dX4_readWord_37 rfl (lv_at hl 5 rfl) ?_
        refine lv_aload_n hx hb dX4_readWord_38 rfl (lv_at hl 5 rfl) ?_
        refine t_get (ci := 4) (v := .int pl) hB hT (ro_ci r_1 rfl) rfl 3 (by decide) k_91 kp0 dX4_readWord_39 ?_
        refine lv_iload hx hb dX4_readWord_42 (lv_at hl 0 rfl) ?_
        refine lv_iadd hx hb dX4_readWord_44 ?_
        refine lv_topi (fun z_59 ez_59 => ?_)
        have e_z_59 : z_59.toInt = pl.toInt + 3 := i_add ez_59 rfl (by decide) (by omega) (by omega)
        refine t_callV (n := 1) (As := [.int z_59]) (rest := []) (ci := 4) hB hT hl.1 (s_byteAt l D cI cZ cS cR N0 g1 hI h z_59 sz ba ct r_1 r_2 n_3 kn_4 kn_5 (by omega) (by omega) hc) (ro_ci r_1 rfl) rfl k_366 k_58 k_363 k_365 k_3 (by decide +kernel) ⟨(Nat.le_of_ble_eq_true rfl), (Nat.le_of_ble_eq_true rfl)⟩ rfl (Nat.le_of_ble_eq_true rfl) ⟨(Nat.le_of_ble_eq_true rfl), (Nat.le_of_ble_eq_true rfl)⟩ dX4_readWord_45 (fun v g_60 H locs hp hT => ?_)
        obtain ⟨r_61, rfl, eg, f_62, f_63, f_64⟩ := hp
        rw [eg] at hT
        clear eg
        refine W.eq (g2 := F0 m 48 ls [.int r_61]) rfl ?_
        rw [show z_59.toInt = pl.toInt + 3 by omega] at f_62
        have f_62' := f_64
        refine va_ldcS hx hb hB.2.2.2.1 (ux_r hB) dX4_readWord_48 ?_
        refine lv_iload_n hx hb dX4_readWord_50 rfl (lv_at hl 2 rfl) ?_
        refine lv_iload hx hb dX4_readWord_51 (lv_at hl 0 rfl) ?_
        refine lv_iadd hx hb dX4_readWord_53 ?_
        refine x_ev (y := 19) (by decide) ?_
        refine t_callT (n := 1) (As := [.int 19]) (rest := [.int r_61]) hB hT hl.1 (u_charAt l D cI cZ cS cR N0 g1 hI 19 (by have q0 : (19 : Int32).toInt = 19 := (by decide); omega) (by have q0 : (19 : Int32).toInt = 19 := (by decide); omega)) k_371 k_66 k_368 k_369 k_370 (by decide +kernel) ⟨(Nat.le_of_ble_eq_true rfl), (Nat.le_of_ble_eq_true rfl)⟩ rfl (Nat.le_of_ble_eq_true rfl) ⟨(Nat.le_of_ble_eq_true rfl), (Nat.le_of_ble_eq_true rfl)⟩ dX4_readWord_54 (fun v g_67 H locs hp hT => ?_)
        obtain ⟨r_68, rfl, eg, f_69, f_70⟩ := hp
        rw [eg] at hT
        clear eg
        refine W.eq (g2 := F0 m 57 ls [.int r_68, .int r_61]) rfl ?_
        have qc_73 : (19 : Int32).toInt = 19 := (by decide)
        have hch_r_68 : r_68 = 32 := f_70.trans (by decide)
        subst hch_r_68
        refine W.eq (g2 := F0 m 57 ls [.int 32, .int r_61]) rfl ?_
        refine lv_icmp_ne (tgt := 66) hx hb dX4_readWord_57 (by decide) (fun c_74 => ?_) (fun c_74 => ?_)
        · have c_74' : r_61.toInt ≠ 32 := i_ne c_74 rfl (by decide)
          have hqw_ : qj (txb ct sz.toInt) pl.toInt 4 = 3 := wp4_3 (by omega) (by omega) (by omega) (by omega)
          refine lv_iload hx hb dX4_readWord_66 (lv_at hl 0 rfl) ?_
          refine lv_iload hx hb dX4_readWord_68 (lv_at hl 1 rfl) ?_
          refine lv_icmp_ne (tgt := 86) hx hb dX4_readWord_70 (by decide) (fun c_ => ?_) (fun c_ => absurd c_ (by decide))
          refine lv_iload_n hx hb dX4_readWord_86 rfl (lv_at hl 4 rfl) ?_
          refine lv_iload hx hb dX4_readWord_87 (lv_at hl 0 rfl) ?_
          refine t_max hB k_408 k_241 k_63 k_242 hl.1 (Nat.le_of_ble_eq_true rfl) (Nat.le_of_ble_eq_true rfl) (Nat.le_of_ble_eq_true rfl) (Nat.le_of_ble_eq_true rfl) rfl dX4_readWord_89 ?_
          refine lv_topi (fun z_75 ez_75 => ?_)
          have e_z_75 := i_max (a := fu.toInt) (b := 3) ez_75 rfl (by decide)
          refine lv_istore_n (lv' := [(1, .int z_75), (5, .int 3), (4, .int 4), (3, .int 16), (2, .int 4), (0, .ref h)]) hx hb dX4_readWord_92 rfl hl (by decide) rfl (fun ls hl => ?_)
          refine lv_iinc (v := 5) (lv' := [(2, .int 5), (1, .int z_75), (5, .int 3), (4, .int 4), (3, .int 16), (0, .ref h)]) hx hb dX4_readWord_93 hl (k := 4) rfl (by decide) (by decide) rfl (fun ls hl => ?_)
          refine lv_goto (tgt := 4) hx hb dX4_readWord_96 (by decide) ?_
          exact lt_s_readWord_w5 l D cI cZ cS cR N0 g h pl sz ba ct r_h r_ba n_ba kpl ksz kba l_pl u_pl l_sz u_sz hc_0 hB hr   g1 z_75 H locs ls hT hI hE hM (by omega) (by omega) kp0 hc (fw_st (k := 4) hfu hqw_ (by omega)) hn0 hn1 hn2 hn3 (fun h_ => absurd (hqw_.symm.trans h_) (by decide)) (lv_sub hl [0, 1, 5] rfl)
        · have c_74' : r_61.toInt = 32 := i_eq c_74 rfl (by decide)
          refine lv_iinc (v := 4) (lv' := [(5, .int 4), (4, .int 4), (3, .int 16), (2, .int 4), (1, .int fu), (0, .ref h)]) hx hb dX4_readWord_60 hl (k := 0) rfl (by decide) (by decide) rfl (fun ls hl => ?_)
          refine lv_goto (tgt := 30) hx hb dX4_readWord_63 (by decide) ?_
          refine lv_iload hx hb dX4_readWord_30 (lv_at hl 0 rfl) ?_
          refine lv_iload hx hb dX4_readWord_32 (lv_at hl 1 rfl) ?_
          refine lv_icmp_ge (tgt := 66) hx hb dX4_readWord_34 (by decide) (fun c_ => ?_) (fun c_ => absurd (by decide) c_)
          have hqw_ : qj (txb ct sz.toInt) pl.toInt 4 = 4 := wp4_4 (by omega) (by omega) (by omega) (by omega)
          refine lv_iload hx hb dX4_readWord_66 (lv_at hl 0 rfl) ?_
          refine lv_iload hx hb dX4_readWord_68 (lv_at hl 1 rfl) ?_
          refine lv_icmp_ne (tgt := 86) hx hb dX4_readWord_70 (by decide) (fun c_ => absurd (by decide) c_) (fun c_ => ?_)
          refine lv_aload_n hx hb dX4_readWord_73 rfl (lv_at hl 5 rfl) ?_
          refine lv_dup hx hb dX4_readWord_74 rfl ?_
          refine t_get (ci := 4) (v := .int pl) hB hT (ro_ci r_1 rfl) rfl 3 (by decide) k_91 kp0 dX4_readWord_75 ?_
          refine lv_iload hx hb dX4_readWord_78 (lv_at hl 1 rfl) ?_
          refine lv_iadd hx hb dX4_readWord_80 ?_
          refine lv_topi (fun z_76 ez_76 => ?_)
          have e_z_76 : z_76.toInt = pl.toInt + 4 := i_add ez_76 rfl (by decide) (by omega) (by omega)
          refine t_put0 (ci := 4) (v := .int z_76) hB hT (ro_ci r_1 rfl) (ro_n0 r_1 (by decide)) rfl 3 (by decide) k_91 (Or.inl rfl) rfl rfl dX4_readWord_81 (fun H locs hT => ?_)
          have hI : Inv (sF g1 h 3 (.int z_76)) := hI.sF (p_5_3 r_1 (⟨_, rfl⟩))
          have hM : Sm md_s_readWord g (sF g1 h 3 (.int z_76)) := hM.tr hE (Sm_sF (by rw [r_1]; rfl))
          have hE : Ex g (sF g1 h 3 (.int z_76)) := hE
          have hc : (sF g1 h 3 (.int z_76)).2.2.2.1 ba = ct := hc
          refine lv_iload_n hx hb dX4_readWord_84 rfl (lv_at hl 3 rfl) ?_
          have hv_ := wo_4 (T := (txb ct sz.toInt)) (p := pl.toInt) ⟨by omega, by omega, by omega, by omega⟩
          exact t_iret hB hr hT (Nat.le_of_ble_eq_true rfl) (Nat.le_of_ble_eq_true rfl) dX4_readWord_85 ⟨4, z_76, rfl, hI, hE, hM, (Or.inr ⟨by decide, by decide, hv_.1.trans (by decide), (by have q_ := hv_.2; omega), by omega, by omega⟩), sF_eq⟩
set_option maxHeartbeats 4000000 in
set_option maxRecDepth 100000 in
theorem lt_s_readWord_w3 (l : Launch) (D : va_G) (cI cZ cS cR : ClassId) (N0 : NT) (g : GS) (h : Nat) (pl : Int32) (sz : Int32) (ba : Nat) (ct : Nat → Int32) (r_h : g.1 h = 5) (r_ba : g.1 ba = 67) (n_ba : g.2.2.1 ba = 100) (kpl : g.2.1 h 3 = .int pl) (ksz : g.2.1 h 1 = .int sz) (kba : g.2.1 h 0 = .ref ba) (l_pl : 0 ≤ pl.toInt) (u_pl : pl.toInt ≤ 100) (l_sz : 0 ≤ sz.toInt) (u_sz : sz.toInt ≤ 100) (hc_0 : g.2.2.2.1 ba = ct) {p : Program} {e : Env} {s : State} {m : MethodId} {args : Array Value} {below : List Frame} {meth : Method} {c : Code} (hB : Tz p s m meth c args cX4_readWord 6 RX4 D cI cZ cS cR N0) (hr : meth.sig.returnType = (some .int))    : ∀ (g1 : GS) (fu : Int32)  (H : Heap) (locs : List Loc) (ls : Array Slot), Tv D cI cZ cS cR N0 s.heap H locs g1 → Inv g1 → Ex g g1 → Sm md_s_readWord g g1 → 0 ≤ fu.toInt → fu.toInt ≤ 4 → g1.2.1 h 3 = .int pl → (g1.2.2.2.1 ba = ct) → (fu.toInt = fw (txb ct sz.toInt) pl.toInt 3) → (qj (txb ct sz.toInt) pl.toInt 0 ≠ 4) → (qj (txb ct sz.toInt) pl.toInt 1 ≠ 4) → (qj (txb ct sz.toInt) pl.toInt 2 ≠ 4) → lv_has ls 6 [(2, .int 3), (1, .int fu), (0, .ref h)] → W p l e (rmx 4 0 0) s m args below meth c H locs 0 0 (MQ below (tQ D cI cZ cS cR N0 (fun v g' => ∃ (r : Int32) (pl2 : Int32), v = some (.int r) ∧ Inv g' ∧ Ex g g' ∧ Sm md_s_readWord g g' ∧ ((r = -1 ∧ wdr (txb ct sz.toInt) pl.toInt = -1 ∧ pl2.toInt = wdp (txb ct sz.toInt) pl.toInt ∧ 0 ≤ pl2.toInt ∧ pl2.toInt ≤ 104) ∨ (0 ≤ r.toInt ∧ r.toInt ≤ 7 ∧ wdr (txb ct sz.toInt) pl.toInt = r.toInt ∧ pl2.toInt = wdp (txb ct sz.toInt) pl.toInt ∧ pl2.toInt ≤ sz.toInt ∧ 0 ≤ pl2.toInt)) ∧ (g'.2.1 h 3 = .int pl2))) args s 0 0 (fun q => N0.1 ≤ q)) (F0 m 4 ls []) := by
  have hx := hB.1
  have hb := hB.2.1
  intro g1 fu H locs ls hT hI hE hM l_fu u_fu kp0 hc hfu hn0 hn1 hn2 hl
  have r_1 : g1.1 h = 5 := Ex.r hE r_h (by decide)
  have r_2 : g1.1 ba = 67 := Ex.r hE r_ba (by decide)
  have n_3 : g1.2.2.1 ba = 100 := Ex.n hE r_ba (by decide) n_ba
  have kn_4 : g1.2.1 h 1 = .int sz := Sm.v hM r_h (by decide) rfl ksz
  have kn_5 : g1.2.1 h 0 = .ref ba := Sm.v hM r_h (by decide) rfl kba
  refine lv_iload_n hx hb dX4_readWord_4 rfl (lv_at hl 0 rfl) ?_
  refine lv_bipush (v := 8) hx hb dX4_readWord_5 (by decide) ?_
  refine lv_icmp_ge (tgt := 99) hx hb dX4_readWord_7 (by decide) (fun c_ => absurd c_ (by decide)) (fun c_ => ?_)
  refine va_gets hx hb (ux_wb hB) hT.2 hB.2.2.2.1 (hB.2.2.2.2.1 _ k_361) (fun _ h => h) dX4_readWord_10 ?_
  refine lv_iload_n hx hb dX4_readWord_13 rfl (lv_at hl 0 rfl) ?_
  refine va_ti (v := .int 12) hx hb (ux_tab hB) hT.2 (by unfold vp_in; decide) rfl dX4_readWord_14 ?_
  refine lv_istore_n (lv' := [(3, .int 12), (2, .int 3), (1, .int fu), (0, .ref h)]) hx hb dX4_readWord_15 rfl hl (by decide) rfl (fun ls hl => ?_)
  refine va_gets hx hb (ux_wb hB) hT.2 hB.2.2.2.1 (hB.2.2.2.2.1 _ k_361) (fun _ h => h) dX4_readWord_16 ?_
  refine lv_iload_n hx hb dX4_readWord_19 rfl (lv_at hl 1 rfl) ?_
  refine lv_iconst (v := 1) hx hb dX4_readWord_20 (by decide) ?_
  refine lv_iadd hx hb dX4_readWord_21 ?_
  refine x_ev (y := 4) (by decide) ?_
  refine va_ti (v := .int 16) hx hb (ux_tab hB) hT.2 (by unfold vp_in; decide) rfl dX4_readWord_22 ?_
  refine lv_iload_n hx hb dX4_readWord_23 rfl (lv_at hl 0 rfl) ?_
  refine lv_isub hx hb dX4_readWord_24 ?_
  refine x_ev (y := 4) (by decide) ?_
  refine lv_istore (lv' := [(4, .int 4), (3, .int 12), (2, .int 3), (1, .int fu), (0, .ref h)]) hx hb dX4_readWord_25 hl (by decide) rfl (fun ls hl => ?_)
  refine lv_iconst (v := 0) hx hb dX4_readWord_27 (by decide) ?_
  refine lv_istore (lv' := [(5, .int 0), (4, .int 4), (3, .int 12), (2, .int 3), (1, .int fu), (0, .ref h)]) hx hb dX4_readWord_28 hl (by decide) rfl (fun ls hl => ?_)
  refine lv_iload hx hb dX4_readWord_30 (lv_at hl 0 rfl) ?_
  refine lv_iload hx hb dX4_readWord_32 (lv_at hl 1 rfl) ?_
  refine lv_icmp_ge (tgt := 66) hx hb dX4_readWord_34 (by decide) (fun c_ => absurd c_ (by decide)) (fun c_ => ?_)
  refine lv_aload_n hx hb dX4_readWord_37 rfl (lv_at hl 5 rfl) ?_
  refine lv_aload_n hx hb dX4_readWord_38 rfl (lv_at hl 5 rfl) ?_
  refine t_get (ci := 4) (v := .int pl) hB hT (ro_ci r_1 rfl) rfl 3 (by decide) k_91 kp0 dX4_readWord_39 ?_
  refine lv_iload hx hb dX4_readWord_42 (lv_at hl 0 rfl) ?_
  refine lv_iadd hx hb dX4_readWord_44 ?_
  refine lv_topi (fun z_8 ez_8 => ?_)
  have e_z_8 : z_8.toInt = pl.toInt + 0 := i_add ez_8 rfl (by decide) (by omega) (by omega)
  refine t_callV (n := 1) (As := [.int z_8]) (rest := []) (ci := 4) hB hT hl.1 (s_byteAt l D cI cZ cS cR N0 g1 hI h z_8 sz ba ct r_1 r_2 n_3 kn_4 kn_5 (by omega) (by omega) hc) (ro_ci r_1 rfl) rfl k_366 k_58 k_363 k_365 k_3 (by decide +kernel) ⟨(Nat.le_of_ble_eq_true rfl), (Nat.le_of_ble_eq_true rfl)⟩ rfl (Nat.le_of_ble_eq_true rfl) ⟨(Nat.le_of_ble_eq_true rfl), (Nat.le_of_ble_eq_true rfl)⟩ dX4_readWord_45 (fun v g_9 H locs hp hT => ?_)
  obtain ⟨r_10, rfl, eg, f_11, f_12, f_13⟩ := hp
  rw [eg] at hT
  clear eg
  refine W.eq (g2 := F0 m 48 ls [.int r_10]) rfl ?_
  rw [show z_8.toInt = pl.toInt by omega] at f_11
  have f_11' := f_13
  refine va_ldcS hx hb hB.2.2.2.1 (ux_r hB) dX4_readWord_48 ?_
  refine lv_iload_n hx hb dX4_readWord_50 rfl (lv_at hl 2 rfl) ?_
  refine lv_iload hx hb dX4_readWord_51 (lv_at hl 0 rfl) ?_
  refine lv_iadd hx hb dX4_readWord_53 ?_
  refine x_ev (y := 12) (by decide) ?_
  refine t_callT (n := 1) (As := [.int 12]) (rest := [.int r_10]) hB hT hl.1 (u_charAt l D cI cZ cS cR N0 g1 hI 12 (by have q0 : (12 : Int32).toInt = 12 := (by decide); omega) (by have q0 : (12 : Int32).toInt = 12 := (by decide); omega)) k_371 k_66 k_368 k_369 k_370 (by decide +kernel) ⟨(Nat.le_of_ble_eq_true rfl), (Nat.le_of_ble_eq_true rfl)⟩ rfl (Nat.le_of_ble_eq_true rfl) ⟨(Nat.le_of_ble_eq_true rfl), (Nat.le_of_ble_eq_true rfl)⟩ dX4_readWord_54 (fun v g_16 H locs hp hT => ?_)
  obtain ⟨r_17, rfl, eg, f_18, f_19⟩ := hp
  rw [eg] at hT
  clear eg
  refine W.eq (g2 := F0 m 57 ls [.int r_17, .int r_10]) rfl ?_
  have qc_22 : (12 : Int32).toInt = 12 := (by decide)
  have hch_r_17 : r_17 = 110 := f_19.trans (by decide)
  subst hch_r_17
  refine W.eq (g2 := F0 m 57 ls [.int 110, .int r_10]) rfl ?_
  refine lv_icmp_ne (tgt := 66) hx hb dX4_readWord_57 (by decide) (fun c_23 => ?_) (fun c_23 => ?_)
  · have c_23' : r_10.toInt ≠ 110 := i_ne c_23 rfl (by decide)
    have hqw_ : qj (txb ct sz.toInt) pl.toInt 3 = 0 := wp4_0 (by omega)
    refine lv_iload hx hb dX4_readWord_66 (lv_at hl 0 rfl) ?_
    refine lv_iload hx hb dX4_readWord_68 (lv_at hl 1 rfl) ?_
    refine lv_icmp_ne (tgt := 86) hx hb dX4_readWord_70 (by decide) (fun c_ => ?_) (fun c_ => absurd c_ (by decide))
    refine lv_iload_n hx hb dX4_readWord_86 rfl (lv_at hl 4 rfl) ?_
    refine lv_iload hx hb dX4_readWord_87 (lv_at hl 0 rfl) ?_
    refine t_max hB k_408 k_241 k_63 k_242 hl.1 (Nat.le_of_ble_eq_true rfl) (Nat.le_of_ble_eq_true rfl) (Nat.le_of_ble_eq_true rfl) (Nat.le_of_ble_eq_true rfl) rfl dX4_readWord_89 ?_
    refine lv_topi (fun z_24 ez_24 => ?_)
    have e_z_24 := i_max (a := fu.toInt) (b := 0) ez_24 rfl (by decide)
    refine lv_istore_n (lv' := [(1, .int z_24), (5, .int 0), (4, .int 4), (3, .int 12), (2, .int 3), (0, .ref h)]) hx hb dX4_readWord_92 rfl hl (by decide) rfl (fun ls hl => ?_)
    refine lv_iinc (v := 4) (lv' := [(2, .int 4), (1, .int z_24), (5, .int 0), (4, .int 4), (3, .int 12), (0, .ref h)]) hx hb dX4_readWord_93 hl (k := 4) rfl (by decide) (by decide) rfl (fun ls hl => ?_)
    refine lv_goto (tgt := 4) hx hb dX4_readWord_96 (by decide) ?_
    exact lt_s_readWord_w4 l D cI cZ cS cR N0 g h pl sz ba ct r_h r_ba n_ba kpl ksz kba l_pl u_pl l_sz u_sz hc_0 hB hr   g1 z_24 H locs ls hT hI hE hM (by omega) (by omega) kp0 hc (fw_st (k := 3) hfu hqw_ (by omega)) hn0 hn1 hn2 (fun h_ => absurd (hqw_.symm.trans h_) (by decide)) (lv_sub hl [0, 1, 5] rfl)
  · have c_23' : r_10.toInt = 110 := i_eq c_23 rfl (by decide)
    refine lv_iinc (v := 1) (lv' := [(5, .int 1), (4, .int 4), (3, .int 12), (2, .int 3), (1, .int fu), (0, .ref h)]) hx hb dX4_readWord_60 hl (k := 0) rfl (by decide) (by decide) rfl (fun ls hl => ?_)
    refine lv_goto (tgt := 30) hx hb dX4_readWord_63 (by decide) ?_
    refine lv_iload hx hb dX4_readWord_30 (lv_at hl 0 rfl) ?_
    refine lv_iload hx hb dX4_readWord_32 (lv_at hl 1 rfl) ?_
    refine lv_icmp_ge (tgt := 66) hx hb dX4_readWord_34 (by decide) (fun c_ => absurd c_ (by decide)) (fun c_ => ?_)
    refine lv_aload_n hx hb dX4_readWord_37 rfl (lv_at hl 5 rfl) ?_
    refine lv_aload_n hx hb dX4_readWord_38 rfl (lv_at hl 5 rfl) ?_
    refine t_get (ci := 4) (v := .int pl) hB hT (ro_ci r_1 rfl) rfl 3 (by decide) k_91 kp0 dX4_readWord_39 ?_
    refine lv_iload hx hb dX4_readWord_42 (lv_at hl 0 rfl) ?_
    refine lv_iadd hx hb dX4_readWord_44 ?_
    refine lv_topi (fun z_25 ez_25 => ?_)
    have e_z_25 : z_25.toInt = pl.toInt + 1 := i_add ez_25 rfl (by decide) (by omega) (by omega)
    refine t_callV (n := 1) (As := [.int z_25]) (rest := []) (ci := 4) hB hT hl.1 (s_byteAt l D cI cZ cS cR N0 g1 hI h z_25 sz ba ct r_1 r_2 n_3 kn_4 kn_5 (by omega) (by omega) hc) (ro_ci r_1 rfl) rfl k_366 k_58 k_363 k_365 k_3 (by decide +kernel) ⟨(Nat.le_of_ble_eq_true rfl), (Nat.le_of_ble_eq_true rfl)⟩ rfl (Nat.le_of_ble_eq_true rfl) ⟨(Nat.le_of_ble_eq_true rfl), (Nat.le_of_ble_eq_true rfl)⟩ dX4_readWord_45 (fun v g_26 H locs hp hT => ?_)
    obtain ⟨r_27, rfl, eg, f_28, f_29, f_30⟩ := hp
    rw [eg] at hT
    clear eg
    refine W.eq (g2 := F0 m 48 ls [.int r_27]) rfl ?_
    rw [show z_25.toInt = pl.toInt + 1 by omega] at f_28
    have f_28' := f_30
    refine va_ldcS hx hb hB.2.2.2.1 (ux_r hB) dX4_readWord_48 ?_
    refine lv_iload_n hx hb dX4_readWord_50 rfl (lv_at hl 2 rfl) ?_
    refine lv_iload hx hb dX4_readWord_51 (lv_at hl 0 rfl) ?_
    refine lv_iadd hx hb dX4_readWord_53 ?_
    refine x_ev (y := 13) (by decide) ?_
    refine t_callT (n := 1) (As := [.int 13]) (rest := [.int r_27]) hB hT hl.1 (u_charAt l D cI cZ cS cR N0 g1 hI 13 (by have q0 : (13 : Int32).toInt = 13 := (by decide); omega) (by have q0 : (13 : Int32).toInt = 13 := (by decide); omega)) k_371 k_66 k_368 k_369 k_370 (by decide +kernel) ⟨(Nat.le_of_ble_eq_true rfl), (Nat.le_of_ble_eq_true rfl)⟩ rfl (Nat.le_of_ble_eq_true rfl) ⟨(Nat.le_of_ble_eq_true rfl), (Nat.le_of_ble_eq_true rfl)⟩ dX4_readWord_54 (fun v g_33 H locs hp hT => ?_)
    obtain ⟨r_34, rfl, eg, f_35, f_36⟩ := hp
    rw [eg] at hT
    clear eg
    refine W.eq (g2 := F0 m 57 ls [.int r_34, .int r_27]) rfl ?_
    have qc_39 : (13 : Int32).toInt = 13 := (by decide)
    have hch_r_34 : r_34 = 101 := f_36.trans (by decide)
    subst hch_r_34
    refine W.eq (g2 := F0 m 57 ls [.int 101, .int r_27]) rfl ?_
    refine lv_icmp_ne (tgt := 66) hx hb dX4_readWord_57 (by decide) (fun c_40 => ?_) (fun c_40 => ?_)
    · have c_40' : r_27.toInt ≠ 101 := i_ne c_40 rfl (by decide)
      have hqw_ : qj (txb ct sz.toInt) pl.toInt 3 = 1 := wp4_1 (by omega) (by omega)
      refine lv_iload hx hb dX4_readWord_66 (lv_at hl 0 rfl) ?_
      refine lv_iload hx hb dX4_readWord_68 (lv_at hl 1 rfl) ?_
      refine lv_icmp_ne (tgt := 86) hx hb dX4_readWord_70 (by decide) (fun c_ => ?_) (fun c_ => absurd c_ (by decide))
      refine lv_iload_n hx hb dX4_readWord_86 rfl (lv_at hl 4 rfl) ?_
      refine lv_iload hx hb dX4_readWord_87 (lv_at hl 0 rfl) ?_
      refine t_max hB k_408 k_241 k_63 k_242 hl.1 (Nat.le_of_ble_eq_true rfl) (Nat.le_of_ble_eq_true rfl) (Nat.le_of_ble_eq_true rfl) (Nat.le_of_ble_eq_true rfl) rfl dX4_readWord_89 ?_
      refine lv_topi (fun z_41 ez_41 => ?_)
      have e_z_41 := i_max (a := fu.toInt) (b := 1) ez_41 rfl (by decide)
      refine lv_istore_n (lv' := [(1, .int z_41), (5, .int 1), (4, .int 4), (3, .int 12), (2, .int 3), (0, .ref h)]) hx hb dX4_readWord_92 rfl hl (by decide) rfl (fun ls hl => ?_)
      refine lv_iinc (v := 4) (lv' := [(2, .int 4), (1, .int z_41), (5, .int 1), (4, .int 4), (3, .int 12), (0, .ref h)]) hx hb dX4_readWord_93 hl (k := 4) rfl (by decide) (by decide) rfl (fun ls hl => ?_)
      refine lv_goto (tgt := 4) hx hb dX4_readWord_96 (by decide) ?_
      exact lt_s_readWord_w4 l D cI cZ cS cR N0 g h pl sz ba ct r_h r_ba n_ba kpl ksz kba l_pl u_pl l_sz u_sz hc_0 hB hr   g1 z_41 H locs ls hT hI hE hM (by omega) (by omega) kp0 hc (fw_st (k := 3) hfu hqw_ (by omega)) hn0 hn1 hn2 (fun h_ => absurd (hqw_.symm.trans h_) (by decide)) (lv_sub hl [0, 1, 5] rfl)
    · have c_40' : r_27.toInt = 101 := i_eq c_40 rfl (by decide)
      refine lv_iinc (v := 2) (lv' := [(5, .int 2), (4, .int 4), (3, .int 12), (2, .int 3), (1, .int fu), (0, .ref h)]) hx hb dX4_readWord_60 hl (k := 0) rfl (by decide) (by decide) rfl (fun ls hl => ?_)
      refine lv_goto (tgt := 30) hx hb dX4_readWord_63 (by decide) ?_
      refine lv_iload hx hb dX4_readWord_30 (lv_at hl 0 rfl) ?_
      refine lv_iload hx hb dX4_readWord_32 (lv_at hl 1 rfl) ?_
      refine lv_icmp_ge (tgt := 66) hx hb dX4_readWord_34 (by decide) (fun c_ => absurd c_ (by decide)) (fun c_ => ?_)
      refine lv_aload_n hx hb dX4_readWord_37 rfl (lv_at hl 5 rfl) ?_
      refine lv_aload_n hx hb dX4_readWord_38 rfl (lv_at hl 5 rfl) ?_
      refine t_get (ci := 4) (v := .int pl) hB hT (ro_ci r_1 rfl) rfl 3 (by decide) k_91 kp0 dX4_readWord_39 ?_
      refine lv_iload hx hb dX4_readWord_42 (lv_at hl 0 rfl) ?_
      refine lv_iadd hx hb dX4_readWord_44 ?_
      refine lv_topi (fun z_42 ez_42 => ?_)
      have e_z_42 : z_42.toInt = pl.toInt + 2 := i_add ez_42 rfl (by decide) (by omega) (by omega)
      refine t_callV (n := 1) (As := [.int z_42]) (rest := []) (ci := 4) hB hT hl.1 (s_byteAt l D cI cZ cS cR N0 g1 hI h z_42 sz ba ct r_1 r_2 n_3 kn_4 kn_5 (by omega) (by omega) hc) (ro_ci r_1 rfl) rfl k_366 k_58 k_363 k_365 k_3 (by decide +kernel) ⟨(Nat.le_of_ble_eq_true rfl), (Nat.le_of_ble_eq_true rfl)⟩ rfl (Nat.le_of_ble_eq_true rfl) ⟨(Nat.le_of_ble_eq_true rfl), (Nat.le_of_ble_eq_true rfl)⟩ dX4_readWord_45 (fun v g_43 H locs hp hT => ?_)
      obtain ⟨r_44, rfl, eg, f_45, f_46, f_47⟩ := hp
      rw [eg] at hT
      clear eg
      refine W.eq (g2 := F0 m 48 ls [.int r_44]) rfl ?_
      rw [show z_42.toInt = pl.toInt + 2 by omega] at f_45
      have f_45' := f_47
      refine va_ldcS hx hb hB.2.2.2.1 (ux_r hB) dX4_readWord_48 ?_
      refine lv_iload_n hx hb dX4_readWord_50 rfl (lv_at hl 2 rfl) ?_
      refine lv_iload hx hb dX4_readWord_51 (lv_at hl 0 rfl) ?_
      refine lv_iadd hx hb dX4_readWord_53 ?_
      refine x_ev (y := 14) (by decide) ?_
      refine t_callT (n := 1) (As := [.int 14]) (rest := [.int r_44]) hB hT hl.1 (u_charAt l D cI cZ cS cR N0 g1 hI 14 (by have q0 : (14 : Int32).toInt = 14 := (by decide); omega) (by have q0 : (14 : Int32).toInt = 14 := (by decide); omega)) k_371 k_66 k_368 k_369 k_370 (by decide +kernel) ⟨(Nat.le_of_ble_eq_true rfl), (Nat.le_of_ble_eq_true rfl)⟩ rfl (Nat.le_of_ble_eq_true rfl) ⟨(Nat.le_of_ble_eq_true rfl), (Nat.le_of_ble_eq_true rfl)⟩ dX4_readWord_54 (fun v g_50 H locs hp hT => ?_)
      obtain ⟨r_51, rfl, eg, f_52, f_53⟩ := hp
      rw [eg] at hT
      clear eg
      refine W.eq (g2 := F0 m 57 ls [.int r_51, .int r_44]) rfl ?_
      have qc_56 : (14 : Int32).toInt = 14 := (by decide)
      have hch_r_51 : r_51 = 119 := f_53.trans (by decide)
      subst hch_r_51
      refine W.eq (g2 := F0 m 57 ls [.int 119, .int r_44]) rfl ?_
      refine lv_icmp_ne (tgt := 66) hx hb dX4_readWord_57 (by decide) (fun c_57 => ?_) (fun c_57 => ?_)
      · have c_57' : r_44.toInt ≠ 119 := i_ne c_57 rfl (by decide)
        have hqw_ : qj (txb ct sz.toInt) pl.toInt 3 = 2 := wp4_2 (by omega) (by omega) (by omega)
        refine lv_iload hx hb dX4_readWord_66 (lv_at hl 0 rfl) ?_
        refine lv_iload hx hb dX4_readWord_68 (lv_at hl 1 rfl) ?_
        refine lv_icmp_ne (tgt := 86) hx hb dX4_readWord_70 (by decide) (fun c_ => ?_) (fun c_ => absurd c_ (by decide))
        refine lv_iload_n hx hb dX4_readWord_86 rfl (lv_at hl 4 rfl) ?_
        refine lv_iload hx hb dX4_readWord_87 (lv_at hl 0 rfl) ?_
        refine t_max hB k_408 k_241 k_63 k_242 hl.1 (Nat.le_of_ble_eq_true rfl) (Nat.le_of_ble_eq_true rfl) (Nat.le_of_ble_eq_true rfl) (Nat.le_of_ble_eq_true rfl) rfl dX4_readWord_89 ?_
        refine lv_topi (fun z_58 ez_58 => ?_)
        have e_z_58 := i_max (a := fu.toInt) (b := 2) ez_58 rfl (by decide)
        refine lv_istore_n (lv' := [(1, .int z_58), (5, .int 2), (4, .int 4), (3, .int 12), (2, .int 3), (0, .ref h)]) hx hb dX4_readWord_92 rfl hl (by decide) rfl (fun ls hl => ?_)
        refine lv_iinc (v := 4) (lv' := [(2, .int 4), (1, .int z_58), (5, .int 2), (4, .int 4), (3, .int 12), (0, .ref h)]) hx hb dX4_readWord_93 hl (k := 4) rfl (by decide) (by decide) rfl (fun ls hl => ?_)
        refine lv_goto (tgt := 4) hx hb dX4_readWord_96 (by decide) ?_
        exact lt_s_readWord_w4 l D cI cZ cS cR N0 g h pl sz ba ct r_h r_ba n_ba kpl ksz kba l_pl u_pl l_sz u_sz hc_0 hB hr   g1 z_58 H locs ls hT hI hE hM (by omega) (by omega) kp0 hc (fw_st (k := 3) hfu hqw_ (by omega)) hn0 hn1 hn2 (fun h_ => absurd (hqw_.symm.trans h_) (by decide)) (lv_sub hl [0, 1, 5] rfl)
      · have c_57' : r_44.toInt = 119 := i_eq c_57 rfl (by decide)
        refine lv_iinc (v := 3) (lv' := [(5, .int 3), (4, .int 4), (3, .int 12), (2, .int 3), (1, .int fu), (0, .ref h)]) hx hb dX4_readWord_60 hl (k := 0) rfl (by decide) (by decide) rfl (fun ls hl => ?_)
        refine lv_goto (tgt := 30) hx hb dX4_readWord_63 (by decide) ?_
        refine lv_iload hx hb dX4_readWord_30 (lv_at hl 0 rfl) ?_
        refine lv_iload hx hb dX4_readWord_32 (lv_at hl 1 rfl) ?_
        refine lv_icmp_ge (tgt := 66) hx hb dX4_readWord_34 (by decide) (fun c_ => absurd c_ (by decide)) (fun c_ => ?_)
        refine lv_aload_n hx hb dX4_readWord_37 rfl (lv_at hl 5 rfl) ?_
        refine lv_aload_n hx hb dX4_readWord_38 rfl (lv_at hl 5 rfl) ?_
        refine t_get (ci := 4) (v := .int pl) hB hT (ro_ci r_1 rfl) rfl 3 (by decide) k_91 kp0 dX4_readWord_39 ?_
        refine lv_iload hx hb dX4_readWord_42 (lv_at hl 0 rfl) ?_
        refine lv_iadd hx hb dX4_readWord_44 ?_
        refine lv_topi (fun z_59 ez_59 => ?_)
        have e_z_59 : z_59.toInt = pl.toInt + 3 := i_add ez_59 rfl (by decide) (by omega) (by omega)
        refine t_callV (n := 1) (As := [.int z_59]) (rest := []) (ci := 4) hB hT hl.1 (s_byteAt l D cI cZ cS cR N0 g1 hI h z_59 sz ba ct r_1 r_2 n_3 kn_4 kn_5 (by omega) (by omega) hc) (ro_ci r_1 rfl) rfl k_366 k_58 k_363 k_365 k_3 (by decide +kernel) ⟨(Nat.le_of_ble_eq_true rfl), (Nat.le_of_ble_eq_true rfl)⟩ rfl (Nat.le_of_ble_eq_true rfl) ⟨(Nat.le_of_ble_eq_true rfl), (Nat.le_of_ble_eq_true rfl)⟩ dX4_readWord_45 (fun v g_60 H locs hp hT => ?_)
        obtain ⟨r_61, rfl, eg, f_62, f_63, f_64⟩ := hp
        rw [eg] at hT
        clear eg
        refine W.eq (g2 := F0 m 48 ls [.int r_61]) rfl ?_
        rw [show z_59.toInt = pl.toInt + 3 by omega] at f_62
        have f_62' := f_64
        refine va_ldcS hx hb hB.2.2.2.1 (ux_r hB) dX4_readWord_48 ?_
        refine lv_iload_n hx hb dX4_readWord_50 rfl (lv_at hl 2 rfl) ?_
        refine lv_iload hx hb dX4_readWord_51 (lv_at hl 0 rfl) ?_
        refine lv_iadd hx hb dX4_readWord_53 ?_
        refine x_ev (y := 15) (by decide) ?_
        refine t_callT (n := 1) (As := [.int 15]) (rest := [.int r_61]) hB hT hl.1 (u_charAt l D cI cZ cS cR N0 g1 hI 15 (by have q0 : (15 : Int32).toInt = 15 := (by decide); omega) (by have q0 : (15 : Int32).toInt = 15 := (by decide); omega)) k_371 k_66 k_368 k_369 k_370 (by decide +kernel) ⟨(Nat.le_of_ble_eq_true rfl), (Nat.le_of_ble_eq_true rfl)⟩ rfl (Nat.le_of_ble_eq_true rfl) ⟨(Nat.le_of_ble_eq_true rfl), (Nat.le_of_ble_eq_true rfl)⟩ dX4_readWord_54 (fun v g_67 H locs hp hT => ?_)
        obtain ⟨r_68, rfl, eg, f_69, f_70⟩ := hp
        rw [eg] at hT
        clear eg
        refine W.eq (g2 := F0 m 57 ls [.int r_68, .int r_61]) rfl ?_
        have qc_73 : (15 : Int32).toInt = 15 := (by decide)
        have hch_r_68 : r_68 = 32 := f_70.trans (by decide)
        subst hch_r_68
        refine W.eq (g2 := F0 m 57 ls [.int 32, .int r_61]) rfl ?_
        refine lv_icmp_ne (tgt := 66) hx hb dX4_readWord_57 (by decide) (fun c_74 => ?_) (fun c_74 => ?_)
        · have c_74' : r_61.toInt ≠ 32 := i_ne c_74 rfl (by decide)
          have hqw_ : qj (txb ct sz.toInt) pl.toInt 3 = 3 := wp4_3 (by omega) (by omega) (by omega) (by omega)
          refine lv_iload hx hb dX4_readWord_66 (lv_at hl 0 rfl) ?_
          refine lv_iload hx hb dX4_readWord_68 (lv_at hl 1 rfl) ?_
          refine lv_icmp_ne (tgt := 86) hx hb dX4_readWord_70 (by decide) (fun c_ => ?_) (fun c_ => absurd c_ (by decide))
          refine lv_iload_n hx hb dX4_readWord_86 rfl (lv_at hl 4 rfl) ?_
          refine lv_iload hx hb dX4_readWord_87 (lv_at hl 0 rfl) ?_
          refine t_max hB k_408 k_241 k_63 k_242 hl.1 (Nat.le_of_ble_eq_true rfl) (Nat.le_of_ble_eq_true rfl) (Nat.le_of_ble_eq_true rfl) (Nat.le_of_ble_eq_true rfl) rfl dX4_readWord_89 ?_
          refine lv_topi (fun z_75 ez_75 => ?_)
          have e_z_75 := i_max (a := fu.toInt) (b := 3) ez_75 rfl (by decide)
          refine lv_istore_n (lv' := [(1, .int z_75), (5, .int 3), (4, .int 4), (3, .int 12), (2, .int 3), (0, .ref h)]) hx hb dX4_readWord_92 rfl hl (by decide) rfl (fun ls hl => ?_)
          refine lv_iinc (v := 4) (lv' := [(2, .int 4), (1, .int z_75), (5, .int 3), (4, .int 4), (3, .int 12), (0, .ref h)]) hx hb dX4_readWord_93 hl (k := 4) rfl (by decide) (by decide) rfl (fun ls hl => ?_)
          refine lv_goto (tgt := 4) hx hb dX4_readWord_96 (by decide) ?_
          exact lt_s_readWord_w4 l D cI cZ cS cR N0 g h pl sz ba ct r_h r_ba n_ba kpl ksz kba l_pl u_pl l_sz u_sz hc_0 hB hr   g1 z_75 H locs ls hT hI hE hM (by omega) (by omega) kp0 hc (fw_st (k := 3) hfu hqw_ (by omega)) hn0 hn1 hn2 (fun h_ => absurd (hqw_.symm.trans h_) (by decide)) (lv_sub hl [0, 1, 5] rfl)
        · have c_74' : r_61.toInt = 32 := i_eq c_74 rfl (by decide)
          refine lv_iinc (v := 4) (lv' := [(5, .int 4), (4, .int 4), (3, .int 12), (2, .int 3), (1, .int fu), (0, .ref h)]) hx hb dX4_readWord_60 hl (k := 0) rfl (by decide) (by decide) rfl (fun ls hl => ?_)
          refine lv_goto (tgt := 30) hx hb dX4_readWord_63 (by decide) ?_
          refine lv_iload hx hb dX4_readWord_30 (lv_at hl 0 rfl) ?_
          refine lv_iload hx hb dX4_readWord_32 (lv_at hl 1 rfl) ?_
          refine lv_icmp_ge (tgt := 66) hx hb dX4_readWord_34 (by decide) (fun c_ => ?_) (fun c_ => absurd (by decide) c_)
          have hqw_ : qj (txb ct sz.toInt) pl.toInt 3 = 4 := wp4_4 (by omega) (by omega) (by omega) (by omega)
          refine lv_iload hx hb dX4_readWord_66 (lv_at hl 0 rfl) ?_
          refine lv_iload hx hb dX4_readWord_68 (lv_at hl 1 rfl) ?_
          refine lv_icmp_ne (tgt := 86) hx hb dX4_readWord_70 (by decide) (fun c_ => absurd (by decide) c_) (fun c_ => ?_)
          refine lv_aload_n hx hb dX4_readWord_73 rfl (lv_at hl 5 rfl) ?_
          refine lv_dup hx hb dX4_readWord_74 rfl ?_
          refine t_get (ci := 4) (v := .int pl) hB hT (ro_ci r_1 rfl) rfl 3 (by decide) k_91 kp0 dX4_readWord_75 ?_
          refine lv_iload hx hb dX4_readWord_78 (lv_at hl 1 rfl) ?_
          refine lv_iadd hx hb dX4_readWord_80 ?_
          refine lv_topi (fun z_76 ez_76 => ?_)
          have e_z_76 : z_76.toInt = pl.toInt + 4 := i_add ez_76 rfl (by decide) (by omega) (by omega)
          refine t_put0 (ci := 4) (v := .int z_76) hB hT (ro_ci r_1 rfl) (ro_n0 r_1 (by decide)) rfl 3 (by decide) k_91 (Or.inl rfl) rfl rfl dX4_readWord_81 (fun H locs hT => ?_)
          have hI : Inv (sF g1 h 3 (.int z_76)) := hI.sF (p_5_3 r_1 (⟨_, rfl⟩))
          have hM : Sm md_s_readWord g (sF g1 h 3 (.int z_76)) := hM.tr hE (Sm_sF (by rw [r_1]; rfl))
          have hE : Ex g (sF g1 h 3 (.int z_76)) := hE
          have hc : (sF g1 h 3 (.int z_76)).2.2.2.1 ba = ct := hc
          refine lv_iload_n hx hb dX4_readWord_84 rfl (lv_at hl 3 rfl) ?_
          have hv_ := wo_3 (T := (txb ct sz.toInt)) (p := pl.toInt) ⟨by omega, by omega, by omega, by omega⟩
          exact t_iret hB hr hT (Nat.le_of_ble_eq_true rfl) (Nat.le_of_ble_eq_true rfl) dX4_readWord_85 ⟨3, z_76, rfl, hI, hE, hM, (Or.inr ⟨by decide, by decide, hv_.1.trans (by decide), (by have q_ := hv_.2; omega), by omega, by omega⟩), sF_eq⟩
set_option maxHeartbeats 4000000 in
set_option maxRecDepth 100000 in
theorem lt_s_readWord_w2 (l : Launch) (D : va_G) (cI cZ cS cR : ClassId) (N0 : NT) (g : GS) (h : Nat) (pl : Int32) (sz : Int32) (ba : Nat) (ct : Nat → Int32) (r_h : g.1 h = 5) (r_ba : g.1 ba = 67) (n_ba : g.2.2.1 ba = 100) (kpl : g.2.1 h 3 = .int pl) (ksz : g.2.1 h 1 = .int sz) (kba : g.2.1 h 0 = .ref ba) (l_pl : 0 ≤ pl.toInt) (u_pl : pl.toInt ≤ 100) (l_sz : 0 ≤ sz.toInt) (u_sz : sz.toInt ≤ 100) (hc_0 : g.2.2.2.1 ba = ct) {p : Program} {e : Env} {s : State} {m : MethodId} {args : Array Value} {below : List Frame} {meth : Method} {c : Code} (hB : Tz p s m meth c args cX4_readWord 6 RX4 D cI cZ cS cR N0) (hr : meth.sig.returnType = (some .int))    : ∀ (g1 : GS) (fu : Int32)  (H : Heap) (locs : List Loc) (ls : Array Slot), Tv D cI cZ cS cR N0 s.heap H locs g1 → Inv g1 → Ex g g1 → Sm md_s_readWord g g1 → 0 ≤ fu.toInt → fu.toInt ≤ 4 → g1.2.1 h 3 = .int pl → (g1.2.2.2.1 ba = ct) → (fu.toInt = fw (txb ct sz.toInt) pl.toInt 2) → (qj (txb ct sz.toInt) pl.toInt 0 ≠ 4) → (qj (txb ct sz.toInt) pl.toInt 1 ≠ 4) → lv_has ls 6 [(2, .int 2), (1, .int fu), (0, .ref h)] → W p l e (rmx 4 0 0) s m args below meth c H locs 0 0 (MQ below (tQ D cI cZ cS cR N0 (fun v g' => ∃ (r : Int32) (pl2 : Int32), v = some (.int r) ∧ Inv g' ∧ Ex g g' ∧ Sm md_s_readWord g g' ∧ ((r = -1 ∧ wdr (txb ct sz.toInt) pl.toInt = -1 ∧ pl2.toInt = wdp (txb ct sz.toInt) pl.toInt ∧ 0 ≤ pl2.toInt ∧ pl2.toInt ≤ 104) ∨ (0 ≤ r.toInt ∧ r.toInt ≤ 7 ∧ wdr (txb ct sz.toInt) pl.toInt = r.toInt ∧ pl2.toInt = wdp (txb ct sz.toInt) pl.toInt ∧ pl2.toInt ≤ sz.toInt ∧ 0 ≤ pl2.toInt)) ∧ (g'.2.1 h 3 = .int pl2))) args s 0 0 (fun q => N0.1 ≤ q)) (F0 m 4 ls []) := by
  have hx := hB.1
  have hb := hB.2.1
  intro g1 fu H locs ls hT hI hE hM l_fu u_fu kp0 hc hfu hn0 hn1 hl
  have r_1 : g1.1 h = 5 := Ex.r hE r_h (by decide)
  have r_2 : g1.1 ba = 67 := Ex.r hE r_ba (by decide)
  have n_3 : g1.2.2.1 ba = 100 := Ex.n hE r_ba (by decide) n_ba
  have kn_4 : g1.2.1 h 1 = .int sz := Sm.v hM r_h (by decide) rfl ksz
  have kn_5 : g1.2.1 h 0 = .ref ba := Sm.v hM r_h (by decide) rfl kba
  refine lv_iload_n hx hb dX4_readWord_4 rfl (lv_at hl 0 rfl) ?_
  refine lv_bipush (v := 8) hx hb dX4_readWord_5 (by decide) ?_
  refine lv_icmp_ge (tgt := 99) hx hb dX4_readWord_7 (by decide) (fun c_ => absurd c_ (by decide)) (fun c_ => ?_)
  refine va_gets hx hb (ux_wb hB) hT.2 hB.2.2.2.1 (hB.2.2.2.2.1 _ k_361) (fun _ h => h) dX4_readWord_10 ?_
  refine lv_iload_n hx hb dX4_readWord_13 rfl (lv_at hl 0 rfl) ?_
  refine va_ti (v := .int 8) hx hb (ux_tab hB) hT.2 (by unfold vp_in; decide) rfl dX4_readWord_14 ?_
  refine lv_istore_n (lv' := [(3, .int 8), (2, .int 2), (1, .int fu), (0, .ref h)]) hx hb dX4_readWord_15 rfl hl (by decide) rfl (fun ls hl => ?_)
  refine va_gets hx hb (ux_wb hB) hT.2 hB.2.2.2.1 (hB.2.2.2.2.1 _ k_361) (fun _ h => h) dX4_readWord_16 ?_
  refine lv_iload_n hx hb dX4_readWord_19 rfl (lv_at hl 1 rfl) ?_
  refine lv_iconst (v := 1) hx hb dX4_readWord_20 (by decide) ?_
  refine lv_iadd hx hb dX4_readWord_21 ?_
  refine x_ev (y := 3) (by decide) ?_
  refine va_ti (v := .int 12) hx hb (ux_tab hB) hT.2 (by unfold vp_in; decide) rfl dX4_readWord_22 ?_
  refine lv_iload_n hx hb dX4_readWord_23 rfl (lv_at hl 0 rfl) ?_
  refine lv_isub hx hb dX4_readWord_24 ?_
  refine x_ev (y := 4) (by decide) ?_
  refine lv_istore (lv' := [(4, .int 4), (3, .int 8), (2, .int 2), (1, .int fu), (0, .ref h)]) hx hb dX4_readWord_25 hl (by decide) rfl (fun ls hl => ?_)
  refine lv_iconst (v := 0) hx hb dX4_readWord_27 (by decide) ?_
  refine lv_istore (lv' := [(5, .int 0), (4, .int 4), (3, .int 8), (2, .int 2), (1, .int fu), (0, .ref h)]) hx hb dX4_readWord_28 hl (by decide) rfl (fun ls hl => ?_)
  refine lv_iload hx hb dX4_readWord_30 (lv_at hl 0 rfl) ?_
  refine lv_iload hx hb dX4_readWord_32 (lv_at hl 1 rfl) ?_
  refine lv_icmp_ge (tgt := 66) hx hb dX4_readWord_34 (by decide) (fun c_ => absurd c_ (by decide)) (fun c_ => ?_)
  refine lv_aload_n hx hb dX4_readWord_37 rfl (lv_at hl 5 rfl) ?_
  refine lv_aload_n hx hb dX4_readWord_38 rfl (lv_at hl 5 rfl) ?_
  refine t_get (ci := 4) (v := .int pl) hB hT (ro_ci r_1 rfl) rfl 3 (by decide) k_91 kp0 dX4_readWord_39 ?_
  refine lv_iload hx hb dX4_readWord_42 (lv_at hl 0 rfl) ?_
  refine lv_iadd hx hb dX4_readWord_44 ?_
  refine lv_topi (fun z_8 ez_8 => ?_)
  have e_z_8 : z_8.toInt = pl.toInt + 0 := i_add ez_8 rfl (by decide) (by omega) (by omega)
  refine t_callV (n := 1) (As := [.int z_8]) (rest := []) (ci := 4) hB hT hl.1 (s_byteAt l D cI cZ cS cR N0 g1 hI h z_8 sz ba ct r_1 r_2 n_3 kn_4 kn_5 (by omega) (by omega) hc) (ro_ci r_1 rfl) rfl k_366 k_58 k_363 k_365 k_3 (by decide +kernel) ⟨(Nat.le_of_ble_eq_true rfl), (Nat.le_of_ble_eq_true rfl)⟩ rfl (Nat.le_of_ble_eq_true rfl) ⟨(Nat.le_of_ble_eq_true rfl), (Nat.le_of_ble_eq_true rfl)⟩ dX4_readWord_45 (fun v g_9 H locs hp hT => ?_)
  obtain ⟨r_10, rfl, eg, f_11, f_12, f_13⟩ := hp
  rw [eg] at hT
  clear eg
  refine W.eq (g2 := F0 m 48 ls [.int r_10]) rfl ?_
  rw [show z_8.toInt = pl.toInt by omega] at f_11
  have f_11' := f_13
  refine va_ldcS hx hb hB.2.2.2.1 (ux_r hB) dX4_readWord_48 ?_
  refine lv_iload_n hx hb dX4_readWord_50 rfl (lv_at hl 2 rfl) ?_
  refine lv_iload hx hb dX4_readWord_51 (lv_at hl 0 rfl) ?_
  refine lv_iadd hx hb dX4_readWord_53 ?_
  refine x_ev (y := 8) (by decide) ?_
  refine t_callT (n := 1) (As := [.int 8]) (rest := [.int r_10]) hB hT hl.1 (u_charAt l D cI cZ cS cR N0 g1 hI 8 (by have q0 : (8 : Int32).toInt = 8 := (by decide); omega) (by have q0 : (8 : Int32).toInt = 8 := (by decide); omega)) k_371 k_66 k_368 k_369 k_370 (by decide +kernel) ⟨(Nat.le_of_ble_eq_true rfl), (Nat.le_of_ble_eq_true rfl)⟩ rfl (Nat.le_of_ble_eq_true rfl) ⟨(Nat.le_of_ble_eq_true rfl), (Nat.le_of_ble_eq_true rfl)⟩ dX4_readWord_54 (fun v g_16 H locs hp hT => ?_)
  obtain ⟨r_17, rfl, eg, f_18, f_19⟩ := hp
  rw [eg] at hT
  clear eg
  refine W.eq (g2 := F0 m 57 ls [.int r_17, .int r_10]) rfl ?_
  have qc_22 : (8 : Int32).toInt = 8 := (by decide)
  have hch_r_17 : r_17 = 109 := f_19.trans (by decide)
  subst hch_r_17
  refine W.eq (g2 := F0 m 57 ls [.int 109, .int r_10]) rfl ?_
  refine lv_icmp_ne (tgt := 66) hx hb dX4_readWord_57 (by decide) (fun c_23 => ?_) (fun c_23 => ?_)
  · have c_23' : r_10.toInt ≠ 109 := i_ne c_23 rfl (by decide)
    have hqw_ : qj (txb ct sz.toInt) pl.toInt 2 = 0 := wp4_0 (by omega)
    refine lv_iload hx hb dX4_readWord_66 (lv_at hl 0 rfl) ?_
    refine lv_iload hx hb dX4_readWord_68 (lv_at hl 1 rfl) ?_
    refine lv_icmp_ne (tgt := 86) hx hb dX4_readWord_70 (by decide) (fun c_ => ?_) (fun c_ => absurd c_ (by decide))
    refine lv_iload_n hx hb dX4_readWord_86 rfl (lv_at hl 4 rfl) ?_
    refine lv_iload hx hb dX4_readWord_87 (lv_at hl 0 rfl) ?_
    refine t_max hB k_408 k_241 k_63 k_242 hl.1 (Nat.le_of_ble_eq_true rfl) (Nat.le_of_ble_eq_true rfl) (Nat.le_of_ble_eq_true rfl) (Nat.le_of_ble_eq_true rfl) rfl dX4_readWord_89 ?_
    refine lv_topi (fun z_24 ez_24 => ?_)
    have e_z_24 := i_max (a := fu.toInt) (b := 0) ez_24 rfl (by decide)
    refine lv_istore_n (lv' := [(1, .int z_24), (5, .int 0), (4, .int 4), (3, .int 8), (2, .int 2), (0, .ref h)]) hx hb dX4_readWord_92 rfl hl (by decide) rfl (fun ls hl => ?_)
    refine lv_iinc (v := 3) (lv' := [(2, .int 3), (1, .int z_24), (5, .int 0), (4, .int 4), (3, .int 8), (0, .ref h)]) hx hb dX4_readWord_93 hl (k := 4) rfl (by decide) (by decide) rfl (fun ls hl => ?_)
    refine lv_goto (tgt := 4) hx hb dX4_readWord_96 (by decide) ?_
    exact lt_s_readWord_w3 l D cI cZ cS cR N0 g h pl sz ba ct r_h r_ba n_ba kpl ksz kba l_pl u_pl l_sz u_sz hc_0 hB hr   g1 z_24 H locs ls hT hI hE hM (by omega) (by omega) kp0 hc (fw_st (k := 2) hfu hqw_ (by omega)) hn0 hn1 (fun h_ => absurd (hqw_.symm.trans h_) (by decide)) (lv_sub hl [0, 1, 5] rfl)
  · have c_23' : r_10.toInt = 109 := i_eq c_23 rfl (by decide)
    refine lv_iinc (v := 1) (lv' := [(5, .int 1), (4, .int 4), (3, .int 8), (2, .int 2), (1, .int fu), (0, .ref h)]) hx hb dX4_readWord_60 hl (k := 0) rfl (by decide) (by decide) rfl (fun ls hl => ?_)
    refine lv_goto (tgt := 30) hx hb dX4_readWord_63 (by decide) ?_
    refine lv_iload hx hb dX4_readWord_30 (lv_at hl 0 rfl) ?_
    refine lv_iload hx hb dX4_readWord_32 (lv_at hl 1 rfl) ?_
    refine lv_icmp_ge (tgt := 66) hx hb dX4_readWord_34 (by decide) (fun c_ => absurd c_ (by decide)) (fun c_ => ?_)
    refine lv_aload_n hx hb dX4_readWord_37 rfl (lv_at hl 5 rfl) ?_
    refine lv_aload_n hx hb dX4_readWord_38 rfl (lv_at hl 5 rfl) ?_
    refine t_get (ci := 4) (v := .int pl) hB hT (ro_ci r_1 rfl) rfl 3 (by decide) k_91 kp0 dX4_readWord_39 ?_
    refine lv_iload hx hb dX4_readWord_42 (lv_at hl 0 rfl) ?_
    refine lv_iadd hx hb dX4_readWord_44 ?_
    refine lv_topi (fun z_25 ez_25 => ?_)
    have e_z_25 : z_25.toInt = pl.toInt + 1 := i_add ez_25 rfl (by decide) (by omega) (by omega)
    refine t_callV (n := 1) (As := [.int z_25]) (rest := []) (ci := 4) hB hT hl.1 (s_byteAt l D cI cZ cS cR N0 g1 hI h z_25 sz ba ct r_1 r_2 n_3 kn_4 kn_5 (by omega) (by omega) hc) (ro_ci r_1 rfl) rfl k_366 k_58 k_363 k_365 k_3 (by decide +kernel) ⟨(Nat.le_of_ble_eq_true rfl), (Nat.le_of_ble_eq_true rfl)⟩ rfl (Nat.le_of_ble_eq_true rfl) ⟨(Nat.le_of_ble_eq_true rfl), (Nat.le_of_ble_eq_true rfl)⟩ dX4_readWord_45 (fun v g_26 H locs hp hT => ?_)
    obtain ⟨r_27, rfl, eg, f_28, f_29, f_30⟩ := hp
    rw [eg] at hT
    clear eg
    refine W.eq (g2 := F0 m 48 ls [.int r_27]) rfl ?_
    rw [show z_25.toInt = pl.toInt + 1 by omega] at f_28
    have f_28' := f_30
    refine va_ldcS hx hb hB.2.2.2.1 (ux_r hB) dX4_readWord_48 ?_
    refine lv_iload_n hx hb dX4_readWord_50 rfl (lv_at hl 2 rfl) ?_
    refine lv_iload hx hb dX4_readWord_51 (lv_at hl 0 rfl) ?_
    refine lv_iadd hx hb dX4_readWord_53 ?_
    refine x_ev (y := 9) (by decide) ?_
    refine t_callT (n := 1) (As := [.int 9]) (rest := [.int r_27]) hB hT hl.1 (u_charAt l D cI cZ cS cR N0 g1 hI 9 (by have q0 : (9 : Int32).toInt = 9 := (by decide); omega) (by have q0 : (9 : Int32).toInt = 9 := (by decide); omega)) k_371 k_66 k_368 k_369 k_370 (by decide +kernel) ⟨(Nat.le_of_ble_eq_true rfl), (Nat.le_of_ble_eq_true rfl)⟩ rfl (Nat.le_of_ble_eq_true rfl) ⟨(Nat.le_of_ble_eq_true rfl), (Nat.le_of_ble_eq_true rfl)⟩ dX4_readWord_54 (fun v g_33 H locs hp hT => ?_)
    obtain ⟨r_34, rfl, eg, f_35, f_36⟩ := hp
    rw [eg] at hT
    clear eg
    refine W.eq (g2 := F0 m 57 ls [.int r_34, .int r_27]) rfl ?_
    have qc_39 : (9 : Int32).toInt = 9 := (by decide)
    have hch_r_34 : r_34 = 97 := f_36.trans (by decide)
    subst hch_r_34
    refine W.eq (g2 := F0 m 57 ls [.int 97, .int r_27]) rfl ?_
    refine lv_icmp_ne (tgt := 66) hx hb dX4_readWord_57 (by decide) (fun c_40 => ?_) (fun c_40 => ?_)
    · have c_40' : r_27.toInt ≠ 97 := i_ne c_40 rfl (by decide)
      have hqw_ : qj (txb ct sz.toInt) pl.toInt 2 = 1 := wp4_1 (by omega) (by omega)
      refine lv_iload hx hb dX4_readWord_66 (lv_at hl 0 rfl) ?_
      refine lv_iload hx hb dX4_readWord_68 (lv_at hl 1 rfl) ?_
      refine lv_icmp_ne (tgt := 86) hx hb dX4_readWord_70 (by decide) (fun c_ => ?_) (fun c_ => absurd c_ (by decide))
      refine lv_iload_n hx hb dX4_readWord_86 rfl (lv_at hl 4 rfl) ?_
      refine lv_iload hx hb dX4_readWord_87 (lv_at hl 0 rfl) ?_
      refine t_max hB k_408 k_241 k_63 k_242 hl.1 (Nat.le_of_ble_eq_true rfl) (Nat.le_of_ble_eq_true rfl) (Nat.le_of_ble_eq_true rfl) (Nat.le_of_ble_eq_true rfl) rfl dX4_readWord_89 ?_
      refine lv_topi (fun z_41 ez_41 => ?_)
      have e_z_41 := i_max (a := fu.toInt) (b := 1) ez_41 rfl (by decide)
      refine lv_istore_n (lv' := [(1, .int z_41), (5, .int 1), (4, .int 4), (3, .int 8), (2, .int 2), (0, .ref h)]) hx hb dX4_readWord_92 rfl hl (by decide) rfl (fun ls hl => ?_)
      refine lv_iinc (v := 3) (lv' := [(2, .int 3), (1, .int z_41), (5, .int 1), (4, .int 4), (3, .int 8), (0, .ref h)]) hx hb dX4_readWord_93 hl (k := 4) rfl (by decide) (by decide) rfl (fun ls hl => ?_)
      refine lv_goto (tgt := 4) hx hb dX4_readWord_96 (by decide) ?_
      exact lt_s_readWord_w3 l D cI cZ cS cR N0 g h pl sz ba ct r_h r_ba n_ba kpl ksz kba l_pl u_pl l_sz u_sz hc_0 hB hr   g1 z_41 H locs ls hT hI hE hM (by omega) (by omega) kp0 hc (fw_st (k := 2) hfu hqw_ (by omega)) hn0 hn1 (fun h_ => absurd (hqw_.symm.trans h_) (by decide)) (lv_sub hl [0, 1, 5] rfl)
    · have c_40' : r_27.toInt = 97 := i_eq c_40 rfl (by decide)
      refine lv_iinc (v := 2) (lv' := [(5, .int 2), (4, .int 4), (3, .int 8), (2, .int 2), (1, .int fu), (0, .ref h)]) hx hb dX4_readWord_60 hl (k := 0) rfl (by decide) (by decide) rfl (fun ls hl => ?_)
      refine lv_goto (tgt := 30) hx hb dX4_readWord_63 (by decide) ?_
      refine lv_iload hx hb dX4_readWord_30 (lv_at hl 0 rfl) ?_
      refine lv_iload hx hb dX4_readWord_32 (lv_at hl 1 rfl) ?_
      refine lv_icmp_ge (tgt := 66) hx hb dX4_readWord_34 (by decide) (fun c_ => absurd c_ (by decide)) (fun c_ => ?_)
      refine lv_aload_n hx hb dX4_readWord_37 rfl (lv_at hl 5 rfl) ?_
      refine lv_aload_n hx hb dX4_readWord_38 rfl (lv_at hl 5 rfl) ?_
      refine t_get (ci := 4) (v := .int pl) hB hT (ro_ci r_1 rfl) rfl 3 (by decide) k_91 kp0 dX4_readWord_39 ?_
      refine lv_iload hx hb dX4_readWord_42 (lv_at hl 0 rfl) ?_
      refine lv_iadd hx hb dX4_readWord_44 ?_
      refine lv_topi (fun z_42 ez_42 => ?_)
      have e_z_42 : z_42.toInt = pl.toInt + 2 := i_add ez_42 rfl (by decide) (by omega) (by omega)
      refine t_callV (n := 1) (As := [.int z_42]) (rest := []) (ci := 4) hB hT hl.1 (s_byteAt l D cI cZ cS cR N0 g1 hI h z_42 sz ba ct r_1 r_2 n_3 kn_4 kn_5 (by omega) (by omega) hc) (ro_ci r_1 rfl) rfl k_366 k_58 k_363 k_365 k_3 (by decide +kernel) ⟨(Nat.le_of_ble_eq_true rfl), (Nat.le_of_ble_eq_true rfl)⟩ rfl (Nat.le_of_ble_eq_true rfl) ⟨(Nat.le_of_ble_eq_true rfl), (Nat.le_of_ble_eq_true rfl)⟩ dX4_readWord_45 (fun v g_43 H locs hp hT => ?_)
      obtain ⟨r_44, rfl, eg, f_45, f_46, f_47⟩ := hp
      rw [eg] at hT
      clear eg
      refine W.eq (g2 := F0 m 48 ls [.int r_44]) rfl ?_
      rw [show z_42.toInt = pl.toInt + 2 by omega] at f_45
      have f_45' := f_47
      refine va_ldcS hx hb hB.2.2.2.1 (ux_r hB) dX4_readWord_48 ?_
      refine lv_iload_n hx hb dX4_readWord_50 rfl (lv_at hl 2 rfl) ?_
      refine lv_iload hx hb dX4_readWord_51 (lv_at hl 0 rfl) ?_
      refine lv_iadd hx hb dX4_readWord_53 ?_
      refine x_ev (y := 10) (by decide) ?_
      refine t_callT (n := 1) (As := [.int 10]) (rest := [.int r_44]) hB hT hl.1 (u_charAt l D cI cZ cS cR N0 g1 hI 10 (by have q0 : (10 : Int32).toInt = 10 := (by decide); omega) (by have q0 : (10 : Int32).toInt = 10 := (by decide); omega)) k_371 k_66 k_368 k_369 k_370 (by decide +kernel) ⟨(Nat.le_of_ble_eq_true rfl), (Nat.le_of_ble_eq_true rfl)⟩ rfl (Nat.le_of_ble_eq_true rfl) ⟨(Nat.le_of_ble_eq_true rfl), (Nat.le_of_ble_eq_true rfl)⟩ dX4_readWord_54 (fun v g_50 H locs hp hT => ?_)
      obtain ⟨r_51, rfl, eg, f_52, f_53⟩ := hp
      rw [eg] at hT
      clear eg
      refine W.eq (g2 := F0 m 57 ls [.int r_51, .int r_44]) rfl ?_
      have qc_56 : (10 : Int32).toInt = 10 := (by decide)
      have hch_r_51 : r_51 = 120 := f_53.trans (by decide)
      subst hch_r_51
      refine W.eq (g2 := F0 m 57 ls [.int 120, .int r_44]) rfl ?_
      refine lv_icmp_ne (tgt := 66) hx hb dX4_readWord_57 (by decide) (fun c_57 => ?_) (fun c_57 => ?_)
      · have c_57' : r_44.toInt ≠ 120 := i_ne c_57 rfl (by decide)
        have hqw_ : qj (txb ct sz.toInt) pl.toInt 2 = 2 := wp4_2 (by omega) (by omega) (by omega)
        refine lv_iload hx hb dX4_readWord_66 (lv_at hl 0 rfl) ?_
        refine lv_iload hx hb dX4_readWord_68 (lv_at hl 1 rfl) ?_
        refine lv_icmp_ne (tgt := 86) hx hb dX4_readWord_70 (by decide) (fun c_ => ?_) (fun c_ => absurd c_ (by decide))
        refine lv_iload_n hx hb dX4_readWord_86 rfl (lv_at hl 4 rfl) ?_
        refine lv_iload hx hb dX4_readWord_87 (lv_at hl 0 rfl) ?_
        refine t_max hB k_408 k_241 k_63 k_242 hl.1 (Nat.le_of_ble_eq_true rfl) (Nat.le_of_ble_eq_true rfl) (Nat.le_of_ble_eq_true rfl) (Nat.le_of_ble_eq_true rfl) rfl dX4_readWord_89 ?_
        refine lv_topi (fun z_58 ez_58 => ?_)
        have e_z_58 := i_max (a := fu.toInt) (b := 2) ez_58 rfl (by decide)
        refine lv_istore_n (lv' := [(1, .int z_58), (5, .int 2), (4, .int 4), (3, .int 8), (2, .int 2), (0, .ref h)]) hx hb dX4_readWord_92 rfl hl (by decide) rfl (fun ls hl => ?_)
        refine lv_iinc (v := 3) (lv' := [(2, .int 3), (1, .int z_58), (5, .int 2), (4, .int 4), (3, .int 8), (0, .ref h)]) hx hb dX4_readWord_93 hl (k := 4) rfl (by decide) (by decide) rfl (fun ls hl => ?_)
        refine lv_goto (tgt := 4) hx hb dX4_readWord_96 (by decide) ?_
        exact lt_s_readWord_w3 l D cI cZ cS cR N0 g h pl sz ba ct r_h r_ba n_ba kpl ksz kba l_pl u_pl l_sz u_sz hc_0 hB hr   g1 z_58 H locs ls hT hI hE hM (by omega) (by omega) kp0 hc (fw_st (k := 2) hfu hqw_ (by omega)) hn0 hn1 (fun h_ => absurd (hqw_.symm.trans h_) (by decide)) (lv_sub hl [0, 1, 5] rfl)
      · have c_57' : r_44.toInt = 120 := i_eq c_57 rfl (by decide)
        refine lv_iinc (v := 3) (lv' := [(5, .int 3), (4, .int 4), (3, .int 8), (2, .int 2), (1, .int fu), (0, .ref h)]) hx hb dX4_readWord_60 hl (k := 0) rfl (by decide) (by decide) rfl (fun ls hl => ?_)
        refine lv_goto (tgt := 30) hx hb dX4_readWord_63 (by decide) ?_
        refine lv_iload hx hb dX4_readWord_30 (lv_at hl 0 rfl) ?_
        refine lv_iload hx hb dX4_readWord_32 (lv_at hl 1 rfl) ?_
        refine lv_icmp_ge (tgt := 66) hx hb dX4_readWord_34 (by decide) (fun c_ => absurd c_ (by decide)) (fun c_ => ?_)
        refine lv_aload_n hx hb dX4_readWord_37 rfl (lv_at hl 5 rfl) ?_
        refine lv_aload_n hx hb dX4_readWord_38 rfl (lv_at hl 5 rfl) ?_
        refine t_get (ci := 4) (v := .int pl) hB hT (ro_ci r_1 rfl) rfl 3 (by decide) k_91 kp0 dX4_readWord_39 ?_
        refine lv_iload hx hb dX4_readWord_42 (lv_at hl 0 rfl) ?_
        refine lv_iadd hx hb dX4_readWord_44 ?_
        refine lv_topi (fun z_59 ez_59 => ?_)
        have e_z_59 : z_59.toInt = pl.toInt + 3 := i_add ez_59 rfl (by decide) (by omega) (by omega)
        refine t_callV (n := 1) (As := [.int z_59]) (rest := []) (ci := 4) hB hT hl.1 (s_byteAt l D cI cZ cS cR N0 g1 hI h z_59 sz ba ct r_1 r_2 n_3 kn_4 kn_5 (by omega) (by omega) hc) (ro_ci r_1 rfl) rfl k_366 k_58 k_363 k_365 k_3 (by decide +kernel) ⟨(Nat.le_of_ble_eq_true rfl), (Nat.le_of_ble_eq_true rfl)⟩ rfl (Nat.le_of_ble_eq_true rfl) ⟨(Nat.le_of_ble_eq_true rfl), (Nat.le_of_ble_eq_true rfl)⟩ dX4_readWord_45 (fun v g_60 H locs hp hT => ?_)
        obtain ⟨r_61, rfl, eg, f_62, f_63, f_64⟩ := hp
        rw [eg] at hT
        clear eg
        refine W.eq (g2 := F0 m 48 ls [.int r_61]) rfl ?_
        rw [show z_59.toInt = pl.toInt + 3 by omega] at f_62
        have f_62' := f_64
        refine va_ldcS hx hb hB.2.2.2.1 (ux_r hB) dX4_readWord_48 ?_
        refine lv_iload_n hx hb dX4_readWord_50 rfl (lv_at hl 2 rfl) ?_
        refine lv_iload hx hb dX4_readWord_51 (lv_at hl 0 rfl) ?_
        refine lv_iadd hx hb dX4_readWord_53 ?_
        refine x_ev (y := 11) (by decide) ?_
        refine t_callT (n := 1) (As := [.int 11]) (rest := [.int r_61]) hB hT hl.1 (u_charAt l D cI cZ cS cR N0 g1 hI 11 (by have q0 : (11 : Int32).toInt = 11 := (by decide); omega) (by have q0 : (11 : Int32).toInt = 11 := (by decide); omega)) k_371 k_66 k_368 k_369 k_370 (by decide +kernel) ⟨(Nat.le_of_ble_eq_true rfl), (Nat.le_of_ble_eq_true rfl)⟩ rfl (Nat.le_of_ble_eq_true rfl) ⟨(Nat.le_of_ble_eq_true rfl), (Nat.le_of_ble_eq_true rfl)⟩ dX4_readWord_54 (fun v g_67 H locs hp hT => ?_)
        obtain ⟨r_68, rfl, eg, f_69, f_70⟩ := hp
        rw [eg] at hT
        clear eg
        refine W.eq (g2 := F0 m 57 ls [.int r_68, .int r_61]) rfl ?_
        have qc_73 : (11 : Int32).toInt = 11 := (by decide)
        have hch_r_68 : r_68 = 32 := f_70.trans (by decide)
        subst hch_r_68
        refine W.eq (g2 := F0 m 57 ls [.int 32, .int r_61]) rfl ?_
        refine lv_icmp_ne (tgt := 66) hx hb dX4_readWord_57 (by decide) (fun c_74 => ?_) (fun c_74 => ?_)
        · have c_74' : r_61.toInt ≠ 32 := i_ne c_74 rfl (by decide)
          have hqw_ : qj (txb ct sz.toInt) pl.toInt 2 = 3 := wp4_3 (by omega) (by omega) (by omega) (by omega)
          refine lv_iload hx hb dX4_readWord_66 (lv_at hl 0 rfl) ?_
          refine lv_iload hx hb dX4_readWord_68 (lv_at hl 1 rfl) ?_
          refine lv_icmp_ne (tgt := 86) hx hb dX4_readWord_70 (by decide) (fun c_ => ?_) (fun c_ => absurd c_ (by decide))
          refine lv_iload_n hx hb dX4_readWord_86 rfl (lv_at hl 4 rfl) ?_
          refine lv_iload hx hb dX4_readWord_87 (lv_at hl 0 rfl) ?_
          refine t_max hB k_408 k_241 k_63 k_242 hl.1 (Nat.le_of_ble_eq_true rfl) (Nat.le_of_ble_eq_true rfl) (Nat.le_of_ble_eq_true rfl) (Nat.le_of_ble_eq_true rfl) rfl dX4_readWord_89 ?_
          refine lv_topi (fun z_75 ez_75 => ?_)
          have e_z_75 := i_max (a := fu.toInt) (b := 3) ez_75 rfl (by decide)
          refine lv_istore_n (lv' := [(1, .int z_75), (5, .int 3), (4, .int 4), (3, .int 8), (2, .int 2), (0, .ref h)]) hx hb dX4_readWord_92 rfl hl (by decide) rfl (fun ls hl => ?_)
          refine lv_iinc (v := 3) (lv' := [(2, .int 3), (1, .int z_75), (5, .int 3), (4, .int 4), (3, .int 8), (0, .ref h)]) hx hb dX4_readWord_93 hl (k := 4) rfl (by decide) (by decide) rfl (fun ls hl => ?_)
          refine lv_goto (tgt := 4) hx hb dX4_readWord_96 (by decide) ?_
          exact lt_s_readWord_w3 l D cI cZ cS cR N0 g h pl sz ba ct r_h r_ba n_ba kpl ksz kba l_pl u_pl l_sz u_sz hc_0 hB hr   g1 z_75 H locs ls hT hI hE hM (by omega) (by omega) kp0 hc (fw_st (k := 2) hfu hqw_ (by omega)) hn0 hn1 (fun h_ => absurd (hqw_.symm.trans h_) (by decide)) (lv_sub hl [0, 1, 5] rfl)
        · have c_74' : r_61.toInt = 32 := i_eq c_74 rfl (by decide)
          refine lv_iinc (v := 4) (lv' := [(5, .int 4), (4, .int 4), (3, .int 8), (2, .int 2), (1, .int fu), (0, .ref h)]) hx hb dX4_readWord_60 hl (k := 0) rfl (by decide) (by decide) rfl (fun ls hl => ?_)
          refine lv_goto (tgt := 30) hx hb dX4_readWord_63 (by decide) ?_
          refine lv_iload hx hb dX4_readWord_30 (lv_at hl 0 rfl) ?_
          refine lv_iload hx hb dX4_readWord_32 (lv_at hl 1 rfl) ?_
          refine lv_icmp_ge (tgt := 66) hx hb dX4_readWord_34 (by decide) (fun c_ => ?_) (fun c_ => absurd (by decide) c_)
          have hqw_ : qj (txb ct sz.toInt) pl.toInt 2 = 4 := wp4_4 (by omega) (by omega) (by omega) (by omega)
          refine lv_iload hx hb dX4_readWord_66 (lv_at hl 0 rfl) ?_
          refine lv_iload hx hb dX4_readWord_68 (lv_at hl 1 rfl) ?_
          refine lv_icmp_ne (tgt := 86) hx hb dX4_readWord_70 (by decide) (fun c_ => absurd (by decide) c_) (fun c_ => ?_)
          refine lv_aload_n hx hb dX4_readWord_73 rfl (lv_at hl 5 rfl) ?_
          refine lv_dup hx hb dX4_readWord_74 rfl ?_
          refine t_get (ci := 4) (v := .int pl) hB hT (ro_ci r_1 rfl) rfl 3 (by decide) k_91 kp0 dX4_readWord_75 ?_
          refine lv_iload hx hb dX4_readWord_78 (lv_at hl 1 rfl) ?_
          refine lv_iadd hx hb dX4_readWord_80 ?_
          refine lv_topi (fun z_76 ez_76 => ?_)
          have e_z_76 : z_76.toInt = pl.toInt + 4 := i_add ez_76 rfl (by decide) (by omega) (by omega)
          refine t_put0 (ci := 4) (v := .int z_76) hB hT (ro_ci r_1 rfl) (ro_n0 r_1 (by decide)) rfl 3 (by decide) k_91 (Or.inl rfl) rfl rfl dX4_readWord_81 (fun H locs hT => ?_)
          have hI : Inv (sF g1 h 3 (.int z_76)) := hI.sF (p_5_3 r_1 (⟨_, rfl⟩))
          have hM : Sm md_s_readWord g (sF g1 h 3 (.int z_76)) := hM.tr hE (Sm_sF (by rw [r_1]; rfl))
          have hE : Ex g (sF g1 h 3 (.int z_76)) := hE
          have hc : (sF g1 h 3 (.int z_76)).2.2.2.1 ba = ct := hc
          refine lv_iload_n hx hb dX4_readWord_84 rfl (lv_at hl 3 rfl) ?_
          have hv_ := wo_2 (T := (txb ct sz.toInt)) (p := pl.toInt) ⟨by omega, by omega, by omega, by omega⟩
          exact t_iret hB hr hT (Nat.le_of_ble_eq_true rfl) (Nat.le_of_ble_eq_true rfl) dX4_readWord_85 ⟨2, z_76, rfl, hI, hE, hM, (Or.inr ⟨by decide, by decide, hv_.1.trans (by decide), (by have q_ := hv_.2; omega), by omega, by omega⟩), sF_eq⟩
set_option maxHeartbeats 4000000 in
set_option maxRecDepth 100000 in
theorem lt_s_readWord_w1 (l : Launch) (D : va_G) (cI cZ cS cR : ClassId) (N0 : NT) (g : GS) (h : Nat) (pl : Int32) (sz : Int32) (ba : Nat) (ct : Nat → Int32) (r_h : g.1 h = 5) (r_ba : g.1 ba = 67) (n_ba : g.2.2.1 ba = 100) (kpl : g.2.1 h 3 = .int pl) (ksz : g.2.1 h 1 = .int sz) (kba : g.2.1 h 0 = .ref ba) (l_pl : 0 ≤ pl.toInt) (u_pl : pl.toInt ≤ 100) (l_sz : 0 ≤ sz.toInt) (u_sz : sz.toInt ≤ 100) (hc_0 : g.2.2.2.1 ba = ct) {p : Program} {e : Env} {s : State} {m : MethodId} {args : Array Value} {below : List Frame} {meth : Method} {c : Code} (hB : Tz p s m meth c args cX4_readWord 6 RX4 D cI cZ cS cR N0) (hr : meth.sig.returnType = (some .int))    : ∀ (g1 : GS) (fu : Int32)  (H : Heap) (locs : List Loc) (ls : Array Slot), Tv D cI cZ cS cR N0 s.heap H locs g1 → Inv g1 → Ex g g1 → Sm md_s_readWord g g1 → 0 ≤ fu.toInt → fu.toInt ≤ 4 → g1.2.1 h 3 = .int pl → (g1.2.2.2.1 ba = ct) → (fu.toInt = fw (txb ct sz.toInt) pl.toInt 1) → (qj (txb ct sz.toInt) pl.toInt 0 ≠ 4) → lv_has ls 6 [(2, .int 1), (1, .int fu), (0, .ref h)] → W p l e (rmx 4 0 0) s m args below meth c H locs 0 0 (MQ below (tQ D cI cZ cS cR N0 (fun v g' => ∃ (r : Int32) (pl2 : Int32), v = some (.int r) ∧ Inv g' ∧ Ex g g' ∧ Sm md_s_readWord g g' ∧ ((r = -1 ∧ wdr (txb ct sz.toInt) pl.toInt = -1 ∧ pl2.toInt = wdp (txb ct sz.toInt) pl.toInt ∧ 0 ≤ pl2.toInt ∧ pl2.toInt ≤ 104) ∨ (0 ≤ r.toInt ∧ r.toInt ≤ 7 ∧ wdr (txb ct sz.toInt) pl.toInt = r.toInt ∧ pl2.toInt = wdp (txb ct sz.toInt) pl.toInt ∧ pl2.toInt ≤ sz.toInt ∧ 0 ≤ pl2.toInt)) ∧ (g'.2.1 h 3 = .int pl2))) args s 0 0 (fun q => N0.1 ≤ q)) (F0 m 4 ls []) := by
  have hx := hB.1
  have hb := hB.2.1
  intro g1 fu H locs ls hT hI hE hM l_fu u_fu kp0 hc hfu hn0 hl
  have r_1 : g1.1 h = 5 := Ex.r hE r_h (by decide)
  have r_2 : g1.1 ba = 67 := Ex.r hE r_ba (by decide)
  have n_3 : g1.2.2.1 ba = 100 := Ex.n hE r_ba (by decide) n_ba
  have kn_4 : g1.2.1 h 1 = .int sz := Sm.v hM r_h (by decide) rfl ksz
  have kn_5 : g1.2.1 h 0 = .ref ba := Sm.v hM r_h (by decide) rfl kba
  refine lv_iload_n hx hb dX4_readWord_4 rfl (lv_at hl 0 rfl) ?_
  refine lv_bipush (v := 8) hx hb dX4_readWord_5 (by decide) ?_
  refine lv_icmp_ge (tgt := 99) hx hb dX4_readWord_7 (by decide) (fun c_ => absurd c_ (by decide)) (fun c_ => ?_)
  refine va_gets hx hb (ux_wb hB) hT.2 hB.2.2.2.1 (hB.2.2.2.2.1 _ k_361) (fun _ h => h) dX4_readWord_10 ?_
  refine lv_iload_n hx hb dX4_readWord_13 rfl (lv_at hl 0 rfl) ?_
  refine va_ti (v := .int 4) hx hb (ux_tab hB) hT.2 (by unfold vp_in; decide) rfl dX4_readWord_14 ?_
  refine lv_istore_n (lv' := [(3, .int 4), (2, .int 1), (1, .int fu), (0, .ref h)]) hx hb dX4_readWord_15 rfl hl (by decide) rfl (fun ls hl => ?_)
  refine va_gets hx hb (ux_wb hB) hT.2 hB.2.2.2.1 (hB.2.2.2.2.1 _ k_361) (fun _ h => h) dX4_readWord_16 ?_
  refine lv_iload_n hx hb dX4_readWord_19 rfl (lv_at hl 1 rfl) ?_
  refine lv_iconst (v := 1) hx hb dX4_readWord_20 (by decide) ?_
  refine lv_iadd hx hb dX4_readWord_21 ?_
  refine x_ev (y := 2) (by decide) ?_
  refine va_ti (v := .int 8) hx hb (ux_tab hB) hT.2 (by unfold vp_in; decide) rfl dX4_readWord_22 ?_
  refine lv_iload_n hx hb dX4_readWord_23 rfl (lv_at hl 0 rfl) ?_
  refine lv_isub hx hb dX4_readWord_24 ?_
  refine x_ev (y := 4) (by decide) ?_
  refine lv_istore (lv' := [(4, .int 4), (3, .int 4), (2, .int 1), (1, .int fu), (0, .ref h)]) hx hb dX4_readWord_25 hl (by decide) rfl (fun ls hl => ?_)
  refine lv_iconst (v := 0) hx hb dX4_readWord_27 (by decide) ?_
  refine lv_istore (lv' := [(5, .int 0), (4, .int 4), (3, .int 4), (2, .int 1), (1, .int fu), (0, .ref h)]) hx hb dX4_readWord_28 hl (by decide) rfl (fun ls hl => ?_)
  refine lv_iload hx hb dX4_readWord_30 (lv_at hl 0 rfl) ?_
  refine lv_iload hx hb dX4_readWord_32 (lv_at hl 1 rfl) ?_
  refine lv_icmp_ge (tgt := 66) hx hb dX4_readWord_34 (by decide) (fun c_ => absurd c_ (by decide)) (fun c_ => ?_)
  refine lv_aload_n hx hb dX4_readWord_37 rfl (lv_at hl 5 rfl) ?_
  refine lv_aload_n hx hb dX4_readWord_38 rfl (lv_at hl 5 rfl) ?_
  refine t_get (ci := 4) (v := .int pl) hB hT (ro_ci r_1 rfl) rfl 3 (by decide) k_91 kp0 dX4_readWord_39 ?_
  refine lv_iload hx hb dX4_readWord_42 (lv_at hl 0 rfl) ?_
  refine lv_iadd hx hb dX4_readWord_44 ?_
  refine lv_topi (fun z_8 ez_8 => ?_)
  have e_z_8 : z_8.toInt = pl.toInt + 0 := i_add ez_8 rfl (by decide) (by omega) (by omega)
  refine t_callV (n := 1) (As := [.int z_8]) (rest := []) (ci := 4) hB hT hl.1 (s_byteAt l D cI cZ cS cR N0 g1 hI h z_8 sz ba ct r_1 r_2 n_3 kn_4 kn_5 (by omega) (by omega) hc) (ro_ci r_1 rfl) rfl k_366 k_58 k_363 k_365 k_3 (by decide +kernel) ⟨(Nat.le_of_ble_eq_true rfl), (Nat.le_of_ble_eq_true rfl)⟩ rfl (Nat.le_of_ble_eq_true rfl) ⟨(Nat.le_of_ble_eq_true rfl), (Nat.le_of_ble_eq_true rfl)⟩ dX4_readWord_45 (fun v g_9 H locs hp hT => ?_)
  obtain ⟨r_10, rfl, eg, f_11, f_12, f_13⟩ := hp
  rw [eg] at hT
  clear eg
  refine W.eq (g2 := F0 m 48 ls [.int r_10]) rfl ?_
  rw [show z_8.toInt = pl.toInt by omega] at f_11
  have f_11' := f_13
  refine va_ldcS hx hb hB.2.2.2.1 (ux_r hB) dX4_readWord_48 ?_
  refine lv_iload_n hx hb dX4_readWord_50 rfl (lv_at hl 2 rfl) ?_
  refine lv_iload hx hb dX4_readWord_51 (lv_at hl 0 rfl) ?_
  refine lv_iadd hx hb dX4_readWord_53 ?_
  refine x_ev (y := 4) (by decide) ?_
  refine t_callT (n := 1) (As := [.int 4]) (rest := [.int r_10]) hB hT hl.1 (u_charAt l D cI cZ cS cR N0 g1 hI 4 (by have q0 : (4 : Int32).toInt = 4 := (by decide); omega) (by have q0 : (4 : Int32).toInt = 4 := (by decide); omega)) k_371 k_66 k_368 k_369 k_370 (by decide +kernel) ⟨(Nat.le_of_ble_eq_true rfl), (Nat.le_of_ble_eq_true rfl)⟩ rfl (Nat.le_of_ble_eq_true rfl) ⟨(Nat.le_of_ble_eq_true rfl), (Nat.le_of_ble_eq_true rfl)⟩ dX4_readWord_54 (fun v g_16 H locs hp hT => ?_)
  obtain ⟨r_17, rfl, eg, f_18, f_19⟩ := hp
  rw [eg] at hT
  clear eg
  refine W.eq (g2 := F0 m 57 ls [.int r_17, .int r_10]) rfl ?_
  have qc_22 : (4 : Int32).toInt = 4 := (by decide)
  have hch_r_17 : r_17 = 97 := f_19.trans (by decide)
  subst hch_r_17
  refine W.eq (g2 := F0 m 57 ls [.int 97, .int r_10]) rfl ?_
  refine lv_icmp_ne (tgt := 66) hx hb dX4_readWord_57 (by decide) (fun c_23 => ?_) (fun c_23 => ?_)
  · have c_23' : r_10.toInt ≠ 97 := i_ne c_23 rfl (by decide)
    have hqw_ : qj (txb ct sz.toInt) pl.toInt 1 = 0 := wp4_0 (by omega)
    refine lv_iload hx hb dX4_readWord_66 (lv_at hl 0 rfl) ?_
    refine lv_iload hx hb dX4_readWord_68 (lv_at hl 1 rfl) ?_
    refine lv_icmp_ne (tgt := 86) hx hb dX4_readWord_70 (by decide) (fun c_ => ?_) (fun c_ => absurd c_ (by decide))
    refine lv_iload_n hx hb dX4_readWord_86 rfl (lv_at hl 4 rfl) ?_
    refine lv_iload hx hb dX4_readWord_87 (lv_at hl 0 rfl) ?_
    refine t_max hB k_408 k_241 k_63 k_242 hl.1 (Nat.le_of_ble_eq_true rfl) (Nat.le_of_ble_eq_true rfl) (Nat.le_of_ble_eq_true rfl) (Nat.le_of_ble_eq_true rfl) rfl dX4_readWord_89 ?_
    refine lv_topi (fun z_24 ez_24 => ?_)
    have e_z_24 := i_max (a := fu.toInt) (b := 0) ez_24 rfl (by decide)
    refine lv_istore_n (lv' := [(1, .int z_24), (5, .int 0), (4, .int 4), (3, .int 4), (2, .int 1), (0, .ref h)]) hx hb dX4_readWord_92 rfl hl (by decide) rfl (fun ls hl => ?_)
    refine lv_iinc (v := 2) (lv' := [(2, .int 2), (1, .int z_24), (5, .int 0), (4, .int 4), (3, .int 4), (0, .ref h)]) hx hb dX4_readWord_93 hl (k := 4) rfl (by decide) (by decide) rfl (fun ls hl => ?_)
    refine lv_goto (tgt := 4) hx hb dX4_readWord_96 (by decide) ?_
    exact lt_s_readWord_w2 l D cI cZ cS cR N0 g h pl sz ba ct r_h r_ba n_ba kpl ksz kba l_pl u_pl l_sz u_sz hc_0 hB hr   g1 z_24 H locs ls hT hI hE hM (by omega) (by omega) kp0 hc (fw_st (k := 1) hfu hqw_ (by omega)) hn0 (fun h_ => absurd (hqw_.symm.trans h_) (by decide)) (lv_sub hl [0, 1, 5] rfl)
  · have c_23' : r_10.toInt = 97 := i_eq c_23 rfl (by decide)
    refine lv_iinc (v := 1) (lv' := [(5, .int 1), (4, .int 4), (3, .int 4), (2, .int 1), (1, .int fu), (0, .ref h)]) hx hb dX4_readWord_60 hl (k := 0) rfl (by decide) (by decide) rfl (fun ls hl => ?_)
    refine lv_goto (tgt := 30) hx hb dX4_readWord_63 (by decide) ?_
    refine lv_iload hx hb dX4_readWord_30 (lv_at hl 0 rfl) ?_
    refine lv_iload hx hb dX4_readWord_32 (lv_at hl 1 rfl) ?_
    refine lv_icmp_ge (tgt := 66) hx hb dX4_readWord_34 (by decide) (fun c_ => absurd c_ (by decide)) (fun c_ => ?_)
    refine lv_aload_n hx hb dX4_readWord_37 rfl (lv_at hl 5 rfl) ?_
    refine lv_aload_n hx hb dX4_readWord_38 rfl (lv_at hl 5 rfl) ?_
    refine t_get (ci := 4) (v := .int pl) hB hT (ro_ci r_1 rfl) rfl 3 (by decide) k_91 kp0 dX4_readWord_39 ?_
    refine lv_iload hx hb dX4_readWord_42 (lv_at hl 0 rfl) ?_
    refine lv_iadd hx hb dX4_readWord_44 ?_
    refine lv_topi (fun z_25 ez_25 => ?_)
    have e_z_25 : z_25.toInt = pl.toInt + 1 := i_add ez_25 rfl (by decide) (by omega) (by omega)
    refine t_callV (n := 1) (As := [.int z_25]) (rest := []) (ci := 4) hB hT hl.1 (s_byteAt l D cI cZ cS cR N0 g1 hI h z_25 sz ba ct r_1 r_2 n_3 kn_4 kn_5 (by omega) (by omega) hc) (ro_ci r_1 rfl) rfl k_366 k_58 k_363 k_365 k_3 (by decide +kernel) ⟨(Nat.le_of_ble_eq_true rfl), (Nat.le_of_ble_eq_true rfl)⟩ rfl (Nat.le_of_ble_eq_true rfl) ⟨(Nat.le_of_ble_eq_true rfl), (Nat.le_of_ble_eq_true rfl)⟩ dX4_readWord_45 (fun v g_26 H locs hp hT => ?_)
    obtain ⟨r_27, rfl, eg, f_28, f_29, f_30⟩ := hp
    rw [eg] at hT
    clear eg
    refine W.eq (g2 := F0 m 48 ls [.int r_27]) rfl ?_
    rw [show z_25.toInt = pl.toInt + 1 by omega] at f_28
    have f_28' := f_30
    refine va_ldcS hx hb hB.2.2.2.1 (ux_r hB) dX4_readWord_48 ?_
    refine lv_iload_n hx hb dX4_readWord_50 rfl (lv_at hl 2 rfl) ?_
    refine lv_iload hx hb dX4_readWord_51 (lv_at hl 0 rfl) ?_
    refine lv_iadd hx hb dX4_readWord_53 ?_
    refine x_ev (y := 5) (by decide) ?_
    refine t_callT (n := 1) (As := [.int 5]) (rest := [.int r_27]) hB hT hl.1 (u_charAt l D cI cZ cS cR N0 g1 hI 5 (by have q0 : (5 : Int32).toInt = 5 := (by decide); omega) (by have q0 : (5 : Int32).toInt = 5 := (by decide); omega)) k_371 k_66 k_368 k_369 k_370 (by decide +kernel) ⟨(Nat.le_of_ble_eq_true rfl), (Nat.le_of_ble_eq_true rfl)⟩ rfl (Nat.le_of_ble_eq_true rfl) ⟨(Nat.le_of_ble_eq_true rfl), (Nat.le_of_ble_eq_true rfl)⟩ dX4_readWord_54 (fun v g_33 H locs hp hT => ?_)
    obtain ⟨r_34, rfl, eg, f_35, f_36⟩ := hp
    rw [eg] at hT
    clear eg
    refine W.eq (g2 := F0 m 57 ls [.int r_34, .int r_27]) rfl ?_
    have qc_39 : (5 : Int32).toInt = 5 := (by decide)
    have hch_r_34 : r_34 = 100 := f_36.trans (by decide)
    subst hch_r_34
    refine W.eq (g2 := F0 m 57 ls [.int 100, .int r_27]) rfl ?_
    refine lv_icmp_ne (tgt := 66) hx hb dX4_readWord_57 (by decide) (fun c_40 => ?_) (fun c_40 => ?_)
    · have c_40' : r_27.toInt ≠ 100 := i_ne c_40 rfl (by decide)
      have hqw_ : qj (txb ct sz.toInt) pl.toInt 1 = 1 := wp4_1 (by omega) (by omega)
      refine lv_iload hx hb dX4_readWord_66 (lv_at hl 0 rfl) ?_
      refine lv_iload hx hb dX4_readWord_68 (lv_at hl 1 rfl) ?_
      refine lv_icmp_ne (tgt := 86) hx hb dX4_readWord_70 (by decide) (fun c_ => ?_) (fun c_ => absurd c_ (by decide))
      refine lv_iload_n hx hb dX4_readWord_86 rfl (lv_at hl 4 rfl) ?_
      refine lv_iload hx hb dX4_readWord_87 (lv_at hl 0 rfl) ?_
      refine t_max hB k_408 k_241 k_63 k_242 hl.1 (Nat.le_of_ble_eq_true rfl) (Nat.le_of_ble_eq_true rfl) (Nat.le_of_ble_eq_true rfl) (Nat.le_of_ble_eq_true rfl) rfl dX4_readWord_89 ?_
      refine lv_topi (fun z_41 ez_41 => ?_)
      have e_z_41 := i_max (a := fu.toInt) (b := 1) ez_41 rfl (by decide)
      refine lv_istore_n (lv' := [(1, .int z_41), (5, .int 1), (4, .int 4), (3, .int 4), (2, .int 1), (0, .ref h)]) hx hb dX4_readWord_92 rfl hl (by decide) rfl (fun ls hl => ?_)
      refine lv_iinc (v := 2) (lv' := [(2, .int 2), (1, .int z_41), (5, .int 1), (4, .int 4), (3, .int 4), (0, .ref h)]) hx hb dX4_readWord_93 hl (k := 4) rfl (by decide) (by decide) rfl (fun ls hl => ?_)
      refine lv_goto (tgt := 4) hx hb dX4_readWord_96 (by decide) ?_
      exact lt_s_readWord_w2 l D cI cZ cS cR N0 g h pl sz ba ct r_h r_ba n_ba kpl ksz kba l_pl u_pl l_sz u_sz hc_0 hB hr   g1 z_41 H locs ls hT hI hE hM (by omega) (by omega) kp0 hc (fw_st (k := 1) hfu hqw_ (by omega)) hn0 (fun h_ => absurd (hqw_.symm.trans h_) (by decide)) (lv_sub hl [0, 1, 5] rfl)
    · have c_40' : r_27.toInt = 100 := i_eq c_40 rfl (by decide)
      refine lv_iinc (v := 2) (lv' := [(5, .int 2), (4, .int 4), (3, .int 4), (2, .int 1), (1, .int fu), (0, .ref h)]) hx hb dX4_readWord_60 hl (k := 0) rfl (by decide) (by decide) rfl (fun ls hl => ?_)
      refine lv_goto (tgt := 30) hx hb dX4_readWord_63 (by decide) ?_
      refine lv_iload hx hb dX4_readWord_30 (lv_at hl 0 rfl) ?_
      refine lv_iload hx hb dX4_readWord_32 (lv_at hl 1 rfl) ?_
      refine lv_icmp_ge (tgt := 66) hx hb dX4_readWord_34 (by decide) (fun c_ => absurd c_ (by decide)) (fun c_ => ?_)
      refine lv_aload_n hx hb dX4_readWord_37 rfl (lv_at hl 5 rfl) ?_
      refine lv_aload_n hx hb dX4_readWord_38 rfl (lv_at hl 5 rfl) ?_
      refine t_get (ci := 4) (v := .int pl) hB hT (ro_ci r_1 rfl) rfl 3 (by decide) k_91 kp0 dX4_readWord_39 ?_
      refine lv_iload hx hb dX4_readWord_42 (lv_at hl 0 rfl) ?_
      refine lv_iadd hx hb dX4_readWord_44 ?_
      refine lv_topi (fun z_42 ez_42 => ?_)
      have e_z_42 : z_42.toInt = pl.toInt + 2 := i_add ez_42 rfl (by decide) (by omega) (by omega)
      refine t_callV (n := 1) (As := [.int z_42]) (rest := []) (ci := 4) hB hT hl.1 (s_byteAt l D cI cZ cS cR N0 g1 hI h z_42 sz ba ct r_1 r_2 n_3 kn_4 kn_5 (by omega) (by omega) hc) (ro_ci r_1 rfl) rfl k_366 k_58 k_363 k_365 k_3 (by decide +kernel) ⟨(Nat.le_of_ble_eq_true rfl), (Nat.le_of_ble_eq_true rfl)⟩ rfl (Nat.le_of_ble_eq_true rfl) ⟨(Nat.le_of_ble_eq_true rfl), (Nat.le_of_ble_eq_true rfl)⟩ dX4_readWord_45 (fun v g_43 H locs hp hT => ?_)
      obtain ⟨r_44, rfl, eg, f_45, f_46, f_47⟩ := hp
      rw [eg] at hT
      clear eg
      refine W.eq (g2 := F0 m 48 ls [.int r_44]) rfl ?_
      rw [show z_42.toInt = pl.toInt + 2 by omega] at f_45
      have f_45' := f_47
      refine va_ldcS hx hb hB.2.2.2.1 (ux_r hB) dX4_readWord_48 ?_
      refine lv_iload_n hx hb dX4_readWord_50 rfl (lv_at hl 2 rfl) ?_
      refine lv_iload hx hb dX4_readWord_51 (lv_at hl 0 rfl) ?_
      refine lv_iadd hx hb dX4_readWord_53 ?_
      refine x_ev (y := 6) (by decide) ?_
      refine t_callT (n := 1) (As := [.int 6]) (rest := [.int r_44]) hB hT hl.1 (u_charAt l D cI cZ cS cR N0 g1 hI 6 (by have q0 : (6 : Int32).toInt = 6 := (by decide); omega) (by have q0 : (6 : Int32).toInt = 6 := (by decide); omega)) k_371 k_66 k_368 k_369 k_370 (by decide +kernel) ⟨(Nat.le_of_ble_eq_true rfl), (Nat.le_of_ble_eq_true rfl)⟩ rfl (Nat.le_of_ble_eq_true rfl) ⟨(Nat.le_of_ble_eq_true rfl), (Nat.le_of_ble_eq_true rfl)⟩ dX4_readWord_54 (fun v g_50 H locs hp hT => ?_)
      obtain ⟨r_51, rfl, eg, f_52, f_53⟩ := hp
      rw [eg] at hT
      clear eg
      refine W.eq (g2 := F0 m 57 ls [.int r_51, .int r_44]) rfl ?_
      have qc_56 : (6 : Int32).toInt = 6 := (by decide)
      have hch_r_51 : r_51 = 100 := f_53.trans (by decide)
      subst hch_r_51
      refine W.eq (g2 := F0 m 57 ls [.int 100, .int r_44]) rfl ?_
      refine lv_icmp_ne (tgt := 66) hx hb dX4_readWord_57 (by decide) (fun c_57 => ?_) (fun c_57 => ?_)
      · have c_57' : r_44.toInt ≠ 100 := i_ne c_57 rfl (by decide)
        have hqw_ : qj (txb ct sz.toInt) pl.toInt 1 = 2 := wp4_2 (by omega) (by omega) (by omega)
        refine lv_iload hx hb dX4_readWord_66 (lv_at hl 0 rfl) ?_
        refine lv_iload hx hb dX4_readWord_68 (lv_at hl 1 rfl) ?_
        refine lv_icmp_ne (tgt := 86) hx hb dX4_readWord_70 (by decide) (fun c_ => ?_) (fun c_ => absurd c_ (by decide))
        refine lv_iload_n hx hb dX4_readWord_86 rfl (lv_at hl 4 rfl) ?_
        refine lv_iload hx hb dX4_readWord_87 (lv_at hl 0 rfl) ?_
        refine t_max hB k_408 k_241 k_63 k_242 hl.1 (Nat.le_of_ble_eq_true rfl) (Nat.le_of_ble_eq_true rfl) (Nat.le_of_ble_eq_true rfl) (Nat.le_of_ble_eq_true rfl) rfl dX4_readWord_89 ?_
        refine lv_topi (fun z_58 ez_58 => ?_)
        have e_z_58 := i_max (a := fu.toInt) (b := 2) ez_58 rfl (by decide)
        refine lv_istore_n (lv' := [(1, .int z_58), (5, .int 2), (4, .int 4), (3, .int 4), (2, .int 1), (0, .ref h)]) hx hb dX4_readWord_92 rfl hl (by decide) rfl (fun ls hl => ?_)
        refine lv_iinc (v := 2) (lv' := [(2, .int 2), (1, .int z_58), (5, .int 2), (4, .int 4), (3, .int 4), (0, .ref h)]) hx hb dX4_readWord_93 hl (k := 4) rfl (by decide) (by decide) rfl (fun ls hl => ?_)
        refine lv_goto (tgt := 4) hx hb dX4_readWord_96 (by decide) ?_
        exact lt_s_readWord_w2 l D cI cZ cS cR N0 g h pl sz ba ct r_h r_ba n_ba kpl ksz kba l_pl u_pl l_sz u_sz hc_0 hB hr   g1 z_58 H locs ls hT hI hE hM (by omega) (by omega) kp0 hc (fw_st (k := 1) hfu hqw_ (by omega)) hn0 (fun h_ => absurd (hqw_.symm.trans h_) (by decide)) (lv_sub hl [0, 1, 5] rfl)
      · have c_57' : r_44.toInt = 100 := i_eq c_57 rfl (by decide)
        refine lv_iinc (v := 3) (lv' := [(5, .int 3), (4, .int 4), (3, .int 4), (2, .int 1), (1, .int fu), (0, .ref h)]) hx hb dX4_readWord_60 hl (k := 0) rfl (by decide) (by decide) rfl (fun ls hl => ?_)
        refine lv_goto (tgt := 30) hx hb dX4_readWord_63 (by decide) ?_
        refine lv_iload hx hb dX4_readWord_30 (lv_at hl 0 rfl) ?_
        refine lv_iload hx hb dX4_readWord_32 (lv_at hl 1 rfl) ?_
        refine lv_icmp_ge (tgt := 66) hx hb dX4_readWord_34 (by decide) (fun c_ => absurd c_ (by decide)) (fun c_ => ?_)
        refine lv_aload_n hx hb dX4_readWord_37 rfl (lv_at hl 5 rfl) ?_
        refine lv_aload_n hx hb dX4_readWord_38 rfl (lv_at hl 5 rfl) ?_
        refine t_get (ci := 4) (v := .int pl) hB hT (ro_ci r_1 rfl) rfl 3 (by decide) k_91 kp0 dX4_readWord_39 ?_
        refine lv_iload hx hb dX4_readWord_42 (lv_at hl 0 rfl) ?_
        refine lv_iadd hx hb dX4_readWord_44 ?_
        refine lv_topi (fun z_59 ez_59 => ?_)
        have e_z_59 : z_59.toInt = pl.toInt + 3 := i_add ez_59 rfl (by decide) (by omega) (by omega)
        refine t_callV (n := 1) (As := [.int z_59]) (rest := []) (ci := 4) hB hT hl.1 (s_byteAt l D cI cZ cS cR N0 g1 hI h z_59 sz ba ct r_1 r_2 n_3 kn_4 kn_5 (by omega) (by omega) hc) (ro_ci r_1 rfl) rfl k_366 k_58 k_363 k_365 k_3 (by decide +kernel) ⟨(Nat.le_of_ble_eq_true rfl), (Nat.le_of_ble_eq_true rfl)⟩ rfl (Nat.le_of_ble_eq_true rfl) ⟨(Nat.le_of_ble_eq_true rfl), (Nat.le_of_ble_eq_true rfl)⟩ dX4_readWord_45 (fun v g_60 H locs hp hT => ?_)
        obtain ⟨r_61, rfl, eg, f_62, f_63, f_64⟩ := hp
        rw [eg] at hT
        clear eg
        refine W.eq (g2 := F0 m 48 ls [.int r_61]) rfl ?_
        rw [show z_59.toInt = pl.toInt + 3 by omega] at f_62
        have f_62' := f_64
        refine va_ldcS hx hb hB.2.2.2.1 (ux_r hB) dX4_readWord_48 ?_
        refine lv_iload_n hx hb dX4_readWord_50 rfl (lv_at hl 2 rfl) ?_
        refine lv_iload hx hb dX4_readWord_51 (lv_at hl 0 rfl) ?_
        refine lv_iadd hx hb dX4_readWord_53 ?_
        refine x_ev (y := 7) (by decide) ?_
        refine t_callT (n := 1) (As := [.int 7]) (rest := [.int r_61]) hB hT hl.1 (u_charAt l D cI cZ cS cR N0 g1 hI 7 (by have q0 : (7 : Int32).toInt = 7 := (by decide); omega) (by have q0 : (7 : Int32).toInt = 7 := (by decide); omega)) k_371 k_66 k_368 k_369 k_370 (by decide +kernel) ⟨(Nat.le_of_ble_eq_true rfl), (Nat.le_of_ble_eq_true rfl)⟩ rfl (Nat.le_of_ble_eq_true rfl) ⟨(Nat.le_of_ble_eq_true rfl), (Nat.le_of_ble_eq_true rfl)⟩ dX4_readWord_54 (fun v g_67 H locs hp hT => ?_)
        obtain ⟨r_68, rfl, eg, f_69, f_70⟩ := hp
        rw [eg] at hT
        clear eg
        refine W.eq (g2 := F0 m 57 ls [.int r_68, .int r_61]) rfl ?_
        have qc_73 : (7 : Int32).toInt = 7 := (by decide)
        have hch_r_68 : r_68 = 32 := f_70.trans (by decide)
        subst hch_r_68
        refine W.eq (g2 := F0 m 57 ls [.int 32, .int r_61]) rfl ?_
        refine lv_icmp_ne (tgt := 66) hx hb dX4_readWord_57 (by decide) (fun c_74 => ?_) (fun c_74 => ?_)
        · have c_74' : r_61.toInt ≠ 32 := i_ne c_74 rfl (by decide)
          have hqw_ : qj (txb ct sz.toInt) pl.toInt 1 = 3 := wp4_3 (by omega) (by omega) (by omega) (by omega)
          refine lv_iload hx hb dX4_readWord_66 (lv_at hl 0 rfl) ?_
          refine lv_iload hx hb dX4_readWord_68 (lv_at hl 1 rfl) ?_
          refine lv_icmp_ne (tgt := 86) hx hb dX4_readWord_70 (by decide) (fun c_ => ?_) (fun c_ => absurd c_ (by decide))
          refine lv_iload_n hx hb dX4_readWord_86 rfl (lv_at hl 4 rfl) ?_
          refine lv_iload hx hb dX4_readWord_87 (lv_at hl 0 rfl) ?_
          refine t_max hB k_408 k_241 k_63 k_242 hl.1 (Nat.le_of_ble_eq_true rfl) (Nat.le_of_ble_eq_true rfl) (Nat.le_of_ble_eq_true rfl) (Nat.le_of_ble_eq_true rfl) rfl dX4_readWord_89 ?_
          refine lv_topi (fun z_75 ez_75 => ?_)
          have e_z_75 := i_max (a := fu.toInt) (b := 3) ez_75 rfl (by decide)
          refine lv_istore_n (lv' := [(1, .int z_75), (5, .int 3), (4, .int 4), (3, .int 4), (2, .int 1), (0, .ref h)]) hx hb dX4_readWord_92 rfl hl (by decide) rfl (fun ls hl => ?_)
          refine lv_iinc (v := 2) (lv' := [(2, .int 2), (1, .int z_75), (5, .int 3), (4, .int 4), (3, .int 4), (0, .ref h)]) hx hb dX4_readWord_93 hl (k := 4) rfl (by decide) (by decide) rfl (fun ls hl => ?_)
          refine lv_goto (tgt := 4) hx hb dX4_readWord_96 (by decide) ?_
          exact lt_s_readWord_w2 l D cI cZ cS cR N0 g h pl sz ba ct r_h r_ba n_ba kpl ksz kba l_pl u_pl l_sz u_sz hc_0 hB hr   g1 z_75 H locs ls hT hI hE hM (by omega) (by omega) kp0 hc (fw_st (k := 1) hfu hqw_ (by omega)) hn0 (fun h_ => absurd (hqw_.symm.trans h_) (by decide)) (lv_sub hl [0, 1, 5] rfl)
        · have c_74' : r_61.toInt = 32 := i_eq c_74 rfl (by decide)
          refine lv_iinc (v := 4) (lv' := [(5, .int 4), (4, .int 4), (3, .int 4), (2, .int 1), (1, .int fu), (0, .ref h)]) hx hb dX4_readWord_60 hl (k := 0) rfl (by decide) (by decide) rfl (fun ls hl => ?_)
          refine lv_goto (tgt := 30) hx hb dX4_readWord_63 (by decide) ?_
          refine lv_iload hx hb dX4_readWord_30 (lv_at hl 0 rfl) ?_
          refine lv_iload hx hb dX4_readWord_32 (lv_at hl 1 rfl) ?_
          refine lv_icmp_ge (tgt := 66) hx hb dX4_readWord_34 (by decide) (fun c_ => ?_) (fun c_ => absurd (by decide) c_)
          have hqw_ : qj (txb ct sz.toInt) pl.toInt 1 = 4 := wp4_4 (by omega) (by omega) (by omega) (by omega)
          refine lv_iload hx hb dX4_readWord_66 (lv_at hl 0 rfl) ?_
          refine lv_iload hx hb dX4_readWord_68 (lv_at hl 1 rfl) ?_
          refine lv_icmp_ne (tgt := 86) hx hb dX4_readWord_70 (by decide) (fun c_ => absurd (by decide) c_) (fun c_ => ?_)
          refine lv_aload_n hx hb dX4_readWord_73 rfl (lv_at hl 5 rfl) ?_
          refine lv_dup hx hb dX4_readWord_74 rfl ?_
          refine t_get (ci := 4) (v := .int pl) hB hT (ro_ci r_1 rfl) rfl 3 (by decide) k_91 kp0 dX4_readWord_75 ?_
          refine lv_iload hx hb dX4_readWord_78 (lv_at hl 1 rfl) ?_
          refine lv_iadd hx hb dX4_readWord_80 ?_
          refine lv_topi (fun z_76 ez_76 => ?_)
          have e_z_76 : z_76.toInt = pl.toInt + 4 := i_add ez_76 rfl (by decide) (by omega) (by omega)
          refine t_put0 (ci := 4) (v := .int z_76) hB hT (ro_ci r_1 rfl) (ro_n0 r_1 (by decide)) rfl 3 (by decide) k_91 (Or.inl rfl) rfl rfl dX4_readWord_81 (fun H locs hT => ?_)
          have hI : Inv (sF g1 h 3 (.int z_76)) := hI.sF (p_5_3 r_1 (⟨_, rfl⟩))
          have hM : Sm md_s_readWord g (sF g1 h 3 (.int z_76)) := hM.tr hE (Sm_sF (by rw [r_1]; rfl))
          have hE : Ex g (sF g1 h 3 (.int z_76)) := hE
          have hc : (sF g1 h 3 (.int z_76)).2.2.2.1 ba = ct := hc
          refine lv_iload_n hx hb dX4_readWord_84 rfl (lv_at hl 3 rfl) ?_
          have hv_ := wo_1 (T := (txb ct sz.toInt)) (p := pl.toInt) ⟨by omega, by omega, by omega, by omega⟩
          exact t_iret hB hr hT (Nat.le_of_ble_eq_true rfl) (Nat.le_of_ble_eq_true rfl) dX4_readWord_85 ⟨1, z_76, rfl, hI, hE, hM, (Or.inr ⟨by decide, by decide, hv_.1.trans (by decide), (by have q_ := hv_.2; omega), by omega, by omega⟩), sF_eq⟩
set_option maxHeartbeats 4000000 in
set_option maxRecDepth 100000 in
theorem lt_s_readWord_w0 (l : Launch) (D : va_G) (cI cZ cS cR : ClassId) (N0 : NT) (g : GS) (h : Nat) (pl : Int32) (sz : Int32) (ba : Nat) (ct : Nat → Int32) (r_h : g.1 h = 5) (r_ba : g.1 ba = 67) (n_ba : g.2.2.1 ba = 100) (kpl : g.2.1 h 3 = .int pl) (ksz : g.2.1 h 1 = .int sz) (kba : g.2.1 h 0 = .ref ba) (l_pl : 0 ≤ pl.toInt) (u_pl : pl.toInt ≤ 100) (l_sz : 0 ≤ sz.toInt) (u_sz : sz.toInt ≤ 100) (hc_0 : g.2.2.2.1 ba = ct) {p : Program} {e : Env} {s : State} {m : MethodId} {args : Array Value} {below : List Frame} {meth : Method} {c : Code} (hB : Tz p s m meth c args cX4_readWord 6 RX4 D cI cZ cS cR N0) (hr : meth.sig.returnType = (some .int))    : ∀ (g1 : GS) (fu : Int32)  (H : Heap) (locs : List Loc) (ls : Array Slot), Tv D cI cZ cS cR N0 s.heap H locs g1 → Inv g1 → Ex g g1 → Sm md_s_readWord g g1 → 0 ≤ fu.toInt → fu.toInt ≤ 4 → g1.2.1 h 3 = .int pl → (g1.2.2.2.1 ba = ct) → (fu.toInt = fw (txb ct sz.toInt) pl.toInt 0) → lv_has ls 6 [(2, .int 0), (1, .int fu), (0, .ref h)] → W p l e (rmx 4 0 0) s m args below meth c H locs 0 0 (MQ below (tQ D cI cZ cS cR N0 (fun v g' => ∃ (r : Int32) (pl2 : Int32), v = some (.int r) ∧ Inv g' ∧ Ex g g' ∧ Sm md_s_readWord g g' ∧ ((r = -1 ∧ wdr (txb ct sz.toInt) pl.toInt = -1 ∧ pl2.toInt = wdp (txb ct sz.toInt) pl.toInt ∧ 0 ≤ pl2.toInt ∧ pl2.toInt ≤ 104) ∨ (0 ≤ r.toInt ∧ r.toInt ≤ 7 ∧ wdr (txb ct sz.toInt) pl.toInt = r.toInt ∧ pl2.toInt = wdp (txb ct sz.toInt) pl.toInt ∧ pl2.toInt ≤ sz.toInt ∧ 0 ≤ pl2.toInt)) ∧ (g'.2.1 h 3 = .int pl2))) args s 0 0 (fun q => N0.1 ≤ q)) (F0 m 4 ls []) := by
  have hx := hB.1
  have hb := hB.2.1
  intro g1 fu H locs ls hT hI hE hM l_fu u_fu kp0 hc hfu hl
  have r_1 : g1.1 h = 5 := Ex.r hE r_h (by decide)
  have r_2 : g1.1 ba = 67 := Ex.r hE r_ba (by decide)
  have n_3 : g1.2.2.1 ba = 100 := Ex.n hE r_ba (by decide) n_ba
  have kn_4 : g1.2.1 h 1 = .int sz := Sm.v hM r_h (by decide) rfl ksz
  have kn_5 : g1.2.1 h 0 = .ref ba := Sm.v hM r_h (by decide) rfl kba
  refine lv_iload_n hx hb dX4_readWord_4 rfl (lv_at hl 0 rfl) ?_
  refine lv_bipush (v := 8) hx hb dX4_readWord_5 (by decide) ?_
  refine lv_icmp_ge (tgt := 99) hx hb dX4_readWord_7 (by decide) (fun c_ => absurd c_ (by decide)) (fun c_ => ?_)
  refine va_gets hx hb (ux_wb hB) hT.2 hB.2.2.2.1 (hB.2.2.2.2.1 _ k_361) (fun _ h => h) dX4_readWord_10 ?_
  refine lv_iload_n hx hb dX4_readWord_13 rfl (lv_at hl 0 rfl) ?_
  refine va_ti (v := .int 0) hx hb (ux_tab hB) hT.2 (by unfold vp_in; decide) rfl dX4_readWord_14 ?_
  refine lv_istore_n (lv' := [(3, .int 0), (2, .int 0), (1, .int fu), (0, .ref h)]) hx hb dX4_readWord_15 rfl hl (by decide) rfl (fun ls hl => ?_)
  refine va_gets hx hb (ux_wb hB) hT.2 hB.2.2.2.1 (hB.2.2.2.2.1 _ k_361) (fun _ h => h) dX4_readWord_16 ?_
  refine lv_iload_n hx hb dX4_readWord_19 rfl (lv_at hl 1 rfl) ?_
  refine lv_iconst (v := 1) hx hb dX4_readWord_20 (by decide) ?_
  refine lv_iadd hx hb dX4_readWord_21 ?_
  refine x_ev (y := 1) (by decide) ?_
  refine va_ti (v := .int 4) hx hb (ux_tab hB) hT.2 (by unfold vp_in; decide) rfl dX4_readWord_22 ?_
  refine lv_iload_n hx hb dX4_readWord_23 rfl (lv_at hl 0 rfl) ?_
  refine lv_isub hx hb dX4_readWord_24 ?_
  refine x_ev (y := 4) (by decide) ?_
  refine lv_istore (lv' := [(4, .int 4), (3, .int 0), (2, .int 0), (1, .int fu), (0, .ref h)]) hx hb dX4_readWord_25 hl (by decide) rfl (fun ls hl => ?_)
  refine lv_iconst (v := 0) hx hb dX4_readWord_27 (by decide) ?_
  refine lv_istore (lv' := [(5, .int 0), (4, .int 4), (3, .int 0), (2, .int 0), (1, .int fu), (0, .ref h)]) hx hb dX4_readWord_28 hl (by decide) rfl (fun ls hl => ?_)
  refine lv_iload hx hb dX4_readWord_30 (lv_at hl 0 rfl) ?_
  refine lv_iload hx hb dX4_readWord_32 (lv_at hl 1 rfl) ?_
  refine lv_icmp_ge (tgt := 66) hx hb dX4_readWord_34 (by decide) (fun c_ => absurd c_ (by decide)) (fun c_ => ?_)
  refine lv_aload_n hx hb dX4_readWord_37 rfl (lv_at hl 5 rfl) ?_
  refine lv_aload_n hx hb dX4_readWord_38 rfl (lv_at hl 5 rfl) ?_
  refine t_get (ci := 4) (v := .int pl) hB hT (ro_ci r_1 rfl) rfl 3 (by decide) k_91 kp0 dX4_readWord_39 ?_
  refine lv_iload hx hb dX4_readWord_42 (lv_at hl 0 rfl) ?_
  refine lv_iadd hx hb dX4_readWord_44 ?_
  refine lv_topi (fun z_8 ez_8 => ?_)
  have e_z_8 : z_8.toInt = pl.toInt + 0 := i_add ez_8 rfl (by decide) (by omega) (by omega)
  refine t_callV (n := 1) (As := [.int z_8]) (rest := []) (ci := 4) hB hT hl.1 (s_byteAt l D cI cZ cS cR N0 g1 hI h z_8 sz ba ct r_1 r_2 n_3 kn_4 kn_5 (by omega) (by omega) hc) (ro_ci r_1 rfl) rfl k_366 k_58 k_363 k_365 k_3 (by decide +kernel) ⟨(Nat.le_of_ble_eq_true rfl), (Nat.le_of_ble_eq_true rfl)⟩ rfl (Nat.le_of_ble_eq_true rfl) ⟨(Nat.le_of_ble_eq_true rfl), (Nat.le_of_ble_eq_true rfl)⟩ dX4_readWord_45 (fun v g_9 H locs hp hT => ?_)
  obtain ⟨r_10, rfl, eg, f_11, f_12, f_13⟩ := hp
  rw [eg] at hT
  clear eg
  refine W.eq (g2 := F0 m 48 ls [.int r_10]) rfl ?_
  rw [show z_8.toInt = pl.toInt by omega] at f_11
  have f_11' := f_13
  refine va_ldcS hx hb hB.2.2.2.1 (ux_r hB) dX4_readWord_48 ?_
  refine lv_iload_n hx hb dX4_readWord_50 rfl (lv_at hl 2 rfl) ?_
  refine lv_iload hx hb dX4_readWord_51 (lv_at hl 0 rfl) ?_
  refine lv_iadd hx hb dX4_readWord_53 ?_
  refine x_ev (y := 0) (by decide) ?_
  refine t_callT (n := 1) (As := [.int 0]) (rest := [.int r_10]) hB hT hl.1 (u_charAt l D cI cZ cS cR N0 g1 hI 0 (by have q0 : (0 : Int32).toInt = 0 := (by decide); omega) (by have q0 : (0 : Int32).toInt = 0 := (by decide); omega)) k_371 k_66 k_368 k_369 k_370 (by decide +kernel) ⟨(Nat.le_of_ble_eq_true rfl), (Nat.le_of_ble_eq_true rfl)⟩ rfl (Nat.le_of_ble_eq_true rfl) ⟨(Nat.le_of_ble_eq_true rfl), (Nat.le_of_ble_eq_true rfl)⟩ dX4_readWord_54 (fun v g_16 H locs hp hT => ?_)
  obtain ⟨r_17, rfl, eg, f_18, f_19⟩ := hp
  rw [eg] at hT
  clear eg
  refine W.eq (g2 := F0 m 57 ls [.int r_17, .int r_10]) rfl ?_
  have qc_22 : (0 : Int32).toInt = 0 := (by decide)
  have hch_r_17 : r_17 = 115 := f_19.trans (by decide)
  subst hch_r_17
  refine W.eq (g2 := F0 m 57 ls [.int 115, .int r_10]) rfl ?_
  refine lv_icmp_ne (tgt := 66) hx hb dX4_readWord_57 (by decide) (fun c_23 => ?_) (fun c_23 => ?_)
  · have c_23' : r_10.toInt ≠ 115 := i_ne c_23 rfl (by decide)
    have hqw_ : qj (txb ct sz.toInt) pl.toInt 0 = 0 := wp4_0 (by omega)
    refine lv_iload hx hb dX4_readWord_66 (lv_at hl 0 rfl) ?_
    refine lv_iload hx hb dX4_readWord_68 (lv_at hl 1 rfl) ?_
    refine lv_icmp_ne (tgt := 86) hx hb dX4_readWord_70 (by decide) (fun c_ => ?_) (fun c_ => absurd c_ (by decide))
    refine lv_iload_n hx hb dX4_readWord_86 rfl (lv_at hl 4 rfl) ?_
    refine lv_iload hx hb dX4_readWord_87 (lv_at hl 0 rfl) ?_
    refine t_max hB k_408 k_241 k_63 k_242 hl.1 (Nat.le_of_ble_eq_true rfl) (Nat.le_of_ble_eq_true rfl) (Nat.le_of_ble_eq_true rfl) (Nat.le_of_ble_eq_true rfl) rfl dX4_readWord_89 ?_
    refine lv_topi (fun z_24 ez_24 => ?_)
    have e_z_24 := i_max (a := fu.toInt) (b := 0) ez_24 rfl (by decide)
    refine lv_istore_n (lv' := [(1, .int z_24), (5, .int 0), (4, .int 4), (3, .int 0), (2, .int 0), (0, .ref h)]) hx hb dX4_readWord_92 rfl hl (by decide) rfl (fun ls hl => ?_)
    refine lv_iinc (v := 1) (lv' := [(2, .int 1), (1, .int z_24), (5, .int 0), (4, .int 4), (3, .int 0), (0, .ref h)]) hx hb dX4_readWord_93 hl (k := 4) rfl (by decide) (by decide) rfl (fun ls hl => ?_)
    refine lv_goto (tgt := 4) hx hb dX4_readWord_96 (by decide) ?_
    exact lt_s_readWord_w1 l D cI cZ cS cR N0 g h pl sz ba ct r_h r_ba n_ba kpl ksz kba l_pl u_pl l_sz u_sz hc_0 hB hr   g1 z_24 H locs ls hT hI hE hM (by omega) (by omega) kp0 hc (fw_st (k := 0) hfu hqw_ (by omega)) (fun h_ => absurd (hqw_.symm.trans h_) (by decide)) (lv_sub hl [0, 1, 5] rfl)
  · have c_23' : r_10.toInt = 115 := i_eq c_23 rfl (by decide)
    refine lv_iinc (v := 1) (lv' := [(5, .int 1), (4, .int 4), (3, .int 0), (2, .int 0), (1, .int fu), (0, .ref h)]) hx hb dX4_readWord_60 hl (k := 0) rfl (by decide) (by decide) rfl (fun ls hl => ?_)
    refine lv_goto (tgt := 30) hx hb dX4_readWord_63 (by decide) ?_
    refine lv_iload hx hb dX4_readWord_30 (lv_at hl 0 rfl) ?_
    refine lv_iload hx hb dX4_readWord_32 (lv_at hl 1 rfl) ?_
    refine lv_icmp_ge (tgt := 66) hx hb dX4_readWord_34 (by decide) (fun c_ => absurd c_ (by decide)) (fun c_ => ?_)
    refine lv_aload_n hx hb dX4_readWord_37 rfl (lv_at hl 5 rfl) ?_
    refine lv_aload_n hx hb dX4_readWord_38 rfl (lv_at hl 5 rfl) ?_
    refine t_get (ci := 4) (v := .int pl) hB hT (ro_ci r_1 rfl) rfl 3 (by decide) k_91 kp0 dX4_readWord_39 ?_
    refine lv_iload hx hb dX4_readWord_42 (lv_at hl 0 rfl) ?_
    refine lv_iadd hx hb dX4_readWord_44 ?_
    refine lv_topi (fun z_25 ez_25 => ?_)
    have e_z_25 : z_25.toInt = pl.toInt + 1 := i_add ez_25 rfl (by decide) (by omega) (by omega)
    refine t_callV (n := 1) (As := [.int z_25]) (rest := []) (ci := 4) hB hT hl.1 (s_byteAt l D cI cZ cS cR N0 g1 hI h z_25 sz ba ct r_1 r_2 n_3 kn_4 kn_5 (by omega) (by omega) hc) (ro_ci r_1 rfl) rfl k_366 k_58 k_363 k_365 k_3 (by decide +kernel) ⟨(Nat.le_of_ble_eq_true rfl), (Nat.le_of_ble_eq_true rfl)⟩ rfl (Nat.le_of_ble_eq_true rfl) ⟨(Nat.le_of_ble_eq_true rfl), (Nat.le_of_ble_eq_true rfl)⟩ dX4_readWord_45 (fun v g_26 H locs hp hT => ?_)
    obtain ⟨r_27, rfl, eg, f_28, f_29, f_30⟩ := hp
    rw [eg] at hT
    clear eg
    refine W.eq (g2 := F0 m 48 ls [.int r_27]) rfl ?_
    rw [show z_25.toInt = pl.toInt + 1 by omega] at f_28
    have f_28' := f_30
    refine va_ldcS hx hb hB.2.2.2.1 (ux_r hB) dX4_readWord_48 ?_
    refine lv_iload_n hx hb dX4_readWord_50 rfl (lv_at hl 2 rfl) ?_
    refine lv_iload hx hb dX4_readWord_51 (lv_at hl 0 rfl) ?_
    refine lv_iadd hx hb dX4_readWord_53 ?_
    refine x_ev (y := 1) (by decide) ?_
    refine t_callT (n := 1) (As := [.int 1]) (rest := [.int r_27]) hB hT hl.1 (u_charAt l D cI cZ cS cR N0 g1 hI 1 (by have q0 : (1 : Int32).toInt = 1 := (by decide); omega) (by have q0 : (1 : Int32).toInt = 1 := (by decide); omega)) k_371 k_66 k_368 k_369 k_370 (by decide +kernel) ⟨(Nat.le_of_ble_eq_true rfl), (Nat.le_of_ble_eq_true rfl)⟩ rfl (Nat.le_of_ble_eq_true rfl) ⟨(Nat.le_of_ble_eq_true rfl), (Nat.le_of_ble_eq_true rfl)⟩ dX4_readWord_54 (fun v g_33 H locs hp hT => ?_)
    obtain ⟨r_34, rfl, eg, f_35, f_36⟩ := hp
    rw [eg] at hT
    clear eg
    refine W.eq (g2 := F0 m 57 ls [.int r_34, .int r_27]) rfl ?_
    have qc_39 : (1 : Int32).toInt = 1 := (by decide)
    have hch_r_34 : r_34 = 101 := f_36.trans (by decide)
    subst hch_r_34
    refine W.eq (g2 := F0 m 57 ls [.int 101, .int r_27]) rfl ?_
    refine lv_icmp_ne (tgt := 66) hx hb dX4_readWord_57 (by decide) (fun c_40 => ?_) (fun c_40 => ?_)
    · have c_40' : r_27.toInt ≠ 101 := i_ne c_40 rfl (by decide)
      have hqw_ : qj (txb ct sz.toInt) pl.toInt 0 = 1 := wp4_1 (by omega) (by omega)
      refine lv_iload hx hb dX4_readWord_66 (lv_at hl 0 rfl) ?_
      refine lv_iload hx hb dX4_readWord_68 (lv_at hl 1 rfl) ?_
      refine lv_icmp_ne (tgt := 86) hx hb dX4_readWord_70 (by decide) (fun c_ => ?_) (fun c_ => absurd c_ (by decide))
      refine lv_iload_n hx hb dX4_readWord_86 rfl (lv_at hl 4 rfl) ?_
      refine lv_iload hx hb dX4_readWord_87 (lv_at hl 0 rfl) ?_
      refine t_max hB k_408 k_241 k_63 k_242 hl.1 (Nat.le_of_ble_eq_true rfl) (Nat.le_of_ble_eq_true rfl) (Nat.le_of_ble_eq_true rfl) (Nat.le_of_ble_eq_true rfl) rfl dX4_readWord_89 ?_
      refine lv_topi (fun z_41 ez_41 => ?_)
      have e_z_41 := i_max (a := fu.toInt) (b := 1) ez_41 rfl (by decide)
      refine lv_istore_n (lv' := [(1, .int z_41), (5, .int 1), (4, .int 4), (3, .int 0), (2, .int 0), (0, .ref h)]) hx hb dX4_readWord_92 rfl hl (by decide) rfl (fun ls hl => ?_)
      refine lv_iinc (v := 1) (lv' := [(2, .int 1), (1, .int z_41), (5, .int 1), (4, .int 4), (3, .int 0), (0, .ref h)]) hx hb dX4_readWord_93 hl (k := 4) rfl (by decide) (by decide) rfl (fun ls hl => ?_)
      refine lv_goto (tgt := 4) hx hb dX4_readWord_96 (by decide) ?_
      exact lt_s_readWord_w1 l D cI cZ cS cR N0 g h pl sz ba ct r_h r_ba n_ba kpl ksz kba l_pl u_pl l_sz u_sz hc_0 hB hr   g1 z_41 H locs ls hT hI hE hM (by omega) (by omega) kp0 hc (fw_st (k := 0) hfu hqw_ (by omega)) (fun h_ => absurd (hqw_.symm.trans h_) (by decide)) (lv_sub hl [0, 1, 5] rfl)
    · have c_40' : r_27.toInt = 101 := i_eq c_40 rfl (by decide)
      refine lv_iinc (v := 2) (lv' := [(5, .int 2), (4, .int 4), (3, .int 0), (2, .int 0), (1, .int fu), (0, .ref h)]) hx hb dX4_readWord_60 hl (k := 0) rfl (by decide) (by decide) rfl (fun ls hl => ?_)
      refine lv_goto (tgt := 30) hx hb dX4_readWord_63 (by decide) ?_
      refine lv_iload hx hb dX4_readWord_30 (lv_at hl 0 rfl) ?_
      refine lv_iload hx hb dX4_readWord_32 (lv_at hl 1 rfl) ?_
      refine lv_icmp_ge (tgt := 66) hx hb dX4_readWord_34 (by decide) (fun c_ => absurd c_ (by decide)) (fun c_ => ?_)
      refine lv_aload_n hx hb dX4_readWord_37 rfl (lv_at hl 5 rfl) ?_
      refine lv_aload_n hx hb dX4_readWord_38 rfl (lv_at hl 5 rfl) ?_
      refine t_get (ci := 4) (v := .int pl) hB hT (ro_ci r_1 rfl) rfl 3 (by decide) k_91 kp0 dX4_readWord_39 ?_
      refine lv_iload hx hb dX4_readWord_42 (lv_at hl 0 rfl) ?_
      refine lv_iadd hx hb dX4_readWord_44 ?_
      refine lv_topi (fun z_42 ez_42 => ?_)
      have e_z_42 : z_42.toInt = pl.toInt + 2 := i_add ez_42 rfl (by decide) (by omega) (by omega)
      refine t_callV (n := 1) (As := [.int z_42]) (rest := []) (ci := 4) hB hT hl.1 (s_byteAt l D cI cZ cS cR N0 g1 hI h z_42 sz ba ct r_1 r_2 n_3 kn_4 kn_5 (by omega) (by omega) hc) (ro_ci r_1 rfl) rfl k_366 k_58 k_363 k_365 k_3 (by decide +kernel) ⟨(Nat.le_of_ble_eq_true rfl), (Nat.le_of_ble_eq_true rfl)⟩ rfl (Nat.le_of_ble_eq_true rfl) ⟨(Nat.le_of_ble_eq_true rfl), (Nat.le_of_ble_eq_true rfl)⟩ dX4_readWord_45 (fun v g_43 H locs hp hT => ?_)
      obtain ⟨r_44, rfl, eg, f_45, f_46, f_47⟩ := hp
      rw [eg] at hT
      clear eg
      refine W.eq (g2 := F0 m 48 ls [.int r_44]) rfl ?_
      rw [show z_42.toInt = pl.toInt + 2 by omega] at f_45
      have f_45' := f_47
      refine va_ldcS hx hb hB.2.2.2.1 (ux_r hB) dX4_readWord_48 ?_
      refine lv_iload_n hx hb dX4_readWord_50 rfl (lv_at hl 2 rfl) ?_
      refine lv_iload hx hb dX4_readWord_51 (lv_at hl 0 rfl) ?_
      refine lv_iadd hx hb dX4_readWord_53 ?_
      refine x_ev (y := 2) (by decide) ?_
      refine t_callT (n := 1) (As := [.int 2]) (rest := [.int r_44]) hB hT hl.1 (u_charAt l D cI cZ cS cR N0 g1 hI 2 (by have q0 : (2 : Int32).toInt = 2 := (by decide); omega) (by have q0 : (2 : Int32).toInt = 2 := (by decide); omega)) k_371 k_66 k_368 k_369 k_370 (by decide +kernel) ⟨(Nat.le_of_ble_eq_true rfl), (Nat.le_of_ble_eq_true rfl)⟩ rfl (Nat.le_of_ble_eq_true rfl) ⟨(Nat.le_of_ble_eq_true rfl), (Nat.le_of_ble_eq_true rfl)⟩ dX4_readWord_54 (fun v g_50 H locs hp hT => ?_)
      obtain ⟨r_51, rfl, eg, f_52, f_53⟩ := hp
      rw [eg] at hT
      clear eg
      refine W.eq (g2 := F0 m 57 ls [.int r_51, .int r_44]) rfl ?_
      have qc_56 : (2 : Int32).toInt = 2 := (by decide)
      have hch_r_51 : r_51 = 116 := f_53.trans (by decide)
      subst hch_r_51
      refine W.eq (g2 := F0 m 57 ls [.int 116, .int r_44]) rfl ?_
      refine lv_icmp_ne (tgt := 66) hx hb dX4_readWord_57 (by decide) (fun c_57 => ?_) (fun c_57 => ?_)
      · have c_57' : r_44.toInt ≠ 116 := i_ne c_57 rfl (by decide)
        have hqw_ : qj (txb ct sz.toInt) pl.toInt 0 = 2 := wp4_2 (by omega) (by omega) (by omega)
        refine lv_iload hx hb dX4_readWord_66 (lv_at hl 0 rfl) ?_
        refine lv_iload hx hb dX4_readWord_68 (lv_at hl 1 rfl) ?_
        refine lv_icmp_ne (tgt := 86) hx hb dX4_readWord_70 (by decide) (fun c_ => ?_) (fun c_ => absurd c_ (by decide))
        refine lv_iload_n hx hb dX4_readWord_86 rfl (lv_at hl 4 rfl) ?_
        refine lv_iload hx hb dX4_readWord_87 (lv_at hl 0 rfl) ?_
        refine t_max hB k_408 k_241 k_63 k_242 hl.1 (Nat.le_of_ble_eq_true rfl) (Nat.le_of_ble_eq_true rfl) (Nat.le_of_ble_eq_true rfl) (Nat.le_of_ble_eq_true rfl) rfl dX4_readWord_89 ?_
        refine lv_topi (fun z_58 ez_58 => ?_)
        have e_z_58 := i_max (a := fu.toInt) (b := 2) ez_58 rfl (by decide)
        refine lv_istore_n (lv' := [(1, .int z_58), (5, .int 2), (4, .int 4), (3, .int 0), (2, .int 0), (0, .ref h)]) hx hb dX4_readWord_92 rfl hl (by decide) rfl (fun ls hl => ?_)
        refine lv_iinc (v := 1) (lv' := [(2, .int 1), (1, .int z_58), (5, .int 2), (4, .int 4), (3, .int 0), (0, .ref h)]) hx hb dX4_readWord_93 hl (k := 4) rfl (by decide) (by decide) rfl (fun ls hl => ?_)
        refine lv_goto (tgt := 4) hx hb dX4_readWord_96 (by decide) ?_
        exact lt_s_readWord_w1 l D cI cZ cS cR N0 g h pl sz ba ct r_h r_ba n_ba kpl ksz kba l_pl u_pl l_sz u_sz hc_0 hB hr   g1 z_58 H locs ls hT hI hE hM (by omega) (by omega) kp0 hc (fw_st (k := 0) hfu hqw_ (by omega)) (fun h_ => absurd (hqw_.symm.trans h_) (by decide)) (lv_sub hl [0, 1, 5] rfl)
      · have c_57' : r_44.toInt = 116 := i_eq c_57 rfl (by decide)
        refine lv_iinc (v := 3) (lv' := [(5, .int 3), (4, .int 4), (3, .int 0), (2, .int 0), (1, .int fu), (0, .ref h)]) hx hb dX4_readWord_60 hl (k := 0) rfl (by decide) (by decide) rfl (fun ls hl => ?_)
        refine lv_goto (tgt := 30) hx hb dX4_readWord_63 (by decide) ?_
        refine lv_iload hx hb dX4_readWord_30 (lv_at hl 0 rfl) ?_
        refine lv_iload hx hb dX4_readWord_32 (lv_at hl 1 rfl) ?_
        refine lv_icmp_ge (tgt := 66) hx hb dX4_readWord_34 (by decide) (fun c_ => absurd c_ (by decide)) (fun c_ => ?_)
        refine lv_aload_n hx hb dX4_readWord_37 rfl (lv_at hl 5 rfl) ?_
        refine lv_aload_n hx hb dX4_readWord_38 rfl (lv_at hl 5 rfl) ?_
        refine t_get (ci := 4) (v := .int pl) hB hT (ro_ci r_1 rfl) rfl 3 (by decide) k_91 kp0 dX4_readWord_39 ?_
        refine lv_iload hx hb dX4_readWord_42 (lv_at hl 0 rfl) ?_
        refine lv_iadd hx hb dX4_readWord_44 ?_
        refine lv_topi (fun z_59 ez_59 => ?_)
        have e_z_59 : z_59.toInt = pl.toInt + 3 := i_add ez_59 rfl (by decide) (by omega) (by omega)
        refine t_callV (n := 1) (As := [.int z_59]) (rest := []) (ci := 4) hB hT hl.1 (s_byteAt l D cI cZ cS cR N0 g1 hI h z_59 sz ba ct r_1 r_2 n_3 kn_4 kn_5 (by omega) (by omega) hc) (ro_ci r_1 rfl) rfl k_366 k_58 k_363 k_365 k_3 (by decide +kernel) ⟨(Nat.le_of_ble_eq_true rfl), (Nat.le_of_ble_eq_true rfl)⟩ rfl (Nat.le_of_ble_eq_true rfl) ⟨(Nat.le_of_ble_eq_true rfl), (Nat.le_of_ble_eq_true rfl)⟩ dX4_readWord_45 (fun v g_60 H locs hp hT => ?_)
        obtain ⟨r_61, rfl, eg, f_62, f_63, f_64⟩ := hp
        rw [eg] at hT
        clear eg
        refine W.eq (g2 := F0 m 48 ls [.int r_61]) rfl ?_
        rw [show z_59.toInt = pl.toInt + 3 by omega] at f_62
        have f_62' := f_64
        refine va_ldcS hx hb hB.2.2.2.1 (ux_r hB) dX4_readWord_48 ?_
        refine lv_iload_n hx hb dX4_readWord_50 rfl (lv_at hl 2 rfl) ?_
        refine lv_iload hx hb dX4_readWord_51 (lv_at hl 0 rfl) ?_
        refine lv_iadd hx hb dX4_readWord_53 ?_
        refine x_ev (y := 3) (by decide) ?_
        refine t_callT (n := 1) (As := [.int 3]) (rest := [.int r_61]) hB hT hl.1 (u_charAt l D cI cZ cS cR N0 g1 hI 3 (by have q0 : (3 : Int32).toInt = 3 := (by decide); omega) (by have q0 : (3 : Int32).toInt = 3 := (by decide); omega)) k_371 k_66 k_368 k_369 k_370 (by decide +kernel) ⟨(Nat.le_of_ble_eq_true rfl), (Nat.le_of_ble_eq_true rfl)⟩ rfl (Nat.le_of_ble_eq_true rfl) ⟨(Nat.le_of_ble_eq_true rfl), (Nat.le_of_ble_eq_true rfl)⟩ dX4_readWord_54 (fun v g_67 H locs hp hT => ?_)
        obtain ⟨r_68, rfl, eg, f_69, f_70⟩ := hp
        rw [eg] at hT
        clear eg
        refine W.eq (g2 := F0 m 57 ls [.int r_68, .int r_61]) rfl ?_
        have qc_73 : (3 : Int32).toInt = 3 := (by decide)
        have hch_r_68 : r_68 = 32 := f_70.trans (by decide)
        subst hch_r_68
        refine W.eq (g2 := F0 m 57 ls [.int 32, .int r_61]) rfl ?_
        refine lv_icmp_ne (tgt := 66) hx hb dX4_readWord_57 (by decide) (fun c_74 => ?_) (fun c_74 => ?_)
        · have c_74' : r_61.toInt ≠ 32 := i_ne c_74 rfl (by decide)
          have hqw_ : qj (txb ct sz.toInt) pl.toInt 0 = 3 := wp4_3 (by omega) (by omega) (by omega) (by omega)
          refine lv_iload hx hb dX4_readWord_66 (lv_at hl 0 rfl) ?_
          refine lv_iload hx hb dX4_readWord_68 (lv_at hl 1 rfl) ?_
          refine lv_icmp_ne (tgt := 86) hx hb dX4_readWord_70 (by decide) (fun c_ => ?_) (fun c_ => absurd c_ (by decide))
          refine lv_iload_n hx hb dX4_readWord_86 rfl (lv_at hl 4 rfl) ?_
          refine lv_iload hx hb dX4_readWord_87 (lv_at hl 0 rfl) ?_
          refine t_max hB k_408 k_241 k_63 k_242 hl.1 (Nat.le_of_ble_eq_true rfl) (Nat.le_of_ble_eq_true rfl) (Nat.le_of_ble_eq_true rfl) (Nat.le_of_ble_eq_true rfl) rfl dX4_readWord_89 ?_
          refine lv_topi (fun z_75 ez_75 => ?_)
          have e_z_75 := i_max (a := fu.toInt) (b := 3) ez_75 rfl (by decide)
          refine lv_istore_n (lv' := [(1, .int z_75), (5, .int 3), (4, .int 4), (3, .int 0), (2, .int 0), (0, .ref h)]) hx hb dX4_readWord_92 rfl hl (by decide) rfl (fun ls hl => ?_)
          refine lv_iinc (v := 1) (lv' := [(2, .int 1), (1, .int z_75), (5, .int 3), (4, .int 4), (3, .int 0), (0, .ref h)]) hx hb dX4_readWord_93 hl (k := 4) rfl (by decide) (by decide) rfl (fun ls hl => ?_)
          refine lv_goto (tgt := 4) hx hb dX4_readWord_96 (by decide) ?_
          exact lt_s_readWord_w1 l D cI cZ cS cR N0 g h pl sz ba ct r_h r_ba n_ba kpl ksz kba l_pl u_pl l_sz u_sz hc_0 hB hr   g1 z_75 H locs ls hT hI hE hM (by omega) (by omega) kp0 hc (fw_st (k := 0) hfu hqw_ (by omega)) (fun h_ => absurd (hqw_.symm.trans h_) (by decide)) (lv_sub hl [0, 1, 5] rfl)
        · have c_74' : r_61.toInt = 32 := i_eq c_74 rfl (by decide)
          refine lv_iinc (v := 4) (lv' := [(5, .int 4), (4, .int 4), (3, .int 0), (2, .int 0), (1, .int fu), (0, .ref h)]) hx hb dX4_readWord_60 hl (k := 0) rfl (by decide) (by decide) rfl (fun ls hl => ?_)
          refine lv_goto (tgt := 30) hx hb dX4_readWord_63 (by decide) ?_
          refine lv_iload hx hb dX4_readWord_30 (lv_at hl 0 rfl) ?_
          refine lv_iload hx hb dX4_readWord_32 (lv_at hl 1 rfl) ?_
          refine lv_icmp_ge (tgt := 66) hx hb dX4_readWord_34 (by decide) (fun c_ => ?_) (fun c_ => absurd (by decide) c_)
          have hqw_ : qj (txb ct sz.toInt) pl.toInt 0 = 4 := wp4_4 (by omega) (by omega) (by omega) (by omega)
          refine lv_iload hx hb dX4_readWord_66 (lv_at hl 0 rfl) ?_
          refine lv_iload hx hb dX4_readWord_68 (lv_at hl 1 rfl) ?_
          refine lv_icmp_ne (tgt := 86) hx hb dX4_readWord_70 (by decide) (fun c_ => absurd (by decide) c_) (fun c_ => ?_)
          refine lv_aload_n hx hb dX4_readWord_73 rfl (lv_at hl 5 rfl) ?_
          refine lv_dup hx hb dX4_readWord_74 rfl ?_
          refine t_get (ci := 4) (v := .int pl) hB hT (ro_ci r_1 rfl) rfl 3 (by decide) k_91 kp0 dX4_readWord_75 ?_
          refine lv_iload hx hb dX4_readWord_78 (lv_at hl 1 rfl) ?_
          refine lv_iadd hx hb dX4_readWord_80 ?_
          refine lv_topi (fun z_76 ez_76 => ?_)
          have e_z_76 : z_76.toInt = pl.toInt + 4 := i_add ez_76 rfl (by decide) (by omega) (by omega)
          refine t_put0 (ci := 4) (v := .int z_76) hB hT (ro_ci r_1 rfl) (ro_n0 r_1 (by decide)) rfl 3 (by decide) k_91 (Or.inl rfl) rfl rfl dX4_readWord_81 (fun H locs hT => ?_)
          have hI : Inv (sF g1 h 3 (.int z_76)) := hI.sF (p_5_3 r_1 (⟨_, rfl⟩))
          have hM : Sm md_s_readWord g (sF g1 h 3 (.int z_76)) := hM.tr hE (Sm_sF (by rw [r_1]; rfl))
          have hE : Ex g (sF g1 h 3 (.int z_76)) := hE
          have hc : (sF g1 h 3 (.int z_76)).2.2.2.1 ba = ct := hc
          refine lv_iload_n hx hb dX4_readWord_84 rfl (lv_at hl 3 rfl) ?_
          have hv_ := wo_0 (T := (txb ct sz.toInt)) (p := pl.toInt) ⟨by omega, by omega, by omega, by omega⟩
          exact t_iret hB hr hT (Nat.le_of_ble_eq_true rfl) (Nat.le_of_ble_eq_true rfl) dX4_readWord_85 ⟨0, z_76, rfl, hI, hE, hM, (Or.inr ⟨by decide, by decide, hv_.1.trans (by decide), (by have q_ := hv_.2; omega), by omega, by omega⟩), sF_eq⟩
set_option maxHeartbeats 4000000 in
set_option maxRecDepth 100000 in
theorem s_readWord (l : Launch) (D : va_G) (cI cZ cS cR : ClassId) (N0 : NT) (g : GS) (hI : Inv g) (h : Nat) (pl : Int32) (sz : Int32) (ba : Nat) (ct : Nat → Int32) (r_h : g.1 h = 5) (r_ba : g.1 ba = 67) (n_ba : g.2.2.1 ba = 100) (kpl : g.2.1 h 3 = .int pl) (ksz : g.2.1 h 1 = .int sz) (kba : g.2.1 h 0 = .ref ba) (l_pl : 0 ≤ pl.toInt) (u_pl : pl.toInt ≤ 100) (l_sz : 0 ≤ sz.toInt) (u_sz : sz.toInt ≤ 100) (hc_0 : g.2.2.2.1 ba = ct) : Ty l D cI cZ cS cR N0 yX4_readWord cX4_readWord 6 (some .int) 4 0 0 [.ref h] g (fun v g' => ∃ (r : Int32) (pl2 : Int32), v = some (.int r) ∧ Inv g' ∧ Ex g g' ∧ Sm md_s_readWord g g' ∧ ((r = -1 ∧ wdr (txb ct sz.toInt) pl.toInt = -1 ∧ pl2.toInt = wdp (txb ct sz.toInt) pl.toInt ∧ 0 ≤ pl2.toInt ∧ pl2.toInt ≤ 104) ∨ (0 ≤ r.toInt ∧ r.toInt ≤ 7 ∧ wdr (txb ct sz.toInt) pl.toInt = r.toInt ∧ pl2.toInt = wdp (txb ct sz.toInt) pl.toInt ∧ pl2.toInt ≤ sz.toInt ∧ 0 ≤ pl2.toInt)) ∧ (g'.2.1 h 3 = .int pl2)) := by
  refine t_enter (by decide) (Nat.le_of_ble_eq_true rfl) ?_
  intro p e s m args below meth c ls H locs hB hr hin hl hT
  have hx := hB.1
  have hb := hB.2.1
  have hl : lv_has ls 6 [(0, .ref h)] := hl
  have hE : Ex g g := Ex.rf
  have hM : Sm md_s_readWord g g := Sm.rf
  have hc := hc_0
  refine lv_iconst (v := 0) hx hb dX4_readWord_0 (by decide) ?_
  refine lv_istore_n (lv' := [(1, .int 0), (0, .ref h)]) hx hb dX4_readWord_1 rfl hl (by decide) rfl (fun ls hl => ?_)
  refine lv_iconst (v := 0) hx hb dX4_readWord_2 (by decide) ?_
  refine lv_istore_n (lv' := [(2, .int 0), (1, .int 0), (0, .ref h)]) hx hb dX4_readWord_3 rfl hl (by decide) rfl (fun ls hl => ?_)
  exact lt_s_readWord_w0 l D cI cZ cS cR N0 g h pl sz ba ct r_h r_ba n_ba kpl ksz kba l_pl u_pl l_sz u_sz hc_0 hB hr   g (0 : Int32) H locs ls hT hI hE hM (by decide) (by decide) kpl hc (show (0 : Int32).toInt = 0 by decide) (lv_sub hl [0, 1, 2] rfl)
abbrev md_s_readAct : Nat → Nat → Bool := mdf [(3, 3), (5, 3), (68, 99), (69, 99), (70, 99)]
theorem mdle_s_readAct_s_pappend {r k : Nat} (h : md_s_readAct r k = false) : md_s_pappend r k = false := mdf_le (by decide +kernel) h
theorem mdle_s_readAct_s_pass {r k : Nat} (h : md_s_readAct r k = false) : md_s_pass r k = false := mdf_le (by decide +kernel) h
theorem mdle_s_readAct_s_readDigit {r k : Nat} (h : md_s_readAct r k = false) : md_s_readDigit r k = false := mdf_le (by decide +kernel) h
theorem mdle_s_readAct_s_readValue {r k : Nat} (h : md_s_readAct r k = false) : md_s_readValue r k = false := mdf_le (by decide +kernel) h
theorem mdle_s_readAct_s_readWord {r k : Nat} (h : md_s_readAct r k = false) : md_s_readWord r k = false := mdf_le (by decide +kernel) h
set_option maxHeartbeats 4000000 in
set_option maxRecDepth 100000 in
theorem s_readAct (l : Launch) (D : va_G) (cI cZ cS cR : ClassId) (N0 : NT) (g : GS) (hI : Inv g) (h : Nat) (o : Nat) (pl : Int32) (zz : Int32) (sz : Int32) (ba : Nat) (ct : Nat → Int32) (wa : Nat) (ta : Nat) (va : Nat) (r_h : g.1 h = 5) (r_o : g.1 o = 3) (r_ba : g.1 ba = 67) (n_ba : g.2.2.1 ba = 100) (r_wa : g.1 wa = 68) (n_wa : g.2.2.1 wa = 8) (r_ta : g.1 ta = 69) (n_ta : g.2.2.1 ta = 8) (r_va : g.1 va = 70) (n_va : g.2.2.1 va = 8) (kpl : g.2.1 h 3 = .int pl) (kzz : g.2.1 o 3 = .int zz) (ksz : g.2.1 h 1 = .int sz) (kba : g.2.1 h 0 = .ref ba) (kwa : g.2.1 o 0 = .ref wa) (kta : g.2.1 o 1 = .ref ta) (kva : g.2.1 o 2 = .ref va) (l_pl : 0 ≤ pl.toInt) (u_pl : pl.toInt ≤ 100) (l_zz : 0 ≤ zz.toInt) (u_zz : zz.toInt ≤ 7) (l_sz : 0 ≤ sz.toInt) (u_sz : sz.toInt ≤ 100) (hc_0 : g.2.2.2.1 ba = ct) : Ty l D cI cZ cS cR N0 yX4_readAct cX4_readAct 5 (some .boolean) 5 0 0 [.ref h, .ref o] g (fun v g' => ∃ (r : Int32) (pl2 : Int32) (zz2 : Int32) (bb : Bool) (w_ : Int32) (c_ : Int32) (v_ : Int32), v = some (.int r) ∧ Inv g' ∧ Ex g g' ∧ Sm md_s_readAct g g' ∧ ((r = 1 ∧ ac (txb ct sz.toInt) pl.toInt = (true, pl2.toInt) ∧ pl2.toInt ≤ sz.toInt ∧ 0 ≤ pl2.toInt ∧ zz2.toInt = zz.toInt + 1 ∧ bb = true ∧ w_.toInt = wdr (txb ct sz.toInt) pl.toInt ∧ c_.toInt = acc (txb ct sz.toInt) pl.toInt ∧ v_.toInt = acv (txb ct sz.toInt) pl.toInt) ∨ (r = 0 ∧ ac (txb ct sz.toInt) pl.toInt = (false, pl2.toInt) ∧ 0 ≤ pl2.toInt ∧ pl2.toInt ≤ 104 ∧ zz2.toInt = zz.toInt ∧ bb = false)) ∧ (g'.2.1 h 3 = .int pl2) ∧ (g'.2.1 o 3 = .int zz2) ∧ (UP g' wa (g.2.2.2.1 wa) bb zz.toNatClampNeg w_) ∧ (UP g' ta (g.2.2.2.1 ta) bb zz.toNatClampNeg c_) ∧ (UP g' va (g.2.2.2.1 va) bb zz.toNatClampNeg v_) ∧ (OX o wa ta va g g')) := by
  refine t_enter (by decide) (Nat.le_of_ble_eq_true rfl) ?_
  intro p e s m args below meth c ls H locs hB hr hin hl hT
  have hx := hB.1
  have hb := hB.2.1
  have hl : lv_has ls 5 [(0, .ref h), (1, .ref o)] := hl
  have hE : Ex g g := Ex.rf
  have hM : Sm md_s_readAct g g := Sm.rf
  have hc := hc_0
  have hU0 : UP g wa (g.2.2.2.1 wa) false zz.toNatClampNeg (0 : Int32) := UP.zero rfl
  have hU1 : UP g ta (g.2.2.2.1 ta) false zz.toNatClampNeg (0 : Int32) := UP.zero rfl
  have hU2 : UP g va (g.2.2.2.1 va) false zz.toNatClampNeg (0 : Int32) := UP.zero rfl
  have hO : OX o wa ta va g g := OX.rf
  refine lv_aload_n hx hb dX4_readAct_0 rfl (lv_at hl 0 rfl) ?_
  refine t_callV (n := 0) (As := []) (rest := []) (ci := 4) hB hT hl.1 (s_readWord l D cI cZ cS cR N0 g hI h pl sz ba ct r_h r_ba n_ba kpl ksz kba (by omega) (by omega) (by omega) (by omega) hc) (ro_ci r_h rfl) rfl k_360 k_58 k_357 k_359 k_2 (by decide +kernel) ⟨(Nat.le_of_ble_eq_true rfl), (Nat.le_of_ble_eq_true rfl)⟩ rfl (Nat.le_of_ble_eq_true rfl) ⟨(Nat.le_of_ble_eq_true rfl), (Nat.le_of_ble_eq_true rfl)⟩ dX4_readAct_1 (fun v g_1 H locs hp hT => ?_)
  obtain ⟨r_2, pl2_3, rfl, hI, x_7, m_6, f_4, f_5⟩ := hp
  have hc : g_1.2.2.2.1 ba = ct := (Sm.cf m_6 r_ba (by decide) rfl).trans hc
  have hU0 : UP g_1 wa (g.2.2.2.1 wa) false zz.toNatClampNeg (0 : Int32) := hU0.sm m_6 r_wa (by decide) rfl
  have hU1 : UP g_1 ta (g.2.2.2.1 ta) false zz.toNatClampNeg (0 : Int32) := hU1.sm m_6 r_ta (by decide) rfl
  have hU2 : UP g_1 va (g.2.2.2.1 va) false zz.toNatClampNeg (0 : Int32) := hU2.sm m_6 r_va (by decide) rfl
  have hO : OX o wa ta va g g_1 := OX.tr hE hO (OX.sm m_6 rfl rfl rfl rfl)
  have hM : Sm md_s_readAct g g_1 := hM.tr hE (m_6.mo (fun r k h => mdle_s_readAct_s_readWord h))
  have hE : Ex g g_1 := hE.tr x_7
  have r_8 : g_1.1 h = 5 := (Ex.r x_7 r_h (by decide))
  have r_9 : g_1.1 o = 3 := (Ex.r x_7 r_o (by decide))
  have r_10 : g_1.1 ba = 67 := (Ex.r x_7 r_ba (by decide))
  have r_11 : g_1.1 wa = 68 := (Ex.r x_7 r_wa (by decide))
  have r_12 : g_1.1 ta = 69 := (Ex.r x_7 r_ta (by decide))
  have r_13 : g_1.1 va = 70 := (Ex.r x_7 r_va (by decide))
  have n_14 : g_1.2.2.1 ba = 100 := (Ex.n x_7 r_ba (by decide) n_ba)
  have n_15 : g_1.2.2.1 wa = 8 := (Ex.n x_7 r_wa (by decide) n_wa)
  have n_16 : g_1.2.2.1 ta = 8 := (Ex.n x_7 r_ta (by decide) n_ta)
  have n_17 : g_1.2.2.1 va = 8 := (Ex.n x_7 r_va (by decide) n_va)
  have kn_18 : g_1.2.1 o 3 = .int zz := (Sm.v m_6 r_o (by decide) rfl kzz)
  have kn_19 : g_1.2.1 h 1 = .int sz := (Sm.v m_6 r_h (by decide) rfl ksz)
  have kn_20 : g_1.2.1 h 0 = .ref ba := (Sm.v m_6 r_h (by decide) rfl kba)
  have kn_21 : g_1.2.1 o 0 = .ref wa := (Sm.v m_6 r_o (by decide) rfl kwa)
  have kn_22 : g_1.2.1 o 1 = .ref ta := (Sm.v m_6 r_o (by decide) rfl kta)
  have kn_23 : g_1.2.1 o 2 = .ref va := (Sm.v m_6 r_o (by decide) rfl kva)
  refine W.eq (g2 := F0 m 4 ls [.int r_2]) rfl ?_
  rcases f_4 with ⟨rfl, hw_24, hw_25, hw_26, hw_27⟩ | ⟨hw_28, hw_29, hw_30, hw_31, hw_32, hw_33⟩
  · refine W.eq (g2 := F0 m 4 ls [.int (-1)]) rfl ?_
    refine lv_istore_n (lv' := [(2, .int (-1)), (0, .ref h), (1, .ref o)]) hx hb dX4_readAct_4 rfl hl (by decide) rfl (fun ls hl => ?_)
    refine lv_iload_n hx hb dX4_readAct_5 rfl (lv_at hl 0 rfl) ?_
    refine lv_iconst (v := (-1)) hx hb dX4_readAct_6 (by decide) ?_
    refine lv_icmp_ne (tgt := 12) hx hb dX4_readAct_7 (by decide) (fun c_ => absurd (by decide) c_) (fun c_ => ?_)
    refine lv_iconst (v := 0) hx hb dX4_readAct_10 (by decide) ?_
    exact t_zret hB hr rfl hT (Nat.le_of_ble_eq_true rfl) (Nat.le_of_ble_eq_true rfl) dX4_readAct_11 ⟨0, pl2_3, zz, false, (0 : Int32), (0 : Int32), (0 : Int32), rfl, hI, hE, hM, (Or.inr ⟨rfl, ac_n hw_24 hw_25, by omega, by omega, by omega, rfl⟩), f_5, kn_18, hU0, hU1, hU2, hO⟩
  · refine W.eq (g2 := F0 m 4 ls [.int r_2]) rfl ?_
    refine lv_istore_n (lv' := [(2, .int r_2), (0, .ref h), (1, .ref o)]) hx hb dX4_readAct_4 rfl hl (by decide) rfl (fun ls hl => ?_)
    refine lv_iload_n hx hb dX4_readAct_5 rfl (lv_at hl 0 rfl) ?_
    refine lv_iconst (v := (-1)) hx hb dX4_readAct_6 (by decide) ?_
    refine lv_icmp_ne (tgt := 12) hx hb dX4_readAct_7 (by decide) (fun c_34 => ?_) (fun c_34 => ?_)
    · have c_34' : r_2.toInt ≠ (-1) := i_ne c_34 rfl (by decide)
      refine lv_iconst (v := 0) hx hb dX4_readAct_12 (by decide) ?_
      refine lv_istore_n (lv' := [(3, .int 0), (2, .int r_2), (0, .ref h), (1, .ref o)]) hx hb dX4_readAct_13 rfl hl (by decide) rfl (fun ls hl => ?_)
      refine lv_iload_n hx hb dX4_readAct_14 rfl (lv_at hl 1 rfl) ?_
      refine lv_bipush (v := 6) hx hb dX4_readAct_15 (by decide) ?_
      refine lv_icmp_eq (tgt := 35) hx hb dX4_readAct_17 (by decide) (fun c_35 => ?_) (fun c_35 => ?_)
      · have c_35' : r_2.toInt = 6 := i_eq c_35 rfl (by decide)
        refine lv_iload_n hx hb dX4_readAct_35 rfl (lv_at hl 0 rfl) ?_
        refine lv_iconst (v := (-1)) hx hb dX4_readAct_36 (by decide) ?_
        refine lv_icmp_ne (tgt := 42) hx hb dX4_readAct_37 (by decide) (fun c_ => ?_) (fun c_ => absurd c_ (by decide))
        refine lv_iconst (v := 0) hx hb dX4_readAct_42 (by decide) ?_
        refine lv_istore (lv' := [(4, .int 0), (3, .int 0), (2, .int r_2), (0, .ref h), (1, .ref o)]) hx hb dX4_readAct_43 hl (by decide) rfl (fun ls hl => ?_)
        refine lv_iload_n hx hb dX4_readAct_45 rfl (lv_at hl 2 rfl) ?_
        refine lv_iconst (v := 3) hx hb dX4_readAct_46 (by decide) ?_
        refine lv_icmp_eq (tgt := 80) hx hb dX4_readAct_47 (by decide) (fun c_36 => ?_) (fun c_36 => ?_)
        · have c_36' : r_2.toInt = 3 := i_eq c_36 rfl (by decide)
          exact absurd c_36' (by omega)
        · have c_36' : r_2.toInt ≠ 3 := i_ne c_36 rfl (by decide)
          refine lv_iload_n hx hb dX4_readAct_50 rfl (lv_at hl 2 rfl) ?_
          refine lv_iconst (v := 4) hx hb dX4_readAct_51 (by decide) ?_
          refine lv_icmp_eq (tgt := 80) hx hb dX4_readAct_52 (by decide) (fun c_37 => ?_) (fun c_37 => ?_)
          · have c_37' : r_2.toInt = 4 := i_eq c_37 rfl (by decide)
            exact absurd c_37' (by omega)
          · have c_37' : r_2.toInt ≠ 4 := i_ne c_37 rfl (by decide)
            refine lv_iload_n hx hb dX4_readAct_55 rfl (lv_at hl 2 rfl) ?_
            refine lv_bipush (v := 6) hx hb dX4_readAct_56 (by decide) ?_
            refine lv_icmp_eq (tgt := 70) hx hb dX4_readAct_58 (by decide) (fun c_38 => ?_) (fun c_38 => ?_)
            · have c_38' : r_2.toInt = 6 := i_eq c_38 rfl (by decide)
              refine lv_aload_n hx hb dX4_readAct_70 rfl (lv_at hl 3 rfl) ?_
              refine t_callV (n := 0) (As := []) (rest := []) (ci := 4) hB hT hl.1 (s_readValue l D cI cZ cS cR N0 g_1 hI h pl2_3 sz ba ct r_8 r_10 n_14 f_5 kn_19 kn_20 (by omega) (by omega) (by omega) (by omega) hc) (ro_ci r_8 rfl) rfl k_423 k_58 k_420 k_422 k_6 (by decide +kernel) ⟨(Nat.le_of_ble_eq_true rfl), (Nat.le_of_ble_eq_true rfl)⟩ rfl (Nat.le_of_ble_eq_true rfl) ⟨(Nat.le_of_ble_eq_true rfl), (Nat.le_of_ble_eq_true rfl)⟩ dX4_readAct_71 (fun v g_39 H locs hp hT => ?_)
              obtain ⟨r_40, pl2_41, rfl, hI, x_45, m_44, f_42, f_43⟩ := hp
              have hc : g_39.2.2.2.1 ba = ct := (Sm.cf m_44 r_10 (by decide) rfl).trans hc
              have hU0 : UP g_39 wa (g.2.2.2.1 wa) false zz.toNatClampNeg (0 : Int32) := hU0.sm m_44 r_11 (by decide) rfl
              have hU1 : UP g_39 ta (g.2.2.2.1 ta) false zz.toNatClampNeg (0 : Int32) := hU1.sm m_44 r_12 (by decide) rfl
              have hU2 : UP g_39 va (g.2.2.2.1 va) false zz.toNatClampNeg (0 : Int32) := hU2.sm m_44 r_13 (by decide) rfl
              have hO : OX o wa ta va g g_39 := OX.tr hE hO (OX.sm m_44 rfl rfl rfl rfl)
              have hM : Sm md_s_readAct g g_39 := hM.tr hE (m_44.mo (fun r k h => mdle_s_readAct_s_readValue h))
              have hE : Ex g g_39 := hE.tr x_45
              have r_46 : g_39.1 h = 5 := (Ex.r x_45 r_8 (by decide))
              have r_47 : g_39.1 o = 3 := (Ex.r x_45 r_9 (by decide))
              have r_48 : g_39.1 ba = 67 := (Ex.r x_45 r_10 (by decide))
              have r_49 : g_39.1 wa = 68 := (Ex.r x_45 r_11 (by decide))
              have r_50 : g_39.1 ta = 69 := (Ex.r x_45 r_12 (by decide))
              have r_51 : g_39.1 va = 70 := (Ex.r x_45 r_13 (by decide))
              have n_52 : g_39.2.2.1 ba = 100 := (Ex.n x_45 r_10 (by decide) n_14)
              have n_53 : g_39.2.2.1 wa = 8 := (Ex.n x_45 r_11 (by decide) n_15)
              have n_54 : g_39.2.2.1 ta = 8 := (Ex.n x_45 r_12 (by decide) n_16)
              have n_55 : g_39.2.2.1 va = 8 := (Ex.n x_45 r_13 (by decide) n_17)
              have kn_56 : g_39.2.1 o 3 = .int zz := (Sm.v m_44 r_9 (by decide) rfl kn_18)
              have kn_57 : g_39.2.1 h 1 = .int sz := (Sm.v m_44 r_8 (by decide) rfl kn_19)
              have kn_58 : g_39.2.1 h 0 = .ref ba := (Sm.v m_44 r_8 (by decide) rfl kn_20)
              have kn_59 : g_39.2.1 o 0 = .ref wa := (Sm.v m_44 r_9 (by decide) rfl kn_21)
              have kn_60 : g_39.2.1 o 1 = .ref ta := (Sm.v m_44 r_9 (by decide) rfl kn_22)
              have kn_61 : g_39.2.1 o 2 = .ref va := (Sm.v m_44 r_9 (by decide) rfl kn_23)
              refine W.eq (g2 := F0 m 74 ls [.int r_40]) rfl ?_
              rcases f_42 with ⟨rfl, hw_62, hw_63, rfl⟩ | ⟨hw_64, hw_65, hw_66, hw_67, hw_68, hw_69⟩
              · refine W.eq (g2 := F0 m 74 ls [.int (-1)]) rfl ?_
                refine lv_goto (tgt := 78) hx hb dX4_readAct_74 (by decide) ?_
                refine lv_istore (lv' := [(4, .int (-1)), (3, .int 0), (2, .int r_2), (0, .ref h), (1, .ref o)]) hx hb dX4_readAct_78 hl (by decide) rfl (fun ls hl => ?_)
                refine lv_iload hx hb dX4_readAct_80 (lv_at hl 0 rfl) ?_
                refine lv_iconst (v := (-1)) hx hb dX4_readAct_82 (by decide) ?_
                refine lv_icmp_ne (tgt := 88) hx hb dX4_readAct_83 (by decide) (fun c_ => absurd (by decide) c_) (fun c_ => ?_)
                refine lv_iconst (v := 0) hx hb dX4_readAct_86 (by decide) ?_
                exact t_zret hB hr rfl hT (Nat.le_of_ble_eq_true rfl) (Nat.le_of_ble_eq_true rfl) dX4_readAct_87 ⟨0, pl2_3, zz, false, (0 : Int32), (0 : Int32), (0 : Int32), rfl, hI, hE, hM, (Or.inr ⟨rfl, ac_6n (by omega) hw_31 hw_62 hw_63, by omega, by omega, by omega, rfl⟩), f_43, kn_56, hU0, hU1, hU2, hO⟩
              · refine W.eq (g2 := F0 m 74 ls [.int r_40]) rfl ?_
                refine lv_goto (tgt := 78) hx hb dX4_readAct_74 (by decide) ?_
                refine lv_istore (lv' := [(4, .int r_40), (3, .int 0), (2, .int r_2), (0, .ref h), (1, .ref o)]) hx hb dX4_readAct_78 hl (by decide) rfl (fun ls hl => ?_)
                refine lv_iload hx hb dX4_readAct_80 (lv_at hl 0 rfl) ?_
                refine lv_iconst (v := (-1)) hx hb dX4_readAct_82 (by decide) ?_
                refine lv_icmp_ne (tgt := 88) hx hb dX4_readAct_83 (by decide) (fun c_70 => ?_) (fun c_70 => ?_)
                · have c_70' : r_40.toInt ≠ (-1) := i_ne c_70 rfl (by decide)
                  refine lv_aload_n hx hb dX4_readAct_88 rfl (lv_at hl 4 rfl) ?_
                  refine lv_iload_n hx hb dX4_readAct_89 rfl (lv_at hl 2 rfl) ?_
                  refine lv_iload_n hx hb dX4_readAct_90 rfl (lv_at hl 1 rfl) ?_
                  refine lv_iload hx hb dX4_readAct_91 (lv_at hl 0 rfl) ?_
                  refine t_callV (n := 3) (As := [.int r_2, .int 0, .int r_40]) (rest := []) (ci := 2) hB hT hl.1 (s_pappend l D cI cZ cS cR N0 g_39 hI o r_2 0 r_40 zz wa ta va r_47 r_49 n_53 r_50 n_54 r_51 n_55 kn_56 kn_59 kn_60 kn_61 (by have q0 : (0 : Int32).toInt = 0 := (by decide); omega) (by have q0 : (0 : Int32).toInt = 0 := (by decide); omega) (by have q0 : (0 : Int32).toInt = 0 := (by decide); omega) (by have q0 : (0 : Int32).toInt = 0 := (by decide); omega)) (ro_ci r_47 rfl) rfl k_427 k_61 k_424 k_425 k_426 (by decide +kernel) ⟨(Nat.le_of_ble_eq_true rfl), (Nat.le_of_ble_eq_true rfl)⟩ rfl (Nat.le_of_ble_eq_true rfl) ⟨(Nat.le_of_ble_eq_true rfl), (Nat.le_of_ble_eq_true rfl)⟩ dX4_readAct_93 (fun v g_71 H locs hp hT => ?_)
                  obtain ⟨z2_72, rfl, hI, x_80, m_79, f_73, f_74, f_75, f_76, f_77, f_78⟩ := hp
                  have hc : g_71.2.2.2.1 ba = ct := (Sm.cf m_79 r_48 (by decide) rfl).trans hc
                  have hO : OX o wa ta va g g_71 := OX.tr hE hO f_78
                  have hM : Sm md_s_readAct g g_71 := hM.tr hE (m_79.mo (fun r k h => mdle_s_readAct_s_pappend h))
                  have hE : Ex g g_71 := hE.tr x_80
                  have r_81 : g_71.1 h = 5 := (Ex.r x_80 r_46 (by decide))
                  have r_82 : g_71.1 o = 3 := (Ex.r x_80 r_47 (by decide))
                  have r_83 : g_71.1 ba = 67 := (Ex.r x_80 r_48 (by decide))
                  have r_84 : g_71.1 wa = 68 := (Ex.r x_80 r_49 (by decide))
                  have r_85 : g_71.1 ta = 69 := (Ex.r x_80 r_50 (by decide))
                  have r_86 : g_71.1 va = 70 := (Ex.r x_80 r_51 (by decide))
                  have n_87 : g_71.2.2.1 ba = 100 := (Ex.n x_80 r_48 (by decide) n_52)
                  have n_88 : g_71.2.2.1 wa = 8 := (Ex.n x_80 r_49 (by decide) n_53)
                  have n_89 : g_71.2.2.1 ta = 8 := (Ex.n x_80 r_50 (by decide) n_54)
                  have n_90 : g_71.2.2.1 va = 8 := (Ex.n x_80 r_51 (by decide) n_55)
                  have kn_91 : g_71.2.1 h 1 = .int sz := (Sm.v m_79 r_46 (by decide) rfl kn_57)
                  have kn_92 : g_71.2.1 h 0 = .ref ba := (Sm.v m_79 r_46 (by decide) rfl kn_58)
                  have kn_93 : g_71.2.1 o 0 = .ref wa := (Sm.v m_79 r_47 (by decide) rfl kn_59)
                  have kn_94 : g_71.2.1 o 1 = .ref ta := (Sm.v m_79 r_47 (by decide) rfl kn_60)
                  have kn_95 : g_71.2.1 o 2 = .ref va := (Sm.v m_79 r_47 (by decide) rfl kn_61)
                  have kn_96 : g_71.2.1 h 3 = .int pl2_41 := (Sm.v m_79 r_46 (by decide) rfl f_43)
                  refine W.eq (g2 := F0 m 96 ls []) rfl ?_
                  have qc_97 : (0 : Int32).toInt = 0 := (by decide)
                  have hU0 := UP.tr hU0 f_75
                  have hU1 := UP.tr hU1 f_76
                  have hU2 := UP.tr hU2 f_77
                  refine lv_iconst (v := 1) hx hb dX4_readAct_96 (by decide) ?_
                  have hx_ := acx_6 (T := (txb ct sz.toInt)) (p := pl.toInt) (by omega) hw_31 hw_66
                  have qq_98 : (0 : Int32).toInt = 0 := (by decide)
                  exact t_zret hB hr rfl hT (Nat.le_of_ble_eq_true rfl) (Nat.le_of_ble_eq_true rfl) dX4_readAct_97 ⟨1, pl2_41, z2_72, true, r_2, (0 : Int32), r_40, rfl, hI, hE, hM, (Or.inl ⟨rfl, ac_6s (by omega) hw_31 hw_66 hw_64 hw_67, by omega, by omega, by omega, rfl, (by omega), (by have q_ := hx_.1; omega), (by have q_ := hx_.2; omega)⟩), kn_96, f_73, hU0, hU1, hU2, hO⟩
                · have c_70' : r_40.toInt = (-1) := i_eq c_70 rfl (by decide)
                  exact absurd c_70' (by omega)
            · have c_38' : r_2.toInt ≠ 6 := i_ne c_38 rfl (by decide)
              exact absurd c_38' (by omega)
      · have c_35' : r_2.toInt ≠ 6 := i_ne c_35 rfl (by decide)
        refine lv_aload_n hx hb dX4_readAct_20 rfl (lv_at hl 2 rfl) ?_
        refine lv_iload_n hx hb dX4_readAct_21 rfl (lv_at hl 1 rfl) ?_
        refine lv_iconst (v := 5) hx hb dX4_readAct_22 (by decide) ?_
        refine lv_icmp_ne (tgt := 30) hx hb dX4_readAct_23 (by decide) (fun c_99 => ?_) (fun c_99 => ?_)
        · have c_99' : r_2.toInt ≠ 5 := i_ne c_99 rfl (by decide)
          refine lv_iconst (v := 3) hx hb dX4_readAct_30 (by decide) ?_
          refine t_callV (n := 1) (As := [.int 3]) (rest := []) (ci := 4) hB hT hl.1 (s_readDigit l D cI cZ cS cR N0 g_1 hI h 3 pl2_3 sz ba ct r_8 r_10 n_14 f_5 kn_19 kn_20 (by have q0 : (3 : Int32).toInt = 3 := (by decide); omega) (by have q0 : (3 : Int32).toInt = 3 := (by decide); omega) (by have q0 : (3 : Int32).toInt = 3 := (by decide); omega) (by have q0 : (3 : Int32).toInt = 3 := (by decide); omega) (by have q0 : (3 : Int32).toInt = 3 := (by decide); omega) (by have q0 : (3 : Int32).toInt = 3 := (by decide); omega) hc) (ro_ci r_8 rfl) rfl k_412 k_58 k_409 k_411 k_4 (by decide +kernel) ⟨(Nat.le_of_ble_eq_true rfl), (Nat.le_of_ble_eq_true rfl)⟩ rfl (Nat.le_of_ble_eq_true rfl) ⟨(Nat.le_of_ble_eq_true rfl), (Nat.le_of_ble_eq_true rfl)⟩ dX4_readAct_31 (fun v g_100 H locs hp hT => ?_)
          obtain ⟨r_101, pl2_102, rfl, hI, x_106, m_105, f_103, f_104⟩ := hp
          have hc : g_100.2.2.2.1 ba = ct := (Sm.cf m_105 r_10 (by decide) rfl).trans hc
          have hU0 : UP g_100 wa (g.2.2.2.1 wa) false zz.toNatClampNeg (0 : Int32) := hU0.sm m_105 r_11 (by decide) rfl
          have hU1 : UP g_100 ta (g.2.2.2.1 ta) false zz.toNatClampNeg (0 : Int32) := hU1.sm m_105 r_12 (by decide) rfl
          have hU2 : UP g_100 va (g.2.2.2.1 va) false zz.toNatClampNeg (0 : Int32) := hU2.sm m_105 r_13 (by decide) rfl
          have hO : OX o wa ta va g g_100 := OX.tr hE hO (OX.sm m_105 rfl rfl rfl rfl)
          have hM : Sm md_s_readAct g g_100 := hM.tr hE (m_105.mo (fun r k h => mdle_s_readAct_s_readDigit h))
          have hE : Ex g g_100 := hE.tr x_106
          have r_107 : g_100.1 h = 5 := (Ex.r x_106 r_8 (by decide))
          have r_108 : g_100.1 o = 3 := (Ex.r x_106 r_9 (by decide))
          have r_109 : g_100.1 ba = 67 := (Ex.r x_106 r_10 (by decide))
          have r_110 : g_100.1 wa = 68 := (Ex.r x_106 r_11 (by decide))
          have r_111 : g_100.1 ta = 69 := (Ex.r x_106 r_12 (by decide))
          have r_112 : g_100.1 va = 70 := (Ex.r x_106 r_13 (by decide))
          have n_113 : g_100.2.2.1 ba = 100 := (Ex.n x_106 r_10 (by decide) n_14)
          have n_114 : g_100.2.2.1 wa = 8 := (Ex.n x_106 r_11 (by decide) n_15)
          have n_115 : g_100.2.2.1 ta = 8 := (Ex.n x_106 r_12 (by decide) n_16)
          have n_116 : g_100.2.2.1 va = 8 := (Ex.n x_106 r_13 (by decide) n_17)
          have kn_117 : g_100.2.1 o 3 = .int zz := (Sm.v m_105 r_9 (by decide) rfl kn_18)
          have kn_118 : g_100.2.1 h 1 = .int sz := (Sm.v m_105 r_8 (by decide) rfl kn_19)
          have kn_119 : g_100.2.1 h 0 = .ref ba := (Sm.v m_105 r_8 (by decide) rfl kn_20)
          have kn_120 : g_100.2.1 o 0 = .ref wa := (Sm.v m_105 r_9 (by decide) rfl kn_21)
          have kn_121 : g_100.2.1 o 1 = .ref ta := (Sm.v m_105 r_9 (by decide) rfl kn_22)
          have kn_122 : g_100.2.1 o 2 = .ref va := (Sm.v m_105 r_9 (by decide) rfl kn_23)
          refine W.eq (g2 := F0 m 34 ls [.int r_101]) rfl ?_
          have qc_123 : (3 : Int32).toInt = 3 := (by decide)
          rcases f_103 with ⟨rfl, hw_124, rfl⟩ | ⟨hw_125, hw_126, hw_127, hw_128, hw_129⟩
          · refine W.eq (g2 := F0 m 34 ls [.int (-1)]) rfl ?_
            refine lv_istore_n (lv' := [(3, .int (-1)), (2, .int r_2), (0, .ref h), (1, .ref o)]) hx hb dX4_readAct_34 rfl hl (by decide) rfl (fun ls hl => ?_)
            refine lv_iload_n hx hb dX4_readAct_35 rfl (lv_at hl 0 rfl) ?_
            refine lv_iconst (v := (-1)) hx hb dX4_readAct_36 (by decide) ?_
            refine lv_icmp_ne (tgt := 42) hx hb dX4_readAct_37 (by decide) (fun c_ => absurd (by decide) c_) (fun c_ => ?_)
            refine lv_iconst (v := 0) hx hb dX4_readAct_40 (by decide) ?_
            exact t_zret hB hr rfl hT (Nat.le_of_ble_eq_true rfl) (Nat.le_of_ble_eq_true rfl) dX4_readAct_41 ⟨0, pl2_3, zz, false, (0 : Int32), (0 : Int32), (0 : Int32), rfl, hI, hE, hM, (Or.inr ⟨rfl, ac_d (m := 3) hw_30 (by omega) (by omega) hw_31 (em_3 (by omega) rfl) (by omega), by omega, by omega, by omega, rfl⟩), f_104, kn_117, hU0, hU1, hU2, hO⟩
          · refine W.eq (g2 := F0 m 34 ls [.int r_101]) rfl ?_
            refine lv_istore_n (lv' := [(3, .int r_101), (2, .int r_2), (0, .ref h), (1, .ref o)]) hx hb dX4_readAct_34 rfl hl (by decide) rfl (fun ls hl => ?_)
            refine lv_iload_n hx hb dX4_readAct_35 rfl (lv_at hl 0 rfl) ?_
            refine lv_iconst (v := (-1)) hx hb dX4_readAct_36 (by decide) ?_
            refine lv_icmp_ne (tgt := 42) hx hb dX4_readAct_37 (by decide) (fun c_130 => ?_) (fun c_130 => ?_)
            · have c_130' : r_101.toInt ≠ (-1) := i_ne c_130 rfl (by decide)
              refine lv_iconst (v := 0) hx hb dX4_readAct_42 (by decide) ?_
              refine lv_istore (lv' := [(4, .int 0), (3, .int r_101), (2, .int r_2), (0, .ref h), (1, .ref o)]) hx hb dX4_readAct_43 hl (by decide) rfl (fun ls hl => ?_)
              refine lv_iload_n hx hb dX4_readAct_45 rfl (lv_at hl 2 rfl) ?_
              refine lv_iconst (v := 3) hx hb dX4_readAct_46 (by decide) ?_
              refine lv_icmp_eq (tgt := 80) hx hb dX4_readAct_47 (by decide) (fun c_131 => ?_) (fun c_131 => ?_)
              · have c_131' : r_2.toInt = 3 := i_eq c_131 rfl (by decide)
                refine lv_iload hx hb dX4_readAct_80 (lv_at hl 0 rfl) ?_
                refine lv_iconst (v := (-1)) hx hb dX4_readAct_82 (by decide) ?_
                refine lv_icmp_ne (tgt := 88) hx hb dX4_readAct_83 (by decide) (fun c_ => ?_) (fun c_ => absurd c_ (by decide))
                refine lv_aload_n hx hb dX4_readAct_88 rfl (lv_at hl 4 rfl) ?_
                refine lv_iload_n hx hb dX4_readAct_89 rfl (lv_at hl 2 rfl) ?_
                refine lv_iload_n hx hb dX4_readAct_90 rfl (lv_at hl 1 rfl) ?_
                refine lv_iload hx hb dX4_readAct_91 (lv_at hl 0 rfl) ?_
                refine t_callV (n := 3) (As := [.int r_2, .int r_101, .int 0]) (rest := []) (ci := 2) hB hT hl.1 (s_pappend l D cI cZ cS cR N0 g_100 hI o r_2 r_101 0 zz wa ta va r_108 r_110 n_114 r_111 n_115 r_112 n_116 kn_117 kn_120 kn_121 kn_122 (by have q0 : (0 : Int32).toInt = 0 := (by decide); omega) (by have q0 : (0 : Int32).toInt = 0 := (by decide); omega) (by have q0 : (0 : Int32).toInt = 0 := (by decide); omega) (by have q0 : (0 : Int32).toInt = 0 := (by decide); omega)) (ro_ci r_108 rfl) rfl k_427 k_61 k_424 k_425 k_426 (by decide +kernel) ⟨(Nat.le_of_ble_eq_true rfl), (Nat.le_of_ble_eq_true rfl)⟩ rfl (Nat.le_of_ble_eq_true rfl) ⟨(Nat.le_of_ble_eq_true rfl), (Nat.le_of_ble_eq_true rfl)⟩ dX4_readAct_93 (fun v g_132 H locs hp hT => ?_)
                obtain ⟨z2_133, rfl, hI, x_141, m_140, f_134, f_135, f_136, f_137, f_138, f_139⟩ := hp
                have hc : g_132.2.2.2.1 ba = ct := (Sm.cf m_140 r_109 (by decide) rfl).trans hc
                have hO : OX o wa ta va g g_132 := OX.tr hE hO f_139
                have hM : Sm md_s_readAct g g_132 := hM.tr hE (m_140.mo (fun r k h => mdle_s_readAct_s_pappend h))
                have hE : Ex g g_132 := hE.tr x_141
                have r_142 : g_132.1 h = 5 := (Ex.r x_141 r_107 (by decide))
                have r_143 : g_132.1 o = 3 := (Ex.r x_141 r_108 (by decide))
                have r_144 : g_132.1 ba = 67 := (Ex.r x_141 r_109 (by decide))
                have r_145 : g_132.1 wa = 68 := (Ex.r x_141 r_110 (by decide))
                have r_146 : g_132.1 ta = 69 := (Ex.r x_141 r_111 (by decide))
                have r_147 : g_132.1 va = 70 := (Ex.r x_141 r_112 (by decide))
                have n_148 : g_132.2.2.1 ba = 100 := (Ex.n x_141 r_109 (by decide) n_113)
                have n_149 : g_132.2.2.1 wa = 8 := (Ex.n x_141 r_110 (by decide) n_114)
                have n_150 : g_132.2.2.1 ta = 8 := (Ex.n x_141 r_111 (by decide) n_115)
                have n_151 : g_132.2.2.1 va = 8 := (Ex.n x_141 r_112 (by decide) n_116)
                have kn_152 : g_132.2.1 h 1 = .int sz := (Sm.v m_140 r_107 (by decide) rfl kn_118)
                have kn_153 : g_132.2.1 h 0 = .ref ba := (Sm.v m_140 r_107 (by decide) rfl kn_119)
                have kn_154 : g_132.2.1 o 0 = .ref wa := (Sm.v m_140 r_108 (by decide) rfl kn_120)
                have kn_155 : g_132.2.1 o 1 = .ref ta := (Sm.v m_140 r_108 (by decide) rfl kn_121)
                have kn_156 : g_132.2.1 o 2 = .ref va := (Sm.v m_140 r_108 (by decide) rfl kn_122)
                have kn_157 : g_132.2.1 h 3 = .int pl2_102 := (Sm.v m_140 r_107 (by decide) rfl f_104)
                refine W.eq (g2 := F0 m 96 ls []) rfl ?_
                have qc_158 : (0 : Int32).toInt = 0 := (by decide)
                have hU0 := UP.tr hU0 f_136
                have hU1 := UP.tr hU1 f_137
                have hU2 := UP.tr hU2 f_138
                refine lv_iconst (v := 1) hx hb dX4_readAct_96 (by decide) ?_
                have hx_ := acx_34 (T := (txb ct sz.toInt)) (c' := r_101.toInt) hw_30 (by omega) hw_31 (by omega)
                have qq_159 : (0 : Int32).toInt = 0 := (by decide)
                exact t_zret hB hr rfl hT (Nat.le_of_ble_eq_true rfl) (Nat.le_of_ble_eq_true rfl) dX4_readAct_97 ⟨1, pl2_102, z2_133, true, r_2, r_101, (0 : Int32), rfl, hI, hE, hM, (Or.inl ⟨rfl, ac_34 (m := 3) hw_30 (by omega) hw_31 (em_3 (by omega) rfl) ⟨by omega, by omega⟩ (by omega), by omega, by omega, by omega, rfl, (by omega), (by have q_ := hx_.1; omega), (by have q_ := hx_.2; omega)⟩), kn_157, f_134, hU0, hU1, hU2, hO⟩
              · have c_131' : r_2.toInt ≠ 3 := i_ne c_131 rfl (by decide)
                refine lv_iload_n hx hb dX4_readAct_50 rfl (lv_at hl 2 rfl) ?_
                refine lv_iconst (v := 4) hx hb dX4_readAct_51 (by decide) ?_
                refine lv_icmp_eq (tgt := 80) hx hb dX4_readAct_52 (by decide) (fun c_160 => ?_) (fun c_160 => ?_)
                · have c_160' : r_2.toInt = 4 := i_eq c_160 rfl (by decide)
                  refine lv_iload hx hb dX4_readAct_80 (lv_at hl 0 rfl) ?_
                  refine lv_iconst (v := (-1)) hx hb dX4_readAct_82 (by decide) ?_
                  refine lv_icmp_ne (tgt := 88) hx hb dX4_readAct_83 (by decide) (fun c_ => ?_) (fun c_ => absurd c_ (by decide))
                  refine lv_aload_n hx hb dX4_readAct_88 rfl (lv_at hl 4 rfl) ?_
                  refine lv_iload_n hx hb dX4_readAct_89 rfl (lv_at hl 2 rfl) ?_
                  refine lv_iload_n hx hb dX4_readAct_90 rfl (lv_at hl 1 rfl) ?_
                  refine lv_iload hx hb dX4_readAct_91 (lv_at hl 0 rfl) ?_
                  refine t_callV (n := 3) (As := [.int r_2, .int r_101, .int 0]) (rest := []) (ci := 2) hB hT hl.1 (s_pappend l D cI cZ cS cR N0 g_100 hI o r_2 r_101 0 zz wa ta va r_108 r_110 n_114 r_111 n_115 r_112 n_116 kn_117 kn_120 kn_121 kn_122 (by have q0 : (0 : Int32).toInt = 0 := (by decide); omega) (by have q0 : (0 : Int32).toInt = 0 := (by decide); omega) (by have q0 : (0 : Int32).toInt = 0 := (by decide); omega) (by have q0 : (0 : Int32).toInt = 0 := (by decide); omega)) (ro_ci r_108 rfl) rfl k_427 k_61 k_424 k_425 k_426 (by decide +kernel) ⟨(Nat.le_of_ble_eq_true rfl), (Nat.le_of_ble_eq_true rfl)⟩ rfl (Nat.le_of_ble_eq_true rfl) ⟨(Nat.le_of_ble_eq_true rfl), (Nat.le_of_ble_eq_true rfl)⟩ dX4_readAct_93 (fun v g_161 H locs hp hT => ?_)
                  obtain ⟨z2_162, rfl, hI, x_170, m_169, f_163, f_164, f_165, f_166, f_167, f_168⟩ := hp
                  have hc : g_161.2.2.2.1 ba = ct := (Sm.cf m_169 r_109 (by decide) rfl).trans hc
                  have hO : OX o wa ta va g g_161 := OX.tr hE hO f_168
                  have hM : Sm md_s_readAct g g_161 := hM.tr hE (m_169.mo (fun r k h => mdle_s_readAct_s_pappend h))
                  have hE : Ex g g_161 := hE.tr x_170
                  have r_171 : g_161.1 h = 5 := (Ex.r x_170 r_107 (by decide))
                  have r_172 : g_161.1 o = 3 := (Ex.r x_170 r_108 (by decide))
                  have r_173 : g_161.1 ba = 67 := (Ex.r x_170 r_109 (by decide))
                  have r_174 : g_161.1 wa = 68 := (Ex.r x_170 r_110 (by decide))
                  have r_175 : g_161.1 ta = 69 := (Ex.r x_170 r_111 (by decide))
                  have r_176 : g_161.1 va = 70 := (Ex.r x_170 r_112 (by decide))
                  have n_177 : g_161.2.2.1 ba = 100 := (Ex.n x_170 r_109 (by decide) n_113)
                  have n_178 : g_161.2.2.1 wa = 8 := (Ex.n x_170 r_110 (by decide) n_114)
                  have n_179 : g_161.2.2.1 ta = 8 := (Ex.n x_170 r_111 (by decide) n_115)
                  have n_180 : g_161.2.2.1 va = 8 := (Ex.n x_170 r_112 (by decide) n_116)
                  have kn_181 : g_161.2.1 h 1 = .int sz := (Sm.v m_169 r_107 (by decide) rfl kn_118)
                  have kn_182 : g_161.2.1 h 0 = .ref ba := (Sm.v m_169 r_107 (by decide) rfl kn_119)
                  have kn_183 : g_161.2.1 o 0 = .ref wa := (Sm.v m_169 r_108 (by decide) rfl kn_120)
                  have kn_184 : g_161.2.1 o 1 = .ref ta := (Sm.v m_169 r_108 (by decide) rfl kn_121)
                  have kn_185 : g_161.2.1 o 2 = .ref va := (Sm.v m_169 r_108 (by decide) rfl kn_122)
                  have kn_186 : g_161.2.1 h 3 = .int pl2_102 := (Sm.v m_169 r_107 (by decide) rfl f_104)
                  refine W.eq (g2 := F0 m 96 ls []) rfl ?_
                  have qc_187 : (0 : Int32).toInt = 0 := (by decide)
                  have hU0 := UP.tr hU0 f_165
                  have hU1 := UP.tr hU1 f_166
                  have hU2 := UP.tr hU2 f_167
                  refine lv_iconst (v := 1) hx hb dX4_readAct_96 (by decide) ?_
                  have hx_ := acx_34 (T := (txb ct sz.toInt)) (c' := r_101.toInt) hw_30 (by omega) hw_31 (by omega)
                  have qq_188 : (0 : Int32).toInt = 0 := (by decide)
                  exact t_zret hB hr rfl hT (Nat.le_of_ble_eq_true rfl) (Nat.le_of_ble_eq_true rfl) dX4_readAct_97 ⟨1, pl2_102, z2_162, true, r_2, r_101, (0 : Int32), rfl, hI, hE, hM, (Or.inl ⟨rfl, ac_34 (m := 3) hw_30 (by omega) hw_31 (em_3 (by omega) rfl) ⟨by omega, by omega⟩ (by omega), by omega, by omega, by omega, rfl, (by omega), (by have q_ := hx_.1; omega), (by have q_ := hx_.2; omega)⟩), kn_186, f_163, hU0, hU1, hU2, hO⟩
                · have c_160' : r_2.toInt ≠ 4 := i_ne c_160 rfl (by decide)
                  refine lv_iload_n hx hb dX4_readAct_55 rfl (lv_at hl 2 rfl) ?_
                  refine lv_bipush (v := 6) hx hb dX4_readAct_56 (by decide) ?_
                  refine lv_icmp_eq (tgt := 70) hx hb dX4_readAct_58 (by decide) (fun c_189 => ?_) (fun c_189 => ?_)
                  · have c_189' : r_2.toInt = 6 := i_eq c_189 rfl (by decide)
                    refine lv_aload_n hx hb dX4_readAct_70 rfl (lv_at hl 3 rfl) ?_
                    refine t_callV (n := 0) (As := []) (rest := []) (ci := 4) hB hT hl.1 (s_readValue l D cI cZ cS cR N0 g_100 hI h pl2_102 sz ba ct r_107 r_109 n_113 f_104 kn_118 kn_119 (by omega) (by omega) (by omega) (by omega) hc) (ro_ci r_107 rfl) rfl k_423 k_58 k_420 k_422 k_6 (by decide +kernel) ⟨(Nat.le_of_ble_eq_true rfl), (Nat.le_of_ble_eq_true rfl)⟩ rfl (Nat.le_of_ble_eq_true rfl) ⟨(Nat.le_of_ble_eq_true rfl), (Nat.le_of_ble_eq_true rfl)⟩ dX4_readAct_71 (fun v g_190 H locs hp hT => ?_)
                    obtain ⟨r_191, pl2_192, rfl, hI, x_196, m_195, f_193, f_194⟩ := hp
                    have hc : g_190.2.2.2.1 ba = ct := (Sm.cf m_195 r_109 (by decide) rfl).trans hc
                    have hU0 : UP g_190 wa (g.2.2.2.1 wa) false zz.toNatClampNeg (0 : Int32) := hU0.sm m_195 r_110 (by decide) rfl
                    have hU1 : UP g_190 ta (g.2.2.2.1 ta) false zz.toNatClampNeg (0 : Int32) := hU1.sm m_195 r_111 (by decide) rfl
                    have hU2 : UP g_190 va (g.2.2.2.1 va) false zz.toNatClampNeg (0 : Int32) := hU2.sm m_195 r_112 (by decide) rfl
                    have hO : OX o wa ta va g g_190 := OX.tr hE hO (OX.sm m_195 rfl rfl rfl rfl)
                    have hM : Sm md_s_readAct g g_190 := hM.tr hE (m_195.mo (fun r k h => mdle_s_readAct_s_readValue h))
                    have hE : Ex g g_190 := hE.tr x_196
                    have r_197 : g_190.1 h = 5 := (Ex.r x_196 r_107 (by decide))
                    have r_198 : g_190.1 o = 3 := (Ex.r x_196 r_108 (by decide))
                    have r_199 : g_190.1 ba = 67 := (Ex.r x_196 r_109 (by decide))
                    have r_200 : g_190.1 wa = 68 := (Ex.r x_196 r_110 (by decide))
                    have r_201 : g_190.1 ta = 69 := (Ex.r x_196 r_111 (by decide))
                    have r_202 : g_190.1 va = 70 := (Ex.r x_196 r_112 (by decide))
                    have n_203 : g_190.2.2.1 ba = 100 := (Ex.n x_196 r_109 (by decide) n_113)
                    have n_204 : g_190.2.2.1 wa = 8 := (Ex.n x_196 r_110 (by decide) n_114)
                    have n_205 : g_190.2.2.1 ta = 8 := (Ex.n x_196 r_111 (by decide) n_115)
                    have n_206 : g_190.2.2.1 va = 8 := (Ex.n x_196 r_112 (by decide) n_116)
                    have kn_207 : g_190.2.1 o 3 = .int zz := (Sm.v m_195 r_108 (by decide) rfl kn_117)
                    have kn_208 : g_190.2.1 h 1 = .int sz := (Sm.v m_195 r_107 (by decide) rfl kn_118)
                    have kn_209 : g_190.2.1 h 0 = .ref ba := (Sm.v m_195 r_107 (by decide) rfl kn_119)
                    have kn_210 : g_190.2.1 o 0 = .ref wa := (Sm.v m_195 r_108 (by decide) rfl kn_120)
                    have kn_211 : g_190.2.1 o 1 = .ref ta := (Sm.v m_195 r_108 (by decide) rfl kn_121)
                    have kn_212 : g_190.2.1 o 2 = .ref va := (Sm.v m_195 r_108 (by decide) rfl kn_122)
                    refine W.eq (g2 := F0 m 74 ls [.int r_191]) rfl ?_
                    rcases f_193 with ⟨rfl, hw_213, hw_214, rfl⟩ | ⟨hw_215, hw_216, hw_217, hw_218, hw_219, hw_220⟩
                    · refine W.eq (g2 := F0 m 74 ls [.int (-1)]) rfl ?_
                      refine lv_goto (tgt := 78) hx hb dX4_readAct_74 (by decide) ?_
                      refine lv_istore (lv' := [(4, .int (-1)), (3, .int r_101), (2, .int r_2), (0, .ref h), (1, .ref o)]) hx hb dX4_readAct_78 hl (by decide) rfl (fun ls hl => ?_)
                      refine lv_iload hx hb dX4_readAct_80 (lv_at hl 0 rfl) ?_
                      refine lv_iconst (v := (-1)) hx hb dX4_readAct_82 (by decide) ?_
                      refine lv_icmp_ne (tgt := 88) hx hb dX4_readAct_83 (by decide) (fun c_ => absurd (by decide) c_) (fun c_ => ?_)
                      refine lv_iconst (v := 0) hx hb dX4_readAct_86 (by decide) ?_
                      exact t_zret hB hr rfl hT (Nat.le_of_ble_eq_true rfl) (Nat.le_of_ble_eq_true rfl) dX4_readAct_87 ⟨0, pl2_102, zz, false, (0 : Int32), (0 : Int32), (0 : Int32), rfl, hI, hE, hM, (Or.inr ⟨rfl, ac_vn (q2 := pl2_102.toInt) (m := 3) hw_30 (by omega) (by omega) (by omega) hw_31 (em_3 (by omega) rfl) ⟨by omega, by omega⟩ (by omega) (by omega) (by omega) hw_213 hw_214, by omega, by omega, by omega, rfl⟩), f_194, kn_207, hU0, hU1, hU2, hO⟩
                    · refine W.eq (g2 := F0 m 74 ls [.int r_191]) rfl ?_
                      refine lv_goto (tgt := 78) hx hb dX4_readAct_74 (by decide) ?_
                      refine lv_istore (lv' := [(4, .int r_191), (3, .int r_101), (2, .int r_2), (0, .ref h), (1, .ref o)]) hx hb dX4_readAct_78 hl (by decide) rfl (fun ls hl => ?_)
                      refine lv_iload hx hb dX4_readAct_80 (lv_at hl 0 rfl) ?_
                      refine lv_iconst (v := (-1)) hx hb dX4_readAct_82 (by decide) ?_
                      refine lv_icmp_ne (tgt := 88) hx hb dX4_readAct_83 (by decide) (fun c_221 => ?_) (fun c_221 => ?_)
                      · have c_221' : r_191.toInt ≠ (-1) := i_ne c_221 rfl (by decide)
                        refine lv_aload_n hx hb dX4_readAct_88 rfl (lv_at hl 4 rfl) ?_
                        refine lv_iload_n hx hb dX4_readAct_89 rfl (lv_at hl 2 rfl) ?_
                        refine lv_iload_n hx hb dX4_readAct_90 rfl (lv_at hl 1 rfl) ?_
                        refine lv_iload hx hb dX4_readAct_91 (lv_at hl 0 rfl) ?_
                        refine t_callV (n := 3) (As := [.int r_2, .int r_101, .int r_191]) (rest := []) (ci := 2) hB hT hl.1 (s_pappend l D cI cZ cS cR N0 g_190 hI o r_2 r_101 r_191 zz wa ta va r_198 r_200 n_204 r_201 n_205 r_202 n_206 kn_207 kn_210 kn_211 kn_212 (by omega) (by omega) (by omega) (by omega)) (ro_ci r_198 rfl) rfl k_427 k_61 k_424 k_425 k_426 (by decide +kernel) ⟨(Nat.le_of_ble_eq_true rfl), (Nat.le_of_ble_eq_true rfl)⟩ rfl (Nat.le_of_ble_eq_true rfl) ⟨(Nat.le_of_ble_eq_true rfl), (Nat.le_of_ble_eq_true rfl)⟩ dX4_readAct_93 (fun v g_222 H locs hp hT => ?_)
                        obtain ⟨z2_223, rfl, hI, x_231, m_230, f_224, f_225, f_226, f_227, f_228, f_229⟩ := hp
                        have hc : g_222.2.2.2.1 ba = ct := (Sm.cf m_230 r_199 (by decide) rfl).trans hc
                        have hO : OX o wa ta va g g_222 := OX.tr hE hO f_229
                        have hM : Sm md_s_readAct g g_222 := hM.tr hE (m_230.mo (fun r k h => mdle_s_readAct_s_pappend h))
                        have hE : Ex g g_222 := hE.tr x_231
                        have r_232 : g_222.1 h = 5 := (Ex.r x_231 r_197 (by decide))
                        have r_233 : g_222.1 o = 3 := (Ex.r x_231 r_198 (by decide))
                        have r_234 : g_222.1 ba = 67 := (Ex.r x_231 r_199 (by decide))
                        have r_235 : g_222.1 wa = 68 := (Ex.r x_231 r_200 (by decide))
                        have r_236 : g_222.1 ta = 69 := (Ex.r x_231 r_201 (by decide))
                        have r_237 : g_222.1 va = 70 := (Ex.r x_231 r_202 (by decide))
                        have n_238 : g_222.2.2.1 ba = 100 := (Ex.n x_231 r_199 (by decide) n_203)
                        have n_239 : g_222.2.2.1 wa = 8 := (Ex.n x_231 r_200 (by decide) n_204)
                        have n_240 : g_222.2.2.1 ta = 8 := (Ex.n x_231 r_201 (by decide) n_205)
                        have n_241 : g_222.2.2.1 va = 8 := (Ex.n x_231 r_202 (by decide) n_206)
                        have kn_242 : g_222.2.1 h 1 = .int sz := (Sm.v m_230 r_197 (by decide) rfl kn_208)
                        have kn_243 : g_222.2.1 h 0 = .ref ba := (Sm.v m_230 r_197 (by decide) rfl kn_209)
                        have kn_244 : g_222.2.1 o 0 = .ref wa := (Sm.v m_230 r_198 (by decide) rfl kn_210)
                        have kn_245 : g_222.2.1 o 1 = .ref ta := (Sm.v m_230 r_198 (by decide) rfl kn_211)
                        have kn_246 : g_222.2.1 o 2 = .ref va := (Sm.v m_230 r_198 (by decide) rfl kn_212)
                        have kn_247 : g_222.2.1 h 3 = .int pl2_192 := (Sm.v m_230 r_197 (by decide) rfl f_194)
                        refine W.eq (g2 := F0 m 96 ls []) rfl ?_
                        have hU0 := UP.tr hU0 f_226
                        have hU1 := UP.tr hU1 f_227
                        have hU2 := UP.tr hU2 f_228
                        refine lv_iconst (v := 1) hx hb dX4_readAct_96 (by decide) ?_
                        have hx_ := (show acc (txb ct sz.toInt) pl.toInt = r_101.toInt ∧ acv (txb ct sz.toInt) pl.toInt = r_191.toInt by omega)
                        exact t_zret hB hr rfl hT (Nat.le_of_ble_eq_true rfl) (Nat.le_of_ble_eq_true rfl) dX4_readAct_97 ⟨1, pl2_192, z2_223, true, r_2, r_101, r_191, rfl, hI, hE, hM, (Or.inl ⟨rfl, ac_vs (q2 := pl2_102.toInt) (m := 3) hw_30 (by omega) (by omega) (by omega) hw_31 (em_3 (by omega) rfl) ⟨by omega, by omega⟩ (by omega) (by omega) (by omega) hw_217 hw_215 hw_218, by omega, by omega, by omega, rfl, (by omega), (by have q_ := hx_.1; omega), (by have q_ := hx_.2; omega)⟩), kn_247, f_224, hU0, hU1, hU2, hO⟩
                      · have c_221' : r_191.toInt = (-1) := i_eq c_221 rfl (by decide)
                        exact absurd c_221' (by omega)
                  · have c_189' : r_2.toInt ≠ 6 := i_ne c_189 rfl (by decide)
                    refine lv_aload_n hx hb dX4_readAct_61 rfl (lv_at hl 3 rfl) ?_
                    refine lv_bipush (v := 32) hx hb dX4_readAct_62 (by decide) ?_
                    refine t_callV (n := 1) (As := [.int 32]) (rest := []) (ci := 4) hB hT hl.1 (s_pass l D cI cZ cS cR N0 g_100 hI h 32 pl2_102 sz ba ct r_107 r_109 n_113 f_104 kn_118 kn_119 (by have q0 : (32 : Int32).toInt = 32 := (by decide); omega) (by have q0 : (32 : Int32).toInt = 32 := (by decide); omega) (by have q0 : (32 : Int32).toInt = 32 := (by decide); omega) (by have q0 : (32 : Int32).toInt = 32 := (by decide); omega) (by have q0 : (32 : Int32).toInt = 32 := (by decide); omega) hc) (ro_ci r_107 rfl) rfl k_419 k_58 k_416 k_418 k_5 (by decide +kernel) ⟨(Nat.le_of_ble_eq_true rfl), (Nat.le_of_ble_eq_true rfl)⟩ rfl (Nat.le_of_ble_eq_true rfl) ⟨(Nat.le_of_ble_eq_true rfl), (Nat.le_of_ble_eq_true rfl)⟩ dX4_readAct_64 (fun v g_248 H locs hp hT => ?_)
                    obtain ⟨r_249, pl2_250, rfl, hI, x_254, m_253, f_251, f_252⟩ := hp
                    have hc : g_248.2.2.2.1 ba = ct := (Sm.cf m_253 r_109 (by decide) rfl).trans hc
                    have hU0 : UP g_248 wa (g.2.2.2.1 wa) false zz.toNatClampNeg (0 : Int32) := hU0.sm m_253 r_110 (by decide) rfl
                    have hU1 : UP g_248 ta (g.2.2.2.1 ta) false zz.toNatClampNeg (0 : Int32) := hU1.sm m_253 r_111 (by decide) rfl
                    have hU2 : UP g_248 va (g.2.2.2.1 va) false zz.toNatClampNeg (0 : Int32) := hU2.sm m_253 r_112 (by decide) rfl
                    have hO : OX o wa ta va g g_248 := OX.tr hE hO (OX.sm m_253 rfl rfl rfl rfl)
                    have hM : Sm md_s_readAct g g_248 := hM.tr hE (m_253.mo (fun r k h => mdle_s_readAct_s_pass h))
                    have hE : Ex g g_248 := hE.tr x_254
                    have r_255 : g_248.1 h = 5 := (Ex.r x_254 r_107 (by decide))
                    have r_256 : g_248.1 o = 3 := (Ex.r x_254 r_108 (by decide))
                    have r_257 : g_248.1 ba = 67 := (Ex.r x_254 r_109 (by decide))
                    have r_258 : g_248.1 wa = 68 := (Ex.r x_254 r_110 (by decide))
                    have r_259 : g_248.1 ta = 69 := (Ex.r x_254 r_111 (by decide))
                    have r_260 : g_248.1 va = 70 := (Ex.r x_254 r_112 (by decide))
                    have n_261 : g_248.2.2.1 ba = 100 := (Ex.n x_254 r_109 (by decide) n_113)
                    have n_262 : g_248.2.2.1 wa = 8 := (Ex.n x_254 r_110 (by decide) n_114)
                    have n_263 : g_248.2.2.1 ta = 8 := (Ex.n x_254 r_111 (by decide) n_115)
                    have n_264 : g_248.2.2.1 va = 8 := (Ex.n x_254 r_112 (by decide) n_116)
                    have kn_265 : g_248.2.1 o 3 = .int zz := (Sm.v m_253 r_108 (by decide) rfl kn_117)
                    have kn_266 : g_248.2.1 h 1 = .int sz := (Sm.v m_253 r_107 (by decide) rfl kn_118)
                    have kn_267 : g_248.2.1 h 0 = .ref ba := (Sm.v m_253 r_107 (by decide) rfl kn_119)
                    have kn_268 : g_248.2.1 o 0 = .ref wa := (Sm.v m_253 r_108 (by decide) rfl kn_120)
                    have kn_269 : g_248.2.1 o 1 = .ref ta := (Sm.v m_253 r_108 (by decide) rfl kn_121)
                    have kn_270 : g_248.2.1 o 2 = .ref va := (Sm.v m_253 r_108 (by decide) rfl kn_122)
                    refine W.eq (g2 := F0 m 67 ls [.int r_249]) rfl ?_
                    have qc_271 : (32 : Int32).toInt = 32 := (by decide)
                    rcases f_251 with ⟨rfl, hw_272, hw_273, hw_274⟩ | ⟨rfl, hw_275, rfl⟩
                    · refine W.eq (g2 := F0 m 67 ls [.int 1]) rfl ?_
                      refine lv_if_eq (tgt := 77) hx hb dX4_readAct_67 (by decide) (fun c_ => absurd c_ (by decide)) (fun c_ => ?_)
                      refine lv_aload_n hx hb dX4_readAct_70 rfl (lv_at hl 3 rfl) ?_
                      refine t_callV (n := 0) (As := []) (rest := []) (ci := 4) hB hT hl.1 (s_readValue l D cI cZ cS cR N0 g_248 hI h pl2_250 sz ba ct r_255 r_257 n_261 f_252 kn_266 kn_267 (by omega) (by omega) (by omega) (by omega) hc) (ro_ci r_255 rfl) rfl k_423 k_58 k_420 k_422 k_6 (by decide +kernel) ⟨(Nat.le_of_ble_eq_true rfl), (Nat.le_of_ble_eq_true rfl)⟩ rfl (Nat.le_of_ble_eq_true rfl) ⟨(Nat.le_of_ble_eq_true rfl), (Nat.le_of_ble_eq_true rfl)⟩ dX4_readAct_71 (fun v g_276 H locs hp hT => ?_)
                      obtain ⟨r_277, pl2_278, rfl, hI, x_282, m_281, f_279, f_280⟩ := hp
                      have hc : g_276.2.2.2.1 ba = ct := (Sm.cf m_281 r_257 (by decide) rfl).trans hc
                      have hU0 : UP g_276 wa (g.2.2.2.1 wa) false zz.toNatClampNeg (0 : Int32) := hU0.sm m_281 r_258 (by decide) rfl
                      have hU1 : UP g_276 ta (g.2.2.2.1 ta) false zz.toNatClampNeg (0 : Int32) := hU1.sm m_281 r_259 (by decide) rfl
                      have hU2 : UP g_276 va (g.2.2.2.1 va) false zz.toNatClampNeg (0 : Int32) := hU2.sm m_281 r_260 (by decide) rfl
                      have hO : OX o wa ta va g g_276 := OX.tr hE hO (OX.sm m_281 rfl rfl rfl rfl)
                      have hM : Sm md_s_readAct g g_276 := hM.tr hE (m_281.mo (fun r k h => mdle_s_readAct_s_readValue h))
                      have hE : Ex g g_276 := hE.tr x_282
                      have r_283 : g_276.1 h = 5 := (Ex.r x_282 r_255 (by decide))
                      have r_284 : g_276.1 o = 3 := (Ex.r x_282 r_256 (by decide))
                      have r_285 : g_276.1 ba = 67 := (Ex.r x_282 r_257 (by decide))
                      have r_286 : g_276.1 wa = 68 := (Ex.r x_282 r_258 (by decide))
                      have r_287 : g_276.1 ta = 69 := (Ex.r x_282 r_259 (by decide))
                      have r_288 : g_276.1 va = 70 := (Ex.r x_282 r_260 (by decide))
                      have n_289 : g_276.2.2.1 ba = 100 := (Ex.n x_282 r_257 (by decide) n_261)
                      have n_290 : g_276.2.2.1 wa = 8 := (Ex.n x_282 r_258 (by decide) n_262)
                      have n_291 : g_276.2.2.1 ta = 8 := (Ex.n x_282 r_259 (by decide) n_263)
                      have n_292 : g_276.2.2.1 va = 8 := (Ex.n x_282 r_260 (by decide) n_264)
                      have kn_293 : g_276.2.1 o 3 = .int zz := (Sm.v m_281 r_256 (by decide) rfl kn_265)
                      have kn_294 : g_276.2.1 h 1 = .int sz := (Sm.v m_281 r_255 (by decide) rfl kn_266)
                      have kn_295 : g_276.2.1 h 0 = .ref ba := (Sm.v m_281 r_255 (by decide) rfl kn_267)
                      have kn_296 : g_276.2.1 o 0 = .ref wa := (Sm.v m_281 r_256 (by decide) rfl kn_268)
                      have kn_297 : g_276.2.1 o 1 = .ref ta := (Sm.v m_281 r_256 (by decide) rfl kn_269)
                      have kn_298 : g_276.2.1 o 2 = .ref va := (Sm.v m_281 r_256 (by decide) rfl kn_270)
                      refine W.eq (g2 := F0 m 74 ls [.int r_277]) rfl ?_
                      rcases f_279 with ⟨rfl, hw_299, hw_300, rfl⟩ | ⟨hw_301, hw_302, hw_303, hw_304, hw_305, hw_306⟩
                      · refine W.eq (g2 := F0 m 74 ls [.int (-1)]) rfl ?_
                        refine lv_goto (tgt := 78) hx hb dX4_readAct_74 (by decide) ?_
                        refine lv_istore (lv' := [(4, .int (-1)), (3, .int r_101), (2, .int r_2), (0, .ref h), (1, .ref o)]) hx hb dX4_readAct_78 hl (by decide) rfl (fun ls hl => ?_)
                        refine lv_iload hx hb dX4_readAct_80 (lv_at hl 0 rfl) ?_
                        refine lv_iconst (v := (-1)) hx hb dX4_readAct_82 (by decide) ?_
                        refine lv_icmp_ne (tgt := 88) hx hb dX4_readAct_83 (by decide) (fun c_ => absurd (by decide) c_) (fun c_ => ?_)
                        refine lv_iconst (v := 0) hx hb dX4_readAct_86 (by decide) ?_
                        exact t_zret hB hr rfl hT (Nat.le_of_ble_eq_true rfl) (Nat.le_of_ble_eq_true rfl) dX4_readAct_87 ⟨0, pl2_250, zz, false, (0 : Int32), (0 : Int32), (0 : Int32), rfl, hI, hE, hM, (Or.inr ⟨rfl, ac_vn (q2 := pl2_102.toInt) (m := 3) hw_30 (by omega) (by omega) (by omega) hw_31 (em_3 (by omega) rfl) ⟨by omega, by omega⟩ (by omega) (by omega) (by omega) hw_299 hw_300, by omega, by omega, by omega, rfl⟩), f_280, kn_293, hU0, hU1, hU2, hO⟩
                      · refine W.eq (g2 := F0 m 74 ls [.int r_277]) rfl ?_
                        refine lv_goto (tgt := 78) hx hb dX4_readAct_74 (by decide) ?_
                        refine lv_istore (lv' := [(4, .int r_277), (3, .int r_101), (2, .int r_2), (0, .ref h), (1, .ref o)]) hx hb dX4_readAct_78 hl (by decide) rfl (fun ls hl => ?_)
                        refine lv_iload hx hb dX4_readAct_80 (lv_at hl 0 rfl) ?_
                        refine lv_iconst (v := (-1)) hx hb dX4_readAct_82 (by decide) ?_
                        refine lv_icmp_ne (tgt := 88) hx hb dX4_readAct_83 (by decide) (fun c_307 => ?_) (fun c_307 => ?_)
                        · have c_307' : r_277.toInt ≠ (-1) := i_ne c_307 rfl (by decide)
                          refine lv_aload_n hx hb dX4_readAct_88 rfl (lv_at hl 4 rfl) ?_
                          refine lv_iload_n hx hb dX4_readAct_89 rfl (lv_at hl 2 rfl) ?_
                          refine lv_iload_n hx hb dX4_readAct_90 rfl (lv_at hl 1 rfl) ?_
                          refine lv_iload hx hb dX4_readAct_91 (lv_at hl 0 rfl) ?_
                          refine t_callV (n := 3) (As := [.int r_2, .int r_101, .int r_277]) (rest := []) (ci := 2) hB hT hl.1 (s_pappend l D cI cZ cS cR N0 g_276 hI o r_2 r_101 r_277 zz wa ta va r_284 r_286 n_290 r_287 n_291 r_288 n_292 kn_293 kn_296 kn_297 kn_298 (by omega) (by omega) (by omega) (by omega)) (ro_ci r_284 rfl) rfl k_427 k_61 k_424 k_425 k_426 (by decide +kernel) ⟨(Nat.le_of_ble_eq_true rfl), (Nat.le_of_ble_eq_true rfl)⟩ rfl (Nat.le_of_ble_eq_true rfl) ⟨(Nat.le_of_ble_eq_true rfl), (Nat.le_of_ble_eq_true rfl)⟩ dX4_readAct_93 (fun v g_308 H locs hp hT => ?_)
                          obtain ⟨z2_309, rfl, hI, x_317, m_316, f_310, f_311, f_312, f_313, f_314, f_315⟩ := hp
                          have hc : g_308.2.2.2.1 ba = ct := (Sm.cf m_316 r_285 (by decide) rfl).trans hc
                          have hO : OX o wa ta va g g_308 := OX.tr hE hO f_315
                          have hM : Sm md_s_readAct g g_308 := hM.tr hE (m_316.mo (fun r k h => mdle_s_readAct_s_pappend h))
                          have hE : Ex g g_308 := hE.tr x_317
                          have r_318 : g_308.1 h = 5 := (Ex.r x_317 r_283 (by decide))
                          have r_319 : g_308.1 o = 3 := (Ex.r x_317 r_284 (by decide))
                          have r_320 : g_308.1 ba = 67 := (Ex.r x_317 r_285 (by decide))
                          have r_321 : g_308.1 wa = 68 := (Ex.r x_317 r_286 (by decide))
                          have r_322 : g_308.1 ta = 69 := (Ex.r x_317 r_287 (by decide))
                          have r_323 : g_308.1 va = 70 := (Ex.r x_317 r_288 (by decide))
                          have n_324 : g_308.2.2.1 ba = 100 := (Ex.n x_317 r_285 (by decide) n_289)
                          have n_325 : g_308.2.2.1 wa = 8 := (Ex.n x_317 r_286 (by decide) n_290)
                          have n_326 : g_308.2.2.1 ta = 8 := (Ex.n x_317 r_287 (by decide) n_291)
                          have n_327 : g_308.2.2.1 va = 8 := (Ex.n x_317 r_288 (by decide) n_292)
                          have kn_328 : g_308.2.1 h 1 = .int sz := (Sm.v m_316 r_283 (by decide) rfl kn_294)
                          have kn_329 : g_308.2.1 h 0 = .ref ba := (Sm.v m_316 r_283 (by decide) rfl kn_295)
                          have kn_330 : g_308.2.1 o 0 = .ref wa := (Sm.v m_316 r_284 (by decide) rfl kn_296)
                          have kn_331 : g_308.2.1 o 1 = .ref ta := (Sm.v m_316 r_284 (by decide) rfl kn_297)
                          have kn_332 : g_308.2.1 o 2 = .ref va := (Sm.v m_316 r_284 (by decide) rfl kn_298)
                          have kn_333 : g_308.2.1 h 3 = .int pl2_278 := (Sm.v m_316 r_283 (by decide) rfl f_280)
                          refine W.eq (g2 := F0 m 96 ls []) rfl ?_
                          have hU0 := UP.tr hU0 f_312
                          have hU1 := UP.tr hU1 f_313
                          have hU2 := UP.tr hU2 f_314
                          refine lv_iconst (v := 1) hx hb dX4_readAct_96 (by decide) ?_
                          have hx_ := acx_v (T := (txb ct sz.toInt)) (c' := r_101.toInt) (q3 := pl2_250.toInt) hw_30 (by omega) (by omega) hw_31 (by omega) (by omega) hw_303
                          exact t_zret hB hr rfl hT (Nat.le_of_ble_eq_true rfl) (Nat.le_of_ble_eq_true rfl) dX4_readAct_97 ⟨1, pl2_278, z2_309, true, r_2, r_101, r_277, rfl, hI, hE, hM, (Or.inl ⟨rfl, ac_vs (q2 := pl2_102.toInt) (m := 3) hw_30 (by omega) (by omega) (by omega) hw_31 (em_3 (by omega) rfl) ⟨by omega, by omega⟩ (by omega) (by omega) (by omega) hw_303 hw_301 hw_304, by omega, by omega, by omega, rfl, (by omega), (by have q_ := hx_.1; omega), (by have q_ := hx_.2; omega)⟩), kn_333, f_310, hU0, hU1, hU2, hO⟩
                        · have c_307' : r_277.toInt = (-1) := i_eq c_307 rfl (by decide)
                          exact absurd c_307' (by omega)
                    · refine W.eq (g2 := F0 m 67 ls [.int 0]) rfl ?_
                      refine lv_if_eq (tgt := 77) hx hb dX4_readAct_67 (by decide) (fun c_ => ?_) (fun c_ => absurd (by decide) c_)
                      refine lv_iconst (v := (-1)) hx hb dX4_readAct_77 (by decide) ?_
                      refine lv_istore (lv' := [(4, .int (-1)), (3, .int r_101), (2, .int r_2), (0, .ref h), (1, .ref o)]) hx hb dX4_readAct_78 hl (by decide) rfl (fun ls hl => ?_)
                      refine lv_iload hx hb dX4_readAct_80 (lv_at hl 0 rfl) ?_
                      refine lv_iconst (v := (-1)) hx hb dX4_readAct_82 (by decide) ?_
                      refine lv_icmp_ne (tgt := 88) hx hb dX4_readAct_83 (by decide) (fun c_ => absurd (by decide) c_) (fun c_ => ?_)
                      refine lv_iconst (v := 0) hx hb dX4_readAct_86 (by decide) ?_
                      exact t_zret hB hr rfl hT (Nat.le_of_ble_eq_true rfl) (Nat.le_of_ble_eq_true rfl) dX4_readAct_87 ⟨0, pl2_102, zz, false, (0 : Int32), (0 : Int32), (0 : Int32), rfl, hI, hE, hM, (Or.inr ⟨rfl, ac_s (q2 := pl2_102.toInt) (m := 3) hw_30 (by omega) (by omega) (by omega) hw_31 (em_3 (by omega) rfl) ⟨by omega, by omega⟩ (by omega) (by omega), by omega, by omega, by omega, rfl⟩), f_252, kn_265, hU0, hU1, hU2, hO⟩
            · have c_130' : r_101.toInt = (-1) := i_eq c_130 rfl (by decide)
              exact absurd c_130' (by omega)
        · have c_99' : r_2.toInt = 5 := i_eq c_99 rfl (by decide)
          refine lv_iconst (v := 5) hx hb dX4_readAct_26 (by decide) ?_
          refine lv_goto (tgt := 31) hx hb dX4_readAct_27 (by decide) ?_
          refine t_callV (n := 1) (As := [.int 5]) (rest := []) (ci := 4) hB hT hl.1 (s_readDigit l D cI cZ cS cR N0 g_1 hI h 5 pl2_3 sz ba ct r_8 r_10 n_14 f_5 kn_19 kn_20 (by have q0 : (5 : Int32).toInt = 5 := (by decide); omega) (by have q0 : (5 : Int32).toInt = 5 := (by decide); omega) (by have q0 : (5 : Int32).toInt = 5 := (by decide); omega) (by have q0 : (5 : Int32).toInt = 5 := (by decide); omega) (by have q0 : (5 : Int32).toInt = 5 := (by decide); omega) (by have q0 : (5 : Int32).toInt = 5 := (by decide); omega) hc) (ro_ci r_8 rfl) rfl k_412 k_58 k_409 k_411 k_4 (by decide +kernel) ⟨(Nat.le_of_ble_eq_true rfl), (Nat.le_of_ble_eq_true rfl)⟩ rfl (Nat.le_of_ble_eq_true rfl) ⟨(Nat.le_of_ble_eq_true rfl), (Nat.le_of_ble_eq_true rfl)⟩ dX4_readAct_31 (fun v g_334 H locs hp hT => ?_)
          obtain ⟨r_335, pl2_336, rfl, hI, x_340, m_339, f_337, f_338⟩ := hp
          have hc : g_334.2.2.2.1 ba = ct := (Sm.cf m_339 r_10 (by decide) rfl).trans hc
          have hU0 : UP g_334 wa (g.2.2.2.1 wa) false zz.toNatClampNeg (0 : Int32) := hU0.sm m_339 r_11 (by decide) rfl
          have hU1 : UP g_334 ta (g.2.2.2.1 ta) false zz.toNatClampNeg (0 : Int32) := hU1.sm m_339 r_12 (by decide) rfl
          have hU2 : UP g_334 va (g.2.2.2.1 va) false zz.toNatClampNeg (0 : Int32) := hU2.sm m_339 r_13 (by decide) rfl
          have hO : OX o wa ta va g g_334 := OX.tr hE hO (OX.sm m_339 rfl rfl rfl rfl)
          have hM : Sm md_s_readAct g g_334 := hM.tr hE (m_339.mo (fun r k h => mdle_s_readAct_s_readDigit h))
          have hE : Ex g g_334 := hE.tr x_340
          have r_341 : g_334.1 h = 5 := (Ex.r x_340 r_8 (by decide))
          have r_342 : g_334.1 o = 3 := (Ex.r x_340 r_9 (by decide))
          have r_343 : g_334.1 ba = 67 := (Ex.r x_340 r_10 (by decide))
          have r_344 : g_334.1 wa = 68 := (Ex.r x_340 r_11 (by decide))
          have r_345 : g_334.1 ta = 69 := (Ex.r x_340 r_12 (by decide))
          have r_346 : g_334.1 va = 70 := (Ex.r x_340 r_13 (by decide))
          have n_347 : g_334.2.2.1 ba = 100 := (Ex.n x_340 r_10 (by decide) n_14)
          have n_348 : g_334.2.2.1 wa = 8 := (Ex.n x_340 r_11 (by decide) n_15)
          have n_349 : g_334.2.2.1 ta = 8 := (Ex.n x_340 r_12 (by decide) n_16)
          have n_350 : g_334.2.2.1 va = 8 := (Ex.n x_340 r_13 (by decide) n_17)
          have kn_351 : g_334.2.1 o 3 = .int zz := (Sm.v m_339 r_9 (by decide) rfl kn_18)
          have kn_352 : g_334.2.1 h 1 = .int sz := (Sm.v m_339 r_8 (by decide) rfl kn_19)
          have kn_353 : g_334.2.1 h 0 = .ref ba := (Sm.v m_339 r_8 (by decide) rfl kn_20)
          have kn_354 : g_334.2.1 o 0 = .ref wa := (Sm.v m_339 r_9 (by decide) rfl kn_21)
          have kn_355 : g_334.2.1 o 1 = .ref ta := (Sm.v m_339 r_9 (by decide) rfl kn_22)
          have kn_356 : g_334.2.1 o 2 = .ref va := (Sm.v m_339 r_9 (by decide) rfl kn_23)
          refine W.eq (g2 := F0 m 34 ls [.int r_335]) rfl ?_
          have qc_357 : (5 : Int32).toInt = 5 := (by decide)
          rcases f_337 with ⟨rfl, hw_358, rfl⟩ | ⟨hw_359, hw_360, hw_361, hw_362, hw_363⟩
          · refine W.eq (g2 := F0 m 34 ls [.int (-1)]) rfl ?_
            refine lv_istore_n (lv' := [(3, .int (-1)), (2, .int r_2), (0, .ref h), (1, .ref o)]) hx hb dX4_readAct_34 rfl hl (by decide) rfl (fun ls hl => ?_)
            refine lv_iload_n hx hb dX4_readAct_35 rfl (lv_at hl 0 rfl) ?_
            refine lv_iconst (v := (-1)) hx hb dX4_readAct_36 (by decide) ?_
            refine lv_icmp_ne (tgt := 42) hx hb dX4_readAct_37 (by decide) (fun c_ => absurd (by decide) c_) (fun c_ => ?_)
            refine lv_iconst (v := 0) hx hb dX4_readAct_40 (by decide) ?_
            exact t_zret hB hr rfl hT (Nat.le_of_ble_eq_true rfl) (Nat.le_of_ble_eq_true rfl) dX4_readAct_41 ⟨0, pl2_3, zz, false, (0 : Int32), (0 : Int32), (0 : Int32), rfl, hI, hE, hM, (Or.inr ⟨rfl, ac_d (m := 5) hw_30 (by omega) (by omega) hw_31 (em_5 (by omega) rfl) (by omega), by omega, by omega, by omega, rfl⟩), f_338, kn_351, hU0, hU1, hU2, hO⟩
          · refine W.eq (g2 := F0 m 34 ls [.int r_335]) rfl ?_
            refine lv_istore_n (lv' := [(3, .int r_335), (2, .int r_2), (0, .ref h), (1, .ref o)]) hx hb dX4_readAct_34 rfl hl (by decide) rfl (fun ls hl => ?_)
            refine lv_iload_n hx hb dX4_readAct_35 rfl (lv_at hl 0 rfl) ?_
            refine lv_iconst (v := (-1)) hx hb dX4_readAct_36 (by decide) ?_
            refine lv_icmp_ne (tgt := 42) hx hb dX4_readAct_37 (by decide) (fun c_364 => ?_) (fun c_364 => ?_)
            · have c_364' : r_335.toInt ≠ (-1) := i_ne c_364 rfl (by decide)
              refine lv_iconst (v := 0) hx hb dX4_readAct_42 (by decide) ?_
              refine lv_istore (lv' := [(4, .int 0), (3, .int r_335), (2, .int r_2), (0, .ref h), (1, .ref o)]) hx hb dX4_readAct_43 hl (by decide) rfl (fun ls hl => ?_)
              refine lv_iload_n hx hb dX4_readAct_45 rfl (lv_at hl 2 rfl) ?_
              refine lv_iconst (v := 3) hx hb dX4_readAct_46 (by decide) ?_
              refine lv_icmp_eq (tgt := 80) hx hb dX4_readAct_47 (by decide) (fun c_365 => ?_) (fun c_365 => ?_)
              · have c_365' : r_2.toInt = 3 := i_eq c_365 rfl (by decide)
                exact absurd c_365' (by omega)
              · have c_365' : r_2.toInt ≠ 3 := i_ne c_365 rfl (by decide)
                refine lv_iload_n hx hb dX4_readAct_50 rfl (lv_at hl 2 rfl) ?_
                refine lv_iconst (v := 4) hx hb dX4_readAct_51 (by decide) ?_
                refine lv_icmp_eq (tgt := 80) hx hb dX4_readAct_52 (by decide) (fun c_366 => ?_) (fun c_366 => ?_)
                · have c_366' : r_2.toInt = 4 := i_eq c_366 rfl (by decide)
                  exact absurd c_366' (by omega)
                · have c_366' : r_2.toInt ≠ 4 := i_ne c_366 rfl (by decide)
                  refine lv_iload_n hx hb dX4_readAct_55 rfl (lv_at hl 2 rfl) ?_
                  refine lv_bipush (v := 6) hx hb dX4_readAct_56 (by decide) ?_
                  refine lv_icmp_eq (tgt := 70) hx hb dX4_readAct_58 (by decide) (fun c_367 => ?_) (fun c_367 => ?_)
                  · have c_367' : r_2.toInt = 6 := i_eq c_367 rfl (by decide)
                    exact absurd c_367' (by omega)
                  · have c_367' : r_2.toInt ≠ 6 := i_ne c_367 rfl (by decide)
                    refine lv_aload_n hx hb dX4_readAct_61 rfl (lv_at hl 3 rfl) ?_
                    refine lv_bipush (v := 32) hx hb dX4_readAct_62 (by decide) ?_
                    refine t_callV (n := 1) (As := [.int 32]) (rest := []) (ci := 4) hB hT hl.1 (s_pass l D cI cZ cS cR N0 g_334 hI h 32 pl2_336 sz ba ct r_341 r_343 n_347 f_338 kn_352 kn_353 (by have q0 : (32 : Int32).toInt = 32 := (by decide); omega) (by have q0 : (32 : Int32).toInt = 32 := (by decide); omega) (by have q0 : (32 : Int32).toInt = 32 := (by decide); omega) (by have q0 : (32 : Int32).toInt = 32 := (by decide); omega) (by have q0 : (32 : Int32).toInt = 32 := (by decide); omega) hc) (ro_ci r_341 rfl) rfl k_419 k_58 k_416 k_418 k_5 (by decide +kernel) ⟨(Nat.le_of_ble_eq_true rfl), (Nat.le_of_ble_eq_true rfl)⟩ rfl (Nat.le_of_ble_eq_true rfl) ⟨(Nat.le_of_ble_eq_true rfl), (Nat.le_of_ble_eq_true rfl)⟩ dX4_readAct_64 (fun v g_368 H locs hp hT => ?_)
                    obtain ⟨r_369, pl2_370, rfl, hI, x_374, m_373, f_371, f_372⟩ := hp
                    have hc : g_368.2.2.2.1 ba = ct := (Sm.cf m_373 r_343 (by decide) rfl).trans hc
                    have hU0 : UP g_368 wa (g.2.2.2.1 wa) false zz.toNatClampNeg (0 : Int32) := hU0.sm m_373 r_344 (by decide) rfl
                    have hU1 : UP g_368 ta (g.2.2.2.1 ta) false zz.toNatClampNeg (0 : Int32) := hU1.sm m_373 r_345 (by decide) rfl
                    have hU2 : UP g_368 va (g.2.2.2.1 va) false zz.toNatClampNeg (0 : Int32) := hU2.sm m_373 r_346 (by decide) rfl
                    have hO : OX o wa ta va g g_368 := OX.tr hE hO (OX.sm m_373 rfl rfl rfl rfl)
                    have hM : Sm md_s_readAct g g_368 := hM.tr hE (m_373.mo (fun r k h => mdle_s_readAct_s_pass h))
                    have hE : Ex g g_368 := hE.tr x_374
                    have r_375 : g_368.1 h = 5 := (Ex.r x_374 r_341 (by decide))
                    have r_376 : g_368.1 o = 3 := (Ex.r x_374 r_342 (by decide))
                    have r_377 : g_368.1 ba = 67 := (Ex.r x_374 r_343 (by decide))
                    have r_378 : g_368.1 wa = 68 := (Ex.r x_374 r_344 (by decide))
                    have r_379 : g_368.1 ta = 69 := (Ex.r x_374 r_345 (by decide))
                    have r_380 : g_368.1 va = 70 := (Ex.r x_374 r_346 (by decide))
                    have n_381 : g_368.2.2.1 ba = 100 := (Ex.n x_374 r_343 (by decide) n_347)
                    have n_382 : g_368.2.2.1 wa = 8 := (Ex.n x_374 r_344 (by decide) n_348)
                    have n_383 : g_368.2.2.1 ta = 8 := (Ex.n x_374 r_345 (by decide) n_349)
                    have n_384 : g_368.2.2.1 va = 8 := (Ex.n x_374 r_346 (by decide) n_350)
                    have kn_385 : g_368.2.1 o 3 = .int zz := (Sm.v m_373 r_342 (by decide) rfl kn_351)
                    have kn_386 : g_368.2.1 h 1 = .int sz := (Sm.v m_373 r_341 (by decide) rfl kn_352)
                    have kn_387 : g_368.2.1 h 0 = .ref ba := (Sm.v m_373 r_341 (by decide) rfl kn_353)
                    have kn_388 : g_368.2.1 o 0 = .ref wa := (Sm.v m_373 r_342 (by decide) rfl kn_354)
                    have kn_389 : g_368.2.1 o 1 = .ref ta := (Sm.v m_373 r_342 (by decide) rfl kn_355)
                    have kn_390 : g_368.2.1 o 2 = .ref va := (Sm.v m_373 r_342 (by decide) rfl kn_356)
                    refine W.eq (g2 := F0 m 67 ls [.int r_369]) rfl ?_
                    have qc_391 : (32 : Int32).toInt = 32 := (by decide)
                    rcases f_371 with ⟨rfl, hw_392, hw_393, hw_394⟩ | ⟨rfl, hw_395, rfl⟩
                    · refine W.eq (g2 := F0 m 67 ls [.int 1]) rfl ?_
                      refine lv_if_eq (tgt := 77) hx hb dX4_readAct_67 (by decide) (fun c_ => absurd c_ (by decide)) (fun c_ => ?_)
                      refine lv_aload_n hx hb dX4_readAct_70 rfl (lv_at hl 3 rfl) ?_
                      refine t_callV (n := 0) (As := []) (rest := []) (ci := 4) hB hT hl.1 (s_readValue l D cI cZ cS cR N0 g_368 hI h pl2_370 sz ba ct r_375 r_377 n_381 f_372 kn_386 kn_387 (by omega) (by omega) (by omega) (by omega) hc) (ro_ci r_375 rfl) rfl k_423 k_58 k_420 k_422 k_6 (by decide +kernel) ⟨(Nat.le_of_ble_eq_true rfl), (Nat.le_of_ble_eq_true rfl)⟩ rfl (Nat.le_of_ble_eq_true rfl) ⟨(Nat.le_of_ble_eq_true rfl), (Nat.le_of_ble_eq_true rfl)⟩ dX4_readAct_71 (fun v g_396 H locs hp hT => ?_)
                      obtain ⟨r_397, pl2_398, rfl, hI, x_402, m_401, f_399, f_400⟩ := hp
                      have hc : g_396.2.2.2.1 ba = ct := (Sm.cf m_401 r_377 (by decide) rfl).trans hc
                      have hU0 : UP g_396 wa (g.2.2.2.1 wa) false zz.toNatClampNeg (0 : Int32) := hU0.sm m_401 r_378 (by decide) rfl
                      have hU1 : UP g_396 ta (g.2.2.2.1 ta) false zz.toNatClampNeg (0 : Int32) := hU1.sm m_401 r_379 (by decide) rfl
                      have hU2 : UP g_396 va (g.2.2.2.1 va) false zz.toNatClampNeg (0 : Int32) := hU2.sm m_401 r_380 (by decide) rfl
                      have hO : OX o wa ta va g g_396 := OX.tr hE hO (OX.sm m_401 rfl rfl rfl rfl)
                      have hM : Sm md_s_readAct g g_396 := hM.tr hE (m_401.mo (fun r k h => mdle_s_readAct_s_readValue h))
                      have hE : Ex g g_396 := hE.tr x_402
                      have r_403 : g_396.1 h = 5 := (Ex.r x_402 r_375 (by decide))
                      have r_404 : g_396.1 o = 3 := (Ex.r x_402 r_376 (by decide))
                      have r_405 : g_396.1 ba = 67 := (Ex.r x_402 r_377 (by decide))
                      have r_406 : g_396.1 wa = 68 := (Ex.r x_402 r_378 (by decide))
                      have r_407 : g_396.1 ta = 69 := (Ex.r x_402 r_379 (by decide))
                      have r_408 : g_396.1 va = 70 := (Ex.r x_402 r_380 (by decide))
                      have n_409 : g_396.2.2.1 ba = 100 := (Ex.n x_402 r_377 (by decide) n_381)
                      have n_410 : g_396.2.2.1 wa = 8 := (Ex.n x_402 r_378 (by decide) n_382)
                      have n_411 : g_396.2.2.1 ta = 8 := (Ex.n x_402 r_379 (by decide) n_383)
                      have n_412 : g_396.2.2.1 va = 8 := (Ex.n x_402 r_380 (by decide) n_384)
                      have kn_413 : g_396.2.1 o 3 = .int zz := (Sm.v m_401 r_376 (by decide) rfl kn_385)
                      have kn_414 : g_396.2.1 h 1 = .int sz := (Sm.v m_401 r_375 (by decide) rfl kn_386)
                      have kn_415 : g_396.2.1 h 0 = .ref ba := (Sm.v m_401 r_375 (by decide) rfl kn_387)
                      have kn_416 : g_396.2.1 o 0 = .ref wa := (Sm.v m_401 r_376 (by decide) rfl kn_388)
                      have kn_417 : g_396.2.1 o 1 = .ref ta := (Sm.v m_401 r_376 (by decide) rfl kn_389)
                      have kn_418 : g_396.2.1 o 2 = .ref va := (Sm.v m_401 r_376 (by decide) rfl kn_390)
                      refine W.eq (g2 := F0 m 74 ls [.int r_397]) rfl ?_
                      rcases f_399 with ⟨rfl, hw_419, hw_420, rfl⟩ | ⟨hw_421, hw_422, hw_423, hw_424, hw_425, hw_426⟩
                      · refine W.eq (g2 := F0 m 74 ls [.int (-1)]) rfl ?_
                        refine lv_goto (tgt := 78) hx hb dX4_readAct_74 (by decide) ?_
                        refine lv_istore (lv' := [(4, .int (-1)), (3, .int r_335), (2, .int r_2), (0, .ref h), (1, .ref o)]) hx hb dX4_readAct_78 hl (by decide) rfl (fun ls hl => ?_)
                        refine lv_iload hx hb dX4_readAct_80 (lv_at hl 0 rfl) ?_
                        refine lv_iconst (v := (-1)) hx hb dX4_readAct_82 (by decide) ?_
                        refine lv_icmp_ne (tgt := 88) hx hb dX4_readAct_83 (by decide) (fun c_ => absurd (by decide) c_) (fun c_ => ?_)
                        refine lv_iconst (v := 0) hx hb dX4_readAct_86 (by decide) ?_
                        exact t_zret hB hr rfl hT (Nat.le_of_ble_eq_true rfl) (Nat.le_of_ble_eq_true rfl) dX4_readAct_87 ⟨0, pl2_370, zz, false, (0 : Int32), (0 : Int32), (0 : Int32), rfl, hI, hE, hM, (Or.inr ⟨rfl, ac_vn (q2 := pl2_336.toInt) (m := 5) hw_30 (by omega) (by omega) (by omega) hw_31 (em_5 (by omega) rfl) ⟨by omega, by omega⟩ (by omega) (by omega) (by omega) hw_419 hw_420, by omega, by omega, by omega, rfl⟩), f_400, kn_413, hU0, hU1, hU2, hO⟩
                      · refine W.eq (g2 := F0 m 74 ls [.int r_397]) rfl ?_
                        refine lv_goto (tgt := 78) hx hb dX4_readAct_74 (by decide) ?_
                        refine lv_istore (lv' := [(4, .int r_397), (3, .int r_335), (2, .int r_2), (0, .ref h), (1, .ref o)]) hx hb dX4_readAct_78 hl (by decide) rfl (fun ls hl => ?_)
                        refine lv_iload hx hb dX4_readAct_80 (lv_at hl 0 rfl) ?_
                        refine lv_iconst (v := (-1)) hx hb dX4_readAct_82 (by decide) ?_
                        refine lv_icmp_ne (tgt := 88) hx hb dX4_readAct_83 (by decide) (fun c_427 => ?_) (fun c_427 => ?_)
                        · have c_427' : r_397.toInt ≠ (-1) := i_ne c_427 rfl (by decide)
                          refine lv_aload_n hx hb dX4_readAct_88 rfl (lv_at hl 4 rfl) ?_
                          refine lv_iload_n hx hb dX4_readAct_89 rfl (lv_at hl 2 rfl) ?_
                          refine lv_iload_n hx hb dX4_readAct_90 rfl (lv_at hl 1 rfl) ?_
                          refine lv_iload hx hb dX4_readAct_91 (lv_at hl 0 rfl) ?_
                          refine t_callV (n := 3) (As := [.int r_2, .int r_335, .int r_397]) (rest := []) (ci := 2) hB hT hl.1 (s_pappend l D cI cZ cS cR N0 g_396 hI o r_2 r_335 r_397 zz wa ta va r_404 r_406 n_410 r_407 n_411 r_408 n_412 kn_413 kn_416 kn_417 kn_418 (by omega) (by omega) (by omega) (by omega)) (ro_ci r_404 rfl) rfl k_427 k_61 k_424 k_425 k_426 (by decide +kernel) ⟨(Nat.le_of_ble_eq_true rfl), (Nat.le_of_ble_eq_true rfl)⟩ rfl (Nat.le_of_ble_eq_true rfl) ⟨(Nat.le_of_ble_eq_true rfl), (Nat.le_of_ble_eq_true rfl)⟩ dX4_readAct_93 (fun v g_428 H locs hp hT => ?_)
                          obtain ⟨z2_429, rfl, hI, x_437, m_436, f_430, f_431, f_432, f_433, f_434, f_435⟩ := hp
                          have hc : g_428.2.2.2.1 ba = ct := (Sm.cf m_436 r_405 (by decide) rfl).trans hc
                          have hO : OX o wa ta va g g_428 := OX.tr hE hO f_435
                          have hM : Sm md_s_readAct g g_428 := hM.tr hE (m_436.mo (fun r k h => mdle_s_readAct_s_pappend h))
                          have hE : Ex g g_428 := hE.tr x_437
                          have r_438 : g_428.1 h = 5 := (Ex.r x_437 r_403 (by decide))
                          have r_439 : g_428.1 o = 3 := (Ex.r x_437 r_404 (by decide))
                          have r_440 : g_428.1 ba = 67 := (Ex.r x_437 r_405 (by decide))
                          have r_441 : g_428.1 wa = 68 := (Ex.r x_437 r_406 (by decide))
                          have r_442 : g_428.1 ta = 69 := (Ex.r x_437 r_407 (by decide))
                          have r_443 : g_428.1 va = 70 := (Ex.r x_437 r_408 (by decide))
                          have n_444 : g_428.2.2.1 ba = 100 := (Ex.n x_437 r_405 (by decide) n_409)
                          have n_445 : g_428.2.2.1 wa = 8 := (Ex.n x_437 r_406 (by decide) n_410)
                          have n_446 : g_428.2.2.1 ta = 8 := (Ex.n x_437 r_407 (by decide) n_411)
                          have n_447 : g_428.2.2.1 va = 8 := (Ex.n x_437 r_408 (by decide) n_412)
                          have kn_448 : g_428.2.1 h 1 = .int sz := (Sm.v m_436 r_403 (by decide) rfl kn_414)
                          have kn_449 : g_428.2.1 h 0 = .ref ba := (Sm.v m_436 r_403 (by decide) rfl kn_415)
                          have kn_450 : g_428.2.1 o 0 = .ref wa := (Sm.v m_436 r_404 (by decide) rfl kn_416)
                          have kn_451 : g_428.2.1 o 1 = .ref ta := (Sm.v m_436 r_404 (by decide) rfl kn_417)
                          have kn_452 : g_428.2.1 o 2 = .ref va := (Sm.v m_436 r_404 (by decide) rfl kn_418)
                          have kn_453 : g_428.2.1 h 3 = .int pl2_398 := (Sm.v m_436 r_403 (by decide) rfl f_400)
                          refine W.eq (g2 := F0 m 96 ls []) rfl ?_
                          have hU0 := UP.tr hU0 f_432
                          have hU1 := UP.tr hU1 f_433
                          have hU2 := UP.tr hU2 f_434
                          refine lv_iconst (v := 1) hx hb dX4_readAct_96 (by decide) ?_
                          have hx_ := acx_v (T := (txb ct sz.toInt)) (c' := r_335.toInt) (q3 := pl2_370.toInt) hw_30 (by omega) (by omega) hw_31 (by omega) (by omega) hw_423
                          exact t_zret hB hr rfl hT (Nat.le_of_ble_eq_true rfl) (Nat.le_of_ble_eq_true rfl) dX4_readAct_97 ⟨1, pl2_398, z2_429, true, r_2, r_335, r_397, rfl, hI, hE, hM, (Or.inl ⟨rfl, ac_vs (q2 := pl2_336.toInt) (m := 5) hw_30 (by omega) (by omega) (by omega) hw_31 (em_5 (by omega) rfl) ⟨by omega, by omega⟩ (by omega) (by omega) (by omega) hw_423 hw_421 hw_424, by omega, by omega, by omega, rfl, (by omega), (by have q_ := hx_.1; omega), (by have q_ := hx_.2; omega)⟩), kn_453, f_430, hU0, hU1, hU2, hO⟩
                        · have c_427' : r_397.toInt = (-1) := i_eq c_427 rfl (by decide)
                          exact absurd c_427' (by omega)
                    · refine W.eq (g2 := F0 m 67 ls [.int 0]) rfl ?_
                      refine lv_if_eq (tgt := 77) hx hb dX4_readAct_67 (by decide) (fun c_ => ?_) (fun c_ => absurd (by decide) c_)
                      refine lv_iconst (v := (-1)) hx hb dX4_readAct_77 (by decide) ?_
                      refine lv_istore (lv' := [(4, .int (-1)), (3, .int r_335), (2, .int r_2), (0, .ref h), (1, .ref o)]) hx hb dX4_readAct_78 hl (by decide) rfl (fun ls hl => ?_)
                      refine lv_iload hx hb dX4_readAct_80 (lv_at hl 0 rfl) ?_
                      refine lv_iconst (v := (-1)) hx hb dX4_readAct_82 (by decide) ?_
                      refine lv_icmp_ne (tgt := 88) hx hb dX4_readAct_83 (by decide) (fun c_ => absurd (by decide) c_) (fun c_ => ?_)
                      refine lv_iconst (v := 0) hx hb dX4_readAct_86 (by decide) ?_
                      exact t_zret hB hr rfl hT (Nat.le_of_ble_eq_true rfl) (Nat.le_of_ble_eq_true rfl) dX4_readAct_87 ⟨0, pl2_336, zz, false, (0 : Int32), (0 : Int32), (0 : Int32), rfl, hI, hE, hM, (Or.inr ⟨rfl, ac_s (q2 := pl2_336.toInt) (m := 5) hw_30 (by omega) (by omega) (by omega) hw_31 (em_5 (by omega) rfl) ⟨by omega, by omega⟩ (by omega) (by omega), by omega, by omega, by omega, rfl⟩), f_372, kn_385, hU0, hU1, hU2, hO⟩
            · have c_364' : r_335.toInt = (-1) := i_eq c_364 rfl (by decide)
              exact absurd c_364' (by omega)
    · have c_34' : r_2.toInt = (-1) := i_eq c_34 rfl (by decide)
      exact absurd c_34' (by omega)
abbrev md_s_readActs : Nat → Nat → Bool := mdf [(3, 3), (5, 3), (68, 99), (69, 99), (70, 99)]
theorem mdle_s_readActs_s_pass {r k : Nat} (h : md_s_readActs r k = false) : md_s_pass r k = false := mdf_le (by decide +kernel) h
theorem mdle_s_readActs_s_readAct {r k : Nat} (h : md_s_readActs r k = false) : md_s_readAct r k = false := mdf_le (by decide +kernel) h
set_option maxHeartbeats 4000000 in
set_option maxRecDepth 100000 in
theorem lt_s_readActs_a (l : Launch) (D : va_G) (cI cZ cS cR : ClassId) (N0 : NT) (g : GS) (h : Nat) (o : Nat) (pl : Int32) (sz : Int32) (ba : Nat) (ct : Nat → Int32) (wa : Nat) (ta : Nat) (va : Nat) (r_h : g.1 h = 5) (r_o : g.1 o = 3) (r_ba : g.1 ba = 67) (n_ba : g.2.2.1 ba = 100) (r_wa : g.1 wa = 68) (n_wa : g.2.2.1 wa = 8) (r_ta : g.1 ta = 69) (n_ta : g.2.2.1 ta = 8) (r_va : g.1 va = 70) (n_va : g.2.2.1 va = 8) (kpl : g.2.1 h 3 = .int pl) (kzz : g.2.1 o 3 = .int 0) (ksz : g.2.1 h 1 = .int sz) (kba : g.2.1 h 0 = .ref ba) (kwa : g.2.1 o 0 = .ref wa) (kta : g.2.1 o 1 = .ref ta) (kva : g.2.1 o 2 = .ref va) (l_pl : 0 ≤ pl.toInt) (u_pl : pl.toInt ≤ 100) (l_sz : 0 ≤ sz.toInt) (u_sz : sz.toInt ≤ 100) (hc_0 : g.2.2.2.1 ba = ct) (hp0 : pl.toInt = 0) {p : Program} {e : Env} {s : State} {m : MethodId} {args : Array Value} {below : List Frame} {meth : Method} {c : Code} (hB : Tz p s m meth c args cX4_readActs 3 RX4 D cI cZ cS cR N0) (hr : meth.sig.returnType = (some .boolean))    : ∀ (kf : Nat) (g1 : GS) (i : Int32) (pl1 : Int32) (zz1 : Int32)  (H : Heap) (locs : List Loc) (ls : Array Slot), Tv D cI cZ cS cR N0 s.heap H locs g1 → Inv g1 → Ex g g1 → Sm md_s_readActs g g1 → 0 ≤ i.toInt → i.toInt ≤ 7 → 0 ≤ pl1.toInt → pl1.toInt ≤ 100 → 0 ≤ zz1.toInt → zz1.toInt ≤ 8 → g1.2.1 h 3 = .int pl1 → g1.2.1 o 3 = .int zz1 → (g1.2.2.2.1 ba = ct) → (PG g1 wa ta va (txb ct sz.toInt) i.toInt) → (OX o wa ta va g g1) → (zz1.toInt = i.toInt) → (rde (txb ct sz.toInt) 8 pl.toInt 0 = rde (txb ct sz.toInt) (8 - i.toInt).toNat pl1.toInt i.toInt) → (pl1.toInt = stp (txb ct sz.toInt) i.toInt.toNat) → (8 ≤ i.toInt + kf) → lv_has ls 3 [(2, .int i), (0, .ref h), (1, .ref o)] → W p l e (rmx 6 0 0) s m args below meth c H locs 0 0 (MQ below (tQ D cI cZ cS cR N0 (fun v g' => ∃ (r : Int32) (pl2 : Int32) (zz2 : Int32) (cn : Int), v = some (.int r) ∧ Inv g' ∧ Ex g g' ∧ Sm md_s_readActs g g' ∧ ((r = 1 ∧ rde (txb ct sz.toInt) 8 pl.toInt 0 = (pl2.toInt, true, cn) ∧ zz2.toInt = cn) ∨ (r = 0 ∧ rde (txb ct sz.toInt) 8 pl.toInt 0 = (pl2.toInt, false, cn))) ∧ (g'.2.1 h 3 = .int pl2) ∧ (g'.2.1 o 3 = .int zz2) ∧ (0 ≤ pl2.toInt ∧ pl2.toInt ≤ 104 ∧ 1 ≤ cn ∧ cn ≤ 8) ∧ (r = 1 → PG g' wa ta va (txb ct sz.toInt) cn) ∧ (OX o wa ta va g g'))) args s 0 0 (fun q => N0.1 ≤ q)) (F0 m 2 ls []) := by
  have hx := hB.1
  have hb := hB.2.1
  intro kf
  induction kf using Nat.strongRecOn with
  | ind kf ih =>
    intro g1 i pl1 zz1 H locs ls hT hI hE hM l_i u_i l_pl1 u_pl1 l_zz1 u_zz1 kp0 kp1 hc hPG hO hzz hq hst hk hl
    have r_1 : g1.1 h = 5 := Ex.r hE r_h (by decide)
    have r_2 : g1.1 o = 3 := Ex.r hE r_o (by decide)
    have r_3 : g1.1 ba = 67 := Ex.r hE r_ba (by decide)
    have n_4 : g1.2.2.1 ba = 100 := Ex.n hE r_ba (by decide) n_ba
    have r_5 : g1.1 wa = 68 := Ex.r hE r_wa (by decide)
    have n_6 : g1.2.2.1 wa = 8 := Ex.n hE r_wa (by decide) n_wa
    have r_7 : g1.1 ta = 69 := Ex.r hE r_ta (by decide)
    have n_8 : g1.2.2.1 ta = 8 := Ex.n hE r_ta (by decide) n_ta
    have r_9 : g1.1 va = 70 := Ex.r hE r_va (by decide)
    have n_10 : g1.2.2.1 va = 8 := Ex.n hE r_va (by decide) n_va
    have kn_11 : g1.2.1 h 1 = .int sz := Sm.v hM r_h (by decide) rfl ksz
    have kn_12 : g1.2.1 h 0 = .ref ba := Sm.v hM r_h (by decide) rfl kba
    have kn_13 : g1.2.1 o 0 = .ref wa := Sm.v hM r_o (by decide) rfl kwa
    have kn_14 : g1.2.1 o 1 = .ref ta := Sm.v hM r_o (by decide) rfl kta
    have kn_15 : g1.2.1 o 2 = .ref va := Sm.v hM r_o (by decide) rfl kva
    refine lv_iload_n hx hb dX4_readActs_2 rfl (lv_at hl 0 rfl) ?_
    refine lv_bipush (v := 8) hx hb dX4_readActs_3 (by decide) ?_
    refine lv_icmp_ge (tgt := 42) hx hb dX4_readActs_5 (by decide) (fun c_16 => ?_) (fun c_16 => ?_)
    · have c_16' : 8 ≤ i.toInt := i_le c_16 (by decide) rfl
      exact absurd c_16' (by omega)
    · have c_16' : i.toInt < 8 := i_nle c_16 (by decide) rfl
      refine lv_aload_n hx hb dX4_readActs_8 rfl (lv_at hl 1 rfl) ?_
      refine lv_aload_n hx hb dX4_readActs_9 rfl (lv_at hl 2 rfl) ?_
      refine t_callV (n := 1) (As := [.ref o]) (rest := []) (ci := 4) hB hT hl.1 (s_readAct l D cI cZ cS cR N0 g1 hI h o pl1 zz1 sz ba ct wa ta va r_1 r_2 r_3 n_4 r_5 n_6 r_7 n_8 r_9 n_10 kp0 kp1 kn_11 kn_12 kn_13 kn_14 kn_15 (by omega) (by omega) (by omega) (by omega) (by omega) (by omega) hc) (ro_ci r_1 rfl) rfl k_356 k_58 k_353 k_355 k_1 (by decide +kernel) ⟨(Nat.le_of_ble_eq_true rfl), (Nat.le_of_ble_eq_true rfl)⟩ rfl (Nat.le_of_ble_eq_true rfl) ⟨(Nat.le_of_ble_eq_true rfl), (Nat.le_of_ble_eq_true rfl)⟩ dX4_readActs_10 (fun v g_17 H locs hp hT => ?_)
      obtain ⟨r_18, pl2_19, zz2_20, bb_21, w__22, c__23, v__24, rfl, hI, x_33, m_32, f_25, f_26, f_27, f_28, f_29, f_30, f_31⟩ := hp
      have hc : g_17.2.2.2.1 ba = ct := (Sm.cf m_32 r_3 (by decide) rfl).trans hc
      have hO : OX o wa ta va g g_17 := OX.tr hE hO f_31
      have hM : Sm md_s_readActs g g_17 := hM.tr hE (m_32.mo (fun r k h => mdle_s_readActs_s_readAct h))
      have hE : Ex g g_17 := hE.tr x_33
      have r_34 : g_17.1 h = 5 := (Ex.r x_33 r_1 (by decide))
      have r_35 : g_17.1 o = 3 := (Ex.r x_33 r_2 (by decide))
      have r_36 : g_17.1 ba = 67 := (Ex.r x_33 r_3 (by decide))
      have r_37 : g_17.1 wa = 68 := (Ex.r x_33 r_5 (by decide))
      have r_38 : g_17.1 ta = 69 := (Ex.r x_33 r_7 (by decide))
      have r_39 : g_17.1 va = 70 := (Ex.r x_33 r_9 (by decide))
      have n_40 : g_17.2.2.1 ba = 100 := (Ex.n x_33 r_3 (by decide) n_4)
      have n_41 : g_17.2.2.1 wa = 8 := (Ex.n x_33 r_5 (by decide) n_6)
      have n_42 : g_17.2.2.1 ta = 8 := (Ex.n x_33 r_7 (by decide) n_8)
      have n_43 : g_17.2.2.1 va = 8 := (Ex.n x_33 r_9 (by decide) n_10)
      have kn_44 : g_17.2.1 h 1 = .int sz := (Sm.v m_32 r_1 (by decide) rfl kn_11)
      have kn_45 : g_17.2.1 h 0 = .ref ba := (Sm.v m_32 r_1 (by decide) rfl kn_12)
      have kn_46 : g_17.2.1 o 0 = .ref wa := (Sm.v m_32 r_2 (by decide) rfl kn_13)
      have kn_47 : g_17.2.1 o 1 = .ref ta := (Sm.v m_32 r_2 (by decide) rfl kn_14)
      have kn_48 : g_17.2.1 o 2 = .ref va := (Sm.v m_32 r_2 (by decide) rfl kn_15)
      refine W.eq (g2 := F0 m 13 ls [.int r_18]) rfl ?_
      rcases f_25 with ⟨rfl, hw_49, hw_50, hw_51, hw_52, hw_53, hw_54, hw_55, hw_56⟩ | ⟨rfl, hw_57, hw_58, hw_59, hw_60, hw_61⟩
      · have hup0_ := f_28
        rw [hw_53] at hup0_
        have hup1_ := f_29
        rw [hw_53] at hup1_
        have hup2_ := f_30
        rw [hw_53] at hup2_
        have hPG : PG g_17 wa ta va (txb ct sz.toInt) (i.toInt + 1) := PG.up hPG hup0_ hup1_ hup2_ (by omega) (by omega) hst hw_54 hw_55 hw_56
        refine W.eq (g2 := F0 m 13 ls [.int 1]) rfl ?_
        refine lv_if_ne (tgt := 18) hx hb dX4_readActs_13 (by decide) (fun c_ => ?_) (fun c_ => absurd c_ (by decide))
        refine lv_iload_n hx hb dX4_readActs_18 rfl (lv_at hl 0 rfl) ?_
        refine lv_bipush (v := 7) hx hb dX4_readActs_19 (by decide) ?_
        refine lv_icmp_eq (tgt := 42) hx hb dX4_readActs_21 (by decide) (fun c_62 => ?_) (fun c_62 => ?_)
        · have c_62' : i.toInt = 7 := i_eq c_62 rfl (by decide)
          refine lv_iconst (v := 1) hx hb dX4_readActs_42 (by decide) ?_
          exact t_zret hB hr rfl hT (Nat.le_of_ble_eq_true rfl) (Nat.le_of_ble_eq_true rfl) dX4_readActs_43 ⟨1, pl2_19, zz2_20, (i.toInt + 1), rfl, hI, hE, hM, (Or.inl ⟨rfl, hq.trans (rd_e ⟨by omega, by omega⟩ hw_49 (by omega)), by omega⟩), f_26, f_27, ⟨by omega, by omega, by omega, by omega⟩, (fun _ => hPG.cast (by omega)), hO⟩
        · have c_62' : i.toInt ≠ 7 := i_ne c_62 rfl (by decide)
          refine lv_aload_n hx hb dX4_readActs_24 rfl (lv_at hl 1 rfl) ?_
          refine lv_bipush (v := 59) hx hb dX4_readActs_25 (by decide) ?_
          refine t_callV (n := 1) (As := [.int 59]) (rest := []) (ci := 4) hB hT hl.1 (s_pass l D cI cZ cS cR N0 g_17 hI h 59 pl2_19 sz ba ct r_34 r_36 n_40 f_26 kn_44 kn_45 (by have q0 : (59 : Int32).toInt = 59 := (by decide); omega) (by have q0 : (59 : Int32).toInt = 59 := (by decide); omega) (by have q0 : (59 : Int32).toInt = 59 := (by decide); omega) (by have q0 : (59 : Int32).toInt = 59 := (by decide); omega) (by have q0 : (59 : Int32).toInt = 59 := (by decide); omega) hc) (ro_ci r_34 rfl) rfl k_419 k_58 k_416 k_418 k_5 (by decide +kernel) ⟨(Nat.le_of_ble_eq_true rfl), (Nat.le_of_ble_eq_true rfl)⟩ rfl (Nat.le_of_ble_eq_true rfl) ⟨(Nat.le_of_ble_eq_true rfl), (Nat.le_of_ble_eq_true rfl)⟩ dX4_readActs_27 (fun v g_63 H locs hp hT => ?_)
          obtain ⟨r_64, pl2_65, rfl, hI, x_69, m_68, f_66, f_67⟩ := hp
          have hc : g_63.2.2.2.1 ba = ct := (Sm.cf m_68 r_36 (by decide) rfl).trans hc
          have hO : OX o wa ta va g g_63 := OX.tr hE hO (OX.sm m_68 rfl rfl rfl rfl)
          have hPG : PG g_63 wa ta va (txb ct sz.toInt) (i.toInt + 1) := hPG.sm m_68 r_37 (by decide) rfl r_38 (by decide) rfl r_39 (by decide) rfl
          have hM : Sm md_s_readActs g g_63 := hM.tr hE (m_68.mo (fun r k h => mdle_s_readActs_s_pass h))
          have hE : Ex g g_63 := hE.tr x_69
          have r_70 : g_63.1 h = 5 := (Ex.r x_69 r_34 (by decide))
          have r_71 : g_63.1 o = 3 := (Ex.r x_69 r_35 (by decide))
          have r_72 : g_63.1 ba = 67 := (Ex.r x_69 r_36 (by decide))
          have r_73 : g_63.1 wa = 68 := (Ex.r x_69 r_37 (by decide))
          have r_74 : g_63.1 ta = 69 := (Ex.r x_69 r_38 (by decide))
          have r_75 : g_63.1 va = 70 := (Ex.r x_69 r_39 (by decide))
          have n_76 : g_63.2.2.1 ba = 100 := (Ex.n x_69 r_36 (by decide) n_40)
          have n_77 : g_63.2.2.1 wa = 8 := (Ex.n x_69 r_37 (by decide) n_41)
          have n_78 : g_63.2.2.1 ta = 8 := (Ex.n x_69 r_38 (by decide) n_42)
          have n_79 : g_63.2.2.1 va = 8 := (Ex.n x_69 r_39 (by decide) n_43)
          have kn_80 : g_63.2.1 h 1 = .int sz := (Sm.v m_68 r_34 (by decide) rfl kn_44)
          have kn_81 : g_63.2.1 h 0 = .ref ba := (Sm.v m_68 r_34 (by decide) rfl kn_45)
          have kn_82 : g_63.2.1 o 0 = .ref wa := (Sm.v m_68 r_35 (by decide) rfl kn_46)
          have kn_83 : g_63.2.1 o 1 = .ref ta := (Sm.v m_68 r_35 (by decide) rfl kn_47)
          have kn_84 : g_63.2.1 o 2 = .ref va := (Sm.v m_68 r_35 (by decide) rfl kn_48)
          have kn_85 : g_63.2.1 o 3 = .int zz2_20 := (Sm.v m_68 r_35 (by decide) rfl f_27)
          refine W.eq (g2 := F0 m 30 ls [.int r_64]) rfl ?_
          have qc_86 : (59 : Int32).toInt = 59 := (by decide)
          rcases f_66 with ⟨rfl, hw_87, hw_88, hw_89⟩ | ⟨rfl, hw_90, rfl⟩
          · refine W.eq (g2 := F0 m 30 ls [.int 1]) rfl ?_
            refine lv_if_ne (tgt := 36) hx hb dX4_readActs_30 (by decide) (fun c_ => ?_) (fun c_ => absurd c_ (by decide))
            obtain ⟨z_91, ez_91⟩ : ∃ z : Int32, z = i + 1 := ⟨_, rfl⟩
            have e_z_91 : z_91.toInt = i.toInt + 1 := i_add ez_91 rfl (by decide) (by omega) (by omega)
            refine lv_iinc (v := z_91) (lv' := [(2, .int z_91), (0, .ref h), (1, .ref o)]) hx hb dX4_readActs_36 hl (k := 0) rfl (by rw [ez_91]; rfl) (by decide) rfl (fun ls hl => ?_)
            refine lv_goto (tgt := 2) hx hb dX4_readActs_39 (by decide) ?_
            exact ih (kf - 1) (by omega) g_63 z_91 pl2_65 zz2_20 H locs ls hT hI hE hM (by omega) (by omega) (by omega) (by omega) (by omega) (by omega) f_67 kn_85 hc (hPG.cast (by have e0_ : (0 : Int32).toInt = 0 := (by decide); omega)) hO (by have e0_ : (0 : Int32).toInt = 0 := (by decide); omega) (hq.trans (rd_s ⟨by omega, by omega⟩ hw_49 (by omega) (by omega) (by omega) (by omega) (by omega))) (stp_s (by omega) hst hw_49 (by omega) (by omega)) (by have e0_ : (0 : Int32).toInt = 0 := (by decide); omega) (lv_sub hl [0, 1, 2] rfl)
          · refine W.eq (g2 := F0 m 30 ls [.int 0]) rfl ?_
            refine lv_if_ne (tgt := 36) hx hb dX4_readActs_30 (by decide) (fun c_ => absurd (by decide) c_) (fun c_ => ?_)
            refine lv_goto (tgt := 42) hx hb dX4_readActs_33 (by decide) ?_
            refine lv_iconst (v := 1) hx hb dX4_readActs_42 (by decide) ?_
            exact t_zret hB hr rfl hT (Nat.le_of_ble_eq_true rfl) (Nat.le_of_ble_eq_true rfl) dX4_readActs_43 ⟨1, pl2_19, zz2_20, (i.toInt + 1), rfl, hI, hE, hM, (Or.inl ⟨rfl, hq.trans (rd_e ⟨by omega, by omega⟩ hw_49 (by omega)), by omega⟩), f_67, kn_85, ⟨by omega, by omega, by omega, by omega⟩, (fun _ => hPG.cast (by omega)), hO⟩
      · refine W.eq (g2 := F0 m 13 ls [.int 0]) rfl ?_
        refine lv_if_ne (tgt := 18) hx hb dX4_readActs_13 (by decide) (fun c_ => absurd (by decide) c_) (fun c_ => ?_)
        refine lv_iconst (v := 0) hx hb dX4_readActs_16 (by decide) ?_
        exact t_zret hB hr rfl hT (Nat.le_of_ble_eq_true rfl) (Nat.le_of_ble_eq_true rfl) dX4_readActs_17 ⟨0, pl2_19, zz2_20, (i.toInt + 1), rfl, hI, hE, hM, (Or.inr ⟨rfl, hq.trans (rd_f ⟨by omega, by omega⟩ hw_57)⟩), f_26, f_27, ⟨by omega, by omega, by omega, by omega⟩, (fun h_ => absurd h_ (by decide)), hO⟩
set_option maxHeartbeats 4000000 in
set_option maxRecDepth 100000 in
theorem s_readActs (l : Launch) (D : va_G) (cI cZ cS cR : ClassId) (N0 : NT) (g : GS) (hI : Inv g) (h : Nat) (o : Nat) (pl : Int32) (sz : Int32) (ba : Nat) (ct : Nat → Int32) (wa : Nat) (ta : Nat) (va : Nat) (r_h : g.1 h = 5) (r_o : g.1 o = 3) (r_ba : g.1 ba = 67) (n_ba : g.2.2.1 ba = 100) (r_wa : g.1 wa = 68) (n_wa : g.2.2.1 wa = 8) (r_ta : g.1 ta = 69) (n_ta : g.2.2.1 ta = 8) (r_va : g.1 va = 70) (n_va : g.2.2.1 va = 8) (kpl : g.2.1 h 3 = .int pl) (kzz : g.2.1 o 3 = .int 0) (ksz : g.2.1 h 1 = .int sz) (kba : g.2.1 h 0 = .ref ba) (kwa : g.2.1 o 0 = .ref wa) (kta : g.2.1 o 1 = .ref ta) (kva : g.2.1 o 2 = .ref va) (l_pl : 0 ≤ pl.toInt) (u_pl : pl.toInt ≤ 100) (l_sz : 0 ≤ sz.toInt) (u_sz : sz.toInt ≤ 100) (hc_0 : g.2.2.2.1 ba = ct) (hp0 : pl.toInt = 0) : Ty l D cI cZ cS cR N0 yX4_readActs cX4_readActs 3 (some .boolean) 6 0 0 [.ref h, .ref o] g (fun v g' => ∃ (r : Int32) (pl2 : Int32) (zz2 : Int32) (cn : Int), v = some (.int r) ∧ Inv g' ∧ Ex g g' ∧ Sm md_s_readActs g g' ∧ ((r = 1 ∧ rde (txb ct sz.toInt) 8 pl.toInt 0 = (pl2.toInt, true, cn) ∧ zz2.toInt = cn) ∨ (r = 0 ∧ rde (txb ct sz.toInt) 8 pl.toInt 0 = (pl2.toInt, false, cn))) ∧ (g'.2.1 h 3 = .int pl2) ∧ (g'.2.1 o 3 = .int zz2) ∧ (0 ≤ pl2.toInt ∧ pl2.toInt ≤ 104 ∧ 1 ≤ cn ∧ cn ≤ 8) ∧ (r = 1 → PG g' wa ta va (txb ct sz.toInt) cn) ∧ (OX o wa ta va g g')) := by
  refine t_enter (by decide) (Nat.le_of_ble_eq_true rfl) ?_
  intro p e s m args below meth c ls H locs hB hr hin hl hT
  have hx := hB.1
  have hb := hB.2.1
  have hl : lv_has ls 3 [(0, .ref h), (1, .ref o)] := hl
  have hE : Ex g g := Ex.rf
  have hM : Sm md_s_readActs g g := Sm.rf
  have hc := hc_0
  have hPG : PG g wa ta va (txb ct sz.toInt) 0 := fun j_ hj_ => absurd hj_ (by omega)
  have hO : OX o wa ta va g g := OX.rf
  refine lv_iconst (v := 0) hx hb dX4_readActs_0 (by decide) ?_
  refine lv_istore_n (lv' := [(2, .int 0), (0, .ref h), (1, .ref o)]) hx hb dX4_readActs_1 rfl hl (by decide) rfl (fun ls hl => ?_)
  exact lt_s_readActs_a l D cI cZ cS cR N0 g h o pl sz ba ct wa ta va r_h r_o r_ba n_ba r_wa n_wa r_ta n_ta r_va n_va kpl kzz ksz kba kwa kta kva l_pl u_pl l_sz u_sz hc_0 hp0 hB hr   8 g (0 : Int32) pl (0 : Int32) H locs ls hT hI hE hM (by decide) (by decide) (by omega) (by omega) (by decide) (by decide) kpl kzz hc (hPG.cast (by have e0_ : (0 : Int32).toInt = 0 := (by decide); omega)) hO (by have e0_ : (0 : Int32).toInt = 0 := (by decide); omega) rd_0 (stp_p hp0) (by have e0_ : (0 : Int32).toInt = 0 := (by decide); omega) (lv_sub hl [0, 1, 2] rfl)
abbrev md_s_tappend : Nat → Nat → Bool := mdf [(5, 1), (67, 99)]
set_option maxHeartbeats 4000000 in
set_option maxRecDepth 100000 in
theorem lt_s_tappend_a (l : Launch) (D : va_G) (cI cZ cS cR : ClassId) (N0 : NT) (g : GS) (h : Nat) (w : Int64) (n : Int32) (sz : Int32) (ba : Nat) (ct : Nat → Int32) (r_h : g.1 h = 5) (r_ba : g.1 ba = 67) (n_ba : g.2.2.1 ba = 100) (ksz : g.2.1 h 1 = .int sz) (kba : g.2.1 h 0 = .ref ba) (l_n : 1 ≤ n.toInt) (u_n : n.toInt ≤ 8) (hz8 : sz.toInt + n.toInt ≤ 100) (l_sz : 0 ≤ sz.toInt) (u_sz : sz.toInt ≤ 100) (hc_0 : g.2.2.2.1 ba = ct) {p : Program} {e : Env} {s : State} {m : MethodId} {args : Array Value} {below : List Frame} {meth : Method} {c : Code} (hB : Tz p s m meth c args cX4_append 5 RX4 D cI cZ cS cR N0) (hr : meth.sig.returnType = none)    : ∀ (kf : Nat) (g1 : GS) (i : Int32) (z1 : Int32)  (H : Heap) (locs : List Loc) (ls : Array Slot), Tv D cI cZ cS cR N0 s.heap H locs g1 → Inv g1 → Ex g g1 → Sm md_s_tappend g g1 → (-1) ≤ i.toInt → i.toInt ≤ 7 → 0 ≤ z1.toInt → z1.toInt ≤ 100 → g1.2.1 h 1 = .int z1 → (FD g1 ba ct w sz.toInt n.toInt (n.toInt - 1 - i.toInt)) → (z1.toInt = sz.toInt + n.toInt - 1 - i.toInt ∧ i.toInt + 1 ≤ n.toInt) → (i.toInt + 1 ≤ kf) → lv_has ls 5 [(4, .int i), (0, .ref h), (1, .long w), (3, .int n)] → W p l e (rmx 0 0 0) s m args below meth c H locs 0 0 (MQ below (tQ D cI cZ cS cR N0 (fun v g' => ∃ (z2 : Int32), v = none ∧ Inv g' ∧ Ex g g' ∧ Sm md_s_tappend g g' ∧ (g'.2.1 h 1 = .int z2) ∧ (z2.toInt = sz.toInt + n.toInt) ∧ (FD g' ba ct w sz.toInt n.toInt n.toInt))) args s 0 0 (fun q => N0.1 ≤ q)) (F0 m 5 ls []) := by
  have hx := hB.1
  have hb := hB.2.1
  intro kf
  induction kf using Nat.strongRecOn with
  | ind kf ih =>
    intro g1 i z1 H locs ls hT hI hE hM l_i u_i l_z1 u_z1 kp0 hF hzi hk hl
    have r_1 : g1.1 h = 5 := Ex.r hE r_h (by decide)
    have r_2 : g1.1 ba = 67 := Ex.r hE r_ba (by decide)
    have n_3 : g1.2.2.1 ba = 100 := Ex.n hE r_ba (by decide) n_ba
    have kn_4 : g1.2.1 h 0 = .ref ba := Sm.v hM r_h (by decide) rfl kba
    refine lv_iload hx hb dX4_append_5 (lv_at hl 0 rfl) ?_
    refine lv_if_lt (tgt := 56) hx hb dX4_append_7 (by decide) (fun c_5 => ?_) (fun c_5 => ?_)
    · have c_5' : i.toInt < 0 := i_lt c_5 rfl (by decide)
      exact t_vret hB hr hT (Nat.le_of_ble_eq_true rfl) (Nat.le_of_ble_eq_true rfl) dX4_append_56 ⟨z1, rfl, hI, hE, hM, kp0, (by omega), (hF.cast (by omega))⟩
    · have c_5' : 0 ≤ i.toInt := i_nlt c_5 rfl (by decide)
      refine lv_aload_n hx hb dX4_append_10 rfl (lv_at hl 1 rfl) ?_
      refine t_get (ci := 4) (v := .int z1) hB hT (ro_ci r_1 rfl) rfl 1 (by decide) k_87 kp0 dX4_append_11 ?_
      refine lv_bipush (v := 100) hx hb dX4_append_14 (by decide) ?_
      refine lv_icmp_ge (tgt := 56) hx hb dX4_append_16 (by decide) (fun c_6 => ?_) (fun c_6 => ?_)
      · have c_6' : 100 ≤ z1.toInt := i_le c_6 (by decide) rfl
        exact t_vret hB hr hT (Nat.le_of_ble_eq_true rfl) (Nat.le_of_ble_eq_true rfl) dX4_append_56 ⟨z1, rfl, hI, hE, hM, kp0, (by omega), (hF.cast (by omega))⟩
      · have c_6' : z1.toInt < 100 := i_nle c_6 (by decide) rfl
        refine lv_aload_n hx hb dX4_append_19 rfl (lv_at hl 1 rfl) ?_
        refine t_get (ci := 4) (v := .ref ba) hB hT (ro_ci r_1 rfl) rfl 0 (by decide) k_86 kn_4 dX4_append_20 ?_
        refine lv_aload_n hx hb dX4_append_23 rfl (lv_at hl 1 rfl) ?_
        refine t_get (ci := 4) (v := .int z1) hB hT (ro_ci r_1 rfl) rfl 1 (by decide) k_87 kp0 dX4_append_24 ?_
        refine lv_lload_n hx hb dX4_append_27 rfl (lv_at hl 2 rfl) ?_
        refine lv_bipush (v := 8) hx hb dX4_append_28 (by decide) ?_
        refine lv_iload hx hb dX4_append_30 (lv_at hl 0 rfl) ?_
        refine lv_imul hx hb dX4_append_32 ?_
        refine lv_topi (fun z_7 ez_7 => ?_)
        have e_z_7 : z_7.toInt = 8 * i.toInt := i_mul ez_7 (by decide) rfl (by omega) (by omega)
        refine lv_lushr hx hb dX4_append_33 rfl ?_
        refine lv_topl (fun z_8 ez_8 => ?_)
        refine lv_ldc2 (v := 255) hx hb hB.2.2.2.1 (hB.2.2.2.2.1 _ k_338) dX4_append_34 ?_
        refine lv_land hx hb dX4_append_37 ?_
        refine lv_topl (fun z_9 ez_9 => ?_)
        refine lv_l2i hx hb dX4_append_38 rfl ?_
        refine lv_topi (fun z_10 ez_10 => ?_)
        have hbv_ : z_10 = bC w z_7 := by rw [ez_10, ez_9, ez_8]; rfl
        have hbr_ := b_rng w z_7
        rw [← hbv_] at hbr_
        have hbt_ := hbv_.trans (bt_c (i := i.toInt) e_z_7)
        have i_11 : vp_in z1 100 := (i_in (n := 100) rfl (by omega) (by omega))
        refine t_iast hB hT (ro_in r_2 (by decide)) n_3 i_11 dX4_append_39 (fun H locs hT => ?_)
        have hI : Inv (sC g1 ba z1.toNatClampNeg z_10) := hI.sC (ck r_2 ⟨by omega, by omega⟩)
        have hM : Sm md_s_tappend g (sC g1 ba z1.toNatClampNeg z_10) := hM.tr hE (Sm_sC (by rw [r_2]; rfl))
        have hE : Ex g (sC g1 ba z1.toNatClampNeg z_10) := hE
        have hF : FD (sC g1 ba z1.toNatClampNeg z_10) ba ct w sz.toInt n.toInt (n.toInt - i.toInt) := FD.st hF (by omega) (by have q_ : (z1.toNatClampNeg : Int) = z1.toInt := Int.toNat_of_nonneg (by omega); omega) (hbt_.trans (by congr 1; omega)) (by omega)
        refine lv_aload_n hx hb dX4_append_40 rfl (lv_at hl 1 rfl) ?_
        refine lv_dup hx hb dX4_append_41 rfl ?_
        refine t_get (ci := 4) (v := .int z1) hB hT (ro_ci r_1 rfl) rfl 1 (by decide) k_87 kp0 dX4_append_42 ?_
        refine lv_iconst (v := 1) hx hb dX4_append_45 (by decide) ?_
        refine lv_iadd hx hb dX4_append_46 ?_
        refine lv_topi (fun z_12 ez_12 => ?_)
        have e_z_12 : z_12.toInt = z1.toInt + 1 := i_add ez_12 rfl (by decide) (by omega) (by omega)
        refine t_put0 (ci := 4) (v := .int z_12) hB hT (ro_ci r_1 rfl) (ro_n0 r_1 (by decide)) rfl 1 (by decide) k_87 (Or.inl rfl) rfl rfl dX4_append_47 (fun H locs hT => ?_)
        have hI : Inv (sF (sC g1 ba z1.toNatClampNeg z_10) h 1 (.int z_12)) := hI.sF (p_5_1 r_1 (⟨_, rfl, by omega, by omega⟩))
        have hM : Sm md_s_tappend g (sF (sC g1 ba z1.toNatClampNeg z_10) h 1 (.int z_12)) := hM.tr hE (Sm_sF (by rw [r_1]; rfl))
        have hE : Ex g (sF (sC g1 ba z1.toNatClampNeg z_10) h 1 (.int z_12)) := hE
        have hF : FD (sF (sC g1 ba z1.toNatClampNeg z_10) h 1 (.int z_12)) ba ct w sz.toInt n.toInt (n.toInt - i.toInt) := hF
        obtain ⟨z_13, ez_13⟩ : ∃ z : Int32, z = i + (-1) := ⟨_, rfl⟩
        have e_z_13 : z_13.toInt = i.toInt + (-1) := i_add ez_13 rfl (by decide) (by omega) (by omega)
        refine lv_iinc (v := z_13) (lv' := [(4, .int z_13), (0, .ref h), (1, .long w), (3, .int n)]) hx hb dX4_append_50 hl (k := 0) rfl (by rw [ez_13]; rfl) (by decide) rfl (fun ls hl => ?_)
        refine lv_goto (tgt := 5) hx hb dX4_append_53 (by decide) ?_
        exact ih (kf - 1) (by omega) (sF (sC g1 ba z1.toNatClampNeg z_10) h 1 (.int z_12)) z_13 z_12 H locs ls hT hI hE hM (by omega) (by omega) (by omega) (by omega) sF_eq (hF.cast (by omega)) ⟨by omega, by omega⟩ (by have e0_ : (0 : Int32).toInt = 0 := (by decide); omega) (lv_sub hl [0, 1, 2, 3] rfl)
set_option maxHeartbeats 4000000 in
set_option maxRecDepth 100000 in
theorem s_tappend (l : Launch) (D : va_G) (cI cZ cS cR : ClassId) (N0 : NT) (g : GS) (hI : Inv g) (h : Nat) (w : Int64) (n : Int32) (sz : Int32) (ba : Nat) (ct : Nat → Int32) (r_h : g.1 h = 5) (r_ba : g.1 ba = 67) (n_ba : g.2.2.1 ba = 100) (ksz : g.2.1 h 1 = .int sz) (kba : g.2.1 h 0 = .ref ba) (l_n : 1 ≤ n.toInt) (u_n : n.toInt ≤ 8) (hz8 : sz.toInt + n.toInt ≤ 100) (l_sz : 0 ≤ sz.toInt) (u_sz : sz.toInt ≤ 100) (hc_0 : g.2.2.2.1 ba = ct) : Ty l D cI cZ cS cR N0 yX4_append cX4_append 5 none 0 0 0 [.ref h, .long w, .int n] g (fun v g' => ∃ (z2 : Int32), v = none ∧ Inv g' ∧ Ex g g' ∧ Sm md_s_tappend g g' ∧ (g'.2.1 h 1 = .int z2) ∧ (z2.toInt = sz.toInt + n.toInt) ∧ (FD g' ba ct w sz.toInt n.toInt n.toInt)) := by
  refine t_enter (by decide) (Nat.le_of_ble_eq_true rfl) ?_
  intro p e s m args below meth c ls H locs hB hr hin hl hT
  have hx := hB.1
  have hb := hB.2.1
  have hl : lv_has ls 5 [(0, .ref h), (1, .long w), (3, .int n)] := hl
  have hE : Ex g g := Ex.rf
  have hM : Sm md_s_tappend g g := Sm.rf
  have hc := hc_0
  refine lv_iload_n hx hb dX4_append_0 rfl (lv_at hl 2 rfl) ?_
  refine lv_iconst (v := 1) hx hb dX4_append_1 (by decide) ?_
  refine lv_isub hx hb dX4_append_2 ?_
  refine lv_topi (fun z_1 ez_1 => ?_)
  have e_z_1 : z_1.toInt = n.toInt - 1 := i_sub ez_1 rfl (by decide) (by omega) (by omega)
  have hF : FD g ba ct w sz.toInt n.toInt 0 := FD.zero hc_0 (by omega)
  refine lv_istore (lv' := [(4, .int z_1), (0, .ref h), (1, .long w), (3, .int n)]) hx hb dX4_append_3 hl (by decide) rfl (fun ls hl => ?_)
  exact lt_s_tappend_a l D cI cZ cS cR N0 g h w n sz ba ct r_h r_ba n_ba ksz kba l_n u_n hz8 l_sz u_sz hc_0 hB hr   8 g z_1 sz H locs ls hT hI hE hM (by omega) (by omega) (by omega) (by omega) ksz (hF.cast (by omega)) ⟨by omega, by omega⟩ (by have e0_ : (0 : Int32).toInt = 0 := (by decide); omega) (lv_sub hl [0, 1, 2, 3] rfl)
