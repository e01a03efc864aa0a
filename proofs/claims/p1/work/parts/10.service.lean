theorem k_0 : Cond.selects RX4 yX4_readActs yX4_readActs ∈ tb := mt 0 (by decide +kernel) rfl
theorem k_1 : Cond.selects RX4 yX4_readAct yX4_readAct ∈ tb := mt 1 (by decide +kernel) rfl
theorem k_2 : Cond.selects RX4 yX4_readWord yX4_readWord ∈ tb := mt 2 (by decide +kernel) rfl
theorem k_3 : Cond.selects RX4 yX4_byteAt yX4_byteAt ∈ tb := mt 3 (by decide +kernel) rfl
theorem k_66 : Cond.initialized RJ0 ∈ tb := mt 66 (by decide +kernel) rfl
theorem k_67 : Cond.initialized RJ1 ∈ tb := mt 67 (by decide +kernel) rfl
theorem k_68 : Cond.initialized RJ3 ∈ tb := mt 68 (by decide +kernel) rfl
theorem k_90 : Cond.fieldLink RX6 63 "TwiceOnce$Tape" "fault" "I" ∈ tb := mt 90 (by decide +kernel) rfl
theorem k_343 : Cond.methodLink RX6 59 yX4_takeProgram ∈ tb := mt 343 (by decide +kernel) rfl
theorem k_344 : Cond.instanceMethod yX4_takeProgram ∈ tb := mt 344 (by decide +kernel) rfl
theorem k_345 : Cond.selects RX4 yX4_takeProgram yX4_takeProgram ∈ tb := mt 345 (by decide +kernel) rfl
set_option maxRecDepth 20000 in
theorem k_346 : Cond.code yX4_takeProgram cX4_takeProgram 3 (some (.object "TwiceOnce$Program")) ∈ tb := mt 346 rfl rfl
theorem k_347 : Cond.classLink RX4 27 RX2 ∈ tb := mt 347 (by decide +kernel) rfl
theorem k_349 : Cond.methodLink RX4 30 yX4_readActs ∈ tb := mt 349 (by decide +kernel) rfl
theorem k_351 : Cond.instanceMethod yX4_readActs ∈ tb := mt 351 (by decide +kernel) rfl
set_option maxRecDepth 20000 in
theorem k_352 : Cond.code yX4_readActs cX4_readActs 3 (some .boolean) ∈ tb := mt 352 rfl rfl
theorem k_353 : Cond.methodLink RX4 34 yX4_readAct ∈ tb := mt 353 (by decide +kernel) rfl
theorem k_355 : Cond.instanceMethod yX4_readAct ∈ tb := mt 355 (by decide +kernel) rfl
set_option maxRecDepth 20000 in
theorem k_356 : Cond.code yX4_readAct cX4_readAct 5 (some .boolean) ∈ tb := mt 356 rfl rfl
theorem k_357 : Cond.methodLink RX4 41 yX4_readWord ∈ tb := mt 357 (by decide +kernel) rfl
theorem k_359 : Cond.instanceMethod yX4_readWord ∈ tb := mt 359 (by decide +kernel) rfl
set_option maxRecDepth 20000 in
theorem k_360 : Cond.code yX4_readWord cX4_readWord 6 (some .int) ∈ tb := mt 360 rfl rfl
theorem k_361 : Cond.fieldLink RX4 56 "TwiceOnce$Tape" "WORD_BEGINS" "[I" ∈ tb := mt 361 (by decide +kernel) rfl
theorem k_363 : Cond.methodLink RX4 59 yX4_byteAt ∈ tb := mt 363 (by decide +kernel) rfl
theorem k_365 : Cond.instanceMethod yX4_byteAt ∈ tb := mt 365 (by decide +kernel) rfl
set_option maxRecDepth 20000 in
theorem k_366 : Cond.code yX4_byteAt cX4_byteAt 2 (some .int) ∈ tb := mt 366 rfl rfl
theorem k_368 : Cond.methodLink RX4 64 yJ0_charAt_5068e ∈ tb := mt 368 (by decide +kernel) rfl
theorem k_369 : Cond.instanceMethod yJ0_charAt_5068e ∈ tb := mt 369 (by decide +kernel) rfl
theorem k_370 : Cond.selects RJ0 yJ0_charAt_5068e yJ0_charAt_5068e ∈ tb := mt 370 (by decide +kernel) rfl
set_option maxRecDepth 20000 in
theorem k_371 : Cond.code yJ0_charAt_5068e cJ0_charAt_5068e 2 (some .char) ∈ tb := mt 371 rfl rfl
theorem k_372 : Cond.methodLink RJ0 492 yJ0_isLatin1_aae02 ∈ tb := mt 372 (by decide +kernel) rfl
theorem k_373 : Cond.instanceMethod yJ0_isLatin1_aae02 ∈ tb := mt 373 (by decide +kernel) rfl
theorem k_374 : Cond.selects RJ0 yJ0_isLatin1_aae02 yJ0_isLatin1_aae02 ∈ tb := mt 374 (by decide +kernel) rfl
set_option maxRecDepth 20000 in
theorem k_375 : Cond.code yJ0_isLatin1_aae02 cJ0_isLatin1_aae02 1 (some .boolean) ∈ tb := mt 375 rfl rfl
theorem k_376 : Cond.fieldLink RJ0 38 "java/lang/String" "COMPACT_STRINGS" "Z" ∈ tb := mt 376 (by decide +kernel) rfl
theorem k_378 : Cond.methodLink RJ0 495 yJ1_charAt_3b067 ∈ tb := mt 378 (by decide +kernel) rfl
theorem k_379 : Cond.static yJ1_charAt_3b067 ∈ tb := mt 379 (by decide +kernel) rfl
set_option maxRecDepth 20000 in
theorem k_380 : Cond.code yJ1_charAt_3b067 cJ1_charAt_3b067 2 (some .char) ∈ tb := mt 380 rfl rfl
theorem k_381 : Cond.methodLink RJ1 9 yJ0_checkIndex_df160 ∈ tb := mt 381 (by decide +kernel) rfl
theorem k_382 : Cond.static yJ0_checkIndex_df160 ∈ tb := mt 382 (by decide +kernel) rfl
set_option maxRecDepth 20000 in
theorem k_383 : Cond.code yJ0_checkIndex_df160 cJ0_checkIndex_df160 2 none ∈ tb := mt 383 rfl rfl
theorem k_384 : Cond.fieldLink RJ0 1053 "jdk/internal/util/Preconditions" "SIOOBE_FORMATTER" "Ljava/util/function/BiFunction;" ∈ tb := mt 384 (by decide +kernel) rfl
theorem k_386 : Cond.methodLink RJ0 1059 yJ3_checkIndex_8e157 ∈ tb := mt 386 (by decide +kernel) rfl
theorem k_387 : Cond.static yJ3_checkIndex_8e157 ∈ tb := mt 387 (by decide +kernel) rfl
set_option maxRecDepth 20000 in
theorem k_388 : Cond.code yJ3_checkIndex_8e157 cJ3_checkIndex_8e157 3 (some .int) ∈ tb := mt 388 rfl rfl
theorem k_408 : Cond.methodLink RX4 70 Lib.Math.max.name ∈ tb := mt 408 (by decide +kernel) rfl
theorem k_1191 : Cond.fieldLink RJ0 15 "java/lang/String" "coder" "B" ∈ tb := mt 1191 (by decide +kernel) rfl
theorem k_1192 : Cond.fieldLink RJ0 9 "java/lang/String" "value" "[B" ∈ tb := mt 1192 (by decide +kernel) rfl
theorem dJ3_checkIndex_8e157_0 : decode cJ3_checkIndex_8e157 0 = .ok (.iload_n 0, 1) := by decide +kernel
theorem dJ3_checkIndex_8e157_1 : decode cJ3_checkIndex_8e157 1 = .ok (.ifCond .lt 8, 3) := by decide +kernel
theorem dJ3_checkIndex_8e157_4 : decode cJ3_checkIndex_8e157 4 = .ok (.iload_n 0, 1) := by decide +kernel
theorem dJ3_checkIndex_8e157_5 : decode cJ3_checkIndex_8e157 5 = .ok (.iload_n 1, 1) := by decide +kernel
theorem dJ3_checkIndex_8e157_6 : decode cJ3_checkIndex_8e157 6 = .ok (.if_icmp .lt 10, 3) := by decide +kernel
theorem dJ3_checkIndex_8e157_16 : decode cJ3_checkIndex_8e157 16 = .ok (.iload_n 0, 1) := by decide +kernel
theorem dJ3_checkIndex_8e157_17 : decode cJ3_checkIndex_8e157 17 = .ok (.ireturn, 1) := by decide +kernel
theorem dJ0_checkIndex_df160_0 : decode cJ0_checkIndex_df160 0 = .ok (.iload_n 0, 1) := by decide +kernel
theorem dJ0_checkIndex_df160_1 : decode cJ0_checkIndex_df160 1 = .ok (.iload_n 1, 1) := by decide +kernel
theorem dJ0_checkIndex_df160_2 : decode cJ0_checkIndex_df160 2 = .ok (.getstatic 1053, 3) := by decide +kernel
theorem dJ0_checkIndex_df160_5 : decode cJ0_checkIndex_df160 5 = .ok (.invokestatic 1059, 3) := by decide +kernel
theorem dJ0_checkIndex_df160_8 : decode cJ0_checkIndex_df160 8 = .ok (.pop, 1) := by decide +kernel
theorem dJ0_checkIndex_df160_9 : decode cJ0_checkIndex_df160 9 = .ok (.return_, 1) := by decide +kernel
theorem dJ1_charAt_3b067_0 : decode cJ1_charAt_3b067 0 = .ok (.iload_n 1, 1) := by decide +kernel
theorem dJ1_charAt_3b067_1 : decode cJ1_charAt_3b067 1 = .ok (.aload_n 0, 1) := by decide +kernel
theorem dJ1_charAt_3b067_2 : decode cJ1_charAt_3b067 2 = .ok (.arraylength, 1) := by decide +kernel
theorem dJ1_charAt_3b067_3 : decode cJ1_charAt_3b067 3 = .ok (.invokestatic 9, 3) := by decide +kernel
theorem dJ1_charAt_3b067_6 : decode cJ1_charAt_3b067 6 = .ok (.aload_n 0, 1) := by decide +kernel
theorem dJ1_charAt_3b067_7 : decode cJ1_charAt_3b067 7 = .ok (.iload_n 1, 1) := by decide +kernel
theorem dJ1_charAt_3b067_8 : decode cJ1_charAt_3b067 8 = .ok (.baload, 1) := by decide +kernel
theorem dJ1_charAt_3b067_9 : decode cJ1_charAt_3b067 9 = .ok (.sipush 255, 3) := by decide +kernel
theorem dJ1_charAt_3b067_12 : decode cJ1_charAt_3b067 12 = .ok (.iand, 1) := by decide +kernel
theorem dJ1_charAt_3b067_13 : decode cJ1_charAt_3b067 13 = .ok (.i2c, 1) := by decide +kernel
theorem dJ1_charAt_3b067_14 : decode cJ1_charAt_3b067 14 = .ok (.ireturn, 1) := by decide +kernel
theorem dJ0_isLatin1_aae02_0 : decode cJ0_isLatin1_aae02 0 = .ok (.getstatic 38, 3) := by decide +kernel
theorem dJ0_isLatin1_aae02_3 : decode cJ0_isLatin1_aae02 3 = .ok (.ifCond .eq 14, 3) := by decide +kernel
theorem dJ0_isLatin1_aae02_6 : decode cJ0_isLatin1_aae02 6 = .ok (.aload_n 0, 1) := by decide +kernel
theorem dJ0_isLatin1_aae02_7 : decode cJ0_isLatin1_aae02 7 = .ok (.getfield 15, 3) := by decide +kernel
theorem dJ0_isLatin1_aae02_10 : decode cJ0_isLatin1_aae02 10 = .ok (.ifCond .ne 7, 3) := by decide +kernel
theorem dJ0_isLatin1_aae02_13 : decode cJ0_isLatin1_aae02 13 = .ok (.iconst 1, 1) := by decide +kernel
theorem dJ0_isLatin1_aae02_14 : decode cJ0_isLatin1_aae02 14 = .ok (.goto 4, 3) := by decide +kernel
theorem dJ0_isLatin1_aae02_18 : decode cJ0_isLatin1_aae02 18 = .ok (.ireturn, 1) := by decide +kernel
theorem dJ0_charAt_5068e_0 : decode cJ0_charAt_5068e 0 = .ok (.aload_n 0, 1) := by decide +kernel
theorem dJ0_charAt_5068e_1 : decode cJ0_charAt_5068e 1 = .ok (.invokevirtual 492, 3) := by decide +kernel
theorem dJ0_charAt_5068e_4 : decode cJ0_charAt_5068e 4 = .ok (.ifCond .eq 12, 3) := by decide +kernel
theorem dJ0_charAt_5068e_7 : decode cJ0_charAt_5068e 7 = .ok (.aload_n 0, 1) := by decide +kernel
theorem dJ0_charAt_5068e_8 : decode cJ0_charAt_5068e 8 = .ok (.getfield 9, 3) := by decide +kernel
theorem dJ0_charAt_5068e_11 : decode cJ0_charAt_5068e 11 = .ok (.iload_n 1, 1) := by decide +kernel
theorem dJ0_charAt_5068e_12 : decode cJ0_charAt_5068e 12 = .ok (.invokestatic 495, 3) := by decide +kernel
theorem dJ0_charAt_5068e_15 : decode cJ0_charAt_5068e 15 = .ok (.ireturn, 1) := by decide +kernel
theorem dX4_byteAt_0 : decode cX4_byteAt 0 = .ok (.iload_n 1, 1) := by decide +kernel
theorem dX4_byteAt_1 : decode cX4_byteAt 1 = .ok (.ifCond .lt 20, 3) := by decide +kernel
theorem dX4_byteAt_4 : decode cX4_byteAt 4 = .ok (.iload_n 1, 1) := by decide +kernel
theorem dX4_byteAt_5 : decode cX4_byteAt 5 = .ok (.aload_n 0, 1) := by decide +kernel
theorem dX4_byteAt_6 : decode cX4_byteAt 6 = .ok (.getfield 15, 3) := by decide +kernel
theorem dX4_byteAt_9 : decode cX4_byteAt 9 = .ok (.if_icmp .ge 12, 3) := by decide +kernel
theorem dX4_byteAt_21 : decode cX4_byteAt 21 = .ok (.iconst (-1), 1) := by decide +kernel
theorem dX4_byteAt_22 : decode cX4_byteAt 22 = .ok (.ireturn, 1) := by decide +kernel
theorem dX4_readWord_0 : decode cX4_readWord 0 = .ok (.iconst 0, 1) := by decide +kernel
theorem dX4_readWord_1 : decode cX4_readWord 1 = .ok (.istore_n 1, 1) := by decide +kernel
theorem dX4_readWord_2 : decode cX4_readWord 2 = .ok (.iconst 0, 1) := by decide +kernel
theorem dX4_readWord_3 : decode cX4_readWord 3 = .ok (.istore_n 2, 1) := by decide +kernel
theorem dX4_readWord_4 : decode cX4_readWord 4 = .ok (.iload_n 2, 1) := by decide +kernel
theorem dX4_readWord_5 : decode cX4_readWord 5 = .ok (.bipush 8, 2) := by decide +kernel
theorem dX4_readWord_7 : decode cX4_readWord 7 = .ok (.if_icmp .ge 92, 3) := by decide +kernel
theorem dX4_readWord_10 : decode cX4_readWord 10 = .ok (.getstatic 56, 3) := by decide +kernel
theorem dX4_readWord_13 : decode cX4_readWord 13 = .ok (.iload_n 2, 1) := by decide +kernel
theorem dX4_readWord_14 : decode cX4_readWord 14 = .ok (.iaload, 1) := by decide +kernel
theorem dX4_readWord_15 : decode cX4_readWord 15 = .ok (.istore_n 3, 1) := by decide +kernel
theorem dX4_readWord_16 : decode cX4_readWord 16 = .ok (.getstatic 56, 3) := by decide +kernel
theorem dX4_readWord_19 : decode cX4_readWord 19 = .ok (.iload_n 2, 1) := by decide +kernel
theorem dX4_readWord_20 : decode cX4_readWord 20 = .ok (.iconst 1, 1) := by decide +kernel
theorem dX4_readWord_21 : decode cX4_readWord 21 = .ok (.iadd, 1) := by decide +kernel
theorem dX4_readWord_22 : decode cX4_readWord 22 = .ok (.iaload, 1) := by decide +kernel
theorem dX4_readWord_23 : decode cX4_readWord 23 = .ok (.iload_n 3, 1) := by decide +kernel
theorem dX4_readWord_24 : decode cX4_readWord 24 = .ok (.isub, 1) := by decide +kernel
theorem dX4_readWord_25 : decode cX4_readWord 25 = .ok (.istore 4, 2) := by decide +kernel
theorem dX4_readWord_27 : decode cX4_readWord 27 = .ok (.iconst 0, 1) := by decide +kernel
theorem dX4_readWord_28 : decode cX4_readWord 28 = .ok (.istore 5, 2) := by decide +kernel
theorem dX4_readWord_30 : decode cX4_readWord 30 = .ok (.iload 5, 2) := by decide +kernel
theorem dX4_readWord_32 : decode cX4_readWord 32 = .ok (.iload 4, 2) := by decide +kernel
theorem dX4_readWord_34 : decode cX4_readWord 34 = .ok (.if_icmp .ge 32, 3) := by decide +kernel
theorem dX4_readWord_37 : decode cX4_readWord 37 = .ok (.aload_n 0, 1) := by decide +kernel
theorem dX4_readWord_38 : decode cX4_readWord 38 = .ok (.aload_n 0, 1) := by decide +kernel
theorem dX4_readWord_39 : decode cX4_readWord 39 = .ok (.getfield 22, 3) := by decide +kernel
theorem dX4_readWord_42 : decode cX4_readWord 42 = .ok (.iload 5, 2) := by decide +kernel
theorem dX4_readWord_44 : decode cX4_readWord 44 = .ok (.iadd, 1) := by decide +kernel
theorem dX4_readWord_45 : decode cX4_readWord 45 = .ok (.invokevirtual 59, 3) := by decide +kernel
theorem dX4_readWord_48 : decode cX4_readWord 48 = .ok (.ldc 62, 2) := by decide +kernel
theorem dX4_readWord_50 : decode cX4_readWord 50 = .ok (.iload_n 3, 1) := by decide +kernel
theorem dX4_readWord_51 : decode cX4_readWord 51 = .ok (.iload 5, 2) := by decide +kernel
theorem dX4_readWord_53 : decode cX4_readWord 53 = .ok (.iadd, 1) := by decide +kernel
theorem dX4_readWord_54 : decode cX4_readWord 54 = .ok (.invokevirtual 64, 3) := by decide +kernel
theorem dX4_readWord_57 : decode cX4_readWord 57 = .ok (.if_icmp .ne 9, 3) := by decide +kernel
theorem dX4_readWord_66 : decode cX4_readWord 66 = .ok (.iload 5, 2) := by decide +kernel
theorem dX4_readWord_68 : decode cX4_readWord 68 = .ok (.iload 4, 2) := by decide +kernel
theorem dX4_readWord_70 : decode cX4_readWord 70 = .ok (.if_icmp .ne 16, 3) := by decide +kernel
theorem dX4_readWord_86 : decode cX4_readWord 86 = .ok (.iload_n 1, 1) := by decide +kernel
theorem dX4_readWord_87 : decode cX4_readWord 87 = .ok (.iload 5, 2) := by decide +kernel
theorem dX4_readWord_89 : decode cX4_readWord 89 = .ok (.invokestatic 70, 3) := by decide +kernel
theorem dX4_readWord_92 : decode cX4_readWord 92 = .ok (.istore_n 1, 1) := by decide +kernel
theorem dX4_readWord_93 : decode cX4_readWord 93 = .ok (.iinc 2 1, 3) := by decide +kernel
theorem dX4_readWord_96 : decode cX4_readWord 96 = .ok (.goto (-92), 3) := by decide +kernel
theorem dX4_readWord_99 : decode cX4_readWord 99 = .ok (.aload_n 0, 1) := by decide +kernel
theorem dX4_readWord_100 : decode cX4_readWord 100 = .ok (.dup, 1) := by decide +kernel
theorem dX4_readWord_101 : decode cX4_readWord 101 = .ok (.getfield 22, 3) := by decide +kernel
theorem dX4_readWord_104 : decode cX4_readWord 104 = .ok (.iload_n 1, 1) := by decide +kernel
theorem dX4_readWord_105 : decode cX4_readWord 105 = .ok (.iadd, 1) := by decide +kernel
theorem dX4_readWord_106 : decode cX4_readWord 106 = .ok (.putfield 22, 3) := by decide +kernel
theorem dX4_readWord_109 : decode cX4_readWord 109 = .ok (.iconst (-1), 1) := by decide +kernel
theorem dX4_readWord_110 : decode cX4_readWord 110 = .ok (.ireturn, 1) := by decide +kernel
theorem dX4_readAct_0 : decode cX4_readAct 0 = .ok (.aload_n 0, 1) := by decide +kernel
theorem dX4_readAct_1 : decode cX4_readAct 1 = .ok (.invokevirtual 41, 3) := by decide +kernel
theorem dX4_readAct_4 : decode cX4_readAct 4 = .ok (.istore_n 2, 1) := by decide +kernel
theorem dX4_readAct_5 : decode cX4_readAct 5 = .ok (.iload_n 2, 1) := by decide +kernel
theorem dX4_readAct_6 : decode cX4_readAct 6 = .ok (.iconst (-1), 1) := by decide +kernel
theorem dX4_readAct_7 : decode cX4_readAct 7 = .ok (.if_icmp .ne 5, 3) := by decide +kernel
theorem dX4_readAct_10 : decode cX4_readAct 10 = .ok (.iconst 0, 1) := by decide +kernel
theorem dX4_readAct_11 : decode cX4_readAct 11 = .ok (.ireturn, 1) := by decide +kernel
theorem dX4_readActs_0 : decode cX4_readActs 0 = .ok (.iconst 0, 1) := by decide +kernel
theorem dX4_readActs_1 : decode cX4_readActs 1 = .ok (.istore_n 2, 1) := by decide +kernel
theorem dX4_readActs_2 : decode cX4_readActs 2 = .ok (.iload_n 2, 1) := by decide +kernel
theorem dX4_readActs_3 : decode cX4_readActs 3 = .ok (.bipush 8, 2) := by decide +kernel
theorem dX4_readActs_5 : decode cX4_readActs 5 = .ok (.if_icmp .ge 37, 3) := by decide +kernel
theorem dX4_readActs_8 : decode cX4_readActs 8 = .ok (.aload_n 0, 1) := by decide +kernel
theorem dX4_readActs_9 : decode cX4_readActs 9 = .ok (.aload_n 1, 1) := by decide +kernel
theorem dX4_readActs_10 : decode cX4_readActs 10 = .ok (.invokevirtual 34, 3) := by decide +kernel
theorem dX4_readActs_13 : decode cX4_readActs 13 = .ok (.ifCond .ne 5, 3) := by decide +kernel
theorem dX4_readActs_16 : decode cX4_readActs 16 = .ok (.iconst 0, 1) := by decide +kernel
theorem dX4_readActs_17 : decode cX4_readActs 17 = .ok (.ireturn, 1) := by decide +kernel
theorem dX4_takeProgram_0 : decode cX4_takeProgram 0 = .ok (.new 27, 3) := by decide +kernel
theorem dX4_takeProgram_3 : decode cX4_takeProgram 3 = .ok (.dup, 1) := by decide +kernel
theorem dX4_takeProgram_4 : decode cX4_takeProgram 4 = .ok (.invokespecial 29, 3) := by decide +kernel
theorem dX4_takeProgram_7 : decode cX4_takeProgram 7 = .ok (.astore_n 1, 1) := by decide +kernel
theorem dX4_takeProgram_8 : decode cX4_takeProgram 8 = .ok (.aload_n 0, 1) := by decide +kernel
theorem dX4_takeProgram_9 : decode cX4_takeProgram 9 = .ok (.iconst 0, 1) := by decide +kernel
theorem dX4_takeProgram_10 : decode cX4_takeProgram 10 = .ok (.putfield 22, 3) := by decide +kernel
theorem dX4_takeProgram_13 : decode cX4_takeProgram 13 = .ok (.aload_n 0, 1) := by decide +kernel
theorem dX4_takeProgram_14 : decode cX4_takeProgram 14 = .ok (.aload_n 1, 1) := by decide +kernel
theorem dX4_takeProgram_15 : decode cX4_takeProgram 15 = .ok (.invokevirtual 30, 3) := by decide +kernel
theorem dX4_takeProgram_18 : decode cX4_takeProgram 18 = .ok (.ifCond .eq 18, 3) := by decide +kernel
theorem dX4_takeProgram_36 : decode cX4_takeProgram 36 = .ok (.iconst 0, 1) := by decide +kernel
theorem dX4_takeProgram_37 : decode cX4_takeProgram 37 = .ok (.istore_n 2, 1) := by decide +kernel
theorem dX4_takeProgram_38 : decode cX4_takeProgram 38 = .ok (.aload_n 0, 1) := by decide +kernel
theorem dX4_takeProgram_39 : decode cX4_takeProgram 39 = .ok (.aload_n 0, 1) := by decide +kernel
theorem dX4_takeProgram_40 : decode cX4_takeProgram 40 = .ok (.getfield 22, 3) := by decide +kernel
theorem dX4_takeProgram_43 : decode cX4_takeProgram 43 = .ok (.putfield 19, 3) := by decide +kernel
theorem dX4_takeProgram_46 : decode cX4_takeProgram 46 = .ok (.aload_n 0, 1) := by decide +kernel
theorem dX4_takeProgram_47 : decode cX4_takeProgram 47 = .ok (.iconst 0, 1) := by decide +kernel
theorem dX4_takeProgram_48 : decode cX4_takeProgram 48 = .ok (.putfield 15, 3) := by decide +kernel
theorem dX4_takeProgram_51 : decode cX4_takeProgram 51 = .ok (.iload_n 2, 1) := by decide +kernel
theorem dX4_takeProgram_52 : decode cX4_takeProgram 52 = .ok (.ifCond .eq 7, 3) := by decide +kernel
theorem dX4_takeProgram_59 : decode cX4_takeProgram 59 = .ok (.aconst_null, 1) := by decide +kernel
theorem dX4_takeProgram_60 : decode cX4_takeProgram 60 = .ok (.areturn, 1) := by decide +kernel
theorem dX6_service_0 : decode cX6_service 0 = .ok (.aload_n 0, 1) := by decide +kernel
theorem dX6_service_1 : decode cX6_service 1 = .ok (.getfield 19, 3) := by decide +kernel
theorem dX6_service_4 : decode cX6_service 4 = .ok (.getfield 58, 3) := by decide +kernel
theorem dX6_service_7 : decode cX6_service 7 = .ok (.bipush 6, 2) := by decide +kernel
theorem dX6_service_9 : decode cX6_service 9 = .ok (.if_icmp .lt 6, 3) := by decide +kernel
theorem dX6_service_15 : decode cX6_service 15 = .ok (.aload_n 0, 1) := by decide +kernel
theorem dX6_service_16 : decode cX6_service 16 = .ok (.getfield 12, 3) := by decide +kernel
theorem dX6_service_19 : decode cX6_service 19 = .ok (.invokevirtual 59, 3) := by decide +kernel
theorem dX6_service_22 : decode cX6_service 22 = .ok (.astore_n 1, 1) := by decide +kernel
theorem dX6_service_23 : decode cX6_service 23 = .ok (.aload_n 1, 1) := by decide +kernel
theorem dX6_service_24 : decode cX6_service 24 = .ok (.ifnonnull 14, 3) := by decide +kernel
theorem dX6_service_27 : decode cX6_service 27 = .ok (.bipush (-10), 2) := by decide +kernel
theorem dX6_service_29 : decode cX6_service 29 = .ok (.aload_n 0, 1) := by decide +kernel
theorem dX6_service_30 : decode cX6_service 30 = .ok (.getfield 12, 3) := by decide +kernel
theorem dX6_service_33 : decode cX6_service 33 = .ok (.getfield 63, 3) := by decide +kernel
theorem dX6_service_36 : decode cX6_service 36 = .ok (.isub, 1) := by decide +kernel
theorem dX6_service_37 : decode cX6_service 37 = .ok (.ireturn, 1) := by decide +kernel
section TX
variable {p : Program} {l : Launch} {e : Env} {R : Room} {s : State} {m : MethodId} {args : Array Value} {below : List Frame} {meth : Method} {c : Code} {H : Heap} {locs : List Loc} {cells slots : Nat} {Q : State → Prop}
variable {cc : ByteArray} {pc nL : Nat} {ls : Array Slot} {rest : List Value} {own : String} {D : va_G} {cI cZ cS : ClassId} {A : Nat → Prop} {N0 : NT} {a : Nat} {ws : va_W}
theorem tx_of (hB : Bx p s m meth c args cc nL own D cI cZ cS A N0) : Tx N0 s := hB.2.2.2.2.2.2.2.2.1.2.2.2.2.2.2.2
theorem tx_wb (hB : Bx p s m meth c args cc nL own D cI cZ cS A N0) : va_Z "TwiceOnce$Tape" "WORD_BEGINS" "[I" (.ref N0.2.1) A s s.heap := (tx_of hB).1.narrow hB.2.2.2.2.2.2.2.1
theorem tx_tab (hB : Bx p s m meth c args cc nL own D cI cZ cS A N0) : va_T .int N0.2.1 9 tabW A s s.heap := (tx_of hB).2.1.narrow hB.2.2.2.2.2.2.2.1
theorem tx_r (hB : Bx p s m meth c args cc nL own D cI cZ cS A N0) : vk_R "TwiceOnce$Tape" 62 "set add max new get ask do if " N0.2.2.1 s := (tx_of hB).2.2.1
theorem tx_o (hB : Bx p s m meth c args cc nL own D cI cZ cS A N0) : va_O "java/lang/String" N0.2.2.1 A s s.heap := (tx_of hB).2.2.2.1.narrow hB.2.2.2.2.2.2.2.1
theorem tx_cd (hB : Bx p s m meth c args cc nL own D cI cZ cS A N0) : va_OF "java/lang/String" "coder" "B" (.int 0) N0.2.2.1 A s s.heap := (tx_of hB).2.2.2.2.1.narrow hB.2.2.2.2.2.2.2.1
theorem tx_va (hB : Bx p s m meth c args cc nL own D cI cZ cS A N0) : va_OF "java/lang/String" "value" "[B" (.ref N0.2.2.2) N0.2.2.1 A s s.heap := (tx_of hB).2.2.2.2.2.1.narrow hB.2.2.2.2.2.2.2.1
theorem tx_by (hB : Bx p s m meth c args cc nL own D cI cZ cS A N0) : va_T .byte N0.2.2.2 30 (fun j => .int (strW.getD j 0)) A s s.heap := (tx_of hB).2.2.2.2.2.2.1.narrow hB.2.2.2.2.2.2.2.1
theorem tx_cs (hB : Bx p s m meth c args cc nL own D cI cZ cS A N0) : va_Z "java/lang/String" "COMPACT_STRINGS" "Z" (.int 1) A s s.heap := (tx_of hB).2.2.2.2.2.2.2.1.narrow hB.2.2.2.2.2.2.2.1
theorem tx_fm (hB : Bx p s m meth c args cc nL own D cI cZ cS A N0) : va_Zq "jdk/internal/util/Preconditions" "SIOOBE_FORMATTER" "Ljava/util/function/BiFunction;" A s s.heap := (tx_of hB).2.2.2.2.2.2.2.2.narrow hB.2.2.2.2.2.2.2.1
theorem tx_recv (hB : Bx p s m meth c args cc nL own D cI cZ cS A N0) (hV : Vx D A s.heap H locs ws) : ∃ cell : Cell, H[N0.2.2.1]? = some cell ∧ cell.vm.isStatics = false ∧ s.vm.findClass "java/lang/String" = some cell.cls := by
  obtain ⟨cell, h1, h2, h3, -⟩ := (tx_o hB).kept hV.2.2.2.1
  exact ⟨cell, h1, h2, h3⟩
theorem x_callT {y : MethodName} {b : ByteArray} {n' d mc ms n index : Nat} {r : Option FieldType} {As : List Value} {post : Option Value → va_W → Prop} (hB : Bx p s m meth c args cc nL own D cI cZ cS A N0) (hV : Vx D A s.heap H locs ws) (hN : N0.1 ≤ s.heap.size) (hsz : ls.size = nL)
    (hM : Mx l D cI cZ cS N0 y b n' r d mc ms (.ref N0.2.2.1 :: As) [] post) (hc : Cond.code y b n' r ∈ tb) (hini : Cond.initialized y.cls ∈ tb) (hl : Cond.methodLink own index y ∈ tb) (hi : Cond.instanceMethod y ∈ tb) (hsel : Cond.selects "java/lang/String" y y ∈ tb) (hd : y.cls ≠ "java/lang/invoke/MethodHandle" ∧ y.cls ≠ "java/lang/invoke/VarHandle" ∧ (parseMethodDescriptor y.desc).map (fun d => d.parameters.length) = some n) (hR : d + 1 + 1 ≤ R.frames ∧ 8 + (n' + 11) + 64 * (d + 1) ≤ R.locals) (hn : As.length = n) (hW : (rest.map fun v => v.category).sum ≤ 8) (hf : cells + mc ≤ R.cells ∧ slots + ms ≤ R.slots)
    (isR : List Nat) {wr : va_W} (hR2 : isR.map (fun i => ws[i]?) = wr.map some) (hnd : va_nd isR = true) (hdg : decode cc pc = .ok (.invokevirtual index, 3))
    (kk : ∀ (v : Option Value) (w : va_W) (H1 : Heap) (locs1 : List Loc), post v w → Vx D A s.heap H1 locs1 (wr ++ w) → W p l e R s m args below meth c H1 locs1 (cells + mc) (slots + ms) Q (F0 m (pc + 3) ls (v.toList ++ rest))) : W p l e R s m args below meth c H locs cells slots Q (F0 m pc ls (As.reverse ++ .ref N0.2.2.1 :: rest)) := by
  have hp := x_pre (av := .ref N0.2.2.1 :: As) (wc := []) hB hV hN [] rfl rfl rfl
  exact x_back (y := y) (b := b) (n' := n') (r := r) hB hV [] isR rfl hR2 hnd (fun _ _ h => by cases h) (va_runV (As := As) (rest := rest) (nL := nL) ⟨hB.1, hB.2.1, hB.2.2.1, hB.2.2.2.1, hB.2.2.2.2.1⟩ (hM H.size) ⟨x_cb hB hc hini hl hd hR, hB.2.2.2.2.1 _ hi, hB.2.2.2.2.1 _ hsel⟩ ⟨hp.1, tx_recv hB hV, hp.2⟩ rfl hn hsz rfl (lv_room hW) hdg hf) kk
end TX
theorem ne_m1 (b : Int32) : ¬ (-1 : Int32) = b &&& 255 := by
  obtain ⟨j, hj, e⟩ := pk_andE b (m := 255) 8 (by decide)
  rw [e]
  intro q
  have h1 := nI_toInt (n := j) (by omega)
  rw [← q] at h1
  have h2 : (-1 : Int32).toInt = -1 := by decide
  omega
set_option maxHeartbeats 4000000 in
set_option maxRecDepth 100000 in
theorem c_chkN (l : Launch) (D : va_G) (cI cZ cS : ClassId) (N0 : NT) (k : Nat) (x1 : Int32) (hk : k < 30) (e1 : x1 = nI k) : Mx l D cI cZ cS N0 yJ3_checkIndex_8e157 cJ3_checkIndex_8e157 3 (some .int) 0 0 0 [.int x1, .int 30, .null] [] (fun v w => v = some (.int x1) ∧ w = ([] : va_W)) := by
  refine x_enter (by decide) (Nat.le_of_ble_eq_true rfl) ?_
  intro p e s m args below meth c A ls H locs hB hr hin hl hV hA
  have hx := hB.1
  have hb := hB.2.1
  have hl : lv_has ls 3 [(0, .int x1), (1, .int 30), (2, .null)] := hl
  refine lv_iload_n hx hb dJ3_checkIndex_8e157_0 rfl (lv_at hl 0 rfl) ?_
  refine lv_if_lt (tgt := 9) hx hb dJ3_checkIndex_8e157_1 (by decide) (fun c_ => absurd c_ (by rw [e1]; exact nI_pos (by omega))) (fun c_ => ?_)
  refine lv_iload_n hx hb dJ3_checkIndex_8e157_4 rfl (lv_at hl 0 rfl) ?_
  refine lv_iload_n hx hb dJ3_checkIndex_8e157_5 rfl (lv_at hl 1 rfl) ?_
  refine lv_icmp_lt (tgt := 16) hx hb dJ3_checkIndex_8e157_6 (by decide) (fun c_ => ?_) (fun c_ => absurd (by rw [e1]; exact nI_lt (b := 30) (by omega) (by decide)) c_)
  refine lv_iload_n hx hb dJ3_checkIndex_8e157_16 rfl (lv_at hl 0 rfl) ?_
  exact x_iret (w := []) hB hr hV hA (Nat.le_of_ble_eq_true rfl) (Nat.le_of_ble_eq_true rfl) [] rfl rfl (by decide) dJ3_checkIndex_8e157_17 ⟨rfl, rfl⟩
set_option maxHeartbeats 4000000 in
set_option maxRecDepth 100000 in
theorem c_chkR (l : Launch) (D : va_G) (cI cZ cS : ClassId) (N0 : NT) (k : Nat) (x1 : Int32) (tz : Nat) (hk : k < 30) (e1 : x1 = nI k) : Mx l D cI cZ cS N0 yJ3_checkIndex_8e157 cJ3_checkIndex_8e157 3 (some .int) 0 0 0 [.int x1, .int 30, .ref tz] [] (fun v w => v = some (.int x1) ∧ w = ([] : va_W)) := by
  refine x_enter (by decide) (Nat.le_of_ble_eq_true rfl) ?_
  intro p e s m args below meth c A ls H locs hB hr hin hl hV hA
  have hx := hB.1
  have hb := hB.2.1
  have hl : lv_has ls 3 [(0, .int x1), (1, .int 30), (2, .ref tz)] := hl
  refine lv_iload_n hx hb dJ3_checkIndex_8e157_0 rfl (lv_at hl 0 rfl) ?_
  refine lv_if_lt (tgt := 9) hx hb dJ3_checkIndex_8e157_1 (by decide) (fun c_ => absurd c_ (by rw [e1]; exact nI_pos (by omega))) (fun c_ => ?_)
  refine lv_iload_n hx hb dJ3_checkIndex_8e157_4 rfl (lv_at hl 0 rfl) ?_
  refine lv_iload_n hx hb dJ3_checkIndex_8e157_5 rfl (lv_at hl 1 rfl) ?_
  refine lv_icmp_lt (tgt := 16) hx hb dJ3_checkIndex_8e157_6 (by decide) (fun c_ => ?_) (fun c_ => absurd (by rw [e1]; exact nI_lt (b := 30) (by omega) (by decide)) c_)
  refine lv_iload_n hx hb dJ3_checkIndex_8e157_16 rfl (lv_at hl 0 rfl) ?_
  exact x_iret (w := []) hB hr hV hA (Nat.le_of_ble_eq_true rfl) (Nat.le_of_ble_eq_true rfl) [] rfl rfl (by decide) dJ3_checkIndex_8e157_17 ⟨rfl, rfl⟩
set_option maxHeartbeats 4000000 in
set_option maxRecDepth 100000 in
theorem c_checkIndexS (l : Launch) (D : va_G) (cI cZ cS : ClassId) (N0 : NT) (k : Nat) (x1 : Int32) (hk : k < 30) (e1 : x1 = nI k) : Mx l D cI cZ cS N0 yJ0_checkIndex_df160 cJ0_checkIndex_df160 2 none 1 0 0 [.int x1, .int 30] [] (fun v w => v = none ∧ w = ([] : va_W)) := by
  refine x_enter (by decide) (Nat.le_of_ble_eq_true rfl) ?_
  intro p e s m args below meth c A ls H locs hB hr hin hl hV hA
  have hx := hB.1
  have hb := hB.2.1
  have hl : lv_has ls 2 [(0, .int x1), (1, .int 30)] := hl
  refine lv_iload_n hx hb dJ0_checkIndex_df160_0 rfl (lv_at hl 0 rfl) ?_
  refine lv_iload_n hx hb dJ0_checkIndex_df160_1 rfl (lv_at hl 1 rfl) ?_
  rcases tx_fm hB with hz | ⟨tz, hz⟩
  · refine va_gets hx hb hz hV.2.2 hB.2.2.2.1 (hB.2.2.2.2.1 _ k_384) (fun _ h => h) dJ0_checkIndex_df160_2 ?_
    refine x_callS (n := 3) (wr := []) (As := [.int x1, .int 30, .null]) (rest := []) hB hV (x_N hB) hl.1 (c_chkN l D cI cZ cS N0 k x1 hk e1) k_388 k_68 k_386 k_387 (by decide +kernel) ⟨(Nat.le_of_ble_eq_true rfl), (Nat.le_of_ble_eq_true rfl)⟩ rfl (Nat.le_of_ble_eq_true rfl) ⟨(Nat.le_of_ble_eq_true rfl), (Nat.le_of_ble_eq_true rfl)⟩ [] [] rfl rfl rfl ⟨by decide, by decide, by decide⟩ dJ0_checkIndex_df160_5 (fun v w H locs hp hV => ?_)
    obtain ⟨rfl, rfl⟩ := hp
    have hV : Vx D A s.heap H locs [] := hV
    refine W.eq (g2 := F0 m 8 ls [.int x1]) rfl ?_
    refine lv_pop hx hb dJ0_checkIndex_df160_8 rfl ?_
    exact x_vret (w := []) hB hr hV hA (Nat.le_of_ble_eq_true rfl) (Nat.le_of_ble_eq_true rfl) [] rfl rfl (by decide) dJ0_checkIndex_df160_9 ⟨rfl, rfl⟩
  · refine va_gets hx hb hz hV.2.2 hB.2.2.2.1 (hB.2.2.2.2.1 _ k_384) (fun _ h => h) dJ0_checkIndex_df160_2 ?_
    refine x_callS (n := 3) (wr := []) (As := [.int x1, .int 30, .ref tz]) (rest := []) hB hV (x_N hB) hl.1 (c_chkR l D cI cZ cS N0 k x1 tz hk e1) k_388 k_68 k_386 k_387 (by decide +kernel) ⟨(Nat.le_of_ble_eq_true rfl), (Nat.le_of_ble_eq_true rfl)⟩ rfl (Nat.le_of_ble_eq_true rfl) ⟨(Nat.le_of_ble_eq_true rfl), (Nat.le_of_ble_eq_true rfl)⟩ [] [] rfl rfl rfl ⟨by decide, by decide, by decide⟩ dJ0_checkIndex_df160_5 (fun v w H locs hp hV => ?_)
    obtain ⟨rfl, rfl⟩ := hp
    have hV : Vx D A s.heap H locs [] := hV
    refine W.eq (g2 := F0 m 8 ls [.int x1]) rfl ?_
    refine lv_pop hx hb dJ0_checkIndex_df160_8 rfl ?_
    exact x_vret (w := []) hB hr hV hA (Nat.le_of_ble_eq_true rfl) (Nat.le_of_ble_eq_true rfl) [] rfl rfl (by decide) dJ0_checkIndex_df160_9 ⟨rfl, rfl⟩
set_option maxHeartbeats 4000000 in
set_option maxRecDepth 100000 in
theorem c_latCharAt (l : Launch) (D : va_G) (cI cZ cS : ClassId) (N0 : NT) (k : Nat) (hk : k < 30) : Mx l D cI cZ cS N0 yJ1_charAt_3b067 cJ1_charAt_3b067 2 (some .char) 2 0 0 [.ref N0.2.2.2, .int (nI k)] [] (fun v w => ∃ (r : Int32), v = some (.int r) ∧ w = ([] : va_W) ∧ (¬ (-1 : Int32) = r) ∧ (narrow .char (.int r) = .int r)) := by
  refine x_enter (by decide) (Nat.le_of_ble_eq_true rfl) ?_
  intro p e s m args below meth c A ls H locs hB hr hin hl hV hA
  have hx := hB.1
  have hb := hB.2.1
  have hl : lv_has ls 2 [(0, .ref N0.2.2.2), (1, .int (nI k))] := hl
  refine lv_iload_n hx hb dJ1_charAt_3b067_0 rfl (lv_at hl 1 rfl) ?_
  refine lv_aload_n hx hb dJ1_charAt_3b067_1 rfl (lv_at hl 0 rfl) ?_
  refine va_tlen (v := 30) hx hb (tx_by hB) hV.2.2 rfl dJ1_charAt_3b067_2 ?_
  refine x_callS (n := 2) (wr := []) (As := [.int (nI k), .int 30]) (rest := []) hB hV (x_N hB) hl.1 (c_checkIndexS l D cI cZ cS N0 k (nI k) hk rfl) k_383 k_66 k_381 k_382 (by decide +kernel) ⟨(Nat.le_of_ble_eq_true rfl), (Nat.le_of_ble_eq_true rfl)⟩ rfl (Nat.le_of_ble_eq_true rfl) ⟨(Nat.le_of_ble_eq_true rfl), (Nat.le_of_ble_eq_true rfl)⟩ [] [] rfl rfl rfl ⟨by decide, by decide, by decide⟩ dJ1_charAt_3b067_3 (fun v w H locs hp hV => ?_)
  obtain ⟨rfl, rfl⟩ := hp
  have hV : Vx D A s.heap H locs [] := hV
  refine W.eq (g2 := F0 m 6 ls []) rfl ?_
  refine lv_aload_n hx hb dJ1_charAt_3b067_6 rfl (lv_at hl 0 rfl) ?_
  refine lv_iload_n hx hb dJ1_charAt_3b067_7 rfl (lv_at hl 1 rfl) ?_
  refine va_tb hx hb (tx_by hB) hV.2.2 (vp_in_nI (by omega) (by decide)) rfl dJ1_charAt_3b067_8 ?_
  refine lv_topi (fun u_b eu_b => ?_)
  refine lv_sipush (v := 255) hx hb dJ1_charAt_3b067_9 (by decide) ?_
  refine lv_iand hx hb dJ1_charAt_3b067_12 ?_
  refine lv_topi (fun z_1 ez_1 => ?_)
  refine lv_i2c (v := u_b &&& 255) hx hb dJ1_charAt_3b067_13 (by first | exact sc_c2 u_b | (rw [ez_1]; exact sc_c2 u_b)) ?_
  exact x_zret (w := []) hB hr (sc_nar u_b) hV hA (Nat.le_of_ble_eq_true rfl) (Nat.le_of_ble_eq_true rfl) [] rfl rfl (by decide) dJ1_charAt_3b067_14 ⟨(u_b &&& 255), rfl, rfl, (ne_m1 u_b), (sc_nar u_b)⟩
set_option maxHeartbeats 4000000 in
set_option maxRecDepth 100000 in
theorem c_isLatin1 (l : Launch) (D : va_G) (cI cZ cS : ClassId) (N0 : NT)   : Mx l D cI cZ cS N0 yJ0_isLatin1_aae02 cJ0_isLatin1_aae02 1 (some .boolean) 0 0 0 [.ref N0.2.2.1] [] (fun v w => v = some (.int 1) ∧ w = ([] : va_W)) := by
  refine x_enter (by decide) (Nat.le_of_ble_eq_true rfl) ?_
  intro p e s m args below meth c A ls H locs hB hr hin hl hV hA
  have hx := hB.1
  have hb := hB.2.1
  have hl : lv_has ls 1 [(0, .ref N0.2.2.1)] := hl
  refine va_gets hx hb (tx_cs hB) hV.2.2 hB.2.2.2.1 (hB.2.2.2.2.1 _ k_376) (fun _ h => h) dJ0_isLatin1_aae02_0 ?_
  refine lv_if_eq (tgt := 17) hx hb dJ0_isLatin1_aae02_3 (by decide) (fun c_ => absurd c_ (by decide)) (fun c_ => ?_)
  refine lv_aload_n hx hb dJ0_isLatin1_aae02_6 rfl (lv_at hl 0 rfl) ?_
  refine vk_getf hx hb (tx_cd hB) hV.2.2 hB.2.2.2.1 (hB.2.2.2.2.1 _ k_1191) (fun _ h => h) dJ0_isLatin1_aae02_7 ?_
  refine lv_if_ne (tgt := 17) hx hb dJ0_isLatin1_aae02_10 (by decide) (fun c_ => absurd (by decide) c_) (fun c_ => ?_)
  refine lv_iconst (v := 1) hx hb dJ0_isLatin1_aae02_13 (by decide) ?_
  refine lv_goto (tgt := 18) hx hb dJ0_isLatin1_aae02_14 (by decide) ?_
  exact x_zret (w := []) hB hr rfl hV hA (Nat.le_of_ble_eq_true rfl) (Nat.le_of_ble_eq_true rfl) [] rfl rfl (by decide) dJ0_isLatin1_aae02_18 ⟨rfl, rfl⟩
set_option maxHeartbeats 4000000 in
set_option maxRecDepth 100000 in
theorem c_charAt (l : Launch) (D : va_G) (cI cZ cS : ClassId) (N0 : NT) (x1 : Int32) (k : Nat) (hk : k < 30) (e1 : x1 = nI k) : Mx l D cI cZ cS N0 yJ0_charAt_5068e cJ0_charAt_5068e 2 (some .char) 3 0 0 [.ref N0.2.2.1, .int x1] [] (fun v w => ∃ (r : Int32), v = some (.int r) ∧ w = ([] : va_W) ∧ (¬ (-1 : Int32) = r)) := by
  refine x_enter (by decide) (Nat.le_of_ble_eq_true rfl) ?_
  intro p e s m args below meth c A ls H locs hB hr hin hl hV hA
  have hx := hB.1
  have hb := hB.2.1
  have hl : lv_has ls 2 [(0, .ref N0.2.2.1), (1, .int x1)] := hl
  subst e1
  refine lv_aload_n hx hb dJ0_charAt_5068e_0 rfl (lv_at hl 0 rfl) ?_
  refine x_callT (n := 0) (wr := []) (As := []) (rest := []) hB hV (x_N hB) hl.1 (c_isLatin1 l D cI cZ cS N0) k_375 k_66 k_372 k_373 k_374 (by decide +kernel) ⟨(Nat.le_of_ble_eq_true rfl), (Nat.le_of_ble_eq_true rfl)⟩ rfl (Nat.le_of_ble_eq_true rfl) ⟨(Nat.le_of_ble_eq_true rfl), (Nat.le_of_ble_eq_true rfl)⟩ [] rfl rfl dJ0_charAt_5068e_1 (fun v w H locs hp hV => ?_)
  obtain ⟨rfl, rfl⟩ := hp
  have hV : Vx D A s.heap H locs [] := hV
  refine W.eq (g2 := F0 m 4 ls [.int 1]) rfl ?_
  refine lv_if_eq (tgt := 16) hx hb dJ0_charAt_5068e_4 (by decide) (fun c_ => absurd c_ (by decide)) (fun c_ => ?_)
  refine lv_aload_n hx hb dJ0_charAt_5068e_7 rfl (lv_at hl 0 rfl) ?_
  refine vk_getf hx hb (tx_va hB) hV.2.2 hB.2.2.2.1 (hB.2.2.2.2.1 _ k_1192) (fun _ h => h) dJ0_charAt_5068e_8 ?_
  refine lv_iload_n hx hb dJ0_charAt_5068e_11 rfl (lv_at hl 1 rfl) ?_
  refine x_callS (n := 2) (wr := []) (As := [.ref N0.2.2.2, .int (nI k)]) (rest := []) hB hV (x_N hB) hl.1 (c_latCharAt l D cI cZ cS N0 k hk) k_380 k_67 k_378 k_379 (by decide +kernel) ⟨(Nat.le_of_ble_eq_true rfl), (Nat.le_of_ble_eq_true rfl)⟩ rfl (Nat.le_of_ble_eq_true rfl) ⟨(Nat.le_of_ble_eq_true rfl), (Nat.le_of_ble_eq_true rfl)⟩ [] [] rfl rfl rfl ⟨by decide, by decide, by decide⟩ dJ0_charAt_5068e_12 (fun v w H locs hp hV => ?_)
  obtain ⟨r_1, rfl, rfl, f_2, f_3⟩ := hp
  have hV : Vx D A s.heap H locs [] := hV
  refine W.eq (g2 := F0 m 15 ls [.int r_1]) rfl ?_
  exact x_zret (w := []) hB hr f_3 hV hA (Nat.le_of_ble_eq_true rfl) (Nat.le_of_ble_eq_true rfl) [] rfl rfl (by decide) dJ0_charAt_5068e_15 ⟨_, rfl, rfl, f_2⟩
set_option maxHeartbeats 4000000 in
set_option maxRecDepth 100000 in
theorem c_byteAt (l : Launch) (D : va_G) (cI cZ cS : ClassId) (N0 : NT) (h : Nat) (byt : Nat)  : Mx l D cI cZ cS N0 yX4_byteAt cX4_byteAt 2 (some .int) 1 0 0 [.ref h, .int 0] [(h, .inr (4, [.ref byt, .int 0, .int 0, .int 0]))] (fun v w => v = some (.int (-1)) ∧ w = ([(h, .inr (4, [.ref byt, .int 0, .int 0, .int 0]))] : va_W)) := by
  refine x_enter (by decide) (Nat.le_of_ble_eq_true rfl) ?_
  intro p e s m args below meth c A ls H locs hB hr hin hl hV hA
  have hx := hB.1
  have hb := hB.2.1
  have hl : lv_has ls 2 [(0, .ref h), (1, .int 0)] := hl
  refine lv_iload_n hx hb dX4_byteAt_0 rfl (lv_at hl 1 rfl) ?_
  refine lv_if_lt (tgt := 21) hx hb dX4_byteAt_1 (by decide) (fun c_ => absurd c_ (by decide)) (fun c_ => ?_)
  refine lv_iload_n hx hb dX4_byteAt_4 rfl (lv_at hl 1 rfl) ?_
  refine lv_aload_n hx hb dX4_byteAt_5 rfl (lv_at hl 0 rfl) ?_
  refine x_get (v := .int 0) hB hV 0 rfl rfl 1 (by decide) k_87 rfl dX4_byteAt_6 ?_
  refine lv_icmp_ge (tgt := 21) hx hb dX4_byteAt_9 (by decide) (fun c_ => ?_) (fun c_ => absurd (by decide) c_)
  refine lv_iconst (v := (-1)) hx hb dX4_byteAt_21 (by decide) ?_
  exact x_iret (w := [(h, .inr (4, [.ref byt, .int 0, .int 0, .int 0]))]) hB hr hV hA (Nat.le_of_ble_eq_true rfl) (Nat.le_of_ble_eq_true rfl) [0] rfl rfl (by decide) dX4_byteAt_22 ⟨rfl, rfl⟩
set_option maxHeartbeats 4000000 in
set_option maxRecDepth 100000 in
theorem c_readWord (l : Launch) (D : va_G) (cI cZ cS : ClassId) (N0 : NT) (h : Nat) (byt : Nat)  : Mx l D cI cZ cS N0 yX4_readWord cX4_readWord 6 (some .int) 4 0 0 [.ref h] [(h, .inr (4, [.ref byt, .int 0, .int 0, .int 0]))] (fun v w => v = some (.int (-1)) ∧ w = ([(h, .inr (4, [.ref byt, .int 0, .int 0, .int 0]))] : va_W)) := by
  refine x_enter (by decide) (Nat.le_of_ble_eq_true rfl) ?_
  intro p e s m args below meth c A ls H locs hB hr hin hl hV hA
  have hx := hB.1
  have hb := hB.2.1
  have hl : lv_has ls 6 [(0, .ref h)] := hl
  refine lv_iconst (v := 0) hx hb dX4_readWord_0 (by decide) ?_
  refine lv_istore_n (lv' := [(1, .int 0), (0, .ref h)]) hx hb dX4_readWord_1 rfl hl (by decide) rfl (fun ls hl => ?_)
  refine lv_iconst (v := 0) hx hb dX4_readWord_2 (by decide) ?_
  refine lv_istore_n (lv' := [(2, .int 0), (1, .int 0), (0, .ref h)]) hx hb dX4_readWord_3 rfl hl (by decide) rfl (fun ls hl => ?_)
  refine lv_iload_n hx hb dX4_readWord_4 rfl (lv_at hl 0 rfl) ?_
  refine lv_bipush (v := 8) hx hb dX4_readWord_5 (by decide) ?_
  refine lv_icmp_ge (tgt := 99) hx hb dX4_readWord_7 (by decide) (fun c_ => absurd c_ (by decide)) (fun c_ => ?_)
  refine va_gets hx hb (tx_wb hB) hV.2.2 hB.2.2.2.1 (hB.2.2.2.2.1 _ k_361) (fun _ h => h) dX4_readWord_10 ?_
  refine lv_iload_n hx hb dX4_readWord_13 rfl (lv_at hl 0 rfl) ?_
  refine va_ti (v := .int 0) hx hb (tx_tab hB) hV.2.2 (by unfold vp_in; decide) rfl dX4_readWord_14 ?_
  refine lv_istore_n (lv' := [(3, .int 0), (2, .int 0), (1, .int 0), (0, .ref h)]) hx hb dX4_readWord_15 rfl hl (by decide) rfl (fun ls hl => ?_)
  refine va_gets hx hb (tx_wb hB) hV.2.2 hB.2.2.2.1 (hB.2.2.2.2.1 _ k_361) (fun _ h => h) dX4_readWord_16 ?_
  refine lv_iload_n hx hb dX4_readWord_19 rfl (lv_at hl 1 rfl) ?_
  refine lv_iconst (v := 1) hx hb dX4_readWord_20 (by decide) ?_
  refine lv_iadd hx hb dX4_readWord_21 ?_
  refine x_ev (y := 1) (by decide) ?_
  refine va_ti (v := .int 4) hx hb (tx_tab hB) hV.2.2 (by unfold vp_in; decide) rfl dX4_readWord_22 ?_
  refine lv_iload_n hx hb dX4_readWord_23 rfl (lv_at hl 0 rfl) ?_
  refine lv_isub hx hb dX4_readWord_24 ?_
  refine x_ev (y := 4) (by decide) ?_
  refine lv_istore (lv' := [(4, .int 4), (3, .int 0), (2, .int 0), (1, .int 0), (0, .ref h)]) hx hb dX4_readWord_25 hl (by decide) rfl (fun ls hl => ?_)
  refine lv_iconst (v := 0) hx hb dX4_readWord_27 (by decide) ?_
  refine lv_istore (lv' := [(5, .int 0), (4, .int 4), (3, .int 0), (2, .int 0), (1, .int 0), (0, .ref h)]) hx hb dX4_readWord_28 hl (by decide) rfl (fun ls hl => ?_)
  refine lv_iload hx hb dX4_readWord_30 (lv_at hl 0 rfl) ?_
  refine lv_iload hx hb dX4_readWord_32 (lv_at hl 1 rfl) ?_
  refine lv_icmp_ge (tgt := 66) hx hb dX4_readWord_34 (by decide) (fun c_ => absurd c_ (by decide)) (fun c_ => ?_)
  refine lv_aload_n hx hb dX4_readWord_37 rfl (lv_at hl 5 rfl) ?_
  refine lv_aload_n hx hb dX4_readWord_38 rfl (lv_at hl 5 rfl) ?_
  refine x_get (v := .int 0) hB hV 0 rfl rfl 3 (by decide) k_91 rfl dX4_readWord_39 ?_
  refine lv_iload hx hb dX4_readWord_42 (lv_at hl 0 rfl) ?_
  refine lv_iadd hx hb dX4_readWord_44 ?_
  refine x_ev (y := 0) (by decide) ?_
  refine x_callV (n := 1) (wr := []) (q0 := 0) (As := [.int 0]) (rest := []) hB hV (x_N hB) hl.1 (c_byteAt l D cI cZ cS N0 h byt ) rfl rfl k_366 k_58 k_363 k_365 k_3 (by decide +kernel) ⟨(Nat.le_of_ble_eq_true rfl), (Nat.le_of_ble_eq_true rfl)⟩ rfl (Nat.le_of_ble_eq_true rfl) ⟨(Nat.le_of_ble_eq_true rfl), (Nat.le_of_ble_eq_true rfl)⟩ [0] [] rfl rfl rfl ⟨by decide, by decide, by decide⟩ dX4_readWord_45 (fun v w H locs hp hV => ?_)
  obtain ⟨rfl, rfl⟩ := hp
  have hV : Vx D A s.heap H locs [(h, .inr (4, [.ref byt, .int 0, .int 0, .int 0]))] := hV
  refine W.eq (g2 := F0 m 48 ls [.int (-1)]) rfl ?_
  refine va_ldcS hx hb hB.2.2.2.1 (tx_r hB) dX4_readWord_48 ?_
  refine lv_iload_n hx hb dX4_readWord_50 rfl (lv_at hl 2 rfl) ?_
  refine lv_iload hx hb dX4_readWord_51 (lv_at hl 0 rfl) ?_
  refine lv_iadd hx hb dX4_readWord_53 ?_
  refine x_ev (y := 0) (by decide) ?_
  refine x_callT (n := 1) (wr := [(h, .inr (4, [.ref byt, .int 0, .int 0, .int 0]))]) (As := [.int 0]) (rest := [.int (-1)]) hB hV (x_N hB) hl.1 (c_charAt l D cI cZ cS N0 0 0 (by omega) rfl) k_371 k_66 k_368 k_369 k_370 (by decide +kernel) ⟨(Nat.le_of_ble_eq_true rfl), (Nat.le_of_ble_eq_true rfl)⟩ rfl (Nat.le_of_ble_eq_true rfl) ⟨(Nat.le_of_ble_eq_true rfl), (Nat.le_of_ble_eq_true rfl)⟩ [0] rfl rfl dX4_readWord_54 (fun v w H locs hp hV => ?_)
  obtain ⟨r_1, rfl, rfl, f_2⟩ := hp
  have hV : Vx D A s.heap H locs [(h, .inr (4, [.ref byt, .int 0, .int 0, .int 0]))] := hV
  refine W.eq (g2 := F0 m 57 ls [.int r_1, .int (-1)]) rfl ?_
  refine lv_icmp_ne (tgt := 66) hx hb dX4_readWord_57 (by decide) (fun c_ => ?_) (fun c_ => absurd c_ f_2)
  refine lv_iload hx hb dX4_readWord_66 (lv_at hl 0 rfl) ?_
  refine lv_iload hx hb dX4_readWord_68 (lv_at hl 1 rfl) ?_
  refine lv_icmp_ne (tgt := 86) hx hb dX4_readWord_70 (by decide) (fun c_ => ?_) (fun c_ => absurd c_ (by decide))
  refine lv_iload_n hx hb dX4_readWord_86 rfl (lv_at hl 4 rfl) ?_
  refine lv_iload hx hb dX4_readWord_87 (lv_at hl 0 rfl) ?_
  refine x_max (v := 0) hB k_408 k_241 k_63 k_242 hl.1 (Nat.le_of_ble_eq_true rfl) (Nat.le_of_ble_eq_true rfl) (Nat.le_of_ble_eq_true rfl) (Nat.le_of_ble_eq_true rfl) (by decide) dX4_readWord_89 ?_
  refine lv_istore_n (lv' := [(1, .int 0), (5, .int 0), (4, .int 4), (3, .int 0), (2, .int 0), (0, .ref h)]) hx hb dX4_readWord_92 rfl hl (by decide) rfl (fun ls hl => ?_)
  refine lv_iinc (v := 1) (lv' := [(2, .int 1), (1, .int 0), (5, .int 0), (4, .int 4), (3, .int 0), (0, .ref h)]) hx hb dX4_readWord_93 hl (k := 4) rfl (by decide) (by decide) rfl (fun ls hl => ?_)
  refine lv_goto (tgt := 4) hx hb dX4_readWord_96 (by decide) ?_
  refine lv_iload_n hx hb dX4_readWord_4 rfl (lv_at hl 0 rfl) ?_
  refine lv_bipush (v := 8) hx hb dX4_readWord_5 (by decide) ?_
  refine lv_icmp_ge (tgt := 99) hx hb dX4_readWord_7 (by decide) (fun c_ => absurd c_ (by decide)) (fun c_ => ?_)
  refine va_gets hx hb (tx_wb hB) hV.2.2 hB.2.2.2.1 (hB.2.2.2.2.1 _ k_361) (fun _ h => h) dX4_readWord_10 ?_
  refine lv_iload_n hx hb dX4_readWord_13 rfl (lv_at hl 0 rfl) ?_
  refine va_ti (v := .int 4) hx hb (tx_tab hB) hV.2.2 (by unfold vp_in; decide) rfl dX4_readWord_14 ?_
  refine lv_istore_n (lv' := [(3, .int 4), (2, .int 1), (1, .int 0), (5, .int 0), (4, .int 4), (0, .ref h)]) hx hb dX4_readWord_15 rfl hl (by decide) rfl (fun ls hl => ?_)
  refine va_gets hx hb (tx_wb hB) hV.2.2 hB.2.2.2.1 (hB.2.2.2.2.1 _ k_361) (fun _ h => h) dX4_readWord_16 ?_
  refine lv_iload_n hx hb dX4_readWord_19 rfl (lv_at hl 1 rfl) ?_
  refine lv_iconst (v := 1) hx hb dX4_readWord_20 (by decide) ?_
  refine lv_iadd hx hb dX4_readWord_21 ?_
  refine x_ev (y := 2) (by decide) ?_
  refine va_ti (v := .int 8) hx hb (tx_tab hB) hV.2.2 (by unfold vp_in; decide) rfl dX4_readWord_22 ?_
  refine lv_iload_n hx hb dX4_readWord_23 rfl (lv_at hl 0 rfl) ?_
  refine lv_isub hx hb dX4_readWord_24 ?_
  refine x_ev (y := 4) (by decide) ?_
  refine lv_istore (lv' := [(4, .int 4), (3, .int 4), (2, .int 1), (1, .int 0), (5, .int 0), (0, .ref h)]) hx hb dX4_readWord_25 hl (by decide) rfl (fun ls hl => ?_)
  refine lv_iconst (v := 0) hx hb dX4_readWord_27 (by decide) ?_
  refine lv_istore (lv' := [(5, .int 0), (4, .int 4), (3, .int 4), (2, .int 1), (1, .int 0), (0, .ref h)]) hx hb dX4_readWord_28 hl (by decide) rfl (fun ls hl => ?_)
  refine lv_iload hx hb dX4_readWord_30 (lv_at hl 0 rfl) ?_
  refine lv_iload hx hb dX4_readWord_32 (lv_at hl 1 rfl) ?_
  refine lv_icmp_ge (tgt := 66) hx hb dX4_readWord_34 (by decide) (fun c_ => absurd c_ (by decide)) (fun c_ => ?_)
  refine lv_aload_n hx hb dX4_readWord_37 rfl (lv_at hl 5 rfl) ?_
  refine lv_aload_n hx hb dX4_readWord_38 rfl (lv_at hl 5 rfl) ?_
  refine x_get (v := .int 0) hB hV 0 rfl rfl 3 (by decide) k_91 rfl dX4_readWord_39 ?_
  refine lv_iload hx hb dX4_readWord_42 (lv_at hl 0 rfl) ?_
  refine lv_iadd hx hb dX4_readWord_44 ?_
  refine x_ev (y := 0) (by decide) ?_
  refine x_callV (n := 1) (wr := []) (q0 := 0) (As := [.int 0]) (rest := []) hB hV (x_N hB) hl.1 (c_byteAt l D cI cZ cS N0 h byt ) rfl rfl k_366 k_58 k_363 k_365 k_3 (by decide +kernel) ⟨(Nat.le_of_ble_eq_true rfl), (Nat.le_of_ble_eq_true rfl)⟩ rfl (Nat.le_of_ble_eq_true rfl) ⟨(Nat.le_of_ble_eq_true rfl), (Nat.le_of_ble_eq_true rfl)⟩ [0] [] rfl rfl rfl ⟨by decide, by decide, by decide⟩ dX4_readWord_45 (fun v w H locs hp hV => ?_)
  obtain ⟨rfl, rfl⟩ := hp
  have hV : Vx D A s.heap H locs [(h, .inr (4, [.ref byt, .int 0, .int 0, .int 0]))] := hV
  refine W.eq (g2 := F0 m 48 ls [.int (-1)]) rfl ?_
  refine va_ldcS hx hb hB.2.2.2.1 (tx_r hB) dX4_readWord_48 ?_
  refine lv_iload_n hx hb dX4_readWord_50 rfl (lv_at hl 2 rfl) ?_
  refine lv_iload hx hb dX4_readWord_51 (lv_at hl 0 rfl) ?_
  refine lv_iadd hx hb dX4_readWord_53 ?_
  refine x_ev (y := 4) (by decide) ?_
  refine x_callT (n := 1) (wr := [(h, .inr (4, [.ref byt, .int 0, .int 0, .int 0]))]) (As := [.int 4]) (rest := [.int (-1)]) hB hV (x_N hB) hl.1 (c_charAt l D cI cZ cS N0 4 4 (by omega) rfl) k_371 k_66 k_368 k_369 k_370 (by decide +kernel) ⟨(Nat.le_of_ble_eq_true rfl), (Nat.le_of_ble_eq_true rfl)⟩ rfl (Nat.le_of_ble_eq_true rfl) ⟨(Nat.le_of_ble_eq_true rfl), (Nat.le_of_ble_eq_true rfl)⟩ [0] rfl rfl dX4_readWord_54 (fun v w H locs hp hV => ?_)
  obtain ⟨r_3, rfl, rfl, f_4⟩ := hp
  have hV : Vx D A s.heap H locs [(h, .inr (4, [.ref byt, .int 0, .int 0, .int 0]))] := hV
  refine W.eq (g2 := F0 m 57 ls [.int r_3, .int (-1)]) rfl ?_
  refine lv_icmp_ne (tgt := 66) hx hb dX4_readWord_57 (by decide) (fun c_ => ?_) (fun c_ => absurd c_ f_4)
  refine lv_iload hx hb dX4_readWord_66 (lv_at hl 0 rfl) ?_
  refine lv_iload hx hb dX4_readWord_68 (lv_at hl 1 rfl) ?_
  refine lv_icmp_ne (tgt := 86) hx hb dX4_readWord_70 (by decide) (fun c_ => ?_) (fun c_ => absurd c_ (by decide))
  refine lv_iload_n hx hb dX4_readWord_86 rfl (lv_at hl 4 rfl) ?_
  refine lv_iload hx hb dX4_readWord_87 (lv_at hl 0 rfl) ?_
  refine x_max (v := 0) hB k_408 k_241 k_63 k_242 hl.1 (Nat.le_of_ble_eq_true rfl) (Nat.le_of_ble_eq_true rfl) (Nat.le_of_ble_eq_true rfl) (Nat.le_of_ble_eq_true rfl) (by decide) dX4_readWord_89 ?_
  refine lv_istore_n (lv' := [(1, .int 0), (5, .int 0), (4, .int 4), (3, .int 4), (2, .int 1), (0, .ref h)]) hx hb dX4_readWord_92 rfl hl (by decide) rfl (fun ls hl => ?_)
  refine lv_iinc (v := 2) (lv' := [(2, .int 2), (1, .int 0), (5, .int 0), (4, .int 4), (3, .int 4), (0, .ref h)]) hx hb dX4_readWord_93 hl (k := 4) rfl (by decide) (by decide) rfl (fun ls hl => ?_)
  refine lv_goto (tgt := 4) hx hb dX4_readWord_96 (by decide) ?_
  refine lv_iload_n hx hb dX4_readWord_4 rfl (lv_at hl 0 rfl) ?_
  refine lv_bipush (v := 8) hx hb dX4_readWord_5 (by decide) ?_
  refine lv_icmp_ge (tgt := 99) hx hb dX4_readWord_7 (by decide) (fun c_ => absurd c_ (by decide)) (fun c_ => ?_)
  refine va_gets hx hb (tx_wb hB) hV.2.2 hB.2.2.2.1 (hB.2.2.2.2.1 _ k_361) (fun _ h => h) dX4_readWord_10 ?_
  refine lv_iload_n hx hb dX4_readWord_13 rfl (lv_at hl 0 rfl) ?_
  refine va_ti (v := .int 8) hx hb (tx_tab hB) hV.2.2 (by unfold vp_in; decide) rfl dX4_readWord_14 ?_
  refine lv_istore_n (lv' := [(3, .int 8), (2, .int 2), (1, .int 0), (5, .int 0), (4, .int 4), (0, .ref h)]) hx hb dX4_readWord_15 rfl hl (by decide) rfl (fun ls hl => ?_)
  refine va_gets hx hb (tx_wb hB) hV.2.2 hB.2.2.2.1 (hB.2.2.2.2.1 _ k_361) (fun _ h => h) dX4_readWord_16 ?_
  refine lv_iload_n hx hb dX4_readWord_19 rfl (lv_at hl 1 rfl) ?_
  refine lv_iconst (v := 1) hx hb dX4_readWord_20 (by decide) ?_
  refine lv_iadd hx hb dX4_readWord_21 ?_
  refine x_ev (y := 3) (by decide) ?_
  refine va_ti (v := .int 12) hx hb (tx_tab hB) hV.2.2 (by unfold vp_in; decide) rfl dX4_readWord_22 ?_
  refine lv_iload_n hx hb dX4_readWord_23 rfl (lv_at hl 0 rfl) ?_
  refine lv_isub hx hb dX4_readWord_24 ?_
  refine x_ev (y := 4) (by decide) ?_
  refine lv_istore (lv' := [(4, .int 4), (3, .int 8), (2, .int 2), (1, .int 0), (5, .int 0), (0, .ref h)]) hx hb dX4_readWord_25 hl (by decide) rfl (fun ls hl => ?_)
  refine lv_iconst (v := 0) hx hb dX4_readWord_27 (by decide) ?_
  refine lv_istore (lv' := [(5, .int 0), (4, .int 4), (3, .int 8), (2, .int 2), (1, .int 0), (0, .ref h)]) hx hb dX4_readWord_28 hl (by decide) rfl (fun ls hl => ?_)
  refine lv_iload hx hb dX4_readWord_30 (lv_at hl 0 rfl) ?_
  refine lv_iload hx hb dX4_readWord_32 (lv_at hl 1 rfl) ?_
  refine lv_icmp_ge (tgt := 66) hx hb dX4_readWord_34 (by decide) (fun c_ => absurd c_ (by decide)) (fun c_ => ?_)
  refine lv_aload_n hx hb dX4_readWord_37 rfl (lv_at hl 5 rfl) ?_
  refine lv_aload_n hx hb dX4_readWord_38 rfl (lv_at hl 5 rfl) ?_
  refine x_get (v := .int 0) hB hV 0 rfl rfl 3 (by decide) k_91 rfl dX4_readWord_39 ?_
  refine lv_iload hx hb dX4_readWord_42 (lv_at hl 0 rfl) ?_
  refine lv_iadd hx hb dX4_readWord_44 ?_
  refine x_ev (y := 0) (by decide) ?_
  refine x_callV (n := 1) (wr := []) (q0 := 0) (As := [.int 0]) (rest := []) hB hV (x_N hB) hl.1 (c_byteAt l D cI cZ cS N0 h byt ) rfl rfl k_366 k_58 k_363 k_365 k_3 (by decide +kernel) ⟨(Nat.le_of_ble_eq_true rfl), (Nat.le_of_ble_eq_true rfl)⟩ rfl (Nat.le_of_ble_eq_true rfl) ⟨(Nat.le_of_ble_eq_true rfl), (Nat.le_of_ble_eq_true rfl)⟩ [0] [] rfl rfl rfl ⟨by decide, by decide, by decide⟩ dX4_readWord_45 (fun v w H locs hp hV => ?_)
  obtain ⟨rfl, rfl⟩ := hp
  have hV : Vx D A s.heap H locs [(h, .inr (4, [.ref byt, .int 0, .int 0, .int 0]))] := hV
  refine W.eq (g2 := F0 m 48 ls [.int (-1)]) rfl ?_
  refine va_ldcS hx hb hB.2.2.2.1 (tx_r hB) dX4_readWord_48 ?_
  refine lv_iload_n hx hb dX4_readWord_50 rfl (lv_at hl 2 rfl) ?_
  refine lv_iload hx hb dX4_readWord_51 (lv_at hl 0 rfl) ?_
  refine lv_iadd hx hb dX4_readWord_53 ?_
  refine x_ev (y := 8) (by decide) ?_
  refine x_callT (n := 1) (wr := [(h, .inr (4, [.ref byt, .int 0, .int 0, .int 0]))]) (As := [.int 8]) (rest := [.int (-1)]) hB hV (x_N hB) hl.1 (c_charAt l D cI cZ cS N0 8 8 (by omega) rfl) k_371 k_66 k_368 k_369 k_370 (by decide +kernel) ⟨(Nat.le_of_ble_eq_true rfl), (Nat.le_of_ble_eq_true rfl)⟩ rfl (Nat.le_of_ble_eq_true rfl) ⟨(Nat.le_of_ble_eq_true rfl), (Nat.le_of_ble_eq_true rfl)⟩ [0] rfl rfl dX4_readWord_54 (fun v w H locs hp hV => ?_)
  obtain ⟨r_5, rfl, rfl, f_6⟩ := hp
  have hV : Vx D A s.heap H locs [(h, .inr (4, [.ref byt, .int 0, .int 0, .int 0]))] := hV
  refine W.eq (g2 := F0 m 57 ls [.int r_5, .int (-1)]) rfl ?_
  refine lv_icmp_ne (tgt := 66) hx hb dX4_readWord_57 (by decide) (fun c_ => ?_) (fun c_ => absurd c_ f_6)
  refine lv_iload hx hb dX4_readWord_66 (lv_at hl 0 rfl) ?_
  refine lv_iload hx hb dX4_readWord_68 (lv_at hl 1 rfl) ?_
  refine lv_icmp_ne (tgt := 86) hx hb dX4_readWord_70 (by decide) (fun c_ => ?_) (fun c_ => absurd c_ (by decide))
  refine lv_iload_n hx hb dX4_readWord_86 rfl (lv_at hl 4 rfl) ?_
  refine lv_iload hx hb dX4_readWord_87 (lv_at hl 0 rfl) ?_
  refine x_max (v := 0) hB k_408 k_241 k_63 k_242 hl.1 (Nat.le_of_ble_eq_true rfl) (Nat.le_of_ble_eq_true rfl) (Nat.le_of_ble_eq_true rfl) (Nat.le_of_ble_eq_true rfl) (by decide) dX4_readWord_89 ?_
  refine lv_istore_n (lv' := [(1, .int 0), (5, .int 0), (4, .int 4), (3, .int 8), (2, .int 2), (0, .ref h)]) hx hb dX4_readWord_92 rfl hl (by decide) rfl (fun ls hl => ?_)
  refine lv_iinc (v := 3) (lv' := [(2, .int 3), (1, .int 0), (5, .int 0), (4, .int 4), (3, .int 8), (0, .ref h)]) hx hb dX4_readWord_93 hl (k := 4) rfl (by decide) (by decide) rfl (fun ls hl => ?_)
  refine lv_goto (tgt := 4) hx hb dX4_readWord_96 (by decide) ?_
  refine lv_iload_n hx hb dX4_readWord_4 rfl (lv_at hl 0 rfl) ?_
  refine lv_bipush (v := 8) hx hb dX4_readWord_5 (by decide) ?_
  refine lv_icmp_ge (tgt := 99) hx hb dX4_readWord_7 (by decide) (fun c_ => absurd c_ (by decide)) (fun c_ => ?_)
  refine va_gets hx hb (tx_wb hB) hV.2.2 hB.2.2.2.1 (hB.2.2.2.2.1 _ k_361) (fun _ h => h) dX4_readWord_10 ?_
  refine lv_iload_n hx hb dX4_readWord_13 rfl (lv_at hl 0 rfl) ?_
  refine va_ti (v := .int 12) hx hb (tx_tab hB) hV.2.2 (by unfold vp_in; decide) rfl dX4_readWord_14 ?_
  refine lv_istore_n (lv' := [(3, .int 12), (2, .int 3), (1, .int 0), (5, .int 0), (4, .int 4), (0, .ref h)]) hx hb dX4_readWord_15 rfl hl (by decide) rfl (fun ls hl => ?_)
  refine va_gets hx hb (tx_wb hB) hV.2.2 hB.2.2.2.1 (hB.2.2.2.2.1 _ k_361) (fun _ h => h) dX4_readWord_16 ?_
  refine lv_iload_n hx hb dX4_readWord_19 rfl (lv_at hl 1 rfl) ?_
  refine lv_iconst (v := 1) hx hb dX4_readWord_20 (by decide) ?_
  refine lv_iadd hx hb dX4_readWord_21 ?_
  refine x_ev (y := 4) (by decide) ?_
  refine va_ti (v := .int 16) hx hb (tx_tab hB) hV.2.2 (by unfold vp_in; decide) rfl dX4_readWord_22 ?_
  refine lv_iload_n hx hb dX4_readWord_23 rfl (lv_at hl 0 rfl) ?_
  refine lv_isub hx hb dX4_readWord_24 ?_
  refine x_ev (y := 4) (by decide) ?_
  refine lv_istore (lv' := [(4, .int 4), (3, .int 12), (2, .int 3), (1, .int 0), (5, .int 0), (0, .ref h)]) hx hb dX4_readWord_25 hl (by decide) rfl (fun ls hl => ?_)
  refine lv_iconst (v := 0) hx hb dX4_readWord_27 (by decide) ?_
  refine lv_istore (lv' := [(5, .int 0), (4, .int 4), (3, .int 12), (2, .int 3), (1, .int 0), (0, .ref h)]) hx hb dX4_readWord_28 hl (by decide) rfl (fun ls hl => ?_)
  refine lv_iload hx hb dX4_readWord_30 (lv_at hl 0 rfl) ?_
  refine lv_iload hx hb dX4_readWord_32 (lv_at hl 1 rfl) ?_
  refine lv_icmp_ge (tgt := 66) hx hb dX4_readWord_34 (by decide) (fun c_ => absurd c_ (by decide)) (fun c_ => ?_)
  refine lv_aload_n hx hb dX4_readWord_37 rfl (lv_at hl 5 rfl) ?_
  refine lv_aload_n hx hb dX4_readWord_38 rfl (lv_at hl 5 rfl) ?_
  refine x_get (v := .int 0) hB hV 0 rfl rfl 3 (by decide) k_91 rfl dX4_readWord_39 ?_
  refine lv_iload hx hb dX4_readWord_42 (lv_at hl 0 rfl) ?_
  refine lv_iadd hx hb dX4_readWord_44 ?_
  refine x_ev (y := 0) (by decide) ?_
  refine x_callV (n := 1) (wr := []) (q0 := 0) (As := [.int 0]) (rest := []) hB hV (x_N hB) hl.1 (c_byteAt l D cI cZ cS N0 h byt ) rfl rfl k_366 k_58 k_363 k_365 k_3 (by decide +kernel) ⟨(Nat.le_of_ble_eq_true rfl), (Nat.le_of_ble_eq_true rfl)⟩ rfl (Nat.le_of_ble_eq_true rfl) ⟨(Nat.le_of_ble_eq_true rfl), (Nat.le_of_ble_eq_true rfl)⟩ [0] [] rfl rfl rfl ⟨by decide, by decide, by decide⟩ dX4_readWord_45 (fun v w H locs hp hV => ?_)
  obtain ⟨rfl, rfl⟩ := hp
  have hV : Vx D A s.heap H locs [(h, .inr (4, [.ref byt, .int 0, .int 0, .int 0]))] := hV
  refine W.eq (g2 := F0 m 48 ls [.int (-1)]) rfl ?_
  refine va_ldcS hx hb hB.2.2.2.1 (tx_r hB) dX4_readWord_48 ?_
  refine lv_iload_n hx hb dX4_readWord_50 rfl (lv_at hl 2 rfl) ?_
  refine lv_iload hx hb dX4_readWord_51 (lv_at hl 0 rfl) ?_
  refine lv_iadd hx hb dX4_readWord_53 ?_
  refine x_ev (y := 12) (by decide) ?_
  refine x_callT (n := 1) (wr := [(h, .inr (4, [.ref byt, .int 0, .int 0, .int 0]))]) (As := [.int 12]) (rest := [.int (-1)]) hB hV (x_N hB) hl.1 (c_charAt l D cI cZ cS N0 12 12 (by omega) rfl) k_371 k_66 k_368 k_369 k_370 (by decide +kernel) ⟨(Nat.le_of_ble_eq_true rfl), (Nat.le_of_ble_eq_true rfl)⟩ rfl (Nat.le_of_ble_eq_true rfl) ⟨(Nat.le_of_ble_eq_true rfl), (Nat.le_of_ble_eq_true rfl)⟩ [0] rfl rfl dX4_readWord_54 (fun v w H locs hp hV => ?_)
  obtain ⟨r_7, rfl, rfl, f_8⟩ := hp
  have hV : Vx D A s.heap H locs [(h, .inr (4, [.ref byt, .int 0, .int 0, .int 0]))] := hV
  refine W.eq (g2 := F0 m 57 ls [.int r_7, .int (-1)]) rfl ?_
  refine lv_icmp_ne (tgt := 66) hx hb dX4_readWord_57 (by decide) (fun c_ => ?_) (fun c_ => absurd c_ f_8)
  refine lv_iload hx hb dX4_readWord_66 (lv_at hl 0 rfl) ?_
  refine lv_iload hx hb dX4_readWord_68 (lv_at hl 1 rfl) ?_
  refine lv_icmp_ne (tgt := 86) hx hb dX4_readWord_70 (by decide) (fun c_ => ?_) (fun c_ => absurd c_ (by decide))
  refine lv_iload_n hx hb dX4_readWord_86 rfl (lv_at hl 4 rfl) ?_
  refine lv_iload hx hb dX4_readWord_87 (lv_at hl 0 rfl) ?_
  refine x_max (v := 0) hB k_408 k_241 k_63 k_242 hl.1 (Nat.le_of_ble_eq_true rfl) (Nat.le_of_ble_eq_true rfl) (Nat.le_of_ble_eq_true rfl) (Nat.le_of_ble_eq_true rfl) (by decide) dX4_readWord_89 ?_
  refine lv_istore_n (lv' := [(1, .int 0), (5, .int 0), (4, .int 4), (3, .int 12), (2, .int 3), (0, .ref h)]) hx hb dX4_readWord_92 rfl hl (by decide) rfl (fun ls hl => ?_)
  refine lv_iinc (v := 4) (lv' := [(2, .int 4), (1, .int 0), (5, .int 0), (4, .int 4), (3, .int 12), (0, .ref h)]) hx hb dX4_readWord_93 hl (k := 4) rfl (by decide) (by decide) rfl (fun ls hl => ?_)
  refine lv_goto (tgt := 4) hx hb dX4_readWord_96 (by decide) ?_
  refine lv_iload_n hx hb dX4_readWord_4 rfl (lv_at hl 0 rfl) ?_
  refine lv_bipush (v := 8) hx hb dX4_readWord_5 (by decide) ?_
  refine lv_icmp_ge (tgt := 99) hx hb dX4_readWord_7 (by decide) (fun c_ => absurd c_ (by decide)) (fun c_ => ?_)
  refine va_gets hx hb (tx_wb hB) hV.2.2 hB.2.2.2.1 (hB.2.2.2.2.1 _ k_361) (fun _ h => h) dX4_readWord_10 ?_
  refine lv_iload_n hx hb dX4_readWord_13 rfl (lv_at hl 0 rfl) ?_
  refine va_ti (v := .int 16) hx hb (tx_tab hB) hV.2.2 (by unfold vp_in; decide) rfl dX4_readWord_14 ?_
  refine lv_istore_n (lv' := [(3, .int 16), (2, .int 4), (1, .int 0), (5, .int 0), (4, .int 4), (0, .ref h)]) hx hb dX4_readWord_15 rfl hl (by decide) rfl (fun ls hl => ?_)
  refine va_gets hx hb (tx_wb hB) hV.2.2 hB.2.2.2.1 (hB.2.2.2.2.1 _ k_361) (fun _ h => h) dX4_readWord_16 ?_
  refine lv_iload_n hx hb dX4_readWord_19 rfl (lv_at hl 1 rfl) ?_
  refine lv_iconst (v := 1) hx hb dX4_readWord_20 (by decide) ?_
  refine lv_iadd hx hb dX4_readWord_21 ?_
  refine x_ev (y := 5) (by decide) ?_
  refine va_ti (v := .int 20) hx hb (tx_tab hB) hV.2.2 (by unfold vp_in; decide) rfl dX4_readWord_22 ?_
  refine lv_iload_n hx hb dX4_readWord_23 rfl (lv_at hl 0 rfl) ?_
  refine lv_isub hx hb dX4_readWord_24 ?_
  refine x_ev (y := 4) (by decide) ?_
  refine lv_istore (lv' := [(4, .int 4), (3, .int 16), (2, .int 4), (1, .int 0), (5, .int 0), (0, .ref h)]) hx hb dX4_readWord_25 hl (by decide) rfl (fun ls hl => ?_)
  refine lv_iconst (v := 0) hx hb dX4_readWord_27 (by decide) ?_
  refine lv_istore (lv' := [(5, .int 0), (4, .int 4), (3, .int 16), (2, .int 4), (1, .int 0), (0, .ref h)]) hx hb dX4_readWord_28 hl (by decide) rfl (fun ls hl => ?_)
  refine lv_iload hx hb dX4_readWord_30 (lv_at hl 0 rfl) ?_
  refine lv_iload hx hb dX4_readWord_32 (lv_at hl 1 rfl) ?_
  refine lv_icmp_ge (tgt := 66) hx hb dX4_readWord_34 (by decide) (fun c_ => absurd c_ (by decide)) (fun c_ => ?_)
  refine lv_aload_n hx hb dX4_readWord_37 rfl (lv_at hl 5 rfl) ?_
  refine lv_aload_n hx hb dX4_readWord_38 rfl (lv_at hl 5 rfl) ?_
  refine x_get (v := .int 0) hB hV 0 rfl rfl 3 (by decide) k_91 rfl dX4_readWord_39 ?_
  refine lv_iload hx hb dX4_readWord_42 (lv_at hl 0 rfl) ?_
  refine lv_iadd hx hb dX4_readWord_44 ?_
  refine x_ev (y := 0) (by decide) ?_
  refine x_callV (n := 1) (wr := []) (q0 := 0) (As := [.int 0]) (rest := []) hB hV (x_N hB) hl.1 (c_byteAt l D cI cZ cS N0 h byt ) rfl rfl k_366 k_58 k_363 k_365 k_3 (by decide +kernel) ⟨(Nat.le_of_ble_eq_true rfl), (Nat.le_of_ble_eq_true rfl)⟩ rfl (Nat.le_of_ble_eq_true rfl) ⟨(Nat.le_of_ble_eq_true rfl), (Nat.le_of_ble_eq_true rfl)⟩ [0] [] rfl rfl rfl ⟨by decide, by decide, by decide⟩ dX4_readWord_45 (fun v w H locs hp hV => ?_)
  obtain ⟨rfl, rfl⟩ := hp
  have hV : Vx D A s.heap H locs [(h, .inr (4, [.ref byt, .int 0, .int 0, .int 0]))] := hV
  refine W.eq (g2 := F0 m 48 ls [.int (-1)]) rfl ?_
  refine va_ldcS hx hb hB.2.2.2.1 (tx_r hB) dX4_readWord_48 ?_
  refine lv_iload_n hx hb dX4_readWord_50 rfl (lv_at hl 2 rfl) ?_
  refine lv_iload hx hb dX4_readWord_51 (lv_at hl 0 rfl) ?_
  refine lv_iadd hx hb dX4_readWord_53 ?_
  refine x_ev (y := 16) (by decide) ?_
  refine x_callT (n := 1) (wr := [(h, .inr (4, [.ref byt, .int 0, .int 0, .int 0]))]) (As := [.int 16]) (rest := [.int (-1)]) hB hV (x_N hB) hl.1 (c_charAt l D cI cZ cS N0 16 16 (by omega) rfl) k_371 k_66 k_368 k_369 k_370 (by decide +kernel) ⟨(Nat.le_of_ble_eq_true rfl), (Nat.le_of_ble_eq_true rfl)⟩ rfl (Nat.le_of_ble_eq_true rfl) ⟨(Nat.le_of_ble_eq_true rfl), (Nat.le_of_ble_eq_true rfl)⟩ [0] rfl rfl dX4_readWord_54 (fun v w H locs hp hV => ?_)
  obtain ⟨r_9, rfl, rfl, f_10⟩ := hp
  have hV : Vx D A s.heap H locs [(h, .inr (4, [.ref byt, .int 0, .int 0, .int 0]))] := hV
  refine W.eq (g2 := F0 m 57 ls [.int r_9, .int (-1)]) rfl ?_
  refine lv_icmp_ne (tgt := 66) hx hb dX4_readWord_57 (by decide) (fun c_ => ?_) (fun c_ => absurd c_ f_10)
  refine lv_iload hx hb dX4_readWord_66 (lv_at hl 0 rfl) ?_
  refine lv_iload hx hb dX4_readWord_68 (lv_at hl 1 rfl) ?_
  refine lv_icmp_ne (tgt := 86) hx hb dX4_readWord_70 (by decide) (fun c_ => ?_) (fun c_ => absurd c_ (by decide))
  refine lv_iload_n hx hb dX4_readWord_86 rfl (lv_at hl 4 rfl) ?_
  refine lv_iload hx hb dX4_readWord_87 (lv_at hl 0 rfl) ?_
  refine x_max (v := 0) hB k_408 k_241 k_63 k_242 hl.1 (Nat.le_of_ble_eq_true rfl) (Nat.le_of_ble_eq_true rfl) (Nat.le_of_ble_eq_true rfl) (Nat.le_of_ble_eq_true rfl) (by decide) dX4_readWord_89 ?_
  refine lv_istore_n (lv' := [(1, .int 0), (5, .int 0), (4, .int 4), (3, .int 16), (2, .int 4), (0, .ref h)]) hx hb dX4_readWord_92 rfl hl (by decide) rfl (fun ls hl => ?_)
  refine lv_iinc (v := 5) (lv' := [(2, .int 5), (1, .int 0), (5, .int 0), (4, .int 4), (3, .int 16), (0, .ref h)]) hx hb dX4_readWord_93 hl (k := 4) rfl (by decide) (by decide) rfl (fun ls hl => ?_)
  refine lv_goto (tgt := 4) hx hb dX4_readWord_96 (by decide) ?_
  refine lv_iload_n hx hb dX4_readWord_4 rfl (lv_at hl 0 rfl) ?_
  refine lv_bipush (v := 8) hx hb dX4_readWord_5 (by decide) ?_
  refine lv_icmp_ge (tgt := 99) hx hb dX4_readWord_7 (by decide) (fun c_ => absurd c_ (by decide)) (fun c_ => ?_)
  refine va_gets hx hb (tx_wb hB) hV.2.2 hB.2.2.2.1 (hB.2.2.2.2.1 _ k_361) (fun _ h => h) dX4_readWord_10 ?_
  refine lv_iload_n hx hb dX4_readWord_13 rfl (lv_at hl 0 rfl) ?_
  refine va_ti (v := .int 20) hx hb (tx_tab hB) hV.2.2 (by unfold vp_in; decide) rfl dX4_readWord_14 ?_
  refine lv_istore_n (lv' := [(3, .int 20), (2, .int 5), (1, .int 0), (5, .int 0), (4, .int 4), (0, .ref h)]) hx hb dX4_readWord_15 rfl hl (by decide) rfl (fun ls hl => ?_)
  refine va_gets hx hb (tx_wb hB) hV.2.2 hB.2.2.2.1 (hB.2.2.2.2.1 _ k_361) (fun _ h => h) dX4_readWord_16 ?_
  refine lv_iload_n hx hb dX4_readWord_19 rfl (lv_at hl 1 rfl) ?_
  refine lv_iconst (v := 1) hx hb dX4_readWord_20 (by decide) ?_
  refine lv_iadd hx hb dX4_readWord_21 ?_
  refine x_ev (y := 6) (by decide) ?_
  refine va_ti (v := .int 24) hx hb (tx_tab hB) hV.2.2 (by unfold vp_in; decide) rfl dX4_readWord_22 ?_
  refine lv_iload_n hx hb dX4_readWord_23 rfl (lv_at hl 0 rfl) ?_
  refine lv_isub hx hb dX4_readWord_24 ?_
  refine x_ev (y := 4) (by decide) ?_
  refine lv_istore (lv' := [(4, .int 4), (3, .int 20), (2, .int 5), (1, .int 0), (5, .int 0), (0, .ref h)]) hx hb dX4_readWord_25 hl (by decide) rfl (fun ls hl => ?_)
  refine lv_iconst (v := 0) hx hb dX4_readWord_27 (by decide) ?_
  refine lv_istore (lv' := [(5, .int 0), (4, .int 4), (3, .int 20), (2, .int 5), (1, .int 0), (0, .ref h)]) hx hb dX4_readWord_28 hl (by decide) rfl (fun ls hl => ?_)
  refine lv_iload hx hb dX4_readWord_30 (lv_at hl 0 rfl) ?_
  refine lv_iload hx hb dX4_readWord_32 (lv_at hl 1 rfl) ?_
  refine lv_icmp_ge (tgt := 66) hx hb dX4_readWord_34 (by decide) (fun c_ => absurd c_ (by decide)) (fun c_ => ?_)
  refine lv_aload_n hx hb dX4_readWord_37 rfl (lv_at hl 5 rfl) ?_
  refine lv_aload_n hx hb dX4_readWord_38 rfl (lv_at hl 5 rfl) ?_
  refine x_get (v := .int 0) hB hV 0 rfl rfl 3 (by decide) k_91 rfl dX4_readWord_39 ?_
  refine lv_iload hx hb dX4_readWord_42 (lv_at hl 0 rfl) ?_
  refine lv_iadd hx hb dX4_readWord_44 ?_
  refine x_ev (y := 0) (by decide) ?_
  refine x_callV (n := 1) (wr := []) (q0 := 0) (As := [.int 0]) (rest := []) hB hV (x_N hB) hl.1 (c_byteAt l D cI cZ cS N0 h byt ) rfl rfl k_366 k_58 k_363 k_365 k_3 (by decide +kernel) ⟨(Nat.le_of_ble_eq_true rfl), (Nat.le_of_ble_eq_true rfl)⟩ rfl (Nat.le_of_ble_eq_true rfl) ⟨(Nat.le_of_ble_eq_true rfl), (Nat.le_of_ble_eq_true rfl)⟩ [0] [] rfl rfl rfl ⟨by decide, by decide, by decide⟩ dX4_readWord_45 (fun v w H locs hp hV => ?_)
  obtain ⟨rfl, rfl⟩ := hp
  have hV : Vx D A s.heap H locs [(h, .inr (4, [.ref byt, .int 0, .int 0, .int 0]))] := hV
  refine W.eq (g2 := F0 m 48 ls [.int (-1)]) rfl ?_
  refine va_ldcS hx hb hB.2.2.2.1 (tx_r hB) dX4_readWord_48 ?_
  refine lv_iload_n hx hb dX4_readWord_50 rfl (lv_at hl 2 rfl) ?_
  refine lv_iload hx hb dX4_readWord_51 (lv_at hl 0 rfl) ?_
  refine lv_iadd hx hb dX4_readWord_53 ?_
  refine x_ev (y := 20) (by decide) ?_
  refine x_callT (n := 1) (wr := [(h, .inr (4, [.ref byt, .int 0, .int 0, .int 0]))]) (As := [.int 20]) (rest := [.int (-1)]) hB hV (x_N hB) hl.1 (c_charAt l D cI cZ cS N0 20 20 (by omega) rfl) k_371 k_66 k_368 k_369 k_370 (by decide +kernel) ⟨(Nat.le_of_ble_eq_true rfl), (Nat.le_of_ble_eq_true rfl)⟩ rfl (Nat.le_of_ble_eq_true rfl) ⟨(Nat.le_of_ble_eq_true rfl), (Nat.le_of_ble_eq_true rfl)⟩ [0] rfl rfl dX4_readWord_54 (fun v w H locs hp hV => ?_)
  obtain ⟨r_11, rfl, rfl, f_12⟩ := hp
  have hV : Vx D A s.heap H locs [(h, .inr (4, [.ref byt, .int 0, .int 0, .int 0]))] := hV
  refine W.eq (g2 := F0 m 57 ls [.int r_11, .int (-1)]) rfl ?_
  refine lv_icmp_ne (tgt := 66) hx hb dX4_readWord_57 (by decide) (fun c_ => ?_) (fun c_ => absurd c_ f_12)
  refine lv_iload hx hb dX4_readWord_66 (lv_at hl 0 rfl) ?_
  refine lv_iload hx hb dX4_readWord_68 (lv_at hl 1 rfl) ?_
  refine lv_icmp_ne (tgt := 86) hx hb dX4_readWord_70 (by decide) (fun c_ => ?_) (fun c_ => absurd c_ (by decide))
  refine lv_iload_n hx hb dX4_readWord_86 rfl (lv_at hl 4 rfl) ?_
  refine lv_iload hx hb dX4_readWord_87 (lv_at hl 0 rfl) ?_
  refine x_max (v := 0) hB k_408 k_241 k_63 k_242 hl.1 (Nat.le_of_ble_eq_true rfl) (Nat.le_of_ble_eq_true rfl) (Nat.le_of_ble_eq_true rfl) (Nat.le_of_ble_eq_true rfl) (by decide) dX4_readWord_89 ?_
  refine lv_istore_n (lv' := [(1, .int 0), (5, .int 0), (4, .int 4), (3, .int 20), (2, .int 5), (0, .ref h)]) hx hb dX4_readWord_92 rfl hl (by decide) rfl (fun ls hl => ?_)
  refine lv_iinc (v := 6) (lv' := [(2, .int 6), (1, .int 0), (5, .int 0), (4, .int 4), (3, .int 20), (0, .ref h)]) hx hb dX4_readWord_93 hl (k := 4) rfl (by decide) (by decide) rfl (fun ls hl => ?_)
  refine lv_goto (tgt := 4) hx hb dX4_readWord_96 (by decide) ?_
  refine lv_iload_n hx hb dX4_readWord_4 rfl (lv_at hl 0 rfl) ?_
  refine lv_bipush (v := 8) hx hb dX4_readWord_5 (by decide) ?_
  refine lv_icmp_ge (tgt := 99) hx hb dX4_readWord_7 (by decide) (fun c_ => absurd c_ (by decide)) (fun c_ => ?_)
  refine va_gets hx hb (tx_wb hB) hV.2.2 hB.2.2.2.1 (hB.2.2.2.2.1 _ k_361) (fun _ h => h) dX4_readWord_10 ?_
  refine lv_iload_n hx hb dX4_readWord_13 rfl (lv_at hl 0 rfl) ?_
  refine va_ti (v := .int 24) hx hb (tx_tab hB) hV.2.2 (by unfold vp_in; decide) rfl dX4_readWord_14 ?_
  refine lv_istore_n (lv' := [(3, .int 24), (2, .int 6), (1, .int 0), (5, .int 0), (4, .int 4), (0, .ref h)]) hx hb dX4_readWord_15 rfl hl (by decide) rfl (fun ls hl => ?_)
  refine va_gets hx hb (tx_wb hB) hV.2.2 hB.2.2.2.1 (hB.2.2.2.2.1 _ k_361) (fun _ h => h) dX4_readWord_16 ?_
  refine lv_iload_n hx hb dX4_readWord_19 rfl (lv_at hl 1 rfl) ?_
  refine lv_iconst (v := 1) hx hb dX4_readWord_20 (by decide) ?_
  refine lv_iadd hx hb dX4_readWord_21 ?_
  refine x_ev (y := 7) (by decide) ?_
  refine va_ti (v := .int 27) hx hb (tx_tab hB) hV.2.2 (by unfold vp_in; decide) rfl dX4_readWord_22 ?_
  refine lv_iload_n hx hb dX4_readWord_23 rfl (lv_at hl 0 rfl) ?_
  refine lv_isub hx hb dX4_readWord_24 ?_
  refine x_ev (y := 3) (by decide) ?_
  refine lv_istore (lv' := [(4, .int 3), (3, .int 24), (2, .int 6), (1, .int 0), (5, .int 0), (0, .ref h)]) hx hb dX4_readWord_25 hl (by decide) rfl (fun ls hl => ?_)
  refine lv_iconst (v := 0) hx hb dX4_readWord_27 (by decide) ?_
  refine lv_istore (lv' := [(5, .int 0), (4, .int 3), (3, .int 24), (2, .int 6), (1, .int 0), (0, .ref h)]) hx hb dX4_readWord_28 hl (by decide) rfl (fun ls hl => ?_)
  refine lv_iload hx hb dX4_readWord_30 (lv_at hl 0 rfl) ?_
  refine lv_iload hx hb dX4_readWord_32 (lv_at hl 1 rfl) ?_
  refine lv_icmp_ge (tgt := 66) hx hb dX4_readWord_34 (by decide) (fun c_ => absurd c_ (by decide)) (fun c_ => ?_)
  refine lv_aload_n hx hb dX4_readWord_37 rfl (lv_at hl 5 rfl) ?_
  refine lv_aload_n hx hb dX4_readWord_38 rfl (lv_at hl 5 rfl) ?_
  refine x_get (v := .int 0) hB hV 0 rfl rfl 3 (by decide) k_91 rfl dX4_readWord_39 ?_
  refine lv_iload hx hb dX4_readWord_42 (lv_at hl 0 rfl) ?_
  refine lv_iadd hx hb dX4_readWord_44 ?_
  refine x_ev (y := 0) (by decide) ?_
  refine x_callV (n := 1) (wr := []) (q0 := 0) (As := [.int 0]) (rest := []) hB hV (x_N hB) hl.1 (c_byteAt l D cI cZ cS N0 h byt ) rfl rfl k_366 k_58 k_363 k_365 k_3 (by decide +kernel) ⟨(Nat.le_of_ble_eq_true rfl), (Nat.le_of_ble_eq_true rfl)⟩ rfl (Nat.le_of_ble_eq_true rfl) ⟨(Nat.le_of_ble_eq_true rfl), (Nat.le_of_ble_eq_true rfl)⟩ [0] [] rfl rfl rfl ⟨by decide, by decide, by decide⟩ dX4_readWord_45 (fun v w H locs hp hV => ?_)
  obtain ⟨rfl, rfl⟩ := hp
  have hV : Vx D A s.heap H locs [(h, .inr (4, [.ref byt, .int 0, .int 0, .int 0]))] := hV
  refine W.eq (g2 := F0 m 48 ls [.int (-1)]) rfl ?_
  refine va_ldcS hx hb hB.2.2.2.1 (tx_r hB) dX4_readWord_48 ?_
  refine lv_iload_n hx hb dX4_readWord_50 rfl (lv_at hl 2 rfl) ?_
  refine lv_iload hx hb dX4_readWord_51 (lv_at hl 0 rfl) ?_
  refine lv_iadd hx hb dX4_readWord_53 ?_
  refine x_ev (y := 24) (by decide) ?_
  refine x_callT (n := 1) (wr := [(h, .inr (4, [.ref byt, .int 0, .int 0, .int 0]))]) (As := [.int 24]) (rest := [.int (-1)]) hB hV (x_N hB) hl.1 (c_charAt l D cI cZ cS N0 24 24 (by omega) rfl) k_371 k_66 k_368 k_369 k_370 (by decide +kernel) ⟨(Nat.le_of_ble_eq_true rfl), (Nat.le_of_ble_eq_true rfl)⟩ rfl (Nat.le_of_ble_eq_true rfl) ⟨(Nat.le_of_ble_eq_true rfl), (Nat.le_of_ble_eq_true rfl)⟩ [0] rfl rfl dX4_readWord_54 (fun v w H locs hp hV => ?_)
  obtain ⟨r_13, rfl, rfl, f_14⟩ := hp
  have hV : Vx D A s.heap H locs [(h, .inr (4, [.ref byt, .int 0, .int 0, .int 0]))] := hV
  refine W.eq (g2 := F0 m 57 ls [.int r_13, .int (-1)]) rfl ?_
  refine lv_icmp_ne (tgt := 66) hx hb dX4_readWord_57 (by decide) (fun c_ => ?_) (fun c_ => absurd c_ f_14)
  refine lv_iload hx hb dX4_readWord_66 (lv_at hl 0 rfl) ?_
  refine lv_iload hx hb dX4_readWord_68 (lv_at hl 1 rfl) ?_
  refine lv_icmp_ne (tgt := 86) hx hb dX4_readWord_70 (by decide) (fun c_ => ?_) (fun c_ => absurd c_ (by decide))
  refine lv_iload_n hx hb dX4_readWord_86 rfl (lv_at hl 4 rfl) ?_
  refine lv_iload hx hb dX4_readWord_87 (lv_at hl 0 rfl) ?_
  refine x_max (v := 0) hB k_408 k_241 k_63 k_242 hl.1 (Nat.le_of_ble_eq_true rfl) (Nat.le_of_ble_eq_true rfl) (Nat.le_of_ble_eq_true rfl) (Nat.le_of_ble_eq_true rfl) (by decide) dX4_readWord_89 ?_
  refine lv_istore_n (lv' := [(1, .int 0), (5, .int 0), (4, .int 3), (3, .int 24), (2, .int 6), (0, .ref h)]) hx hb dX4_readWord_92 rfl hl (by decide) rfl (fun ls hl => ?_)
  refine lv_iinc (v := 7) (lv' := [(2, .int 7), (1, .int 0), (5, .int 0), (4, .int 3), (3, .int 24), (0, .ref h)]) hx hb dX4_readWord_93 hl (k := 4) rfl (by decide) (by decide) rfl (fun ls hl => ?_)
  refine lv_goto (tgt := 4) hx hb dX4_readWord_96 (by decide) ?_
  refine lv_iload_n hx hb dX4_readWord_4 rfl (lv_at hl 0 rfl) ?_
  refine lv_bipush (v := 8) hx hb dX4_readWord_5 (by decide) ?_
  refine lv_icmp_ge (tgt := 99) hx hb dX4_readWord_7 (by decide) (fun c_ => absurd c_ (by decide)) (fun c_ => ?_)
  refine va_gets hx hb (tx_wb hB) hV.2.2 hB.2.2.2.1 (hB.2.2.2.2.1 _ k_361) (fun _ h => h) dX4_readWord_10 ?_
  refine lv_iload_n hx hb dX4_readWord_13 rfl (lv_at hl 0 rfl) ?_
  refine va_ti (v := .int 27) hx hb (tx_tab hB) hV.2.2 (by unfold vp_in; decide) rfl dX4_readWord_14 ?_
  refine lv_istore_n (lv' := [(3, .int 27), (2, .int 7), (1, .int 0), (5, .int 0), (4, .int 3), (0, .ref h)]) hx hb dX4_readWord_15 rfl hl (by decide) rfl (fun ls hl => ?_)
  refine va_gets hx hb (tx_wb hB) hV.2.2 hB.2.2.2.1 (hB.2.2.2.2.1 _ k_361) (fun _ h => h) dX4_readWord_16 ?_
  refine lv_iload_n hx hb dX4_readWord_19 rfl (lv_at hl 1 rfl) ?_
  refine lv_iconst (v := 1) hx hb dX4_readWord_20 (by decide) ?_
  refine lv_iadd hx hb dX4_readWord_21 ?_
  refine x_ev (y := 8) (by decide) ?_
  refine va_ti (v := .int 30) hx hb (tx_tab hB) hV.2.2 (by unfold vp_in; decide) rfl dX4_readWord_22 ?_
  refine lv_iload_n hx hb dX4_readWord_23 rfl (lv_at hl 0 rfl) ?_
  refine lv_isub hx hb dX4_readWord_24 ?_
  refine x_ev (y := 3) (by decide) ?_
  refine lv_istore (lv' := [(4, .int 3), (3, .int 27), (2, .int 7), (1, .int 0), (5, .int 0), (0, .ref h)]) hx hb dX4_readWord_25 hl (by decide) rfl (fun ls hl => ?_)
  refine lv_iconst (v := 0) hx hb dX4_readWord_27 (by decide) ?_
  refine lv_istore (lv' := [(5, .int 0), (4, .int 3), (3, .int 27), (2, .int 7), (1, .int 0), (0, .ref h)]) hx hb dX4_readWord_28 hl (by decide) rfl (fun ls hl => ?_)
  refine lv_iload hx hb dX4_readWord_30 (lv_at hl 0 rfl) ?_
  refine lv_iload hx hb dX4_readWord_32 (lv_at hl 1 rfl) ?_
  refine lv_icmp_ge (tgt := 66) hx hb dX4_readWord_34 (by decide) (fun c_ => absurd c_ (by decide)) (fun c_ => ?_)
  refine lv_aload_n hx hb dX4_readWord_37 rfl (lv_at hl 5 rfl) ?_
  refine lv_aload_n hx hb dX4_readWord_38 rfl (lv_at hl 5 rfl) ?_
  refine x_get (v := .int 0) hB hV 0 rfl rfl 3 (by decide) k_91 rfl dX4_readWord_39 ?_
  refine lv_iload hx hb dX4_readWord_42 (lv_at hl 0 rfl) ?_
  refine lv_iadd hx hb dX4_readWord_44 ?_
  refine x_ev (y := 0) (by decide) ?_
  refine x_callV (n := 1) (wr := []) (q0 := 0) (As := [.int 0]) (rest := []) hB hV (x_N hB) hl.1 (c_byteAt l D cI cZ cS N0 h byt ) rfl rfl k_366 k_58 k_363 k_365 k_3 (by decide +kernel) ⟨(Nat.le_of_ble_eq_true rfl), (Nat.le_of_ble_eq_true rfl)⟩ rfl (Nat.le_of_ble_eq_true rfl) ⟨(Nat.le_of_ble_eq_true rfl), (Nat.le_of_ble_eq_true rfl)⟩ [0] [] rfl rfl rfl ⟨by decide, by decide, by decide⟩ dX4_readWord_45 (fun v w H locs hp hV => ?_)
  obtain ⟨rfl, rfl⟩ := hp
  have hV : Vx D A s.heap H locs [(h, .inr (4, [.ref byt, .int 0, .int 0, .int 0]))] := hV
  refine W.eq (g2 := F0 m 48 ls [.int (-1)]) rfl ?_
  refine va_ldcS hx hb hB.2.2.2.1 (tx_r hB) dX4_readWord_48 ?_
  refine lv_iload_n hx hb dX4_readWord_50 rfl (lv_at hl 2 rfl) ?_
  refine lv_iload hx hb dX4_readWord_51 (lv_at hl 0 rfl) ?_
  refine lv_iadd hx hb dX4_readWord_53 ?_
  refine x_ev (y := 27) (by decide) ?_
  refine x_callT (n := 1) (wr := [(h, .inr (4, [.ref byt, .int 0, .int 0, .int 0]))]) (As := [.int 27]) (rest := [.int (-1)]) hB hV (x_N hB) hl.1 (c_charAt l D cI cZ cS N0 27 27 (by omega) rfl) k_371 k_66 k_368 k_369 k_370 (by decide +kernel) ⟨(Nat.le_of_ble_eq_true rfl), (Nat.le_of_ble_eq_true rfl)⟩ rfl (Nat.le_of_ble_eq_true rfl) ⟨(Nat.le_of_ble_eq_true rfl), (Nat.le_of_ble_eq_true rfl)⟩ [0] rfl rfl dX4_readWord_54 (fun v w H locs hp hV => ?_)
  obtain ⟨r_15, rfl, rfl, f_16⟩ := hp
  have hV : Vx D A s.heap H locs [(h, .inr (4, [.ref byt, .int 0, .int 0, .int 0]))] := hV
  refine W.eq (g2 := F0 m 57 ls [.int r_15, .int (-1)]) rfl ?_
  refine lv_icmp_ne (tgt := 66) hx hb dX4_readWord_57 (by decide) (fun c_ => ?_) (fun c_ => absurd c_ f_16)
  refine lv_iload hx hb dX4_readWord_66 (lv_at hl 0 rfl) ?_
  refine lv_iload hx hb dX4_readWord_68 (lv_at hl 1 rfl) ?_
  refine lv_icmp_ne (tgt := 86) hx hb dX4_readWord_70 (by decide) (fun c_ => ?_) (fun c_ => absurd c_ (by decide))
  refine lv_iload_n hx hb dX4_readWord_86 rfl (lv_at hl 4 rfl) ?_
  refine lv_iload hx hb dX4_readWord_87 (lv_at hl 0 rfl) ?_
  refine x_max (v := 0) hB k_408 k_241 k_63 k_242 hl.1 (Nat.le_of_ble_eq_true rfl) (Nat.le_of_ble_eq_true rfl) (Nat.le_of_ble_eq_true rfl) (Nat.le_of_ble_eq_true rfl) (by decide) dX4_readWord_89 ?_
  refine lv_istore_n (lv' := [(1, .int 0), (5, .int 0), (4, .int 3), (3, .int 27), (2, .int 7), (0, .ref h)]) hx hb dX4_readWord_92 rfl hl (by decide) rfl (fun ls hl => ?_)
  refine lv_iinc (v := 8) (lv' := [(2, .int 8), (1, .int 0), (5, .int 0), (4, .int 3), (3, .int 27), (0, .ref h)]) hx hb dX4_readWord_93 hl (k := 4) rfl (by decide) (by decide) rfl (fun ls hl => ?_)
  refine lv_goto (tgt := 4) hx hb dX4_readWord_96 (by decide) ?_
  refine lv_iload_n hx hb dX4_readWord_4 rfl (lv_at hl 0 rfl) ?_
  refine lv_bipush (v := 8) hx hb dX4_readWord_5 (by decide) ?_
  refine lv_icmp_ge (tgt := 99) hx hb dX4_readWord_7 (by decide) (fun c_ => ?_) (fun c_ => absurd (by decide) c_)
  refine lv_aload_n hx hb dX4_readWord_99 rfl (lv_at hl 5 rfl) ?_
  refine lv_dup hx hb dX4_readWord_100 rfl ?_
  refine x_get (v := .int 0) hB hV 0 rfl rfl 3 (by decide) k_91 rfl dX4_readWord_101 ?_
  refine lv_iload_n hx hb dX4_readWord_104 rfl (lv_at hl 1 rfl) ?_
  refine lv_iadd hx hb dX4_readWord_105 ?_
  refine x_ev (y := 0) (by decide) ?_
  refine x_put (v := .int 0) hB hV 0 rfl rfl 3 (by decide) k_91 rfl rfl rfl (Nat.le_of_ble_eq_true rfl) dX4_readWord_106 (fun H locs hV => ?_)
  have hV : Vx D A s.heap H locs [(h, .inr (4, [.ref byt, .int 0, .int 0, .int 0]))] := hV
  refine lv_iconst (v := (-1)) hx hb dX4_readWord_109 (by decide) ?_
  exact x_iret (w := [(h, .inr (4, [.ref byt, .int 0, .int 0, .int 0]))]) hB hr hV hA (Nat.le_of_ble_eq_true rfl) (Nat.le_of_ble_eq_true rfl) [0] rfl rfl (by decide) dX4_readWord_110 ⟨rfl, rfl⟩
set_option maxHeartbeats 4000000 in
set_option maxRecDepth 100000 in
theorem c_readAct (l : Launch) (D : va_G) (cI cZ cS : ClassId) (N0 : NT) (h : Nat) (byt : Nat) (pg : Nat)  : Mx l D cI cZ cS N0 yX4_readAct cX4_readAct 5 (some .boolean) 5 0 0 [.ref h, .ref pg] [(h, .inr (4, [.ref byt, .int 0, .int 0, .int 0]))] (fun v w => v = some (.int 0) ∧ w = ([(h, .inr (4, [.ref byt, .int 0, .int 0, .int 0]))] : va_W)) := by
  refine x_enter (by decide) (Nat.le_of_ble_eq_true rfl) ?_
  intro p e s m args below meth c A ls H locs hB hr hin hl hV hA
  have hx := hB.1
  have hb := hB.2.1
  have hl : lv_has ls 5 [(0, .ref h), (1, .ref pg)] := hl
  refine lv_aload_n hx hb dX4_readAct_0 rfl (lv_at hl 0 rfl) ?_
  refine x_callV (n := 0) (wr := []) (q0 := 0) (As := []) (rest := []) hB hV (x_N hB) hl.1 (c_readWord l D cI cZ cS N0 h byt ) rfl rfl k_360 k_58 k_357 k_359 k_2 (by decide +kernel) ⟨(Nat.le_of_ble_eq_true rfl), (Nat.le_of_ble_eq_true rfl)⟩ rfl (Nat.le_of_ble_eq_true rfl) ⟨(Nat.le_of_ble_eq_true rfl), (Nat.le_of_ble_eq_true rfl)⟩ [0] [] rfl rfl rfl ⟨by decide, by decide, by decide⟩ dX4_readAct_1 (fun v w H locs hp hV => ?_)
  obtain ⟨rfl, rfl⟩ := hp
  have hV : Vx D A s.heap H locs [(h, .inr (4, [.ref byt, .int 0, .int 0, .int 0]))] := hV
  refine W.eq (g2 := F0 m 4 ls [.int (-1)]) rfl ?_
  refine lv_istore_n (lv' := [(2, .int (-1)), (0, .ref h), (1, .ref pg)]) hx hb dX4_readAct_4 rfl hl (by decide) rfl (fun ls hl => ?_)
  refine lv_iload_n hx hb dX4_readAct_5 rfl (lv_at hl 0 rfl) ?_
  refine lv_iconst (v := (-1)) hx hb dX4_readAct_6 (by decide) ?_
  refine lv_icmp_ne (tgt := 12) hx hb dX4_readAct_7 (by decide) (fun c_ => absurd (by decide) c_) (fun c_ => ?_)
  refine lv_iconst (v := 0) hx hb dX4_readAct_10 (by decide) ?_
  exact x_zret (w := [(h, .inr (4, [.ref byt, .int 0, .int 0, .int 0]))]) hB hr rfl hV hA (Nat.le_of_ble_eq_true rfl) (Nat.le_of_ble_eq_true rfl) [0] rfl rfl (by decide) dX4_readAct_11 ⟨rfl, rfl⟩
set_option maxHeartbeats 4000000 in
set_option maxRecDepth 100000 in
theorem c_readActs (l : Launch) (D : va_G) (cI cZ cS : ClassId) (N0 : NT) (h : Nat) (byt : Nat) (pg : Nat)  : Mx l D cI cZ cS N0 yX4_readActs cX4_readActs 3 (some .boolean) 6 0 0 [.ref h, .ref pg] [(h, .inr (4, [.ref byt, .int 0, .int 0, .int 0]))] (fun v w => v = some (.int 0) ∧ w = ([(h, .inr (4, [.ref byt, .int 0, .int 0, .int 0]))] : va_W)) := by
  refine x_enter (by decide) (Nat.le_of_ble_eq_true rfl) ?_
  intro p e s m args below meth c A ls H locs hB hr hin hl hV hA
  have hx := hB.1
  have hb := hB.2.1
  have hl : lv_has ls 3 [(0, .ref h), (1, .ref pg)] := hl
  refine lv_iconst (v := 0) hx hb dX4_readActs_0 (by decide) ?_
  refine lv_istore_n (lv' := [(2, .int 0), (0, .ref h), (1, .ref pg)]) hx hb dX4_readActs_1 rfl hl (by decide) rfl (fun ls hl => ?_)
  refine lv_iload_n hx hb dX4_readActs_2 rfl (lv_at hl 0 rfl) ?_
  refine lv_bipush (v := 8) hx hb dX4_readActs_3 (by decide) ?_
  refine lv_icmp_ge (tgt := 42) hx hb dX4_readActs_5 (by decide) (fun c_ => absurd c_ (by decide)) (fun c_ => ?_)
  refine lv_aload_n hx hb dX4_readActs_8 rfl (lv_at hl 1 rfl) ?_
  refine lv_aload_n hx hb dX4_readActs_9 rfl (lv_at hl 2 rfl) ?_
  refine x_callV (n := 1) (wr := []) (q0 := 0) (As := [.ref pg]) (rest := []) hB hV (x_N hB) hl.1 (c_readAct l D cI cZ cS N0 h byt pg ) rfl rfl k_356 k_58 k_353 k_355 k_1 (by decide +kernel) ⟨(Nat.le_of_ble_eq_true rfl), (Nat.le_of_ble_eq_true rfl)⟩ rfl (Nat.le_of_ble_eq_true rfl) ⟨(Nat.le_of_ble_eq_true rfl), (Nat.le_of_ble_eq_true rfl)⟩ [0] [] rfl rfl rfl ⟨by decide, by decide, by decide⟩ dX4_readActs_10 (fun v w H locs hp hV => ?_)
  obtain ⟨rfl, rfl⟩ := hp
  have hV : Vx D A s.heap H locs [(h, .inr (4, [.ref byt, .int 0, .int 0, .int 0]))] := hV
  refine W.eq (g2 := F0 m 13 ls [.int 0]) rfl ?_
  refine lv_if_ne (tgt := 18) hx hb dX4_readActs_13 (by decide) (fun c_ => absurd (by decide) c_) (fun c_ => ?_)
  refine lv_iconst (v := 0) hx hb dX4_readActs_16 (by decide) ?_
  exact x_zret (w := [(h, .inr (4, [.ref byt, .int 0, .int 0, .int 0]))]) hB hr rfl hV hA (Nat.le_of_ble_eq_true rfl) (Nat.le_of_ble_eq_true rfl) [0] rfl rfl (by decide) dX4_readActs_17 ⟨rfl, rfl⟩
set_option maxHeartbeats 4000000 in
set_option maxRecDepth 100000 in
theorem c_takeProgram (l : Launch) (D : va_G) (cI cZ cS : ClassId) (N0 : NT) (h : Nat) (byt : Nat)  : Mx l D cI cZ cS N0 yX4_takeProgram cX4_takeProgram 3 (some (.object "TwiceOnce$Program")) 7 4 28 [.ref h] [(h, .inr (4, [.ref byt, .int 0, .int 0, .int 0]))] (fun v w => v = some (.null) ∧ w = ([(h, .inr (4, [.ref byt, .int 0, .int 0, .int 0]))] : va_W)) := by
  refine x_enter (by decide) (Nat.le_of_ble_eq_true rfl) ?_
  intro p e s m args below meth c A ls H locs hB hr hin hl hV hA
  have hx := hB.1
  have hb := hB.2.1
  have hl : lv_has ls 3 [(0, .ref h)] := hl
  refine x_new (ci := 2) (fs := [.null, .null, .null, .int 0]) hB hV rfl k_347 k_116 k_61 (fnew_2) (Nat.le_of_ble_eq_true rfl) (Nat.le_of_ble_eq_true rfl) dX4_takeProgram_0 (fun q_1 H hV => ?_)
  have hV : Vx D A s.heap H locs [(h, .inr (4, [.ref byt, .int 0, .int 0, .int 0])), (q_1, .inr (2, [.null, .null, .null, .int 0]))] := hV
  refine W.widen (k := 1) (n := 4) (Nat.le_of_ble_eq_true rfl) (Nat.le_of_ble_eq_true rfl) ?_
  refine lv_dup hx hb dX4_takeProgram_3 rfl ?_
  refine x_callIN (n := 0) (host := RX6) (wr := [(h, .inr (4, [.ref byt, .int 0, .int 0, .int 0]))]) (As := []) (rest := [.ref q_1]) hB hV (x_N hB) hl.1 (c_Program_init l D cI cZ cS N0 q_1 ) k_119 k_61 hB.2.2.2.2.2.2.2.2.1.2.2.2.2.1 k_118 rfl (by decide +kernel) ⟨(Nat.le_of_ble_eq_true rfl), (Nat.le_of_ble_eq_true rfl)⟩ rfl (Nat.le_of_ble_eq_true rfl) ⟨(Nat.le_of_ble_eq_true rfl), (Nat.le_of_ble_eq_true rfl)⟩ [1] [0] rfl rfl rfl ⟨by decide, by decide, by decide⟩ dX4_takeProgram_4 (fun v w H locs hp hV => ?_)
  obtain ⟨a1_2, a2_3, a3_4, rfl, rfl⟩ := hp
  have hV : Vx D A s.heap H locs [(h, .inr (4, [.ref byt, .int 0, .int 0, .int 0])), (q_1, .inr (2, [.ref a1_2, .ref a2_3, .ref a3_4, .int 0]))] := hV
  refine W.eq (g2 := F0 m 7 ls [.ref q_1]) rfl ?_
  refine lv_astore_n (lv' := [(1, .ref q_1), (0, .ref h)]) hx hb dX4_takeProgram_7 rfl hl (by decide) rfl (fun ls hl => ?_)
  refine lv_aload_n hx hb dX4_takeProgram_8 rfl (lv_at hl 1 rfl) ?_
  refine lv_iconst (v := 0) hx hb dX4_takeProgram_9 (by decide) ?_
  refine x_put (v := .int 0) hB hV 0 rfl rfl 3 (by decide) k_91 rfl rfl rfl (Nat.le_of_ble_eq_true rfl) dX4_takeProgram_10 (fun H locs hV => ?_)
  have hV : Vx D A s.heap H locs [(h, .inr (4, [.ref byt, .int 0, .int 0, .int 0])), (q_1, .inr (2, [.ref a1_2, .ref a2_3, .ref a3_4, .int 0]))] := hV
  refine lv_aload_n hx hb dX4_takeProgram_13 rfl (lv_at hl 1 rfl) ?_
  refine lv_aload_n hx hb dX4_takeProgram_14 rfl (lv_at hl 0 rfl) ?_
  refine x_callV (n := 1) (wr := [(q_1, .inr (2, [.ref a1_2, .ref a2_3, .ref a3_4, .int 0]))]) (q0 := 0) (As := [.ref q_1]) (rest := []) hB hV (x_N hB) hl.1 (c_readActs l D cI cZ cS N0 h byt q_1 ) rfl rfl k_352 k_58 k_349 k_351 k_0 (by decide +kernel) ⟨(Nat.le_of_ble_eq_true rfl), (Nat.le_of_ble_eq_true rfl)⟩ rfl (Nat.le_of_ble_eq_true rfl) ⟨(Nat.le_of_ble_eq_true rfl), (Nat.le_of_ble_eq_true rfl)⟩ [0] [1] rfl rfl rfl ⟨by decide, by decide, by decide⟩ dX4_takeProgram_15 (fun v w H locs hp hV => ?_)
  obtain ⟨rfl, rfl⟩ := hp
  have hV : Vx D A s.heap H locs [(q_1, .inr (2, [.ref a1_2, .ref a2_3, .ref a3_4, .int 0])), (h, .inr (4, [.ref byt, .int 0, .int 0, .int 0]))] := hV
  refine W.eq (g2 := F0 m 18 ls [.int 0]) rfl ?_
  refine lv_if_eq (tgt := 36) hx hb dX4_takeProgram_18 (by decide) (fun c_ => ?_) (fun c_ => absurd (by decide) c_)
  refine lv_iconst (v := 0) hx hb dX4_takeProgram_36 (by decide) ?_
  refine lv_istore_n (lv' := [(2, .int 0), (1, .ref q_1), (0, .ref h)]) hx hb dX4_takeProgram_37 rfl hl (by decide) rfl (fun ls hl => ?_)
  refine lv_aload_n hx hb dX4_takeProgram_38 rfl (lv_at hl 2 rfl) ?_
  refine lv_aload_n hx hb dX4_takeProgram_39 rfl (lv_at hl 2 rfl) ?_
  refine x_get (v := .int 0) hB hV 1 rfl rfl 3 (by decide) k_91 rfl dX4_takeProgram_40 ?_
  refine x_put (v := .int 0) hB hV 1 rfl rfl 2 (by decide) k_89 rfl rfl rfl (Nat.le_of_ble_eq_true rfl) dX4_takeProgram_43 (fun H locs hV => ?_)
  have hV : Vx D A s.heap H locs [(q_1, .inr (2, [.ref a1_2, .ref a2_3, .ref a3_4, .int 0])), (h, .inr (4, [.ref byt, .int 0, .int 0, .int 0]))] := hV
  refine lv_aload_n hx hb dX4_takeProgram_46 rfl (lv_at hl 2 rfl) ?_
  refine lv_iconst (v := 0) hx hb dX4_takeProgram_47 (by decide) ?_
  refine x_put (v := .int 0) hB hV 1 rfl rfl 1 (by decide) k_87 rfl rfl rfl (Nat.le_of_ble_eq_true rfl) dX4_takeProgram_48 (fun H locs hV => ?_)
  have hV : Vx D A s.heap H locs [(q_1, .inr (2, [.ref a1_2, .ref a2_3, .ref a3_4, .int 0])), (h, .inr (4, [.ref byt, .int 0, .int 0, .int 0]))] := hV
  refine lv_iload_n hx hb dX4_takeProgram_51 rfl (lv_at hl 0 rfl) ?_
  refine lv_if_eq (tgt := 59) hx hb dX4_takeProgram_52 (by decide) (fun c_ => ?_) (fun c_ => absurd (by decide) c_)
  refine lv_null hx hb dX4_takeProgram_59 ?_
  exact x_aret (w := [(h, .inr (4, [.ref byt, .int 0, .int 0, .int 0]))]) hB hr (Or.inl ⟨_, rfl⟩) (Or.inl rfl) hV hA (Nat.le_of_ble_eq_true rfl) (Nat.le_of_ble_eq_true rfl) [1] rfl rfl (by decide) dX4_takeProgram_60 ⟨rfl, rfl⟩
set_option maxHeartbeats 4000000 in
set_option maxRecDepth 100000 in
theorem p_service (l : Launch) (D : va_G) (cI cZ cS : ClassId) (N0 : NT) (h : Nat) (tp : Nat) (nw : Nat) (rw : Nat) (lg : Nat) (jd : Nat) (pr : Nat) (n1 : Nat) (n2 : Nat) (byt : Nat)  : Mx l D cI cZ cS N0 yX6_service cX6_service 2 (some .int) 8 4 28 [.ref h] [(h, .inr (6, [.ref tp, .ref nw, .ref rw, .ref lg, .ref jd, .ref pr, .int 0])), (nw, .inr (5, [.ref n1, .int 0, .int 0, .ref n2, .int 0, .int 0, .int 0, .int 0])), (tp, .inr (4, [.ref byt, .int 0, .int 0, .int 0]))] (fun v w => v = some (.int (-10)) ∧ w = ([] : va_W)) := by
  refine x_enter (by decide) (Nat.le_of_ble_eq_true rfl) ?_
  intro p e s m args below meth c A ls H locs hB hr hin hl hV hA
  have hx := hB.1
  have hb := hB.2.1
  have hl : lv_has ls 2 [(0, .ref h)] := hl
  refine lv_aload_n hx hb dX6_service_0 rfl (lv_at hl 0 rfl) ?_
  refine x_get (v := .ref nw) hB hV 0 rfl rfl 1 (by decide) k_309 rfl dX6_service_1 ?_
  refine x_get (v := .int 0) hB hV 1 rfl rfl 1 (by decide) k_203 rfl dX6_service_4 ?_
  refine lv_bipush (v := 6) hx hb dX6_service_7 (by decide) ?_
  refine lv_icmp_lt (tgt := 15) hx hb dX6_service_9 (by decide) (fun c_ => ?_) (fun c_ => absurd (by decide) c_)
  refine lv_aload_n hx hb dX6_service_15 rfl (lv_at hl 0 rfl) ?_
  refine x_get (v := .ref tp) hB hV 0 rfl rfl 0 (by decide) k_308 rfl dX6_service_16 ?_
  refine x_callV (n := 0) (wr := [(h, .inr (6, [.ref tp, .ref nw, .ref rw, .ref lg, .ref jd, .ref pr, .int 0])), (nw, .inr (5, [.ref n1, .int 0, .int 0, .ref n2, .int 0, .int 0, .int 0, .int 0]))]) (q0 := 2) (As := []) (rest := []) hB hV (x_N hB) hl.1 (c_takeProgram l D cI cZ cS N0 tp byt ) rfl rfl k_346 k_58 k_343 k_344 k_345 (by decide +kernel) ⟨(Nat.le_of_ble_eq_true rfl), (Nat.le_of_ble_eq_true rfl)⟩ rfl (Nat.le_of_ble_eq_true rfl) ⟨(Nat.le_of_ble_eq_true rfl), (Nat.le_of_ble_eq_true rfl)⟩ [2] [0, 1] rfl rfl rfl ⟨by decide, by decide, by decide⟩ dX6_service_19 (fun v w H locs hp hV => ?_)
  obtain ⟨rfl, rfl⟩ := hp
  have hV : Vx D A s.heap H locs [(h, .inr (6, [.ref tp, .ref nw, .ref rw, .ref lg, .ref jd, .ref pr, .int 0])), (nw, .inr (5, [.ref n1, .int 0, .int 0, .ref n2, .int 0, .int 0, .int 0, .int 0])), (tp, .inr (4, [.ref byt, .int 0, .int 0, .int 0]))] := hV
  refine W.eq (g2 := F0 m 22 ls [.null]) rfl ?_
  refine lv_astore_nN (lv' := [(1, .null), (0, .ref h)]) hx hb dX6_service_22 rfl hl (by decide) rfl (fun ls hl => ?_)
  refine lv_aload_nN hx hb dX6_service_23 rfl (lv_at hl 0 rfl) ?_
  refine lv_ifnonnullN hx hb dX6_service_24 ?_
  refine lv_bipush (v := (-10)) hx hb dX6_service_27 (by decide) ?_
  refine lv_aload_n hx hb dX6_service_29 rfl (lv_at hl 1 rfl) ?_
  refine x_get (v := .ref tp) hB hV 0 rfl rfl 0 (by decide) k_308 rfl dX6_service_30 ?_
  refine x_get (v := .int 0) hB hV 2 rfl rfl 2 (by decide) k_90 rfl dX6_service_33 ?_
  refine lv_isub hx hb dX6_service_36 ?_
  refine x_ev (y := (-10)) (by decide) ?_
  exact x_iret (w := []) hB hr hV hA (Nat.le_of_ble_eq_true rfl) (Nat.le_of_ble_eq_true rfl) [] rfl rfl (by decide) dX6_service_37 ⟨rfl, rfl⟩
