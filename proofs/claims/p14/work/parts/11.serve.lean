theorem k_8 : Cond.selects RX5 yX5_isSilent yX5_isSilent ∈ tb := mt 8 (by decide +kernel) rfl
theorem k_9 : Cond.selects RX5 yX5_askedBy yX5_askedBy ∈ tb := mt 9 (by decide +kernel) rfl
theorem k_10 : Cond.selects RX5 yX5_canAsk yX5_canAsk ∈ tb := mt 10 (by decide +kernel) rfl
theorem k_12 : Cond.selects RX5 yX5_serve yX5_serve ∈ tb := mt 12 (by decide +kernel) rfl
theorem k_13 : Cond.selects RX5 yX5_runActs yX5_runActs ∈ tb := mt 13 (by decide +kernel) rfl
theorem k_59 : Cond.initialized RX5 ∈ tb := mt 59 (by decide +kernel) rfl
theorem k_61 : Cond.initialized RX2 ∈ tb := mt 61 (by decide +kernel) rfl
theorem k_122 : Cond.fieldLink RX5 71 "TwiceOnce$Program" "words" "[I" ∈ tb := mt 122 (by decide +kernel) rfl
theorem k_126 : Cond.fieldLink RX5 74 "TwiceOnce$Program" "targets" "[I" ∈ tb := mt 126 (by decide +kernel) rfl
theorem k_133 : Cond.fieldLink RX5 68 "TwiceOnce$Program" "size" "I" ∈ tb := mt 133 (by decide +kernel) rfl
theorem k_145 : Cond.fieldLink RX5 64 "TwiceOnce$Service" "program" "LTwiceOnce$Program;" ∈ tb := mt 145 (by decide +kernel) rfl
theorem k_213 : Cond.fieldLink RX5 31 "TwiceOnce$World" "came" "I" ∈ tb := mt 213 (by decide +kernel) rfl
theorem k_215 : Cond.fieldLink RX5 34 "TwiceOnce$World" "breakAt" "I" ∈ tb := mt 215 (by decide +kernel) rfl
theorem k_216 : Cond.fieldLink RX5 37 "TwiceOnce$World" "broken" "Z" ∈ tb := mt 216 (by decide +kernel) rfl
theorem k_245 : Cond.fieldLink RX5 58 "TwiceOnce$CallList" "services" "[I" ∈ tb := mt 245 (by decide +kernel) rfl
theorem k_255 : Cond.fieldLink RX5 55 "TwiceOnce$CallList" "size" "I" ∈ tb := mt 255 (by decide +kernel) rfl
theorem k_466 : Cond.methodLink RX5 81 yX5_isSilent ∈ tb := mt 466 (by decide +kernel) rfl
theorem k_468 : Cond.instanceMethod yX5_isSilent ∈ tb := mt 468 (by decide +kernel) rfl
set_option maxRecDepth 20000 in
theorem k_469 : Cond.code yX5_isSilent cX5_isSilent 5 (some .boolean) ∈ tb := mt 469 rfl rfl
theorem k_470 : Cond.methodLink RX5 60 yX5_askedBy ∈ tb := mt 470 (by decide +kernel) rfl
theorem k_472 : Cond.instanceMethod yX5_askedBy ∈ tb := mt 472 (by decide +kernel) rfl
set_option maxRecDepth 20000 in
theorem k_473 : Cond.code yX5_askedBy cX5_askedBy 5 (some .int) ∈ tb := mt 473 rfl rfl
theorem k_474 : Cond.methodLink RX5 77 yX5_canAsk ∈ tb := mt 474 (by decide +kernel) rfl
theorem k_476 : Cond.instanceMethod yX5_canAsk ∈ tb := mt 476 (by decide +kernel) rfl
set_option maxRecDepth 20000 in
theorem k_477 : Cond.code yX5_canAsk cX5_canAsk 3 (some .boolean) ∈ tb := mt 477 rfl rfl
theorem k_505 : Cond.methodLink RX5 89 yX5_serve ∈ tb := mt 505 (by decide +kernel) rfl
theorem k_507 : Cond.instanceMethod yX5_serve ∈ tb := mt 507 (by decide +kernel) rfl
set_option maxRecDepth 20000 in
theorem k_508 : Cond.code yX5_serve cX5_serve 9 (some .int) ∈ tb := mt 508 rfl rfl
theorem k_509 : Cond.methodLink RX5 93 yX3_isMended ∈ tb := mt 509 (by decide +kernel) rfl
theorem k_513 : Cond.methodLink RX5 96 yX3_placeOfKey ∈ tb := mt 513 (by decide +kernel) rfl
theorem k_514 : Cond.instanceMethod yX3_placeOfKey ∈ tb := mt 514 (by decide +kernel) rfl
theorem k_515 : Cond.selects RX3 yX3_placeOfKey yX3_placeOfKey ∈ tb := mt 515 (by decide +kernel) rfl
set_option maxRecDepth 20000 in
theorem k_516 : Cond.code yX3_placeOfKey cX3_placeOfKey 3 (some .int) ∈ tb := mt 516 rfl rfl
theorem k_517 : Cond.methodLink RX5 99 yX3_keptAnswer ∈ tb := mt 517 (by decide +kernel) rfl
theorem k_518 : Cond.instanceMethod yX3_keptAnswer ∈ tb := mt 518 (by decide +kernel) rfl
theorem k_519 : Cond.selects RX3 yX3_keptAnswer yX3_keptAnswer ∈ tb := mt 519 (by decide +kernel) rfl
set_option maxRecDepth 20000 in
theorem k_520 : Cond.code yX3_keptAnswer cX3_keptAnswer 3 (some .int) ∈ tb := mt 520 rfl rfl
theorem k_521 : Cond.methodLink RX5 103 yX3_keep ∈ tb := mt 521 (by decide +kernel) rfl
theorem k_522 : Cond.instanceMethod yX3_keep ∈ tb := mt 522 (by decide +kernel) rfl
theorem k_523 : Cond.selects RX3 yX3_keep yX3_keep ∈ tb := mt 523 (by decide +kernel) rfl
set_option maxRecDepth 20000 in
theorem k_524 : Cond.code yX3_keep cX3_keep 5 none ∈ tb := mt 524 rfl rfl
theorem k_526 : Cond.methodLink RX5 107 yX3_beginKnown ∈ tb := mt 526 (by decide +kernel) rfl
theorem k_527 : Cond.instanceMethod yX3_beginKnown ∈ tb := mt 527 (by decide +kernel) rfl
theorem k_528 : Cond.selects RX3 yX3_beginKnown yX3_beginKnown ∈ tb := mt 528 (by decide +kernel) rfl
set_option maxRecDepth 20000 in
theorem k_529 : Cond.code yX3_beginKnown cX3_beginKnown 4 none ∈ tb := mt 529 rfl rfl
theorem k_531 : Cond.methodLink RX5 111 yX5_runActs ∈ tb := mt 531 (by decide +kernel) rfl
theorem k_533 : Cond.instanceMethod yX5_runActs ∈ tb := mt 533 (by decide +kernel) rfl
set_option maxRecDepth 20000 in
theorem k_534 : Cond.code yX5_runActs cX5_runActs 14 (some .int) ∈ tb := mt 534 rfl rfl
theorem k_535 : Cond.methodLink RX5 117 yX2_valueAt ∈ tb := mt 535 (by decide +kernel) rfl
theorem k_536 : Cond.instanceMethod yX2_valueAt ∈ tb := mt 536 (by decide +kernel) rfl
theorem k_537 : Cond.selects RX2 yX2_valueAt yX2_valueAt ∈ tb := mt 537 (by decide +kernel) rfl
set_option maxRecDepth 20000 in
theorem k_538 : Cond.code yX2_valueAt cX2_valueAt 5 (some .int) ∈ tb := mt 538 rfl rfl
theorem k_539 : Cond.methodLink RX5 120 yX3_isHeldBack ∈ tb := mt 539 (by decide +kernel) rfl
theorem k_540 : Cond.instanceMethod yX3_isHeldBack ∈ tb := mt 540 (by decide +kernel) rfl
theorem k_541 : Cond.selects RX3 yX3_isHeldBack yX3_isHeldBack ∈ tb := mt 541 (by decide +kernel) rfl
set_option maxRecDepth 20000 in
theorem k_542 : Cond.code yX3_isHeldBack cX3_isHeldBack 6 (some .boolean) ∈ tb := mt 542 rfl rfl
theorem k_543 : Cond.methodLink RX5 123 yX3_passesOver ∈ tb := mt 543 (by decide +kernel) rfl
theorem k_544 : Cond.instanceMethod yX3_passesOver ∈ tb := mt 544 (by decide +kernel) rfl
theorem k_545 : Cond.selects RX3 yX3_passesOver yX3_passesOver ∈ tb := mt 545 (by decide +kernel) rfl
set_option maxRecDepth 20000 in
theorem k_546 : Cond.code yX3_passesOver cX3_passesOver 4 (some .boolean) ∈ tb := mt 546 rfl rfl
theorem k_547 : Cond.methodLink RX5 126 yX3_perform ∈ tb := mt 547 (by decide +kernel) rfl
theorem k_548 : Cond.instanceMethod yX3_perform ∈ tb := mt 548 (by decide +kernel) rfl
theorem k_549 : Cond.selects RX3 yX3_perform yX3_perform ∈ tb := mt 549 (by decide +kernel) rfl
set_option maxRecDepth 20000 in
theorem k_550 : Cond.code yX3_perform cX3_perform 5 (some .int) ∈ tb := mt 550 rfl rfl
theorem k_551 : Cond.methodLink RX5 114 yX3_answerNewest ∈ tb := mt 551 (by decide +kernel) rfl
theorem k_552 : Cond.instanceMethod yX3_answerNewest ∈ tb := mt 552 (by decide +kernel) rfl
theorem k_553 : Cond.selects RX3 yX3_answerNewest yX3_answerNewest ∈ tb := mt 553 (by decide +kernel) rfl
set_option maxRecDepth 20000 in
theorem k_554 : Cond.code yX3_answerNewest cX3_answerNewest 3 none ∈ tb := mt 554 rfl rfl
theorem dX5_askedBy_15 : decode cX5_askedBy 15 = .ok (.iload 4, 2) := by decide +kernel
theorem dX5_askedBy_17 : decode cX5_askedBy 17 = .ok (.aload_n 2, 1) := by decide +kernel
theorem dX5_askedBy_18 : decode cX5_askedBy 18 = .ok (.getfield 68, 3) := by decide +kernel
theorem dX5_askedBy_21 : decode cX5_askedBy 21 = .ok (.if_icmp .ge 47, 3) := by decide +kernel
theorem dX5_askedBy_68 : decode cX5_askedBy 68 = .ok (.iload_n 3, 1) := by decide +kernel
theorem dX5_askedBy_69 : decode cX5_askedBy 69 = .ok (.ireturn, 1) := by decide +kernel
theorem dX5_askedBy_24 : decode cX5_askedBy 24 = .ok (.aload_n 2, 1) := by decide +kernel
theorem dX5_askedBy_25 : decode cX5_askedBy 25 = .ok (.getfield 71, 3) := by decide +kernel
theorem dX5_askedBy_28 : decode cX5_askedBy 28 = .ok (.iload 4, 2) := by decide +kernel
theorem dX5_askedBy_30 : decode cX5_askedBy 30 = .ok (.iaload, 1) := by decide +kernel
theorem dX5_askedBy_31 : decode cX5_askedBy 31 = .ok (.iconst 5, 1) := by decide +kernel
theorem dX5_askedBy_32 : decode cX5_askedBy 32 = .ok (.if_icmp .ne 30, 3) := by decide +kernel
theorem dX5_askedBy_62 : decode cX5_askedBy 62 = .ok (.iinc 4 1, 3) := by decide +kernel
theorem dX5_askedBy_65 : decode cX5_askedBy 65 = .ok (.goto (-50), 3) := by decide +kernel
theorem dX5_askedBy_35 : decode cX5_askedBy 35 = .ok (.aload_n 0, 1) := by decide +kernel
theorem dX5_askedBy_36 : decode cX5_askedBy 36 = .ok (.iload_n 1, 1) := by decide +kernel
theorem dX5_askedBy_37 : decode cX5_askedBy 37 = .ok (.aload_n 2, 1) := by decide +kernel
theorem dX5_askedBy_38 : decode cX5_askedBy 38 = .ok (.getfield 74, 3) := by decide +kernel
theorem dX5_askedBy_41 : decode cX5_askedBy 41 = .ok (.iload 4, 2) := by decide +kernel
theorem dX5_askedBy_43 : decode cX5_askedBy 43 = .ok (.iaload, 1) := by decide +kernel
theorem dX5_askedBy_44 : decode cX5_askedBy 44 = .ok (.invokevirtual 77, 3) := by decide +kernel
theorem dX5_askedBy_47 : decode cX5_askedBy 47 = .ok (.ifCond .eq 15, 3) := by decide +kernel
theorem dX5_askedBy_50 : decode cX5_askedBy 50 = .ok (.iload_n 3, 1) := by decide +kernel
theorem dX5_askedBy_51 : decode cX5_askedBy 51 = .ok (.iconst 1, 1) := by decide +kernel
theorem dX5_askedBy_52 : decode cX5_askedBy 52 = .ok (.aload_n 2, 1) := by decide +kernel
theorem dX5_askedBy_53 : decode cX5_askedBy 53 = .ok (.getfield 74, 3) := by decide +kernel
theorem dX5_askedBy_56 : decode cX5_askedBy 56 = .ok (.iload 4, 2) := by decide +kernel
theorem dX5_askedBy_58 : decode cX5_askedBy 58 = .ok (.iaload, 1) := by decide +kernel
theorem dX5_askedBy_59 : decode cX5_askedBy 59 = .ok (.ishl, 1) := by decide +kernel
theorem dX5_askedBy_60 : decode cX5_askedBy 60 = .ok (.ior, 1) := by decide +kernel
theorem dX5_askedBy_61 : decode cX5_askedBy 61 = .ok (.istore_n 3, 1) := by decide +kernel
theorem dX5_askedBy_0 : decode cX5_askedBy 0 = .ok (.aload_n 0, 1) := by decide +kernel
theorem dX5_askedBy_1 : decode cX5_askedBy 1 = .ok (.getfield 11, 3) := by decide +kernel
theorem dX5_askedBy_4 : decode cX5_askedBy 4 = .ok (.iload_n 1, 1) := by decide +kernel
theorem dX5_askedBy_5 : decode cX5_askedBy 5 = .ok (.aaload, 1) := by decide +kernel
theorem dX5_askedBy_6 : decode cX5_askedBy 6 = .ok (.getfield 64, 3) := by decide +kernel
theorem dX5_askedBy_9 : decode cX5_askedBy 9 = .ok (.astore_n 2, 1) := by decide +kernel
theorem dX5_askedBy_10 : decode cX5_askedBy 10 = .ok (.iconst 0, 1) := by decide +kernel
theorem dX5_askedBy_11 : decode cX5_askedBy 11 = .ok (.istore_n 3, 1) := by decide +kernel
theorem dX5_askedBy_12 : decode cX5_askedBy 12 = .ok (.iconst 0, 1) := by decide +kernel
theorem dX5_askedBy_13 : decode cX5_askedBy 13 = .ok (.istore 4, 2) := by decide +kernel
theorem dX5_isSilent_12 : decode cX5_isSilent 12 = .ok (.iload_n 3, 1) := by decide +kernel
theorem dX5_isSilent_13 : decode cX5_isSilent 13 = .ok (.aload_n 2, 1) := by decide +kernel
theorem dX5_isSilent_14 : decode cX5_isSilent 14 = .ok (.getfield 68, 3) := by decide +kernel
theorem dX5_isSilent_17 : decode cX5_isSilent 17 = .ok (.if_icmp .ge 38, 3) := by decide +kernel
theorem dX5_isSilent_55 : decode cX5_isSilent 55 = .ok (.iconst 1, 1) := by decide +kernel
theorem dX5_isSilent_56 : decode cX5_isSilent 56 = .ok (.ireturn, 1) := by decide +kernel
theorem dX5_isSilent_20 : decode cX5_isSilent 20 = .ok (.aload_n 2, 1) := by decide +kernel
theorem dX5_isSilent_21 : decode cX5_isSilent 21 = .ok (.getfield 71, 3) := by decide +kernel
theorem dX5_isSilent_24 : decode cX5_isSilent 24 = .ok (.iload_n 3, 1) := by decide +kernel
theorem dX5_isSilent_25 : decode cX5_isSilent 25 = .ok (.iaload, 1) := by decide +kernel
theorem dX5_isSilent_26 : decode cX5_isSilent 26 = .ok (.istore 4, 2) := by decide +kernel
theorem dX5_isSilent_28 : decode cX5_isSilent 28 = .ok (.iload 4, 2) := by decide +kernel
theorem dX5_isSilent_30 : decode cX5_isSilent 30 = .ok (.iconst 4, 1) := by decide +kernel
theorem dX5_isSilent_31 : decode cX5_isSilent 31 = .ok (.if_icmp .eq 18, 3) := by decide +kernel
theorem dX5_isSilent_49 : decode cX5_isSilent 49 = .ok (.iinc 3 1, 3) := by decide +kernel
theorem dX5_isSilent_52 : decode cX5_isSilent 52 = .ok (.goto (-40), 3) := by decide +kernel
theorem dX5_isSilent_34 : decode cX5_isSilent 34 = .ok (.iload 4, 2) := by decide +kernel
theorem dX5_isSilent_36 : decode cX5_isSilent 36 = .ok (.iconst 5, 1) := by decide +kernel
theorem dX5_isSilent_37 : decode cX5_isSilent 37 = .ok (.if_icmp .eq 12, 3) := by decide +kernel
theorem dX5_isSilent_40 : decode cX5_isSilent 40 = .ok (.iload 4, 2) := by decide +kernel
theorem dX5_isSilent_42 : decode cX5_isSilent 42 = .ok (.bipush 7, 2) := by decide +kernel
theorem dX5_isSilent_44 : decode cX5_isSilent 44 = .ok (.if_icmp .eq 5, 3) := by decide +kernel
theorem dX5_isSilent_47 : decode cX5_isSilent 47 = .ok (.iconst 0, 1) := by decide +kernel
theorem dX5_isSilent_48 : decode cX5_isSilent 48 = .ok (.ireturn, 1) := by decide +kernel
theorem dX5_isSilent_0 : decode cX5_isSilent 0 = .ok (.aload_n 0, 1) := by decide +kernel
theorem dX5_isSilent_1 : decode cX5_isSilent 1 = .ok (.getfield 11, 3) := by decide +kernel
theorem dX5_isSilent_4 : decode cX5_isSilent 4 = .ok (.iload_n 1, 1) := by decide +kernel
theorem dX5_isSilent_5 : decode cX5_isSilent 5 = .ok (.aaload, 1) := by decide +kernel
theorem dX5_isSilent_6 : decode cX5_isSilent 6 = .ok (.getfield 64, 3) := by decide +kernel
theorem dX5_isSilent_9 : decode cX5_isSilent 9 = .ok (.astore_n 2, 1) := by decide +kernel
theorem dX5_isSilent_10 : decode cX5_isSilent 10 = .ok (.iconst 0, 1) := by decide +kernel
theorem dX5_isSilent_11 : decode cX5_isSilent 11 = .ok (.istore_n 3, 1) := by decide +kernel
theorem dX5_isReader_9 : decode cX5_isReader 9 = .ok (.iload_n 3, 1) := by decide +kernel
theorem dX5_isReader_10 : decode cX5_isReader 10 = .ok (.iload_n 1, 1) := by decide +kernel
theorem dX5_isReader_11 : decode cX5_isReader 11 = .ok (.if_icmp .lt 35, 3) := by decide +kernel
theorem dX5_isReader_46 : decode cX5_isReader 46 = .ok (.iload_n 2, 1) := by decide +kernel
theorem dX5_isReader_47 : decode cX5_isReader 47 = .ok (.iload_n 1, 1) := by decide +kernel
theorem dX5_isReader_48 : decode cX5_isReader 48 = .ok (.ishr, 1) := by decide +kernel
theorem dX5_isReader_49 : decode cX5_isReader 49 = .ok (.iconst 1, 1) := by decide +kernel
theorem dX5_isReader_50 : decode cX5_isReader 50 = .ok (.iand, 1) := by decide +kernel
theorem dX5_isReader_51 : decode cX5_isReader 51 = .ok (.iconst 1, 1) := by decide +kernel
theorem dX5_isReader_52 : decode cX5_isReader 52 = .ok (.if_icmp .ne 7, 3) := by decide +kernel
theorem dX5_isReader_59 : decode cX5_isReader 59 = .ok (.iconst 0, 1) := by decide +kernel
theorem dX5_isReader_60 : decode cX5_isReader 60 = .ok (.ireturn, 1) := by decide +kernel
theorem dX5_isReader_55 : decode cX5_isReader 55 = .ok (.iconst 1, 1) := by decide +kernel
theorem dX5_isReader_56 : decode cX5_isReader 56 = .ok (.goto 4, 3) := by decide +kernel
theorem dX5_isReader_14 : decode cX5_isReader 14 = .ok (.aload_n 0, 1) := by decide +kernel
theorem dX5_isReader_15 : decode cX5_isReader 15 = .ok (.iload_n 3, 1) := by decide +kernel
theorem dX5_isReader_16 : decode cX5_isReader 16 = .ok (.invokevirtual 81, 3) := by decide +kernel
theorem dX5_isReader_19 : decode cX5_isReader 19 = .ok (.ifCond .eq 21, 3) := by decide +kernel
theorem dX5_isReader_22 : decode cX5_isReader 22 = .ok (.aload_n 0, 1) := by decide +kernel
theorem dX5_isReader_23 : decode cX5_isReader 23 = .ok (.iload_n 3, 1) := by decide +kernel
theorem dX5_isReader_24 : decode cX5_isReader 24 = .ok (.invokevirtual 60, 3) := by decide +kernel
theorem dX5_isReader_27 : decode cX5_isReader 27 = .ok (.iload_n 2, 1) := by decide +kernel
theorem dX5_isReader_28 : decode cX5_isReader 28 = .ok (.iconst (-1), 1) := by decide +kernel
theorem dX5_isReader_29 : decode cX5_isReader 29 = .ok (.ixor, 1) := by decide +kernel
theorem dX5_isReader_30 : decode cX5_isReader 30 = .ok (.iand, 1) := by decide +kernel
theorem dX5_isReader_31 : decode cX5_isReader 31 = .ok (.ifCond .ne 9, 3) := by decide +kernel
theorem dX5_isReader_40 : decode cX5_isReader 40 = .ok (.iinc 3 (-1), 3) := by decide +kernel
theorem dX5_isReader_43 : decode cX5_isReader 43 = .ok (.goto (-34), 3) := by decide +kernel
theorem dX5_isReader_34 : decode cX5_isReader 34 = .ok (.iload_n 2, 1) := by decide +kernel
theorem dX5_isReader_35 : decode cX5_isReader 35 = .ok (.iconst 1, 1) := by decide +kernel
theorem dX5_isReader_36 : decode cX5_isReader 36 = .ok (.iload_n 3, 1) := by decide +kernel
theorem dX5_isReader_37 : decode cX5_isReader 37 = .ok (.ishl, 1) := by decide +kernel
theorem dX5_isReader_38 : decode cX5_isReader 38 = .ok (.ior, 1) := by decide +kernel
theorem dX5_isReader_39 : decode cX5_isReader 39 = .ok (.istore_n 2, 1) := by decide +kernel
theorem dX5_isReader_0 : decode cX5_isReader 0 = .ok (.iconst 0, 1) := by decide +kernel
theorem dX5_isReader_1 : decode cX5_isReader 1 = .ok (.istore_n 2, 1) := by decide +kernel
theorem dX5_isReader_2 : decode cX5_isReader 2 = .ok (.aload_n 0, 1) := by decide +kernel
theorem dX5_isReader_3 : decode cX5_isReader 3 = .ok (.getfield 17, 3) := by decide +kernel
theorem dX5_isReader_6 : decode cX5_isReader 6 = .ok (.iconst 1, 1) := by decide +kernel
theorem dX5_isReader_7 : decode cX5_isReader 7 = .ok (.isub, 1) := by decide +kernel
theorem dX5_isReader_8 : decode cX5_isReader 8 = .ok (.istore_n 3, 1) := by decide +kernel
theorem dX5_reachOf_31 : decode cX5_reachOf 31 = .ok (.iload_n 3, 1) := by decide +kernel
theorem dX5_reachOf_32 : decode cX5_reachOf 32 = .ok (.aload_n 0, 1) := by decide +kernel
theorem dX5_reachOf_33 : decode cX5_reachOf 33 = .ok (.getfield 17, 3) := by decide +kernel
theorem dX5_reachOf_36 : decode cX5_reachOf 36 = .ok (.if_icmp .ge 26, 3) := by decide +kernel
theorem dX5_reachOf_62 : decode cX5_reachOf 62 = .ok (.iload_n 2, 1) := by decide +kernel
theorem dX5_reachOf_63 : decode cX5_reachOf 63 = .ok (.ireturn, 1) := by decide +kernel
theorem dX5_reachOf_39 : decode cX5_reachOf 39 = .ok (.iload_n 2, 1) := by decide +kernel
theorem dX5_reachOf_40 : decode cX5_reachOf 40 = .ok (.iload_n 3, 1) := by decide +kernel
theorem dX5_reachOf_41 : decode cX5_reachOf 41 = .ok (.ishr, 1) := by decide +kernel
theorem dX5_reachOf_42 : decode cX5_reachOf 42 = .ok (.iconst 1, 1) := by decide +kernel
theorem dX5_reachOf_43 : decode cX5_reachOf 43 = .ok (.iand, 1) := by decide +kernel
theorem dX5_reachOf_44 : decode cX5_reachOf 44 = .ok (.iconst 1, 1) := by decide +kernel
theorem dX5_reachOf_45 : decode cX5_reachOf 45 = .ok (.if_icmp .ne 11, 3) := by decide +kernel
theorem dX5_reachOf_56 : decode cX5_reachOf 56 = .ok (.iinc 3 1, 3) := by decide +kernel
theorem dX5_reachOf_59 : decode cX5_reachOf 59 = .ok (.goto (-28), 3) := by decide +kernel
theorem dX5_reachOf_48 : decode cX5_reachOf 48 = .ok (.iload_n 2, 1) := by decide +kernel
theorem dX5_reachOf_49 : decode cX5_reachOf 49 = .ok (.aload_n 0, 1) := by decide +kernel
theorem dX5_reachOf_50 : decode cX5_reachOf 50 = .ok (.iload_n 3, 1) := by decide +kernel
theorem dX5_reachOf_51 : decode cX5_reachOf 51 = .ok (.invokevirtual 60, 3) := by decide +kernel
theorem dX5_reachOf_54 : decode cX5_reachOf 54 = .ok (.ior, 1) := by decide +kernel
theorem dX5_reachOf_55 : decode cX5_reachOf 55 = .ok (.istore_n 2, 1) := by decide +kernel
theorem dX5_reachOf_4 : decode cX5_reachOf 4 = .ok (.iload_n 3, 1) := by decide +kernel
theorem dX5_reachOf_5 : decode cX5_reachOf 5 = .ok (.aload_n 1, 1) := by decide +kernel
theorem dX5_reachOf_6 : decode cX5_reachOf 6 = .ok (.getfield 55, 3) := by decide +kernel
theorem dX5_reachOf_9 : decode cX5_reachOf 9 = .ok (.if_icmp .ge 20, 3) := by decide +kernel
theorem dX5_reachOf_29 : decode cX5_reachOf 29 = .ok (.iconst 0, 1) := by decide +kernel
theorem dX5_reachOf_30 : decode cX5_reachOf 30 = .ok (.istore_n 3, 1) := by decide +kernel
theorem dX5_reachOf_12 : decode cX5_reachOf 12 = .ok (.iload_n 2, 1) := by decide +kernel
theorem dX5_reachOf_13 : decode cX5_reachOf 13 = .ok (.iconst 1, 1) := by decide +kernel
theorem dX5_reachOf_14 : decode cX5_reachOf 14 = .ok (.aload_n 1, 1) := by decide +kernel
theorem dX5_reachOf_15 : decode cX5_reachOf 15 = .ok (.getfield 58, 3) := by decide +kernel
theorem dX5_reachOf_18 : decode cX5_reachOf 18 = .ok (.iload_n 3, 1) := by decide +kernel
theorem dX5_reachOf_19 : decode cX5_reachOf 19 = .ok (.iaload, 1) := by decide +kernel
theorem dX5_reachOf_20 : decode cX5_reachOf 20 = .ok (.ishl, 1) := by decide +kernel
theorem dX5_reachOf_21 : decode cX5_reachOf 21 = .ok (.ior, 1) := by decide +kernel
theorem dX5_reachOf_22 : decode cX5_reachOf 22 = .ok (.istore_n 2, 1) := by decide +kernel
theorem dX5_reachOf_23 : decode cX5_reachOf 23 = .ok (.iinc 3 1, 3) := by decide +kernel
theorem dX5_reachOf_26 : decode cX5_reachOf 26 = .ok (.goto (-22), 3) := by decide +kernel
theorem dX5_reachOf_0 : decode cX5_reachOf 0 = .ok (.iconst 0, 1) := by decide +kernel
theorem dX5_reachOf_1 : decode cX5_reachOf 1 = .ok (.istore_n 2, 1) := by decide +kernel
theorem dX5_reachOf_2 : decode cX5_reachOf 2 = .ok (.iconst 0, 1) := by decide +kernel
theorem dX5_reachOf_3 : decode cX5_reachOf 3 = .ok (.istore_n 3, 1) := by decide +kernel
theorem dX5_runActs_44 : decode cX5_runActs 44 = .ok (.iload 9, 2) := by decide +kernel
theorem dX5_runActs_46 : decode cX5_runActs 46 = .ok (.aload 5, 2) := by decide +kernel
theorem dX5_runActs_48 : decode cX5_runActs 48 = .ok (.getfield 68, 3) := by decide +kernel
theorem dX5_runActs_51 : decode cX5_runActs 51 = .ok (.if_icmp .ge 237, 3) := by decide +kernel
theorem dX5_runActs_288 : decode cX5_runActs 288 = .ok (.iload 7, 2) := by decide +kernel
theorem dX5_runActs_290 : decode cX5_runActs 290 = .ok (.ireturn, 1) := by decide +kernel
theorem dX5_runActs_54 : decode cX5_runActs 54 = .ok (.iload 8, 2) := by decide +kernel
theorem dX5_runActs_56 : decode cX5_runActs 56 = .ok (.ifCond .eq 9, 3) := by decide +kernel
theorem dX5_runActs_65 : decode cX5_runActs 65 = .ok (.aload_n 0, 1) := by decide +kernel
theorem dX5_runActs_66 : decode cX5_runActs 66 = .ok (.getfield 31, 3) := by decide +kernel
theorem dX5_runActs_69 : decode cX5_runActs 69 = .ok (.iconst 1, 1) := by decide +kernel
theorem dX5_runActs_70 : decode cX5_runActs 70 = .ok (.iadd, 1) := by decide +kernel
theorem dX5_runActs_71 : decode cX5_runActs 71 = .ok (.aload_n 0, 1) := by decide +kernel
theorem dX5_runActs_72 : decode cX5_runActs 72 = .ok (.getfield 34, 3) := by decide +kernel
theorem dX5_runActs_75 : decode cX5_runActs 75 = .ok (.if_icmp .lt 11, 3) := by decide +kernel
theorem dX5_runActs_86 : decode cX5_runActs 86 = .ok (.aload_n 0, 1) := by decide +kernel
theorem dX5_runActs_87 : decode cX5_runActs 87 = .ok (.dup, 1) := by decide +kernel
theorem dX5_runActs_88 : decode cX5_runActs 88 = .ok (.getfield 31, 3) := by decide +kernel
theorem dX5_runActs_91 : decode cX5_runActs 91 = .ok (.iconst 1, 1) := by decide +kernel
theorem dX5_runActs_92 : decode cX5_runActs 92 = .ok (.iadd, 1) := by decide +kernel
theorem dX5_runActs_93 : decode cX5_runActs 93 = .ok (.putfield 31, 3) := by decide +kernel
theorem dX5_runActs_96 : decode cX5_runActs 96 = .ok (.aload 5, 2) := by decide +kernel
theorem dX5_runActs_98 : decode cX5_runActs 98 = .ok (.iload 9, 2) := by decide +kernel
theorem dX5_runActs_100 : decode cX5_runActs 100 = .ok (.iload_n 2, 1) := by decide +kernel
theorem dX5_runActs_101 : decode cX5_runActs 101 = .ok (.iload 7, 2) := by decide +kernel
theorem dX5_runActs_103 : decode cX5_runActs 103 = .ok (.invokevirtual 117, 3) := by decide +kernel
theorem dX5_runActs_106 : decode cX5_runActs 106 = .ok (.istore 10, 2) := by decide +kernel
theorem dX5_runActs_108 : decode cX5_runActs 108 = .ok (.aload 4, 2) := by decide +kernel
theorem dX5_runActs_110 : decode cX5_runActs 110 = .ok (.iload 9, 2) := by decide +kernel
theorem dX5_runActs_112 : decode cX5_runActs 112 = .ok (.iload 10, 2) := by decide +kernel
theorem dX5_runActs_114 : decode cX5_runActs 114 = .ok (.invokevirtual 120, 3) := by decide +kernel
theorem dX5_runActs_117 : decode cX5_runActs 117 = .ok (.ifCond .eq 6, 3) := by decide +kernel
theorem dX5_runActs_120 : decode cX5_runActs 120 = .ok (.goto 162, 3) := by decide +kernel
theorem dX5_runActs_282 : decode cX5_runActs 282 = .ok (.iinc 9 1, 3) := by decide +kernel
theorem dX5_runActs_285 : decode cX5_runActs 285 = .ok (.goto (-241), 3) := by decide +kernel
theorem dX5_runActs_123 : decode cX5_runActs 123 = .ok (.aload 5, 2) := by decide +kernel
theorem dX5_runActs_125 : decode cX5_runActs 125 = .ok (.getfield 71, 3) := by decide +kernel
theorem dX5_runActs_128 : decode cX5_runActs 128 = .ok (.iload 9, 2) := by decide +kernel
theorem dX5_runActs_130 : decode cX5_runActs 130 = .ok (.iaload, 1) := by decide +kernel
theorem dX5_runActs_131 : decode cX5_runActs 131 = .ok (.istore 11, 2) := by decide +kernel
theorem dX5_runActs_133 : decode cX5_runActs 133 = .ok (.aload 5, 2) := by decide +kernel
theorem dX5_runActs_135 : decode cX5_runActs 135 = .ok (.getfield 74, 3) := by decide +kernel
theorem dX5_runActs_138 : decode cX5_runActs 138 = .ok (.iload 9, 2) := by decide +kernel
theorem dX5_runActs_140 : decode cX5_runActs 140 = .ok (.iaload, 1) := by decide +kernel
theorem dX5_runActs_141 : decode cX5_runActs 141 = .ok (.istore 12, 2) := by decide +kernel
theorem dX5_runActs_143 : decode cX5_runActs 143 = .ok (.iload 11, 2) := by decide +kernel
theorem dX5_runActs_145 : decode cX5_runActs 145 = .ok (.iconst 5, 1) := by decide +kernel
theorem dX5_runActs_146 : decode cX5_runActs 146 = .ok (.if_icmp .ne 61, 3) := by decide +kernel
theorem dX5_runActs_207 : decode cX5_runActs 207 = .ok (.iload 11, 2) := by decide +kernel
theorem dX5_runActs_209 : decode cX5_runActs 209 = .ok (.bipush 6, 2) := by decide +kernel
theorem dX5_runActs_211 : decode cX5_runActs 211 = .ok (.if_icmp .ne 31, 3) := by decide +kernel
theorem dX5_runActs_242 : decode cX5_runActs 242 = .ok (.iload 11, 2) := by decide +kernel
theorem dX5_runActs_244 : decode cX5_runActs 244 = .ok (.bipush 7, 2) := by decide +kernel
theorem dX5_runActs_246 : decode cX5_runActs 246 = .ok (.if_icmp .ne 17, 3) := by decide +kernel
theorem dX5_runActs_263 : decode cX5_runActs 263 = .ok (.iload 11, 2) := by decide +kernel
theorem dX5_runActs_265 : decode cX5_runActs 265 = .ok (.iconst 5, 1) := by decide +kernel
theorem dX5_runActs_266 : decode cX5_runActs 266 = .ok (.if_icmp .eq 16, 3) := by decide +kernel
theorem dX5_runActs_269 : decode cX5_runActs 269 = .ok (.aload 4, 2) := by decide +kernel
theorem dX5_runActs_271 : decode cX5_runActs 271 = .ok (.iload 9, 2) := by decide +kernel
theorem dX5_runActs_273 : decode cX5_runActs 273 = .ok (.iload 10, 2) := by decide +kernel
theorem dX5_runActs_275 : decode cX5_runActs 275 = .ok (.iload 7, 2) := by decide +kernel
theorem dX5_runActs_277 : decode cX5_runActs 277 = .ok (.invokevirtual 126, 3) := by decide +kernel
theorem dX5_runActs_280 : decode cX5_runActs 280 = .ok (.istore 7, 2) := by decide +kernel
theorem dX5_runActs_249 : decode cX5_runActs 249 = .ok (.aload 4, 2) := by decide +kernel
theorem dX5_runActs_251 : decode cX5_runActs 251 = .ok (.iload 9, 2) := by decide +kernel
theorem dX5_runActs_253 : decode cX5_runActs 253 = .ok (.iload 10, 2) := by decide +kernel
theorem dX5_runActs_255 : decode cX5_runActs 255 = .ok (.invokevirtual 123, 3) := by decide +kernel
theorem dX5_runActs_258 : decode cX5_runActs 258 = .ok (.istore 8, 2) := by decide +kernel
theorem dX5_runActs_260 : decode cX5_runActs 260 = .ok (.goto 22, 3) := by decide +kernel
theorem dX5_runActs_214 : decode cX5_runActs 214 = .ok (.aload_n 0, 1) := by decide +kernel
theorem dX5_runActs_215 : decode cX5_runActs 215 = .ok (.getfield 24, 3) := by decide +kernel
theorem dX5_runActs_218 : decode cX5_runActs 218 = .ok (.aload_n 0, 1) := by decide +kernel
theorem dX5_runActs_219 : decode cX5_runActs 219 = .ok (.getfield 28, 3) := by decide +kernel
theorem dX5_runActs_222 : decode cX5_runActs 222 = .ok (.sipush 511, 3) := by decide +kernel
theorem dX5_runActs_225 : decode cX5_runActs 225 = .ok (.iand, 1) := by decide +kernel
theorem dX5_runActs_226 : decode cX5_runActs 226 = .ok (.iload 10, 2) := by decide +kernel
theorem dX5_runActs_228 : decode cX5_runActs 228 = .ok (.iastore, 1) := by decide +kernel
theorem dX5_runActs_229 : decode cX5_runActs 229 = .ok (.aload_n 0, 1) := by decide +kernel
theorem dX5_runActs_230 : decode cX5_runActs 230 = .ok (.dup, 1) := by decide +kernel
theorem dX5_runActs_231 : decode cX5_runActs 231 = .ok (.getfield 28, 3) := by decide +kernel
theorem dX5_runActs_234 : decode cX5_runActs 234 = .ok (.iconst 1, 1) := by decide +kernel
theorem dX5_runActs_235 : decode cX5_runActs 235 = .ok (.iadd, 1) := by decide +kernel
theorem dX5_runActs_236 : decode cX5_runActs 236 = .ok (.putfield 28, 3) := by decide +kernel
theorem dX5_runActs_239 : decode cX5_runActs 239 = .ok (.goto 43, 3) := by decide +kernel
theorem dX5_runActs_149 : decode cX5_runActs 149 = .ok (.aload_n 0, 1) := by decide +kernel
theorem dX5_runActs_150 : decode cX5_runActs 150 = .ok (.iload_n 1, 1) := by decide +kernel
theorem dX5_runActs_151 : decode cX5_runActs 151 = .ok (.iload 12, 2) := by decide +kernel
theorem dX5_runActs_153 : decode cX5_runActs 153 = .ok (.invokevirtual 77, 3) := by decide +kernel
theorem dX5_runActs_156 : decode cX5_runActs 156 = .ok (.ifCond .eq 51, 3) := by decide +kernel
theorem dX5_runActs_78 : decode cX5_runActs 78 = .ok (.aload_n 0, 1) := by decide +kernel
theorem dX5_runActs_79 : decode cX5_runActs 79 = .ok (.iconst 1, 1) := by decide +kernel
theorem dX5_runActs_80 : decode cX5_runActs 80 = .ok (.putfield 37, 3) := by decide +kernel
theorem dX5_runActs_83 : decode cX5_runActs 83 = .ok (.bipush (-2), 2) := by decide +kernel
theorem dX5_runActs_85 : decode cX5_runActs 85 = .ok (.ireturn, 1) := by decide +kernel
theorem dX5_runActs_59 : decode cX5_runActs 59 = .ok (.iconst 0, 1) := by decide +kernel
theorem dX5_runActs_60 : decode cX5_runActs 60 = .ok (.istore 8, 2) := by decide +kernel
theorem dX5_runActs_62 : decode cX5_runActs 62 = .ok (.goto 220, 3) := by decide +kernel
theorem dX5_runActs_0 : decode cX5_runActs 0 = .ok (.aload_n 0, 1) := by decide +kernel
theorem dX5_runActs_1 : decode cX5_runActs 1 = .ok (.getfield 11, 3) := by decide +kernel
theorem dX5_runActs_4 : decode cX5_runActs 4 = .ok (.iload_n 1, 1) := by decide +kernel
theorem dX5_runActs_5 : decode cX5_runActs 5 = .ok (.aaload, 1) := by decide +kernel
theorem dX5_runActs_6 : decode cX5_runActs 6 = .ok (.astore 4, 2) := by decide +kernel
theorem dX5_runActs_8 : decode cX5_runActs 8 = .ok (.aload 4, 2) := by decide +kernel
theorem dX5_runActs_10 : decode cX5_runActs 10 = .ok (.getfield 64, 3) := by decide +kernel
theorem dX5_runActs_13 : decode cX5_runActs 13 = .ok (.astore 5, 2) := by decide +kernel
theorem dX5_runActs_15 : decode cX5_runActs 15 = .ok (.iload_n 3, 1) := by decide +kernel
theorem dX5_runActs_16 : decode cX5_runActs 16 = .ok (.ifCond .eq 16, 3) := by decide +kernel
theorem dX5_runActs_32 : decode cX5_runActs 32 = .ok (.iconst 0, 1) := by decide +kernel
theorem dX5_runActs_33 : decode cX5_runActs 33 = .ok (.istore 6, 2) := by decide +kernel
theorem dX5_runActs_35 : decode cX5_runActs 35 = .ok (.iconst 0, 1) := by decide +kernel
theorem dX5_runActs_36 : decode cX5_runActs 36 = .ok (.istore 7, 2) := by decide +kernel
theorem dX5_runActs_38 : decode cX5_runActs 38 = .ok (.iconst 0, 1) := by decide +kernel
theorem dX5_runActs_39 : decode cX5_runActs 39 = .ok (.istore 8, 2) := by decide +kernel
theorem dX5_runActs_41 : decode cX5_runActs 41 = .ok (.iconst 0, 1) := by decide +kernel
theorem dX5_runActs_42 : decode cX5_runActs 42 = .ok (.istore 9, 2) := by decide +kernel
theorem dX5_runActs_19 : decode cX5_runActs 19 = .ok (.aload 4, 2) := by decide +kernel
theorem dX5_runActs_21 : decode cX5_runActs 21 = .ok (.iconst 2, 1) := by decide +kernel
theorem dX5_runActs_22 : decode cX5_runActs 22 = .ok (.invokevirtual 93, 3) := by decide +kernel
theorem dX5_runActs_25 : decode cX5_runActs 25 = .ok (.ifCond .eq 7, 3) := by decide +kernel
theorem dX5_runActs_28 : decode cX5_runActs 28 = .ok (.iconst 1, 1) := by decide +kernel
theorem dX5_runActs_29 : decode cX5_runActs 29 = .ok (.goto 4, 3) := by decide +kernel
theorem dX5_serve_0 : decode cX5_serve 0 = .ok (.aload_n 0, 1) := by decide +kernel
theorem dX5_serve_1 : decode cX5_serve 1 = .ok (.getfield 11, 3) := by decide +kernel
theorem dX5_serve_4 : decode cX5_serve 4 = .ok (.iload_n 1, 1) := by decide +kernel
theorem dX5_serve_5 : decode cX5_serve 5 = .ok (.aaload, 1) := by decide +kernel
theorem dX5_serve_6 : decode cX5_serve 6 = .ok (.astore 4, 2) := by decide +kernel
theorem dX5_serve_8 : decode cX5_serve 8 = .ok (.iload_n 3, 1) := by decide +kernel
theorem dX5_serve_9 : decode cX5_serve 9 = .ok (.ifCond .eq 16, 3) := by decide +kernel
theorem dX5_serve_25 : decode cX5_serve 25 = .ok (.iconst 0, 1) := by decide +kernel
theorem dX5_serve_26 : decode cX5_serve 26 = .ok (.istore 5, 2) := by decide +kernel
theorem dX5_serve_28 : decode cX5_serve 28 = .ok (.iload 5, 2) := by decide +kernel
theorem dX5_serve_30 : decode cX5_serve 30 = .ok (.ifCond .eq 16, 3) := by decide +kernel
theorem dX5_serve_46 : decode cX5_serve 46 = .ok (.iconst 0, 1) := by decide +kernel
theorem dX5_serve_47 : decode cX5_serve 47 = .ok (.istore 6, 2) := by decide +kernel
theorem dX5_serve_49 : decode cX5_serve 49 = .ok (.iload 5, 2) := by decide +kernel
theorem dX5_serve_51 : decode cX5_serve 51 = .ok (.ifCond .eq 12, 3) := by decide +kernel
theorem dX5_serve_63 : decode cX5_serve 63 = .ok (.iconst (-1), 1) := by decide +kernel
theorem dX5_serve_64 : decode cX5_serve 64 = .ok (.istore 7, 2) := by decide +kernel
theorem dX5_serve_66 : decode cX5_serve 66 = .ok (.iload 7, 2) := by decide +kernel
theorem dX5_serve_68 : decode cX5_serve 68 = .ok (.iconst (-1), 1) := by decide +kernel
theorem dX5_serve_69 : decode cX5_serve 69 = .ok (.if_icmp .eq 12, 3) := by decide +kernel
theorem dX5_serve_81 : decode cX5_serve 81 = .ok (.iload 6, 2) := by decide +kernel
theorem dX5_serve_83 : decode cX5_serve 83 = .ok (.ifCond .eq 15, 3) := by decide +kernel
theorem dX5_serve_98 : decode cX5_serve 98 = .ok (.aload 4, 2) := by decide +kernel
theorem dX5_serve_100 : decode cX5_serve 100 = .ok (.iload_n 2, 1) := by decide +kernel
theorem dX5_serve_101 : decode cX5_serve 101 = .ok (.iload_n 3, 1) := by decide +kernel
theorem dX5_serve_102 : decode cX5_serve 102 = .ok (.invokevirtual 107, 3) := by decide +kernel
theorem dX5_serve_105 : decode cX5_serve 105 = .ok (.aload_n 0, 1) := by decide +kernel
theorem dX5_serve_106 : decode cX5_serve 106 = .ok (.iload_n 1, 1) := by decide +kernel
theorem dX5_serve_107 : decode cX5_serve 107 = .ok (.iload_n 2, 1) := by decide +kernel
theorem dX5_serve_108 : decode cX5_serve 108 = .ok (.iload_n 3, 1) := by decide +kernel
theorem dX5_serve_109 : decode cX5_serve 109 = .ok (.invokevirtual 111, 3) := by decide +kernel
theorem dX5_serve_112 : decode cX5_serve 112 = .ok (.istore 8, 2) := by decide +kernel
theorem dX5_serve_114 : decode cX5_serve 114 = .ok (.aload_n 0, 1) := by decide +kernel
theorem dX5_serve_115 : decode cX5_serve 115 = .ok (.getfield 37, 3) := by decide +kernel
theorem dX5_serve_118 : decode cX5_serve 118 = .ok (.ifCond .eq 6, 3) := by decide +kernel
theorem dX5_serve_124 : decode cX5_serve 124 = .ok (.iload 6, 2) := by decide +kernel
theorem dX5_serve_126 : decode cX5_serve 126 = .ok (.ifCond .eq 14, 3) := by decide +kernel
theorem dX5_serve_140 : decode cX5_serve 140 = .ok (.iload 5, 2) := by decide +kernel
theorem dX5_serve_142 : decode cX5_serve 142 = .ok (.ifCond .eq 16, 3) := by decide +kernel
theorem dX5_serve_158 : decode cX5_serve 158 = .ok (.iload 8, 2) := by decide +kernel
theorem dX5_serve_160 : decode cX5_serve 160 = .ok (.ireturn, 1) := by decide +kernel
theorem dX5_serve_121 : decode cX5_serve 121 = .ok (.bipush (-2), 2) := by decide +kernel
theorem dX5_serve_123 : decode cX5_serve 123 = .ok (.ireturn, 1) := by decide +kernel
theorem dX5_serve_12 : decode cX5_serve 12 = .ok (.aload 4, 2) := by decide +kernel
theorem dX5_serve_14 : decode cX5_serve 14 = .ok (.iconst 0, 1) := by decide +kernel
theorem dX5_serve_15 : decode cX5_serve 15 = .ok (.invokevirtual 93, 3) := by decide +kernel
theorem dX5_serve_18 : decode cX5_serve 18 = .ok (.ifCond .eq 7, 3) := by decide +kernel
theorem dX5_serve_21 : decode cX5_serve 21 = .ok (.iconst 1, 1) := by decide +kernel
theorem dX5_serve_22 : decode cX5_serve 22 = .ok (.goto 4, 3) := by decide +kernel
theorem dX5_serve_33 : decode cX5_serve 33 = .ok (.aload 4, 2) := by decide +kernel
theorem dX5_serve_35 : decode cX5_serve 35 = .ok (.iconst 1, 1) := by decide +kernel
theorem dX5_serve_36 : decode cX5_serve 36 = .ok (.invokevirtual 93, 3) := by decide +kernel
theorem dX5_serve_39 : decode cX5_serve 39 = .ok (.ifCond .eq 7, 3) := by decide +kernel
theorem dX5_serve_42 : decode cX5_serve 42 = .ok (.iconst 1, 1) := by decide +kernel
theorem dX5_serve_43 : decode cX5_serve 43 = .ok (.goto 4, 3) := by decide +kernel
theorem dX5_serve_54 : decode cX5_serve 54 = .ok (.aload 4, 2) := by decide +kernel
theorem dX5_serve_56 : decode cX5_serve 56 = .ok (.iload_n 3, 1) := by decide +kernel
theorem dX5_serve_57 : decode cX5_serve 57 = .ok (.invokevirtual 96, 3) := by decide +kernel
theorem dX5_serve_60 : decode cX5_serve 60 = .ok (.goto 4, 3) := by decide +kernel
theorem dX5_serve_86 : decode cX5_serve 86 = .ok (.aload 4, 2) := by decide +kernel
theorem dX5_serve_88 : decode cX5_serve 88 = .ok (.iload_n 3, 1) := by decide +kernel
theorem dX5_serve_89 : decode cX5_serve 89 = .ok (.iload_n 2, 1) := by decide +kernel
theorem dX5_serve_90 : decode cX5_serve 90 = .ok (.iconst 0, 1) := by decide +kernel
theorem dX5_serve_91 : decode cX5_serve 91 = .ok (.aload_n 0, 1) := by decide +kernel
theorem dX5_serve_92 : decode cX5_serve 92 = .ok (.getfield 21, 3) := by decide +kernel
theorem dX5_serve_95 : decode cX5_serve 95 = .ok (.invokevirtual 103, 3) := by decide +kernel
theorem dX5_serve_129 : decode cX5_serve 129 = .ok (.aload 4, 2) := by decide +kernel
theorem dX5_serve_131 : decode cX5_serve 131 = .ok (.iload_n 3, 1) := by decide +kernel
theorem dX5_serve_132 : decode cX5_serve 132 = .ok (.iload 8, 2) := by decide +kernel
theorem dX5_serve_134 : decode cX5_serve 134 = .ok (.invokevirtual 114, 3) := by decide +kernel
theorem dX5_serve_137 : decode cX5_serve 137 = .ok (.goto 21, 3) := by decide +kernel
theorem dX5_serve_72 : decode cX5_serve 72 = .ok (.aload 4, 2) := by decide +kernel
theorem dX5_serve_74 : decode cX5_serve 74 = .ok (.iload 7, 2) := by decide +kernel
theorem dX5_serve_76 : decode cX5_serve 76 = .ok (.iload_n 2, 1) := by decide +kernel
theorem dX5_serve_77 : decode cX5_serve 77 = .ok (.invokevirtual 99, 3) := by decide +kernel
theorem dX5_serve_80 : decode cX5_serve 80 = .ok (.ireturn, 1) := by decide +kernel
theorem dX5_serve_145 : decode cX5_serve 145 = .ok (.aload 4, 2) := by decide +kernel
theorem dX5_serve_147 : decode cX5_serve 147 = .ok (.iload_n 3, 1) := by decide +kernel
theorem dX5_serve_148 : decode cX5_serve 148 = .ok (.iload_n 2, 1) := by decide +kernel
theorem dX5_serve_149 : decode cX5_serve 149 = .ok (.iload 8, 2) := by decide +kernel
theorem dX5_serve_151 : decode cX5_serve 151 = .ok (.aload_n 0, 1) := by decide +kernel
theorem dX5_serve_152 : decode cX5_serve 152 = .ok (.getfield 21, 3) := by decide +kernel
theorem dX5_serve_155 : decode cX5_serve 155 = .ok (.invokevirtual 103, 3) := by decide +kernel
theorem dX5_runActs_159 : decode cX5_runActs 159 = .ok (.iload 6, 2) := by decide +kernel
theorem dX5_runActs_161 : decode cX5_runActs 161 = .ok (.ifCond .eq 18, 3) := by decide +kernel
theorem dX5_runActs_179 : decode cX5_runActs 179 = .ok (.iconst 0, 1) := by decide +kernel
theorem dX5_runActs_180 : decode cX5_runActs 180 = .ok (.istore 13, 2) := by decide +kernel
theorem dX5_runActs_182 : decode cX5_runActs 182 = .ok (.aload_n 0, 1) := by decide +kernel
theorem dX5_runActs_183 : decode cX5_runActs 183 = .ok (.iload 12, 2) := by decide +kernel
theorem dX5_runActs_185 : decode cX5_runActs 185 = .ok (.iload 10, 2) := by decide +kernel
theorem dX5_runActs_187 : decode cX5_runActs 187 = .ok (.iload 13, 2) := by decide +kernel
theorem dX5_runActs_189 : decode cX5_runActs 189 = .ok (.invokevirtual 89, 3) := by decide +kernel
theorem dX5_runActs_192 : decode cX5_runActs 192 = .ok (.istore 7, 2) := by decide +kernel
theorem dX5_runActs_194 : decode cX5_runActs 194 = .ok (.aload_n 0, 1) := by decide +kernel
theorem dX5_runActs_195 : decode cX5_runActs 195 = .ok (.getfield 37, 3) := by decide +kernel
theorem dX5_runActs_198 : decode cX5_runActs 198 = .ok (.ifCond .eq 6, 3) := by decide +kernel
theorem dX5_runActs_204 : decode cX5_runActs 204 = .ok (.goto 78, 3) := by decide +kernel
theorem dX5_runActs_201 : decode cX5_runActs 201 = .ok (.bipush (-2), 2) := by decide +kernel
theorem dX5_runActs_203 : decode cX5_runActs 203 = .ok (.ireturn, 1) := by decide +kernel
theorem dX5_runActs_164 : decode cX5_runActs 164 = .ok (.iload_n 3, 1) := by decide +kernel
theorem dX5_runActs_165 : decode cX5_runActs 165 = .ok (.bipush 7, 2) := by decide +kernel
theorem dX5_runActs_167 : decode cX5_runActs 167 = .ok (.iload 9, 2) := by decide +kernel
theorem dX5_runActs_169 : decode cX5_runActs 169 = .ok (.imul, 1) := by decide +kernel
theorem dX5_runActs_170 : decode cX5_runActs 170 = .ok (.iadd, 1) := by decide +kernel
theorem dX5_runActs_171 : decode cX5_runActs 171 = .ok (.bipush 99, 2) := by decide +kernel
theorem dX5_runActs_173 : decode cX5_runActs 173 = .ok (.irem, 1) := by decide +kernel
theorem dX5_runActs_174 : decode cX5_runActs 174 = .ok (.iconst 1, 1) := by decide +kernel
theorem dX5_runActs_175 : decode cX5_runActs 175 = .ok (.iadd, 1) := by decide +kernel
theorem dX5_runActs_176 : decode cX5_runActs 176 = .ok (.goto 4, 3) := by decide +kernel
def md_s_askedBy : Nat → Nat → Bool := fun _ _ => false
theorem mdle_s_askedBy_s_canAsk {r k : Nat} (h : md_s_askedBy r k = false) : md_s_canAsk r k = false := by
  first | rfl | (simp only [md_s_askedBy, md_s_canAsk, Bool.or_eq_false_iff, Bool.and_eq_false_iff, beq_eq_false_iff_ne] at h ⊢; omega)
set_option maxHeartbeats 4000000 in
set_option maxRecDepth 100000 in
theorem lt_s_askedBy_a (l : Launch) (D : va_G) (cI cZ cS cR : ClassId) (N0 : NT) (fr : Int32) (g : GS) (h : Nat) (n : Int32) (r_h : g.1 h = 6) (l_n : 0 ≤ n.toInt) (u_n : n.toInt ≤ 5) {p : Program} {e : Env} {s : State} {m : MethodId} {args : Array Value} {below : List Frame} {meth : Method} {c : Code} (hB : Tz p s m meth c args cX5_askedBy 5 RX5 D cI cZ cS cR N0) (hr : meth.sig.returnType = (some .int))  : ∀ (kf : Nat) (g1 : GS) (i : Int32) (j : Int32) (q : Nat) (H : Heap) (locs : List Loc) (ls : Array Slot), Tv D cI cZ cS cR N0 s.heap H locs g1 → Inv fr g1 → Ex g g1 → Sm md_s_askedBy g g1 → 0 ≤ i.toInt → i.toInt ≤ 8 → g1.1 q = 3 → 8 ≤ i.toInt + kf → lv_has ls 5 [(4, .int i), (3, .int j), (2, .ref q), (0, .ref h), (1, .int n)] → W p l e (rmx 1 0 0) s m args below meth c H locs 0 0 (MQ below (tQ D cI cZ cS cR N0 (fun v g' => ∃ (r : Int32), v = some (.int r) ∧ Inv fr g' ∧ Ex g g' ∧ Sm md_s_askedBy g g')) args s 0 0 (fun q => N0.1 ≤ q)) (F0 m 15 ls []) := by
  have hx := hB.1
  have hb := hB.2.1
  intro kf
  induction kf using Nat.strongRecOn with
  | ind kf ih =>
    intro g1 i j q H locs ls hT hI hE hM l_i u_i r1_q hk hl
    have r1_h : g1.1 h = 6 := Ex.r hE r_h (by decide)
    refine lv_iload hx hb dX5_askedBy_15 (lv_at hl 0 rfl) ?_
    refine lv_aload_n hx hb dX5_askedBy_17 rfl (lv_at hl 2 rfl) ?_
    obtain ⟨v_1, e_v_1, l_v_1, u_v_1⟩ := hI.f r1_q 3
    refine t_get (ci := 2) (v := .int v_1) hB hT (ro_ci r1_q rfl) rfl 3 (by decide) k_133 e_v_1 dX5_askedBy_18 ?_
    refine lv_icmp_ge (tgt := 68) hx hb dX5_askedBy_21 (by decide) (fun c_2 => ?_) (fun c_2 => ?_)
    · have c_2' : v_1.toInt ≤ i.toInt := i_le c_2 rfl rfl
      refine lv_iload_n hx hb dX5_askedBy_68 rfl (lv_at hl 1 rfl) ?_
      exact t_iret hB hr hT (Nat.le_of_ble_eq_true rfl) (Nat.le_of_ble_eq_true rfl) dX5_askedBy_69 ⟨j, rfl, hI, hE, hM⟩
    · have c_2' : i.toInt < v_1.toInt := i_nle c_2 rfl rfl
      refine lv_aload_n hx hb dX5_askedBy_24 rfl (lv_at hl 2 rfl) ?_
      obtain ⟨v_3, e_v_3, r_v_3, n_v_3⟩ := hI.f r1_q 0
      refine t_get (ci := 2) (v := .ref v_3) hB hT (ro_ci r1_q rfl) rfl 0 (by decide) k_122 e_v_3 dX5_askedBy_25 ?_
      refine lv_iload hx hb dX5_askedBy_28 (lv_at hl 0 rfl) ?_
      have i_u_4 : vp_in i 8 := (i_in (n := 8) rfl (by omega) (by omega))
      refine t_iald hB hT (ro_in r_v_3 (by decide)) n_v_3 i_u_4 rfl dX5_askedBy_30 ?_
      refine lv_topi (fun u_4 e_u_4 => ?_)
      refine lv_iconst (v := 5) hx hb dX5_askedBy_31 (by decide) ?_
      refine lv_icmp_ne (tgt := 62) hx hb dX5_askedBy_32 (by decide) (fun c_5 => ?_) (fun c_5 => ?_)
      · have c_5' : u_4.toInt ≠ 5 := i_ne c_5 rfl (by decide)
        obtain ⟨z_6, ez_6⟩ : ∃ z : Int32, z = i + 1 := ⟨_, rfl⟩
        have e_z_6 : z_6.toInt = i.toInt + 1 := i_add ez_6 rfl (by decide) (by omega) (by omega)
        refine lv_iinc (v := z_6) (lv' := [(4, .int z_6), (3, .int j), (2, .ref q), (0, .ref h), (1, .int n)]) hx hb dX5_askedBy_62 hl (k := 0) rfl (by rw [ez_6]; rfl) (by decide) rfl (fun ls hl => ?_)
        refine lv_goto (tgt := 15) hx hb dX5_askedBy_65 (by decide) ?_
        exact ih (kf - 1) (by omega) g1 z_6 j q H locs ls hT hI hE hM (by omega) (by omega) r1_q (by have e0 := z0; omega) (lv_sub hl [0, 1, 2, 3, 4] rfl)
      · have c_5' : u_4.toInt = 5 := i_eq c_5 rfl (by decide)
        refine lv_aload_n hx hb dX5_askedBy_35 rfl (lv_at hl 3 rfl) ?_
        refine lv_iload_n hx hb dX5_askedBy_36 rfl (lv_at hl 4 rfl) ?_
        refine lv_aload_n hx hb dX5_askedBy_37 rfl (lv_at hl 2 rfl) ?_
        obtain ⟨v_7, e_v_7, r_v_7, n_v_7⟩ := hI.f r1_q 1
        refine t_get (ci := 2) (v := .ref v_7) hB hT (ro_ci r1_q rfl) rfl 1 (by decide) k_126 e_v_7 dX5_askedBy_38 ?_
        refine lv_iload hx hb dX5_askedBy_41 (lv_at hl 0 rfl) ?_
        have i_u_8 : vp_in i 8 := (i_in (n := 8) rfl (by omega) (by omega))
        refine t_iald hB hT (ro_in r_v_7 (by decide)) n_v_7 i_u_8 rfl dX5_askedBy_43 ?_
        have c_u_8 := hI.c r_v_7 n_v_7 (i_cl i_u_8)
        refine lv_topi (fun u_8 e_u_8 => ?_)
        obtain ⟨l_u_8, u_u_8⟩ := c_u_8
        rw [← e_u_8] at l_u_8 u_u_8
        refine t_callV (n := 2) (ci := 5) (As := [.int n, .int u_8]) (rest := []) hB hT hl.1 (s_canAsk l D cI cZ cS cR N0 fr g1 hI h n u_8 r1_h) (ro_ci r1_h rfl) rfl k_477 k_59 k_474 k_476 k_10 (by decide +kernel) ⟨(Nat.le_of_ble_eq_true rfl), (Nat.le_of_ble_eq_true rfl)⟩ rfl (Nat.le_of_ble_eq_true rfl) ⟨(Nat.le_of_ble_eq_true rfl), (Nat.le_of_ble_eq_true rfl)⟩ dX5_askedBy_44 (fun v g_9 H locs hp hT => ?_)
        obtain ⟨r_10, rfl, hI, x_13, m_12, f_11⟩ := hp
        have r_14 : g_9.1 h = 6 := (Ex.r x_13 r1_h (by decide))
        have r_15 : g_9.1 q = 3 := (Ex.r x_13 r1_q (by decide))
        have r_16 : g_9.1 v_3 = 20 := (Ex.r x_13 r_v_3 (by decide))
        have r_17 : g_9.1 v_7 = 21 := (Ex.r x_13 r_v_7 (by decide))
        have n_18 : g_9.2.2.1 v_3 = 8 := (Ex.n x_13 r_v_3 (by decide) n_v_3)
        have n_19 : g_9.2.2.1 v_7 = 8 := (Ex.n x_13 r_v_7 (by decide) n_v_7)
        have e_20 : g_9.2.1 q 3 = .int v_1 := (Sm.v m_12 r1_q (by decide) rfl e_v_1)
        have e_21 : g_9.2.1 q 0 = .ref v_3 := (Sm.v m_12 r1_q (by decide) rfl e_v_3)
        have e_22 : g_9.2.1 q 1 = .ref v_7 := (Sm.v m_12 r1_q (by decide) rfl e_v_7)
        have hM : Sm md_s_askedBy g g_9 := hM.tr hE (m_12.mo (fun r k h => mdle_s_askedBy_s_canAsk h))
        have hE : Ex g g_9 := hE.tr x_13
        refine W.eq (g2 := F0 m 47 ls [.int r_10]) rfl ?_
        rcases f_11 with ⟨rfl, hw_23, hw_24⟩ | rfl
        · refine W.eq (g2 := F0 m 47 ls [.int 1]) rfl ?_
          refine lv_if_eq (tgt := 62) hx hb dX5_askedBy_47 (by decide) (fun c_ => absurd c_ (by decide)) (fun c_ => ?_)
          refine lv_iload_n hx hb dX5_askedBy_50 rfl (lv_at hl 1 rfl) ?_
          refine lv_iconst (v := 1) hx hb dX5_askedBy_51 (by decide) ?_
          refine lv_aload_n hx hb dX5_askedBy_52 rfl (lv_at hl 2 rfl) ?_
          refine t_get (ci := 2) (v := .ref v_7) hB hT (ro_ci r_15 rfl) rfl 1 (by decide) k_126 e_22 dX5_askedBy_53 ?_
          refine lv_iload hx hb dX5_askedBy_56 (lv_at hl 0 rfl) ?_
          have i_u_25 : vp_in i 8 := (i_in (n := 8) rfl (by omega) (by omega))
          refine t_iald hB hT (ro_in r_17 (by decide)) n_19 i_u_25 rfl dX5_askedBy_58 ?_
          have c_u_25 := hI.c r_17 n_19 (i_cl i_u_25)
          refine lv_topi (fun u_25 e_u_25 => ?_)
          obtain ⟨l_u_25, u_u_25⟩ := c_u_25
          rw [← e_u_25] at l_u_25 u_u_25
          refine lv_ishl hx hb dX5_askedBy_59 ?_
          refine lv_topi (fun z_26 ez_26 => ?_)
          refine lv_ior hx hb dX5_askedBy_60 ?_
          refine lv_topi (fun z_27 ez_27 => ?_)
          refine lv_istore_n (lv' := [(3, .int z_27), (4, .int i), (2, .ref q), (0, .ref h), (1, .int n)]) hx hb dX5_askedBy_61 rfl hl (by decide) rfl (fun ls hl => ?_)
          obtain ⟨z_28, ez_28⟩ : ∃ z : Int32, z = i + 1 := ⟨_, rfl⟩
          have e_z_28 : z_28.toInt = i.toInt + 1 := i_add ez_28 rfl (by decide) (by omega) (by omega)
          refine lv_iinc (v := z_28) (lv' := [(4, .int z_28), (3, .int z_27), (2, .ref q), (0, .ref h), (1, .int n)]) hx hb dX5_askedBy_62 hl (k := 1) rfl (by rw [ez_28]; rfl) (by decide) rfl (fun ls hl => ?_)
          refine lv_goto (tgt := 15) hx hb dX5_askedBy_65 (by decide) ?_
          exact ih (kf - 1) (by omega) g_9 z_28 z_27 q H locs ls hT hI hE hM (by omega) (by omega) r_15 (by have e0 := z0; omega) (lv_sub hl [0, 1, 2, 3, 4] rfl)
        · refine W.eq (g2 := F0 m 47 ls [.int 0]) rfl ?_
          refine lv_if_eq (tgt := 62) hx hb dX5_askedBy_47 (by decide) (fun c_ => ?_) (fun c_ => absurd (by decide) c_)
          obtain ⟨z_29, ez_29⟩ : ∃ z : Int32, z = i + 1 := ⟨_, rfl⟩
          have e_z_29 : z_29.toInt = i.toInt + 1 := i_add ez_29 rfl (by decide) (by omega) (by omega)
          refine lv_iinc (v := z_29) (lv' := [(4, .int z_29), (3, .int j), (2, .ref q), (0, .ref h), (1, .int n)]) hx hb dX5_askedBy_62 hl (k := 0) rfl (by rw [ez_29]; rfl) (by decide) rfl (fun ls hl => ?_)
          refine lv_goto (tgt := 15) hx hb dX5_askedBy_65 (by decide) ?_
          exact ih (kf - 1) (by omega) g_9 z_29 j q H locs ls hT hI hE hM (by omega) (by omega) r_15 (by have e0 := z0; omega) (lv_sub hl [0, 1, 2, 3, 4] rfl)
set_option maxHeartbeats 4000000 in
set_option maxRecDepth 100000 in
theorem s_askedBy (l : Launch) (D : va_G) (cI cZ cS cR : ClassId) (N0 : NT) (fr : Int32) (g : GS) (hI : Inv fr g) (h : Nat) (n : Int32) (r_h : g.1 h = 6) (l_n : 0 ≤ n.toInt) (u_n : n.toInt ≤ 5) : Ty l D cI cZ cS cR N0 yX5_askedBy cX5_askedBy 5 (some .int) 1 0 0 [.ref h, .int n] g (fun v g' => ∃ (r : Int32), v = some (.int r) ∧ Inv fr g' ∧ Ex g g' ∧ Sm md_s_askedBy g g') := by
  refine t_enter (by decide) (Nat.le_of_ble_eq_true rfl) ?_
  intro p e s m args below meth c ls H locs hB hr hin hl hT
  have hx := hB.1
  have hb := hB.2.1
  have hl : lv_has ls 5 [(0, .ref h), (1, .int n)] := hl
  have hE : Ex g g := Ex.rf
  have hM : Sm md_s_askedBy g g := Sm.rf
  refine lv_aload_n hx hb dX5_askedBy_0 rfl (lv_at hl 0 rfl) ?_
  obtain ⟨v_1, e_v_1, r_v_1, n_v_1⟩ := hI.f r_h 0
  refine t_get (ci := 5) (v := .ref v_1) hB hT (ro_ci r_h rfl) rfl 0 (by decide) k_199 e_v_1 dX5_askedBy_1 ?_
  refine lv_iload_n hx hb dX5_askedBy_4 rfl (lv_at hl 1 rfl) ?_
  have i_q_2 : vp_in n 6 := (i_in (n := 6) rfl (by omega) (by omega))
  obtain ⟨q_2, e_q_2, r_q_2⟩ := hI.q r_v_1 n_v_1 (i_cl i_q_2)
  refine t_aald hB hT (Or.inl r_v_1) n_v_1 i_q_2 e_q_2 dX5_askedBy_5 ?_
  obtain ⟨v_3, e_v_3, r_v_3⟩ := hI.f r_q_2 0
  refine t_get (ci := 3) (v := .ref v_3) hB hT (ro_ci r_q_2 rfl) rfl 0 (by decide) k_145 e_v_3 dX5_askedBy_6 ?_
  refine lv_astore_n (lv' := [(2, .ref v_3), (0, .ref h), (1, .int n)]) hx hb dX5_askedBy_9 rfl hl (by decide) rfl (fun ls hl => ?_)
  refine lv_iconst (v := 0) hx hb dX5_askedBy_10 (by decide) ?_
  refine lv_istore_n (lv' := [(3, .int 0), (2, .ref v_3), (0, .ref h), (1, .int n)]) hx hb dX5_askedBy_11 rfl hl (by decide) rfl (fun ls hl => ?_)
  refine lv_iconst (v := 0) hx hb dX5_askedBy_12 (by decide) ?_
  refine lv_istore (lv' := [(4, .int 0), (3, .int 0), (2, .ref v_3), (0, .ref h), (1, .int n)]) hx hb dX5_askedBy_13 hl (by decide) rfl (fun ls hl => ?_)
  exact lt_s_askedBy_a l D cI cZ cS cR N0 fr g h n r_h l_n u_n hB hr 8 g (0 : Int32) (0 : Int32) v_3 H locs ls hT hI hE hM (by decide) (by decide) r_v_3 (by have e0 := z0; omega) (lv_sub hl [0, 1, 2, 3, 4] rfl)
def md_s_isSilent : Nat → Nat → Bool := fun _ _ => false
set_option maxHeartbeats 4000000 in
set_option maxRecDepth 100000 in
theorem lt_s_isSilent_a (l : Launch) (D : va_G) (cI cZ cS cR : ClassId) (N0 : NT) (fr : Int32) (g : GS) (h : Nat) (n : Int32) (r_h : g.1 h = 6) (l_n : 0 ≤ n.toInt) (u_n : n.toInt ≤ 5) {p : Program} {e : Env} {s : State} {m : MethodId} {args : Array Value} {below : List Frame} {meth : Method} {c : Code} (hB : Tz p s m meth c args cX5_isSilent 5 RX5 D cI cZ cS cR N0) (hr : meth.sig.returnType = (some .boolean))  : ∀ (kf : Nat) (g1 : GS) (i : Int32) (q : Nat) (H : Heap) (locs : List Loc) (ls : Array Slot), Tv D cI cZ cS cR N0 s.heap H locs g1 → Inv fr g1 → Ex g g1 → Sm md_s_isSilent g g1 → 0 ≤ i.toInt → i.toInt ≤ 8 → g1.1 q = 3 → 8 ≤ i.toInt + kf → lv_has ls 5 [(3, .int i), (2, .ref q), (0, .ref h), (1, .int n)] → W p l e (rmx 1 0 0) s m args below meth c H locs 0 0 (MQ below (tQ D cI cZ cS cR N0 (fun v g' => ∃ (r : Int32), v = some (.int r) ∧ Inv fr g' ∧ Ex g g' ∧ Sm md_s_isSilent g g' ∧ (r = 1 ∨ r = 0))) args s 0 0 (fun q => N0.1 ≤ q)) (F0 m 12 ls []) := by
  have hx := hB.1
  have hb := hB.2.1
  intro kf
  induction kf using Nat.strongRecOn with
  | ind kf ih =>
    intro g1 i q H locs ls hT hI hE hM l_i u_i r1_q hk hl
    have r1_h : g1.1 h = 6 := Ex.r hE r_h (by decide)
    refine lv_iload_n hx hb dX5_isSilent_12 rfl (lv_at hl 0 rfl) ?_
    refine lv_aload_n hx hb dX5_isSilent_13 rfl (lv_at hl 1 rfl) ?_
    obtain ⟨v_1, e_v_1, l_v_1, u_v_1⟩ := hI.f r1_q 3
    refine t_get (ci := 2) (v := .int v_1) hB hT (ro_ci r1_q rfl) rfl 3 (by decide) k_133 e_v_1 dX5_isSilent_14 ?_
    refine lv_icmp_ge (tgt := 55) hx hb dX5_isSilent_17 (by decide) (fun c_2 => ?_) (fun c_2 => ?_)
    · have c_2' : v_1.toInt ≤ i.toInt := i_le c_2 rfl rfl
      refine lv_iconst (v := 1) hx hb dX5_isSilent_55 (by decide) ?_
      exact t_zret hB hr rfl hT (Nat.le_of_ble_eq_true rfl) (Nat.le_of_ble_eq_true rfl) dX5_isSilent_56 ⟨1, rfl, hI, hE, hM, (Or.inl rfl)⟩
    · have c_2' : i.toInt < v_1.toInt := i_nle c_2 rfl rfl
      refine lv_aload_n hx hb dX5_isSilent_20 rfl (lv_at hl 1 rfl) ?_
      obtain ⟨v_3, e_v_3, r_v_3, n_v_3⟩ := hI.f r1_q 0
      refine t_get (ci := 2) (v := .ref v_3) hB hT (ro_ci r1_q rfl) rfl 0 (by decide) k_122 e_v_3 dX5_isSilent_21 ?_
      refine lv_iload_n hx hb dX5_isSilent_24 rfl (lv_at hl 0 rfl) ?_
      have i_u_4 : vp_in i 8 := (i_in (n := 8) rfl (by omega) (by omega))
      refine t_iald hB hT (ro_in r_v_3 (by decide)) n_v_3 i_u_4 rfl dX5_isSilent_25 ?_
      refine lv_topi (fun u_4 e_u_4 => ?_)
      refine lv_istore (lv' := [(4, .int u_4), (3, .int i), (2, .ref q), (0, .ref h), (1, .int n)]) hx hb dX5_isSilent_26 hl (by decide) rfl (fun ls hl => ?_)
      refine lv_iload hx hb dX5_isSilent_28 (lv_at hl 0 rfl) ?_
      refine lv_iconst (v := 4) hx hb dX5_isSilent_30 (by decide) ?_
      refine lv_icmp_eq (tgt := 49) hx hb dX5_isSilent_31 (by decide) (fun c_5 => ?_) (fun c_5 => ?_)
      · have c_5' : u_4.toInt = 4 := i_eq c_5 rfl (by decide)
        obtain ⟨z_6, ez_6⟩ : ∃ z : Int32, z = i + 1 := ⟨_, rfl⟩
        have e_z_6 : z_6.toInt = i.toInt + 1 := i_add ez_6 rfl (by decide) (by omega) (by omega)
        refine lv_iinc (v := z_6) (lv' := [(3, .int z_6), (4, .int u_4), (2, .ref q), (0, .ref h), (1, .int n)]) hx hb dX5_isSilent_49 hl (k := 1) rfl (by rw [ez_6]; rfl) (by decide) rfl (fun ls hl => ?_)
        refine lv_goto (tgt := 12) hx hb dX5_isSilent_52 (by decide) ?_
        exact ih (kf - 1) (by omega) g1 z_6 q H locs ls hT hI hE hM (by omega) (by omega) r1_q (by have e0 := z0; omega) (lv_sub hl [0, 2, 3, 4] rfl)
      · have c_5' : u_4.toInt ≠ 4 := i_ne c_5 rfl (by decide)
        refine lv_iload hx hb dX5_isSilent_34 (lv_at hl 0 rfl) ?_
        refine lv_iconst (v := 5) hx hb dX5_isSilent_36 (by decide) ?_
        refine lv_icmp_eq (tgt := 49) hx hb dX5_isSilent_37 (by decide) (fun c_7 => ?_) (fun c_7 => ?_)
        · have c_7' : u_4.toInt = 5 := i_eq c_7 rfl (by decide)
          obtain ⟨z_8, ez_8⟩ : ∃ z : Int32, z = i + 1 := ⟨_, rfl⟩
          have e_z_8 : z_8.toInt = i.toInt + 1 := i_add ez_8 rfl (by decide) (by omega) (by omega)
          refine lv_iinc (v := z_8) (lv' := [(3, .int z_8), (4, .int u_4), (2, .ref q), (0, .ref h), (1, .int n)]) hx hb dX5_isSilent_49 hl (k := 1) rfl (by rw [ez_8]; rfl) (by decide) rfl (fun ls hl => ?_)
          refine lv_goto (tgt := 12) hx hb dX5_isSilent_52 (by decide) ?_
          exact ih (kf - 1) (by omega) g1 z_8 q H locs ls hT hI hE hM (by omega) (by omega) r1_q (by have e0 := z0; omega) (lv_sub hl [0, 2, 3, 4] rfl)
        · have c_7' : u_4.toInt ≠ 5 := i_ne c_7 rfl (by decide)
          refine lv_iload hx hb dX5_isSilent_40 (lv_at hl 0 rfl) ?_
          refine lv_bipush (v := 7) hx hb dX5_isSilent_42 (by decide) ?_
          refine lv_icmp_eq (tgt := 49) hx hb dX5_isSilent_44 (by decide) (fun c_9 => ?_) (fun c_9 => ?_)
          · have c_9' : u_4.toInt = 7 := i_eq c_9 rfl (by decide)
            obtain ⟨z_10, ez_10⟩ : ∃ z : Int32, z = i + 1 := ⟨_, rfl⟩
            have e_z_10 : z_10.toInt = i.toInt + 1 := i_add ez_10 rfl (by decide) (by omega) (by omega)
            refine lv_iinc (v := z_10) (lv' := [(3, .int z_10), (4, .int u_4), (2, .ref q), (0, .ref h), (1, .int n)]) hx hb dX5_isSilent_49 hl (k := 1) rfl (by rw [ez_10]; rfl) (by decide) rfl (fun ls hl => ?_)
            refine lv_goto (tgt := 12) hx hb dX5_isSilent_52 (by decide) ?_
            exact ih (kf - 1) (by omega) g1 z_10 q H locs ls hT hI hE hM (by omega) (by omega) r1_q (by have e0 := z0; omega) (lv_sub hl [0, 2, 3, 4] rfl)
          · have c_9' : u_4.toInt ≠ 7 := i_ne c_9 rfl (by decide)
            refine lv_iconst (v := 0) hx hb dX5_isSilent_47 (by decide) ?_
            exact t_zret hB hr rfl hT (Nat.le_of_ble_eq_true rfl) (Nat.le_of_ble_eq_true rfl) dX5_isSilent_48 ⟨0, rfl, hI, hE, hM, (Or.inr rfl)⟩
set_option maxHeartbeats 4000000 in
set_option maxRecDepth 100000 in
theorem s_isSilent (l : Launch) (D : va_G) (cI cZ cS cR : ClassId) (N0 : NT) (fr : Int32) (g : GS) (hI : Inv fr g) (h : Nat) (n : Int32) (r_h : g.1 h = 6) (l_n : 0 ≤ n.toInt) (u_n : n.toInt ≤ 5) : Ty l D cI cZ cS cR N0 yX5_isSilent cX5_isSilent 5 (some .boolean) 1 0 0 [.ref h, .int n] g (fun v g' => ∃ (r : Int32), v = some (.int r) ∧ Inv fr g' ∧ Ex g g' ∧ Sm md_s_isSilent g g' ∧ (r = 1 ∨ r = 0)) := by
  refine t_enter (by decide) (Nat.le_of_ble_eq_true rfl) ?_
  intro p e s m args below meth c ls H locs hB hr hin hl hT
  have hx := hB.1
  have hb := hB.2.1
  have hl : lv_has ls 5 [(0, .ref h), (1, .int n)] := hl
  have hE : Ex g g := Ex.rf
  have hM : Sm md_s_isSilent g g := Sm.rf
  refine lv_aload_n hx hb dX5_isSilent_0 rfl (lv_at hl 0 rfl) ?_
  obtain ⟨v_1, e_v_1, r_v_1, n_v_1⟩ := hI.f r_h 0
  refine t_get (ci := 5) (v := .ref v_1) hB hT (ro_ci r_h rfl) rfl 0 (by decide) k_199 e_v_1 dX5_isSilent_1 ?_
  refine lv_iload_n hx hb dX5_isSilent_4 rfl (lv_at hl 1 rfl) ?_
  have i_q_2 : vp_in n 6 := (i_in (n := 6) rfl (by omega) (by omega))
  obtain ⟨q_2, e_q_2, r_q_2⟩ := hI.q r_v_1 n_v_1 (i_cl i_q_2)
  refine t_aald hB hT (Or.inl r_v_1) n_v_1 i_q_2 e_q_2 dX5_isSilent_5 ?_
  obtain ⟨v_3, e_v_3, r_v_3⟩ := hI.f r_q_2 0
  refine t_get (ci := 3) (v := .ref v_3) hB hT (ro_ci r_q_2 rfl) rfl 0 (by decide) k_145 e_v_3 dX5_isSilent_6 ?_
  refine lv_astore_n (lv' := [(2, .ref v_3), (0, .ref h), (1, .int n)]) hx hb dX5_isSilent_9 rfl hl (by decide) rfl (fun ls hl => ?_)
  refine lv_iconst (v := 0) hx hb dX5_isSilent_10 (by decide) ?_
  refine lv_istore_n (lv' := [(3, .int 0), (2, .ref v_3), (0, .ref h), (1, .int n)]) hx hb dX5_isSilent_11 rfl hl (by decide) rfl (fun ls hl => ?_)
  exact lt_s_isSilent_a l D cI cZ cS cR N0 fr g h n r_h l_n u_n hB hr 8 g (0 : Int32) v_3 H locs ls hT hI hE hM (by decide) (by decide) r_v_3 (by have e0 := z0; omega) (lv_sub hl [0, 1, 2, 3] rfl)
def md_s_isReader : Nat → Nat → Bool := fun _ _ => false
theorem mdle_s_isReader_s_askedBy {r k : Nat} (h : md_s_isReader r k = false) : md_s_askedBy r k = false := by
  first | rfl | (simp only [md_s_isReader, md_s_askedBy, Bool.or_eq_false_iff, Bool.and_eq_false_iff, beq_eq_false_iff_ne] at h ⊢; omega)
theorem mdle_s_isReader_s_isSilent {r k : Nat} (h : md_s_isReader r k = false) : md_s_isSilent r k = false := by
  first | rfl | (simp only [md_s_isReader, md_s_isSilent, Bool.or_eq_false_iff, Bool.and_eq_false_iff, beq_eq_false_iff_ne] at h ⊢; omega)
set_option maxHeartbeats 4000000 in
set_option maxRecDepth 100000 in
theorem lt_s_isReader_a (l : Launch) (D : va_G) (cI cZ cS cR : ClassId) (N0 : NT) (fr : Int32) (g : GS) (h : Nat) (n : Int32) (r_h : g.1 h = 6) (l_n : 0 ≤ n.toInt) (u_n : n.toInt ≤ 5) {p : Program} {e : Env} {s : State} {m : MethodId} {args : Array Value} {below : List Frame} {meth : Method} {c : Code} (hB : Tz p s m meth c args cX5_isReader 4 RX5 D cI cZ cS cR N0) (hr : meth.sig.returnType = (some .boolean))  : ∀ (kf : Nat) (g1 : GS) (t : Int32) (j : Int32)  (H : Heap) (locs : List Loc) (ls : Array Slot), Tv D cI cZ cS cR N0 s.heap H locs g1 → Inv fr g1 → Ex g g1 → Sm md_s_isReader g g1 → -1 ≤ t.toInt → t.toInt ≤ 5 → t.toInt + 1 ≤ kf → lv_has ls 4 [(3, .int t), (2, .int j), (0, .ref h), (1, .int n)] → W p l e (rmx 2 0 0) s m args below meth c H locs 0 0 (MQ below (tQ D cI cZ cS cR N0 (fun v g' => ∃ (r : Int32), v = some (.int r) ∧ Inv fr g' ∧ Ex g g' ∧ Sm md_s_isReader g g' ∧ (r = 1 ∨ r = 0))) args s 0 0 (fun q => N0.1 ≤ q)) (F0 m 9 ls []) := by
  have hx := hB.1
  have hb := hB.2.1
  intro kf
  induction kf using Nat.strongRecOn with
  | ind kf ih =>
    intro g1 t j H locs ls hT hI hE hM l_t u_t hk hl
    have r1_h : g1.1 h = 6 := Ex.r hE r_h (by decide)
    refine lv_iload_n hx hb dX5_isReader_9 rfl (lv_at hl 0 rfl) ?_
    refine lv_iload_n hx hb dX5_isReader_10 rfl (lv_at hl 3 rfl) ?_
    refine lv_icmp_lt (tgt := 46) hx hb dX5_isReader_11 (by decide) (fun c_1 => ?_) (fun c_1 => ?_)
    · have c_1' : t.toInt < n.toInt := i_lt c_1 rfl rfl
      refine lv_iload_n hx hb dX5_isReader_46 rfl (lv_at hl 1 rfl) ?_
      refine lv_iload_n hx hb dX5_isReader_47 rfl (lv_at hl 3 rfl) ?_
      refine lv_ishr hx hb dX5_isReader_48 ?_
      refine lv_topi (fun z_2 ez_2 => ?_)
      refine lv_iconst (v := 1) hx hb dX5_isReader_49 (by decide) ?_
      refine lv_iand hx hb dX5_isReader_50 ?_
      refine lv_topi (fun z_3 ez_3 => ?_)
      have e_z_3 := i_and 1 (b := 1) ez_3 (by decide) (by decide) (by decide)
      refine lv_iconst (v := 1) hx hb dX5_isReader_51 (by decide) ?_
      refine lv_icmp_ne (tgt := 59) hx hb dX5_isReader_52 (by decide) (fun c_4 => ?_) (fun c_4 => ?_)
      · have c_4' : z_3.toInt ≠ 1 := i_ne c_4 rfl (by decide)
        refine lv_iconst (v := 0) hx hb dX5_isReader_59 (by decide) ?_
        exact t_zret hB hr rfl hT (Nat.le_of_ble_eq_true rfl) (Nat.le_of_ble_eq_true rfl) dX5_isReader_60 ⟨0, rfl, hI, hE, hM, (Or.inr rfl)⟩
      · have c_4' : z_3.toInt = 1 := i_eq c_4 rfl (by decide)
        refine lv_iconst (v := 1) hx hb dX5_isReader_55 (by decide) ?_
        refine lv_goto (tgt := 60) hx hb dX5_isReader_56 (by decide) ?_
        exact t_zret hB hr rfl hT (Nat.le_of_ble_eq_true rfl) (Nat.le_of_ble_eq_true rfl) dX5_isReader_60 ⟨1, rfl, hI, hE, hM, (Or.inl rfl)⟩
    · have c_1' : n.toInt ≤ t.toInt := i_nlt c_1 rfl rfl
      refine lv_aload_n hx hb dX5_isReader_14 rfl (lv_at hl 2 rfl) ?_
      refine lv_iload_n hx hb dX5_isReader_15 rfl (lv_at hl 0 rfl) ?_
      refine t_callV (n := 1) (ci := 5) (As := [.int t]) (rest := []) hB hT hl.1 (s_isSilent l D cI cZ cS cR N0 fr g1 hI h t r1_h (by omega) (by omega)) (ro_ci r1_h rfl) rfl k_469 k_59 k_466 k_468 k_8 (by decide +kernel) ⟨(Nat.le_of_ble_eq_true rfl), (Nat.le_of_ble_eq_true rfl)⟩ rfl (Nat.le_of_ble_eq_true rfl) ⟨(Nat.le_of_ble_eq_true rfl), (Nat.le_of_ble_eq_true rfl)⟩ dX5_isReader_16 (fun v g_5 H locs hp hT => ?_)
      obtain ⟨r_6, rfl, hI, x_9, m_8, f_7⟩ := hp
      have r_10 : g_5.1 h = 6 := (Ex.r x_9 r1_h (by decide))
      have hM : Sm md_s_isReader g g_5 := hM.tr hE (m_8.mo (fun r k h => mdle_s_isReader_s_isSilent h))
      have hE : Ex g g_5 := hE.tr x_9
      refine W.eq (g2 := F0 m 19 ls [.int r_6]) rfl ?_
      rcases f_7 with rfl | rfl
      · refine W.eq (g2 := F0 m 19 ls [.int 1]) rfl ?_
        refine lv_if_eq (tgt := 40) hx hb dX5_isReader_19 (by decide) (fun c_ => absurd c_ (by decide)) (fun c_ => ?_)
        refine lv_aload_n hx hb dX5_isReader_22 rfl (lv_at hl 2 rfl) ?_
        refine lv_iload_n hx hb dX5_isReader_23 rfl (lv_at hl 0 rfl) ?_
        refine t_callV (n := 1) (ci := 5) (As := [.int t]) (rest := []) hB hT hl.1 (s_askedBy l D cI cZ cS cR N0 fr g_5 hI h t r_10 (by omega) (by omega)) (ro_ci r_10 rfl) rfl k_473 k_59 k_470 k_472 k_9 (by decide +kernel) ⟨(Nat.le_of_ble_eq_true rfl), (Nat.le_of_ble_eq_true rfl)⟩ rfl (Nat.le_of_ble_eq_true rfl) ⟨(Nat.le_of_ble_eq_true rfl), (Nat.le_of_ble_eq_true rfl)⟩ dX5_isReader_24 (fun v g_11 H locs hp hT => ?_)
        obtain ⟨r_12, rfl, hI, x_14, m_13⟩ := hp
        have r_15 : g_11.1 h = 6 := (Ex.r x_14 r_10 (by decide))
        have hM : Sm md_s_isReader g g_11 := hM.tr hE (m_13.mo (fun r k h => mdle_s_isReader_s_askedBy h))
        have hE : Ex g g_11 := hE.tr x_14
        refine W.eq (g2 := F0 m 27 ls [.int r_12]) rfl ?_
        refine lv_iload_n hx hb dX5_isReader_27 rfl (lv_at hl 1 rfl) ?_
        refine lv_iconst (v := (-1)) hx hb dX5_isReader_28 (by decide) ?_
        refine lv_ixor hx hb dX5_isReader_29 ?_
        refine lv_topi (fun z_16 ez_16 => ?_)
        refine lv_iand hx hb dX5_isReader_30 ?_
        refine lv_topi (fun z_17 ez_17 => ?_)
        refine lv_if_ne (tgt := 40) hx hb dX5_isReader_31 (by decide) (fun c_18 => ?_) (fun c_18 => ?_)
        · have c_18' : z_17.toInt ≠ 0 := i_ne c_18 rfl (by decide)
          obtain ⟨z_19, ez_19⟩ : ∃ z : Int32, z = t + (-1) := ⟨_, rfl⟩
          have e_z_19 : z_19.toInt = t.toInt + (-1) := i_add ez_19 rfl (by decide) (by omega) (by omega)
          refine lv_iinc (v := z_19) (lv' := [(3, .int z_19), (2, .int j), (0, .ref h), (1, .int n)]) hx hb dX5_isReader_40 hl (k := 0) rfl (by rw [ez_19]; rfl) (by decide) rfl (fun ls hl => ?_)
          refine lv_goto (tgt := 9) hx hb dX5_isReader_43 (by decide) ?_
          exact ih (kf - 1) (by omega) g_11 z_19 j H locs ls hT hI hE hM (by omega) (by omega) (by have e0 := z0; omega) (lv_sub hl [0, 1, 2, 3] rfl)
        · have c_18' : z_17.toInt = 0 := i_eq c_18 rfl (by decide)
          refine lv_iload_n hx hb dX5_isReader_34 rfl (lv_at hl 1 rfl) ?_
          refine lv_iconst (v := 1) hx hb dX5_isReader_35 (by decide) ?_
          refine lv_iload_n hx hb dX5_isReader_36 rfl (lv_at hl 0 rfl) ?_
          refine lv_ishl hx hb dX5_isReader_37 ?_
          refine lv_topi (fun z_20 ez_20 => ?_)
          refine lv_ior hx hb dX5_isReader_38 ?_
          refine lv_topi (fun z_21 ez_21 => ?_)
          refine lv_istore_n (lv' := [(2, .int z_21), (3, .int t), (0, .ref h), (1, .int n)]) hx hb dX5_isReader_39 rfl hl (by decide) rfl (fun ls hl => ?_)
          obtain ⟨z_22, ez_22⟩ : ∃ z : Int32, z = t + (-1) := ⟨_, rfl⟩
          have e_z_22 : z_22.toInt = t.toInt + (-1) := i_add ez_22 rfl (by decide) (by omega) (by omega)
          refine lv_iinc (v := z_22) (lv' := [(3, .int z_22), (2, .int z_21), (0, .ref h), (1, .int n)]) hx hb dX5_isReader_40 hl (k := 1) rfl (by rw [ez_22]; rfl) (by decide) rfl (fun ls hl => ?_)
          refine lv_goto (tgt := 9) hx hb dX5_isReader_43 (by decide) ?_
          exact ih (kf - 1) (by omega) g_11 z_22 z_21 H locs ls hT hI hE hM (by omega) (by omega) (by have e0 := z0; omega) (lv_sub hl [0, 1, 2, 3] rfl)
      · refine W.eq (g2 := F0 m 19 ls [.int 0]) rfl ?_
        refine lv_if_eq (tgt := 40) hx hb dX5_isReader_19 (by decide) (fun c_ => ?_) (fun c_ => absurd (by decide) c_)
        obtain ⟨z_23, ez_23⟩ : ∃ z : Int32, z = t + (-1) := ⟨_, rfl⟩
        have e_z_23 : z_23.toInt = t.toInt + (-1) := i_add ez_23 rfl (by decide) (by omega) (by omega)
        refine lv_iinc (v := z_23) (lv' := [(3, .int z_23), (2, .int j), (0, .ref h), (1, .int n)]) hx hb dX5_isReader_40 hl (k := 0) rfl (by rw [ez_23]; rfl) (by decide) rfl (fun ls hl => ?_)
        refine lv_goto (tgt := 9) hx hb dX5_isReader_43 (by decide) ?_
        exact ih (kf - 1) (by omega) g_5 z_23 j H locs ls hT hI hE hM (by omega) (by omega) (by have e0 := z0; omega) (lv_sub hl [0, 1, 2, 3] rfl)
set_option maxHeartbeats 4000000 in
set_option maxRecDepth 100000 in
theorem s_isReader (l : Launch) (D : va_G) (cI cZ cS cR : ClassId) (N0 : NT) (fr : Int32) (g : GS) (hI : Inv fr g) (h : Nat) (n : Int32) (r_h : g.1 h = 6) (l_n : 0 ≤ n.toInt) (u_n : n.toInt ≤ 5) : Ty l D cI cZ cS cR N0 yX5_isReader cX5_isReader 4 (some .boolean) 2 0 0 [.ref h, .int n] g (fun v g' => ∃ (r : Int32), v = some (.int r) ∧ Inv fr g' ∧ Ex g g' ∧ Sm md_s_isReader g g' ∧ (r = 1 ∨ r = 0)) := by
  refine t_enter (by decide) (Nat.le_of_ble_eq_true rfl) ?_
  intro p e s m args below meth c ls H locs hB hr hin hl hT
  have hx := hB.1
  have hb := hB.2.1
  have hl : lv_has ls 4 [(0, .ref h), (1, .int n)] := hl
  have hE : Ex g g := Ex.rf
  have hM : Sm md_s_isReader g g := Sm.rf
  refine lv_iconst (v := 0) hx hb dX5_isReader_0 (by decide) ?_
  refine lv_istore_n (lv' := [(2, .int 0), (0, .ref h), (1, .int n)]) hx hb dX5_isReader_1 rfl hl (by decide) rfl (fun ls hl => ?_)
  refine lv_aload_n hx hb dX5_isReader_2 rfl (lv_at hl 1 rfl) ?_
  obtain ⟨v_1, e_v_1, l_v_1, u_v_1⟩ := hI.f r_h 1
  refine t_get (ci := 5) (v := .int v_1) hB hT (ro_ci r_h rfl) rfl 1 (by decide) k_202 e_v_1 dX5_isReader_3 ?_
  refine lv_iconst (v := 1) hx hb dX5_isReader_6 (by decide) ?_
  refine lv_isub hx hb dX5_isReader_7 ?_
  refine lv_topi (fun z_2 ez_2 => ?_)
  have e_z_2 : z_2.toInt = v_1.toInt - 1 := i_sub ez_2 rfl (by decide) (by omega) (by omega)
  refine lv_istore_n (lv' := [(3, .int z_2), (2, .int 0), (0, .ref h), (1, .int n)]) hx hb dX5_isReader_8 rfl hl (by decide) rfl (fun ls hl => ?_)
  exact lt_s_isReader_a l D cI cZ cS cR N0 fr g h n r_h l_n u_n hB hr 6 g z_2 (0 : Int32) H locs ls hT hI hE hM (by omega) (by omega) (by have e0 := z0; omega) (lv_sub hl [0, 1, 2, 3] rfl)
def md_s_reachOf : Nat → Nat → Bool := fun _ _ => false
theorem mdle_s_reachOf_s_askedBy {r k : Nat} (h : md_s_reachOf r k = false) : md_s_askedBy r k = false := by
  first | rfl | (simp only [md_s_reachOf, md_s_askedBy, Bool.or_eq_false_iff, Bool.and_eq_false_iff, beq_eq_false_iff_ne] at h ⊢; omega)
set_option maxHeartbeats 4000000 in
set_option maxRecDepth 100000 in
theorem lt_s_reachOf_b (l : Launch) (D : va_G) (cI cZ cS cR : ClassId) (N0 : NT) (fr : Int32) (g : GS) (h : Nat) (o : Nat) (r_h : g.1 h = 6) (r_o : g.1 o = 1) {p : Program} {e : Env} {s : State} {m : MethodId} {args : Array Value} {below : List Frame} {meth : Method} {c : Code} (hB : Tz p s m meth c args cX5_reachOf 4 RX5 D cI cZ cS cR N0) (hr : meth.sig.returnType = (some .int))  : ∀ (kf : Nat) (g1 : GS) (i : Int32) (j : Int32)  (H : Heap) (locs : List Loc) (ls : Array Slot), Tv D cI cZ cS cR N0 s.heap H locs g1 → Inv fr g1 → Ex g g1 → Sm md_s_reachOf g g1 → 0 ≤ i.toInt → i.toInt ≤ 6 → 6 ≤ i.toInt + kf → lv_has ls 4 [(3, .int i), (2, .int j), (0, .ref h), (1, .ref o)] → W p l e (rmx 2 0 0) s m args below meth c H locs 0 0 (MQ below (tQ D cI cZ cS cR N0 (fun v g' => ∃ (r : Int32), v = some (.int r) ∧ Inv fr g' ∧ Ex g g' ∧ Sm md_s_reachOf g g')) args s 0 0 (fun q => N0.1 ≤ q)) (F0 m 31 ls []) := by
  have hx := hB.1
  have hb := hB.2.1
  intro kf
  induction kf using Nat.strongRecOn with
  | ind kf ih =>
    intro g1 i j H locs ls hT hI hE hM l_i u_i hk hl
    have r1_h : g1.1 h = 6 := Ex.r hE r_h (by decide)
    have r1_o : g1.1 o = 1 := Ex.r hE r_o (by decide)
    refine lv_iload_n hx hb dX5_reachOf_31 rfl (lv_at hl 0 rfl) ?_
    refine lv_aload_n hx hb dX5_reachOf_32 rfl (lv_at hl 2 rfl) ?_
    obtain ⟨v_1, e_v_1, l_v_1, u_v_1⟩ := hI.f r1_h 1
    refine t_get (ci := 5) (v := .int v_1) hB hT (ro_ci r1_h rfl) rfl 1 (by decide) k_202 e_v_1 dX5_reachOf_33 ?_
    refine lv_icmp_ge (tgt := 62) hx hb dX5_reachOf_36 (by decide) (fun c_2 => ?_) (fun c_2 => ?_)
    · have c_2' : v_1.toInt ≤ i.toInt := i_le c_2 rfl rfl
      refine lv_iload_n hx hb dX5_reachOf_62 rfl (lv_at hl 1 rfl) ?_
      exact t_iret hB hr hT (Nat.le_of_ble_eq_true rfl) (Nat.le_of_ble_eq_true rfl) dX5_reachOf_63 ⟨j, rfl, hI, hE, hM⟩
    · have c_2' : i.toInt < v_1.toInt := i_nle c_2 rfl rfl
      refine lv_iload_n hx hb dX5_reachOf_39 rfl (lv_at hl 1 rfl) ?_
      refine lv_iload_n hx hb dX5_reachOf_40 rfl (lv_at hl 0 rfl) ?_
      refine lv_ishr hx hb dX5_reachOf_41 ?_
      refine lv_topi (fun z_3 ez_3 => ?_)
      refine lv_iconst (v := 1) hx hb dX5_reachOf_42 (by decide) ?_
      refine lv_iand hx hb dX5_reachOf_43 ?_
      refine lv_topi (fun z_4 ez_4 => ?_)
      have e_z_4 := i_and 1 (b := 1) ez_4 (by decide) (by decide) (by decide)
      refine lv_iconst (v := 1) hx hb dX5_reachOf_44 (by decide) ?_
      refine lv_icmp_ne (tgt := 56) hx hb dX5_reachOf_45 (by decide) (fun c_5 => ?_) (fun c_5 => ?_)
      · have c_5' : z_4.toInt ≠ 1 := i_ne c_5 rfl (by decide)
        obtain ⟨z_6, ez_6⟩ : ∃ z : Int32, z = i + 1 := ⟨_, rfl⟩
        have e_z_6 : z_6.toInt = i.toInt + 1 := i_add ez_6 rfl (by decide) (by omega) (by omega)
        refine lv_iinc (v := z_6) (lv' := [(3, .int z_6), (2, .int j), (0, .ref h), (1, .ref o)]) hx hb dX5_reachOf_56 hl (k := 0) rfl (by rw [ez_6]; rfl) (by decide) rfl (fun ls hl => ?_)
        refine lv_goto (tgt := 31) hx hb dX5_reachOf_59 (by decide) ?_
        exact ih (kf - 1) (by omega) g1 z_6 j H locs ls hT hI hE hM (by omega) (by omega) (by have e0 := z0; omega) (lv_sub hl [0, 1, 2, 3] rfl)
      · have c_5' : z_4.toInt = 1 := i_eq c_5 rfl (by decide)
        refine lv_iload_n hx hb dX5_reachOf_48 rfl (lv_at hl 1 rfl) ?_
        refine lv_aload_n hx hb dX5_reachOf_49 rfl (lv_at hl 2 rfl) ?_
        refine lv_iload_n hx hb dX5_reachOf_50 rfl (lv_at hl 0 rfl) ?_
        refine t_callV (n := 1) (ci := 5) (As := [.int i]) (rest := [.int j]) hB hT hl.1 (s_askedBy l D cI cZ cS cR N0 fr g1 hI h i r1_h (by omega) (by omega)) (ro_ci r1_h rfl) rfl k_473 k_59 k_470 k_472 k_9 (by decide +kernel) ⟨(Nat.le_of_ble_eq_true rfl), (Nat.le_of_ble_eq_true rfl)⟩ rfl (Nat.le_of_ble_eq_true rfl) ⟨(Nat.le_of_ble_eq_true rfl), (Nat.le_of_ble_eq_true rfl)⟩ dX5_reachOf_51 (fun v g_7 H locs hp hT => ?_)
        obtain ⟨r_8, rfl, hI, x_10, m_9⟩ := hp
        have r_11 : g_7.1 h = 6 := (Ex.r x_10 r1_h (by decide))
        have r_12 : g_7.1 o = 1 := (Ex.r x_10 r1_o (by decide))
        have e_13 : g_7.2.1 h 1 = .int v_1 := (Sm.v m_9 r1_h (by decide) rfl e_v_1)
        have hM : Sm md_s_reachOf g g_7 := hM.tr hE (m_9.mo (fun r k h => mdle_s_reachOf_s_askedBy h))
        have hE : Ex g g_7 := hE.tr x_10
        refine W.eq (g2 := F0 m 54 ls [.int r_8, .int j]) rfl ?_
        refine lv_ior hx hb dX5_reachOf_54 ?_
        refine lv_topi (fun z_14 ez_14 => ?_)
        refine lv_istore_n (lv' := [(2, .int z_14), (3, .int i), (0, .ref h), (1, .ref o)]) hx hb dX5_reachOf_55 rfl hl (by decide) rfl (fun ls hl => ?_)
        obtain ⟨z_15, ez_15⟩ : ∃ z : Int32, z = i + 1 := ⟨_, rfl⟩
        have e_z_15 : z_15.toInt = i.toInt + 1 := i_add ez_15 rfl (by decide) (by omega) (by omega)
        refine lv_iinc (v := z_15) (lv' := [(3, .int z_15), (2, .int z_14), (0, .ref h), (1, .ref o)]) hx hb dX5_reachOf_56 hl (k := 1) rfl (by rw [ez_15]; rfl) (by decide) rfl (fun ls hl => ?_)
        refine lv_goto (tgt := 31) hx hb dX5_reachOf_59 (by decide) ?_
        exact ih (kf - 1) (by omega) g_7 z_15 z_14 H locs ls hT hI hE hM (by omega) (by omega) (by have e0 := z0; omega) (lv_sub hl [0, 1, 2, 3] rfl)
set_option maxHeartbeats 4000000 in
set_option maxRecDepth 100000 in
theorem lt_s_reachOf_a (l : Launch) (D : va_G) (cI cZ cS cR : ClassId) (N0 : NT) (fr : Int32) (g : GS) (h : Nat) (o : Nat) (r_h : g.1 h = 6) (r_o : g.1 o = 1) {p : Program} {e : Env} {s : State} {m : MethodId} {args : Array Value} {below : List Frame} {meth : Method} {c : Code} (hB : Tz p s m meth c args cX5_reachOf 4 RX5 D cI cZ cS cR N0) (hr : meth.sig.returnType = (some .int))  : ∀ (kf : Nat) (g1 : GS) (i : Int32) (j : Int32)  (H : Heap) (locs : List Loc) (ls : Array Slot), Tv D cI cZ cS cR N0 s.heap H locs g1 → Inv fr g1 → Ex g g1 → Sm md_s_reachOf g g1 → 0 ≤ i.toInt → i.toInt ≤ 6 → 6 ≤ i.toInt + kf → lv_has ls 4 [(3, .int i), (2, .int j), (0, .ref h), (1, .ref o)] → W p l e (rmx 2 0 0) s m args below meth c H locs 0 0 (MQ below (tQ D cI cZ cS cR N0 (fun v g' => ∃ (r : Int32), v = some (.int r) ∧ Inv fr g' ∧ Ex g g' ∧ Sm md_s_reachOf g g')) args s 0 0 (fun q => N0.1 ≤ q)) (F0 m 4 ls []) := by
  have hx := hB.1
  have hb := hB.2.1
  intro kf
  induction kf using Nat.strongRecOn with
  | ind kf ih =>
    intro g1 i j H locs ls hT hI hE hM l_i u_i hk hl
    have r1_h : g1.1 h = 6 := Ex.r hE r_h (by decide)
    have r1_o : g1.1 o = 1 := Ex.r hE r_o (by decide)
    refine lv_iload_n hx hb dX5_reachOf_4 rfl (lv_at hl 0 rfl) ?_
    refine lv_aload_n hx hb dX5_reachOf_5 rfl (lv_at hl 3 rfl) ?_
    obtain ⟨v_1, e_v_1, l_v_1, u_v_1⟩ := hI.f r1_o 3
    refine t_get (ci := 0) (v := .int v_1) hB hT (ro_ci r1_o rfl) rfl 3 (by decide) k_255 e_v_1 dX5_reachOf_6 ?_
    refine lv_icmp_ge (tgt := 29) hx hb dX5_reachOf_9 (by decide) (fun c_2 => ?_) (fun c_2 => ?_)
    · have c_2' : v_1.toInt ≤ i.toInt := i_le c_2 rfl rfl
      refine lv_iconst (v := 0) hx hb dX5_reachOf_29 (by decide) ?_
      refine lv_istore_n (lv' := [(3, .int 0), (2, .int j), (0, .ref h), (1, .ref o)]) hx hb dX5_reachOf_30 rfl hl (by decide) rfl (fun ls hl => ?_)
      exact lt_s_reachOf_b l D cI cZ cS cR N0 fr g h o r_h r_o hB hr 6 g1 (0 : Int32) j H locs ls hT hI hE hM (by decide) (by decide) (by have e0 := z0; omega) (lv_sub hl [0, 1, 2, 3] rfl)
    · have c_2' : i.toInt < v_1.toInt := i_nle c_2 rfl rfl
      refine lv_iload_n hx hb dX5_reachOf_12 rfl (lv_at hl 1 rfl) ?_
      refine lv_iconst (v := 1) hx hb dX5_reachOf_13 (by decide) ?_
      refine lv_aload_n hx hb dX5_reachOf_14 rfl (lv_at hl 3 rfl) ?_
      obtain ⟨v_3, e_v_3, r_v_3, n_v_3⟩ := hI.f r1_o 0
      refine t_get (ci := 0) (v := .ref v_3) hB hT (ro_ci r1_o rfl) rfl 0 (by decide) k_245 e_v_3 dX5_reachOf_15 ?_
      refine lv_iload_n hx hb dX5_reachOf_18 rfl (lv_at hl 0 rfl) ?_
      have i_u_4 : vp_in i 6 := (i_in (n := 6) rfl (by omega) (by omega))
      refine t_iald hB hT (ro_in r_v_3 (by decide)) n_v_3 i_u_4 rfl dX5_reachOf_19 ?_
      have c_u_4 := hI.c r_v_3 n_v_3 (i_cl i_u_4)
      refine lv_topi (fun u_4 e_u_4 => ?_)
      obtain ⟨l_u_4, u_u_4⟩ := c_u_4
      rw [← e_u_4] at l_u_4 u_u_4
      refine lv_ishl hx hb dX5_reachOf_20 ?_
      refine lv_topi (fun z_5 ez_5 => ?_)
      refine lv_ior hx hb dX5_reachOf_21 ?_
      refine lv_topi (fun z_6 ez_6 => ?_)
      refine lv_istore_n (lv' := [(2, .int z_6), (3, .int i), (0, .ref h), (1, .ref o)]) hx hb dX5_reachOf_22 rfl hl (by decide) rfl (fun ls hl => ?_)
      obtain ⟨z_7, ez_7⟩ : ∃ z : Int32, z = i + 1 := ⟨_, rfl⟩
      have e_z_7 : z_7.toInt = i.toInt + 1 := i_add ez_7 rfl (by decide) (by omega) (by omega)
      refine lv_iinc (v := z_7) (lv' := [(3, .int z_7), (2, .int z_6), (0, .ref h), (1, .ref o)]) hx hb dX5_reachOf_23 hl (k := 1) rfl (by rw [ez_7]; rfl) (by decide) rfl (fun ls hl => ?_)
      refine lv_goto (tgt := 4) hx hb dX5_reachOf_26 (by decide) ?_
      exact ih (kf - 1) (by omega) g1 z_7 z_6 H locs ls hT hI hE hM (by omega) (by omega) (by have e0 := z0; omega) (lv_sub hl [0, 1, 2, 3] rfl)
set_option maxHeartbeats 4000000 in
set_option maxRecDepth 100000 in
theorem s_reachOf (l : Launch) (D : va_G) (cI cZ cS cR : ClassId) (N0 : NT) (fr : Int32) (g : GS) (hI : Inv fr g) (h : Nat) (o : Nat) (r_h : g.1 h = 6) (r_o : g.1 o = 1) : Ty l D cI cZ cS cR N0 yX5_reachOf cX5_reachOf 4 (some .int) 2 0 0 [.ref h, .ref o] g (fun v g' => ∃ (r : Int32), v = some (.int r) ∧ Inv fr g' ∧ Ex g g' ∧ Sm md_s_reachOf g g') := by
  refine t_enter (by decide) (Nat.le_of_ble_eq_true rfl) ?_
  intro p e s m args below meth c ls H locs hB hr hin hl hT
  have hx := hB.1
  have hb := hB.2.1
  have hl : lv_has ls 4 [(0, .ref h), (1, .ref o)] := hl
  have hE : Ex g g := Ex.rf
  have hM : Sm md_s_reachOf g g := Sm.rf
  refine lv_iconst (v := 0) hx hb dX5_reachOf_0 (by decide) ?_
  refine lv_istore_n (lv' := [(2, .int 0), (0, .ref h), (1, .ref o)]) hx hb dX5_reachOf_1 rfl hl (by decide) rfl (fun ls hl => ?_)
  refine lv_iconst (v := 0) hx hb dX5_reachOf_2 (by decide) ?_
  refine lv_istore_n (lv' := [(3, .int 0), (2, .int 0), (0, .ref h), (1, .ref o)]) hx hb dX5_reachOf_3 rfl hl (by decide) rfl (fun ls hl => ?_)
  exact lt_s_reachOf_a l D cI cZ cS cR N0 fr g h o r_h r_o hB hr 6 g (0 : Int32) (0 : Int32) H locs ls hT hI hE hM (by decide) (by decide) (by have e0 := z0; omega) (lv_sub hl [0, 1, 2, 3] rfl)
def md_s_runActs0 : Nat → Nat → Bool := fun r k => (r == 4 && k == 0) || (r == 4 && k == 2) || (r == 4 && k == 3) || (r == 4 && k == 4) || (r == 4 && k == 5) || (r == 4 && k == 10) || (r == 4 && k == 11) || (r == 4 && k == 14) || (r == 6 && k == 4) || (r == 6 && k == 5) || (r == 6 && k == 7)
theorem mdle_s_runActs0_s_canAsk {r k : Nat} (h : md_s_runActs0 r k = false) : md_s_canAsk r k = false := by
  first | rfl | (simp only [md_s_runActs0, md_s_canAsk, Bool.or_eq_false_iff, Bool.and_eq_false_iff, beq_eq_false_iff_ne] at h ⊢; omega)
theorem mdle_s_runActs0_s_isHeldBack {r k : Nat} (h : md_s_runActs0 r k = false) : md_s_isHeldBack r k = false := by
  first | rfl | (simp only [md_s_runActs0, md_s_isHeldBack, Bool.or_eq_false_iff, Bool.and_eq_false_iff, beq_eq_false_iff_ne] at h ⊢; omega)
theorem mdle_s_runActs0_s_passesOver {r k : Nat} (h : md_s_runActs0 r k = false) : md_s_passesOver r k = false := by
  first | rfl | (simp only [md_s_runActs0, md_s_passesOver, Bool.or_eq_false_iff, Bool.and_eq_false_iff, beq_eq_false_iff_ne] at h ⊢; omega)
theorem mdle_s_runActs0_s_perform {r k : Nat} (h : md_s_runActs0 r k = false) : md_s_perform r k = false := by
  first | rfl | (simp only [md_s_runActs0, md_s_perform, Bool.or_eq_false_iff, Bool.and_eq_false_iff, beq_eq_false_iff_ne] at h ⊢; omega)
theorem mdle_s_runActs0_s_valueAt {r k : Nat} (h : md_s_runActs0 r k = false) : md_s_valueAt r k = false := by
  first | rfl | (simp only [md_s_runActs0, md_s_valueAt, Bool.or_eq_false_iff, Bool.and_eq_false_iff, beq_eq_false_iff_ne] at h ⊢; omega)
set_option maxHeartbeats 4000000 in
set_option maxRecDepth 100000 in
theorem lt_s_runActs0_a (l : Launch) (D : va_G) (cI cZ cS cR : ClassId) (N0 : NT) (fr : Int32) (g : GS) (h : Nat) (n : Int32) (x1 : Int32) (x2 : Int32) (r_h : g.1 h = 6) (l_n : 5 ≤ n.toInt) (u_n : n.toInt ≤ 5) {p : Program} {e : Env} {s : State} {m : MethodId} {args : Array Value} {below : List Frame} {meth : Method} {c : Code} (hB : Tz p s m meth c args cX5_runActs 14 RX5 D cI cZ cS cR N0) (hr : meth.sig.returnType = (some .int))  : ∀ (kf : Nat) (g1 : GS) (i : Int32) (j : Int32) (pk : Int32) (po : Int32) (q1 : Nat) (q2 : Nat) (H : Heap) (locs : List Loc) (ls : Array Slot), Tv D cI cZ cS cR N0 s.heap H locs g1 → Inv fr g1 → Ex g g1 → Sm md_s_runActs0 g g1 → 0 ≤ i.toInt → i.toInt ≤ 8 → 0 ≤ pk.toInt → pk.toInt ≤ 1 → 0 ≤ po.toInt → po.toInt ≤ 1 → g1.1 q1 = 4 → g1.1 q2 = 3 → 8 ≤ i.toInt + kf → lv_has ls 14 [(9, .int i), (8, .int po), (7, .int j), (6, .int pk), (5, .ref q2), (4, .ref q1), (0, .ref h), (1, .int n), (2, .int x1), (3, .int x2)] → W p l e (rmx 1 0 0) s m args below meth c H locs 0 0 (MQ below (tQ D cI cZ cS cR N0 (fun v g' => ∃ (r : Int32), v = some (.int r) ∧ Inv fr g' ∧ Ex g g' ∧ Sm md_s_runActs0 g g')) args s 0 0 (fun q => N0.1 ≤ q)) (F0 m 44 ls []) := by
  have hx := hB.1
  have hb := hB.2.1
  intro kf
  induction kf using Nat.strongRecOn with
  | ind kf ih =>
    intro g1 i j pk po q1 q2 H locs ls hT hI hE hM l_i u_i l_pk u_pk l_po u_po r1_q1 r1_q2 hk hl
    have r1_h : g1.1 h = 6 := Ex.r hE r_h (by decide)
    refine lv_iload hx hb dX5_runActs_44 (lv_at hl 0 rfl) ?_
    refine lv_aload hx hb dX5_runActs_46 (lv_at hl 4 rfl) ?_
    obtain ⟨v_1, e_v_1, l_v_1, u_v_1⟩ := hI.f r1_q2 3
    refine t_get (ci := 2) (v := .int v_1) hB hT (ro_ci r1_q2 rfl) rfl 3 (by decide) k_133 e_v_1 dX5_runActs_48 ?_
    refine lv_icmp_ge (tgt := 288) hx hb dX5_runActs_51 (by decide) (fun c_2 => ?_) (fun c_2 => ?_)
    · have c_2' : v_1.toInt ≤ i.toInt := i_le c_2 rfl rfl
      refine lv_iload hx hb dX5_runActs_288 (lv_at hl 2 rfl) ?_
      exact t_iret hB hr hT (Nat.le_of_ble_eq_true rfl) (Nat.le_of_ble_eq_true rfl) dX5_runActs_290 ⟨j, rfl, hI, hE, hM⟩
    · have c_2' : i.toInt < v_1.toInt := i_nle c_2 rfl rfl
      refine lv_iload hx hb dX5_runActs_54 (lv_at hl 1 rfl) ?_
      refine lv_if_eq (tgt := 65) hx hb dX5_runActs_56 (by decide) (fun c_3 => ?_) (fun c_3 => ?_)
      · have c_3' : po.toInt = 0 := i_eq c_3 rfl (by decide)
        refine lv_aload_n hx hb dX5_runActs_65 rfl (lv_at hl 6 rfl) ?_
        obtain ⟨v_4, e_v_4⟩ := hI.f r1_h 5
        refine t_get (ci := 5) (v := .int v_4) hB hT (ro_ci r1_h rfl) rfl 5 (by decide) k_213 e_v_4 dX5_runActs_66 ?_
        refine lv_iconst (v := 1) hx hb dX5_runActs_69 (by decide) ?_
        refine lv_iadd hx hb dX5_runActs_70 ?_
        refine lv_topi (fun z_5 ez_5 => ?_)
        refine lv_aload_n hx hb dX5_runActs_71 rfl (lv_at hl 6 rfl) ?_
        obtain ⟨v_6, e_v_6⟩ := hI.f r1_h 6
        refine t_get (ci := 5) (v := .int v_6) hB hT (ro_ci r1_h rfl) rfl 6 (by decide) k_215 e_v_6 dX5_runActs_72 ?_
        refine lv_icmp_lt (tgt := 86) hx hb dX5_runActs_75 (by decide) (fun c_7 => ?_) (fun c_7 => ?_)
        · have c_7' : z_5.toInt < v_6.toInt := i_lt c_7 rfl rfl
          refine lv_aload_n hx hb dX5_runActs_86 rfl (lv_at hl 6 rfl) ?_
          refine lv_dup hx hb dX5_runActs_87 rfl ?_
          refine t_get (ci := 5) (v := .int v_4) hB hT (ro_ci r1_h rfl) rfl 5 (by decide) k_213 e_v_4 dX5_runActs_88 ?_
          refine lv_iconst (v := 1) hx hb dX5_runActs_91 (by decide) ?_
          refine lv_iadd hx hb dX5_runActs_92 ?_
          refine lv_topi (fun z_8 ez_8 => ?_)
          refine t_put0 (ci := 5) (v := .int z_8) hB hT (ro_ci r1_h rfl) (ro_n0 r1_h (by decide)) rfl 5 (by decide) k_213 (Or.inl rfl) rfl rfl dX5_runActs_93 (fun H locs hT => ?_)
          have hI : Inv fr (sF g1 h 5 (.int z_8)) := hI.sF (fk r1_h (⟨_, rfl⟩))
          have hM : Sm md_s_runActs0 g (sF g1 h 5 (.int z_8)) := hM.tr hE (Sm_sF (by rw [r1_h]; rfl))
          have hE : Ex g (sF g1 h 5 (.int z_8)) := hE
          refine lv_aload hx hb dX5_runActs_96 (lv_at hl 4 rfl) ?_
          refine lv_iload hx hb dX5_runActs_98 (lv_at hl 0 rfl) ?_
          refine lv_iload_n hx hb dX5_runActs_100 rfl (lv_at hl 8 rfl) ?_
          refine lv_iload hx hb dX5_runActs_101 (lv_at hl 2 rfl) ?_
          refine t_callV (n := 3) (ci := 2) (As := [.int i, .int x1, .int j]) (rest := []) hB hT hl.1 (s_valueAt l D cI cZ cS cR N0 fr (sF g1 h 5 (.int z_8)) hI q2 i x1 j r1_q2 (by omega) (by omega)) (ro_ci r1_q2 rfl) rfl k_538 k_61 k_535 k_536 k_537 (by decide +kernel) ⟨(Nat.le_of_ble_eq_true rfl), (Nat.le_of_ble_eq_true rfl)⟩ rfl (Nat.le_of_ble_eq_true rfl) ⟨(Nat.le_of_ble_eq_true rfl), (Nat.le_of_ble_eq_true rfl)⟩ dX5_runActs_103 (fun v g_9 H locs hp hT => ?_)
          obtain ⟨r_10, rfl, hI, x_12, m_11⟩ := hp
          have r_13 : g_9.1 h = 6 := (Ex.r x_12 r1_h (by decide))
          have r_14 : g_9.1 q1 = 4 := (Ex.r x_12 r1_q1 (by decide))
          have r_15 : g_9.1 q2 = 3 := (Ex.r x_12 r1_q2 (by decide))
          have e_16 : g_9.2.1 q2 3 = .int v_1 := (Sm.v m_11 r1_q2 (by decide) rfl (sF_k e_v_1 (by decide)))
          have e_17 : g_9.2.1 h 6 = .int v_6 := (Sm.v m_11 r1_h (by decide) rfl (sF_k e_v_6 (by decide)))
          have e_18 : g_9.2.1 h 5 = .int z_8 := (Sm.v m_11 r1_h (by decide) rfl sF_eq)
          have hM : Sm md_s_runActs0 g g_9 := hM.tr hE (m_11.mo (fun r k h => mdle_s_runActs0_s_valueAt h))
          have hE : Ex g g_9 := hE.tr x_12
          refine W.eq (g2 := F0 m 106 ls [.int r_10]) rfl ?_
          refine lv_istore (lv' := [(10, .int r_10), (9, .int i), (8, .int po), (7, .int j), (6, .int pk), (5, .ref q2), (4, .ref q1), (0, .ref h), (1, .int n), (2, .int x1), (3, .int x2)]) hx hb dX5_runActs_106 hl (by decide) rfl (fun ls hl => ?_)
          refine lv_aload hx hb dX5_runActs_108 (lv_at hl 6 rfl) ?_
          refine lv_iload hx hb dX5_runActs_110 (lv_at hl 1 rfl) ?_
          refine lv_iload hx hb dX5_runActs_112 (lv_at hl 0 rfl) ?_
          refine t_callV (n := 2) (ci := 3) (As := [.int i, .int r_10]) (rest := []) hB hT hl.1 (s_isHeldBack l D cI cZ cS cR N0 fr g_9 hI q1 i r_10 r_14 (by omega) (by omega)) (ro_ci r_14 rfl) rfl k_542 k_60 k_539 k_540 k_541 (by decide +kernel) ⟨(Nat.le_of_ble_eq_true rfl), (Nat.le_of_ble_eq_true rfl)⟩ rfl (Nat.le_of_ble_eq_true rfl) ⟨(Nat.le_of_ble_eq_true rfl), (Nat.le_of_ble_eq_true rfl)⟩ dX5_runActs_114 (fun v g_19 H locs hp hT => ?_)
          obtain ⟨r_20, rfl, hI, x_23, m_22, f_21⟩ := hp
          have r_24 : g_19.1 h = 6 := (Ex.r x_23 r_13 (by decide))
          have r_25 : g_19.1 q1 = 4 := (Ex.r x_23 r_14 (by decide))
          have r_26 : g_19.1 q2 = 3 := (Ex.r x_23 r_15 (by decide))
          have e_27 : g_19.2.1 q2 3 = .int v_1 := (Sm.v m_22 r_15 (by decide) rfl e_16)
          have e_28 : g_19.2.1 h 6 = .int v_6 := (Sm.v m_22 r_13 (by decide) rfl e_17)
          have e_29 : g_19.2.1 h 5 = .int z_8 := (Sm.v m_22 r_13 (by decide) rfl e_18)
          have hM : Sm md_s_runActs0 g g_19 := hM.tr hE (m_22.mo (fun r k h => mdle_s_runActs0_s_isHeldBack h))
          have hE : Ex g g_19 := hE.tr x_23
          refine W.eq (g2 := F0 m 117 ls [.int r_20]) rfl ?_
          rcases f_21 with rfl | rfl
          · refine W.eq (g2 := F0 m 117 ls [.int 1]) rfl ?_
            refine lv_if_eq (tgt := 123) hx hb dX5_runActs_117 (by decide) (fun c_ => absurd c_ (by decide)) (fun c_ => ?_)
            refine lv_goto (tgt := 282) hx hb dX5_runActs_120 (by decide) ?_
            obtain ⟨z_30, ez_30⟩ : ∃ z : Int32, z = i + 1 := ⟨_, rfl⟩
            have e_z_30 : z_30.toInt = i.toInt + 1 := i_add ez_30 rfl (by decide) (by omega) (by omega)
            refine lv_iinc (v := z_30) (lv' := [(9, .int z_30), (10, .int r_10), (8, .int po), (7, .int j), (6, .int pk), (5, .ref q2), (4, .ref q1), (0, .ref h), (1, .int n), (2, .int x1), (3, .int x2)]) hx hb dX5_runActs_282 hl (k := 1) rfl (by rw [ez_30]; rfl) (by decide) rfl (fun ls hl => ?_)
            refine lv_goto (tgt := 44) hx hb dX5_runActs_285 (by decide) ?_
            exact ih (kf - 1) (by omega) g_19 z_30 j pk po q1 q2 H locs ls hT hI hE hM (by omega) (by omega) (by omega) (by omega) (by omega) (by omega) r_25 r_26 (by have e0 := z0; omega) (lv_sub hl [0, 2, 3, 4, 5, 6, 7, 8, 9, 10] rfl)
          · refine W.eq (g2 := F0 m 117 ls [.int 0]) rfl ?_
            refine lv_if_eq (tgt := 123) hx hb dX5_runActs_117 (by decide) (fun c_ => ?_) (fun c_ => absurd (by decide) c_)
            refine lv_aload hx hb dX5_runActs_123 (lv_at hl 5 rfl) ?_
            obtain ⟨v_31, e_v_31, r_v_31, n_v_31⟩ := hI.f r_26 0
            refine t_get (ci := 2) (v := .ref v_31) hB hT (ro_ci r_26 rfl) rfl 0 (by decide) k_122 e_v_31 dX5_runActs_125 ?_
            refine lv_iload hx hb dX5_runActs_128 (lv_at hl 1 rfl) ?_
            have i_u_32 : vp_in i 8 := (i_in (n := 8) rfl (by omega) (by omega))
            refine t_iald hB hT (ro_in r_v_31 (by decide)) n_v_31 i_u_32 rfl dX5_runActs_130 ?_
            refine lv_topi (fun u_32 e_u_32 => ?_)
            refine lv_istore (lv' := [(11, .int u_32), (10, .int r_10), (9, .int i), (8, .int po), (7, .int j), (6, .int pk), (5, .ref q2), (4, .ref q1), (0, .ref h), (1, .int n), (2, .int x1), (3, .int x2)]) hx hb dX5_runActs_131 hl (by decide) rfl (fun ls hl => ?_)
            refine lv_aload hx hb dX5_runActs_133 (lv_at hl 6 rfl) ?_
            obtain ⟨v_33, e_v_33, r_v_33, n_v_33⟩ := hI.f r_26 1
            refine t_get (ci := 2) (v := .ref v_33) hB hT (ro_ci r_26 rfl) rfl 1 (by decide) k_126 e_v_33 dX5_runActs_135 ?_
            refine lv_iload hx hb dX5_runActs_138 (lv_at hl 2 rfl) ?_
            have i_u_34 : vp_in i 8 := (i_in (n := 8) rfl (by omega) (by omega))
            refine t_iald hB hT (ro_in r_v_33 (by decide)) n_v_33 i_u_34 rfl dX5_runActs_140 ?_
            have c_u_34 := hI.c r_v_33 n_v_33 (i_cl i_u_34)
            refine lv_topi (fun u_34 e_u_34 => ?_)
            obtain ⟨l_u_34, u_u_34⟩ := c_u_34
            rw [← e_u_34] at l_u_34 u_u_34
            refine lv_istore (lv' := [(12, .int u_34), (11, .int u_32), (10, .int r_10), (9, .int i), (8, .int po), (7, .int j), (6, .int pk), (5, .ref q2), (4, .ref q1), (0, .ref h), (1, .int n), (2, .int x1), (3, .int x2)]) hx hb dX5_runActs_141 hl (by decide) rfl (fun ls hl => ?_)
            refine lv_iload hx hb dX5_runActs_143 (lv_at hl 1 rfl) ?_
            refine lv_iconst (v := 5) hx hb dX5_runActs_145 (by decide) ?_
            refine lv_icmp_ne (tgt := 207) hx hb dX5_runActs_146 (by decide) (fun c_35 => ?_) (fun c_35 => ?_)
            · have c_35' : u_32.toInt ≠ 5 := i_ne c_35 rfl (by decide)
              refine lv_iload hx hb dX5_runActs_207 (lv_at hl 1 rfl) ?_
              refine lv_bipush (v := 6) hx hb dX5_runActs_209 (by decide) ?_
              refine lv_icmp_ne (tgt := 242) hx hb dX5_runActs_211 (by decide) (fun c_36 => ?_) (fun c_36 => ?_)
              · have c_36' : u_32.toInt ≠ 6 := i_ne c_36 rfl (by decide)
                refine lv_iload hx hb dX5_runActs_242 (lv_at hl 1 rfl) ?_
                refine lv_bipush (v := 7) hx hb dX5_runActs_244 (by decide) ?_
                refine lv_icmp_ne (tgt := 263) hx hb dX5_runActs_246 (by decide) (fun c_37 => ?_) (fun c_37 => ?_)
                · have c_37' : u_32.toInt ≠ 7 := i_ne c_37 rfl (by decide)
                  refine lv_iload hx hb dX5_runActs_263 (lv_at hl 1 rfl) ?_
                  refine lv_iconst (v := 5) hx hb dX5_runActs_265 (by decide) ?_
                  refine lv_icmp_eq (tgt := 282) hx hb dX5_runActs_266 (by decide) (fun c_38 => ?_) (fun c_38 => ?_)
                  · have c_38' : u_32.toInt = 5 := i_eq c_38 rfl (by decide)
                    obtain ⟨z_39, ez_39⟩ : ∃ z : Int32, z = i + 1 := ⟨_, rfl⟩
                    have e_z_39 : z_39.toInt = i.toInt + 1 := i_add ez_39 rfl (by decide) (by omega) (by omega)
                    refine lv_iinc (v := z_39) (lv' := [(9, .int z_39), (12, .int u_34), (11, .int u_32), (10, .int r_10), (8, .int po), (7, .int j), (6, .int pk), (5, .ref q2), (4, .ref q1), (0, .ref h), (1, .int n), (2, .int x1), (3, .int x2)]) hx hb dX5_runActs_282 hl (k := 3) rfl (by rw [ez_39]; rfl) (by decide) rfl (fun ls hl => ?_)
                    refine lv_goto (tgt := 44) hx hb dX5_runActs_285 (by decide) ?_
                    exact ih (kf - 1) (by omega) g_19 z_39 j pk po q1 q2 H locs ls hT hI hE hM (by omega) (by omega) (by omega) (by omega) (by omega) (by omega) r_25 r_26 (by have e0 := z0; omega) (lv_sub hl [0, 4, 5, 6, 7, 8, 9, 10, 11, 12] rfl)
                  · have c_38' : u_32.toInt ≠ 5 := i_ne c_38 rfl (by decide)
                    refine lv_aload hx hb dX5_runActs_269 (lv_at hl 8 rfl) ?_
                    refine lv_iload hx hb dX5_runActs_271 (lv_at hl 3 rfl) ?_
                    refine lv_iload hx hb dX5_runActs_273 (lv_at hl 2 rfl) ?_
                    refine lv_iload hx hb dX5_runActs_275 (lv_at hl 5 rfl) ?_
                    refine t_callV (n := 3) (ci := 3) (As := [.int i, .int r_10, .int j]) (rest := []) hB hT hl.1 (s_perform l D cI cZ cS cR N0 fr g_19 hI q1 i r_10 j r_25 (by omega) (by omega)) (ro_ci r_25 rfl) rfl k_550 k_60 k_547 k_548 k_549 (by decide +kernel) ⟨(Nat.le_of_ble_eq_true rfl), (Nat.le_of_ble_eq_true rfl)⟩ rfl (Nat.le_of_ble_eq_true rfl) ⟨(Nat.le_of_ble_eq_true rfl), (Nat.le_of_ble_eq_true rfl)⟩ dX5_runActs_277 (fun v g_40 H locs hp hT => ?_)
                    obtain ⟨r_41, rfl, hI, x_43, m_42⟩ := hp
                    have r_44 : g_40.1 h = 6 := (Ex.r x_43 r_24 (by decide))
                    have r_45 : g_40.1 q1 = 4 := (Ex.r x_43 r_25 (by decide))
                    have r_46 : g_40.1 q2 = 3 := (Ex.r x_43 r_26 (by decide))
                    have r_47 : g_40.1 v_31 = 20 := (Ex.r x_43 r_v_31 (by decide))
                    have r_48 : g_40.1 v_33 = 21 := (Ex.r x_43 r_v_33 (by decide))
                    have n_49 : g_40.2.2.1 v_31 = 8 := (Ex.n x_43 r_v_31 (by decide) n_v_31)
                    have n_50 : g_40.2.2.1 v_33 = 8 := (Ex.n x_43 r_v_33 (by decide) n_v_33)
                    have e_51 : g_40.2.1 q2 3 = .int v_1 := (Sm.v m_42 r_26 (by decide) rfl e_27)
                    have e_52 : g_40.2.1 h 6 = .int v_6 := (Sm.v m_42 r_24 (by decide) rfl e_28)
                    have e_53 : g_40.2.1 h 5 = .int z_8 := (Sm.v m_42 r_24 (by decide) rfl e_29)
                    have e_54 : g_40.2.1 q2 0 = .ref v_31 := (Sm.v m_42 r_26 (by decide) rfl e_v_31)
                    have e_55 : g_40.2.1 q2 1 = .ref v_33 := (Sm.v m_42 r_26 (by decide) rfl e_v_33)
                    have hM : Sm md_s_runActs0 g g_40 := hM.tr hE (m_42.mo (fun r k h => mdle_s_runActs0_s_perform h))
                    have hE : Ex g g_40 := hE.tr x_43
                    refine W.eq (g2 := F0 m 280 ls [.int r_41]) rfl ?_
                    refine lv_istore (lv' := [(7, .int r_41), (12, .int u_34), (11, .int u_32), (10, .int r_10), (9, .int i), (8, .int po), (6, .int pk), (5, .ref q2), (4, .ref q1), (0, .ref h), (1, .int n), (2, .int x1), (3, .int x2)]) hx hb dX5_runActs_280 hl (by decide) rfl (fun ls hl => ?_)
                    obtain ⟨z_56, ez_56⟩ : ∃ z : Int32, z = i + 1 := ⟨_, rfl⟩
                    have e_z_56 : z_56.toInt = i.toInt + 1 := i_add ez_56 rfl (by decide) (by omega) (by omega)
                    refine lv_iinc (v := z_56) (lv' := [(9, .int z_56), (7, .int r_41), (12, .int u_34), (11, .int u_32), (10, .int r_10), (8, .int po), (6, .int pk), (5, .ref q2), (4, .ref q1), (0, .ref h), (1, .int n), (2, .int x1), (3, .int x2)]) hx hb dX5_runActs_282 hl (k := 4) rfl (by rw [ez_56]; rfl) (by decide) rfl (fun ls hl => ?_)
                    refine lv_goto (tgt := 44) hx hb dX5_runActs_285 (by decide) ?_
                    exact ih (kf - 1) (by omega) g_40 z_56 r_41 pk po q1 q2 H locs ls hT hI hE hM (by omega) (by omega) (by omega) (by omega) (by omega) (by omega) r_45 r_46 (by have e0 := z0; omega) (lv_sub hl [0, 5, 1, 6, 7, 8, 9, 10, 11, 12] rfl)
                · have c_37' : u_32.toInt = 7 := i_eq c_37 rfl (by decide)
                  refine lv_aload hx hb dX5_runActs_249 (lv_at hl 8 rfl) ?_
                  refine lv_iload hx hb dX5_runActs_251 (lv_at hl 3 rfl) ?_
                  refine lv_iload hx hb dX5_runActs_253 (lv_at hl 2 rfl) ?_
                  refine t_callV (n := 2) (ci := 3) (As := [.int i, .int r_10]) (rest := []) hB hT hl.1 (s_passesOver l D cI cZ cS cR N0 fr g_19 hI q1 i r_10 r_25 (by omega) (by omega)) (ro_ci r_25 rfl) rfl k_546 k_60 k_543 k_544 k_545 (by decide +kernel) ⟨(Nat.le_of_ble_eq_true rfl), (Nat.le_of_ble_eq_true rfl)⟩ rfl (Nat.le_of_ble_eq_true rfl) ⟨(Nat.le_of_ble_eq_true rfl), (Nat.le_of_ble_eq_true rfl)⟩ dX5_runActs_255 (fun v g_57 H locs hp hT => ?_)
                  obtain ⟨r_58, rfl, hI, x_61, m_60, f_59⟩ := hp
                  have r_62 : g_57.1 h = 6 := (Ex.r x_61 r_24 (by decide))
                  have r_63 : g_57.1 q1 = 4 := (Ex.r x_61 r_25 (by decide))
                  have r_64 : g_57.1 q2 = 3 := (Ex.r x_61 r_26 (by decide))
                  have r_65 : g_57.1 v_31 = 20 := (Ex.r x_61 r_v_31 (by decide))
                  have r_66 : g_57.1 v_33 = 21 := (Ex.r x_61 r_v_33 (by decide))
                  have n_67 : g_57.2.2.1 v_31 = 8 := (Ex.n x_61 r_v_31 (by decide) n_v_31)
                  have n_68 : g_57.2.2.1 v_33 = 8 := (Ex.n x_61 r_v_33 (by decide) n_v_33)
                  have e_69 : g_57.2.1 q2 3 = .int v_1 := (Sm.v m_60 r_26 (by decide) rfl e_27)
                  have e_70 : g_57.2.1 h 6 = .int v_6 := (Sm.v m_60 r_24 (by decide) rfl e_28)
                  have e_71 : g_57.2.1 h 5 = .int z_8 := (Sm.v m_60 r_24 (by decide) rfl e_29)
                  have e_72 : g_57.2.1 q2 0 = .ref v_31 := (Sm.v m_60 r_26 (by decide) rfl e_v_31)
                  have e_73 : g_57.2.1 q2 1 = .ref v_33 := (Sm.v m_60 r_26 (by decide) rfl e_v_33)
                  have hM : Sm md_s_runActs0 g g_57 := hM.tr hE (m_60.mo (fun r k h => mdle_s_runActs0_s_passesOver h))
                  have hE : Ex g g_57 := hE.tr x_61
                  refine W.eq (g2 := F0 m 258 ls [.int r_58]) rfl ?_
                  rcases f_59 with rfl | rfl
                  · refine W.eq (g2 := F0 m 258 ls [.int 1]) rfl ?_
                    refine lv_istore (lv' := [(8, .int 1), (12, .int u_34), (11, .int u_32), (10, .int r_10), (9, .int i), (7, .int j), (6, .int pk), (5, .ref q2), (4, .ref q1), (0, .ref h), (1, .int n), (2, .int x1), (3, .int x2)]) hx hb dX5_runActs_258 hl (by decide) rfl (fun ls hl => ?_)
                    refine lv_goto (tgt := 282) hx hb dX5_runActs_260 (by decide) ?_
                    obtain ⟨z_74, ez_74⟩ : ∃ z : Int32, z = i + 1 := ⟨_, rfl⟩
                    have e_z_74 : z_74.toInt = i.toInt + 1 := i_add ez_74 rfl (by decide) (by omega) (by omega)
                    refine lv_iinc (v := z_74) (lv' := [(9, .int z_74), (8, .int 1), (12, .int u_34), (11, .int u_32), (10, .int r_10), (7, .int j), (6, .int pk), (5, .ref q2), (4, .ref q1), (0, .ref h), (1, .int n), (2, .int x1), (3, .int x2)]) hx hb dX5_runActs_282 hl (k := 4) rfl (by rw [ez_74]; rfl) (by decide) rfl (fun ls hl => ?_)
                    refine lv_goto (tgt := 44) hx hb dX5_runActs_285 (by decide) ?_
                    exact ih (kf - 1) (by omega) g_57 z_74 j pk (1 : Int32) q1 q2 H locs ls hT hI hE hM (by omega) (by omega) (by omega) (by omega) (by decide) (by decide) r_63 r_64 (by have e0 := z0; omega) (lv_sub hl [0, 1, 5, 6, 7, 8, 9, 10, 11, 12] rfl)
                  · refine W.eq (g2 := F0 m 258 ls [.int 0]) rfl ?_
                    refine lv_istore (lv' := [(8, .int 0), (12, .int u_34), (11, .int u_32), (10, .int r_10), (9, .int i), (7, .int j), (6, .int pk), (5, .ref q2), (4, .ref q1), (0, .ref h), (1, .int n), (2, .int x1), (3, .int x2)]) hx hb dX5_runActs_258 hl (by decide) rfl (fun ls hl => ?_)
                    refine lv_goto (tgt := 282) hx hb dX5_runActs_260 (by decide) ?_
                    obtain ⟨z_75, ez_75⟩ : ∃ z : Int32, z = i + 1 := ⟨_, rfl⟩
                    have e_z_75 : z_75.toInt = i.toInt + 1 := i_add ez_75 rfl (by decide) (by omega) (by omega)
                    refine lv_iinc (v := z_75) (lv' := [(9, .int z_75), (8, .int 0), (12, .int u_34), (11, .int u_32), (10, .int r_10), (7, .int j), (6, .int pk), (5, .ref q2), (4, .ref q1), (0, .ref h), (1, .int n), (2, .int x1), (3, .int x2)]) hx hb dX5_runActs_282 hl (k := 4) rfl (by rw [ez_75]; rfl) (by decide) rfl (fun ls hl => ?_)
                    refine lv_goto (tgt := 44) hx hb dX5_runActs_285 (by decide) ?_
                    exact ih (kf - 1) (by omega) g_57 z_75 j pk (0 : Int32) q1 q2 H locs ls hT hI hE hM (by omega) (by omega) (by omega) (by omega) (by decide) (by decide) r_63 r_64 (by have e0 := z0; omega) (lv_sub hl [0, 1, 5, 6, 7, 8, 9, 10, 11, 12] rfl)
              · have c_36' : u_32.toInt = 6 := i_eq c_36 rfl (by decide)
                refine lv_aload_n hx hb dX5_runActs_214 rfl (lv_at hl 9 rfl) ?_
                obtain ⟨v_76, e_v_76, r_v_76, n_v_76⟩ := hI.f r_24 3
                refine t_get (ci := 5) (v := .ref v_76) hB hT (ro_ci r_24 rfl) rfl 3 (by decide) k_207 e_v_76 dX5_runActs_215 ?_
                refine lv_aload_n hx hb dX5_runActs_218 rfl (lv_at hl 9 rfl) ?_
                obtain ⟨v_77, e_v_77⟩ := hI.f r_24 4
                refine t_get (ci := 5) (v := .int v_77) hB hT (ro_ci r_24 rfl) rfl 4 (by decide) k_210 e_v_77 dX5_runActs_219 ?_
                refine lv_sipush (v := 511) hx hb dX5_runActs_222 (by decide) ?_
                refine lv_iand hx hb dX5_runActs_225 ?_
                refine lv_topi (fun z_78 ez_78 => ?_)
                have e_z_78 := i_and 9 (b := 511) ez_78 (by decide) (by decide) (by decide)
                refine lv_iload hx hb dX5_runActs_226 (lv_at hl 2 rfl) ?_
                have i_79 : vp_in z_78 512 := (i_in (n := 512) rfl (by omega) (by omega))
                refine t_iast hB hT (ro_in r_v_76 (by decide)) n_v_76 i_79 dX5_runActs_228 (fun H locs hT => ?_)
                have hI : Inv fr (sC g_19 v_76 z_78.toNatClampNeg r_10) := hI.sC (ck r_v_76 trivial)
                have hM : Sm md_s_runActs0 g (sC g_19 v_76 z_78.toNatClampNeg r_10) := hM
                have hE : Ex g (sC g_19 v_76 z_78.toNatClampNeg r_10) := hE
                refine lv_aload_n hx hb dX5_runActs_229 rfl (lv_at hl 9 rfl) ?_
                refine lv_dup hx hb dX5_runActs_230 rfl ?_
                refine t_get (ci := 5) (v := .int v_77) hB hT (ro_ci r_24 rfl) rfl 4 (by decide) k_210 e_v_77 dX5_runActs_231 ?_
                refine lv_iconst (v := 1) hx hb dX5_runActs_234 (by decide) ?_
                refine lv_iadd hx hb dX5_runActs_235 ?_
                refine lv_topi (fun z_80 ez_80 => ?_)
                refine t_put0 (ci := 5) (v := .int z_80) hB hT (ro_ci r_24 rfl) (ro_n0 r_24 (by decide)) rfl 4 (by decide) k_210 (Or.inl rfl) rfl rfl dX5_runActs_236 (fun H locs hT => ?_)
                have hI : Inv fr (sF (sC g_19 v_76 z_78.toNatClampNeg r_10) h 4 (.int z_80)) := hI.sF (fk r_24 (⟨_, rfl⟩))
                have hM : Sm md_s_runActs0 g (sF (sC g_19 v_76 z_78.toNatClampNeg r_10) h 4 (.int z_80)) := hM.tr hE (Sm_sF (by rw [r_24]; rfl))
                have hE : Ex g (sF (sC g_19 v_76 z_78.toNatClampNeg r_10) h 4 (.int z_80)) := hE
                refine lv_goto (tgt := 282) hx hb dX5_runActs_239 (by decide) ?_
                obtain ⟨z_81, ez_81⟩ : ∃ z : Int32, z = i + 1 := ⟨_, rfl⟩
                have e_z_81 : z_81.toInt = i.toInt + 1 := i_add ez_81 rfl (by decide) (by omega) (by omega)
                refine lv_iinc (v := z_81) (lv' := [(9, .int z_81), (12, .int u_34), (11, .int u_32), (10, .int r_10), (8, .int po), (7, .int j), (6, .int pk), (5, .ref q2), (4, .ref q1), (0, .ref h), (1, .int n), (2, .int x1), (3, .int x2)]) hx hb dX5_runActs_282 hl (k := 3) rfl (by rw [ez_81]; rfl) (by decide) rfl (fun ls hl => ?_)
                refine lv_goto (tgt := 44) hx hb dX5_runActs_285 (by decide) ?_
                exact ih (kf - 1) (by omega) (sF (sC g_19 v_76 z_78.toNatClampNeg r_10) h 4 (.int z_80)) z_81 j pk po q1 q2 H locs ls hT hI hE hM (by omega) (by omega) (by omega) (by omega) (by omega) (by omega) r_25 r_26 (by have e0 := z0; omega) (lv_sub hl [0, 4, 5, 6, 7, 8, 9, 10, 11, 12] rfl)
            · have c_35' : u_32.toInt = 5 := i_eq c_35 rfl (by decide)
              refine lv_aload_n hx hb dX5_runActs_149 rfl (lv_at hl 9 rfl) ?_
              refine lv_iload_n hx hb dX5_runActs_150 rfl (lv_at hl 10 rfl) ?_
              refine lv_iload hx hb dX5_runActs_151 (lv_at hl 0 rfl) ?_
              refine t_callV (n := 2) (ci := 5) (As := [.int n, .int u_34]) (rest := []) hB hT hl.1 (s_canAsk l D cI cZ cS cR N0 fr g_19 hI h n u_34 r_24) (ro_ci r_24 rfl) rfl k_477 k_59 k_474 k_476 k_10 (by decide +kernel) ⟨(Nat.le_of_ble_eq_true rfl), (Nat.le_of_ble_eq_true rfl)⟩ rfl (Nat.le_of_ble_eq_true rfl) ⟨(Nat.le_of_ble_eq_true rfl), (Nat.le_of_ble_eq_true rfl)⟩ dX5_runActs_153 (fun v g_82 H locs hp hT => ?_)
              obtain ⟨r_83, rfl, hI, x_86, m_85, f_84⟩ := hp
              have r_87 : g_82.1 h = 6 := (Ex.r x_86 r_24 (by decide))
              have r_88 : g_82.1 q1 = 4 := (Ex.r x_86 r_25 (by decide))
              have r_89 : g_82.1 q2 = 3 := (Ex.r x_86 r_26 (by decide))
              have r_90 : g_82.1 v_31 = 20 := (Ex.r x_86 r_v_31 (by decide))
              have r_91 : g_82.1 v_33 = 21 := (Ex.r x_86 r_v_33 (by decide))
              have n_92 : g_82.2.2.1 v_31 = 8 := (Ex.n x_86 r_v_31 (by decide) n_v_31)
              have n_93 : g_82.2.2.1 v_33 = 8 := (Ex.n x_86 r_v_33 (by decide) n_v_33)
              have e_94 : g_82.2.1 q2 3 = .int v_1 := (Sm.v m_85 r_26 (by decide) rfl e_27)
              have e_95 : g_82.2.1 h 6 = .int v_6 := (Sm.v m_85 r_24 (by decide) rfl e_28)
              have e_96 : g_82.2.1 h 5 = .int z_8 := (Sm.v m_85 r_24 (by decide) rfl e_29)
              have e_97 : g_82.2.1 q2 0 = .ref v_31 := (Sm.v m_85 r_26 (by decide) rfl e_v_31)
              have e_98 : g_82.2.1 q2 1 = .ref v_33 := (Sm.v m_85 r_26 (by decide) rfl e_v_33)
              have hM : Sm md_s_runActs0 g g_82 := hM.tr hE (m_85.mo (fun r k h => mdle_s_runActs0_s_canAsk h))
              have hE : Ex g g_82 := hE.tr x_86
              refine W.eq (g2 := F0 m 156 ls [.int r_83]) rfl ?_
              rcases f_84 with ⟨rfl, hw_99, hw_100⟩ | rfl
              · exfalso
                omega
              · refine W.eq (g2 := F0 m 156 ls [.int 0]) rfl ?_
                refine lv_if_eq (tgt := 207) hx hb dX5_runActs_156 (by decide) (fun c_ => ?_) (fun c_ => absurd (by decide) c_)
                refine lv_iload hx hb dX5_runActs_207 (lv_at hl 1 rfl) ?_
                refine lv_bipush (v := 6) hx hb dX5_runActs_209 (by decide) ?_
                refine lv_icmp_ne (tgt := 242) hx hb dX5_runActs_211 (by decide) (fun c_101 => ?_) (fun c_101 => ?_)
                · have c_101' : u_32.toInt ≠ 6 := i_ne c_101 rfl (by decide)
                  refine lv_iload hx hb dX5_runActs_242 (lv_at hl 1 rfl) ?_
                  refine lv_bipush (v := 7) hx hb dX5_runActs_244 (by decide) ?_
                  refine lv_icmp_ne (tgt := 263) hx hb dX5_runActs_246 (by decide) (fun c_102 => ?_) (fun c_102 => ?_)
                  · have c_102' : u_32.toInt ≠ 7 := i_ne c_102 rfl (by decide)
                    refine lv_iload hx hb dX5_runActs_263 (lv_at hl 1 rfl) ?_
                    refine lv_iconst (v := 5) hx hb dX5_runActs_265 (by decide) ?_
                    refine lv_icmp_eq (tgt := 282) hx hb dX5_runActs_266 (by decide) (fun c_103 => ?_) (fun c_103 => ?_)
                    · have c_103' : u_32.toInt = 5 := i_eq c_103 rfl (by decide)
                      obtain ⟨z_104, ez_104⟩ : ∃ z : Int32, z = i + 1 := ⟨_, rfl⟩
                      have e_z_104 : z_104.toInt = i.toInt + 1 := i_add ez_104 rfl (by decide) (by omega) (by omega)
                      refine lv_iinc (v := z_104) (lv' := [(9, .int z_104), (12, .int u_34), (11, .int u_32), (10, .int r_10), (8, .int po), (7, .int j), (6, .int pk), (5, .ref q2), (4, .ref q1), (0, .ref h), (1, .int n), (2, .int x1), (3, .int x2)]) hx hb dX5_runActs_282 hl (k := 3) rfl (by rw [ez_104]; rfl) (by decide) rfl (fun ls hl => ?_)
                      refine lv_goto (tgt := 44) hx hb dX5_runActs_285 (by decide) ?_
                      exact ih (kf - 1) (by omega) g_82 z_104 j pk po q1 q2 H locs ls hT hI hE hM (by omega) (by omega) (by omega) (by omega) (by omega) (by omega) r_88 r_89 (by have e0 := z0; omega) (lv_sub hl [0, 4, 5, 6, 7, 8, 9, 10, 11, 12] rfl)
                    · have c_103' : u_32.toInt ≠ 5 := i_ne c_103 rfl (by decide)
                      exact absurd c_103' (by omega)
                  · have c_102' : u_32.toInt = 7 := i_eq c_102 rfl (by decide)
                    exact absurd c_102' (by omega)
                · have c_101' : u_32.toInt = 6 := i_eq c_101 rfl (by decide)
                  exact absurd c_101' (by omega)
        · have c_7' : v_6.toInt ≤ z_5.toInt := i_nlt c_7 rfl rfl
          refine lv_aload_n hx hb dX5_runActs_78 rfl (lv_at hl 6 rfl) ?_
          refine lv_iconst (v := 1) hx hb dX5_runActs_79 (by decide) ?_
          refine t_put0 (ci := 5) (v := .int 1) hB hT (ro_ci r1_h rfl) (ro_n0 r1_h (by decide)) rfl 7 (by decide) k_216 (Or.inl rfl) rfl rfl dX5_runActs_80 (fun H locs hT => ?_)
          have hI : Inv fr (sF g1 h 7 (.int 1)) := hI.sF (fk r1_h (⟨_, rfl, by decide, by decide⟩))
          have hM : Sm md_s_runActs0 g (sF g1 h 7 (.int 1)) := hM.tr hE (Sm_sF (by rw [r1_h]; rfl))
          have hE : Ex g (sF g1 h 7 (.int 1)) := hE
          refine lv_bipush (v := (-2)) hx hb dX5_runActs_83 (by decide) ?_
          exact t_iret hB hr hT (Nat.le_of_ble_eq_true rfl) (Nat.le_of_ble_eq_true rfl) dX5_runActs_85 ⟨(-2), rfl, hI, hE, hM⟩
      · have c_3' : po.toInt ≠ 0 := i_ne c_3 rfl (by decide)
        refine lv_iconst (v := 0) hx hb dX5_runActs_59 (by decide) ?_
        refine lv_istore (lv' := [(8, .int 0), (9, .int i), (7, .int j), (6, .int pk), (5, .ref q2), (4, .ref q1), (0, .ref h), (1, .int n), (2, .int x1), (3, .int x2)]) hx hb dX5_runActs_60 hl (by decide) rfl (fun ls hl => ?_)
        refine lv_goto (tgt := 282) hx hb dX5_runActs_62 (by decide) ?_
        obtain ⟨z_105, ez_105⟩ : ∃ z : Int32, z = i + 1 := ⟨_, rfl⟩
        have e_z_105 : z_105.toInt = i.toInt + 1 := i_add ez_105 rfl (by decide) (by omega) (by omega)
        refine lv_iinc (v := z_105) (lv' := [(9, .int z_105), (8, .int 0), (7, .int j), (6, .int pk), (5, .ref q2), (4, .ref q1), (0, .ref h), (1, .int n), (2, .int x1), (3, .int x2)]) hx hb dX5_runActs_282 hl (k := 1) rfl (by rw [ez_105]; rfl) (by decide) rfl (fun ls hl => ?_)
        refine lv_goto (tgt := 44) hx hb dX5_runActs_285 (by decide) ?_
        exact ih (kf - 1) (by omega) g1 z_105 j pk (0 : Int32) q1 q2 H locs ls hT hI hE hM (by omega) (by omega) (by omega) (by omega) (by decide) (by decide) r1_q1 r1_q2 (by have e0 := z0; omega) (lv_sub hl [0, 1, 2, 3, 4, 5, 6, 7, 8, 9] rfl)
theorem mdle_s_runActs0_s_isMended {r k : Nat} (h : md_s_runActs0 r k = false) : md_s_isMended r k = false := by
  first | rfl | (simp only [md_s_runActs0, md_s_isMended, Bool.or_eq_false_iff, Bool.and_eq_false_iff, beq_eq_false_iff_ne] at h ⊢; omega)
set_option maxHeartbeats 4000000 in
set_option maxRecDepth 100000 in
theorem s_runActs0 (l : Launch) (D : va_G) (cI cZ cS cR : ClassId) (N0 : NT) (fr : Int32) (g : GS) (hI : Inv fr g) (h : Nat) (n : Int32) (x1 : Int32) (x2 : Int32) (r_h : g.1 h = 6) (l_n : 5 ≤ n.toInt) (u_n : n.toInt ≤ 5) : Ty l D cI cZ cS cR N0 yX5_runActs cX5_runActs 14 (some .int) 1 0 0 [.ref h, .int n, .int x1, .int x2] g (fun v g' => ∃ (r : Int32), v = some (.int r) ∧ Inv fr g' ∧ Ex g g' ∧ Sm md_s_runActs0 g g') := by
  refine t_enter (by decide) (Nat.le_of_ble_eq_true rfl) ?_
  intro p e s m args below meth c ls H locs hB hr hin hl hT
  have hx := hB.1
  have hb := hB.2.1
  have hl : lv_has ls 14 [(0, .ref h), (1, .int n), (2, .int x1), (3, .int x2)] := hl
  have hE : Ex g g := Ex.rf
  have hM : Sm md_s_runActs0 g g := Sm.rf
  refine lv_aload_n hx hb dX5_runActs_0 rfl (lv_at hl 0 rfl) ?_
  obtain ⟨v_1, e_v_1, r_v_1, n_v_1⟩ := hI.f r_h 0
  refine t_get (ci := 5) (v := .ref v_1) hB hT (ro_ci r_h rfl) rfl 0 (by decide) k_199 e_v_1 dX5_runActs_1 ?_
  refine lv_iload_n hx hb dX5_runActs_4 rfl (lv_at hl 1 rfl) ?_
  have i_q_2 : vp_in n 6 := (i_in (n := 6) rfl (by omega) (by omega))
  obtain ⟨q_2, e_q_2, r_q_2⟩ := hI.q r_v_1 n_v_1 (i_cl i_q_2)
  refine t_aald hB hT (Or.inl r_v_1) n_v_1 i_q_2 e_q_2 dX5_runActs_5 ?_
  refine lv_astore (lv' := [(4, .ref q_2), (0, .ref h), (1, .int n), (2, .int x1), (3, .int x2)]) hx hb dX5_runActs_6 hl (by decide) rfl (fun ls hl => ?_)
  refine lv_aload hx hb dX5_runActs_8 (lv_at hl 0 rfl) ?_
  obtain ⟨v_3, e_v_3, r_v_3⟩ := hI.f r_q_2 0
  refine t_get (ci := 3) (v := .ref v_3) hB hT (ro_ci r_q_2 rfl) rfl 0 (by decide) k_145 e_v_3 dX5_runActs_10 ?_
  refine lv_astore (lv' := [(5, .ref v_3), (4, .ref q_2), (0, .ref h), (1, .int n), (2, .int x1), (3, .int x2)]) hx hb dX5_runActs_13 hl (by decide) rfl (fun ls hl => ?_)
  refine lv_iload_n hx hb dX5_runActs_15 rfl (lv_at hl 5 rfl) ?_
  refine lv_if_eq (tgt := 32) hx hb dX5_runActs_16 (by decide) (fun c_4 => ?_) (fun c_4 => ?_)
  · have c_4' : x2.toInt = 0 := i_eq c_4 rfl (by decide)
    refine lv_iconst (v := 0) hx hb dX5_runActs_32 (by decide) ?_
    refine lv_istore (lv' := [(6, .int 0), (5, .ref v_3), (4, .ref q_2), (0, .ref h), (1, .int n), (2, .int x1), (3, .int x2)]) hx hb dX5_runActs_33 hl (by decide) rfl (fun ls hl => ?_)
    refine lv_iconst (v := 0) hx hb dX5_runActs_35 (by decide) ?_
    refine lv_istore (lv' := [(7, .int 0), (6, .int 0), (5, .ref v_3), (4, .ref q_2), (0, .ref h), (1, .int n), (2, .int x1), (3, .int x2)]) hx hb dX5_runActs_36 hl (by decide) rfl (fun ls hl => ?_)
    refine lv_iconst (v := 0) hx hb dX5_runActs_38 (by decide) ?_
    refine lv_istore (lv' := [(8, .int 0), (7, .int 0), (6, .int 0), (5, .ref v_3), (4, .ref q_2), (0, .ref h), (1, .int n), (2, .int x1), (3, .int x2)]) hx hb dX5_runActs_39 hl (by decide) rfl (fun ls hl => ?_)
    refine lv_iconst (v := 0) hx hb dX5_runActs_41 (by decide) ?_
    refine lv_istore (lv' := [(9, .int 0), (8, .int 0), (7, .int 0), (6, .int 0), (5, .ref v_3), (4, .ref q_2), (0, .ref h), (1, .int n), (2, .int x1), (3, .int x2)]) hx hb dX5_runActs_42 hl (by decide) rfl (fun ls hl => ?_)
    exact lt_s_runActs0_a l D cI cZ cS cR N0 fr g h n x1 x2 r_h l_n u_n hB hr 8 g (0 : Int32) (0 : Int32) (0 : Int32) (0 : Int32) q_2 v_3 H locs ls hT hI hE hM (by decide) (by decide) (by decide) (by decide) (by decide) (by decide) r_q_2 r_v_3 (by have e0 := z0; omega) (lv_sub hl [0, 1, 2, 3, 4, 5, 6, 7, 8, 9] rfl)
  · have c_4' : x2.toInt ≠ 0 := i_ne c_4 rfl (by decide)
    refine lv_aload hx hb dX5_runActs_19 (lv_at hl 1 rfl) ?_
    refine lv_iconst (v := 2) hx hb dX5_runActs_21 (by decide) ?_
    refine t_callV (n := 1) (ci := 3) (As := [.int 2]) (rest := []) hB hT hl.1 (s_isMended l D cI cZ cS cR N0 fr g hI q_2 2 r_q_2) (ro_ci r_q_2 rfl) rfl k_512 k_60 k_509 k_510 k_511 (by decide +kernel) ⟨(Nat.le_of_ble_eq_true rfl), (Nat.le_of_ble_eq_true rfl)⟩ rfl (Nat.le_of_ble_eq_true rfl) ⟨(Nat.le_of_ble_eq_true rfl), (Nat.le_of_ble_eq_true rfl)⟩ dX5_runActs_22 (fun v g_5 H locs hp hT => ?_)
    obtain ⟨r_6, rfl, hI, x_9, m_8, f_7⟩ := hp
    have r_10 : g_5.1 h = 6 := (Ex.r x_9 r_h (by decide))
    have r_11 : g_5.1 v_1 = 41 := (Ex.r x_9 r_v_1 (by decide))
    have r_12 : g_5.1 q_2 = 4 := (Ex.r x_9 r_q_2 (by decide))
    have r_13 : g_5.1 v_3 = 3 := (Ex.r x_9 r_v_3 (by decide))
    have n_14 : g_5.2.2.1 v_1 = 6 := (Ex.n x_9 r_v_1 (by decide) n_v_1)
    have e_15 : g_5.2.1 h 0 = .ref v_1 := (Sm.v m_8 r_h (by decide) rfl e_v_1)
    have e_16 : g_5.2.1 q_2 0 = .ref v_3 := (Sm.v m_8 r_q_2 (by decide) rfl e_v_3)
    have hM : Sm md_s_runActs0 g g_5 := hM.tr hE (m_8.mo (fun r k h => mdle_s_runActs0_s_isMended h))
    have hE : Ex g g_5 := hE.tr x_9
    refine W.eq (g2 := F0 m 25 ls [.int r_6]) rfl ?_
    rcases f_7 with rfl | rfl
    · refine W.eq (g2 := F0 m 25 ls [.int 1]) rfl ?_
      refine lv_if_eq (tgt := 32) hx hb dX5_runActs_25 (by decide) (fun c_ => absurd c_ (by decide)) (fun c_ => ?_)
      refine lv_iconst (v := 1) hx hb dX5_runActs_28 (by decide) ?_
      refine lv_goto (tgt := 33) hx hb dX5_runActs_29 (by decide) ?_
      refine lv_istore (lv' := [(6, .int 1), (5, .ref v_3), (4, .ref q_2), (0, .ref h), (1, .int n), (2, .int x1), (3, .int x2)]) hx hb dX5_runActs_33 hl (by decide) rfl (fun ls hl => ?_)
      refine lv_iconst (v := 0) hx hb dX5_runActs_35 (by decide) ?_
      refine lv_istore (lv' := [(7, .int 0), (6, .int 1), (5, .ref v_3), (4, .ref q_2), (0, .ref h), (1, .int n), (2, .int x1), (3, .int x2)]) hx hb dX5_runActs_36 hl (by decide) rfl (fun ls hl => ?_)
      refine lv_iconst (v := 0) hx hb dX5_runActs_38 (by decide) ?_
      refine lv_istore (lv' := [(8, .int 0), (7, .int 0), (6, .int 1), (5, .ref v_3), (4, .ref q_2), (0, .ref h), (1, .int n), (2, .int x1), (3, .int x2)]) hx hb dX5_runActs_39 hl (by decide) rfl (fun ls hl => ?_)
      refine lv_iconst (v := 0) hx hb dX5_runActs_41 (by decide) ?_
      refine lv_istore (lv' := [(9, .int 0), (8, .int 0), (7, .int 0), (6, .int 1), (5, .ref v_3), (4, .ref q_2), (0, .ref h), (1, .int n), (2, .int x1), (3, .int x2)]) hx hb dX5_runActs_42 hl (by decide) rfl (fun ls hl => ?_)
      exact lt_s_runActs0_a l D cI cZ cS cR N0 fr g h n x1 x2 r_h l_n u_n hB hr 8 g_5 (0 : Int32) (0 : Int32) (1 : Int32) (0 : Int32) q_2 v_3 H locs ls hT hI hE hM (by decide) (by decide) (by decide) (by decide) (by decide) (by decide) r_12 r_13 (by have e0 := z0; omega) (lv_sub hl [0, 1, 2, 3, 4, 5, 6, 7, 8, 9] rfl)
    · refine W.eq (g2 := F0 m 25 ls [.int 0]) rfl ?_
      refine lv_if_eq (tgt := 32) hx hb dX5_runActs_25 (by decide) (fun c_ => ?_) (fun c_ => absurd (by decide) c_)
      refine lv_iconst (v := 0) hx hb dX5_runActs_32 (by decide) ?_
      refine lv_istore (lv' := [(6, .int 0), (5, .ref v_3), (4, .ref q_2), (0, .ref h), (1, .int n), (2, .int x1), (3, .int x2)]) hx hb dX5_runActs_33 hl (by decide) rfl (fun ls hl => ?_)
      refine lv_iconst (v := 0) hx hb dX5_runActs_35 (by decide) ?_
      refine lv_istore (lv' := [(7, .int 0), (6, .int 0), (5, .ref v_3), (4, .ref q_2), (0, .ref h), (1, .int n), (2, .int x1), (3, .int x2)]) hx hb dX5_runActs_36 hl (by decide) rfl (fun ls hl => ?_)
      refine lv_iconst (v := 0) hx hb dX5_runActs_38 (by decide) ?_
      refine lv_istore (lv' := [(8, .int 0), (7, .int 0), (6, .int 0), (5, .ref v_3), (4, .ref q_2), (0, .ref h), (1, .int n), (2, .int x1), (3, .int x2)]) hx hb dX5_runActs_39 hl (by decide) rfl (fun ls hl => ?_)
      refine lv_iconst (v := 0) hx hb dX5_runActs_41 (by decide) ?_
      refine lv_istore (lv' := [(9, .int 0), (8, .int 0), (7, .int 0), (6, .int 0), (5, .ref v_3), (4, .ref q_2), (0, .ref h), (1, .int n), (2, .int x1), (3, .int x2)]) hx hb dX5_runActs_42 hl (by decide) rfl (fun ls hl => ?_)
      exact lt_s_runActs0_a l D cI cZ cS cR N0 fr g h n x1 x2 r_h l_n u_n hB hr 8 g_5 (0 : Int32) (0 : Int32) (0 : Int32) (0 : Int32) q_2 v_3 H locs ls hT hI hE hM (by decide) (by decide) (by decide) (by decide) (by decide) (by decide) r_12 r_13 (by have e0 := z0; omega) (lv_sub hl [0, 1, 2, 3, 4, 5, 6, 7, 8, 9] rfl)
def md_s_serve0 : Nat → Nat → Bool := fun r k => (r == 4 && k == 0) || (r == 4 && k == 2) || (r == 4 && k == 3) || (r == 4 && k == 4) || (r == 4 && k == 5) || (r == 4 && k == 10) || (r == 4 && k == 11) || (r == 4 && k == 14) || (r == 6 && k == 4) || (r == 6 && k == 5) || (r == 6 && k == 7)
theorem mdle_s_serve0_s_answerNewest {r k : Nat} (h : md_s_serve0 r k = false) : md_s_answerNewest r k = false := by
  first | rfl | (simp only [md_s_serve0, md_s_answerNewest, Bool.or_eq_false_iff, Bool.and_eq_false_iff, beq_eq_false_iff_ne] at h ⊢; omega)
theorem mdle_s_serve0_s_beginKnown {r k : Nat} (h : md_s_serve0 r k = false) : md_s_beginKnown r k = false := by
  first | rfl | (simp only [md_s_serve0, md_s_beginKnown, Bool.or_eq_false_iff, Bool.and_eq_false_iff, beq_eq_false_iff_ne] at h ⊢; omega)
theorem mdle_s_serve0_s_isMended {r k : Nat} (h : md_s_serve0 r k = false) : md_s_isMended r k = false := by
  first | rfl | (simp only [md_s_serve0, md_s_isMended, Bool.or_eq_false_iff, Bool.and_eq_false_iff, beq_eq_false_iff_ne] at h ⊢; omega)
theorem mdle_s_serve0_s_keep {r k : Nat} (h : md_s_serve0 r k = false) : md_s_keep r k = false := by
  first | rfl | (simp only [md_s_serve0, md_s_keep, Bool.or_eq_false_iff, Bool.and_eq_false_iff, beq_eq_false_iff_ne] at h ⊢; omega)
theorem mdle_s_serve0_s_keptAnswer {r k : Nat} (h : md_s_serve0 r k = false) : md_s_keptAnswer r k = false := by
  first | rfl | (simp only [md_s_serve0, md_s_keptAnswer, Bool.or_eq_false_iff, Bool.and_eq_false_iff, beq_eq_false_iff_ne] at h ⊢; omega)
theorem mdle_s_serve0_s_placeOfKey {r k : Nat} (h : md_s_serve0 r k = false) : md_s_placeOfKey r k = false := by
  first | rfl | (simp only [md_s_serve0, md_s_placeOfKey, Bool.or_eq_false_iff, Bool.and_eq_false_iff, beq_eq_false_iff_ne] at h ⊢; omega)
theorem mdle_s_serve0_s_runActs0 {r k : Nat} (h : md_s_serve0 r k = false) : md_s_runActs0 r k = false := by
  first | rfl | (simp only [md_s_serve0, md_s_runActs0, Bool.or_eq_false_iff, Bool.and_eq_false_iff, beq_eq_false_iff_ne] at h ⊢; omega)
set_option maxHeartbeats 4000000 in
set_option maxRecDepth 100000 in
theorem s_serve0 (l : Launch) (D : va_G) (cI cZ cS cR : ClassId) (N0 : NT) (fr : Int32) (g : GS) (hI : Inv fr g) (h : Nat) (n : Int32) (x1 : Int32) (x2 : Int32) (r_h : g.1 h = 6) (l_n : 5 ≤ n.toInt) (u_n : n.toInt ≤ 5) : Ty l D cI cZ cS cR N0 yX5_serve cX5_serve 9 (some .int) 2 0 0 [.ref h, .int n, .int x1, .int x2] g (fun v g' => ∃ (r : Int32), v = some (.int r) ∧ Inv fr g' ∧ Ex g g' ∧ Sm md_s_serve0 g g') := by
  refine t_enter (by decide) (Nat.le_of_ble_eq_true rfl) ?_
  intro p e s m args below meth c ls H locs hB hr hin hl hT
  have hx := hB.1
  have hb := hB.2.1
  have hl : lv_has ls 9 [(0, .ref h), (1, .int n), (2, .int x1), (3, .int x2)] := hl
  have hE : Ex g g := Ex.rf
  have hM : Sm md_s_serve0 g g := Sm.rf
  refine lv_aload_n hx hb dX5_serve_0 rfl (lv_at hl 0 rfl) ?_
  obtain ⟨v_1, e_v_1, r_v_1, n_v_1⟩ := hI.f r_h 0
  refine t_get (ci := 5) (v := .ref v_1) hB hT (ro_ci r_h rfl) rfl 0 (by decide) k_199 e_v_1 dX5_serve_1 ?_
  refine lv_iload_n hx hb dX5_serve_4 rfl (lv_at hl 1 rfl) ?_
  have i_q_2 : vp_in n 6 := (i_in (n := 6) rfl (by omega) (by omega))
  obtain ⟨q_2, e_q_2, r_q_2⟩ := hI.q r_v_1 n_v_1 (i_cl i_q_2)
  refine t_aald hB hT (Or.inl r_v_1) n_v_1 i_q_2 e_q_2 dX5_serve_5 ?_
  refine lv_astore (lv' := [(4, .ref q_2), (0, .ref h), (1, .int n), (2, .int x1), (3, .int x2)]) hx hb dX5_serve_6 hl (by decide) rfl (fun ls hl => ?_)
  refine lv_iload_n hx hb dX5_serve_8 rfl (lv_at hl 4 rfl) ?_
  refine lv_if_eq (tgt := 25) hx hb dX5_serve_9 (by decide) (fun c_3 => ?_) (fun c_3 => ?_)
  · have c_3' : x2.toInt = 0 := i_eq c_3 rfl (by decide)
    refine lv_iconst (v := 0) hx hb dX5_serve_25 (by decide) ?_
    refine lv_istore (lv' := [(5, .int 0), (4, .ref q_2), (0, .ref h), (1, .int n), (2, .int x1), (3, .int x2)]) hx hb dX5_serve_26 hl (by decide) rfl (fun ls hl => ?_)
    refine lv_iload hx hb dX5_serve_28 (lv_at hl 0 rfl) ?_
    refine lv_if_eq (tgt := 46) hx hb dX5_serve_30 (by decide) (fun c_ => ?_) (fun c_ => absurd (by decide) c_)
    refine lv_iconst (v := 0) hx hb dX5_serve_46 (by decide) ?_
    refine lv_istore (lv' := [(6, .int 0), (5, .int 0), (4, .ref q_2), (0, .ref h), (1, .int n), (2, .int x1), (3, .int x2)]) hx hb dX5_serve_47 hl (by decide) rfl (fun ls hl => ?_)
    refine lv_iload hx hb dX5_serve_49 (lv_at hl 1 rfl) ?_
    refine lv_if_eq (tgt := 63) hx hb dX5_serve_51 (by decide) (fun c_ => ?_) (fun c_ => absurd (by decide) c_)
    refine lv_iconst (v := (-1)) hx hb dX5_serve_63 (by decide) ?_
    refine lv_istore (lv' := [(7, .int (-1)), (6, .int 0), (5, .int 0), (4, .ref q_2), (0, .ref h), (1, .int n), (2, .int x1), (3, .int x2)]) hx hb dX5_serve_64 hl (by decide) rfl (fun ls hl => ?_)
    refine lv_iload hx hb dX5_serve_66 (lv_at hl 0 rfl) ?_
    refine lv_iconst (v := (-1)) hx hb dX5_serve_68 (by decide) ?_
    refine lv_icmp_eq (tgt := 81) hx hb dX5_serve_69 (by decide) (fun c_ => ?_) (fun c_ => absurd (by decide) c_)
    refine lv_iload hx hb dX5_serve_81 (lv_at hl 1 rfl) ?_
    refine lv_if_eq (tgt := 98) hx hb dX5_serve_83 (by decide) (fun c_ => ?_) (fun c_ => absurd (by decide) c_)
    refine lv_aload hx hb dX5_serve_98 (lv_at hl 3 rfl) ?_
    refine lv_iload_n hx hb dX5_serve_100 rfl (lv_at hl 6 rfl) ?_
    refine lv_iload_n hx hb dX5_serve_101 rfl (lv_at hl 7 rfl) ?_
    refine t_callV (n := 2) (ci := 3) (As := [.int x1, .int x2]) (rest := []) hB hT hl.1 (s_beginKnown l D cI cZ cS cR N0 fr g hI q_2 x1 x2 r_q_2) (ro_ci r_q_2 rfl) rfl k_529 k_60 k_526 k_527 k_528 (by decide +kernel) ⟨(Nat.le_of_ble_eq_true rfl), (Nat.le_of_ble_eq_true rfl)⟩ rfl (Nat.le_of_ble_eq_true rfl) ⟨(Nat.le_of_ble_eq_true rfl), (Nat.le_of_ble_eq_true rfl)⟩ dX5_serve_102 (fun v g_4 H locs hp hT => ?_)
    obtain ⟨rfl, hI, x_6, m_5⟩ := hp
    have r_7 : g_4.1 h = 6 := (Ex.r x_6 r_h (by decide))
    have r_8 : g_4.1 v_1 = 41 := (Ex.r x_6 r_v_1 (by decide))
    have r_9 : g_4.1 q_2 = 4 := (Ex.r x_6 r_q_2 (by decide))
    have n_10 : g_4.2.2.1 v_1 = 6 := (Ex.n x_6 r_v_1 (by decide) n_v_1)
    have e_11 : g_4.2.1 h 0 = .ref v_1 := (Sm.v m_5 r_h (by decide) rfl e_v_1)
    have hM : Sm md_s_serve0 g g_4 := hM.tr hE (m_5.mo (fun r k h => mdle_s_serve0_s_beginKnown h))
    have hE : Ex g g_4 := hE.tr x_6
    refine W.eq (g2 := F0 m 105 ls []) rfl ?_
    refine lv_aload_n hx hb dX5_serve_105 rfl (lv_at hl 4 rfl) ?_
    refine lv_iload_n hx hb dX5_serve_106 rfl (lv_at hl 5 rfl) ?_
    refine lv_iload_n hx hb dX5_serve_107 rfl (lv_at hl 6 rfl) ?_
    refine lv_iload_n hx hb dX5_serve_108 rfl (lv_at hl 7 rfl) ?_
    refine t_callV (n := 3) (ci := 5) (As := [.int n, .int x1, .int x2]) (rest := []) hB hT hl.1 (s_runActs0 l D cI cZ cS cR N0 fr g_4 hI h n x1 x2 r_7 (by omega) (by omega)) (ro_ci r_7 rfl) rfl k_534 k_59 k_531 k_533 k_13 (by decide +kernel) ⟨(Nat.le_of_ble_eq_true rfl), (Nat.le_of_ble_eq_true rfl)⟩ rfl (Nat.le_of_ble_eq_true rfl) ⟨(Nat.le_of_ble_eq_true rfl), (Nat.le_of_ble_eq_true rfl)⟩ dX5_serve_109 (fun v g_12 H locs hp hT => ?_)
    obtain ⟨r_13, rfl, hI, x_15, m_14⟩ := hp
    have r_16 : g_12.1 h = 6 := (Ex.r x_15 r_7 (by decide))
    have r_17 : g_12.1 v_1 = 41 := (Ex.r x_15 r_8 (by decide))
    have r_18 : g_12.1 q_2 = 4 := (Ex.r x_15 r_9 (by decide))
    have n_19 : g_12.2.2.1 v_1 = 6 := (Ex.n x_15 r_8 (by decide) n_10)
    have e_20 : g_12.2.1 h 0 = .ref v_1 := (Sm.v m_14 r_7 (by decide) rfl e_11)
    have hM : Sm md_s_serve0 g g_12 := hM.tr hE (m_14.mo (fun r k h => mdle_s_serve0_s_runActs0 h))
    have hE : Ex g g_12 := hE.tr x_15
    refine W.eq (g2 := F0 m 112 ls [.int r_13]) rfl ?_
    refine lv_istore (lv' := [(8, .int r_13), (7, .int (-1)), (6, .int 0), (5, .int 0), (4, .ref q_2), (0, .ref h), (1, .int n), (2, .int x1), (3, .int x2)]) hx hb dX5_serve_112 hl (by decide) rfl (fun ls hl => ?_)
    refine lv_aload_n hx hb dX5_serve_114 rfl (lv_at hl 5 rfl) ?_
    obtain ⟨v_21, e_v_21, l_v_21, u_v_21⟩ := hI.f r_16 7
    refine t_get (ci := 5) (v := .int v_21) hB hT (ro_ci r_16 rfl) rfl 7 (by decide) k_216 e_v_21 dX5_serve_115 ?_
    refine lv_if_eq (tgt := 124) hx hb dX5_serve_118 (by decide) (fun c_22 => ?_) (fun c_22 => ?_)
    · have c_22' : v_21.toInt = 0 := i_eq c_22 rfl (by decide)
      refine lv_iload hx hb dX5_serve_124 (lv_at hl 2 rfl) ?_
      refine lv_if_eq (tgt := 140) hx hb dX5_serve_126 (by decide) (fun c_ => ?_) (fun c_ => absurd (by decide) c_)
      refine lv_iload hx hb dX5_serve_140 (lv_at hl 3 rfl) ?_
      refine lv_if_eq (tgt := 158) hx hb dX5_serve_142 (by decide) (fun c_ => ?_) (fun c_ => absurd (by decide) c_)
      refine lv_iload hx hb dX5_serve_158 (lv_at hl 0 rfl) ?_
      exact t_iret hB hr hT (Nat.le_of_ble_eq_true rfl) (Nat.le_of_ble_eq_true rfl) dX5_serve_160 ⟨r_13, rfl, hI, hE, hM⟩
    · have c_22' : v_21.toInt ≠ 0 := i_ne c_22 rfl (by decide)
      refine lv_bipush (v := (-2)) hx hb dX5_serve_121 (by decide) ?_
      exact t_iret hB hr hT (Nat.le_of_ble_eq_true rfl) (Nat.le_of_ble_eq_true rfl) dX5_serve_123 ⟨(-2), rfl, hI, hE, hM⟩
  · have c_3' : x2.toInt ≠ 0 := i_ne c_3 rfl (by decide)
    refine lv_aload hx hb dX5_serve_12 (lv_at hl 0 rfl) ?_
    refine lv_iconst (v := 0) hx hb dX5_serve_14 (by decide) ?_
    refine t_callV (n := 1) (ci := 3) (As := [.int 0]) (rest := []) hB hT hl.1 (s_isMended l D cI cZ cS cR N0 fr g hI q_2 0 r_q_2) (ro_ci r_q_2 rfl) rfl k_512 k_60 k_509 k_510 k_511 (by decide +kernel) ⟨(Nat.le_of_ble_eq_true rfl), (Nat.le_of_ble_eq_true rfl)⟩ rfl (Nat.le_of_ble_eq_true rfl) ⟨(Nat.le_of_ble_eq_true rfl), (Nat.le_of_ble_eq_true rfl)⟩ dX5_serve_15 (fun v g_23 H locs hp hT => ?_)
    obtain ⟨r_24, rfl, hI, x_27, m_26, f_25⟩ := hp
    have r_28 : g_23.1 h = 6 := (Ex.r x_27 r_h (by decide))
    have r_29 : g_23.1 v_1 = 41 := (Ex.r x_27 r_v_1 (by decide))
    have r_30 : g_23.1 q_2 = 4 := (Ex.r x_27 r_q_2 (by decide))
    have n_31 : g_23.2.2.1 v_1 = 6 := (Ex.n x_27 r_v_1 (by decide) n_v_1)
    have e_32 : g_23.2.1 h 0 = .ref v_1 := (Sm.v m_26 r_h (by decide) rfl e_v_1)
    have hM : Sm md_s_serve0 g g_23 := hM.tr hE (m_26.mo (fun r k h => mdle_s_serve0_s_isMended h))
    have hE : Ex g g_23 := hE.tr x_27
    refine W.eq (g2 := F0 m 18 ls [.int r_24]) rfl ?_
    rcases f_25 with rfl | rfl
    · refine W.eq (g2 := F0 m 18 ls [.int 1]) rfl ?_
      refine lv_if_eq (tgt := 25) hx hb dX5_serve_18 (by decide) (fun c_ => absurd c_ (by decide)) (fun c_ => ?_)
      refine lv_iconst (v := 1) hx hb dX5_serve_21 (by decide) ?_
      refine lv_goto (tgt := 26) hx hb dX5_serve_22 (by decide) ?_
      refine lv_istore (lv' := [(5, .int 1), (4, .ref q_2), (0, .ref h), (1, .int n), (2, .int x1), (3, .int x2)]) hx hb dX5_serve_26 hl (by decide) rfl (fun ls hl => ?_)
      refine lv_iload hx hb dX5_serve_28 (lv_at hl 0 rfl) ?_
      refine lv_if_eq (tgt := 46) hx hb dX5_serve_30 (by decide) (fun c_ => absurd c_ (by decide)) (fun c_ => ?_)
      refine lv_aload hx hb dX5_serve_33 (lv_at hl 1 rfl) ?_
      refine lv_iconst (v := 1) hx hb dX5_serve_35 (by decide) ?_
      refine t_callV (n := 1) (ci := 3) (As := [.int 1]) (rest := []) hB hT hl.1 (s_isMended l D cI cZ cS cR N0 fr g_23 hI q_2 1 r_30) (ro_ci r_30 rfl) rfl k_512 k_60 k_509 k_510 k_511 (by decide +kernel) ⟨(Nat.le_of_ble_eq_true rfl), (Nat.le_of_ble_eq_true rfl)⟩ rfl (Nat.le_of_ble_eq_true rfl) ⟨(Nat.le_of_ble_eq_true rfl), (Nat.le_of_ble_eq_true rfl)⟩ dX5_serve_36 (fun v g_33 H locs hp hT => ?_)
      obtain ⟨r_34, rfl, hI, x_37, m_36, f_35⟩ := hp
      have r_38 : g_33.1 h = 6 := (Ex.r x_37 r_28 (by decide))
      have r_39 : g_33.1 v_1 = 41 := (Ex.r x_37 r_29 (by decide))
      have r_40 : g_33.1 q_2 = 4 := (Ex.r x_37 r_30 (by decide))
      have n_41 : g_33.2.2.1 v_1 = 6 := (Ex.n x_37 r_29 (by decide) n_31)
      have e_42 : g_33.2.1 h 0 = .ref v_1 := (Sm.v m_36 r_28 (by decide) rfl e_32)
      have hM : Sm md_s_serve0 g g_33 := hM.tr hE (m_36.mo (fun r k h => mdle_s_serve0_s_isMended h))
      have hE : Ex g g_33 := hE.tr x_37
      refine W.eq (g2 := F0 m 39 ls [.int r_34]) rfl ?_
      rcases f_35 with rfl | rfl
      · refine W.eq (g2 := F0 m 39 ls [.int 1]) rfl ?_
        refine lv_if_eq (tgt := 46) hx hb dX5_serve_39 (by decide) (fun c_ => absurd c_ (by decide)) (fun c_ => ?_)
        refine lv_iconst (v := 1) hx hb dX5_serve_42 (by decide) ?_
        refine lv_goto (tgt := 47) hx hb dX5_serve_43 (by decide) ?_
        refine lv_istore (lv' := [(6, .int 1), (5, .int 1), (4, .ref q_2), (0, .ref h), (1, .int n), (2, .int x1), (3, .int x2)]) hx hb dX5_serve_47 hl (by decide) rfl (fun ls hl => ?_)
        refine lv_iload hx hb dX5_serve_49 (lv_at hl 1 rfl) ?_
        refine lv_if_eq (tgt := 63) hx hb dX5_serve_51 (by decide) (fun c_ => absurd c_ (by decide)) (fun c_ => ?_)
        refine lv_aload hx hb dX5_serve_54 (lv_at hl 2 rfl) ?_
        refine lv_iload_n hx hb dX5_serve_56 rfl (lv_at hl 6 rfl) ?_
        refine t_callV (n := 1) (ci := 3) (As := [.int x2]) (rest := []) hB hT hl.1 (s_placeOfKey l D cI cZ cS cR N0 fr g_33 hI q_2 x2 r_40) (ro_ci r_40 rfl) rfl k_516 k_60 k_513 k_514 k_515 (by decide +kernel) ⟨(Nat.le_of_ble_eq_true rfl), (Nat.le_of_ble_eq_true rfl)⟩ rfl (Nat.le_of_ble_eq_true rfl) ⟨(Nat.le_of_ble_eq_true rfl), (Nat.le_of_ble_eq_true rfl)⟩ dX5_serve_57 (fun v g_43 H locs hp hT => ?_)
        obtain ⟨r_44, rfl, hI, x_47, m_46, f_45⟩ := hp
        have r_48 : g_43.1 h = 6 := (Ex.r x_47 r_38 (by decide))
        have r_49 : g_43.1 v_1 = 41 := (Ex.r x_47 r_39 (by decide))
        have r_50 : g_43.1 q_2 = 4 := (Ex.r x_47 r_40 (by decide))
        have n_51 : g_43.2.2.1 v_1 = 6 := (Ex.n x_47 r_39 (by decide) n_41)
        have e_52 : g_43.2.1 h 0 = .ref v_1 := (Sm.v m_46 r_38 (by decide) rfl e_42)
        have hM : Sm md_s_serve0 g g_43 := hM.tr hE (m_46.mo (fun r k h => mdle_s_serve0_s_placeOfKey h))
        have hE : Ex g g_43 := hE.tr x_47
        refine W.eq (g2 := F0 m 60 ls [.int r_44]) rfl ?_
        rcases f_45 with rfl | ⟨hw_53, hw_54⟩
        · refine W.eq (g2 := F0 m 60 ls [.int (-1)]) rfl ?_
          refine lv_goto (tgt := 64) hx hb dX5_serve_60 (by decide) ?_
          refine lv_istore (lv' := [(7, .int (-1)), (6, .int 1), (5, .int 1), (4, .ref q_2), (0, .ref h), (1, .int n), (2, .int x1), (3, .int x2)]) hx hb dX5_serve_64 hl (by decide) rfl (fun ls hl => ?_)
          refine lv_iload hx hb dX5_serve_66 (lv_at hl 0 rfl) ?_
          refine lv_iconst (v := (-1)) hx hb dX5_serve_68 (by decide) ?_
          refine lv_icmp_eq (tgt := 81) hx hb dX5_serve_69 (by decide) (fun c_ => ?_) (fun c_ => absurd (by decide) c_)
          refine lv_iload hx hb dX5_serve_81 (lv_at hl 1 rfl) ?_
          refine lv_if_eq (tgt := 98) hx hb dX5_serve_83 (by decide) (fun c_ => absurd c_ (by decide)) (fun c_ => ?_)
          refine lv_aload hx hb dX5_serve_86 (lv_at hl 3 rfl) ?_
          refine lv_iload_n hx hb dX5_serve_88 rfl (lv_at hl 7 rfl) ?_
          refine lv_iload_n hx hb dX5_serve_89 rfl (lv_at hl 6 rfl) ?_
          refine lv_iconst (v := 0) hx hb dX5_serve_90 (by decide) ?_
          refine lv_aload_n hx hb dX5_serve_91 rfl (lv_at hl 4 rfl) ?_
          obtain ⟨v_55, e_v_55⟩ := hI.f r_48 2
          refine t_get (ci := 5) (v := .int v_55) hB hT (ro_ci r_48 rfl) rfl 2 (by decide) k_205 e_v_55 dX5_serve_92 ?_
          refine t_callV (n := 4) (ci := 3) (As := [.int x2, .int x1, .int 0, .int v_55]) (rest := []) hB hT hl.1 (s_keep l D cI cZ cS cR N0 fr g_43 hI q_2 x2 x1 0 v_55 r_50) (ro_ci r_50 rfl) rfl k_524 k_60 k_521 k_522 k_523 (by decide +kernel) ⟨(Nat.le_of_ble_eq_true rfl), (Nat.le_of_ble_eq_true rfl)⟩ rfl (Nat.le_of_ble_eq_true rfl) ⟨(Nat.le_of_ble_eq_true rfl), (Nat.le_of_ble_eq_true rfl)⟩ dX5_serve_95 (fun v g_56 H locs hp hT => ?_)
          obtain ⟨rfl, hI, x_58, m_57⟩ := hp
          have r_59 : g_56.1 h = 6 := (Ex.r x_58 r_48 (by decide))
          have r_60 : g_56.1 v_1 = 41 := (Ex.r x_58 r_49 (by decide))
          have r_61 : g_56.1 q_2 = 4 := (Ex.r x_58 r_50 (by decide))
          have n_62 : g_56.2.2.1 v_1 = 6 := (Ex.n x_58 r_49 (by decide) n_51)
          have e_63 : g_56.2.1 h 0 = .ref v_1 := (Sm.v m_57 r_48 (by decide) rfl e_52)
          have e_64 : g_56.2.1 h 2 = .int v_55 := (Sm.v m_57 r_48 (by decide) rfl e_v_55)
          have hM : Sm md_s_serve0 g g_56 := hM.tr hE (m_57.mo (fun r k h => mdle_s_serve0_s_keep h))
          have hE : Ex g g_56 := hE.tr x_58
          refine W.eq (g2 := F0 m 98 ls []) rfl ?_
          refine lv_aload hx hb dX5_serve_98 (lv_at hl 3 rfl) ?_
          refine lv_iload_n hx hb dX5_serve_100 rfl (lv_at hl 6 rfl) ?_
          refine lv_iload_n hx hb dX5_serve_101 rfl (lv_at hl 7 rfl) ?_
          refine t_callV (n := 2) (ci := 3) (As := [.int x1, .int x2]) (rest := []) hB hT hl.1 (s_beginKnown l D cI cZ cS cR N0 fr g_56 hI q_2 x1 x2 r_61) (ro_ci r_61 rfl) rfl k_529 k_60 k_526 k_527 k_528 (by decide +kernel) ⟨(Nat.le_of_ble_eq_true rfl), (Nat.le_of_ble_eq_true rfl)⟩ rfl (Nat.le_of_ble_eq_true rfl) ⟨(Nat.le_of_ble_eq_true rfl), (Nat.le_of_ble_eq_true rfl)⟩ dX5_serve_102 (fun v g_65 H locs hp hT => ?_)
          obtain ⟨rfl, hI, x_67, m_66⟩ := hp
          have r_68 : g_65.1 h = 6 := (Ex.r x_67 r_59 (by decide))
          have r_69 : g_65.1 v_1 = 41 := (Ex.r x_67 r_60 (by decide))
          have r_70 : g_65.1 q_2 = 4 := (Ex.r x_67 r_61 (by decide))
          have n_71 : g_65.2.2.1 v_1 = 6 := (Ex.n x_67 r_60 (by decide) n_62)
          have e_72 : g_65.2.1 h 0 = .ref v_1 := (Sm.v m_66 r_59 (by decide) rfl e_63)
          have e_73 : g_65.2.1 h 2 = .int v_55 := (Sm.v m_66 r_59 (by decide) rfl e_64)
          have hM : Sm md_s_serve0 g g_65 := hM.tr hE (m_66.mo (fun r k h => mdle_s_serve0_s_beginKnown h))
          have hE : Ex g g_65 := hE.tr x_67
          refine W.eq (g2 := F0 m 105 ls []) rfl ?_
          refine lv_aload_n hx hb dX5_serve_105 rfl (lv_at hl 4 rfl) ?_
          refine lv_iload_n hx hb dX5_serve_106 rfl (lv_at hl 5 rfl) ?_
          refine lv_iload_n hx hb dX5_serve_107 rfl (lv_at hl 6 rfl) ?_
          refine lv_iload_n hx hb dX5_serve_108 rfl (lv_at hl 7 rfl) ?_
          refine t_callV (n := 3) (ci := 5) (As := [.int n, .int x1, .int x2]) (rest := []) hB hT hl.1 (s_runActs0 l D cI cZ cS cR N0 fr g_65 hI h n x1 x2 r_68 (by omega) (by omega)) (ro_ci r_68 rfl) rfl k_534 k_59 k_531 k_533 k_13 (by decide +kernel) ⟨(Nat.le_of_ble_eq_true rfl), (Nat.le_of_ble_eq_true rfl)⟩ rfl (Nat.le_of_ble_eq_true rfl) ⟨(Nat.le_of_ble_eq_true rfl), (Nat.le_of_ble_eq_true rfl)⟩ dX5_serve_109 (fun v g_74 H locs hp hT => ?_)
          obtain ⟨r_75, rfl, hI, x_77, m_76⟩ := hp
          have r_78 : g_74.1 h = 6 := (Ex.r x_77 r_68 (by decide))
          have r_79 : g_74.1 v_1 = 41 := (Ex.r x_77 r_69 (by decide))
          have r_80 : g_74.1 q_2 = 4 := (Ex.r x_77 r_70 (by decide))
          have n_81 : g_74.2.2.1 v_1 = 6 := (Ex.n x_77 r_69 (by decide) n_71)
          have e_82 : g_74.2.1 h 0 = .ref v_1 := (Sm.v m_76 r_68 (by decide) rfl e_72)
          have e_83 : g_74.2.1 h 2 = .int v_55 := (Sm.v m_76 r_68 (by decide) rfl e_73)
          have hM : Sm md_s_serve0 g g_74 := hM.tr hE (m_76.mo (fun r k h => mdle_s_serve0_s_runActs0 h))
          have hE : Ex g g_74 := hE.tr x_77
          refine W.eq (g2 := F0 m 112 ls [.int r_75]) rfl ?_
          refine lv_istore (lv' := [(8, .int r_75), (7, .int (-1)), (6, .int 1), (5, .int 1), (4, .ref q_2), (0, .ref h), (1, .int n), (2, .int x1), (3, .int x2)]) hx hb dX5_serve_112 hl (by decide) rfl (fun ls hl => ?_)
          refine lv_aload_n hx hb dX5_serve_114 rfl (lv_at hl 5 rfl) ?_
          obtain ⟨v_84, e_v_84, l_v_84, u_v_84⟩ := hI.f r_78 7
          refine t_get (ci := 5) (v := .int v_84) hB hT (ro_ci r_78 rfl) rfl 7 (by decide) k_216 e_v_84 dX5_serve_115 ?_
          refine lv_if_eq (tgt := 124) hx hb dX5_serve_118 (by decide) (fun c_85 => ?_) (fun c_85 => ?_)
          · have c_85' : v_84.toInt = 0 := i_eq c_85 rfl (by decide)
            refine lv_iload hx hb dX5_serve_124 (lv_at hl 2 rfl) ?_
            refine lv_if_eq (tgt := 140) hx hb dX5_serve_126 (by decide) (fun c_ => absurd c_ (by decide)) (fun c_ => ?_)
            refine lv_aload hx hb dX5_serve_129 (lv_at hl 4 rfl) ?_
            refine lv_iload_n hx hb dX5_serve_131 rfl (lv_at hl 8 rfl) ?_
            refine lv_iload hx hb dX5_serve_132 (lv_at hl 0 rfl) ?_
            refine t_callV (n := 2) (ci := 3) (As := [.int x2, .int r_75]) (rest := []) hB hT hl.1 (s_answerNewest l D cI cZ cS cR N0 fr g_74 hI q_2 x2 r_75 r_80) (ro_ci r_80 rfl) rfl k_554 k_60 k_551 k_552 k_553 (by decide +kernel) ⟨(Nat.le_of_ble_eq_true rfl), (Nat.le_of_ble_eq_true rfl)⟩ rfl (Nat.le_of_ble_eq_true rfl) ⟨(Nat.le_of_ble_eq_true rfl), (Nat.le_of_ble_eq_true rfl)⟩ dX5_serve_134 (fun v g_86 H locs hp hT => ?_)
            obtain ⟨rfl, hI, x_88, m_87⟩ := hp
            have r_89 : g_86.1 h = 6 := (Ex.r x_88 r_78 (by decide))
            have r_90 : g_86.1 v_1 = 41 := (Ex.r x_88 r_79 (by decide))
            have r_91 : g_86.1 q_2 = 4 := (Ex.r x_88 r_80 (by decide))
            have n_92 : g_86.2.2.1 v_1 = 6 := (Ex.n x_88 r_79 (by decide) n_81)
            have e_93 : g_86.2.1 h 0 = .ref v_1 := (Sm.v m_87 r_78 (by decide) rfl e_82)
            have e_94 : g_86.2.1 h 2 = .int v_55 := (Sm.v m_87 r_78 (by decide) rfl e_83)
            have e_95 : g_86.2.1 h 7 = .int v_84 := (Sm.v m_87 r_78 (by decide) rfl e_v_84)
            have hM : Sm md_s_serve0 g g_86 := hM.tr hE (m_87.mo (fun r k h => mdle_s_serve0_s_answerNewest h))
            have hE : Ex g g_86 := hE.tr x_88
            refine W.eq (g2 := F0 m 137 ls []) rfl ?_
            refine lv_goto (tgt := 158) hx hb dX5_serve_137 (by decide) ?_
            refine lv_iload hx hb dX5_serve_158 (lv_at hl 0 rfl) ?_
            exact t_iret hB hr hT (Nat.le_of_ble_eq_true rfl) (Nat.le_of_ble_eq_true rfl) dX5_serve_160 ⟨r_75, rfl, hI, hE, hM⟩
          · have c_85' : v_84.toInt ≠ 0 := i_ne c_85 rfl (by decide)
            refine lv_bipush (v := (-2)) hx hb dX5_serve_121 (by decide) ?_
            exact t_iret hB hr hT (Nat.le_of_ble_eq_true rfl) (Nat.le_of_ble_eq_true rfl) dX5_serve_123 ⟨(-2), rfl, hI, hE, hM⟩
        · refine W.eq (g2 := F0 m 60 ls [.int r_44]) rfl ?_
          refine lv_goto (tgt := 64) hx hb dX5_serve_60 (by decide) ?_
          refine lv_istore (lv' := [(7, .int r_44), (6, .int 1), (5, .int 1), (4, .ref q_2), (0, .ref h), (1, .int n), (2, .int x1), (3, .int x2)]) hx hb dX5_serve_64 hl (by decide) rfl (fun ls hl => ?_)
          refine lv_iload hx hb dX5_serve_66 (lv_at hl 0 rfl) ?_
          refine lv_iconst (v := (-1)) hx hb dX5_serve_68 (by decide) ?_
          refine lv_icmp_eq (tgt := 81) hx hb dX5_serve_69 (by decide) (fun c_96 => ?_) (fun c_96 => ?_)
          · have c_96' : r_44.toInt = (-1) := i_eq c_96 rfl (by decide)
            exact absurd c_96' (by omega)
          · have c_96' : r_44.toInt ≠ (-1) := i_ne c_96 rfl (by decide)
            refine lv_aload hx hb dX5_serve_72 (lv_at hl 3 rfl) ?_
            refine lv_iload hx hb dX5_serve_74 (lv_at hl 0 rfl) ?_
            refine lv_iload_n hx hb dX5_serve_76 rfl (lv_at hl 6 rfl) ?_
            refine t_callV (n := 2) (ci := 3) (As := [.int r_44, .int x1]) (rest := []) hB hT hl.1 (s_keptAnswer l D cI cZ cS cR N0 fr g_43 hI q_2 r_44 x1 r_50 (by omega) (by omega)) (ro_ci r_50 rfl) rfl k_520 k_60 k_517 k_518 k_519 (by decide +kernel) ⟨(Nat.le_of_ble_eq_true rfl), (Nat.le_of_ble_eq_true rfl)⟩ rfl (Nat.le_of_ble_eq_true rfl) ⟨(Nat.le_of_ble_eq_true rfl), (Nat.le_of_ble_eq_true rfl)⟩ dX5_serve_77 (fun v g_97 H locs hp hT => ?_)
            obtain ⟨r_98, rfl, hI, x_100, m_99⟩ := hp
            have r_101 : g_97.1 h = 6 := (Ex.r x_100 r_48 (by decide))
            have r_102 : g_97.1 v_1 = 41 := (Ex.r x_100 r_49 (by decide))
            have r_103 : g_97.1 q_2 = 4 := (Ex.r x_100 r_50 (by decide))
            have n_104 : g_97.2.2.1 v_1 = 6 := (Ex.n x_100 r_49 (by decide) n_51)
            have e_105 : g_97.2.1 h 0 = .ref v_1 := (Sm.v m_99 r_48 (by decide) rfl e_52)
            have hM : Sm md_s_serve0 g g_97 := hM.tr hE (m_99.mo (fun r k h => mdle_s_serve0_s_keptAnswer h))
            have hE : Ex g g_97 := hE.tr x_100
            refine W.eq (g2 := F0 m 80 ls [.int r_98]) rfl ?_
            exact t_iret hB hr hT (Nat.le_of_ble_eq_true rfl) (Nat.le_of_ble_eq_true rfl) dX5_serve_80 ⟨r_98, rfl, hI, hE, hM⟩
      · refine W.eq (g2 := F0 m 39 ls [.int 0]) rfl ?_
        refine lv_if_eq (tgt := 46) hx hb dX5_serve_39 (by decide) (fun c_ => ?_) (fun c_ => absurd (by decide) c_)
        refine lv_iconst (v := 0) hx hb dX5_serve_46 (by decide) ?_
        refine lv_istore (lv' := [(6, .int 0), (5, .int 1), (4, .ref q_2), (0, .ref h), (1, .int n), (2, .int x1), (3, .int x2)]) hx hb dX5_serve_47 hl (by decide) rfl (fun ls hl => ?_)
        refine lv_iload hx hb dX5_serve_49 (lv_at hl 1 rfl) ?_
        refine lv_if_eq (tgt := 63) hx hb dX5_serve_51 (by decide) (fun c_ => absurd c_ (by decide)) (fun c_ => ?_)
        refine lv_aload hx hb dX5_serve_54 (lv_at hl 2 rfl) ?_
        refine lv_iload_n hx hb dX5_serve_56 rfl (lv_at hl 6 rfl) ?_
        refine t_callV (n := 1) (ci := 3) (As := [.int x2]) (rest := []) hB hT hl.1 (s_placeOfKey l D cI cZ cS cR N0 fr g_33 hI q_2 x2 r_40) (ro_ci r_40 rfl) rfl k_516 k_60 k_513 k_514 k_515 (by decide +kernel) ⟨(Nat.le_of_ble_eq_true rfl), (Nat.le_of_ble_eq_true rfl)⟩ rfl (Nat.le_of_ble_eq_true rfl) ⟨(Nat.le_of_ble_eq_true rfl), (Nat.le_of_ble_eq_true rfl)⟩ dX5_serve_57 (fun v g_106 H locs hp hT => ?_)
        obtain ⟨r_107, rfl, hI, x_110, m_109, f_108⟩ := hp
        have r_111 : g_106.1 h = 6 := (Ex.r x_110 r_38 (by decide))
        have r_112 : g_106.1 v_1 = 41 := (Ex.r x_110 r_39 (by decide))
        have r_113 : g_106.1 q_2 = 4 := (Ex.r x_110 r_40 (by decide))
        have n_114 : g_106.2.2.1 v_1 = 6 := (Ex.n x_110 r_39 (by decide) n_41)
        have e_115 : g_106.2.1 h 0 = .ref v_1 := (Sm.v m_109 r_38 (by decide) rfl e_42)
        have hM : Sm md_s_serve0 g g_106 := hM.tr hE (m_109.mo (fun r k h => mdle_s_serve0_s_placeOfKey h))
        have hE : Ex g g_106 := hE.tr x_110
        refine W.eq (g2 := F0 m 60 ls [.int r_107]) rfl ?_
        rcases f_108 with rfl | ⟨hw_116, hw_117⟩
        · refine W.eq (g2 := F0 m 60 ls [.int (-1)]) rfl ?_
          refine lv_goto (tgt := 64) hx hb dX5_serve_60 (by decide) ?_
          refine lv_istore (lv' := [(7, .int (-1)), (6, .int 0), (5, .int 1), (4, .ref q_2), (0, .ref h), (1, .int n), (2, .int x1), (3, .int x2)]) hx hb dX5_serve_64 hl (by decide) rfl (fun ls hl => ?_)
          refine lv_iload hx hb dX5_serve_66 (lv_at hl 0 rfl) ?_
          refine lv_iconst (v := (-1)) hx hb dX5_serve_68 (by decide) ?_
          refine lv_icmp_eq (tgt := 81) hx hb dX5_serve_69 (by decide) (fun c_ => ?_) (fun c_ => absurd (by decide) c_)
          refine lv_iload hx hb dX5_serve_81 (lv_at hl 1 rfl) ?_
          refine lv_if_eq (tgt := 98) hx hb dX5_serve_83 (by decide) (fun c_ => ?_) (fun c_ => absurd (by decide) c_)
          refine lv_aload hx hb dX5_serve_98 (lv_at hl 3 rfl) ?_
          refine lv_iload_n hx hb dX5_serve_100 rfl (lv_at hl 6 rfl) ?_
          refine lv_iload_n hx hb dX5_serve_101 rfl (lv_at hl 7 rfl) ?_
          refine t_callV (n := 2) (ci := 3) (As := [.int x1, .int x2]) (rest := []) hB hT hl.1 (s_beginKnown l D cI cZ cS cR N0 fr g_106 hI q_2 x1 x2 r_113) (ro_ci r_113 rfl) rfl k_529 k_60 k_526 k_527 k_528 (by decide +kernel) ⟨(Nat.le_of_ble_eq_true rfl), (Nat.le_of_ble_eq_true rfl)⟩ rfl (Nat.le_of_ble_eq_true rfl) ⟨(Nat.le_of_ble_eq_true rfl), (Nat.le_of_ble_eq_true rfl)⟩ dX5_serve_102 (fun v g_118 H locs hp hT => ?_)
          obtain ⟨rfl, hI, x_120, m_119⟩ := hp
          have r_121 : g_118.1 h = 6 := (Ex.r x_120 r_111 (by decide))
          have r_122 : g_118.1 v_1 = 41 := (Ex.r x_120 r_112 (by decide))
          have r_123 : g_118.1 q_2 = 4 := (Ex.r x_120 r_113 (by decide))
          have n_124 : g_118.2.2.1 v_1 = 6 := (Ex.n x_120 r_112 (by decide) n_114)
          have e_125 : g_118.2.1 h 0 = .ref v_1 := (Sm.v m_119 r_111 (by decide) rfl e_115)
          have hM : Sm md_s_serve0 g g_118 := hM.tr hE (m_119.mo (fun r k h => mdle_s_serve0_s_beginKnown h))
          have hE : Ex g g_118 := hE.tr x_120
          refine W.eq (g2 := F0 m 105 ls []) rfl ?_
          refine lv_aload_n hx hb dX5_serve_105 rfl (lv_at hl 4 rfl) ?_
          refine lv_iload_n hx hb dX5_serve_106 rfl (lv_at hl 5 rfl) ?_
          refine lv_iload_n hx hb dX5_serve_107 rfl (lv_at hl 6 rfl) ?_
          refine lv_iload_n hx hb dX5_serve_108 rfl (lv_at hl 7 rfl) ?_
          refine t_callV (n := 3) (ci := 5) (As := [.int n, .int x1, .int x2]) (rest := []) hB hT hl.1 (s_runActs0 l D cI cZ cS cR N0 fr g_118 hI h n x1 x2 r_121 (by omega) (by omega)) (ro_ci r_121 rfl) rfl k_534 k_59 k_531 k_533 k_13 (by decide +kernel) ⟨(Nat.le_of_ble_eq_true rfl), (Nat.le_of_ble_eq_true rfl)⟩ rfl (Nat.le_of_ble_eq_true rfl) ⟨(Nat.le_of_ble_eq_true rfl), (Nat.le_of_ble_eq_true rfl)⟩ dX5_serve_109 (fun v g_126 H locs hp hT => ?_)
          obtain ⟨r_127, rfl, hI, x_129, m_128⟩ := hp
          have r_130 : g_126.1 h = 6 := (Ex.r x_129 r_121 (by decide))
          have r_131 : g_126.1 v_1 = 41 := (Ex.r x_129 r_122 (by decide))
          have r_132 : g_126.1 q_2 = 4 := (Ex.r x_129 r_123 (by decide))
          have n_133 : g_126.2.2.1 v_1 = 6 := (Ex.n x_129 r_122 (by decide) n_124)
          have e_134 : g_126.2.1 h 0 = .ref v_1 := (Sm.v m_128 r_121 (by decide) rfl e_125)
          have hM : Sm md_s_serve0 g g_126 := hM.tr hE (m_128.mo (fun r k h => mdle_s_serve0_s_runActs0 h))
          have hE : Ex g g_126 := hE.tr x_129
          refine W.eq (g2 := F0 m 112 ls [.int r_127]) rfl ?_
          refine lv_istore (lv' := [(8, .int r_127), (7, .int (-1)), (6, .int 0), (5, .int 1), (4, .ref q_2), (0, .ref h), (1, .int n), (2, .int x1), (3, .int x2)]) hx hb dX5_serve_112 hl (by decide) rfl (fun ls hl => ?_)
          refine lv_aload_n hx hb dX5_serve_114 rfl (lv_at hl 5 rfl) ?_
          obtain ⟨v_135, e_v_135, l_v_135, u_v_135⟩ := hI.f r_130 7
          refine t_get (ci := 5) (v := .int v_135) hB hT (ro_ci r_130 rfl) rfl 7 (by decide) k_216 e_v_135 dX5_serve_115 ?_
          refine lv_if_eq (tgt := 124) hx hb dX5_serve_118 (by decide) (fun c_136 => ?_) (fun c_136 => ?_)
          · have c_136' : v_135.toInt = 0 := i_eq c_136 rfl (by decide)
            refine lv_iload hx hb dX5_serve_124 (lv_at hl 2 rfl) ?_
            refine lv_if_eq (tgt := 140) hx hb dX5_serve_126 (by decide) (fun c_ => ?_) (fun c_ => absurd (by decide) c_)
            refine lv_iload hx hb dX5_serve_140 (lv_at hl 3 rfl) ?_
            refine lv_if_eq (tgt := 158) hx hb dX5_serve_142 (by decide) (fun c_ => absurd c_ (by decide)) (fun c_ => ?_)
            refine lv_aload hx hb dX5_serve_145 (lv_at hl 4 rfl) ?_
            refine lv_iload_n hx hb dX5_serve_147 rfl (lv_at hl 8 rfl) ?_
            refine lv_iload_n hx hb dX5_serve_148 rfl (lv_at hl 7 rfl) ?_
            refine lv_iload hx hb dX5_serve_149 (lv_at hl 0 rfl) ?_
            refine lv_aload_n hx hb dX5_serve_151 rfl (lv_at hl 5 rfl) ?_
            obtain ⟨v_137, e_v_137⟩ := hI.f r_130 2
            refine t_get (ci := 5) (v := .int v_137) hB hT (ro_ci r_130 rfl) rfl 2 (by decide) k_205 e_v_137 dX5_serve_152 ?_
            refine t_callV (n := 4) (ci := 3) (As := [.int x2, .int x1, .int r_127, .int v_137]) (rest := []) hB hT hl.1 (s_keep l D cI cZ cS cR N0 fr g_126 hI q_2 x2 x1 r_127 v_137 r_132) (ro_ci r_132 rfl) rfl k_524 k_60 k_521 k_522 k_523 (by decide +kernel) ⟨(Nat.le_of_ble_eq_true rfl), (Nat.le_of_ble_eq_true rfl)⟩ rfl (Nat.le_of_ble_eq_true rfl) ⟨(Nat.le_of_ble_eq_true rfl), (Nat.le_of_ble_eq_true rfl)⟩ dX5_serve_155 (fun v g_138 H locs hp hT => ?_)
            obtain ⟨rfl, hI, x_140, m_139⟩ := hp
            have r_141 : g_138.1 h = 6 := (Ex.r x_140 r_130 (by decide))
            have r_142 : g_138.1 v_1 = 41 := (Ex.r x_140 r_131 (by decide))
            have r_143 : g_138.1 q_2 = 4 := (Ex.r x_140 r_132 (by decide))
            have n_144 : g_138.2.2.1 v_1 = 6 := (Ex.n x_140 r_131 (by decide) n_133)
            have e_145 : g_138.2.1 h 0 = .ref v_1 := (Sm.v m_139 r_130 (by decide) rfl e_134)
            have e_146 : g_138.2.1 h 7 = .int v_135 := (Sm.v m_139 r_130 (by decide) rfl e_v_135)
            have e_147 : g_138.2.1 h 2 = .int v_137 := (Sm.v m_139 r_130 (by decide) rfl e_v_137)
            have hM : Sm md_s_serve0 g g_138 := hM.tr hE (m_139.mo (fun r k h => mdle_s_serve0_s_keep h))
            have hE : Ex g g_138 := hE.tr x_140
            refine W.eq (g2 := F0 m 158 ls []) rfl ?_
            refine lv_iload hx hb dX5_serve_158 (lv_at hl 0 rfl) ?_
            exact t_iret hB hr hT (Nat.le_of_ble_eq_true rfl) (Nat.le_of_ble_eq_true rfl) dX5_serve_160 ⟨r_127, rfl, hI, hE, hM⟩
          · have c_136' : v_135.toInt ≠ 0 := i_ne c_136 rfl (by decide)
            refine lv_bipush (v := (-2)) hx hb dX5_serve_121 (by decide) ?_
            exact t_iret hB hr hT (Nat.le_of_ble_eq_true rfl) (Nat.le_of_ble_eq_true rfl) dX5_serve_123 ⟨(-2), rfl, hI, hE, hM⟩
        · refine W.eq (g2 := F0 m 60 ls [.int r_107]) rfl ?_
          refine lv_goto (tgt := 64) hx hb dX5_serve_60 (by decide) ?_
          refine lv_istore (lv' := [(7, .int r_107), (6, .int 0), (5, .int 1), (4, .ref q_2), (0, .ref h), (1, .int n), (2, .int x1), (3, .int x2)]) hx hb dX5_serve_64 hl (by decide) rfl (fun ls hl => ?_)
          refine lv_iload hx hb dX5_serve_66 (lv_at hl 0 rfl) ?_
          refine lv_iconst (v := (-1)) hx hb dX5_serve_68 (by decide) ?_
          refine lv_icmp_eq (tgt := 81) hx hb dX5_serve_69 (by decide) (fun c_148 => ?_) (fun c_148 => ?_)
          · have c_148' : r_107.toInt = (-1) := i_eq c_148 rfl (by decide)
            exact absurd c_148' (by omega)
          · have c_148' : r_107.toInt ≠ (-1) := i_ne c_148 rfl (by decide)
            refine lv_aload hx hb dX5_serve_72 (lv_at hl 3 rfl) ?_
            refine lv_iload hx hb dX5_serve_74 (lv_at hl 0 rfl) ?_
            refine lv_iload_n hx hb dX5_serve_76 rfl (lv_at hl 6 rfl) ?_
            refine t_callV (n := 2) (ci := 3) (As := [.int r_107, .int x1]) (rest := []) hB hT hl.1 (s_keptAnswer l D cI cZ cS cR N0 fr g_106 hI q_2 r_107 x1 r_113 (by omega) (by omega)) (ro_ci r_113 rfl) rfl k_520 k_60 k_517 k_518 k_519 (by decide +kernel) ⟨(Nat.le_of_ble_eq_true rfl), (Nat.le_of_ble_eq_true rfl)⟩ rfl (Nat.le_of_ble_eq_true rfl) ⟨(Nat.le_of_ble_eq_true rfl), (Nat.le_of_ble_eq_true rfl)⟩ dX5_serve_77 (fun v g_149 H locs hp hT => ?_)
            obtain ⟨r_150, rfl, hI, x_152, m_151⟩ := hp
            have r_153 : g_149.1 h = 6 := (Ex.r x_152 r_111 (by decide))
            have r_154 : g_149.1 v_1 = 41 := (Ex.r x_152 r_112 (by decide))
            have r_155 : g_149.1 q_2 = 4 := (Ex.r x_152 r_113 (by decide))
            have n_156 : g_149.2.2.1 v_1 = 6 := (Ex.n x_152 r_112 (by decide) n_114)
            have e_157 : g_149.2.1 h 0 = .ref v_1 := (Sm.v m_151 r_111 (by decide) rfl e_115)
            have hM : Sm md_s_serve0 g g_149 := hM.tr hE (m_151.mo (fun r k h => mdle_s_serve0_s_keptAnswer h))
            have hE : Ex g g_149 := hE.tr x_152
            refine W.eq (g2 := F0 m 80 ls [.int r_150]) rfl ?_
            exact t_iret hB hr hT (Nat.le_of_ble_eq_true rfl) (Nat.le_of_ble_eq_true rfl) dX5_serve_80 ⟨r_150, rfl, hI, hE, hM⟩
    · refine W.eq (g2 := F0 m 18 ls [.int 0]) rfl ?_
      refine lv_if_eq (tgt := 25) hx hb dX5_serve_18 (by decide) (fun c_ => ?_) (fun c_ => absurd (by decide) c_)
      refine lv_iconst (v := 0) hx hb dX5_serve_25 (by decide) ?_
      refine lv_istore (lv' := [(5, .int 0), (4, .ref q_2), (0, .ref h), (1, .int n), (2, .int x1), (3, .int x2)]) hx hb dX5_serve_26 hl (by decide) rfl (fun ls hl => ?_)
      refine lv_iload hx hb dX5_serve_28 (lv_at hl 0 rfl) ?_
      refine lv_if_eq (tgt := 46) hx hb dX5_serve_30 (by decide) (fun c_ => ?_) (fun c_ => absurd (by decide) c_)
      refine lv_iconst (v := 0) hx hb dX5_serve_46 (by decide) ?_
      refine lv_istore (lv' := [(6, .int 0), (5, .int 0), (4, .ref q_2), (0, .ref h), (1, .int n), (2, .int x1), (3, .int x2)]) hx hb dX5_serve_47 hl (by decide) rfl (fun ls hl => ?_)
      refine lv_iload hx hb dX5_serve_49 (lv_at hl 1 rfl) ?_
      refine lv_if_eq (tgt := 63) hx hb dX5_serve_51 (by decide) (fun c_ => ?_) (fun c_ => absurd (by decide) c_)
      refine lv_iconst (v := (-1)) hx hb dX5_serve_63 (by decide) ?_
      refine lv_istore (lv' := [(7, .int (-1)), (6, .int 0), (5, .int 0), (4, .ref q_2), (0, .ref h), (1, .int n), (2, .int x1), (3, .int x2)]) hx hb dX5_serve_64 hl (by decide) rfl (fun ls hl => ?_)
      refine lv_iload hx hb dX5_serve_66 (lv_at hl 0 rfl) ?_
      refine lv_iconst (v := (-1)) hx hb dX5_serve_68 (by decide) ?_
      refine lv_icmp_eq (tgt := 81) hx hb dX5_serve_69 (by decide) (fun c_ => ?_) (fun c_ => absurd (by decide) c_)
      refine lv_iload hx hb dX5_serve_81 (lv_at hl 1 rfl) ?_
      refine lv_if_eq (tgt := 98) hx hb dX5_serve_83 (by decide) (fun c_ => ?_) (fun c_ => absurd (by decide) c_)
      refine lv_aload hx hb dX5_serve_98 (lv_at hl 3 rfl) ?_
      refine lv_iload_n hx hb dX5_serve_100 rfl (lv_at hl 6 rfl) ?_
      refine lv_iload_n hx hb dX5_serve_101 rfl (lv_at hl 7 rfl) ?_
      refine t_callV (n := 2) (ci := 3) (As := [.int x1, .int x2]) (rest := []) hB hT hl.1 (s_beginKnown l D cI cZ cS cR N0 fr g_23 hI q_2 x1 x2 r_30) (ro_ci r_30 rfl) rfl k_529 k_60 k_526 k_527 k_528 (by decide +kernel) ⟨(Nat.le_of_ble_eq_true rfl), (Nat.le_of_ble_eq_true rfl)⟩ rfl (Nat.le_of_ble_eq_true rfl) ⟨(Nat.le_of_ble_eq_true rfl), (Nat.le_of_ble_eq_true rfl)⟩ dX5_serve_102 (fun v g_158 H locs hp hT => ?_)
      obtain ⟨rfl, hI, x_160, m_159⟩ := hp
      have r_161 : g_158.1 h = 6 := (Ex.r x_160 r_28 (by decide))
      have r_162 : g_158.1 v_1 = 41 := (Ex.r x_160 r_29 (by decide))
      have r_163 : g_158.1 q_2 = 4 := (Ex.r x_160 r_30 (by decide))
      have n_164 : g_158.2.2.1 v_1 = 6 := (Ex.n x_160 r_29 (by decide) n_31)
      have e_165 : g_158.2.1 h 0 = .ref v_1 := (Sm.v m_159 r_28 (by decide) rfl e_32)
      have hM : Sm md_s_serve0 g g_158 := hM.tr hE (m_159.mo (fun r k h => mdle_s_serve0_s_beginKnown h))
      have hE : Ex g g_158 := hE.tr x_160
      refine W.eq (g2 := F0 m 105 ls []) rfl ?_
      refine lv_aload_n hx hb dX5_serve_105 rfl (lv_at hl 4 rfl) ?_
      refine lv_iload_n hx hb dX5_serve_106 rfl (lv_at hl 5 rfl) ?_
      refine lv_iload_n hx hb dX5_serve_107 rfl (lv_at hl 6 rfl) ?_
      refine lv_iload_n hx hb dX5_serve_108 rfl (lv_at hl 7 rfl) ?_
      refine t_callV (n := 3) (ci := 5) (As := [.int n, .int x1, .int x2]) (rest := []) hB hT hl.1 (s_runActs0 l D cI cZ cS cR N0 fr g_158 hI h n x1 x2 r_161 (by omega) (by omega)) (ro_ci r_161 rfl) rfl k_534 k_59 k_531 k_533 k_13 (by decide +kernel) ⟨(Nat.le_of_ble_eq_true rfl), (Nat.le_of_ble_eq_true rfl)⟩ rfl (Nat.le_of_ble_eq_true rfl) ⟨(Nat.le_of_ble_eq_true rfl), (Nat.le_of_ble_eq_true rfl)⟩ dX5_serve_109 (fun v g_166 H locs hp hT => ?_)
      obtain ⟨r_167, rfl, hI, x_169, m_168⟩ := hp
      have r_170 : g_166.1 h = 6 := (Ex.r x_169 r_161 (by decide))
      have r_171 : g_166.1 v_1 = 41 := (Ex.r x_169 r_162 (by decide))
      have r_172 : g_166.1 q_2 = 4 := (Ex.r x_169 r_163 (by decide))
      have n_173 : g_166.2.2.1 v_1 = 6 := (Ex.n x_169 r_162 (by decide) n_164)
      have e_174 : g_166.2.1 h 0 = .ref v_1 := (Sm.v m_168 r_161 (by decide) rfl e_165)
      have hM : Sm md_s_serve0 g g_166 := hM.tr hE (m_168.mo (fun r k h => mdle_s_serve0_s_runActs0 h))
      have hE : Ex g g_166 := hE.tr x_169
      refine W.eq (g2 := F0 m 112 ls [.int r_167]) rfl ?_
      refine lv_istore (lv' := [(8, .int r_167), (7, .int (-1)), (6, .int 0), (5, .int 0), (4, .ref q_2), (0, .ref h), (1, .int n), (2, .int x1), (3, .int x2)]) hx hb dX5_serve_112 hl (by decide) rfl (fun ls hl => ?_)
      refine lv_aload_n hx hb dX5_serve_114 rfl (lv_at hl 5 rfl) ?_
      obtain ⟨v_175, e_v_175, l_v_175, u_v_175⟩ := hI.f r_170 7
      refine t_get (ci := 5) (v := .int v_175) hB hT (ro_ci r_170 rfl) rfl 7 (by decide) k_216 e_v_175 dX5_serve_115 ?_
      refine lv_if_eq (tgt := 124) hx hb dX5_serve_118 (by decide) (fun c_176 => ?_) (fun c_176 => ?_)
      · have c_176' : v_175.toInt = 0 := i_eq c_176 rfl (by decide)
        refine lv_iload hx hb dX5_serve_124 (lv_at hl 2 rfl) ?_
        refine lv_if_eq (tgt := 140) hx hb dX5_serve_126 (by decide) (fun c_ => ?_) (fun c_ => absurd (by decide) c_)
        refine lv_iload hx hb dX5_serve_140 (lv_at hl 3 rfl) ?_
        refine lv_if_eq (tgt := 158) hx hb dX5_serve_142 (by decide) (fun c_ => ?_) (fun c_ => absurd (by decide) c_)
        refine lv_iload hx hb dX5_serve_158 (lv_at hl 0 rfl) ?_
        exact t_iret hB hr hT (Nat.le_of_ble_eq_true rfl) (Nat.le_of_ble_eq_true rfl) dX5_serve_160 ⟨r_167, rfl, hI, hE, hM⟩
      · have c_176' : v_175.toInt ≠ 0 := i_ne c_176 rfl (by decide)
        refine lv_bipush (v := (-2)) hx hb dX5_serve_121 (by decide) ?_
        exact t_iret hB hr hT (Nat.le_of_ble_eq_true rfl) (Nat.le_of_ble_eq_true rfl) dX5_serve_123 ⟨(-2), rfl, hI, hE, hM⟩
def md_s_runActs1 : Nat → Nat → Bool := fun r k => (r == 4 && k == 0) || (r == 4 && k == 2) || (r == 4 && k == 3) || (r == 4 && k == 4) || (r == 4 && k == 5) || (r == 4 && k == 10) || (r == 4 && k == 11) || (r == 4 && k == 14) || (r == 6 && k == 4) || (r == 6 && k == 5) || (r == 6 && k == 7)
theorem mdle_s_runActs1_s_canAsk {r k : Nat} (h : md_s_runActs1 r k = false) : md_s_canAsk r k = false := by
  first | rfl | (simp only [md_s_runActs1, md_s_canAsk, Bool.or_eq_false_iff, Bool.and_eq_false_iff, beq_eq_false_iff_ne] at h ⊢; omega)
theorem mdle_s_runActs1_s_isHeldBack {r k : Nat} (h : md_s_runActs1 r k = false) : md_s_isHeldBack r k = false := by
  first | rfl | (simp only [md_s_runActs1, md_s_isHeldBack, Bool.or_eq_false_iff, Bool.and_eq_false_iff, beq_eq_false_iff_ne] at h ⊢; omega)
theorem mdle_s_runActs1_s_passesOver {r k : Nat} (h : md_s_runActs1 r k = false) : md_s_passesOver r k = false := by
  first | rfl | (simp only [md_s_runActs1, md_s_passesOver, Bool.or_eq_false_iff, Bool.and_eq_false_iff, beq_eq_false_iff_ne] at h ⊢; omega)
theorem mdle_s_runActs1_s_perform {r k : Nat} (h : md_s_runActs1 r k = false) : md_s_perform r k = false := by
  first | rfl | (simp only [md_s_runActs1, md_s_perform, Bool.or_eq_false_iff, Bool.and_eq_false_iff, beq_eq_false_iff_ne] at h ⊢; omega)
theorem mdle_s_runActs1_s_serve0 {r k : Nat} (h : md_s_runActs1 r k = false) : md_s_serve0 r k = false := by
  first | rfl | (simp only [md_s_runActs1, md_s_serve0, Bool.or_eq_false_iff, Bool.and_eq_false_iff, beq_eq_false_iff_ne] at h ⊢; omega)
theorem mdle_s_runActs1_s_valueAt {r k : Nat} (h : md_s_runActs1 r k = false) : md_s_valueAt r k = false := by
  first | rfl | (simp only [md_s_runActs1, md_s_valueAt, Bool.or_eq_false_iff, Bool.and_eq_false_iff, beq_eq_false_iff_ne] at h ⊢; omega)
set_option maxHeartbeats 4000000 in
set_option maxRecDepth 100000 in
theorem lt_s_runActs1_a (l : Launch) (D : va_G) (cI cZ cS cR : ClassId) (N0 : NT) (fr : Int32) (g : GS) (h : Nat) (n : Int32) (x1 : Int32) (x2 : Int32) (r_h : g.1 h = 6) (l_n : 4 ≤ n.toInt) (u_n : n.toInt ≤ 5) {p : Program} {e : Env} {s : State} {m : MethodId} {args : Array Value} {below : List Frame} {meth : Method} {c : Code} (hB : Tz p s m meth c args cX5_runActs 14 RX5 D cI cZ cS cR N0) (hr : meth.sig.returnType = (some .int))  : ∀ (kf : Nat) (g1 : GS) (i : Int32) (j : Int32) (pk : Int32) (po : Int32) (q1 : Nat) (q2 : Nat) (H : Heap) (locs : List Loc) (ls : Array Slot), Tv D cI cZ cS cR N0 s.heap H locs g1 → Inv fr g1 → Ex g g1 → Sm md_s_runActs1 g g1 → 0 ≤ i.toInt → i.toInt ≤ 8 → 0 ≤ pk.toInt → pk.toInt ≤ 1 → 0 ≤ po.toInt → po.toInt ≤ 1 → g1.1 q1 = 4 → g1.1 q2 = 3 → 8 ≤ i.toInt + kf → lv_has ls 14 [(9, .int i), (8, .int po), (7, .int j), (6, .int pk), (5, .ref q2), (4, .ref q1), (0, .ref h), (1, .int n), (2, .int x1), (3, .int x2)] → W p l e (rmx 3 0 0) s m args below meth c H locs 0 0 (MQ below (tQ D cI cZ cS cR N0 (fun v g' => ∃ (r : Int32), v = some (.int r) ∧ Inv fr g' ∧ Ex g g' ∧ Sm md_s_runActs1 g g')) args s 0 0 (fun q => N0.1 ≤ q)) (F0 m 44 ls []) := by
  have hx := hB.1
  have hb := hB.2.1
  intro kf
  induction kf using Nat.strongRecOn with
  | ind kf ih =>
    intro g1 i j pk po q1 q2 H locs ls hT hI hE hM l_i u_i l_pk u_pk l_po u_po r1_q1 r1_q2 hk hl
    have r1_h : g1.1 h = 6 := Ex.r hE r_h (by decide)
    refine lv_iload hx hb dX5_runActs_44 (lv_at hl 0 rfl) ?_
    refine lv_aload hx hb dX5_runActs_46 (lv_at hl 4 rfl) ?_
    obtain ⟨v_1, e_v_1, l_v_1, u_v_1⟩ := hI.f r1_q2 3
    refine t_get (ci := 2) (v := .int v_1) hB hT (ro_ci r1_q2 rfl) rfl 3 (by decide) k_133 e_v_1 dX5_runActs_48 ?_
    refine lv_icmp_ge (tgt := 288) hx hb dX5_runActs_51 (by decide) (fun c_2 => ?_) (fun c_2 => ?_)
    · have c_2' : v_1.toInt ≤ i.toInt := i_le c_2 rfl rfl
      refine lv_iload hx hb dX5_runActs_288 (lv_at hl 2 rfl) ?_
      exact t_iret hB hr hT (Nat.le_of_ble_eq_true rfl) (Nat.le_of_ble_eq_true rfl) dX5_runActs_290 ⟨j, rfl, hI, hE, hM⟩
    · have c_2' : i.toInt < v_1.toInt := i_nle c_2 rfl rfl
      refine lv_iload hx hb dX5_runActs_54 (lv_at hl 1 rfl) ?_
      refine lv_if_eq (tgt := 65) hx hb dX5_runActs_56 (by decide) (fun c_3 => ?_) (fun c_3 => ?_)
      · have c_3' : po.toInt = 0 := i_eq c_3 rfl (by decide)
        refine lv_aload_n hx hb dX5_runActs_65 rfl (lv_at hl 6 rfl) ?_
        obtain ⟨v_4, e_v_4⟩ := hI.f r1_h 5
        refine t_get (ci := 5) (v := .int v_4) hB hT (ro_ci r1_h rfl) rfl 5 (by decide) k_213 e_v_4 dX5_runActs_66 ?_
        refine lv_iconst (v := 1) hx hb dX5_runActs_69 (by decide) ?_
        refine lv_iadd hx hb dX5_runActs_70 ?_
        refine lv_topi (fun z_5 ez_5 => ?_)
        refine lv_aload_n hx hb dX5_runActs_71 rfl (lv_at hl 6 rfl) ?_
        obtain ⟨v_6, e_v_6⟩ := hI.f r1_h 6
        refine t_get (ci := 5) (v := .int v_6) hB hT (ro_ci r1_h rfl) rfl 6 (by decide) k_215 e_v_6 dX5_runActs_72 ?_
        refine lv_icmp_lt (tgt := 86) hx hb dX5_runActs_75 (by decide) (fun c_7 => ?_) (fun c_7 => ?_)
        · have c_7' : z_5.toInt < v_6.toInt := i_lt c_7 rfl rfl
          refine lv_aload_n hx hb dX5_runActs_86 rfl (lv_at hl 6 rfl) ?_
          refine lv_dup hx hb dX5_runActs_87 rfl ?_
          refine t_get (ci := 5) (v := .int v_4) hB hT (ro_ci r1_h rfl) rfl 5 (by decide) k_213 e_v_4 dX5_runActs_88 ?_
          refine lv_iconst (v := 1) hx hb dX5_runActs_91 (by decide) ?_
          refine lv_iadd hx hb dX5_runActs_92 ?_
          refine lv_topi (fun z_8 ez_8 => ?_)
          refine t_put0 (ci := 5) (v := .int z_8) hB hT (ro_ci r1_h rfl) (ro_n0 r1_h (by decide)) rfl 5 (by decide) k_213 (Or.inl rfl) rfl rfl dX5_runActs_93 (fun H locs hT => ?_)
          have hI : Inv fr (sF g1 h 5 (.int z_8)) := hI.sF (fk r1_h (⟨_, rfl⟩))
          have hM : Sm md_s_runActs1 g (sF g1 h 5 (.int z_8)) := hM.tr hE (Sm_sF (by rw [r1_h]; rfl))
          have hE : Ex g (sF g1 h 5 (.int z_8)) := hE
          refine lv_aload hx hb dX5_runActs_96 (lv_at hl 4 rfl) ?_
          refine lv_iload hx hb dX5_runActs_98 (lv_at hl 0 rfl) ?_
          refine lv_iload_n hx hb dX5_runActs_100 rfl (lv_at hl 8 rfl) ?_
          refine lv_iload hx hb dX5_runActs_101 (lv_at hl 2 rfl) ?_
          refine t_callV (n := 3) (ci := 2) (As := [.int i, .int x1, .int j]) (rest := []) hB hT hl.1 (s_valueAt l D cI cZ cS cR N0 fr (sF g1 h 5 (.int z_8)) hI q2 i x1 j r1_q2 (by omega) (by omega)) (ro_ci r1_q2 rfl) rfl k_538 k_61 k_535 k_536 k_537 (by decide +kernel) ⟨(Nat.le_of_ble_eq_true rfl), (Nat.le_of_ble_eq_true rfl)⟩ rfl (Nat.le_of_ble_eq_true rfl) ⟨(Nat.le_of_ble_eq_true rfl), (Nat.le_of_ble_eq_true rfl)⟩ dX5_runActs_103 (fun v g_9 H locs hp hT => ?_)
          obtain ⟨r_10, rfl, hI, x_12, m_11⟩ := hp
          have r_13 : g_9.1 h = 6 := (Ex.r x_12 r1_h (by decide))
          have r_14 : g_9.1 q1 = 4 := (Ex.r x_12 r1_q1 (by decide))
          have r_15 : g_9.1 q2 = 3 := (Ex.r x_12 r1_q2 (by decide))
          have e_16 : g_9.2.1 q2 3 = .int v_1 := (Sm.v m_11 r1_q2 (by decide) rfl (sF_k e_v_1 (by decide)))
          have e_17 : g_9.2.1 h 6 = .int v_6 := (Sm.v m_11 r1_h (by decide) rfl (sF_k e_v_6 (by decide)))
          have e_18 : g_9.2.1 h 5 = .int z_8 := (Sm.v m_11 r1_h (by decide) rfl sF_eq)
          have hM : Sm md_s_runActs1 g g_9 := hM.tr hE (m_11.mo (fun r k h => mdle_s_runActs1_s_valueAt h))
          have hE : Ex g g_9 := hE.tr x_12
          refine W.eq (g2 := F0 m 106 ls [.int r_10]) rfl ?_
          refine lv_istore (lv' := [(10, .int r_10), (9, .int i), (8, .int po), (7, .int j), (6, .int pk), (5, .ref q2), (4, .ref q1), (0, .ref h), (1, .int n), (2, .int x1), (3, .int x2)]) hx hb dX5_runActs_106 hl (by decide) rfl (fun ls hl => ?_)
          refine lv_aload hx hb dX5_runActs_108 (lv_at hl 6 rfl) ?_
          refine lv_iload hx hb dX5_runActs_110 (lv_at hl 1 rfl) ?_
          refine lv_iload hx hb dX5_runActs_112 (lv_at hl 0 rfl) ?_
          refine t_callV (n := 2) (ci := 3) (As := [.int i, .int r_10]) (rest := []) hB hT hl.1 (s_isHeldBack l D cI cZ cS cR N0 fr g_9 hI q1 i r_10 r_14 (by omega) (by omega)) (ro_ci r_14 rfl) rfl k_542 k_60 k_539 k_540 k_541 (by decide +kernel) ⟨(Nat.le_of_ble_eq_true rfl), (Nat.le_of_ble_eq_true rfl)⟩ rfl (Nat.le_of_ble_eq_true rfl) ⟨(Nat.le_of_ble_eq_true rfl), (Nat.le_of_ble_eq_true rfl)⟩ dX5_runActs_114 (fun v g_19 H locs hp hT => ?_)
          obtain ⟨r_20, rfl, hI, x_23, m_22, f_21⟩ := hp
          have r_24 : g_19.1 h = 6 := (Ex.r x_23 r_13 (by decide))
          have r_25 : g_19.1 q1 = 4 := (Ex.r x_23 r_14 (by decide))
          have r_26 : g_19.1 q2 = 3 := (Ex.r x_23 r_15 (by decide))
          have e_27 : g_19.2.1 q2 3 = .int v_1 := (Sm.v m_22 r_15 (by decide) rfl e_16)
          have e_28 : g_19.2.1 h 6 = .int v_6 := (Sm.v m_22 r_13 (by decide) rfl e_17)
          have e_29 : g_19.2.1 h 5 = .int z_8 := (Sm.v m_22 r_13 (by decide) rfl e_18)
          have hM : Sm md_s_runActs1 g g_19 := hM.tr hE (m_22.mo (fun r k h => mdle_s_runActs1_s_isHeldBack h))
          have hE : Ex g g_19 := hE.tr x_23
          refine W.eq (g2 := F0 m 117 ls [.int r_20]) rfl ?_
          rcases f_21 with rfl | rfl
          · refine W.eq (g2 := F0 m 117 ls [.int 1]) rfl ?_
            refine lv_if_eq (tgt := 123) hx hb dX5_runActs_117 (by decide) (fun c_ => absurd c_ (by decide)) (fun c_ => ?_)
            refine lv_goto (tgt := 282) hx hb dX5_runActs_120 (by decide) ?_
            obtain ⟨z_30, ez_30⟩ : ∃ z : Int32, z = i + 1 := ⟨_, rfl⟩
            have e_z_30 : z_30.toInt = i.toInt + 1 := i_add ez_30 rfl (by decide) (by omega) (by omega)
            refine lv_iinc (v := z_30) (lv' := [(9, .int z_30), (10, .int r_10), (8, .int po), (7, .int j), (6, .int pk), (5, .ref q2), (4, .ref q1), (0, .ref h), (1, .int n), (2, .int x1), (3, .int x2)]) hx hb dX5_runActs_282 hl (k := 1) rfl (by rw [ez_30]; rfl) (by decide) rfl (fun ls hl => ?_)
            refine lv_goto (tgt := 44) hx hb dX5_runActs_285 (by decide) ?_
            exact ih (kf - 1) (by omega) g_19 z_30 j pk po q1 q2 H locs ls hT hI hE hM (by omega) (by omega) (by omega) (by omega) (by omega) (by omega) r_25 r_26 (by have e0 := z0; omega) (lv_sub hl [0, 2, 3, 4, 5, 6, 7, 8, 9, 10] rfl)
          · refine W.eq (g2 := F0 m 117 ls [.int 0]) rfl ?_
            refine lv_if_eq (tgt := 123) hx hb dX5_runActs_117 (by decide) (fun c_ => ?_) (fun c_ => absurd (by decide) c_)
            refine lv_aload hx hb dX5_runActs_123 (lv_at hl 5 rfl) ?_
            obtain ⟨v_31, e_v_31, r_v_31, n_v_31⟩ := hI.f r_26 0
            refine t_get (ci := 2) (v := .ref v_31) hB hT (ro_ci r_26 rfl) rfl 0 (by decide) k_122 e_v_31 dX5_runActs_125 ?_
            refine lv_iload hx hb dX5_runActs_128 (lv_at hl 1 rfl) ?_
            have i_u_32 : vp_in i 8 := (i_in (n := 8) rfl (by omega) (by omega))
            refine t_iald hB hT (ro_in r_v_31 (by decide)) n_v_31 i_u_32 rfl dX5_runActs_130 ?_
            refine lv_topi (fun u_32 e_u_32 => ?_)
            refine lv_istore (lv' := [(11, .int u_32), (10, .int r_10), (9, .int i), (8, .int po), (7, .int j), (6, .int pk), (5, .ref q2), (4, .ref q1), (0, .ref h), (1, .int n), (2, .int x1), (3, .int x2)]) hx hb dX5_runActs_131 hl (by decide) rfl (fun ls hl => ?_)
            refine lv_aload hx hb dX5_runActs_133 (lv_at hl 6 rfl) ?_
            obtain ⟨v_33, e_v_33, r_v_33, n_v_33⟩ := hI.f r_26 1
            refine t_get (ci := 2) (v := .ref v_33) hB hT (ro_ci r_26 rfl) rfl 1 (by decide) k_126 e_v_33 dX5_runActs_135 ?_
            refine lv_iload hx hb dX5_runActs_138 (lv_at hl 2 rfl) ?_
            have i_u_34 : vp_in i 8 := (i_in (n := 8) rfl (by omega) (by omega))
            refine t_iald hB hT (ro_in r_v_33 (by decide)) n_v_33 i_u_34 rfl dX5_runActs_140 ?_
            have c_u_34 := hI.c r_v_33 n_v_33 (i_cl i_u_34)
            refine lv_topi (fun u_34 e_u_34 => ?_)
            obtain ⟨l_u_34, u_u_34⟩ := c_u_34
            rw [← e_u_34] at l_u_34 u_u_34
            refine lv_istore (lv' := [(12, .int u_34), (11, .int u_32), (10, .int r_10), (9, .int i), (8, .int po), (7, .int j), (6, .int pk), (5, .ref q2), (4, .ref q1), (0, .ref h), (1, .int n), (2, .int x1), (3, .int x2)]) hx hb dX5_runActs_141 hl (by decide) rfl (fun ls hl => ?_)
            refine lv_iload hx hb dX5_runActs_143 (lv_at hl 1 rfl) ?_
            refine lv_iconst (v := 5) hx hb dX5_runActs_145 (by decide) ?_
            refine lv_icmp_ne (tgt := 207) hx hb dX5_runActs_146 (by decide) (fun c_35 => ?_) (fun c_35 => ?_)
            · have c_35' : u_32.toInt ≠ 5 := i_ne c_35 rfl (by decide)
              refine lv_iload hx hb dX5_runActs_207 (lv_at hl 1 rfl) ?_
              refine lv_bipush (v := 6) hx hb dX5_runActs_209 (by decide) ?_
              refine lv_icmp_ne (tgt := 242) hx hb dX5_runActs_211 (by decide) (fun c_36 => ?_) (fun c_36 => ?_)
              · have c_36' : u_32.toInt ≠ 6 := i_ne c_36 rfl (by decide)
                refine lv_iload hx hb dX5_runActs_242 (lv_at hl 1 rfl) ?_
                refine lv_bipush (v := 7) hx hb dX5_runActs_244 (by decide) ?_
                refine lv_icmp_ne (tgt := 263) hx hb dX5_runActs_246 (by decide) (fun c_37 => ?_) (fun c_37 => ?_)
                · have c_37' : u_32.toInt ≠ 7 := i_ne c_37 rfl (by decide)
                  refine lv_iload hx hb dX5_runActs_263 (lv_at hl 1 rfl) ?_
                  refine lv_iconst (v := 5) hx hb dX5_runActs_265 (by decide) ?_
                  refine lv_icmp_eq (tgt := 282) hx hb dX5_runActs_266 (by decide) (fun c_38 => ?_) (fun c_38 => ?_)
                  · have c_38' : u_32.toInt = 5 := i_eq c_38 rfl (by decide)
                    obtain ⟨z_39, ez_39⟩ : ∃ z : Int32, z = i + 1 := ⟨_, rfl⟩
                    have e_z_39 : z_39.toInt = i.toInt + 1 := i_add ez_39 rfl (by decide) (by omega) (by omega)
                    refine lv_iinc (v := z_39) (lv' := [(9, .int z_39), (12, .int u_34), (11, .int u_32), (10, .int r_10), (8, .int po), (7, .int j), (6, .int pk), (5, .ref q2), (4, .ref q1), (0, .ref h), (1, .int n), (2, .int x1), (3, .int x2)]) hx hb dX5_runActs_282 hl (k := 3) rfl (by rw [ez_39]; rfl) (by decide) rfl (fun ls hl => ?_)
                    refine lv_goto (tgt := 44) hx hb dX5_runActs_285 (by decide) ?_
                    exact ih (kf - 1) (by omega) g_19 z_39 j pk po q1 q2 H locs ls hT hI hE hM (by omega) (by omega) (by omega) (by omega) (by omega) (by omega) r_25 r_26 (by have e0 := z0; omega) (lv_sub hl [0, 4, 5, 6, 7, 8, 9, 10, 11, 12] rfl)
                  · have c_38' : u_32.toInt ≠ 5 := i_ne c_38 rfl (by decide)
                    refine lv_aload hx hb dX5_runActs_269 (lv_at hl 8 rfl) ?_
                    refine lv_iload hx hb dX5_runActs_271 (lv_at hl 3 rfl) ?_
                    refine lv_iload hx hb dX5_runActs_273 (lv_at hl 2 rfl) ?_
                    refine lv_iload hx hb dX5_runActs_275 (lv_at hl 5 rfl) ?_
                    refine t_callV (n := 3) (ci := 3) (As := [.int i, .int r_10, .int j]) (rest := []) hB hT hl.1 (s_perform l D cI cZ cS cR N0 fr g_19 hI q1 i r_10 j r_25 (by omega) (by omega)) (ro_ci r_25 rfl) rfl k_550 k_60 k_547 k_548 k_549 (by decide +kernel) ⟨(Nat.le_of_ble_eq_true rfl), (Nat.le_of_ble_eq_true rfl)⟩ rfl (Nat.le_of_ble_eq_true rfl) ⟨(Nat.le_of_ble_eq_true rfl), (Nat.le_of_ble_eq_true rfl)⟩ dX5_runActs_277 (fun v g_40 H locs hp hT => ?_)
                    obtain ⟨r_41, rfl, hI, x_43, m_42⟩ := hp
                    have r_44 : g_40.1 h = 6 := (Ex.r x_43 r_24 (by decide))
                    have r_45 : g_40.1 q1 = 4 := (Ex.r x_43 r_25 (by decide))
                    have r_46 : g_40.1 q2 = 3 := (Ex.r x_43 r_26 (by decide))
                    have r_47 : g_40.1 v_31 = 20 := (Ex.r x_43 r_v_31 (by decide))
                    have r_48 : g_40.1 v_33 = 21 := (Ex.r x_43 r_v_33 (by decide))
                    have n_49 : g_40.2.2.1 v_31 = 8 := (Ex.n x_43 r_v_31 (by decide) n_v_31)
                    have n_50 : g_40.2.2.1 v_33 = 8 := (Ex.n x_43 r_v_33 (by decide) n_v_33)
                    have e_51 : g_40.2.1 q2 3 = .int v_1 := (Sm.v m_42 r_26 (by decide) rfl e_27)
                    have e_52 : g_40.2.1 h 6 = .int v_6 := (Sm.v m_42 r_24 (by decide) rfl e_28)
                    have e_53 : g_40.2.1 h 5 = .int z_8 := (Sm.v m_42 r_24 (by decide) rfl e_29)
                    have e_54 : g_40.2.1 q2 0 = .ref v_31 := (Sm.v m_42 r_26 (by decide) rfl e_v_31)
                    have e_55 : g_40.2.1 q2 1 = .ref v_33 := (Sm.v m_42 r_26 (by decide) rfl e_v_33)
                    have hM : Sm md_s_runActs1 g g_40 := hM.tr hE (m_42.mo (fun r k h => mdle_s_runActs1_s_perform h))
                    have hE : Ex g g_40 := hE.tr x_43
                    refine W.eq (g2 := F0 m 280 ls [.int r_41]) rfl ?_
                    refine lv_istore (lv' := [(7, .int r_41), (12, .int u_34), (11, .int u_32), (10, .int r_10), (9, .int i), (8, .int po), (6, .int pk), (5, .ref q2), (4, .ref q1), (0, .ref h), (1, .int n), (2, .int x1), (3, .int x2)]) hx hb dX5_runActs_280 hl (by decide) rfl (fun ls hl => ?_)
                    obtain ⟨z_56, ez_56⟩ : ∃ z : Int32, z = i + 1 := ⟨_, rfl⟩
                    have e_z_56 : z_56.toInt = i.toInt + 1 := i_add ez_56 rfl (by decide) (by omega) (by omega)
                    refine lv_iinc (v := z_56) (lv' := [(9, .int z_56), (7, .int r_41), (12, .int u_34), (11, .int u_32), (10, .int r_10), (8, .int po), (6, .int pk), (5, .ref q2), (4, .ref q1), (0, .ref h), (1, .int n), (2, .int x1), (3, .int x2)]) hx hb dX5_runActs_282 hl (k := 4) rfl (by rw [ez_56]; rfl) (by decide) rfl (fun ls hl => ?_)
                    refine lv_goto (tgt := 44) hx hb dX5_runActs_285 (by decide) ?_
                    exact ih (kf - 1) (by omega) g_40 z_56 r_41 pk po q1 q2 H locs ls hT hI hE hM (by omega) (by omega) (by omega) (by omega) (by omega) (by omega) r_45 r_46 (by have e0 := z0; omega) (lv_sub hl [0, 5, 1, 6, 7, 8, 9, 10, 11, 12] rfl)
                · have c_37' : u_32.toInt = 7 := i_eq c_37 rfl (by decide)
                  refine lv_aload hx hb dX5_runActs_249 (lv_at hl 8 rfl) ?_
                  refine lv_iload hx hb dX5_runActs_251 (lv_at hl 3 rfl) ?_
                  refine lv_iload hx hb dX5_runActs_253 (lv_at hl 2 rfl) ?_
                  refine t_callV (n := 2) (ci := 3) (As := [.int i, .int r_10]) (rest := []) hB hT hl.1 (s_passesOver l D cI cZ cS cR N0 fr g_19 hI q1 i r_10 r_25 (by omega) (by omega)) (ro_ci r_25 rfl) rfl k_546 k_60 k_543 k_544 k_545 (by decide +kernel) ⟨(Nat.le_of_ble_eq_true rfl), (Nat.le_of_ble_eq_true rfl)⟩ rfl (Nat.le_of_ble_eq_true rfl) ⟨(Nat.le_of_ble_eq_true rfl), (Nat.le_of_ble_eq_true rfl)⟩ dX5_runActs_255 (fun v g_57 H locs hp hT => ?_)
                  obtain ⟨r_58, rfl, hI, x_61, m_60, f_59⟩ := hp
                  have r_62 : g_57.1 h = 6 := (Ex.r x_61 r_24 (by decide))
                  have r_63 : g_57.1 q1 = 4 := (Ex.r x_61 r_25 (by decide))
                  have r_64 : g_57.1 q2 = 3 := (Ex.r x_61 r_26 (by decide))
                  have r_65 : g_57.1 v_31 = 20 := (Ex.r x_61 r_v_31 (by decide))
                  have r_66 : g_57.1 v_33 = 21 := (Ex.r x_61 r_v_33 (by decide))
                  have n_67 : g_57.2.2.1 v_31 = 8 := (Ex.n x_61 r_v_31 (by decide) n_v_31)
                  have n_68 : g_57.2.2.1 v_33 = 8 := (Ex.n x_61 r_v_33 (by decide) n_v_33)
                  have e_69 : g_57.2.1 q2 3 = .int v_1 := (Sm.v m_60 r_26 (by decide) rfl e_27)
                  have e_70 : g_57.2.1 h 6 = .int v_6 := (Sm.v m_60 r_24 (by decide) rfl e_28)
                  have e_71 : g_57.2.1 h 5 = .int z_8 := (Sm.v m_60 r_24 (by decide) rfl e_29)
                  have e_72 : g_57.2.1 q2 0 = .ref v_31 := (Sm.v m_60 r_26 (by decide) rfl e_v_31)
                  have e_73 : g_57.2.1 q2 1 = .ref v_33 := (Sm.v m_60 r_26 (by decide) rfl e_v_33)
                  have hM : Sm md_s_runActs1 g g_57 := hM.tr hE (m_60.mo (fun r k h => mdle_s_runActs1_s_passesOver h))
                  have hE : Ex g g_57 := hE.tr x_61
                  refine W.eq (g2 := F0 m 258 ls [.int r_58]) rfl ?_
                  rcases f_59 with rfl | rfl
                  · refine W.eq (g2 := F0 m 258 ls [.int 1]) rfl ?_
                    refine lv_istore (lv' := [(8, .int 1), (12, .int u_34), (11, .int u_32), (10, .int r_10), (9, .int i), (7, .int j), (6, .int pk), (5, .ref q2), (4, .ref q1), (0, .ref h), (1, .int n), (2, .int x1), (3, .int x2)]) hx hb dX5_runActs_258 hl (by decide) rfl (fun ls hl => ?_)
                    refine lv_goto (tgt := 282) hx hb dX5_runActs_260 (by decide) ?_
                    obtain ⟨z_74, ez_74⟩ : ∃ z : Int32, z = i + 1 := ⟨_, rfl⟩
                    have e_z_74 : z_74.toInt = i.toInt + 1 := i_add ez_74 rfl (by decide) (by omega) (by omega)
                    refine lv_iinc (v := z_74) (lv' := [(9, .int z_74), (8, .int 1), (12, .int u_34), (11, .int u_32), (10, .int r_10), (7, .int j), (6, .int pk), (5, .ref q2), (4, .ref q1), (0, .ref h), (1, .int n), (2, .int x1), (3, .int x2)]) hx hb dX5_runActs_282 hl (k := 4) rfl (by rw [ez_74]; rfl) (by decide) rfl (fun ls hl => ?_)
                    refine lv_goto (tgt := 44) hx hb dX5_runActs_285 (by decide) ?_
                    exact ih (kf - 1) (by omega) g_57 z_74 j pk (1 : Int32) q1 q2 H locs ls hT hI hE hM (by omega) (by omega) (by omega) (by omega) (by decide) (by decide) r_63 r_64 (by have e0 := z0; omega) (lv_sub hl [0, 1, 5, 6, 7, 8, 9, 10, 11, 12] rfl)
                  · refine W.eq (g2 := F0 m 258 ls [.int 0]) rfl ?_
                    refine lv_istore (lv' := [(8, .int 0), (12, .int u_34), (11, .int u_32), (10, .int r_10), (9, .int i), (7, .int j), (6, .int pk), (5, .ref q2), (4, .ref q1), (0, .ref h), (1, .int n), (2, .int x1), (3, .int x2)]) hx hb dX5_runActs_258 hl (by decide) rfl (fun ls hl => ?_)
                    refine lv_goto (tgt := 282) hx hb dX5_runActs_260 (by decide) ?_
                    obtain ⟨z_75, ez_75⟩ : ∃ z : Int32, z = i + 1 := ⟨_, rfl⟩
                    have e_z_75 : z_75.toInt = i.toInt + 1 := i_add ez_75 rfl (by decide) (by omega) (by omega)
                    refine lv_iinc (v := z_75) (lv' := [(9, .int z_75), (8, .int 0), (12, .int u_34), (11, .int u_32), (10, .int r_10), (7, .int j), (6, .int pk), (5, .ref q2), (4, .ref q1), (0, .ref h), (1, .int n), (2, .int x1), (3, .int x2)]) hx hb dX5_runActs_282 hl (k := 4) rfl (by rw [ez_75]; rfl) (by decide) rfl (fun ls hl => ?_)
                    refine lv_goto (tgt := 44) hx hb dX5_runActs_285 (by decide) ?_
                    exact ih (kf - 1) (by omega) g_57 z_75 j pk (0 : Int32) q1 q2 H locs ls hT hI hE hM (by omega) (by omega) (by omega) (by omega) (by decide) (by decide) r_63 r_64 (by have e0 := z0; omega) (lv_sub hl [0, 1, 5, 6, 7, 8, 9, 10, 11, 12] rfl)
              · have c_36' : u_32.toInt = 6 := i_eq c_36 rfl (by decide)
                refine lv_aload_n hx hb dX5_runActs_214 rfl (lv_at hl 9 rfl) ?_
                obtain ⟨v_76, e_v_76, r_v_76, n_v_76⟩ := hI.f r_24 3
                refine t_get (ci := 5) (v := .ref v_76) hB hT (ro_ci r_24 rfl) rfl 3 (by decide) k_207 e_v_76 dX5_runActs_215 ?_
                refine lv_aload_n hx hb dX5_runActs_218 rfl (lv_at hl 9 rfl) ?_
                obtain ⟨v_77, e_v_77⟩ := hI.f r_24 4
                refine t_get (ci := 5) (v := .int v_77) hB hT (ro_ci r_24 rfl) rfl 4 (by decide) k_210 e_v_77 dX5_runActs_219 ?_
                refine lv_sipush (v := 511) hx hb dX5_runActs_222 (by decide) ?_
                refine lv_iand hx hb dX5_runActs_225 ?_
                refine lv_topi (fun z_78 ez_78 => ?_)
                have e_z_78 := i_and 9 (b := 511) ez_78 (by decide) (by decide) (by decide)
                refine lv_iload hx hb dX5_runActs_226 (lv_at hl 2 rfl) ?_
                have i_79 : vp_in z_78 512 := (i_in (n := 512) rfl (by omega) (by omega))
                refine t_iast hB hT (ro_in r_v_76 (by decide)) n_v_76 i_79 dX5_runActs_228 (fun H locs hT => ?_)
                have hI : Inv fr (sC g_19 v_76 z_78.toNatClampNeg r_10) := hI.sC (ck r_v_76 trivial)
                have hM : Sm md_s_runActs1 g (sC g_19 v_76 z_78.toNatClampNeg r_10) := hM
                have hE : Ex g (sC g_19 v_76 z_78.toNatClampNeg r_10) := hE
                refine lv_aload_n hx hb dX5_runActs_229 rfl (lv_at hl 9 rfl) ?_
                refine lv_dup hx hb dX5_runActs_230 rfl ?_
                refine t_get (ci := 5) (v := .int v_77) hB hT (ro_ci r_24 rfl) rfl 4 (by decide) k_210 e_v_77 dX5_runActs_231 ?_
                refine lv_iconst (v := 1) hx hb dX5_runActs_234 (by decide) ?_
                refine lv_iadd hx hb dX5_runActs_235 ?_
                refine lv_topi (fun z_80 ez_80 => ?_)
                refine t_put0 (ci := 5) (v := .int z_80) hB hT (ro_ci r_24 rfl) (ro_n0 r_24 (by decide)) rfl 4 (by decide) k_210 (Or.inl rfl) rfl rfl dX5_runActs_236 (fun H locs hT => ?_)
                have hI : Inv fr (sF (sC g_19 v_76 z_78.toNatClampNeg r_10) h 4 (.int z_80)) := hI.sF (fk r_24 (⟨_, rfl⟩))
                have hM : Sm md_s_runActs1 g (sF (sC g_19 v_76 z_78.toNatClampNeg r_10) h 4 (.int z_80)) := hM.tr hE (Sm_sF (by rw [r_24]; rfl))
                have hE : Ex g (sF (sC g_19 v_76 z_78.toNatClampNeg r_10) h 4 (.int z_80)) := hE
                refine lv_goto (tgt := 282) hx hb dX5_runActs_239 (by decide) ?_
                obtain ⟨z_81, ez_81⟩ : ∃ z : Int32, z = i + 1 := ⟨_, rfl⟩
                have e_z_81 : z_81.toInt = i.toInt + 1 := i_add ez_81 rfl (by decide) (by omega) (by omega)
                refine lv_iinc (v := z_81) (lv' := [(9, .int z_81), (12, .int u_34), (11, .int u_32), (10, .int r_10), (8, .int po), (7, .int j), (6, .int pk), (5, .ref q2), (4, .ref q1), (0, .ref h), (1, .int n), (2, .int x1), (3, .int x2)]) hx hb dX5_runActs_282 hl (k := 3) rfl (by rw [ez_81]; rfl) (by decide) rfl (fun ls hl => ?_)
                refine lv_goto (tgt := 44) hx hb dX5_runActs_285 (by decide) ?_
                exact ih (kf - 1) (by omega) (sF (sC g_19 v_76 z_78.toNatClampNeg r_10) h 4 (.int z_80)) z_81 j pk po q1 q2 H locs ls hT hI hE hM (by omega) (by omega) (by omega) (by omega) (by omega) (by omega) r_25 r_26 (by have e0 := z0; omega) (lv_sub hl [0, 4, 5, 6, 7, 8, 9, 10, 11, 12] rfl)
            · have c_35' : u_32.toInt = 5 := i_eq c_35 rfl (by decide)
              refine lv_aload_n hx hb dX5_runActs_149 rfl (lv_at hl 9 rfl) ?_
              refine lv_iload_n hx hb dX5_runActs_150 rfl (lv_at hl 10 rfl) ?_
              refine lv_iload hx hb dX5_runActs_151 (lv_at hl 0 rfl) ?_
              refine t_callV (n := 2) (ci := 5) (As := [.int n, .int u_34]) (rest := []) hB hT hl.1 (s_canAsk l D cI cZ cS cR N0 fr g_19 hI h n u_34 r_24) (ro_ci r_24 rfl) rfl k_477 k_59 k_474 k_476 k_10 (by decide +kernel) ⟨(Nat.le_of_ble_eq_true rfl), (Nat.le_of_ble_eq_true rfl)⟩ rfl (Nat.le_of_ble_eq_true rfl) ⟨(Nat.le_of_ble_eq_true rfl), (Nat.le_of_ble_eq_true rfl)⟩ dX5_runActs_153 (fun v g_82 H locs hp hT => ?_)
              obtain ⟨r_83, rfl, hI, x_86, m_85, f_84⟩ := hp
              have r_87 : g_82.1 h = 6 := (Ex.r x_86 r_24 (by decide))
              have r_88 : g_82.1 q1 = 4 := (Ex.r x_86 r_25 (by decide))
              have r_89 : g_82.1 q2 = 3 := (Ex.r x_86 r_26 (by decide))
              have r_90 : g_82.1 v_31 = 20 := (Ex.r x_86 r_v_31 (by decide))
              have r_91 : g_82.1 v_33 = 21 := (Ex.r x_86 r_v_33 (by decide))
              have n_92 : g_82.2.2.1 v_31 = 8 := (Ex.n x_86 r_v_31 (by decide) n_v_31)
              have n_93 : g_82.2.2.1 v_33 = 8 := (Ex.n x_86 r_v_33 (by decide) n_v_33)
              have e_94 : g_82.2.1 q2 3 = .int v_1 := (Sm.v m_85 r_26 (by decide) rfl e_27)
              have e_95 : g_82.2.1 h 6 = .int v_6 := (Sm.v m_85 r_24 (by decide) rfl e_28)
              have e_96 : g_82.2.1 h 5 = .int z_8 := (Sm.v m_85 r_24 (by decide) rfl e_29)
              have e_97 : g_82.2.1 q2 0 = .ref v_31 := (Sm.v m_85 r_26 (by decide) rfl e_v_31)
              have e_98 : g_82.2.1 q2 1 = .ref v_33 := (Sm.v m_85 r_26 (by decide) rfl e_v_33)
              have hM : Sm md_s_runActs1 g g_82 := hM.tr hE (m_85.mo (fun r k h => mdle_s_runActs1_s_canAsk h))
              have hE : Ex g g_82 := hE.tr x_86
              refine W.eq (g2 := F0 m 156 ls [.int r_83]) rfl ?_
              rcases f_84 with ⟨rfl, hw_99, hw_100⟩ | rfl
              · refine W.eq (g2 := F0 m 156 ls [.int 1]) rfl ?_
                refine lv_if_eq (tgt := 207) hx hb dX5_runActs_156 (by decide) (fun c_ => absurd c_ (by decide)) (fun c_ => ?_)
                refine lv_iload hx hb dX5_runActs_159 (lv_at hl 6 rfl) ?_
                refine lv_if_eq (tgt := 179) hx hb dX5_runActs_161 (by decide) (fun c_101 => ?_) (fun c_101 => ?_)
                · have c_101' : pk.toInt = 0 := i_eq c_101 rfl (by decide)
                  refine lv_iconst (v := 0) hx hb dX5_runActs_179 (by decide) ?_
                  refine lv_istore (lv' := [(13, .int 0), (12, .int u_34), (11, .int u_32), (10, .int r_10), (9, .int i), (8, .int po), (7, .int j), (6, .int pk), (5, .ref q2), (4, .ref q1), (0, .ref h), (1, .int n), (2, .int x1), (3, .int x2)]) hx hb dX5_runActs_180 hl (by decide) rfl (fun ls hl => ?_)
                  refine lv_aload_n hx hb dX5_runActs_182 rfl (lv_at hl 10 rfl) ?_
                  refine lv_iload hx hb dX5_runActs_183 (lv_at hl 1 rfl) ?_
                  refine lv_iload hx hb dX5_runActs_185 (lv_at hl 3 rfl) ?_
                  refine lv_iload hx hb dX5_runActs_187 (lv_at hl 0 rfl) ?_
                  refine t_callV (n := 3) (ci := 5) (As := [.int u_34, .int r_10, .int 0]) (rest := []) hB hT hl.1 (s_serve0 l D cI cZ cS cR N0 fr g_82 hI h u_34 r_10 0 r_87 (by omega) (by omega)) (ro_ci r_87 rfl) rfl k_508 k_59 k_505 k_507 k_12 (by decide +kernel) ⟨(Nat.le_of_ble_eq_true rfl), (Nat.le_of_ble_eq_true rfl)⟩ rfl (Nat.le_of_ble_eq_true rfl) ⟨(Nat.le_of_ble_eq_true rfl), (Nat.le_of_ble_eq_true rfl)⟩ dX5_runActs_189 (fun v g_102 H locs hp hT => ?_)
                  obtain ⟨r_103, rfl, hI, x_105, m_104⟩ := hp
                  have r_106 : g_102.1 h = 6 := (Ex.r x_105 r_87 (by decide))
                  have r_107 : g_102.1 q1 = 4 := (Ex.r x_105 r_88 (by decide))
                  have r_108 : g_102.1 q2 = 3 := (Ex.r x_105 r_89 (by decide))
                  have r_109 : g_102.1 v_31 = 20 := (Ex.r x_105 r_90 (by decide))
                  have r_110 : g_102.1 v_33 = 21 := (Ex.r x_105 r_91 (by decide))
                  have n_111 : g_102.2.2.1 v_31 = 8 := (Ex.n x_105 r_90 (by decide) n_92)
                  have n_112 : g_102.2.2.1 v_33 = 8 := (Ex.n x_105 r_91 (by decide) n_93)
                  have e_113 : g_102.2.1 q2 3 = .int v_1 := (Sm.v m_104 r_89 (by decide) rfl e_94)
                  have e_114 : g_102.2.1 h 6 = .int v_6 := (Sm.v m_104 r_87 (by decide) rfl e_95)
                  have e_115 : g_102.2.1 q2 0 = .ref v_31 := (Sm.v m_104 r_89 (by decide) rfl e_97)
                  have e_116 : g_102.2.1 q2 1 = .ref v_33 := (Sm.v m_104 r_89 (by decide) rfl e_98)
                  have hM : Sm md_s_runActs1 g g_102 := hM.tr hE (m_104.mo (fun r k h => mdle_s_runActs1_s_serve0 h))
                  have hE : Ex g g_102 := hE.tr x_105
                  refine W.eq (g2 := F0 m 192 ls [.int r_103]) rfl ?_
                  refine lv_istore (lv' := [(7, .int r_103), (13, .int 0), (12, .int u_34), (11, .int u_32), (10, .int r_10), (9, .int i), (8, .int po), (6, .int pk), (5, .ref q2), (4, .ref q1), (0, .ref h), (1, .int n), (2, .int x1), (3, .int x2)]) hx hb dX5_runActs_192 hl (by decide) rfl (fun ls hl => ?_)
                  refine lv_aload_n hx hb dX5_runActs_194 rfl (lv_at hl 10 rfl) ?_
                  obtain ⟨v_117, e_v_117, l_v_117, u_v_117⟩ := hI.f r_106 7
                  refine t_get (ci := 5) (v := .int v_117) hB hT (ro_ci r_106 rfl) rfl 7 (by decide) k_216 e_v_117 dX5_runActs_195 ?_
                  refine lv_if_eq (tgt := 204) hx hb dX5_runActs_198 (by decide) (fun c_118 => ?_) (fun c_118 => ?_)
                  · have c_118' : v_117.toInt = 0 := i_eq c_118 rfl (by decide)
                    refine lv_goto (tgt := 282) hx hb dX5_runActs_204 (by decide) ?_
                    obtain ⟨z_119, ez_119⟩ : ∃ z : Int32, z = i + 1 := ⟨_, rfl⟩
                    have e_z_119 : z_119.toInt = i.toInt + 1 := i_add ez_119 rfl (by decide) (by omega) (by omega)
                    refine lv_iinc (v := z_119) (lv' := [(9, .int z_119), (7, .int r_103), (13, .int 0), (12, .int u_34), (11, .int u_32), (10, .int r_10), (8, .int po), (6, .int pk), (5, .ref q2), (4, .ref q1), (0, .ref h), (1, .int n), (2, .int x1), (3, .int x2)]) hx hb dX5_runActs_282 hl (k := 5) rfl (by rw [ez_119]; rfl) (by decide) rfl (fun ls hl => ?_)
                    refine lv_goto (tgt := 44) hx hb dX5_runActs_285 (by decide) ?_
                    exact ih (kf - 1) (by omega) g_102 z_119 r_103 pk po q1 q2 H locs ls hT hI hE hM (by omega) (by omega) (by omega) (by omega) (by omega) (by omega) r_107 r_108 (by have e0 := z0; omega) (lv_sub hl [0, 6, 1, 7, 8, 9, 10, 11, 12, 13] rfl)
                  · have c_118' : v_117.toInt ≠ 0 := i_ne c_118 rfl (by decide)
                    refine lv_bipush (v := (-2)) hx hb dX5_runActs_201 (by decide) ?_
                    exact t_iret hB hr hT (Nat.le_of_ble_eq_true rfl) (Nat.le_of_ble_eq_true rfl) dX5_runActs_203 ⟨(-2), rfl, hI, hE, hM⟩
                · have c_101' : pk.toInt ≠ 0 := i_ne c_101 rfl (by decide)
                  refine lv_iload_n hx hb dX5_runActs_164 rfl (lv_at hl 12 rfl) ?_
                  refine lv_bipush (v := 7) hx hb dX5_runActs_165 (by decide) ?_
                  refine lv_iload hx hb dX5_runActs_167 (lv_at hl 3 rfl) ?_
                  refine lv_imul hx hb dX5_runActs_169 ?_
                  refine lv_topi (fun z_120 ez_120 => ?_)
                  have e_z_120 : z_120.toInt = 7 * i.toInt := i_mul ez_120 (by decide) rfl (by omega) (by omega)
                  refine lv_iadd hx hb dX5_runActs_170 ?_
                  refine lv_topi (fun z_121 ez_121 => ?_)
                  refine lv_bipush (v := 99) hx hb dX5_runActs_171 (by decide) ?_
                  refine lv_irem hx hb dX5_runActs_173 (by decide) ?_
                  refine lv_topi (fun z_122 ez_122 => ?_)
                  refine lv_iconst (v := 1) hx hb dX5_runActs_174 (by decide) ?_
                  refine lv_iadd hx hb dX5_runActs_175 ?_
                  refine lv_topi (fun z_123 ez_123 => ?_)
                  refine lv_goto (tgt := 180) hx hb dX5_runActs_176 (by decide) ?_
                  refine lv_istore (lv' := [(13, .int z_123), (12, .int u_34), (11, .int u_32), (10, .int r_10), (9, .int i), (8, .int po), (7, .int j), (6, .int pk), (5, .ref q2), (4, .ref q1), (0, .ref h), (1, .int n), (2, .int x1), (3, .int x2)]) hx hb dX5_runActs_180 hl (by decide) rfl (fun ls hl => ?_)
                  refine lv_aload_n hx hb dX5_runActs_182 rfl (lv_at hl 10 rfl) ?_
                  refine lv_iload hx hb dX5_runActs_183 (lv_at hl 1 rfl) ?_
                  refine lv_iload hx hb dX5_runActs_185 (lv_at hl 3 rfl) ?_
                  refine lv_iload hx hb dX5_runActs_187 (lv_at hl 0 rfl) ?_
                  refine t_callV (n := 3) (ci := 5) (As := [.int u_34, .int r_10, .int z_123]) (rest := []) hB hT hl.1 (s_serve0 l D cI cZ cS cR N0 fr g_82 hI h u_34 r_10 z_123 r_87 (by omega) (by omega)) (ro_ci r_87 rfl) rfl k_508 k_59 k_505 k_507 k_12 (by decide +kernel) ⟨(Nat.le_of_ble_eq_true rfl), (Nat.le_of_ble_eq_true rfl)⟩ rfl (Nat.le_of_ble_eq_true rfl) ⟨(Nat.le_of_ble_eq_true rfl), (Nat.le_of_ble_eq_true rfl)⟩ dX5_runActs_189 (fun v g_124 H locs hp hT => ?_)
                  obtain ⟨r_125, rfl, hI, x_127, m_126⟩ := hp
                  have r_128 : g_124.1 h = 6 := (Ex.r x_127 r_87 (by decide))
                  have r_129 : g_124.1 q1 = 4 := (Ex.r x_127 r_88 (by decide))
                  have r_130 : g_124.1 q2 = 3 := (Ex.r x_127 r_89 (by decide))
                  have r_131 : g_124.1 v_31 = 20 := (Ex.r x_127 r_90 (by decide))
                  have r_132 : g_124.1 v_33 = 21 := (Ex.r x_127 r_91 (by decide))
                  have n_133 : g_124.2.2.1 v_31 = 8 := (Ex.n x_127 r_90 (by decide) n_92)
                  have n_134 : g_124.2.2.1 v_33 = 8 := (Ex.n x_127 r_91 (by decide) n_93)
                  have e_135 : g_124.2.1 q2 3 = .int v_1 := (Sm.v m_126 r_89 (by decide) rfl e_94)
                  have e_136 : g_124.2.1 h 6 = .int v_6 := (Sm.v m_126 r_87 (by decide) rfl e_95)
                  have e_137 : g_124.2.1 q2 0 = .ref v_31 := (Sm.v m_126 r_89 (by decide) rfl e_97)
                  have e_138 : g_124.2.1 q2 1 = .ref v_33 := (Sm.v m_126 r_89 (by decide) rfl e_98)
                  have hM : Sm md_s_runActs1 g g_124 := hM.tr hE (m_126.mo (fun r k h => mdle_s_runActs1_s_serve0 h))
                  have hE : Ex g g_124 := hE.tr x_127
                  refine W.eq (g2 := F0 m 192 ls [.int r_125]) rfl ?_
                  refine lv_istore (lv' := [(7, .int r_125), (13, .int z_123), (12, .int u_34), (11, .int u_32), (10, .int r_10), (9, .int i), (8, .int po), (6, .int pk), (5, .ref q2), (4, .ref q1), (0, .ref h), (1, .int n), (2, .int x1), (3, .int x2)]) hx hb dX5_runActs_192 hl (by decide) rfl (fun ls hl => ?_)
                  refine lv_aload_n hx hb dX5_runActs_194 rfl (lv_at hl 10 rfl) ?_
                  obtain ⟨v_139, e_v_139, l_v_139, u_v_139⟩ := hI.f r_128 7
                  refine t_get (ci := 5) (v := .int v_139) hB hT (ro_ci r_128 rfl) rfl 7 (by decide) k_216 e_v_139 dX5_runActs_195 ?_
                  refine lv_if_eq (tgt := 204) hx hb dX5_runActs_198 (by decide) (fun c_140 => ?_) (fun c_140 => ?_)
                  · have c_140' : v_139.toInt = 0 := i_eq c_140 rfl (by decide)
                    refine lv_goto (tgt := 282) hx hb dX5_runActs_204 (by decide) ?_
                    obtain ⟨z_141, ez_141⟩ : ∃ z : Int32, z = i + 1 := ⟨_, rfl⟩
                    have e_z_141 : z_141.toInt = i.toInt + 1 := i_add ez_141 rfl (by decide) (by omega) (by omega)
                    refine lv_iinc (v := z_141) (lv' := [(9, .int z_141), (7, .int r_125), (13, .int z_123), (12, .int u_34), (11, .int u_32), (10, .int r_10), (8, .int po), (6, .int pk), (5, .ref q2), (4, .ref q1), (0, .ref h), (1, .int n), (2, .int x1), (3, .int x2)]) hx hb dX5_runActs_282 hl (k := 5) rfl (by rw [ez_141]; rfl) (by decide) rfl (fun ls hl => ?_)
                    refine lv_goto (tgt := 44) hx hb dX5_runActs_285 (by decide) ?_
                    exact ih (kf - 1) (by omega) g_124 z_141 r_125 pk po q1 q2 H locs ls hT hI hE hM (by omega) (by omega) (by omega) (by omega) (by omega) (by omega) r_129 r_130 (by have e0 := z0; omega) (lv_sub hl [0, 6, 1, 7, 8, 9, 10, 11, 12, 13] rfl)
                  · have c_140' : v_139.toInt ≠ 0 := i_ne c_140 rfl (by decide)
                    refine lv_bipush (v := (-2)) hx hb dX5_runActs_201 (by decide) ?_
                    exact t_iret hB hr hT (Nat.le_of_ble_eq_true rfl) (Nat.le_of_ble_eq_true rfl) dX5_runActs_203 ⟨(-2), rfl, hI, hE, hM⟩
              · refine W.eq (g2 := F0 m 156 ls [.int 0]) rfl ?_
                refine lv_if_eq (tgt := 207) hx hb dX5_runActs_156 (by decide) (fun c_ => ?_) (fun c_ => absurd (by decide) c_)
                refine lv_iload hx hb dX5_runActs_207 (lv_at hl 1 rfl) ?_
                refine lv_bipush (v := 6) hx hb dX5_runActs_209 (by decide) ?_
                refine lv_icmp_ne (tgt := 242) hx hb dX5_runActs_211 (by decide) (fun c_142 => ?_) (fun c_142 => ?_)
                · have c_142' : u_32.toInt ≠ 6 := i_ne c_142 rfl (by decide)
                  refine lv_iload hx hb dX5_runActs_242 (lv_at hl 1 rfl) ?_
                  refine lv_bipush (v := 7) hx hb dX5_runActs_244 (by decide) ?_
                  refine lv_icmp_ne (tgt := 263) hx hb dX5_runActs_246 (by decide) (fun c_143 => ?_) (fun c_143 => ?_)
                  · have c_143' : u_32.toInt ≠ 7 := i_ne c_143 rfl (by decide)
                    refine lv_iload hx hb dX5_runActs_263 (lv_at hl 1 rfl) ?_
                    refine lv_iconst (v := 5) hx hb dX5_runActs_265 (by decide) ?_
                    refine lv_icmp_eq (tgt := 282) hx hb dX5_runActs_266 (by decide) (fun c_144 => ?_) (fun c_144 => ?_)
                    · have c_144' : u_32.toInt = 5 := i_eq c_144 rfl (by decide)
                      obtain ⟨z_145, ez_145⟩ : ∃ z : Int32, z = i + 1 := ⟨_, rfl⟩
                      have e_z_145 : z_145.toInt = i.toInt + 1 := i_add ez_145 rfl (by decide) (by omega) (by omega)
                      refine lv_iinc (v := z_145) (lv' := [(9, .int z_145), (12, .int u_34), (11, .int u_32), (10, .int r_10), (8, .int po), (7, .int j), (6, .int pk), (5, .ref q2), (4, .ref q1), (0, .ref h), (1, .int n), (2, .int x1), (3, .int x2)]) hx hb dX5_runActs_282 hl (k := 3) rfl (by rw [ez_145]; rfl) (by decide) rfl (fun ls hl => ?_)
                      refine lv_goto (tgt := 44) hx hb dX5_runActs_285 (by decide) ?_
                      exact ih (kf - 1) (by omega) g_82 z_145 j pk po q1 q2 H locs ls hT hI hE hM (by omega) (by omega) (by omega) (by omega) (by omega) (by omega) r_88 r_89 (by have e0 := z0; omega) (lv_sub hl [0, 4, 5, 6, 7, 8, 9, 10, 11, 12] rfl)
                    · have c_144' : u_32.toInt ≠ 5 := i_ne c_144 rfl (by decide)
                      exact absurd c_144' (by omega)
                  · have c_143' : u_32.toInt = 7 := i_eq c_143 rfl (by decide)
                    exact absurd c_143' (by omega)
                · have c_142' : u_32.toInt = 6 := i_eq c_142 rfl (by decide)
                  exact absurd c_142' (by omega)
        · have c_7' : v_6.toInt ≤ z_5.toInt := i_nlt c_7 rfl rfl
          refine lv_aload_n hx hb dX5_runActs_78 rfl (lv_at hl 6 rfl) ?_
          refine lv_iconst (v := 1) hx hb dX5_runActs_79 (by decide) ?_
          refine t_put0 (ci := 5) (v := .int 1) hB hT (ro_ci r1_h rfl) (ro_n0 r1_h (by decide)) rfl 7 (by decide) k_216 (Or.inl rfl) rfl rfl dX5_runActs_80 (fun H locs hT => ?_)
          have hI : Inv fr (sF g1 h 7 (.int 1)) := hI.sF (fk r1_h (⟨_, rfl, by decide, by decide⟩))
          have hM : Sm md_s_runActs1 g (sF g1 h 7 (.int 1)) := hM.tr hE (Sm_sF (by rw [r1_h]; rfl))
          have hE : Ex g (sF g1 h 7 (.int 1)) := hE
          refine lv_bipush (v := (-2)) hx hb dX5_runActs_83 (by decide) ?_
          exact t_iret hB hr hT (Nat.le_of_ble_eq_true rfl) (Nat.le_of_ble_eq_true rfl) dX5_runActs_85 ⟨(-2), rfl, hI, hE, hM⟩
      · have c_3' : po.toInt ≠ 0 := i_ne c_3 rfl (by decide)
        refine lv_iconst (v := 0) hx hb dX5_runActs_59 (by decide) ?_
        refine lv_istore (lv' := [(8, .int 0), (9, .int i), (7, .int j), (6, .int pk), (5, .ref q2), (4, .ref q1), (0, .ref h), (1, .int n), (2, .int x1), (3, .int x2)]) hx hb dX5_runActs_60 hl (by decide) rfl (fun ls hl => ?_)
        refine lv_goto (tgt := 282) hx hb dX5_runActs_62 (by decide) ?_
        obtain ⟨z_146, ez_146⟩ : ∃ z : Int32, z = i + 1 := ⟨_, rfl⟩
        have e_z_146 : z_146.toInt = i.toInt + 1 := i_add ez_146 rfl (by decide) (by omega) (by omega)
        refine lv_iinc (v := z_146) (lv' := [(9, .int z_146), (8, .int 0), (7, .int j), (6, .int pk), (5, .ref q2), (4, .ref q1), (0, .ref h), (1, .int n), (2, .int x1), (3, .int x2)]) hx hb dX5_runActs_282 hl (k := 1) rfl (by rw [ez_146]; rfl) (by decide) rfl (fun ls hl => ?_)
        refine lv_goto (tgt := 44) hx hb dX5_runActs_285 (by decide) ?_
        exact ih (kf - 1) (by omega) g1 z_146 j pk (0 : Int32) q1 q2 H locs ls hT hI hE hM (by omega) (by omega) (by omega) (by omega) (by decide) (by decide) r1_q1 r1_q2 (by have e0 := z0; omega) (lv_sub hl [0, 1, 2, 3, 4, 5, 6, 7, 8, 9] rfl)
theorem mdle_s_runActs1_s_isMended {r k : Nat} (h : md_s_runActs1 r k = false) : md_s_isMended r k = false := by
  first | rfl | (simp only [md_s_runActs1, md_s_isMended, Bool.or_eq_false_iff, Bool.and_eq_false_iff, beq_eq_false_iff_ne] at h ⊢; omega)
set_option maxHeartbeats 4000000 in
set_option maxRecDepth 100000 in
theorem s_runActs1 (l : Launch) (D : va_G) (cI cZ cS cR : ClassId) (N0 : NT) (fr : Int32) (g : GS) (hI : Inv fr g) (h : Nat) (n : Int32) (x1 : Int32) (x2 : Int32) (r_h : g.1 h = 6) (l_n : 4 ≤ n.toInt) (u_n : n.toInt ≤ 5) : Ty l D cI cZ cS cR N0 yX5_runActs cX5_runActs 14 (some .int) 3 0 0 [.ref h, .int n, .int x1, .int x2] g (fun v g' => ∃ (r : Int32), v = some (.int r) ∧ Inv fr g' ∧ Ex g g' ∧ Sm md_s_runActs1 g g') := by
  refine t_enter (by decide) (Nat.le_of_ble_eq_true rfl) ?_
  intro p e s m args below meth c ls H locs hB hr hin hl hT
  have hx := hB.1
  have hb := hB.2.1
  have hl : lv_has ls 14 [(0, .ref h), (1, .int n), (2, .int x1), (3, .int x2)] := hl
  have hE : Ex g g := Ex.rf
  have hM : Sm md_s_runActs1 g g := Sm.rf
  refine lv_aload_n hx hb dX5_runActs_0 rfl (lv_at hl 0 rfl) ?_
  obtain ⟨v_1, e_v_1, r_v_1, n_v_1⟩ := hI.f r_h 0
  refine t_get (ci := 5) (v := .ref v_1) hB hT (ro_ci r_h rfl) rfl 0 (by decide) k_199 e_v_1 dX5_runActs_1 ?_
  refine lv_iload_n hx hb dX5_runActs_4 rfl (lv_at hl 1 rfl) ?_
  have i_q_2 : vp_in n 6 := (i_in (n := 6) rfl (by omega) (by omega))
  obtain ⟨q_2, e_q_2, r_q_2⟩ := hI.q r_v_1 n_v_1 (i_cl i_q_2)
  refine t_aald hB hT (Or.inl r_v_1) n_v_1 i_q_2 e_q_2 dX5_runActs_5 ?_
  refine lv_astore (lv' := [(4, .ref q_2), (0, .ref h), (1, .int n), (2, .int x1), (3, .int x2)]) hx hb dX5_runActs_6 hl (by decide) rfl (fun ls hl => ?_)
  refine lv_aload hx hb dX5_runActs_8 (lv_at hl 0 rfl) ?_
  obtain ⟨v_3, e_v_3, r_v_3⟩ := hI.f r_q_2 0
  refine t_get (ci := 3) (v := .ref v_3) hB hT (ro_ci r_q_2 rfl) rfl 0 (by decide) k_145 e_v_3 dX5_runActs_10 ?_
  refine lv_astore (lv' := [(5, .ref v_3), (4, .ref q_2), (0, .ref h), (1, .int n), (2, .int x1), (3, .int x2)]) hx hb dX5_runActs_13 hl (by decide) rfl (fun ls hl => ?_)
  refine lv_iload_n hx hb dX5_runActs_15 rfl (lv_at hl 5 rfl) ?_
  refine lv_if_eq (tgt := 32) hx hb dX5_runActs_16 (by decide) (fun c_4 => ?_) (fun c_4 => ?_)
  · have c_4' : x2.toInt = 0 := i_eq c_4 rfl (by decide)
    refine lv_iconst (v := 0) hx hb dX5_runActs_32 (by decide) ?_
    refine lv_istore (lv' := [(6, .int 0), (5, .ref v_3), (4, .ref q_2), (0, .ref h), (1, .int n), (2, .int x1), (3, .int x2)]) hx hb dX5_runActs_33 hl (by decide) rfl (fun ls hl => ?_)
    refine lv_iconst (v := 0) hx hb dX5_runActs_35 (by decide) ?_
    refine lv_istore (lv' := [(7, .int 0), (6, .int 0), (5, .ref v_3), (4, .ref q_2), (0, .ref h), (1, .int n), (2, .int x1), (3, .int x2)]) hx hb dX5_runActs_36 hl (by decide) rfl (fun ls hl => ?_)
    refine lv_iconst (v := 0) hx hb dX5_runActs_38 (by decide) ?_
    refine lv_istore (lv' := [(8, .int 0), (7, .int 0), (6, .int 0), (5, .ref v_3), (4, .ref q_2), (0, .ref h), (1, .int n), (2, .int x1), (3, .int x2)]) hx hb dX5_runActs_39 hl (by decide) rfl (fun ls hl => ?_)
    refine lv_iconst (v := 0) hx hb dX5_runActs_41 (by decide) ?_
    refine lv_istore (lv' := [(9, .int 0), (8, .int 0), (7, .int 0), (6, .int 0), (5, .ref v_3), (4, .ref q_2), (0, .ref h), (1, .int n), (2, .int x1), (3, .int x2)]) hx hb dX5_runActs_42 hl (by decide) rfl (fun ls hl => ?_)
    exact lt_s_runActs1_a l D cI cZ cS cR N0 fr g h n x1 x2 r_h l_n u_n hB hr 8 g (0 : Int32) (0 : Int32) (0 : Int32) (0 : Int32) q_2 v_3 H locs ls hT hI hE hM (by decide) (by decide) (by decide) (by decide) (by decide) (by decide) r_q_2 r_v_3 (by have e0 := z0; omega) (lv_sub hl [0, 1, 2, 3, 4, 5, 6, 7, 8, 9] rfl)
  · have c_4' : x2.toInt ≠ 0 := i_ne c_4 rfl (by decide)
    refine lv_aload hx hb dX5_runActs_19 (lv_at hl 1 rfl) ?_
    refine lv_iconst (v := 2) hx hb dX5_runActs_21 (by decide) ?_
    refine t_callV (n := 1) (ci := 3) (As := [.int 2]) (rest := []) hB hT hl.1 (s_isMended l D cI cZ cS cR N0 fr g hI q_2 2 r_q_2) (ro_ci r_q_2 rfl) rfl k_512 k_60 k_509 k_510 k_511 (by decide +kernel) ⟨(Nat.le_of_ble_eq_true rfl), (Nat.le_of_ble_eq_true rfl)⟩ rfl (Nat.le_of_ble_eq_true rfl) ⟨(Nat.le_of_ble_eq_true rfl), (Nat.le_of_ble_eq_true rfl)⟩ dX5_runActs_22 (fun v g_5 H locs hp hT => ?_)
    obtain ⟨r_6, rfl, hI, x_9, m_8, f_7⟩ := hp
    have r_10 : g_5.1 h = 6 := (Ex.r x_9 r_h (by decide))
    have r_11 : g_5.1 v_1 = 41 := (Ex.r x_9 r_v_1 (by decide))
    have r_12 : g_5.1 q_2 = 4 := (Ex.r x_9 r_q_2 (by decide))
    have r_13 : g_5.1 v_3 = 3 := (Ex.r x_9 r_v_3 (by decide))
    have n_14 : g_5.2.2.1 v_1 = 6 := (Ex.n x_9 r_v_1 (by decide) n_v_1)
    have e_15 : g_5.2.1 h 0 = .ref v_1 := (Sm.v m_8 r_h (by decide) rfl e_v_1)
    have e_16 : g_5.2.1 q_2 0 = .ref v_3 := (Sm.v m_8 r_q_2 (by decide) rfl e_v_3)
    have hM : Sm md_s_runActs1 g g_5 := hM.tr hE (m_8.mo (fun r k h => mdle_s_runActs1_s_isMended h))
    have hE : Ex g g_5 := hE.tr x_9
    refine W.eq (g2 := F0 m 25 ls [.int r_6]) rfl ?_
    rcases f_7 with rfl | rfl
    · refine W.eq (g2 := F0 m 25 ls [.int 1]) rfl ?_
      refine lv_if_eq (tgt := 32) hx hb dX5_runActs_25 (by decide) (fun c_ => absurd c_ (by decide)) (fun c_ => ?_)
      refine lv_iconst (v := 1) hx hb dX5_runActs_28 (by decide) ?_
      refine lv_goto (tgt := 33) hx hb dX5_runActs_29 (by decide) ?_
      refine lv_istore (lv' := [(6, .int 1), (5, .ref v_3), (4, .ref q_2), (0, .ref h), (1, .int n), (2, .int x1), (3, .int x2)]) hx hb dX5_runActs_33 hl (by decide) rfl (fun ls hl => ?_)
      refine lv_iconst (v := 0) hx hb dX5_runActs_35 (by decide) ?_
      refine lv_istore (lv' := [(7, .int 0), (6, .int 1), (5, .ref v_3), (4, .ref q_2), (0, .ref h), (1, .int n), (2, .int x1), (3, .int x2)]) hx hb dX5_runActs_36 hl (by decide) rfl (fun ls hl => ?_)
      refine lv_iconst (v := 0) hx hb dX5_runActs_38 (by decide) ?_
      refine lv_istore (lv' := [(8, .int 0), (7, .int 0), (6, .int 1), (5, .ref v_3), (4, .ref q_2), (0, .ref h), (1, .int n), (2, .int x1), (3, .int x2)]) hx hb dX5_runActs_39 hl (by decide) rfl (fun ls hl => ?_)
      refine lv_iconst (v := 0) hx hb dX5_runActs_41 (by decide) ?_
      refine lv_istore (lv' := [(9, .int 0), (8, .int 0), (7, .int 0), (6, .int 1), (5, .ref v_3), (4, .ref q_2), (0, .ref h), (1, .int n), (2, .int x1), (3, .int x2)]) hx hb dX5_runActs_42 hl (by decide) rfl (fun ls hl => ?_)
      exact lt_s_runActs1_a l D cI cZ cS cR N0 fr g h n x1 x2 r_h l_n u_n hB hr 8 g_5 (0 : Int32) (0 : Int32) (1 : Int32) (0 : Int32) q_2 v_3 H locs ls hT hI hE hM (by decide) (by decide) (by decide) (by decide) (by decide) (by decide) r_12 r_13 (by have e0 := z0; omega) (lv_sub hl [0, 1, 2, 3, 4, 5, 6, 7, 8, 9] rfl)
    · refine W.eq (g2 := F0 m 25 ls [.int 0]) rfl ?_
      refine lv_if_eq (tgt := 32) hx hb dX5_runActs_25 (by decide) (fun c_ => ?_) (fun c_ => absurd (by decide) c_)
      refine lv_iconst (v := 0) hx hb dX5_runActs_32 (by decide) ?_
      refine lv_istore (lv' := [(6, .int 0), (5, .ref v_3), (4, .ref q_2), (0, .ref h), (1, .int n), (2, .int x1), (3, .int x2)]) hx hb dX5_runActs_33 hl (by decide) rfl (fun ls hl => ?_)
      refine lv_iconst (v := 0) hx hb dX5_runActs_35 (by decide) ?_
      refine lv_istore (lv' := [(7, .int 0), (6, .int 0), (5, .ref v_3), (4, .ref q_2), (0, .ref h), (1, .int n), (2, .int x1), (3, .int x2)]) hx hb dX5_runActs_36 hl (by decide) rfl (fun ls hl => ?_)
      refine lv_iconst (v := 0) hx hb dX5_runActs_38 (by decide) ?_
      refine lv_istore (lv' := [(8, .int 0), (7, .int 0), (6, .int 0), (5, .ref v_3), (4, .ref q_2), (0, .ref h), (1, .int n), (2, .int x1), (3, .int x2)]) hx hb dX5_runActs_39 hl (by decide) rfl (fun ls hl => ?_)
      refine lv_iconst (v := 0) hx hb dX5_runActs_41 (by decide) ?_
      refine lv_istore (lv' := [(9, .int 0), (8, .int 0), (7, .int 0), (6, .int 0), (5, .ref v_3), (4, .ref q_2), (0, .ref h), (1, .int n), (2, .int x1), (3, .int x2)]) hx hb dX5_runActs_42 hl (by decide) rfl (fun ls hl => ?_)
      exact lt_s_runActs1_a l D cI cZ cS cR N0 fr g h n x1 x2 r_h l_n u_n hB hr 8 g_5 (0 : Int32) (0 : Int32) (0 : Int32) (0 : Int32) q_2 v_3 H locs ls hT hI hE hM (by decide) (by decide) (by decide) (by decide) (by decide) (by decide) r_12 r_13 (by have e0 := z0; omega) (lv_sub hl [0, 1, 2, 3, 4, 5, 6, 7, 8, 9] rfl)
def md_s_serve1 : Nat → Nat → Bool := fun r k => (r == 4 && k == 0) || (r == 4 && k == 2) || (r == 4 && k == 3) || (r == 4 && k == 4) || (r == 4 && k == 5) || (r == 4 && k == 10) || (r == 4 && k == 11) || (r == 4 && k == 14) || (r == 6 && k == 4) || (r == 6 && k == 5) || (r == 6 && k == 7)
theorem mdle_s_serve1_s_answerNewest {r k : Nat} (h : md_s_serve1 r k = false) : md_s_answerNewest r k = false := by
  first | rfl | (simp only [md_s_serve1, md_s_answerNewest, Bool.or_eq_false_iff, Bool.and_eq_false_iff, beq_eq_false_iff_ne] at h ⊢; omega)
theorem mdle_s_serve1_s_beginKnown {r k : Nat} (h : md_s_serve1 r k = false) : md_s_beginKnown r k = false := by
  first | rfl | (simp only [md_s_serve1, md_s_beginKnown, Bool.or_eq_false_iff, Bool.and_eq_false_iff, beq_eq_false_iff_ne] at h ⊢; omega)
theorem mdle_s_serve1_s_isMended {r k : Nat} (h : md_s_serve1 r k = false) : md_s_isMended r k = false := by
  first | rfl | (simp only [md_s_serve1, md_s_isMended, Bool.or_eq_false_iff, Bool.and_eq_false_iff, beq_eq_false_iff_ne] at h ⊢; omega)
theorem mdle_s_serve1_s_keep {r k : Nat} (h : md_s_serve1 r k = false) : md_s_keep r k = false := by
  first | rfl | (simp only [md_s_serve1, md_s_keep, Bool.or_eq_false_iff, Bool.and_eq_false_iff, beq_eq_false_iff_ne] at h ⊢; omega)
theorem mdle_s_serve1_s_keptAnswer {r k : Nat} (h : md_s_serve1 r k = false) : md_s_keptAnswer r k = false := by
  first | rfl | (simp only [md_s_serve1, md_s_keptAnswer, Bool.or_eq_false_iff, Bool.and_eq_false_iff, beq_eq_false_iff_ne] at h ⊢; omega)
theorem mdle_s_serve1_s_placeOfKey {r k : Nat} (h : md_s_serve1 r k = false) : md_s_placeOfKey r k = false := by
  first | rfl | (simp only [md_s_serve1, md_s_placeOfKey, Bool.or_eq_false_iff, Bool.and_eq_false_iff, beq_eq_false_iff_ne] at h ⊢; omega)
theorem mdle_s_serve1_s_runActs1 {r k : Nat} (h : md_s_serve1 r k = false) : md_s_runActs1 r k = false := by
  first | rfl | (simp only [md_s_serve1, md_s_runActs1, Bool.or_eq_false_iff, Bool.and_eq_false_iff, beq_eq_false_iff_ne] at h ⊢; omega)
set_option maxHeartbeats 4000000 in
set_option maxRecDepth 100000 in
theorem s_serve1 (l : Launch) (D : va_G) (cI cZ cS cR : ClassId) (N0 : NT) (fr : Int32) (g : GS) (hI : Inv fr g) (h : Nat) (n : Int32) (x1 : Int32) (x2 : Int32) (r_h : g.1 h = 6) (l_n : 4 ≤ n.toInt) (u_n : n.toInt ≤ 5) : Ty l D cI cZ cS cR N0 yX5_serve cX5_serve 9 (some .int) 4 0 0 [.ref h, .int n, .int x1, .int x2] g (fun v g' => ∃ (r : Int32), v = some (.int r) ∧ Inv fr g' ∧ Ex g g' ∧ Sm md_s_serve1 g g') := by
  refine t_enter (by decide) (Nat.le_of_ble_eq_true rfl) ?_
  intro p e s m args below meth c ls H locs hB hr hin hl hT
  have hx := hB.1
  have hb := hB.2.1
  have hl : lv_has ls 9 [(0, .ref h), (1, .int n), (2, .int x1), (3, .int x2)] := hl
  have hE : Ex g g := Ex.rf
  have hM : Sm md_s_serve1 g g := Sm.rf
  refine lv_aload_n hx hb dX5_serve_0 rfl (lv_at hl 0 rfl) ?_
  obtain ⟨v_1, e_v_1, r_v_1, n_v_1⟩ := hI.f r_h 0
  refine t_get (ci := 5) (v := .ref v_1) hB hT (ro_ci r_h rfl) rfl 0 (by decide) k_199 e_v_1 dX5_serve_1 ?_
  refine lv_iload_n hx hb dX5_serve_4 rfl (lv_at hl 1 rfl) ?_
  have i_q_2 : vp_in n 6 := (i_in (n := 6) rfl (by omega) (by omega))
  obtain ⟨q_2, e_q_2, r_q_2⟩ := hI.q r_v_1 n_v_1 (i_cl i_q_2)
  refine t_aald hB hT (Or.inl r_v_1) n_v_1 i_q_2 e_q_2 dX5_serve_5 ?_
  refine lv_astore (lv' := [(4, .ref q_2), (0, .ref h), (1, .int n), (2, .int x1), (3, .int x2)]) hx hb dX5_serve_6 hl (by decide) rfl (fun ls hl => ?_)
  refine lv_iload_n hx hb dX5_serve_8 rfl (lv_at hl 4 rfl) ?_
  refine lv_if_eq (tgt := 25) hx hb dX5_serve_9 (by decide) (fun c_3 => ?_) (fun c_3 => ?_)
  · have c_3' : x2.toInt = 0 := i_eq c_3 rfl (by decide)
    refine lv_iconst (v := 0) hx hb dX5_serve_25 (by decide) ?_
    refine lv_istore (lv' := [(5, .int 0), (4, .ref q_2), (0, .ref h), (1, .int n), (2, .int x1), (3, .int x2)]) hx hb dX5_serve_26 hl (by decide) rfl (fun ls hl => ?_)
    refine lv_iload hx hb dX5_serve_28 (lv_at hl 0 rfl) ?_
    refine lv_if_eq (tgt := 46) hx hb dX5_serve_30 (by decide) (fun c_ => ?_) (fun c_ => absurd (by decide) c_)
    refine lv_iconst (v := 0) hx hb dX5_serve_46 (by decide) ?_
    refine lv_istore (lv' := [(6, .int 0), (5, .int 0), (4, .ref q_2), (0, .ref h), (1, .int n), (2, .int x1), (3, .int x2)]) hx hb dX5_serve_47 hl (by decide) rfl (fun ls hl => ?_)
    refine lv_iload hx hb dX5_serve_49 (lv_at hl 1 rfl) ?_
    refine lv_if_eq (tgt := 63) hx hb dX5_serve_51 (by decide) (fun c_ => ?_) (fun c_ => absurd (by decide) c_)
    refine lv_iconst (v := (-1)) hx hb dX5_serve_63 (by decide) ?_
    refine lv_istore (lv' := [(7, .int (-1)), (6, .int 0), (5, .int 0), (4, .ref q_2), (0, .ref h), (1, .int n), (2, .int x1), (3, .int x2)]) hx hb dX5_serve_64 hl (by decide) rfl (fun ls hl => ?_)
    refine lv_iload hx hb dX5_serve_66 (lv_at hl 0 rfl) ?_
    refine lv_iconst (v := (-1)) hx hb dX5_serve_68 (by decide) ?_
    refine lv_icmp_eq (tgt := 81) hx hb dX5_serve_69 (by decide) (fun c_ => ?_) (fun c_ => absurd (by decide) c_)
    refine lv_iload hx hb dX5_serve_81 (lv_at hl 1 rfl) ?_
    refine lv_if_eq (tgt := 98) hx hb dX5_serve_83 (by decide) (fun c_ => ?_) (fun c_ => absurd (by decide) c_)
    refine lv_aload hx hb dX5_serve_98 (lv_at hl 3 rfl) ?_
    refine lv_iload_n hx hb dX5_serve_100 rfl (lv_at hl 6 rfl) ?_
    refine lv_iload_n hx hb dX5_serve_101 rfl (lv_at hl 7 rfl) ?_
    refine t_callV (n := 2) (ci := 3) (As := [.int x1, .int x2]) (rest := []) hB hT hl.1 (s_beginKnown l D cI cZ cS cR N0 fr g hI q_2 x1 x2 r_q_2) (ro_ci r_q_2 rfl) rfl k_529 k_60 k_526 k_527 k_528 (by decide +kernel) ⟨(Nat.le_of_ble_eq_true rfl), (Nat.le_of_ble_eq_true rfl)⟩ rfl (Nat.le_of_ble_eq_true rfl) ⟨(Nat.le_of_ble_eq_true rfl), (Nat.le_of_ble_eq_true rfl)⟩ dX5_serve_102 (fun v g_4 H locs hp hT => ?_)
    obtain ⟨rfl, hI, x_6, m_5⟩ := hp
    have r_7 : g_4.1 h = 6 := (Ex.r x_6 r_h (by decide))
    have r_8 : g_4.1 v_1 = 41 := (Ex.r x_6 r_v_1 (by decide))
    have r_9 : g_4.1 q_2 = 4 := (Ex.r x_6 r_q_2 (by decide))
    have n_10 : g_4.2.2.1 v_1 = 6 := (Ex.n x_6 r_v_1 (by decide) n_v_1)
    have e_11 : g_4.2.1 h 0 = .ref v_1 := (Sm.v m_5 r_h (by decide) rfl e_v_1)
    have hM : Sm md_s_serve1 g g_4 := hM.tr hE (m_5.mo (fun r k h => mdle_s_serve1_s_beginKnown h))
    have hE : Ex g g_4 := hE.tr x_6
    refine W.eq (g2 := F0 m 105 ls []) rfl ?_
    refine lv_aload_n hx hb dX5_serve_105 rfl (lv_at hl 4 rfl) ?_
    refine lv_iload_n hx hb dX5_serve_106 rfl (lv_at hl 5 rfl) ?_
    refine lv_iload_n hx hb dX5_serve_107 rfl (lv_at hl 6 rfl) ?_
    refine lv_iload_n hx hb dX5_serve_108 rfl (lv_at hl 7 rfl) ?_
    refine t_callV (n := 3) (ci := 5) (As := [.int n, .int x1, .int x2]) (rest := []) hB hT hl.1 (s_runActs1 l D cI cZ cS cR N0 fr g_4 hI h n x1 x2 r_7 (by omega) (by omega)) (ro_ci r_7 rfl) rfl k_534 k_59 k_531 k_533 k_13 (by decide +kernel) ⟨(Nat.le_of_ble_eq_true rfl), (Nat.le_of_ble_eq_true rfl)⟩ rfl (Nat.le_of_ble_eq_true rfl) ⟨(Nat.le_of_ble_eq_true rfl), (Nat.le_of_ble_eq_true rfl)⟩ dX5_serve_109 (fun v g_12 H locs hp hT => ?_)
    obtain ⟨r_13, rfl, hI, x_15, m_14⟩ := hp
    have r_16 : g_12.1 h = 6 := (Ex.r x_15 r_7 (by decide))
    have r_17 : g_12.1 v_1 = 41 := (Ex.r x_15 r_8 (by decide))
    have r_18 : g_12.1 q_2 = 4 := (Ex.r x_15 r_9 (by decide))
    have n_19 : g_12.2.2.1 v_1 = 6 := (Ex.n x_15 r_8 (by decide) n_10)
    have e_20 : g_12.2.1 h 0 = .ref v_1 := (Sm.v m_14 r_7 (by decide) rfl e_11)
    have hM : Sm md_s_serve1 g g_12 := hM.tr hE (m_14.mo (fun r k h => mdle_s_serve1_s_runActs1 h))
    have hE : Ex g g_12 := hE.tr x_15
    refine W.eq (g2 := F0 m 112 ls [.int r_13]) rfl ?_
    refine lv_istore (lv' := [(8, .int r_13), (7, .int (-1)), (6, .int 0), (5, .int 0), (4, .ref q_2), (0, .ref h), (1, .int n), (2, .int x1), (3, .int x2)]) hx hb dX5_serve_112 hl (by decide) rfl (fun ls hl => ?_)
    refine lv_aload_n hx hb dX5_serve_114 rfl (lv_at hl 5 rfl) ?_
    obtain ⟨v_21, e_v_21, l_v_21, u_v_21⟩ := hI.f r_16 7
    refine t_get (ci := 5) (v := .int v_21) hB hT (ro_ci r_16 rfl) rfl 7 (by decide) k_216 e_v_21 dX5_serve_115 ?_
    refine lv_if_eq (tgt := 124) hx hb dX5_serve_118 (by decide) (fun c_22 => ?_) (fun c_22 => ?_)
    · have c_22' : v_21.toInt = 0 := i_eq c_22 rfl (by decide)
      refine lv_iload hx hb dX5_serve_124 (lv_at hl 2 rfl) ?_
      refine lv_if_eq (tgt := 140) hx hb dX5_serve_126 (by decide) (fun c_ => ?_) (fun c_ => absurd (by decide) c_)
      refine lv_iload hx hb dX5_serve_140 (lv_at hl 3 rfl) ?_
      refine lv_if_eq (tgt := 158) hx hb dX5_serve_142 (by decide) (fun c_ => ?_) (fun c_ => absurd (by decide) c_)
      refine lv_iload hx hb dX5_serve_158 (lv_at hl 0 rfl) ?_
      exact t_iret hB hr hT (Nat.le_of_ble_eq_true rfl) (Nat.le_of_ble_eq_true rfl) dX5_serve_160 ⟨r_13, rfl, hI, hE, hM⟩
    · have c_22' : v_21.toInt ≠ 0 := i_ne c_22 rfl (by decide)
      refine lv_bipush (v := (-2)) hx hb dX5_serve_121 (by decide) ?_
      exact t_iret hB hr hT (Nat.le_of_ble_eq_true rfl) (Nat.le_of_ble_eq_true rfl) dX5_serve_123 ⟨(-2), rfl, hI, hE, hM⟩
  · have c_3' : x2.toInt ≠ 0 := i_ne c_3 rfl (by decide)
    refine lv_aload hx hb dX5_serve_12 (lv_at hl 0 rfl) ?_
    refine lv_iconst (v := 0) hx hb dX5_serve_14 (by decide) ?_
    refine t_callV (n := 1) (ci := 3) (As := [.int 0]) (rest := []) hB hT hl.1 (s_isMended l D cI cZ cS cR N0 fr g hI q_2 0 r_q_2) (ro_ci r_q_2 rfl) rfl k_512 k_60 k_509 k_510 k_511 (by decide +kernel) ⟨(Nat.le_of_ble_eq_true rfl), (Nat.le_of_ble_eq_true rfl)⟩ rfl (Nat.le_of_ble_eq_true rfl) ⟨(Nat.le_of_ble_eq_true rfl), (Nat.le_of_ble_eq_true rfl)⟩ dX5_serve_15 (fun v g_23 H locs hp hT => ?_)
    obtain ⟨r_24, rfl, hI, x_27, m_26, f_25⟩ := hp
    have r_28 : g_23.1 h = 6 := (Ex.r x_27 r_h (by decide))
    have r_29 : g_23.1 v_1 = 41 := (Ex.r x_27 r_v_1 (by decide))
    have r_30 : g_23.1 q_2 = 4 := (Ex.r x_27 r_q_2 (by decide))
    have n_31 : g_23.2.2.1 v_1 = 6 := (Ex.n x_27 r_v_1 (by decide) n_v_1)
    have e_32 : g_23.2.1 h 0 = .ref v_1 := (Sm.v m_26 r_h (by decide) rfl e_v_1)
    have hM : Sm md_s_serve1 g g_23 := hM.tr hE (m_26.mo (fun r k h => mdle_s_serve1_s_isMended h))
    have hE : Ex g g_23 := hE.tr x_27
    refine W.eq (g2 := F0 m 18 ls [.int r_24]) rfl ?_
    rcases f_25 with rfl | rfl
    · refine W.eq (g2 := F0 m 18 ls [.int 1]) rfl ?_
      refine lv_if_eq (tgt := 25) hx hb dX5_serve_18 (by decide) (fun c_ => absurd c_ (by decide)) (fun c_ => ?_)
      refine lv_iconst (v := 1) hx hb dX5_serve_21 (by decide) ?_
      refine lv_goto (tgt := 26) hx hb dX5_serve_22 (by decide) ?_
      refine lv_istore (lv' := [(5, .int 1), (4, .ref q_2), (0, .ref h), (1, .int n), (2, .int x1), (3, .int x2)]) hx hb dX5_serve_26 hl (by decide) rfl (fun ls hl => ?_)
      refine lv_iload hx hb dX5_serve_28 (lv_at hl 0 rfl) ?_
      refine lv_if_eq (tgt := 46) hx hb dX5_serve_30 (by decide) (fun c_ => absurd c_ (by decide)) (fun c_ => ?_)
      refine lv_aload hx hb dX5_serve_33 (lv_at hl 1 rfl) ?_
      refine lv_iconst (v := 1) hx hb dX5_serve_35 (by decide) ?_
      refine t_callV (n := 1) (ci := 3) (As := [.int 1]) (rest := []) hB hT hl.1 (s_isMended l D cI cZ cS cR N0 fr g_23 hI q_2 1 r_30) (ro_ci r_30 rfl) rfl k_512 k_60 k_509 k_510 k_511 (by decide +kernel) ⟨(Nat.le_of_ble_eq_true rfl), (Nat.le_of_ble_eq_true rfl)⟩ rfl (Nat.le_of_ble_eq_true rfl) ⟨(Nat.le_of_ble_eq_true rfl), (Nat.le_of_ble_eq_true rfl)⟩ dX5_serve_36 (fun v g_33 H locs hp hT => ?_)
      obtain ⟨r_34, rfl, hI, x_37, m_36, f_35⟩ := hp
      have r_38 : g_33.1 h = 6 := (Ex.r x_37 r_28 (by decide))
      have r_39 : g_33.1 v_1 = 41 := (Ex.r x_37 r_29 (by decide))
      have r_40 : g_33.1 q_2 = 4 := (Ex.r x_37 r_30 (by decide))
      have n_41 : g_33.2.2.1 v_1 = 6 := (Ex.n x_37 r_29 (by decide) n_31)
      have e_42 : g_33.2.1 h 0 = .ref v_1 := (Sm.v m_36 r_28 (by decide) rfl e_32)
      have hM : Sm md_s_serve1 g g_33 := hM.tr hE (m_36.mo (fun r k h => mdle_s_serve1_s_isMended h))
      have hE : Ex g g_33 := hE.tr x_37
      refine W.eq (g2 := F0 m 39 ls [.int r_34]) rfl ?_
      rcases f_35 with rfl | rfl
      · refine W.eq (g2 := F0 m 39 ls [.int 1]) rfl ?_
        refine lv_if_eq (tgt := 46) hx hb dX5_serve_39 (by decide) (fun c_ => absurd c_ (by decide)) (fun c_ => ?_)
        refine lv_iconst (v := 1) hx hb dX5_serve_42 (by decide) ?_
        refine lv_goto (tgt := 47) hx hb dX5_serve_43 (by decide) ?_
        refine lv_istore (lv' := [(6, .int 1), (5, .int 1), (4, .ref q_2), (0, .ref h), (1, .int n), (2, .int x1), (3, .int x2)]) hx hb dX5_serve_47 hl (by decide) rfl (fun ls hl => ?_)
        refine lv_iload hx hb dX5_serve_49 (lv_at hl 1 rfl) ?_
        refine lv_if_eq (tgt := 63) hx hb dX5_serve_51 (by decide) (fun c_ => absurd c_ (by decide)) (fun c_ => ?_)
        refine lv_aload hx hb dX5_serve_54 (lv_at hl 2 rfl) ?_
        refine lv_iload_n hx hb dX5_serve_56 rfl (lv_at hl 6 rfl) ?_
        refine t_callV (n := 1) (ci := 3) (As := [.int x2]) (rest := []) hB hT hl.1 (s_placeOfKey l D cI cZ cS cR N0 fr g_33 hI q_2 x2 r_40) (ro_ci r_40 rfl) rfl k_516 k_60 k_513 k_514 k_515 (by decide +kernel) ⟨(Nat.le_of_ble_eq_true rfl), (Nat.le_of_ble_eq_true rfl)⟩ rfl (Nat.le_of_ble_eq_true rfl) ⟨(Nat.le_of_ble_eq_true rfl), (Nat.le_of_ble_eq_true rfl)⟩ dX5_serve_57 (fun v g_43 H locs hp hT => ?_)
        obtain ⟨r_44, rfl, hI, x_47, m_46, f_45⟩ := hp
        have r_48 : g_43.1 h = 6 := (Ex.r x_47 r_38 (by decide))
        have r_49 : g_43.1 v_1 = 41 := (Ex.r x_47 r_39 (by decide))
        have r_50 : g_43.1 q_2 = 4 := (Ex.r x_47 r_40 (by decide))
        have n_51 : g_43.2.2.1 v_1 = 6 := (Ex.n x_47 r_39 (by decide) n_41)
        have e_52 : g_43.2.1 h 0 = .ref v_1 := (Sm.v m_46 r_38 (by decide) rfl e_42)
        have hM : Sm md_s_serve1 g g_43 := hM.tr hE (m_46.mo (fun r k h => mdle_s_serve1_s_placeOfKey h))
        have hE : Ex g g_43 := hE.tr x_47
        refine W.eq (g2 := F0 m 60 ls [.int r_44]) rfl ?_
        rcases f_45 with rfl | ⟨hw_53, hw_54⟩
        · refine W.eq (g2 := F0 m 60 ls [.int (-1)]) rfl ?_
          refine lv_goto (tgt := 64) hx hb dX5_serve_60 (by decide) ?_
          refine lv_istore (lv' := [(7, .int (-1)), (6, .int 1), (5, .int 1), (4, .ref q_2), (0, .ref h), (1, .int n), (2, .int x1), (3, .int x2)]) hx hb dX5_serve_64 hl (by decide) rfl (fun ls hl => ?_)
          refine lv_iload hx hb dX5_serve_66 (lv_at hl 0 rfl) ?_
          refine lv_iconst (v := (-1)) hx hb dX5_serve_68 (by decide) ?_
          refine lv_icmp_eq (tgt := 81) hx hb dX5_serve_69 (by decide) (fun c_ => ?_) (fun c_ => absurd (by decide) c_)
          refine lv_iload hx hb dX5_serve_81 (lv_at hl 1 rfl) ?_
          refine lv_if_eq (tgt := 98) hx hb dX5_serve_83 (by decide) (fun c_ => absurd c_ (by decide)) (fun c_ => ?_)
          refine lv_aload hx hb dX5_serve_86 (lv_at hl 3 rfl) ?_
          refine lv_iload_n hx hb dX5_serve_88 rfl (lv_at hl 7 rfl) ?_
          refine lv_iload_n hx hb dX5_serve_89 rfl (lv_at hl 6 rfl) ?_
          refine lv_iconst (v := 0) hx hb dX5_serve_90 (by decide) ?_
          refine lv_aload_n hx hb dX5_serve_91 rfl (lv_at hl 4 rfl) ?_
          obtain ⟨v_55, e_v_55⟩ := hI.f r_48 2
          refine t_get (ci := 5) (v := .int v_55) hB hT (ro_ci r_48 rfl) rfl 2 (by decide) k_205 e_v_55 dX5_serve_92 ?_
          refine t_callV (n := 4) (ci := 3) (As := [.int x2, .int x1, .int 0, .int v_55]) (rest := []) hB hT hl.1 (s_keep l D cI cZ cS cR N0 fr g_43 hI q_2 x2 x1 0 v_55 r_50) (ro_ci r_50 rfl) rfl k_524 k_60 k_521 k_522 k_523 (by decide +kernel) ⟨(Nat.le_of_ble_eq_true rfl), (Nat.le_of_ble_eq_true rfl)⟩ rfl (Nat.le_of_ble_eq_true rfl) ⟨(Nat.le_of_ble_eq_true rfl), (Nat.le_of_ble_eq_true rfl)⟩ dX5_serve_95 (fun v g_56 H locs hp hT => ?_)
          obtain ⟨rfl, hI, x_58, m_57⟩ := hp
          have r_59 : g_56.1 h = 6 := (Ex.r x_58 r_48 (by decide))
          have r_60 : g_56.1 v_1 = 41 := (Ex.r x_58 r_49 (by decide))
          have r_61 : g_56.1 q_2 = 4 := (Ex.r x_58 r_50 (by decide))
          have n_62 : g_56.2.2.1 v_1 = 6 := (Ex.n x_58 r_49 (by decide) n_51)
          have e_63 : g_56.2.1 h 0 = .ref v_1 := (Sm.v m_57 r_48 (by decide) rfl e_52)
          have e_64 : g_56.2.1 h 2 = .int v_55 := (Sm.v m_57 r_48 (by decide) rfl e_v_55)
          have hM : Sm md_s_serve1 g g_56 := hM.tr hE (m_57.mo (fun r k h => mdle_s_serve1_s_keep h))
          have hE : Ex g g_56 := hE.tr x_58
          refine W.eq (g2 := F0 m 98 ls []) rfl ?_
          refine lv_aload hx hb dX5_serve_98 (lv_at hl 3 rfl) ?_
          refine lv_iload_n hx hb dX5_serve_100 rfl (lv_at hl 6 rfl) ?_
          refine lv_iload_n hx hb dX5_serve_101 rfl (lv_at hl 7 rfl) ?_
          refine t_callV (n := 2) (ci := 3) (As := [.int x1, .int x2]) (rest := []) hB hT hl.1 (s_beginKnown l D cI cZ cS cR N0 fr g_56 hI q_2 x1 x2 r_61) (ro_ci r_61 rfl) rfl k_529 k_60 k_526 k_527 k_528 (by decide +kernel) ⟨(Nat.le_of_ble_eq_true rfl), (Nat.le_of_ble_eq_true rfl)⟩ rfl (Nat.le_of_ble_eq_true rfl) ⟨(Nat.le_of_ble_eq_true rfl), (Nat.le_of_ble_eq_true rfl)⟩ dX5_serve_102 (fun v g_65 H locs hp hT => ?_)
          obtain ⟨rfl, hI, x_67, m_66⟩ := hp
          have r_68 : g_65.1 h = 6 := (Ex.r x_67 r_59 (by decide))
          have r_69 : g_65.1 v_1 = 41 := (Ex.r x_67 r_60 (by decide))
          have r_70 : g_65.1 q_2 = 4 := (Ex.r x_67 r_61 (by decide))
          have n_71 : g_65.2.2.1 v_1 = 6 := (Ex.n x_67 r_60 (by decide) n_62)
          have e_72 : g_65.2.1 h 0 = .ref v_1 := (Sm.v m_66 r_59 (by decide) rfl e_63)
          have e_73 : g_65.2.1 h 2 = .int v_55 := (Sm.v m_66 r_59 (by decide) rfl e_64)
          have hM : Sm md_s_serve1 g g_65 := hM.tr hE (m_66.mo (fun r k h => mdle_s_serve1_s_beginKnown h))
          have hE : Ex g g_65 := hE.tr x_67
          refine W.eq (g2 := F0 m 105 ls []) rfl ?_
          refine lv_aload_n hx hb dX5_serve_105 rfl (lv_at hl 4 rfl) ?_
          refine lv_iload_n hx hb dX5_serve_106 rfl (lv_at hl 5 rfl) ?_
          refine lv_iload_n hx hb dX5_serve_107 rfl (lv_at hl 6 rfl) ?_
          refine lv_iload_n hx hb dX5_serve_108 rfl (lv_at hl 7 rfl) ?_
          refine t_callV (n := 3) (ci := 5) (As := [.int n, .int x1, .int x2]) (rest := []) hB hT hl.1 (s_runActs1 l D cI cZ cS cR N0 fr g_65 hI h n x1 x2 r_68 (by omega) (by omega)) (ro_ci r_68 rfl) rfl k_534 k_59 k_531 k_533 k_13 (by decide +kernel) ⟨(Nat.le_of_ble_eq_true rfl), (Nat.le_of_ble_eq_true rfl)⟩ rfl (Nat.le_of_ble_eq_true rfl) ⟨(Nat.le_of_ble_eq_true rfl), (Nat.le_of_ble_eq_true rfl)⟩ dX5_serve_109 (fun v g_74 H locs hp hT => ?_)
          obtain ⟨r_75, rfl, hI, x_77, m_76⟩ := hp
          have r_78 : g_74.1 h = 6 := (Ex.r x_77 r_68 (by decide))
          have r_79 : g_74.1 v_1 = 41 := (Ex.r x_77 r_69 (by decide))
          have r_80 : g_74.1 q_2 = 4 := (Ex.r x_77 r_70 (by decide))
          have n_81 : g_74.2.2.1 v_1 = 6 := (Ex.n x_77 r_69 (by decide) n_71)
          have e_82 : g_74.2.1 h 0 = .ref v_1 := (Sm.v m_76 r_68 (by decide) rfl e_72)
          have e_83 : g_74.2.1 h 2 = .int v_55 := (Sm.v m_76 r_68 (by decide) rfl e_73)
          have hM : Sm md_s_serve1 g g_74 := hM.tr hE (m_76.mo (fun r k h => mdle_s_serve1_s_runActs1 h))
          have hE : Ex g g_74 := hE.tr x_77
          refine W.eq (g2 := F0 m 112 ls [.int r_75]) rfl ?_
          refine lv_istore (lv' := [(8, .int r_75), (7, .int (-1)), (6, .int 1), (5, .int 1), (4, .ref q_2), (0, .ref h), (1, .int n), (2, .int x1), (3, .int x2)]) hx hb dX5_serve_112 hl (by decide) rfl (fun ls hl => ?_)
          refine lv_aload_n hx hb dX5_serve_114 rfl (lv_at hl 5 rfl) ?_
          obtain ⟨v_84, e_v_84, l_v_84, u_v_84⟩ := hI.f r_78 7
          refine t_get (ci := 5) (v := .int v_84) hB hT (ro_ci r_78 rfl) rfl 7 (by decide) k_216 e_v_84 dX5_serve_115 ?_
          refine lv_if_eq (tgt := 124) hx hb dX5_serve_118 (by decide) (fun c_85 => ?_) (fun c_85 => ?_)
          · have c_85' : v_84.toInt = 0 := i_eq c_85 rfl (by decide)
            refine lv_iload hx hb dX5_serve_124 (lv_at hl 2 rfl) ?_
            refine lv_if_eq (tgt := 140) hx hb dX5_serve_126 (by decide) (fun c_ => absurd c_ (by decide)) (fun c_ => ?_)
            refine lv_aload hx hb dX5_serve_129 (lv_at hl 4 rfl) ?_
            refine lv_iload_n hx hb dX5_serve_131 rfl (lv_at hl 8 rfl) ?_
            refine lv_iload hx hb dX5_serve_132 (lv_at hl 0 rfl) ?_
            refine t_callV (n := 2) (ci := 3) (As := [.int x2, .int r_75]) (rest := []) hB hT hl.1 (s_answerNewest l D cI cZ cS cR N0 fr g_74 hI q_2 x2 r_75 r_80) (ro_ci r_80 rfl) rfl k_554 k_60 k_551 k_552 k_553 (by decide +kernel) ⟨(Nat.le_of_ble_eq_true rfl), (Nat.le_of_ble_eq_true rfl)⟩ rfl (Nat.le_of_ble_eq_true rfl) ⟨(Nat.le_of_ble_eq_true rfl), (Nat.le_of_ble_eq_true rfl)⟩ dX5_serve_134 (fun v g_86 H locs hp hT => ?_)
            obtain ⟨rfl, hI, x_88, m_87⟩ := hp
            have r_89 : g_86.1 h = 6 := (Ex.r x_88 r_78 (by decide))
            have r_90 : g_86.1 v_1 = 41 := (Ex.r x_88 r_79 (by decide))
            have r_91 : g_86.1 q_2 = 4 := (Ex.r x_88 r_80 (by decide))
            have n_92 : g_86.2.2.1 v_1 = 6 := (Ex.n x_88 r_79 (by decide) n_81)
            have e_93 : g_86.2.1 h 0 = .ref v_1 := (Sm.v m_87 r_78 (by decide) rfl e_82)
            have e_94 : g_86.2.1 h 2 = .int v_55 := (Sm.v m_87 r_78 (by decide) rfl e_83)
            have e_95 : g_86.2.1 h 7 = .int v_84 := (Sm.v m_87 r_78 (by decide) rfl e_v_84)
            have hM : Sm md_s_serve1 g g_86 := hM.tr hE (m_87.mo (fun r k h => mdle_s_serve1_s_answerNewest h))
            have hE : Ex g g_86 := hE.tr x_88
            refine W.eq (g2 := F0 m 137 ls []) rfl ?_
            refine lv_goto (tgt := 158) hx hb dX5_serve_137 (by decide) ?_
            refine lv_iload hx hb dX5_serve_158 (lv_at hl 0 rfl) ?_
            exact t_iret hB hr hT (Nat.le_of_ble_eq_true rfl) (Nat.le_of_ble_eq_true rfl) dX5_serve_160 ⟨r_75, rfl, hI, hE, hM⟩
          · have c_85' : v_84.toInt ≠ 0 := i_ne c_85 rfl (by decide)
            refine lv_bipush (v := (-2)) hx hb dX5_serve_121 (by decide) ?_
            exact t_iret hB hr hT (Nat.le_of_ble_eq_true rfl) (Nat.le_of_ble_eq_true rfl) dX5_serve_123 ⟨(-2), rfl, hI, hE, hM⟩
        · refine W.eq (g2 := F0 m 60 ls [.int r_44]) rfl ?_
          refine lv_goto (tgt := 64) hx hb dX5_serve_60 (by decide) ?_
          refine lv_istore (lv' := [(7, .int r_44), (6, .int 1), (5, .int 1), (4, .ref q_2), (0, .ref h), (1, .int n), (2, .int x1), (3, .int x2)]) hx hb dX5_serve_64 hl (by decide) rfl (fun ls hl => ?_)
          refine lv_iload hx hb dX5_serve_66 (lv_at hl 0 rfl) ?_
          refine lv_iconst (v := (-1)) hx hb dX5_serve_68 (by decide) ?_
          refine lv_icmp_eq (tgt := 81) hx hb dX5_serve_69 (by decide) (fun c_96 => ?_) (fun c_96 => ?_)
          · have c_96' : r_44.toInt = (-1) := i_eq c_96 rfl (by decide)
            exact absurd c_96' (by omega)
          · have c_96' : r_44.toInt ≠ (-1) := i_ne c_96 rfl (by decide)
            refine lv_aload hx hb dX5_serve_72 (lv_at hl 3 rfl) ?_
            refine lv_iload hx hb dX5_serve_74 (lv_at hl 0 rfl) ?_
            refine lv_iload_n hx hb dX5_serve_76 rfl (lv_at hl 6 rfl) ?_
            refine t_callV (n := 2) (ci := 3) (As := [.int r_44, .int x1]) (rest := []) hB hT hl.1 (s_keptAnswer l D cI cZ cS cR N0 fr g_43 hI q_2 r_44 x1 r_50 (by omega) (by omega)) (ro_ci r_50 rfl) rfl k_520 k_60 k_517 k_518 k_519 (by decide +kernel) ⟨(Nat.le_of_ble_eq_true rfl), (Nat.le_of_ble_eq_true rfl)⟩ rfl (Nat.le_of_ble_eq_true rfl) ⟨(Nat.le_of_ble_eq_true rfl), (Nat.le_of_ble_eq_true rfl)⟩ dX5_serve_77 (fun v g_97 H locs hp hT => ?_)
            obtain ⟨r_98, rfl, hI, x_100, m_99⟩ := hp
            have r_101 : g_97.1 h = 6 := (Ex.r x_100 r_48 (by decide))
            have r_102 : g_97.1 v_1 = 41 := (Ex.r x_100 r_49 (by decide))
            have r_103 : g_97.1 q_2 = 4 := (Ex.r x_100 r_50 (by decide))
            have n_104 : g_97.2.2.1 v_1 = 6 := (Ex.n x_100 r_49 (by decide) n_51)
            have e_105 : g_97.2.1 h 0 = .ref v_1 := (Sm.v m_99 r_48 (by decide) rfl e_52)
            have hM : Sm md_s_serve1 g g_97 := hM.tr hE (m_99.mo (fun r k h => mdle_s_serve1_s_keptAnswer h))
            have hE : Ex g g_97 := hE.tr x_100
            refine W.eq (g2 := F0 m 80 ls [.int r_98]) rfl ?_
            exact t_iret hB hr hT (Nat.le_of_ble_eq_true rfl) (Nat.le_of_ble_eq_true rfl) dX5_serve_80 ⟨r_98, rfl, hI, hE, hM⟩
      · refine W.eq (g2 := F0 m 39 ls [.int 0]) rfl ?_
        refine lv_if_eq (tgt := 46) hx hb dX5_serve_39 (by decide) (fun c_ => ?_) (fun c_ => absurd (by decide) c_)
        refine lv_iconst (v := 0) hx hb dX5_serve_46 (by decide) ?_
        refine lv_istore (lv' := [(6, .int 0), (5, .int 1), (4, .ref q_2), (0, .ref h), (1, .int n), (2, .int x1), (3, .int x2)]) hx hb dX5_serve_47 hl (by decide) rfl (fun ls hl => ?_)
        refine lv_iload hx hb dX5_serve_49 (lv_at hl 1 rfl) ?_
        refine lv_if_eq (tgt := 63) hx hb dX5_serve_51 (by decide) (fun c_ => absurd c_ (by decide)) (fun c_ => ?_)
        refine lv_aload hx hb dX5_serve_54 (lv_at hl 2 rfl) ?_
        refine lv_iload_n hx hb dX5_serve_56 rfl (lv_at hl 6 rfl) ?_
        refine t_callV (n := 1) (ci := 3) (As := [.int x2]) (rest := []) hB hT hl.1 (s_placeOfKey l D cI cZ cS cR N0 fr g_33 hI q_2 x2 r_40) (ro_ci r_40 rfl) rfl k_516 k_60 k_513 k_514 k_515 (by decide +kernel) ⟨(Nat.le_of_ble_eq_true rfl), (Nat.le_of_ble_eq_true rfl)⟩ rfl (Nat.le_of_ble_eq_true rfl) ⟨(Nat.le_of_ble_eq_true rfl), (Nat.le_of_ble_eq_true rfl)⟩ dX5_serve_57 (fun v g_106 H locs hp hT => ?_)
        obtain ⟨r_107, rfl, hI, x_110, m_109, f_108⟩ := hp
        have r_111 : g_106.1 h = 6 := (Ex.r x_110 r_38 (by decide))
        have r_112 : g_106.1 v_1 = 41 := (Ex.r x_110 r_39 (by decide))
        have r_113 : g_106.1 q_2 = 4 := (Ex.r x_110 r_40 (by decide))
        have n_114 : g_106.2.2.1 v_1 = 6 := (Ex.n x_110 r_39 (by decide) n_41)
        have e_115 : g_106.2.1 h 0 = .ref v_1 := (Sm.v m_109 r_38 (by decide) rfl e_42)
        have hM : Sm md_s_serve1 g g_106 := hM.tr hE (m_109.mo (fun r k h => mdle_s_serve1_s_placeOfKey h))
        have hE : Ex g g_106 := hE.tr x_110
        refine W.eq (g2 := F0 m 60 ls [.int r_107]) rfl ?_
        rcases f_108 with rfl | ⟨hw_116, hw_117⟩
        · refine W.eq (g2 := F0 m 60 ls [.int (-1)]) rfl ?_
          refine lv_goto (tgt := 64) hx hb dX5_serve_60 (by decide) ?_
          refine lv_istore (lv' := [(7, .int (-1)), (6, .int 0), (5, .int 1), (4, .ref q_2), (0, .ref h), (1, .int n), (2, .int x1), (3, .int x2)]) hx hb dX5_serve_64 hl (by decide) rfl (fun ls hl => ?_)
          refine lv_iload hx hb dX5_serve_66 (lv_at hl 0 rfl) ?_
          refine lv_iconst (v := (-1)) hx hb dX5_serve_68 (by decide) ?_
          refine lv_icmp_eq (tgt := 81) hx hb dX5_serve_69 (by decide) (fun c_ => ?_) (fun c_ => absurd (by decide) c_)
          refine lv_iload hx hb dX5_serve_81 (lv_at hl 1 rfl) ?_
          refine lv_if_eq (tgt := 98) hx hb dX5_serve_83 (by decide) (fun c_ => ?_) (fun c_ => absurd (by decide) c_)
          refine lv_aload hx hb dX5_serve_98 (lv_at hl 3 rfl) ?_
          refine lv_iload_n hx hb dX5_serve_100 rfl (lv_at hl 6 rfl) ?_
          refine lv_iload_n hx hb dX5_serve_101 rfl (lv_at hl 7 rfl) ?_
          refine t_callV (n := 2) (ci := 3) (As := [.int x1, .int x2]) (rest := []) hB hT hl.1 (s_beginKnown l D cI cZ cS cR N0 fr g_106 hI q_2 x1 x2 r_113) (ro_ci r_113 rfl) rfl k_529 k_60 k_526 k_527 k_528 (by decide +kernel) ⟨(Nat.le_of_ble_eq_true rfl), (Nat.le_of_ble_eq_true rfl)⟩ rfl (Nat.le_of_ble_eq_true rfl) ⟨(Nat.le_of_ble_eq_true rfl), (Nat.le_of_ble_eq_true rfl)⟩ dX5_serve_102 (fun v g_118 H locs hp hT => ?_)
          obtain ⟨rfl, hI, x_120, m_119⟩ := hp
          have r_121 : g_118.1 h = 6 := (Ex.r x_120 r_111 (by decide))
          have r_122 : g_118.1 v_1 = 41 := (Ex.r x_120 r_112 (by decide))
          have r_123 : g_118.1 q_2 = 4 := (Ex.r x_120 r_113 (by decide))
          have n_124 : g_118.2.2.1 v_1 = 6 := (Ex.n x_120 r_112 (by decide) n_114)
          have e_125 : g_118.2.1 h 0 = .ref v_1 := (Sm.v m_119 r_111 (by decide) rfl e_115)
          have hM : Sm md_s_serve1 g g_118 := hM.tr hE (m_119.mo (fun r k h => mdle_s_serve1_s_beginKnown h))
          have hE : Ex g g_118 := hE.tr x_120
          refine W.eq (g2 := F0 m 105 ls []) rfl ?_
          refine lv_aload_n hx hb dX5_serve_105 rfl (lv_at hl 4 rfl) ?_
          refine lv_iload_n hx hb dX5_serve_106 rfl (lv_at hl 5 rfl) ?_
          refine lv_iload_n hx hb dX5_serve_107 rfl (lv_at hl 6 rfl) ?_
          refine lv_iload_n hx hb dX5_serve_108 rfl (lv_at hl 7 rfl) ?_
          refine t_callV (n := 3) (ci := 5) (As := [.int n, .int x1, .int x2]) (rest := []) hB hT hl.1 (s_runActs1 l D cI cZ cS cR N0 fr g_118 hI h n x1 x2 r_121 (by omega) (by omega)) (ro_ci r_121 rfl) rfl k_534 k_59 k_531 k_533 k_13 (by decide +kernel) ⟨(Nat.le_of_ble_eq_true rfl), (Nat.le_of_ble_eq_true rfl)⟩ rfl (Nat.le_of_ble_eq_true rfl) ⟨(Nat.le_of_ble_eq_true rfl), (Nat.le_of_ble_eq_true rfl)⟩ dX5_serve_109 (fun v g_126 H locs hp hT => ?_)
          obtain ⟨r_127, rfl, hI, x_129, m_128⟩ := hp
          have r_130 : g_126.1 h = 6 := (Ex.r x_129 r_121 (by decide))
          have r_131 : g_126.1 v_1 = 41 := (Ex.r x_129 r_122 (by decide))
          have r_132 : g_126.1 q_2 = 4 := (Ex.r x_129 r_123 (by decide))
          have n_133 : g_126.2.2.1 v_1 = 6 := (Ex.n x_129 r_122 (by decide) n_124)
          have e_134 : g_126.2.1 h 0 = .ref v_1 := (Sm.v m_128 r_121 (by decide) rfl e_125)
          have hM : Sm md_s_serve1 g g_126 := hM.tr hE (m_128.mo (fun r k h => mdle_s_serve1_s_runActs1 h))
          have hE : Ex g g_126 := hE.tr x_129
          refine W.eq (g2 := F0 m 112 ls [.int r_127]) rfl ?_
          refine lv_istore (lv' := [(8, .int r_127), (7, .int (-1)), (6, .int 0), (5, .int 1), (4, .ref q_2), (0, .ref h), (1, .int n), (2, .int x1), (3, .int x2)]) hx hb dX5_serve_112 hl (by decide) rfl (fun ls hl => ?_)
          refine lv_aload_n hx hb dX5_serve_114 rfl (lv_at hl 5 rfl) ?_
          obtain ⟨v_135, e_v_135, l_v_135, u_v_135⟩ := hI.f r_130 7
          refine t_get (ci := 5) (v := .int v_135) hB hT (ro_ci r_130 rfl) rfl 7 (by decide) k_216 e_v_135 dX5_serve_115 ?_
          refine lv_if_eq (tgt := 124) hx hb dX5_serve_118 (by decide) (fun c_136 => ?_) (fun c_136 => ?_)
          · have c_136' : v_135.toInt = 0 := i_eq c_136 rfl (by decide)
            refine lv_iload hx hb dX5_serve_124 (lv_at hl 2 rfl) ?_
            refine lv_if_eq (tgt := 140) hx hb dX5_serve_126 (by decide) (fun c_ => ?_) (fun c_ => absurd (by decide) c_)
            refine lv_iload hx hb dX5_serve_140 (lv_at hl 3 rfl) ?_
            refine lv_if_eq (tgt := 158) hx hb dX5_serve_142 (by decide) (fun c_ => absurd c_ (by decide)) (fun c_ => ?_)
            refine lv_aload hx hb dX5_serve_145 (lv_at hl 4 rfl) ?_
            refine lv_iload_n hx hb dX5_serve_147 rfl (lv_at hl 8 rfl) ?_
            refine lv_iload_n hx hb dX5_serve_148 rfl (lv_at hl 7 rfl) ?_
            refine lv_iload hx hb dX5_serve_149 (lv_at hl 0 rfl) ?_
            refine lv_aload_n hx hb dX5_serve_151 rfl (lv_at hl 5 rfl) ?_
            obtain ⟨v_137, e_v_137⟩ := hI.f r_130 2
            refine t_get (ci := 5) (v := .int v_137) hB hT (ro_ci r_130 rfl) rfl 2 (by decide) k_205 e_v_137 dX5_serve_152 ?_
            refine t_callV (n := 4) (ci := 3) (As := [.int x2, .int x1, .int r_127, .int v_137]) (rest := []) hB hT hl.1 (s_keep l D cI cZ cS cR N0 fr g_126 hI q_2 x2 x1 r_127 v_137 r_132) (ro_ci r_132 rfl) rfl k_524 k_60 k_521 k_522 k_523 (by decide +kernel) ⟨(Nat.le_of_ble_eq_true rfl), (Nat.le_of_ble_eq_true rfl)⟩ rfl (Nat.le_of_ble_eq_true rfl) ⟨(Nat.le_of_ble_eq_true rfl), (Nat.le_of_ble_eq_true rfl)⟩ dX5_serve_155 (fun v g_138 H locs hp hT => ?_)
            obtain ⟨rfl, hI, x_140, m_139⟩ := hp
            have r_141 : g_138.1 h = 6 := (Ex.r x_140 r_130 (by decide))
            have r_142 : g_138.1 v_1 = 41 := (Ex.r x_140 r_131 (by decide))
            have r_143 : g_138.1 q_2 = 4 := (Ex.r x_140 r_132 (by decide))
            have n_144 : g_138.2.2.1 v_1 = 6 := (Ex.n x_140 r_131 (by decide) n_133)
            have e_145 : g_138.2.1 h 0 = .ref v_1 := (Sm.v m_139 r_130 (by decide) rfl e_134)
            have e_146 : g_138.2.1 h 7 = .int v_135 := (Sm.v m_139 r_130 (by decide) rfl e_v_135)
            have e_147 : g_138.2.1 h 2 = .int v_137 := (Sm.v m_139 r_130 (by decide) rfl e_v_137)
            have hM : Sm md_s_serve1 g g_138 := hM.tr hE (m_139.mo (fun r k h => mdle_s_serve1_s_keep h))
            have hE : Ex g g_138 := hE.tr x_140
            refine W.eq (g2 := F0 m 158 ls []) rfl ?_
            refine lv_iload hx hb dX5_serve_158 (lv_at hl 0 rfl) ?_
            exact t_iret hB hr hT (Nat.le_of_ble_eq_true rfl) (Nat.le_of_ble_eq_true rfl) dX5_serve_160 ⟨r_127, rfl, hI, hE, hM⟩
          · have c_136' : v_135.toInt ≠ 0 := i_ne c_136 rfl (by decide)
            refine lv_bipush (v := (-2)) hx hb dX5_serve_121 (by decide) ?_
            exact t_iret hB hr hT (Nat.le_of_ble_eq_true rfl) (Nat.le_of_ble_eq_true rfl) dX5_serve_123 ⟨(-2), rfl, hI, hE, hM⟩
        · refine W.eq (g2 := F0 m 60 ls [.int r_107]) rfl ?_
          refine lv_goto (tgt := 64) hx hb dX5_serve_60 (by decide) ?_
          refine lv_istore (lv' := [(7, .int r_107), (6, .int 0), (5, .int 1), (4, .ref q_2), (0, .ref h), (1, .int n), (2, .int x1), (3, .int x2)]) hx hb dX5_serve_64 hl (by decide) rfl (fun ls hl => ?_)
          refine lv_iload hx hb dX5_serve_66 (lv_at hl 0 rfl) ?_
          refine lv_iconst (v := (-1)) hx hb dX5_serve_68 (by decide) ?_
          refine lv_icmp_eq (tgt := 81) hx hb dX5_serve_69 (by decide) (fun c_148 => ?_) (fun c_148 => ?_)
          · have c_148' : r_107.toInt = (-1) := i_eq c_148 rfl (by decide)
            exact absurd c_148' (by omega)
          · have c_148' : r_107.toInt ≠ (-1) := i_ne c_148 rfl (by decide)
            refine lv_aload hx hb dX5_serve_72 (lv_at hl 3 rfl) ?_
            refine lv_iload hx hb dX5_serve_74 (lv_at hl 0 rfl) ?_
            refine lv_iload_n hx hb dX5_serve_76 rfl (lv_at hl 6 rfl) ?_
            refine t_callV (n := 2) (ci := 3) (As := [.int r_107, .int x1]) (rest := []) hB hT hl.1 (s_keptAnswer l D cI cZ cS cR N0 fr g_106 hI q_2 r_107 x1 r_113 (by omega) (by omega)) (ro_ci r_113 rfl) rfl k_520 k_60 k_517 k_518 k_519 (by decide +kernel) ⟨(Nat.le_of_ble_eq_true rfl), (Nat.le_of_ble_eq_true rfl)⟩ rfl (Nat.le_of_ble_eq_true rfl) ⟨(Nat.le_of_ble_eq_true rfl), (Nat.le_of_ble_eq_true rfl)⟩ dX5_serve_77 (fun v g_149 H locs hp hT => ?_)
            obtain ⟨r_150, rfl, hI, x_152, m_151⟩ := hp
            have r_153 : g_149.1 h = 6 := (Ex.r x_152 r_111 (by decide))
            have r_154 : g_149.1 v_1 = 41 := (Ex.r x_152 r_112 (by decide))
            have r_155 : g_149.1 q_2 = 4 := (Ex.r x_152 r_113 (by decide))
            have n_156 : g_149.2.2.1 v_1 = 6 := (Ex.n x_152 r_112 (by decide) n_114)
            have e_157 : g_149.2.1 h 0 = .ref v_1 := (Sm.v m_151 r_111 (by decide) rfl e_115)
            have hM : Sm md_s_serve1 g g_149 := hM.tr hE (m_151.mo (fun r k h => mdle_s_serve1_s_keptAnswer h))
            have hE : Ex g g_149 := hE.tr x_152
            refine W.eq (g2 := F0 m 80 ls [.int r_150]) rfl ?_
            exact t_iret hB hr hT (Nat.le_of_ble_eq_true rfl) (Nat.le_of_ble_eq_true rfl) dX5_serve_80 ⟨r_150, rfl, hI, hE, hM⟩
    · refine W.eq (g2 := F0 m 18 ls [.int 0]) rfl ?_
      refine lv_if_eq (tgt := 25) hx hb dX5_serve_18 (by decide) (fun c_ => ?_) (fun c_ => absurd (by decide) c_)
      refine lv_iconst (v := 0) hx hb dX5_serve_25 (by decide) ?_
      refine lv_istore (lv' := [(5, .int 0), (4, .ref q_2), (0, .ref h), (1, .int n), (2, .int x1), (3, .int x2)]) hx hb dX5_serve_26 hl (by decide) rfl (fun ls hl => ?_)
      refine lv_iload hx hb dX5_serve_28 (lv_at hl 0 rfl) ?_
      refine lv_if_eq (tgt := 46) hx hb dX5_serve_30 (by decide) (fun c_ => ?_) (fun c_ => absurd (by decide) c_)
      refine lv_iconst (v := 0) hx hb dX5_serve_46 (by decide) ?_
      refine lv_istore (lv' := [(6, .int 0), (5, .int 0), (4, .ref q_2), (0, .ref h), (1, .int n), (2, .int x1), (3, .int x2)]) hx hb dX5_serve_47 hl (by decide) rfl (fun ls hl => ?_)
      refine lv_iload hx hb dX5_serve_49 (lv_at hl 1 rfl) ?_
      refine lv_if_eq (tgt := 63) hx hb dX5_serve_51 (by decide) (fun c_ => ?_) (fun c_ => absurd (by decide) c_)
      refine lv_iconst (v := (-1)) hx hb dX5_serve_63 (by decide) ?_
      refine lv_istore (lv' := [(7, .int (-1)), (6, .int 0), (5, .int 0), (4, .ref q_2), (0, .ref h), (1, .int n), (2, .int x1), (3, .int x2)]) hx hb dX5_serve_64 hl (by decide) rfl (fun ls hl => ?_)
      refine lv_iload hx hb dX5_serve_66 (lv_at hl 0 rfl) ?_
      refine lv_iconst (v := (-1)) hx hb dX5_serve_68 (by decide) ?_
      refine lv_icmp_eq (tgt := 81) hx hb dX5_serve_69 (by decide) (fun c_ => ?_) (fun c_ => absurd (by decide) c_)
      refine lv_iload hx hb dX5_serve_81 (lv_at hl 1 rfl) ?_
      refine lv_if_eq (tgt := 98) hx hb dX5_serve_83 (by decide) (fun c_ => ?_) (fun c_ => absurd (by decide) c_)
      refine lv_aload hx hb dX5_serve_98 (lv_at hl 3 rfl) ?_
      refine lv_iload_n hx hb dX5_serve_100 rfl (lv_at hl 6 rfl) ?_
      refine lv_iload_n hx hb dX5_serve_101 rfl (lv_at hl 7 rfl) ?_
      refine t_callV (n := 2) (ci := 3) (As := [.int x1, .int x2]) (rest := []) hB hT hl.1 (s_beginKnown l D cI cZ cS cR N0 fr g_23 hI q_2 x1 x2 r_30) (ro_ci r_30 rfl) rfl k_529 k_60 k_526 k_527 k_528 (by decide +kernel) ⟨(Nat.le_of_ble_eq_true rfl), (Nat.le_of_ble_eq_true rfl)⟩ rfl (Nat.le_of_ble_eq_true rfl) ⟨(Nat.le_of_ble_eq_true rfl), (Nat.le_of_ble_eq_true rfl)⟩ dX5_serve_102 (fun v g_158 H locs hp hT => ?_)
      obtain ⟨rfl, hI, x_160, m_159⟩ := hp
      have r_161 : g_158.1 h = 6 := (Ex.r x_160 r_28 (by decide))
      have r_162 : g_158.1 v_1 = 41 := (Ex.r x_160 r_29 (by decide))
      have r_163 : g_158.1 q_2 = 4 := (Ex.r x_160 r_30 (by decide))
      have n_164 : g_158.2.2.1 v_1 = 6 := (Ex.n x_160 r_29 (by decide) n_31)
      have e_165 : g_158.2.1 h 0 = .ref v_1 := (Sm.v m_159 r_28 (by decide) rfl e_32)
      have hM : Sm md_s_serve1 g g_158 := hM.tr hE (m_159.mo (fun r k h => mdle_s_serve1_s_beginKnown h))
      have hE : Ex g g_158 := hE.tr x_160
      refine W.eq (g2 := F0 m 105 ls []) rfl ?_
      refine lv_aload_n hx hb dX5_serve_105 rfl (lv_at hl 4 rfl) ?_
      refine lv_iload_n hx hb dX5_serve_106 rfl (lv_at hl 5 rfl) ?_
      refine lv_iload_n hx hb dX5_serve_107 rfl (lv_at hl 6 rfl) ?_
      refine lv_iload_n hx hb dX5_serve_108 rfl (lv_at hl 7 rfl) ?_
      refine t_callV (n := 3) (ci := 5) (As := [.int n, .int x1, .int x2]) (rest := []) hB hT hl.1 (s_runActs1 l D cI cZ cS cR N0 fr g_158 hI h n x1 x2 r_161 (by omega) (by omega)) (ro_ci r_161 rfl) rfl k_534 k_59 k_531 k_533 k_13 (by decide +kernel) ⟨(Nat.le_of_ble_eq_true rfl), (Nat.le_of_ble_eq_true rfl)⟩ rfl (Nat.le_of_ble_eq_true rfl) ⟨(Nat.le_of_ble_eq_true rfl), (Nat.le_of_ble_eq_true rfl)⟩ dX5_serve_109 (fun v g_166 H locs hp hT => ?_)
      obtain ⟨r_167, rfl, hI, x_169, m_168⟩ := hp
      have r_170 : g_166.1 h = 6 := (Ex.r x_169 r_161 (by decide))
      have r_171 : g_166.1 v_1 = 41 := (Ex.r x_169 r_162 (by decide))
      have r_172 : g_166.1 q_2 = 4 := (Ex.r x_169 r_163 (by decide))
      have n_173 : g_166.2.2.1 v_1 = 6 := (Ex.n x_169 r_162 (by decide) n_164)
      have e_174 : g_166.2.1 h 0 = .ref v_1 := (Sm.v m_168 r_161 (by decide) rfl e_165)
      have hM : Sm md_s_serve1 g g_166 := hM.tr hE (m_168.mo (fun r k h => mdle_s_serve1_s_runActs1 h))
      have hE : Ex g g_166 := hE.tr x_169
      refine W.eq (g2 := F0 m 112 ls [.int r_167]) rfl ?_
      refine lv_istore (lv' := [(8, .int r_167), (7, .int (-1)), (6, .int 0), (5, .int 0), (4, .ref q_2), (0, .ref h), (1, .int n), (2, .int x1), (3, .int x2)]) hx hb dX5_serve_112 hl (by decide) rfl (fun ls hl => ?_)
      refine lv_aload_n hx hb dX5_serve_114 rfl (lv_at hl 5 rfl) ?_
      obtain ⟨v_175, e_v_175, l_v_175, u_v_175⟩ := hI.f r_170 7
      refine t_get (ci := 5) (v := .int v_175) hB hT (ro_ci r_170 rfl) rfl 7 (by decide) k_216 e_v_175 dX5_serve_115 ?_
      refine lv_if_eq (tgt := 124) hx hb dX5_serve_118 (by decide) (fun c_176 => ?_) (fun c_176 => ?_)
      · have c_176' : v_175.toInt = 0 := i_eq c_176 rfl (by decide)
        refine lv_iload hx hb dX5_serve_124 (lv_at hl 2 rfl) ?_
        refine lv_if_eq (tgt := 140) hx hb dX5_serve_126 (by decide) (fun c_ => ?_) (fun c_ => absurd (by decide) c_)
        refine lv_iload hx hb dX5_serve_140 (lv_at hl 3 rfl) ?_
        refine lv_if_eq (tgt := 158) hx hb dX5_serve_142 (by decide) (fun c_ => ?_) (fun c_ => absurd (by decide) c_)
        refine lv_iload hx hb dX5_serve_158 (lv_at hl 0 rfl) ?_
        exact t_iret hB hr hT (Nat.le_of_ble_eq_true rfl) (Nat.le_of_ble_eq_true rfl) dX5_serve_160 ⟨r_167, rfl, hI, hE, hM⟩
      · have c_176' : v_175.toInt ≠ 0 := i_ne c_176 rfl (by decide)
        refine lv_bipush (v := (-2)) hx hb dX5_serve_121 (by decide) ?_
        exact t_iret hB hr hT (Nat.le_of_ble_eq_true rfl) (Nat.le_of_ble_eq_true rfl) dX5_serve_123 ⟨(-2), rfl, hI, hE, hM⟩
def md_s_runActs2 : Nat → Nat → Bool := fun r k => (r == 4 && k == 0) || (r == 4 && k == 2) || (r == 4 && k == 3) || (r == 4 && k == 4) || (r == 4 && k == 5) || (r == 4 && k == 10) || (r == 4 && k == 11) || (r == 4 && k == 14) || (r == 6 && k == 4) || (r == 6 && k == 5) || (r == 6 && k == 7)
theorem mdle_s_runActs2_s_canAsk {r k : Nat} (h : md_s_runActs2 r k = false) : md_s_canAsk r k = false := by
  first | rfl | (simp only [md_s_runActs2, md_s_canAsk, Bool.or_eq_false_iff, Bool.and_eq_false_iff, beq_eq_false_iff_ne] at h ⊢; omega)
theorem mdle_s_runActs2_s_isHeldBack {r k : Nat} (h : md_s_runActs2 r k = false) : md_s_isHeldBack r k = false := by
  first | rfl | (simp only [md_s_runActs2, md_s_isHeldBack, Bool.or_eq_false_iff, Bool.and_eq_false_iff, beq_eq_false_iff_ne] at h ⊢; omega)
theorem mdle_s_runActs2_s_passesOver {r k : Nat} (h : md_s_runActs2 r k = false) : md_s_passesOver r k = false := by
  first | rfl | (simp only [md_s_runActs2, md_s_passesOver, Bool.or_eq_false_iff, Bool.and_eq_false_iff, beq_eq_false_iff_ne] at h ⊢; omega)
theorem mdle_s_runActs2_s_perform {r k : Nat} (h : md_s_runActs2 r k = false) : md_s_perform r k = false := by
  first | rfl | (simp only [md_s_runActs2, md_s_perform, Bool.or_eq_false_iff, Bool.and_eq_false_iff, beq_eq_false_iff_ne] at h ⊢; omega)
theorem mdle_s_runActs2_s_serve1 {r k : Nat} (h : md_s_runActs2 r k = false) : md_s_serve1 r k = false := by
  first | rfl | (simp only [md_s_runActs2, md_s_serve1, Bool.or_eq_false_iff, Bool.and_eq_false_iff, beq_eq_false_iff_ne] at h ⊢; omega)
theorem mdle_s_runActs2_s_valueAt {r k : Nat} (h : md_s_runActs2 r k = false) : md_s_valueAt r k = false := by
  first | rfl | (simp only [md_s_runActs2, md_s_valueAt, Bool.or_eq_false_iff, Bool.and_eq_false_iff, beq_eq_false_iff_ne] at h ⊢; omega)
set_option maxHeartbeats 4000000 in
set_option maxRecDepth 100000 in
theorem lt_s_runActs2_a (l : Launch) (D : va_G) (cI cZ cS cR : ClassId) (N0 : NT) (fr : Int32) (g : GS) (h : Nat) (n : Int32) (x1 : Int32) (x2 : Int32) (r_h : g.1 h = 6) (l_n : 3 ≤ n.toInt) (u_n : n.toInt ≤ 5) {p : Program} {e : Env} {s : State} {m : MethodId} {args : Array Value} {below : List Frame} {meth : Method} {c : Code} (hB : Tz p s m meth c args cX5_runActs 14 RX5 D cI cZ cS cR N0) (hr : meth.sig.returnType = (some .int))  : ∀ (kf : Nat) (g1 : GS) (i : Int32) (j : Int32) (pk : Int32) (po : Int32) (q1 : Nat) (q2 : Nat) (H : Heap) (locs : List Loc) (ls : Array Slot), Tv D cI cZ cS cR N0 s.heap H locs g1 → Inv fr g1 → Ex g g1 → Sm md_s_runActs2 g g1 → 0 ≤ i.toInt → i.toInt ≤ 8 → 0 ≤ pk.toInt → pk.toInt ≤ 1 → 0 ≤ po.toInt → po.toInt ≤ 1 → g1.1 q1 = 4 → g1.1 q2 = 3 → 8 ≤ i.toInt + kf → lv_has ls 14 [(9, .int i), (8, .int po), (7, .int j), (6, .int pk), (5, .ref q2), (4, .ref q1), (0, .ref h), (1, .int n), (2, .int x1), (3, .int x2)] → W p l e (rmx 5 0 0) s m args below meth c H locs 0 0 (MQ below (tQ D cI cZ cS cR N0 (fun v g' => ∃ (r : Int32), v = some (.int r) ∧ Inv fr g' ∧ Ex g g' ∧ Sm md_s_runActs2 g g')) args s 0 0 (fun q => N0.1 ≤ q)) (F0 m 44 ls []) := by
  have hx := hB.1
  have hb := hB.2.1
  intro kf
  induction kf using Nat.strongRecOn with
  | ind kf ih =>
    intro g1 i j pk po q1 q2 H locs ls hT hI hE hM l_i u_i l_pk u_pk l_po u_po r1_q1 r1_q2 hk hl
    have r1_h : g1.1 h = 6 := Ex.r hE r_h (by decide)
    refine lv_iload hx hb dX5_runActs_44 (lv_at hl 0 rfl) ?_
    refine lv_aload hx hb dX5_runActs_46 (lv_at hl 4 rfl) ?_
    obtain ⟨v_1, e_v_1, l_v_1, u_v_1⟩ := hI.f r1_q2 3
    refine t_get (ci := 2) (v := .int v_1) hB hT (ro_ci r1_q2 rfl) rfl 3 (by decide) k_133 e_v_1 dX5_runActs_48 ?_
    refine lv_icmp_ge (tgt := 288) hx hb dX5_runActs_51 (by decide) (fun c_2 => ?_) (fun c_2 => ?_)
    · have c_2' : v_1.toInt ≤ i.toInt := i_le c_2 rfl rfl
      refine lv_iload hx hb dX5_runActs_288 (lv_at hl 2 rfl) ?_
      exact t_iret hB hr hT (Nat.le_of_ble_eq_true rfl) (Nat.le_of_ble_eq_true rfl) dX5_runActs_290 ⟨j, rfl, hI, hE, hM⟩
    · have c_2' : i.toInt < v_1.toInt := i_nle c_2 rfl rfl
      refine lv_iload hx hb dX5_runActs_54 (lv_at hl 1 rfl) ?_
      refine lv_if_eq (tgt := 65) hx hb dX5_runActs_56 (by decide) (fun c_3 => ?_) (fun c_3 => ?_)
      · have c_3' : po.toInt = 0 := i_eq c_3 rfl (by decide)
        refine lv_aload_n hx hb dX5_runActs_65 rfl (lv_at hl 6 rfl) ?_
        obtain ⟨v_4, e_v_4⟩ := hI.f r1_h 5
        refine t_get (ci := 5) (v := .int v_4) hB hT (ro_ci r1_h rfl) rfl 5 (by decide) k_213 e_v_4 dX5_runActs_66 ?_
        refine lv_iconst (v := 1) hx hb dX5_runActs_69 (by decide) ?_
        refine lv_iadd hx hb dX5_runActs_70 ?_
        refine lv_topi (fun z_5 ez_5 => ?_)
        refine lv_aload_n hx hb dX5_runActs_71 rfl (lv_at hl 6 rfl) ?_
        obtain ⟨v_6, e_v_6⟩ := hI.f r1_h 6
        refine t_get (ci := 5) (v := .int v_6) hB hT (ro_ci r1_h rfl) rfl 6 (by decide) k_215 e_v_6 dX5_runActs_72 ?_
        refine lv_icmp_lt (tgt := 86) hx hb dX5_runActs_75 (by decide) (fun c_7 => ?_) (fun c_7 => ?_)
        · have c_7' : z_5.toInt < v_6.toInt := i_lt c_7 rfl rfl
          refine lv_aload_n hx hb dX5_runActs_86 rfl (lv_at hl 6 rfl) ?_
          refine lv_dup hx hb dX5_runActs_87 rfl ?_
          refine t_get (ci := 5) (v := .int v_4) hB hT (ro_ci r1_h rfl) rfl 5 (by decide) k_213 e_v_4 dX5_runActs_88 ?_
          refine lv_iconst (v := 1) hx hb dX5_runActs_91 (by decide) ?_
          refine lv_iadd hx hb dX5_runActs_92 ?_
          refine lv_topi (fun z_8 ez_8 => ?_)
          refine t_put0 (ci := 5) (v := .int z_8) hB hT (ro_ci r1_h rfl) (ro_n0 r1_h (by decide)) rfl 5 (by decide) k_213 (Or.inl rfl) rfl rfl dX5_runActs_93 (fun H locs hT => ?_)
          have hI : Inv fr (sF g1 h 5 (.int z_8)) := hI.sF (fk r1_h (⟨_, rfl⟩))
          have hM : Sm md_s_runActs2 g (sF g1 h 5 (.int z_8)) := hM.tr hE (Sm_sF (by rw [r1_h]; rfl))
          have hE : Ex g (sF g1 h 5 (.int z_8)) := hE
          refine lv_aload hx hb dX5_runActs_96 (lv_at hl 4 rfl) ?_
          refine lv_iload hx hb dX5_runActs_98 (lv_at hl 0 rfl) ?_
          refine lv_iload_n hx hb dX5_runActs_100 rfl (lv_at hl 8 rfl) ?_
          refine lv_iload hx hb dX5_runActs_101 (lv_at hl 2 rfl) ?_
          refine t_callV (n := 3) (ci := 2) (As := [.int i, .int x1, .int j]) (rest := []) hB hT hl.1 (s_valueAt l D cI cZ cS cR N0 fr (sF g1 h 5 (.int z_8)) hI q2 i x1 j r1_q2 (by omega) (by omega)) (ro_ci r1_q2 rfl) rfl k_538 k_61 k_535 k_536 k_537 (by decide +kernel) ⟨(Nat.le_of_ble_eq_true rfl), (Nat.le_of_ble_eq_true rfl)⟩ rfl (Nat.le_of_ble_eq_true rfl) ⟨(Nat.le_of_ble_eq_true rfl), (Nat.le_of_ble_eq_true rfl)⟩ dX5_runActs_103 (fun v g_9 H locs hp hT => ?_)
          obtain ⟨r_10, rfl, hI, x_12, m_11⟩ := hp
          have r_13 : g_9.1 h = 6 := (Ex.r x_12 r1_h (by decide))
          have r_14 : g_9.1 q1 = 4 := (Ex.r x_12 r1_q1 (by decide))
          have r_15 : g_9.1 q2 = 3 := (Ex.r x_12 r1_q2 (by decide))
          have e_16 : g_9.2.1 q2 3 = .int v_1 := (Sm.v m_11 r1_q2 (by decide) rfl (sF_k e_v_1 (by decide)))
          have e_17 : g_9.2.1 h 6 = .int v_6 := (Sm.v m_11 r1_h (by decide) rfl (sF_k e_v_6 (by decide)))
          have e_18 : g_9.2.1 h 5 = .int z_8 := (Sm.v m_11 r1_h (by decide) rfl sF_eq)
          have hM : Sm md_s_runActs2 g g_9 := hM.tr hE (m_11.mo (fun r k h => mdle_s_runActs2_s_valueAt h))
          have hE : Ex g g_9 := hE.tr x_12
          refine W.eq (g2 := F0 m 106 ls [.int r_10]) rfl ?_
          refine lv_istore (lv' := [(10, .int r_10), (9, .int i), (8, .int po), (7, .int j), (6, .int pk), (5, .ref q2), (4, .ref q1), (0, .ref h), (1, .int n), (2, .int x1), (3, .int x2)]) hx hb dX5_runActs_106 hl (by decide) rfl (fun ls hl => ?_)
          refine lv_aload hx hb dX5_runActs_108 (lv_at hl 6 rfl) ?_
          refine lv_iload hx hb dX5_runActs_110 (lv_at hl 1 rfl) ?_
          refine lv_iload hx hb dX5_runActs_112 (lv_at hl 0 rfl) ?_
          refine t_callV (n := 2) (ci := 3) (As := [.int i, .int r_10]) (rest := []) hB hT hl.1 (s_isHeldBack l D cI cZ cS cR N0 fr g_9 hI q1 i r_10 r_14 (by omega) (by omega)) (ro_ci r_14 rfl) rfl k_542 k_60 k_539 k_540 k_541 (by decide +kernel) ⟨(Nat.le_of_ble_eq_true rfl), (Nat.le_of_ble_eq_true rfl)⟩ rfl (Nat.le_of_ble_eq_true rfl) ⟨(Nat.le_of_ble_eq_true rfl), (Nat.le_of_ble_eq_true rfl)⟩ dX5_runActs_114 (fun v g_19 H locs hp hT => ?_)
          obtain ⟨r_20, rfl, hI, x_23, m_22, f_21⟩ := hp
          have r_24 : g_19.1 h = 6 := (Ex.r x_23 r_13 (by decide))
          have r_25 : g_19.1 q1 = 4 := (Ex.r x_23 r_14 (by decide))
          have r_26 : g_19.1 q2 = 3 := (Ex.r x_23 r_15 (by decide))
          have e_27 : g_19.2.1 q2 3 = .int v_1 := (Sm.v m_22 r_15 (by decide) rfl e_16)
          have e_28 : g_19.2.1 h 6 = .int v_6 := (Sm.v m_22 r_13 (by decide) rfl e_17)
          have e_29 : g_19.2.1 h 5 = .int z_8 := (Sm.v m_22 r_13 (by decide) rfl e_18)
          have hM : Sm md_s_runActs2 g g_19 := hM.tr hE (m_22.mo (fun r k h => mdle_s_runActs2_s_isHeldBack h))
          have hE : Ex g g_19 := hE.tr x_23
          refine W.eq (g2 := F0 m 117 ls [.int r_20]) rfl ?_
          rcases f_21 with rfl | rfl
          · refine W.eq (g2 := F0 m 117 ls [.int 1]) rfl ?_
            refine lv_if_eq (tgt := 123) hx hb dX5_runActs_117 (by decide) (fun c_ => absurd c_ (by decide)) (fun c_ => ?_)
            refine lv_goto (tgt := 282) hx hb dX5_runActs_120 (by decide) ?_
            obtain ⟨z_30, ez_30⟩ : ∃ z : Int32, z = i + 1 := ⟨_, rfl⟩
            have e_z_30 : z_30.toInt = i.toInt + 1 := i_add ez_30 rfl (by decide) (by omega) (by omega)
            refine lv_iinc (v := z_30) (lv' := [(9, .int z_30), (10, .int r_10), (8, .int po), (7, .int j), (6, .int pk), (5, .ref q2), (4, .ref q1), (0, .ref h), (1, .int n), (2, .int x1), (3, .int x2)]) hx hb dX5_runActs_282 hl (k := 1) rfl (by rw [ez_30]; rfl) (by decide) rfl (fun ls hl => ?_)
            refine lv_goto (tgt := 44) hx hb dX5_runActs_285 (by decide) ?_
            exact ih (kf - 1) (by omega) g_19 z_30 j pk po q1 q2 H locs ls hT hI hE hM (by omega) (by omega) (by omega) (by omega) (by omega) (by omega) r_25 r_26 (by have e0 := z0; omega) (lv_sub hl [0, 2, 3, 4, 5, 6, 7, 8, 9, 10] rfl)
          · refine W.eq (g2 := F0 m 117 ls [.int 0]) rfl ?_
            refine lv_if_eq (tgt := 123) hx hb dX5_runActs_117 (by decide) (fun c_ => ?_) (fun c_ => absurd (by decide) c_)
            refine lv_aload hx hb dX5_runActs_123 (lv_at hl 5 rfl) ?_
            obtain ⟨v_31, e_v_31, r_v_31, n_v_31⟩ := hI.f r_26 0
            refine t_get (ci := 2) (v := .ref v_31) hB hT (ro_ci r_26 rfl) rfl 0 (by decide) k_122 e_v_31 dX5_runActs_125 ?_
            refine lv_iload hx hb dX5_runActs_128 (lv_at hl 1 rfl) ?_
            have i_u_32 : vp_in i 8 := (i_in (n := 8) rfl (by omega) (by omega))
            refine t_iald hB hT (ro_in r_v_31 (by decide)) n_v_31 i_u_32 rfl dX5_runActs_130 ?_
            refine lv_topi (fun u_32 e_u_32 => ?_)
            refine lv_istore (lv' := [(11, .int u_32), (10, .int r_10), (9, .int i), (8, .int po), (7, .int j), (6, .int pk), (5, .ref q2), (4, .ref q1), (0, .ref h), (1, .int n), (2, .int x1), (3, .int x2)]) hx hb dX5_runActs_131 hl (by decide) rfl (fun ls hl => ?_)
            refine lv_aload hx hb dX5_runActs_133 (lv_at hl 6 rfl) ?_
            obtain ⟨v_33, e_v_33, r_v_33, n_v_33⟩ := hI.f r_26 1
            refine t_get (ci := 2) (v := .ref v_33) hB hT (ro_ci r_26 rfl) rfl 1 (by decide) k_126 e_v_33 dX5_runActs_135 ?_
            refine lv_iload hx hb dX5_runActs_138 (lv_at hl 2 rfl) ?_
            have i_u_34 : vp_in i 8 := (i_in (n := 8) rfl (by omega) (by omega))
            refine t_iald hB hT (ro_in r_v_33 (by decide)) n_v_33 i_u_34 rfl dX5_runActs_140 ?_
            have c_u_34 := hI.c r_v_33 n_v_33 (i_cl i_u_34)
            refine lv_topi (fun u_34 e_u_34 => ?_)
            obtain ⟨l_u_34, u_u_34⟩ := c_u_34
            rw [← e_u_34] at l_u_34 u_u_34
            refine lv_istore (lv' := [(12, .int u_34), (11, .int u_32), (10, .int r_10), (9, .int i), (8, .int po), (7, .int j), (6, .int pk), (5, .ref q2), (4, .ref q1), (0, .ref h), (1, .int n), (2, .int x1), (3, .int x2)]) hx hb dX5_runActs_141 hl (by decide) rfl (fun ls hl => ?_)
            refine lv_iload hx hb dX5_runActs_143 (lv_at hl 1 rfl) ?_
            refine lv_iconst (v := 5) hx hb dX5_runActs_145 (by decide) ?_
            refine lv_icmp_ne (tgt := 207) hx hb dX5_runActs_146 (by decide) (fun c_35 => ?_) (fun c_35 => ?_)
            · have c_35' : u_32.toInt ≠ 5 := i_ne c_35 rfl (by decide)
              refine lv_iload hx hb dX5_runActs_207 (lv_at hl 1 rfl) ?_
              refine lv_bipush (v := 6) hx hb dX5_runActs_209 (by decide) ?_
              refine lv_icmp_ne (tgt := 242) hx hb dX5_runActs_211 (by decide) (fun c_36 => ?_) (fun c_36 => ?_)
              · have c_36' : u_32.toInt ≠ 6 := i_ne c_36 rfl (by decide)
                refine lv_iload hx hb dX5_runActs_242 (lv_at hl 1 rfl) ?_
                refine lv_bipush (v := 7) hx hb dX5_runActs_244 (by decide) ?_
                refine lv_icmp_ne (tgt := 263) hx hb dX5_runActs_246 (by decide) (fun c_37 => ?_) (fun c_37 => ?_)
                · have c_37' : u_32.toInt ≠ 7 := i_ne c_37 rfl (by decide)
                  refine lv_iload hx hb dX5_runActs_263 (lv_at hl 1 rfl) ?_
                  refine lv_iconst (v := 5) hx hb dX5_runActs_265 (by decide) ?_
                  refine lv_icmp_eq (tgt := 282) hx hb dX5_runActs_266 (by decide) (fun c_38 => ?_) (fun c_38 => ?_)
                  · have c_38' : u_32.toInt = 5 := i_eq c_38 rfl (by decide)
                    obtain ⟨z_39, ez_39⟩ : ∃ z : Int32, z = i + 1 := ⟨_, rfl⟩
                    have e_z_39 : z_39.toInt = i.toInt + 1 := i_add ez_39 rfl (by decide) (by omega) (by omega)
                    refine lv_iinc (v := z_39) (lv' := [(9, .int z_39), (12, .int u_34), (11, .int u_32), (10, .int r_10), (8, .int po), (7, .int j), (6, .int pk), (5, .ref q2), (4, .ref q1), (0, .ref h), (1, .int n), (2, .int x1), (3, .int x2)]) hx hb dX5_runActs_282 hl (k := 3) rfl (by rw [ez_39]; rfl) (by decide) rfl (fun ls hl => ?_)
                    refine lv_goto (tgt := 44) hx hb dX5_runActs_285 (by decide) ?_
                    exact ih (kf - 1) (by omega) g_19 z_39 j pk po q1 q2 H locs ls hT hI hE hM (by omega) (by omega) (by omega) (by omega) (by omega) (by omega) r_25 r_26 (by have e0 := z0; omega) (lv_sub hl [0, 4, 5, 6, 7, 8, 9, 10, 11, 12] rfl)
                  · have c_38' : u_32.toInt ≠ 5 := i_ne c_38 rfl (by decide)
                    refine lv_aload hx hb dX5_runActs_269 (lv_at hl 8 rfl) ?_
                    refine lv_iload hx hb dX5_runActs_271 (lv_at hl 3 rfl) ?_
                    refine lv_iload hx hb dX5_runActs_273 (lv_at hl 2 rfl) ?_
                    refine lv_iload hx hb dX5_runActs_275 (lv_at hl 5 rfl) ?_
                    refine t_callV (n := 3) (ci := 3) (As := [.int i, .int r_10, .int j]) (rest := []) hB hT hl.1 (s_perform l D cI cZ cS cR N0 fr g_19 hI q1 i r_10 j r_25 (by omega) (by omega)) (ro_ci r_25 rfl) rfl k_550 k_60 k_547 k_548 k_549 (by decide +kernel) ⟨(Nat.le_of_ble_eq_true rfl), (Nat.le_of_ble_eq_true rfl)⟩ rfl (Nat.le_of_ble_eq_true rfl) ⟨(Nat.le_of_ble_eq_true rfl), (Nat.le_of_ble_eq_true rfl)⟩ dX5_runActs_277 (fun v g_40 H locs hp hT => ?_)
                    obtain ⟨r_41, rfl, hI, x_43, m_42⟩ := hp
                    have r_44 : g_40.1 h = 6 := (Ex.r x_43 r_24 (by decide))
                    have r_45 : g_40.1 q1 = 4 := (Ex.r x_43 r_25 (by decide))
                    have r_46 : g_40.1 q2 = 3 := (Ex.r x_43 r_26 (by decide))
                    have r_47 : g_40.1 v_31 = 20 := (Ex.r x_43 r_v_31 (by decide))
                    have r_48 : g_40.1 v_33 = 21 := (Ex.r x_43 r_v_33 (by decide))
                    have n_49 : g_40.2.2.1 v_31 = 8 := (Ex.n x_43 r_v_31 (by decide) n_v_31)
                    have n_50 : g_40.2.2.1 v_33 = 8 := (Ex.n x_43 r_v_33 (by decide) n_v_33)
                    have e_51 : g_40.2.1 q2 3 = .int v_1 := (Sm.v m_42 r_26 (by decide) rfl e_27)
                    have e_52 : g_40.2.1 h 6 = .int v_6 := (Sm.v m_42 r_24 (by decide) rfl e_28)
                    have e_53 : g_40.2.1 h 5 = .int z_8 := (Sm.v m_42 r_24 (by decide) rfl e_29)
                    have e_54 : g_40.2.1 q2 0 = .ref v_31 := (Sm.v m_42 r_26 (by decide) rfl e_v_31)
                    have e_55 : g_40.2.1 q2 1 = .ref v_33 := (Sm.v m_42 r_26 (by decide) rfl e_v_33)
                    have hM : Sm md_s_runActs2 g g_40 := hM.tr hE (m_42.mo (fun r k h => mdle_s_runActs2_s_perform h))
                    have hE : Ex g g_40 := hE.tr x_43
                    refine W.eq (g2 := F0 m 280 ls [.int r_41]) rfl ?_
                    refine lv_istore (lv' := [(7, .int r_41), (12, .int u_34), (11, .int u_32), (10, .int r_10), (9, .int i), (8, .int po), (6, .int pk), (5, .ref q2), (4, .ref q1), (0, .ref h), (1, .int n), (2, .int x1), (3, .int x2)]) hx hb dX5_runActs_280 hl (by decide) rfl (fun ls hl => ?_)
                    obtain ⟨z_56, ez_56⟩ : ∃ z : Int32, z = i + 1 := ⟨_, rfl⟩
                    have e_z_56 : z_56.toInt = i.toInt + 1 := i_add ez_56 rfl (by decide) (by omega) (by omega)
                    refine lv_iinc (v := z_56) (lv' := [(9, .int z_56), (7, .int r_41), (12, .int u_34), (11, .int u_32), (10, .int r_10), (8, .int po), (6, .int pk), (5, .ref q2), (4, .ref q1), (0, .ref h), (1, .int n), (2, .int x1), (3, .int x2)]) hx hb dX5_runActs_282 hl (k := 4) rfl (by rw [ez_56]; rfl) (by decide) rfl (fun ls hl => ?_)
                    refine lv_goto (tgt := 44) hx hb dX5_runActs_285 (by decide) ?_
                    exact ih (kf - 1) (by omega) g_40 z_56 r_41 pk po q1 q2 H locs ls hT hI hE hM (by omega) (by omega) (by omega) (by omega) (by omega) (by omega) r_45 r_46 (by have e0 := z0; omega) (lv_sub hl [0, 5, 1, 6, 7, 8, 9, 10, 11, 12] rfl)
                · have c_37' : u_32.toInt = 7 := i_eq c_37 rfl (by decide)
                  refine lv_aload hx hb dX5_runActs_249 (lv_at hl 8 rfl) ?_
                  refine lv_iload hx hb dX5_runActs_251 (lv_at hl 3 rfl) ?_
                  refine lv_iload hx hb dX5_runActs_253 (lv_at hl 2 rfl) ?_
                  refine t_callV (n := 2) (ci := 3) (As := [.int i, .int r_10]) (rest := []) hB hT hl.1 (s_passesOver l D cI cZ cS cR N0 fr g_19 hI q1 i r_10 r_25 (by omega) (by omega)) (ro_ci r_25 rfl) rfl k_546 k_60 k_543 k_544 k_545 (by decide +kernel) ⟨(Nat.le_of_ble_eq_true rfl), (Nat.le_of_ble_eq_true rfl)⟩ rfl (Nat.le_of_ble_eq_true rfl) ⟨(Nat.le_of_ble_eq_true rfl), (Nat.le_of_ble_eq_true rfl)⟩ dX5_runActs_255 (fun v g_57 H locs hp hT => ?_)
                  obtain ⟨r_58, rfl, hI, x_61, m_60, f_59⟩ := hp
                  have r_62 : g_57.1 h = 6 := (Ex.r x_61 r_24 (by decide))
                  have r_63 : g_57.1 q1 = 4 := (Ex.r x_61 r_25 (by decide))
                  have r_64 : g_57.1 q2 = 3 := (Ex.r x_61 r_26 (by decide))
                  have r_65 : g_57.1 v_31 = 20 := (Ex.r x_61 r_v_31 (by decide))
                  have r_66 : g_57.1 v_33 = 21 := (Ex.r x_61 r_v_33 (by decide))
                  have n_67 : g_57.2.2.1 v_31 = 8 := (Ex.n x_61 r_v_31 (by decide) n_v_31)
                  have n_68 : g_57.2.2.1 v_33 = 8 := (Ex.n x_61 r_v_33 (by decide) n_v_33)
                  have e_69 : g_57.2.1 q2 3 = .int v_1 := (Sm.v m_60 r_26 (by decide) rfl e_27)
                  have e_70 : g_57.2.1 h 6 = .int v_6 := (Sm.v m_60 r_24 (by decide) rfl e_28)
                  have e_71 : g_57.2.1 h 5 = .int z_8 := (Sm.v m_60 r_24 (by decide) rfl e_29)
                  have e_72 : g_57.2.1 q2 0 = .ref v_31 := (Sm.v m_60 r_26 (by decide) rfl e_v_31)
                  have e_73 : g_57.2.1 q2 1 = .ref v_33 := (Sm.v m_60 r_26 (by decide) rfl e_v_33)
                  have hM : Sm md_s_runActs2 g g_57 := hM.tr hE (m_60.mo (fun r k h => mdle_s_runActs2_s_passesOver h))
                  have hE : Ex g g_57 := hE.tr x_61
                  refine W.eq (g2 := F0 m 258 ls [.int r_58]) rfl ?_
                  rcases f_59 with rfl | rfl
                  · refine W.eq (g2 := F0 m 258 ls [.int 1]) rfl ?_
                    refine lv_istore (lv' := [(8, .int 1), (12, .int u_34), (11, .int u_32), (10, .int r_10), (9, .int i), (7, .int j), (6, .int pk), (5, .ref q2), (4, .ref q1), (0, .ref h), (1, .int n), (2, .int x1), (3, .int x2)]) hx hb dX5_runActs_258 hl (by decide) rfl (fun ls hl => ?_)
                    refine lv_goto (tgt := 282) hx hb dX5_runActs_260 (by decide) ?_
                    obtain ⟨z_74, ez_74⟩ : ∃ z : Int32, z = i + 1 := ⟨_, rfl⟩
                    have e_z_74 : z_74.toInt = i.toInt + 1 := i_add ez_74 rfl (by decide) (by omega) (by omega)
                    refine lv_iinc (v := z_74) (lv' := [(9, .int z_74), (8, .int 1), (12, .int u_34), (11, .int u_32), (10, .int r_10), (7, .int j), (6, .int pk), (5, .ref q2), (4, .ref q1), (0, .ref h), (1, .int n), (2, .int x1), (3, .int x2)]) hx hb dX5_runActs_282 hl (k := 4) rfl (by rw [ez_74]; rfl) (by decide) rfl (fun ls hl => ?_)
                    refine lv_goto (tgt := 44) hx hb dX5_runActs_285 (by decide) ?_
                    exact ih (kf - 1) (by omega) g_57 z_74 j pk (1 : Int32) q1 q2 H locs ls hT hI hE hM (by omega) (by omega) (by omega) (by omega) (by decide) (by decide) r_63 r_64 (by have e0 := z0; omega) (lv_sub hl [0, 1, 5, 6, 7, 8, 9, 10, 11, 12] rfl)
                  · refine W.eq (g2 := F0 m 258 ls [.int 0]) rfl ?_
                    refine lv_istore (lv' := [(8, .int 0), (12, .int u_34), (11, .int u_32), (10, .int r_10), (9, .int i), (7, .int j), (6, .int pk), (5, .ref q2), (4, .ref q1), (0, .ref h), (1, .int n), (2, .int x1), (3, .int x2)]) hx hb dX5_runActs_258 hl (by decide) rfl (fun ls hl => ?_)
                    refine lv_goto (tgt := 282) hx hb dX5_runActs_260 (by decide) ?_
                    obtain ⟨z_75, ez_75⟩ : ∃ z : Int32, z = i + 1 := ⟨_, rfl⟩
                    have e_z_75 : z_75.toInt = i.toInt + 1 := i_add ez_75 rfl (by decide) (by omega) (by omega)
                    refine lv_iinc (v := z_75) (lv' := [(9, .int z_75), (8, .int 0), (12, .int u_34), (11, .int u_32), (10, .int r_10), (7, .int j), (6, .int pk), (5, .ref q2), (4, .ref q1), (0, .ref h), (1, .int n), (2, .int x1), (3, .int x2)]) hx hb dX5_runActs_282 hl (k := 4) rfl (by rw [ez_75]; rfl) (by decide) rfl (fun ls hl => ?_)
                    refine lv_goto (tgt := 44) hx hb dX5_runActs_285 (by decide) ?_
                    exact ih (kf - 1) (by omega) g_57 z_75 j pk (0 : Int32) q1 q2 H locs ls hT hI hE hM (by omega) (by omega) (by omega) (by omega) (by decide) (by decide) r_63 r_64 (by have e0 := z0; omega) (lv_sub hl [0, 1, 5, 6, 7, 8, 9, 10, 11, 12] rfl)
              · have c_36' : u_32.toInt = 6 := i_eq c_36 rfl (by decide)
                refine lv_aload_n hx hb dX5_runActs_214 rfl (lv_at hl 9 rfl) ?_
                obtain ⟨v_76, e_v_76, r_v_76, n_v_76⟩ := hI.f r_24 3
                refine t_get (ci := 5) (v := .ref v_76) hB hT (ro_ci r_24 rfl) rfl 3 (by decide) k_207 e_v_76 dX5_runActs_215 ?_
                refine lv_aload_n hx hb dX5_runActs_218 rfl (lv_at hl 9 rfl) ?_
                obtain ⟨v_77, e_v_77⟩ := hI.f r_24 4
                refine t_get (ci := 5) (v := .int v_77) hB hT (ro_ci r_24 rfl) rfl 4 (by decide) k_210 e_v_77 dX5_runActs_219 ?_
                refine lv_sipush (v := 511) hx hb dX5_runActs_222 (by decide) ?_
                refine lv_iand hx hb dX5_runActs_225 ?_
                refine lv_topi (fun z_78 ez_78 => ?_)
                have e_z_78 := i_and 9 (b := 511) ez_78 (by decide) (by decide) (by decide)
                refine lv_iload hx hb dX5_runActs_226 (lv_at hl 2 rfl) ?_
                have i_79 : vp_in z_78 512 := (i_in (n := 512) rfl (by omega) (by omega))
                refine t_iast hB hT (ro_in r_v_76 (by decide)) n_v_76 i_79 dX5_runActs_228 (fun H locs hT => ?_)
                have hI : Inv fr (sC g_19 v_76 z_78.toNatClampNeg r_10) := hI.sC (ck r_v_76 trivial)
                have hM : Sm md_s_runActs2 g (sC g_19 v_76 z_78.toNatClampNeg r_10) := hM
                have hE : Ex g (sC g_19 v_76 z_78.toNatClampNeg r_10) := hE
                refine lv_aload_n hx hb dX5_runActs_229 rfl (lv_at hl 9 rfl) ?_
                refine lv_dup hx hb dX5_runActs_230 rfl ?_
                refine t_get (ci := 5) (v := .int v_77) hB hT (ro_ci r_24 rfl) rfl 4 (by decide) k_210 e_v_77 dX5_runActs_231 ?_
                refine lv_iconst (v := 1) hx hb dX5_runActs_234 (by decide) ?_
                refine lv_iadd hx hb dX5_runActs_235 ?_
                refine lv_topi (fun z_80 ez_80 => ?_)
                refine t_put0 (ci := 5) (v := .int z_80) hB hT (ro_ci r_24 rfl) (ro_n0 r_24 (by decide)) rfl 4 (by decide) k_210 (Or.inl rfl) rfl rfl dX5_runActs_236 (fun H locs hT => ?_)
                have hI : Inv fr (sF (sC g_19 v_76 z_78.toNatClampNeg r_10) h 4 (.int z_80)) := hI.sF (fk r_24 (⟨_, rfl⟩))
                have hM : Sm md_s_runActs2 g (sF (sC g_19 v_76 z_78.toNatClampNeg r_10) h 4 (.int z_80)) := hM.tr hE (Sm_sF (by rw [r_24]; rfl))
                have hE : Ex g (sF (sC g_19 v_76 z_78.toNatClampNeg r_10) h 4 (.int z_80)) := hE
                refine lv_goto (tgt := 282) hx hb dX5_runActs_239 (by decide) ?_
                obtain ⟨z_81, ez_81⟩ : ∃ z : Int32, z = i + 1 := ⟨_, rfl⟩
                have e_z_81 : z_81.toInt = i.toInt + 1 := i_add ez_81 rfl (by decide) (by omega) (by omega)
                refine lv_iinc (v := z_81) (lv' := [(9, .int z_81), (12, .int u_34), (11, .int u_32), (10, .int r_10), (8, .int po), (7, .int j), (6, .int pk), (5, .ref q2), (4, .ref q1), (0, .ref h), (1, .int n), (2, .int x1), (3, .int x2)]) hx hb dX5_runActs_282 hl (k := 3) rfl (by rw [ez_81]; rfl) (by decide) rfl (fun ls hl => ?_)
                refine lv_goto (tgt := 44) hx hb dX5_runActs_285 (by decide) ?_
                exact ih (kf - 1) (by omega) (sF (sC g_19 v_76 z_78.toNatClampNeg r_10) h 4 (.int z_80)) z_81 j pk po q1 q2 H locs ls hT hI hE hM (by omega) (by omega) (by omega) (by omega) (by omega) (by omega) r_25 r_26 (by have e0 := z0; omega) (lv_sub hl [0, 4, 5, 6, 7, 8, 9, 10, 11, 12] rfl)
            · have c_35' : u_32.toInt = 5 := i_eq c_35 rfl (by decide)
              refine lv_aload_n hx hb dX5_runActs_149 rfl (lv_at hl 9 rfl) ?_
              refine lv_iload_n hx hb dX5_runActs_150 rfl (lv_at hl 10 rfl) ?_
              refine lv_iload hx hb dX5_runActs_151 (lv_at hl 0 rfl) ?_
              refine t_callV (n := 2) (ci := 5) (As := [.int n, .int u_34]) (rest := []) hB hT hl.1 (s_canAsk l D cI cZ cS cR N0 fr g_19 hI h n u_34 r_24) (ro_ci r_24 rfl) rfl k_477 k_59 k_474 k_476 k_10 (by decide +kernel) ⟨(Nat.le_of_ble_eq_true rfl), (Nat.le_of_ble_eq_true rfl)⟩ rfl (Nat.le_of_ble_eq_true rfl) ⟨(Nat.le_of_ble_eq_true rfl), (Nat.le_of_ble_eq_true rfl)⟩ dX5_runActs_153 (fun v g_82 H locs hp hT => ?_)
              obtain ⟨r_83, rfl, hI, x_86, m_85, f_84⟩ := hp
              have r_87 : g_82.1 h = 6 := (Ex.r x_86 r_24 (by decide))
              have r_88 : g_82.1 q1 = 4 := (Ex.r x_86 r_25 (by decide))
              have r_89 : g_82.1 q2 = 3 := (Ex.r x_86 r_26 (by decide))
              have r_90 : g_82.1 v_31 = 20 := (Ex.r x_86 r_v_31 (by decide))
              have r_91 : g_82.1 v_33 = 21 := (Ex.r x_86 r_v_33 (by decide))
              have n_92 : g_82.2.2.1 v_31 = 8 := (Ex.n x_86 r_v_31 (by decide) n_v_31)
              have n_93 : g_82.2.2.1 v_33 = 8 := (Ex.n x_86 r_v_33 (by decide) n_v_33)
              have e_94 : g_82.2.1 q2 3 = .int v_1 := (Sm.v m_85 r_26 (by decide) rfl e_27)
              have e_95 : g_82.2.1 h 6 = .int v_6 := (Sm.v m_85 r_24 (by decide) rfl e_28)
              have e_96 : g_82.2.1 h 5 = .int z_8 := (Sm.v m_85 r_24 (by decide) rfl e_29)
              have e_97 : g_82.2.1 q2 0 = .ref v_31 := (Sm.v m_85 r_26 (by decide) rfl e_v_31)
              have e_98 : g_82.2.1 q2 1 = .ref v_33 := (Sm.v m_85 r_26 (by decide) rfl e_v_33)
              have hM : Sm md_s_runActs2 g g_82 := hM.tr hE (m_85.mo (fun r k h => mdle_s_runActs2_s_canAsk h))
              have hE : Ex g g_82 := hE.tr x_86
              refine W.eq (g2 := F0 m 156 ls [.int r_83]) rfl ?_
              rcases f_84 with ⟨rfl, hw_99, hw_100⟩ | rfl
              · refine W.eq (g2 := F0 m 156 ls [.int 1]) rfl ?_
                refine lv_if_eq (tgt := 207) hx hb dX5_runActs_156 (by decide) (fun c_ => absurd c_ (by decide)) (fun c_ => ?_)
                refine lv_iload hx hb dX5_runActs_159 (lv_at hl 6 rfl) ?_
                refine lv_if_eq (tgt := 179) hx hb dX5_runActs_161 (by decide) (fun c_101 => ?_) (fun c_101 => ?_)
                · have c_101' : pk.toInt = 0 := i_eq c_101 rfl (by decide)
                  refine lv_iconst (v := 0) hx hb dX5_runActs_179 (by decide) ?_
                  refine lv_istore (lv' := [(13, .int 0), (12, .int u_34), (11, .int u_32), (10, .int r_10), (9, .int i), (8, .int po), (7, .int j), (6, .int pk), (5, .ref q2), (4, .ref q1), (0, .ref h), (1, .int n), (2, .int x1), (3, .int x2)]) hx hb dX5_runActs_180 hl (by decide) rfl (fun ls hl => ?_)
                  refine lv_aload_n hx hb dX5_runActs_182 rfl (lv_at hl 10 rfl) ?_
                  refine lv_iload hx hb dX5_runActs_183 (lv_at hl 1 rfl) ?_
                  refine lv_iload hx hb dX5_runActs_185 (lv_at hl 3 rfl) ?_
                  refine lv_iload hx hb dX5_runActs_187 (lv_at hl 0 rfl) ?_
                  refine t_callV (n := 3) (ci := 5) (As := [.int u_34, .int r_10, .int 0]) (rest := []) hB hT hl.1 (s_serve1 l D cI cZ cS cR N0 fr g_82 hI h u_34 r_10 0 r_87 (by omega) (by omega)) (ro_ci r_87 rfl) rfl k_508 k_59 k_505 k_507 k_12 (by decide +kernel) ⟨(Nat.le_of_ble_eq_true rfl), (Nat.le_of_ble_eq_true rfl)⟩ rfl (Nat.le_of_ble_eq_true rfl) ⟨(Nat.le_of_ble_eq_true rfl), (Nat.le_of_ble_eq_true rfl)⟩ dX5_runActs_189 (fun v g_102 H locs hp hT => ?_)
                  obtain ⟨r_103, rfl, hI, x_105, m_104⟩ := hp
                  have r_106 : g_102.1 h = 6 := (Ex.r x_105 r_87 (by decide))
                  have r_107 : g_102.1 q1 = 4 := (Ex.r x_105 r_88 (by decide))
                  have r_108 : g_102.1 q2 = 3 := (Ex.r x_105 r_89 (by decide))
                  have r_109 : g_102.1 v_31 = 20 := (Ex.r x_105 r_90 (by decide))
                  have r_110 : g_102.1 v_33 = 21 := (Ex.r x_105 r_91 (by decide))
                  have n_111 : g_102.2.2.1 v_31 = 8 := (Ex.n x_105 r_90 (by decide) n_92)
                  have n_112 : g_102.2.2.1 v_33 = 8 := (Ex.n x_105 r_91 (by decide) n_93)
                  have e_113 : g_102.2.1 q2 3 = .int v_1 := (Sm.v m_104 r_89 (by decide) rfl e_94)
                  have e_114 : g_102.2.1 h 6 = .int v_6 := (Sm.v m_104 r_87 (by decide) rfl e_95)
                  have e_115 : g_102.2.1 q2 0 = .ref v_31 := (Sm.v m_104 r_89 (by decide) rfl e_97)
                  have e_116 : g_102.2.1 q2 1 = .ref v_33 := (Sm.v m_104 r_89 (by decide) rfl e_98)
                  have hM : Sm md_s_runActs2 g g_102 := hM.tr hE (m_104.mo (fun r k h => mdle_s_runActs2_s_serve1 h))
                  have hE : Ex g g_102 := hE.tr x_105
                  refine W.eq (g2 := F0 m 192 ls [.int r_103]) rfl ?_
                  refine lv_istore (lv' := [(7, .int r_103), (13, .int 0), (12, .int u_34), (11, .int u_32), (10, .int r_10), (9, .int i), (8, .int po), (6, .int pk), (5, .ref q2), (4, .ref q1), (0, .ref h), (1, .int n), (2, .int x1), (3, .int x2)]) hx hb dX5_runActs_192 hl (by decide) rfl (fun ls hl => ?_)
                  refine lv_aload_n hx hb dX5_runActs_194 rfl (lv_at hl 10 rfl) ?_
                  obtain ⟨v_117, e_v_117, l_v_117, u_v_117⟩ := hI.f r_106 7
                  refine t_get (ci := 5) (v := .int v_117) hB hT (ro_ci r_106 rfl) rfl 7 (by decide) k_216 e_v_117 dX5_runActs_195 ?_
                  refine lv_if_eq (tgt := 204) hx hb dX5_runActs_198 (by decide) (fun c_118 => ?_) (fun c_118 => ?_)
                  · have c_118' : v_117.toInt = 0 := i_eq c_118 rfl (by decide)
                    refine lv_goto (tgt := 282) hx hb dX5_runActs_204 (by decide) ?_
                    obtain ⟨z_119, ez_119⟩ : ∃ z : Int32, z = i + 1 := ⟨_, rfl⟩
                    have e_z_119 : z_119.toInt = i.toInt + 1 := i_add ez_119 rfl (by decide) (by omega) (by omega)
                    refine lv_iinc (v := z_119) (lv' := [(9, .int z_119), (7, .int r_103), (13, .int 0), (12, .int u_34), (11, .int u_32), (10, .int r_10), (8, .int po), (6, .int pk), (5, .ref q2), (4, .ref q1), (0, .ref h), (1, .int n), (2, .int x1), (3, .int x2)]) hx hb dX5_runActs_282 hl (k := 5) rfl (by rw [ez_119]; rfl) (by decide) rfl (fun ls hl => ?_)
                    refine lv_goto (tgt := 44) hx hb dX5_runActs_285 (by decide) ?_
                    exact ih (kf - 1) (by omega) g_102 z_119 r_103 pk po q1 q2 H locs ls hT hI hE hM (by omega) (by omega) (by omega) (by omega) (by omega) (by omega) r_107 r_108 (by have e0 := z0; omega) (lv_sub hl [0, 6, 1, 7, 8, 9, 10, 11, 12, 13] rfl)
                  · have c_118' : v_117.toInt ≠ 0 := i_ne c_118 rfl (by decide)
                    refine lv_bipush (v := (-2)) hx hb dX5_runActs_201 (by decide) ?_
                    exact t_iret hB hr hT (Nat.le_of_ble_eq_true rfl) (Nat.le_of_ble_eq_true rfl) dX5_runActs_203 ⟨(-2), rfl, hI, hE, hM⟩
                · have c_101' : pk.toInt ≠ 0 := i_ne c_101 rfl (by decide)
                  refine lv_iload_n hx hb dX5_runActs_164 rfl (lv_at hl 12 rfl) ?_
                  refine lv_bipush (v := 7) hx hb dX5_runActs_165 (by decide) ?_
                  refine lv_iload hx hb dX5_runActs_167 (lv_at hl 3 rfl) ?_
                  refine lv_imul hx hb dX5_runActs_169 ?_
                  refine lv_topi (fun z_120 ez_120 => ?_)
                  have e_z_120 : z_120.toInt = 7 * i.toInt := i_mul ez_120 (by decide) rfl (by omega) (by omega)
                  refine lv_iadd hx hb dX5_runActs_170 ?_
                  refine lv_topi (fun z_121 ez_121 => ?_)
                  refine lv_bipush (v := 99) hx hb dX5_runActs_171 (by decide) ?_
                  refine lv_irem hx hb dX5_runActs_173 (by decide) ?_
                  refine lv_topi (fun z_122 ez_122 => ?_)
                  refine lv_iconst (v := 1) hx hb dX5_runActs_174 (by decide) ?_
                  refine lv_iadd hx hb dX5_runActs_175 ?_
                  refine lv_topi (fun z_123 ez_123 => ?_)
                  refine lv_goto (tgt := 180) hx hb dX5_runActs_176 (by decide) ?_
                  refine lv_istore (lv' := [(13, .int z_123), (12, .int u_34), (11, .int u_32), (10, .int r_10), (9, .int i), (8, .int po), (7, .int j), (6, .int pk), (5, .ref q2), (4, .ref q1), (0, .ref h), (1, .int n), (2, .int x1), (3, .int x2)]) hx hb dX5_runActs_180 hl (by decide) rfl (fun ls hl => ?_)
                  refine lv_aload_n hx hb dX5_runActs_182 rfl (lv_at hl 10 rfl) ?_
                  refine lv_iload hx hb dX5_runActs_183 (lv_at hl 1 rfl) ?_
                  refine lv_iload hx hb dX5_runActs_185 (lv_at hl 3 rfl) ?_
                  refine lv_iload hx hb dX5_runActs_187 (lv_at hl 0 rfl) ?_
                  refine t_callV (n := 3) (ci := 5) (As := [.int u_34, .int r_10, .int z_123]) (rest := []) hB hT hl.1 (s_serve1 l D cI cZ cS cR N0 fr g_82 hI h u_34 r_10 z_123 r_87 (by omega) (by omega)) (ro_ci r_87 rfl) rfl k_508 k_59 k_505 k_507 k_12 (by decide +kernel) ⟨(Nat.le_of_ble_eq_true rfl), (Nat.le_of_ble_eq_true rfl)⟩ rfl (Nat.le_of_ble_eq_true rfl) ⟨(Nat.le_of_ble_eq_true rfl), (Nat.le_of_ble_eq_true rfl)⟩ dX5_runActs_189 (fun v g_124 H locs hp hT => ?_)
                  obtain ⟨r_125, rfl, hI, x_127, m_126⟩ := hp
                  have r_128 : g_124.1 h = 6 := (Ex.r x_127 r_87 (by decide))
                  have r_129 : g_124.1 q1 = 4 := (Ex.r x_127 r_88 (by decide))
                  have r_130 : g_124.1 q2 = 3 := (Ex.r x_127 r_89 (by decide))
                  have r_131 : g_124.1 v_31 = 20 := (Ex.r x_127 r_90 (by decide))
                  have r_132 : g_124.1 v_33 = 21 := (Ex.r x_127 r_91 (by decide))
                  have n_133 : g_124.2.2.1 v_31 = 8 := (Ex.n x_127 r_90 (by decide) n_92)
                  have n_134 : g_124.2.2.1 v_33 = 8 := (Ex.n x_127 r_91 (by decide) n_93)
                  have e_135 : g_124.2.1 q2 3 = .int v_1 := (Sm.v m_126 r_89 (by decide) rfl e_94)
                  have e_136 : g_124.2.1 h 6 = .int v_6 := (Sm.v m_126 r_87 (by decide) rfl e_95)
                  have e_137 : g_124.2.1 q2 0 = .ref v_31 := (Sm.v m_126 r_89 (by decide) rfl e_97)
                  have e_138 : g_124.2.1 q2 1 = .ref v_33 := (Sm.v m_126 r_89 (by decide) rfl e_98)
                  have hM : Sm md_s_runActs2 g g_124 := hM.tr hE (m_126.mo (fun r k h => mdle_s_runActs2_s_serve1 h))
                  have hE : Ex g g_124 := hE.tr x_127
                  refine W.eq (g2 := F0 m 192 ls [.int r_125]) rfl ?_
                  refine lv_istore (lv' := [(7, .int r_125), (13, .int z_123), (12, .int u_34), (11, .int u_32), (10, .int r_10), (9, .int i), (8, .int po), (6, .int pk), (5, .ref q2), (4, .ref q1), (0, .ref h), (1, .int n), (2, .int x1), (3, .int x2)]) hx hb dX5_runActs_192 hl (by decide) rfl (fun ls hl => ?_)
                  refine lv_aload_n hx hb dX5_runActs_194 rfl (lv_at hl 10 rfl) ?_
                  obtain ⟨v_139, e_v_139, l_v_139, u_v_139⟩ := hI.f r_128 7
                  refine t_get (ci := 5) (v := .int v_139) hB hT (ro_ci r_128 rfl) rfl 7 (by decide) k_216 e_v_139 dX5_runActs_195 ?_
                  refine lv_if_eq (tgt := 204) hx hb dX5_runActs_198 (by decide) (fun c_140 => ?_) (fun c_140 => ?_)
                  · have c_140' : v_139.toInt = 0 := i_eq c_140 rfl (by decide)
                    refine lv_goto (tgt := 282) hx hb dX5_runActs_204 (by decide) ?_
                    obtain ⟨z_141, ez_141⟩ : ∃ z : Int32, z = i + 1 := ⟨_, rfl⟩
                    have e_z_141 : z_141.toInt = i.toInt + 1 := i_add ez_141 rfl (by decide) (by omega) (by omega)
                    refine lv_iinc (v := z_141) (lv' := [(9, .int z_141), (7, .int r_125), (13, .int z_123), (12, .int u_34), (11, .int u_32), (10, .int r_10), (8, .int po), (6, .int pk), (5, .ref q2), (4, .ref q1), (0, .ref h), (1, .int n), (2, .int x1), (3, .int x2)]) hx hb dX5_runActs_282 hl (k := 5) rfl (by rw [ez_141]; rfl) (by decide) rfl (fun ls hl => ?_)
                    refine lv_goto (tgt := 44) hx hb dX5_runActs_285 (by decide) ?_
                    exact ih (kf - 1) (by omega) g_124 z_141 r_125 pk po q1 q2 H locs ls hT hI hE hM (by omega) (by omega) (by omega) (by omega) (by omega) (by omega) r_129 r_130 (by have e0 := z0; omega) (lv_sub hl [0, 6, 1, 7, 8, 9, 10, 11, 12, 13] rfl)
                  · have c_140' : v_139.toInt ≠ 0 := i_ne c_140 rfl (by decide)
                    refine lv_bipush (v := (-2)) hx hb dX5_runActs_201 (by decide) ?_
                    exact t_iret hB hr hT (Nat.le_of_ble_eq_true rfl) (Nat.le_of_ble_eq_true rfl) dX5_runActs_203 ⟨(-2), rfl, hI, hE, hM⟩
              · refine W.eq (g2 := F0 m 156 ls [.int 0]) rfl ?_
                refine lv_if_eq (tgt := 207) hx hb dX5_runActs_156 (by decide) (fun c_ => ?_) (fun c_ => absurd (by decide) c_)
                refine lv_iload hx hb dX5_runActs_207 (lv_at hl 1 rfl) ?_
                refine lv_bipush (v := 6) hx hb dX5_runActs_209 (by decide) ?_
                refine lv_icmp_ne (tgt := 242) hx hb dX5_runActs_211 (by decide) (fun c_142 => ?_) (fun c_142 => ?_)
                · have c_142' : u_32.toInt ≠ 6 := i_ne c_142 rfl (by decide)
                  refine lv_iload hx hb dX5_runActs_242 (lv_at hl 1 rfl) ?_
                  refine lv_bipush (v := 7) hx hb dX5_runActs_244 (by decide) ?_
                  refine lv_icmp_ne (tgt := 263) hx hb dX5_runActs_246 (by decide) (fun c_143 => ?_) (fun c_143 => ?_)
                  · have c_143' : u_32.toInt ≠ 7 := i_ne c_143 rfl (by decide)
                    refine lv_iload hx hb dX5_runActs_263 (lv_at hl 1 rfl) ?_
                    refine lv_iconst (v := 5) hx hb dX5_runActs_265 (by decide) ?_
                    refine lv_icmp_eq (tgt := 282) hx hb dX5_runActs_266 (by decide) (fun c_144 => ?_) (fun c_144 => ?_)
                    · have c_144' : u_32.toInt = 5 := i_eq c_144 rfl (by decide)
                      obtain ⟨z_145, ez_145⟩ : ∃ z : Int32, z = i + 1 := ⟨_, rfl⟩
                      have e_z_145 : z_145.toInt = i.toInt + 1 := i_add ez_145 rfl (by decide) (by omega) (by omega)
                      refine lv_iinc (v := z_145) (lv' := [(9, .int z_145), (12, .int u_34), (11, .int u_32), (10, .int r_10), (8, .int po), (7, .int j), (6, .int pk), (5, .ref q2), (4, .ref q1), (0, .ref h), (1, .int n), (2, .int x1), (3, .int x2)]) hx hb dX5_runActs_282 hl (k := 3) rfl (by rw [ez_145]; rfl) (by decide) rfl (fun ls hl => ?_)
                      refine lv_goto (tgt := 44) hx hb dX5_runActs_285 (by decide) ?_
                      exact ih (kf - 1) (by omega) g_82 z_145 j pk po q1 q2 H locs ls hT hI hE hM (by omega) (by omega) (by omega) (by omega) (by omega) (by omega) r_88 r_89 (by have e0 := z0; omega) (lv_sub hl [0, 4, 5, 6, 7, 8, 9, 10, 11, 12] rfl)
                    · have c_144' : u_32.toInt ≠ 5 := i_ne c_144 rfl (by decide)
                      exact absurd c_144' (by omega)
                  · have c_143' : u_32.toInt = 7 := i_eq c_143 rfl (by decide)
                    exact absurd c_143' (by omega)
                · have c_142' : u_32.toInt = 6 := i_eq c_142 rfl (by decide)
                  exact absurd c_142' (by omega)
        · have c_7' : v_6.toInt ≤ z_5.toInt := i_nlt c_7 rfl rfl
          refine lv_aload_n hx hb dX5_runActs_78 rfl (lv_at hl 6 rfl) ?_
          refine lv_iconst (v := 1) hx hb dX5_runActs_79 (by decide) ?_
          refine t_put0 (ci := 5) (v := .int 1) hB hT (ro_ci r1_h rfl) (ro_n0 r1_h (by decide)) rfl 7 (by decide) k_216 (Or.inl rfl) rfl rfl dX5_runActs_80 (fun H locs hT => ?_)
          have hI : Inv fr (sF g1 h 7 (.int 1)) := hI.sF (fk r1_h (⟨_, rfl, by decide, by decide⟩))
          have hM : Sm md_s_runActs2 g (sF g1 h 7 (.int 1)) := hM.tr hE (Sm_sF (by rw [r1_h]; rfl))
          have hE : Ex g (sF g1 h 7 (.int 1)) := hE
          refine lv_bipush (v := (-2)) hx hb dX5_runActs_83 (by decide) ?_
          exact t_iret hB hr hT (Nat.le_of_ble_eq_true rfl) (Nat.le_of_ble_eq_true rfl) dX5_runActs_85 ⟨(-2), rfl, hI, hE, hM⟩
      · have c_3' : po.toInt ≠ 0 := i_ne c_3 rfl (by decide)
        refine lv_iconst (v := 0) hx hb dX5_runActs_59 (by decide) ?_
        refine lv_istore (lv' := [(8, .int 0), (9, .int i), (7, .int j), (6, .int pk), (5, .ref q2), (4, .ref q1), (0, .ref h), (1, .int n), (2, .int x1), (3, .int x2)]) hx hb dX5_runActs_60 hl (by decide) rfl (fun ls hl => ?_)
        refine lv_goto (tgt := 282) hx hb dX5_runActs_62 (by decide) ?_
        obtain ⟨z_146, ez_146⟩ : ∃ z : Int32, z = i + 1 := ⟨_, rfl⟩
        have e_z_146 : z_146.toInt = i.toInt + 1 := i_add ez_146 rfl (by decide) (by omega) (by omega)
        refine lv_iinc (v := z_146) (lv' := [(9, .int z_146), (8, .int 0), (7, .int j), (6, .int pk), (5, .ref q2), (4, .ref q1), (0, .ref h), (1, .int n), (2, .int x1), (3, .int x2)]) hx hb dX5_runActs_282 hl (k := 1) rfl (by rw [ez_146]; rfl) (by decide) rfl (fun ls hl => ?_)
        refine lv_goto (tgt := 44) hx hb dX5_runActs_285 (by decide) ?_
        exact ih (kf - 1) (by omega) g1 z_146 j pk (0 : Int32) q1 q2 H locs ls hT hI hE hM (by omega) (by omega) (by omega) (by omega) (by decide) (by decide) r1_q1 r1_q2 (by have e0 := z0; omega) (lv_sub hl [0, 1, 2, 3, 4, 5, 6, 7, 8, 9] rfl)
theorem mdle_s_runActs2_s_isMended {r k : Nat} (h : md_s_runActs2 r k = false) : md_s_isMended r k = false := by
  first | rfl | (simp only [md_s_runActs2, md_s_isMended, Bool.or_eq_false_iff, Bool.and_eq_false_iff, beq_eq_false_iff_ne] at h ⊢; omega)
set_option maxHeartbeats 4000000 in
set_option maxRecDepth 100000 in
theorem s_runActs2 (l : Launch) (D : va_G) (cI cZ cS cR : ClassId) (N0 : NT) (fr : Int32) (g : GS) (hI : Inv fr g) (h : Nat) (n : Int32) (x1 : Int32) (x2 : Int32) (r_h : g.1 h = 6) (l_n : 3 ≤ n.toInt) (u_n : n.toInt ≤ 5) : Ty l D cI cZ cS cR N0 yX5_runActs cX5_runActs 14 (some .int) 5 0 0 [.ref h, .int n, .int x1, .int x2] g (fun v g' => ∃ (r : Int32), v = some (.int r) ∧ Inv fr g' ∧ Ex g g' ∧ Sm md_s_runActs2 g g') := by
  refine t_enter (by decide) (Nat.le_of_ble_eq_true rfl) ?_
  intro p e s m args below meth c ls H locs hB hr hin hl hT
  have hx := hB.1
  have hb := hB.2.1
  have hl : lv_has ls 14 [(0, .ref h), (1, .int n), (2, .int x1), (3, .int x2)] := hl
  have hE : Ex g g := Ex.rf
  have hM : Sm md_s_runActs2 g g := Sm.rf
  refine lv_aload_n hx hb dX5_runActs_0 rfl (lv_at hl 0 rfl) ?_
  obtain ⟨v_1, e_v_1, r_v_1, n_v_1⟩ := hI.f r_h 0
  refine t_get (ci := 5) (v := .ref v_1) hB hT (ro_ci r_h rfl) rfl 0 (by decide) k_199 e_v_1 dX5_runActs_1 ?_
  refine lv_iload_n hx hb dX5_runActs_4 rfl (lv_at hl 1 rfl) ?_
  have i_q_2 : vp_in n 6 := (i_in (n := 6) rfl (by omega) (by omega))
  obtain ⟨q_2, e_q_2, r_q_2⟩ := hI.q r_v_1 n_v_1 (i_cl i_q_2)
  refine t_aald hB hT (Or.inl r_v_1) n_v_1 i_q_2 e_q_2 dX5_runActs_5 ?_
  refine lv_astore (lv' := [(4, .ref q_2), (0, .ref h), (1, .int n), (2, .int x1), (3, .int x2)]) hx hb dX5_runActs_6 hl (by decide) rfl (fun ls hl => ?_)
  refine lv_aload hx hb dX5_runActs_8 (lv_at hl 0 rfl) ?_
  obtain ⟨v_3, e_v_3, r_v_3⟩ := hI.f r_q_2 0
  refine t_get (ci := 3) (v := .ref v_3) hB hT (ro_ci r_q_2 rfl) rfl 0 (by decide) k_145 e_v_3 dX5_runActs_10 ?_
  refine lv_astore (lv' := [(5, .ref v_3), (4, .ref q_2), (0, .ref h), (1, .int n), (2, .int x1), (3, .int x2)]) hx hb dX5_runActs_13 hl (by decide) rfl (fun ls hl => ?_)
  refine lv_iload_n hx hb dX5_runActs_15 rfl (lv_at hl 5 rfl) ?_
  refine lv_if_eq (tgt := 32) hx hb dX5_runActs_16 (by decide) (fun c_4 => ?_) (fun c_4 => ?_)
  · have c_4' : x2.toInt = 0 := i_eq c_4 rfl (by decide)
    refine lv_iconst (v := 0) hx hb dX5_runActs_32 (by decide) ?_
    refine lv_istore (lv' := [(6, .int 0), (5, .ref v_3), (4, .ref q_2), (0, .ref h), (1, .int n), (2, .int x1), (3, .int x2)]) hx hb dX5_runActs_33 hl (by decide) rfl (fun ls hl => ?_)
    refine lv_iconst (v := 0) hx hb dX5_runActs_35 (by decide) ?_
    refine lv_istore (lv' := [(7, .int 0), (6, .int 0), (5, .ref v_3), (4, .ref q_2), (0, .ref h), (1, .int n), (2, .int x1), (3, .int x2)]) hx hb dX5_runActs_36 hl (by decide) rfl (fun ls hl => ?_)
    refine lv_iconst (v := 0) hx hb dX5_runActs_38 (by decide) ?_
    refine lv_istore (lv' := [(8, .int 0), (7, .int 0), (6, .int 0), (5, .ref v_3), (4, .ref q_2), (0, .ref h), (1, .int n), (2, .int x1), (3, .int x2)]) hx hb dX5_runActs_39 hl (by decide) rfl (fun ls hl => ?_)
    refine lv_iconst (v := 0) hx hb dX5_runActs_41 (by decide) ?_
    refine lv_istore (lv' := [(9, .int 0), (8, .int 0), (7, .int 0), (6, .int 0), (5, .ref v_3), (4, .ref q_2), (0, .ref h), (1, .int n), (2, .int x1), (3, .int x2)]) hx hb dX5_runActs_42 hl (by decide) rfl (fun ls hl => ?_)
    exact lt_s_runActs2_a l D cI cZ cS cR N0 fr g h n x1 x2 r_h l_n u_n hB hr 8 g (0 : Int32) (0 : Int32) (0 : Int32) (0 : Int32) q_2 v_3 H locs ls hT hI hE hM (by decide) (by decide) (by decide) (by decide) (by decide) (by decide) r_q_2 r_v_3 (by have e0 := z0; omega) (lv_sub hl [0, 1, 2, 3, 4, 5, 6, 7, 8, 9] rfl)
  · have c_4' : x2.toInt ≠ 0 := i_ne c_4 rfl (by decide)
    refine lv_aload hx hb dX5_runActs_19 (lv_at hl 1 rfl) ?_
    refine lv_iconst (v := 2) hx hb dX5_runActs_21 (by decide) ?_
    refine t_callV (n := 1) (ci := 3) (As := [.int 2]) (rest := []) hB hT hl.1 (s_isMended l D cI cZ cS cR N0 fr g hI q_2 2 r_q_2) (ro_ci r_q_2 rfl) rfl k_512 k_60 k_509 k_510 k_511 (by decide +kernel) ⟨(Nat.le_of_ble_eq_true rfl), (Nat.le_of_ble_eq_true rfl)⟩ rfl (Nat.le_of_ble_eq_true rfl) ⟨(Nat.le_of_ble_eq_true rfl), (Nat.le_of_ble_eq_true rfl)⟩ dX5_runActs_22 (fun v g_5 H locs hp hT => ?_)
    obtain ⟨r_6, rfl, hI, x_9, m_8, f_7⟩ := hp
    have r_10 : g_5.1 h = 6 := (Ex.r x_9 r_h (by decide))
    have r_11 : g_5.1 v_1 = 41 := (Ex.r x_9 r_v_1 (by decide))
    have r_12 : g_5.1 q_2 = 4 := (Ex.r x_9 r_q_2 (by decide))
    have r_13 : g_5.1 v_3 = 3 := (Ex.r x_9 r_v_3 (by decide))
    have n_14 : g_5.2.2.1 v_1 = 6 := (Ex.n x_9 r_v_1 (by decide) n_v_1)
    have e_15 : g_5.2.1 h 0 = .ref v_1 := (Sm.v m_8 r_h (by decide) rfl e_v_1)
    have e_16 : g_5.2.1 q_2 0 = .ref v_3 := (Sm.v m_8 r_q_2 (by decide) rfl e_v_3)
    have hM : Sm md_s_runActs2 g g_5 := hM.tr hE (m_8.mo (fun r k h => mdle_s_runActs2_s_isMended h))
    have hE : Ex g g_5 := hE.tr x_9
    refine W.eq (g2 := F0 m 25 ls [.int r_6]) rfl ?_
    rcases f_7 with rfl | rfl
    · refine W.eq (g2 := F0 m 25 ls [.int 1]) rfl ?_
      refine lv_if_eq (tgt := 32) hx hb dX5_runActs_25 (by decide) (fun c_ => absurd c_ (by decide)) (fun c_ => ?_)
      refine lv_iconst (v := 1) hx hb dX5_runActs_28 (by decide) ?_
      refine lv_goto (tgt := 33) hx hb dX5_runActs_29 (by decide) ?_
      refine lv_istore (lv' := [(6, .int 1), (5, .ref v_3), (4, .ref q_2), (0, .ref h), (1, .int n), (2, .int x1), (3, .int x2)]) hx hb dX5_runActs_33 hl (by decide) rfl (fun ls hl => ?_)
      refine lv_iconst (v := 0) hx hb dX5_runActs_35 (by decide) ?_
      refine lv_istore (lv' := [(7, .int 0), (6, .int 1), (5, .ref v_3), (4, .ref q_2), (0, .ref h), (1, .int n), (2, .int x1), (3, .int x2)]) hx hb dX5_runActs_36 hl (by decide) rfl (fun ls hl => ?_)
      refine lv_iconst (v := 0) hx hb dX5_runActs_38 (by decide) ?_
      refine lv_istore (lv' := [(8, .int 0), (7, .int 0), (6, .int 1), (5, .ref v_3), (4, .ref q_2), (0, .ref h), (1, .int n), (2, .int x1), (3, .int x2)]) hx hb dX5_runActs_39 hl (by decide) rfl (fun ls hl => ?_)
      refine lv_iconst (v := 0) hx hb dX5_runActs_41 (by decide) ?_
      refine lv_istore (lv' := [(9, .int 0), (8, .int 0), (7, .int 0), (6, .int 1), (5, .ref v_3), (4, .ref q_2), (0, .ref h), (1, .int n), (2, .int x1), (3, .int x2)]) hx hb dX5_runActs_42 hl (by decide) rfl (fun ls hl => ?_)
      exact lt_s_runActs2_a l D cI cZ cS cR N0 fr g h n x1 x2 r_h l_n u_n hB hr 8 g_5 (0 : Int32) (0 : Int32) (1 : Int32) (0 : Int32) q_2 v_3 H locs ls hT hI hE hM (by decide) (by decide) (by decide) (by decide) (by decide) (by decide) r_12 r_13 (by have e0 := z0; omega) (lv_sub hl [0, 1, 2, 3, 4, 5, 6, 7, 8, 9] rfl)
    · refine W.eq (g2 := F0 m 25 ls [.int 0]) rfl ?_
      refine lv_if_eq (tgt := 32) hx hb dX5_runActs_25 (by decide) (fun c_ => ?_) (fun c_ => absurd (by decide) c_)
      refine lv_iconst (v := 0) hx hb dX5_runActs_32 (by decide) ?_
      refine lv_istore (lv' := [(6, .int 0), (5, .ref v_3), (4, .ref q_2), (0, .ref h), (1, .int n), (2, .int x1), (3, .int x2)]) hx hb dX5_runActs_33 hl (by decide) rfl (fun ls hl => ?_)
      refine lv_iconst (v := 0) hx hb dX5_runActs_35 (by decide) ?_
      refine lv_istore (lv' := [(7, .int 0), (6, .int 0), (5, .ref v_3), (4, .ref q_2), (0, .ref h), (1, .int n), (2, .int x1), (3, .int x2)]) hx hb dX5_runActs_36 hl (by decide) rfl (fun ls hl => ?_)
      refine lv_iconst (v := 0) hx hb dX5_runActs_38 (by decide) ?_
      refine lv_istore (lv' := [(8, .int 0), (7, .int 0), (6, .int 0), (5, .ref v_3), (4, .ref q_2), (0, .ref h), (1, .int n), (2, .int x1), (3, .int x2)]) hx hb dX5_runActs_39 hl (by decide) rfl (fun ls hl => ?_)
      refine lv_iconst (v := 0) hx hb dX5_runActs_41 (by decide) ?_
      refine lv_istore (lv' := [(9, .int 0), (8, .int 0), (7, .int 0), (6, .int 0), (5, .ref v_3), (4, .ref q_2), (0, .ref h), (1, .int n), (2, .int x1), (3, .int x2)]) hx hb dX5_runActs_42 hl (by decide) rfl (fun ls hl => ?_)
      exact lt_s_runActs2_a l D cI cZ cS cR N0 fr g h n x1 x2 r_h l_n u_n hB hr 8 g_5 (0 : Int32) (0 : Int32) (0 : Int32) (0 : Int32) q_2 v_3 H locs ls hT hI hE hM (by decide) (by decide) (by decide) (by decide) (by decide) (by decide) r_12 r_13 (by have e0 := z0; omega) (lv_sub hl [0, 1, 2, 3, 4, 5, 6, 7, 8, 9] rfl)
def md_s_serve2 : Nat → Nat → Bool := fun r k => (r == 4 && k == 0) || (r == 4 && k == 2) || (r == 4 && k == 3) || (r == 4 && k == 4) || (r == 4 && k == 5) || (r == 4 && k == 10) || (r == 4 && k == 11) || (r == 4 && k == 14) || (r == 6 && k == 4) || (r == 6 && k == 5) || (r == 6 && k == 7)
theorem mdle_s_serve2_s_answerNewest {r k : Nat} (h : md_s_serve2 r k = false) : md_s_answerNewest r k = false := by
  first | rfl | (simp only [md_s_serve2, md_s_answerNewest, Bool.or_eq_false_iff, Bool.and_eq_false_iff, beq_eq_false_iff_ne] at h ⊢; omega)
theorem mdle_s_serve2_s_beginKnown {r k : Nat} (h : md_s_serve2 r k = false) : md_s_beginKnown r k = false := by
  first | rfl | (simp only [md_s_serve2, md_s_beginKnown, Bool.or_eq_false_iff, Bool.and_eq_false_iff, beq_eq_false_iff_ne] at h ⊢; omega)
theorem mdle_s_serve2_s_isMended {r k : Nat} (h : md_s_serve2 r k = false) : md_s_isMended r k = false := by
  first | rfl | (simp only [md_s_serve2, md_s_isMended, Bool.or_eq_false_iff, Bool.and_eq_false_iff, beq_eq_false_iff_ne] at h ⊢; omega)
theorem mdle_s_serve2_s_keep {r k : Nat} (h : md_s_serve2 r k = false) : md_s_keep r k = false := by
  first | rfl | (simp only [md_s_serve2, md_s_keep, Bool.or_eq_false_iff, Bool.and_eq_false_iff, beq_eq_false_iff_ne] at h ⊢; omega)
theorem mdle_s_serve2_s_keptAnswer {r k : Nat} (h : md_s_serve2 r k = false) : md_s_keptAnswer r k = false := by
  first | rfl | (simp only [md_s_serve2, md_s_keptAnswer, Bool.or_eq_false_iff, Bool.and_eq_false_iff, beq_eq_false_iff_ne] at h ⊢; omega)
theorem mdle_s_serve2_s_placeOfKey {r k : Nat} (h : md_s_serve2 r k = false) : md_s_placeOfKey r k = false := by
  first | rfl | (simp only [md_s_serve2, md_s_placeOfKey, Bool.or_eq_false_iff, Bool.and_eq_false_iff, beq_eq_false_iff_ne] at h ⊢; omega)
theorem mdle_s_serve2_s_runActs2 {r k : Nat} (h : md_s_serve2 r k = false) : md_s_runActs2 r k = false := by
  first | rfl | (simp only [md_s_serve2, md_s_runActs2, Bool.or_eq_false_iff, Bool.and_eq_false_iff, beq_eq_false_iff_ne] at h ⊢; omega)
set_option maxHeartbeats 4000000 in
set_option maxRecDepth 100000 in
theorem s_serve2 (l : Launch) (D : va_G) (cI cZ cS cR : ClassId) (N0 : NT) (fr : Int32) (g : GS) (hI : Inv fr g) (h : Nat) (n : Int32) (x1 : Int32) (x2 : Int32) (r_h : g.1 h = 6) (l_n : 3 ≤ n.toInt) (u_n : n.toInt ≤ 5) : Ty l D cI cZ cS cR N0 yX5_serve cX5_serve 9 (some .int) 6 0 0 [.ref h, .int n, .int x1, .int x2] g (fun v g' => ∃ (r : Int32), v = some (.int r) ∧ Inv fr g' ∧ Ex g g' ∧ Sm md_s_serve2 g g') := by
  refine t_enter (by decide) (Nat.le_of_ble_eq_true rfl) ?_
  intro p e s m args below meth c ls H locs hB hr hin hl hT
  have hx := hB.1
  have hb := hB.2.1
  have hl : lv_has ls 9 [(0, .ref h), (1, .int n), (2, .int x1), (3, .int x2)] := hl
  have hE : Ex g g := Ex.rf
  have hM : Sm md_s_serve2 g g := Sm.rf
  refine lv_aload_n hx hb dX5_serve_0 rfl (lv_at hl 0 rfl) ?_
  obtain ⟨v_1, e_v_1, r_v_1, n_v_1⟩ := hI.f r_h 0
  refine t_get (ci := 5) (v := .ref v_1) hB hT (ro_ci r_h rfl) rfl 0 (by decide) k_199 e_v_1 dX5_serve_1 ?_
  refine lv_iload_n hx hb dX5_serve_4 rfl (lv_at hl 1 rfl) ?_
  have i_q_2 : vp_in n 6 := (i_in (n := 6) rfl (by omega) (by omega))
  obtain ⟨q_2, e_q_2, r_q_2⟩ := hI.q r_v_1 n_v_1 (i_cl i_q_2)
  refine t_aald hB hT (Or.inl r_v_1) n_v_1 i_q_2 e_q_2 dX5_serve_5 ?_
  refine lv_astore (lv' := [(4, .ref q_2), (0, .ref h), (1, .int n), (2, .int x1), (3, .int x2)]) hx hb dX5_serve_6 hl (by decide) rfl (fun ls hl => ?_)
  refine lv_iload_n hx hb dX5_serve_8 rfl (lv_at hl 4 rfl) ?_
  refine lv_if_eq (tgt := 25) hx hb dX5_serve_9 (by decide) (fun c_3 => ?_) (fun c_3 => ?_)
  · have c_3' : x2.toInt = 0 := i_eq c_3 rfl (by decide)
    refine lv_iconst (v := 0) hx hb dX5_serve_25 (by decide) ?_
    refine lv_istore (lv' := [(5, .int 0), (4, .ref q_2), (0, .ref h), (1, .int n), (2, .int x1), (3, .int x2)]) hx hb dX5_serve_26 hl (by decide) rfl (fun ls hl => ?_)
    refine lv_iload hx hb dX5_serve_28 (lv_at hl 0 rfl) ?_
    refine lv_if_eq (tgt := 46) hx hb dX5_serve_30 (by decide) (fun c_ => ?_) (fun c_ => absurd (by decide) c_)
    refine lv_iconst (v := 0) hx hb dX5_serve_46 (by decide) ?_
    refine lv_istore (lv' := [(6, .int 0), (5, .int 0), (4, .ref q_2), (0, .ref h), (1, .int n), (2, .int x1), (3, .int x2)]) hx hb dX5_serve_47 hl (by decide) rfl (fun ls hl => ?_)
    refine lv_iload hx hb dX5_serve_49 (lv_at hl 1 rfl) ?_
    refine lv_if_eq (tgt := 63) hx hb dX5_serve_51 (by decide) (fun c_ => ?_) (fun c_ => absurd (by decide) c_)
    refine lv_iconst (v := (-1)) hx hb dX5_serve_63 (by decide) ?_
    refine lv_istore (lv' := [(7, .int (-1)), (6, .int 0), (5, .int 0), (4, .ref q_2), (0, .ref h), (1, .int n), (2, .int x1), (3, .int x2)]) hx hb dX5_serve_64 hl (by decide) rfl (fun ls hl => ?_)
    refine lv_iload hx hb dX5_serve_66 (lv_at hl 0 rfl) ?_
    refine lv_iconst (v := (-1)) hx hb dX5_serve_68 (by decide) ?_
    refine lv_icmp_eq (tgt := 81) hx hb dX5_serve_69 (by decide) (fun c_ => ?_) (fun c_ => absurd (by decide) c_)
    refine lv_iload hx hb dX5_serve_81 (lv_at hl 1 rfl) ?_
    refine lv_if_eq (tgt := 98) hx hb dX5_serve_83 (by decide) (fun c_ => ?_) (fun c_ => absurd (by decide) c_)
    refine lv_aload hx hb dX5_serve_98 (lv_at hl 3 rfl) ?_
    refine lv_iload_n hx hb dX5_serve_100 rfl (lv_at hl 6 rfl) ?_
    refine lv_iload_n hx hb dX5_serve_101 rfl (lv_at hl 7 rfl) ?_
    refine t_callV (n := 2) (ci := 3) (As := [.int x1, .int x2]) (rest := []) hB hT hl.1 (s_beginKnown l D cI cZ cS cR N0 fr g hI q_2 x1 x2 r_q_2) (ro_ci r_q_2 rfl) rfl k_529 k_60 k_526 k_527 k_528 (by decide +kernel) ⟨(Nat.le_of_ble_eq_true rfl), (Nat.le_of_ble_eq_true rfl)⟩ rfl (Nat.le_of_ble_eq_true rfl) ⟨(Nat.le_of_ble_eq_true rfl), (Nat.le_of_ble_eq_true rfl)⟩ dX5_serve_102 (fun v g_4 H locs hp hT => ?_)
    obtain ⟨rfl, hI, x_6, m_5⟩ := hp
    have r_7 : g_4.1 h = 6 := (Ex.r x_6 r_h (by decide))
    have r_8 : g_4.1 v_1 = 41 := (Ex.r x_6 r_v_1 (by decide))
    have r_9 : g_4.1 q_2 = 4 := (Ex.r x_6 r_q_2 (by decide))
    have n_10 : g_4.2.2.1 v_1 = 6 := (Ex.n x_6 r_v_1 (by decide) n_v_1)
    have e_11 : g_4.2.1 h 0 = .ref v_1 := (Sm.v m_5 r_h (by decide) rfl e_v_1)
    have hM : Sm md_s_serve2 g g_4 := hM.tr hE (m_5.mo (fun r k h => mdle_s_serve2_s_beginKnown h))
    have hE : Ex g g_4 := hE.tr x_6
    refine W.eq (g2 := F0 m 105 ls []) rfl ?_
    refine lv_aload_n hx hb dX5_serve_105 rfl (lv_at hl 4 rfl) ?_
    refine lv_iload_n hx hb dX5_serve_106 rfl (lv_at hl 5 rfl) ?_
    refine lv_iload_n hx hb dX5_serve_107 rfl (lv_at hl 6 rfl) ?_
    refine lv_iload_n hx hb dX5_serve_108 rfl (lv_at hl 7 rfl) ?_
    refine t_callV (n := 3) (ci := 5) (As := [.int n, .int x1, .int x2]) (rest := []) hB hT hl.1 (s_runActs2 l D cI cZ cS cR N0 fr g_4 hI h n x1 x2 r_7 (by omega) (by omega)) (ro_ci r_7 rfl) rfl k_534 k_59 k_531 k_533 k_13 (by decide +kernel) ⟨(Nat.le_of_ble_eq_true rfl), (Nat.le_of_ble_eq_true rfl)⟩ rfl (Nat.le_of_ble_eq_true rfl) ⟨(Nat.le_of_ble_eq_true rfl), (Nat.le_of_ble_eq_true rfl)⟩ dX5_serve_109 (fun v g_12 H locs hp hT => ?_)
    obtain ⟨r_13, rfl, hI, x_15, m_14⟩ := hp
    have r_16 : g_12.1 h = 6 := (Ex.r x_15 r_7 (by decide))
    have r_17 : g_12.1 v_1 = 41 := (Ex.r x_15 r_8 (by decide))
    have r_18 : g_12.1 q_2 = 4 := (Ex.r x_15 r_9 (by decide))
    have n_19 : g_12.2.2.1 v_1 = 6 := (Ex.n x_15 r_8 (by decide) n_10)
    have e_20 : g_12.2.1 h 0 = .ref v_1 := (Sm.v m_14 r_7 (by decide) rfl e_11)
    have hM : Sm md_s_serve2 g g_12 := hM.tr hE (m_14.mo (fun r k h => mdle_s_serve2_s_runActs2 h))
    have hE : Ex g g_12 := hE.tr x_15
    refine W.eq (g2 := F0 m 112 ls [.int r_13]) rfl ?_
    refine lv_istore (lv' := [(8, .int r_13), (7, .int (-1)), (6, .int 0), (5, .int 0), (4, .ref q_2), (0, .ref h), (1, .int n), (2, .int x1), (3, .int x2)]) hx hb dX5_serve_112 hl (by decide) rfl (fun ls hl => ?_)
    refine lv_aload_n hx hb dX5_serve_114 rfl (lv_at hl 5 rfl) ?_
    obtain ⟨v_21, e_v_21, l_v_21, u_v_21⟩ := hI.f r_16 7
    refine t_get (ci := 5) (v := .int v_21) hB hT (ro_ci r_16 rfl) rfl 7 (by decide) k_216 e_v_21 dX5_serve_115 ?_
    refine lv_if_eq (tgt := 124) hx hb dX5_serve_118 (by decide) (fun c_22 => ?_) (fun c_22 => ?_)
    · have c_22' : v_21.toInt = 0 := i_eq c_22 rfl (by decide)
      refine lv_iload hx hb dX5_serve_124 (lv_at hl 2 rfl) ?_
      refine lv_if_eq (tgt := 140) hx hb dX5_serve_126 (by decide) (fun c_ => ?_) (fun c_ => absurd (by decide) c_)
      refine lv_iload hx hb dX5_serve_140 (lv_at hl 3 rfl) ?_
      refine lv_if_eq (tgt := 158) hx hb dX5_serve_142 (by decide) (fun c_ => ?_) (fun c_ => absurd (by decide) c_)
      refine lv_iload hx hb dX5_serve_158 (lv_at hl 0 rfl) ?_
      exact t_iret hB hr hT (Nat.le_of_ble_eq_true rfl) (Nat.le_of_ble_eq_true rfl) dX5_serve_160 ⟨r_13, rfl, hI, hE, hM⟩
    · have c_22' : v_21.toInt ≠ 0 := i_ne c_22 rfl (by decide)
      refine lv_bipush (v := (-2)) hx hb dX5_serve_121 (by decide) ?_
      exact t_iret hB hr hT (Nat.le_of_ble_eq_true rfl) (Nat.le_of_ble_eq_true rfl) dX5_serve_123 ⟨(-2), rfl, hI, hE, hM⟩
  · have c_3' : x2.toInt ≠ 0 := i_ne c_3 rfl (by decide)
    refine lv_aload hx hb dX5_serve_12 (lv_at hl 0 rfl) ?_
    refine lv_iconst (v := 0) hx hb dX5_serve_14 (by decide) ?_
    refine t_callV (n := 1) (ci := 3) (As := [.int 0]) (rest := []) hB hT hl.1 (s_isMended l D cI cZ cS cR N0 fr g hI q_2 0 r_q_2) (ro_ci r_q_2 rfl) rfl k_512 k_60 k_509 k_510 k_511 (by decide +kernel) ⟨(Nat.le_of_ble_eq_true rfl), (Nat.le_of_ble_eq_true rfl)⟩ rfl (Nat.le_of_ble_eq_true rfl) ⟨(Nat.le_of_ble_eq_true rfl), (Nat.le_of_ble_eq_true rfl)⟩ dX5_serve_15 (fun v g_23 H locs hp hT => ?_)
    obtain ⟨r_24, rfl, hI, x_27, m_26, f_25⟩ := hp
    have r_28 : g_23.1 h = 6 := (Ex.r x_27 r_h (by decide))
    have r_29 : g_23.1 v_1 = 41 := (Ex.r x_27 r_v_1 (by decide))
    have r_30 : g_23.1 q_2 = 4 := (Ex.r x_27 r_q_2 (by decide))
    have n_31 : g_23.2.2.1 v_1 = 6 := (Ex.n x_27 r_v_1 (by decide) n_v_1)
    have e_32 : g_23.2.1 h 0 = .ref v_1 := (Sm.v m_26 r_h (by decide) rfl e_v_1)
    have hM : Sm md_s_serve2 g g_23 := hM.tr hE (m_26.mo (fun r k h => mdle_s_serve2_s_isMended h))
    have hE : Ex g g_23 := hE.tr x_27
    refine W.eq (g2 := F0 m 18 ls [.int r_24]) rfl ?_
    rcases f_25 with rfl | rfl
    · refine W.eq (g2 := F0 m 18 ls [.int 1]) rfl ?_
      refine lv_if_eq (tgt := 25) hx hb dX5_serve_18 (by decide) (fun c_ => absurd c_ (by decide)) (fun c_ => ?_)
      refine lv_iconst (v := 1) hx hb dX5_serve_21 (by decide) ?_
      refine lv_goto (tgt := 26) hx hb dX5_serve_22 (by decide) ?_
      refine lv_istore (lv' := [(5, .int 1), (4, .ref q_2), (0, .ref h), (1, .int n), (2, .int x1), (3, .int x2)]) hx hb dX5_serve_26 hl (by decide) rfl (fun ls hl => ?_)
      refine lv_iload hx hb dX5_serve_28 (lv_at hl 0 rfl) ?_
      refine lv_if_eq (tgt := 46) hx hb dX5_serve_30 (by decide) (fun c_ => absurd c_ (by decide)) (fun c_ => ?_)
      refine lv_aload hx hb dX5_serve_33 (lv_at hl 1 rfl) ?_
      refine lv_iconst (v := 1) hx hb dX5_serve_35 (by decide) ?_
      refine t_callV (n := 1) (ci := 3) (As := [.int 1]) (rest := []) hB hT hl.1 (s_isMended l D cI cZ cS cR N0 fr g_23 hI q_2 1 r_30) (ro_ci r_30 rfl) rfl k_512 k_60 k_509 k_510 k_511 (by decide +kernel) ⟨(Nat.le_of_ble_eq_true rfl), (Nat.le_of_ble_eq_true rfl)⟩ rfl (Nat.le_of_ble_eq_true rfl) ⟨(Nat.le_of_ble_eq_true rfl), (Nat.le_of_ble_eq_true rfl)⟩ dX5_serve_36 (fun v g_33 H locs hp hT => ?_)
      obtain ⟨r_34, rfl, hI, x_37, m_36, f_35⟩ := hp
      have r_38 : g_33.1 h = 6 := (Ex.r x_37 r_28 (by decide))
      have r_39 : g_33.1 v_1 = 41 := (Ex.r x_37 r_29 (by decide))
      have r_40 : g_33.1 q_2 = 4 := (Ex.r x_37 r_30 (by decide))
      have n_41 : g_33.2.2.1 v_1 = 6 := (Ex.n x_37 r_29 (by decide) n_31)
      have e_42 : g_33.2.1 h 0 = .ref v_1 := (Sm.v m_36 r_28 (by decide) rfl e_32)
      have hM : Sm md_s_serve2 g g_33 := hM.tr hE (m_36.mo (fun r k h => mdle_s_serve2_s_isMended h))
      have hE : Ex g g_33 := hE.tr x_37
      refine W.eq (g2 := F0 m 39 ls [.int r_34]) rfl ?_
      rcases f_35 with rfl | rfl
      · refine W.eq (g2 := F0 m 39 ls [.int 1]) rfl ?_
        refine lv_if_eq (tgt := 46) hx hb dX5_serve_39 (by decide) (fun c_ => absurd c_ (by decide)) (fun c_ => ?_)
        refine lv_iconst (v := 1) hx hb dX5_serve_42 (by decide) ?_
        refine lv_goto (tgt := 47) hx hb dX5_serve_43 (by decide) ?_
        refine lv_istore (lv' := [(6, .int 1), (5, .int 1), (4, .ref q_2), (0, .ref h), (1, .int n), (2, .int x1), (3, .int x2)]) hx hb dX5_serve_47 hl (by decide) rfl (fun ls hl => ?_)
        refine lv_iload hx hb dX5_serve_49 (lv_at hl 1 rfl) ?_
        refine lv_if_eq (tgt := 63) hx hb dX5_serve_51 (by decide) (fun c_ => absurd c_ (by decide)) (fun c_ => ?_)
        refine lv_aload hx hb dX5_serve_54 (lv_at hl 2 rfl) ?_
        refine lv_iload_n hx hb dX5_serve_56 rfl (lv_at hl 6 rfl) ?_
        refine t_callV (n := 1) (ci := 3) (As := [.int x2]) (rest := []) hB hT hl.1 (s_placeOfKey l D cI cZ cS cR N0 fr g_33 hI q_2 x2 r_40) (ro_ci r_40 rfl) rfl k_516 k_60 k_513 k_514 k_515 (by decide +kernel) ⟨(Nat.le_of_ble_eq_true rfl), (Nat.le_of_ble_eq_true rfl)⟩ rfl (Nat.le_of_ble_eq_true rfl) ⟨(Nat.le_of_ble_eq_true rfl), (Nat.le_of_ble_eq_true rfl)⟩ dX5_serve_57 (fun v g_43 H locs hp hT => ?_)
        obtain ⟨r_44, rfl, hI, x_47, m_46, f_45⟩ := hp
        have r_48 : g_43.1 h = 6 := (Ex.r x_47 r_38 (by decide))
        have r_49 : g_43.1 v_1 = 41 := (Ex.r x_47 r_39 (by decide))
        have r_50 : g_43.1 q_2 = 4 := (Ex.r x_47 r_40 (by decide))
        have n_51 : g_43.2.2.1 v_1 = 6 := (Ex.n x_47 r_39 (by decide) n_41)
        have e_52 : g_43.2.1 h 0 = .ref v_1 := (Sm.v m_46 r_38 (by decide) rfl e_42)
        have hM : Sm md_s_serve2 g g_43 := hM.tr hE (m_46.mo (fun r k h => mdle_s_serve2_s_placeOfKey h))
        have hE : Ex g g_43 := hE.tr x_47
        refine W.eq (g2 := F0 m 60 ls [.int r_44]) rfl ?_
        rcases f_45 with rfl | ⟨hw_53, hw_54⟩
        · refine W.eq (g2 := F0 m 60 ls [.int (-1)]) rfl ?_
          refine lv_goto (tgt := 64) hx hb dX5_serve_60 (by decide) ?_
          refine lv_istore (lv' := [(7, .int (-1)), (6, .int 1), (5, .int 1), (4, .ref q_2), (0, .ref h), (1, .int n), (2, .int x1), (3, .int x2)]) hx hb dX5_serve_64 hl (by decide) rfl (fun ls hl => ?_)
          refine lv_iload hx hb dX5_serve_66 (lv_at hl 0 rfl) ?_
          refine lv_iconst (v := (-1)) hx hb dX5_serve_68 (by decide) ?_
          refine lv_icmp_eq (tgt := 81) hx hb dX5_serve_69 (by decide) (fun c_ => ?_) (fun c_ => absurd (by decide) c_)
          refine lv_iload hx hb dX5_serve_81 (lv_at hl 1 rfl) ?_
          refine lv_if_eq (tgt := 98) hx hb dX5_serve_83 (by decide) (fun c_ => absurd c_ (by decide)) (fun c_ => ?_)
          refine lv_aload hx hb dX5_serve_86 (lv_at hl 3 rfl) ?_
          refine lv_iload_n hx hb dX5_serve_88 rfl (lv_at hl 7 rfl) ?_
          refine lv_iload_n hx hb dX5_serve_89 rfl (lv_at hl 6 rfl) ?_
          refine lv_iconst (v := 0) hx hb dX5_serve_90 (by decide) ?_
          refine lv_aload_n hx hb dX5_serve_91 rfl (lv_at hl 4 rfl) ?_
          obtain ⟨v_55, e_v_55⟩ := hI.f r_48 2
          refine t_get (ci := 5) (v := .int v_55) hB hT (ro_ci r_48 rfl) rfl 2 (by decide) k_205 e_v_55 dX5_serve_92 ?_
          refine t_callV (n := 4) (ci := 3) (As := [.int x2, .int x1, .int 0, .int v_55]) (rest := []) hB hT hl.1 (s_keep l D cI cZ cS cR N0 fr g_43 hI q_2 x2 x1 0 v_55 r_50) (ro_ci r_50 rfl) rfl k_524 k_60 k_521 k_522 k_523 (by decide +kernel) ⟨(Nat.le_of_ble_eq_true rfl), (Nat.le_of_ble_eq_true rfl)⟩ rfl (Nat.le_of_ble_eq_true rfl) ⟨(Nat.le_of_ble_eq_true rfl), (Nat.le_of_ble_eq_true rfl)⟩ dX5_serve_95 (fun v g_56 H locs hp hT => ?_)
          obtain ⟨rfl, hI, x_58, m_57⟩ := hp
          have r_59 : g_56.1 h = 6 := (Ex.r x_58 r_48 (by decide))
          have r_60 : g_56.1 v_1 = 41 := (Ex.r x_58 r_49 (by decide))
          have r_61 : g_56.1 q_2 = 4 := (Ex.r x_58 r_50 (by decide))
          have n_62 : g_56.2.2.1 v_1 = 6 := (Ex.n x_58 r_49 (by decide) n_51)
          have e_63 : g_56.2.1 h 0 = .ref v_1 := (Sm.v m_57 r_48 (by decide) rfl e_52)
          have e_64 : g_56.2.1 h 2 = .int v_55 := (Sm.v m_57 r_48 (by decide) rfl e_v_55)
          have hM : Sm md_s_serve2 g g_56 := hM.tr hE (m_57.mo (fun r k h => mdle_s_serve2_s_keep h))
          have hE : Ex g g_56 := hE.tr x_58
          refine W.eq (g2 := F0 m 98 ls []) rfl ?_
          refine lv_aload hx hb dX5_serve_98 (lv_at hl 3 rfl) ?_
          refine lv_iload_n hx hb dX5_serve_100 rfl (lv_at hl 6 rfl) ?_
          refine lv_iload_n hx hb dX5_serve_101 rfl (lv_at hl 7 rfl) ?_
          refine t_callV (n := 2) (ci := 3) (As := [.int x1, .int x2]) (rest := []) hB hT hl.1 (s_beginKnown l D cI cZ cS cR N0 fr g_56 hI q_2 x1 x2 r_61) (ro_ci r_61 rfl) rfl k_529 k_60 k_526 k_527 k_528 (by decide +kernel) ⟨(Nat.le_of_ble_eq_true rfl), (Nat.le_of_ble_eq_true rfl)⟩ rfl (Nat.le_of_ble_eq_true rfl) ⟨(Nat.le_of_ble_eq_true rfl), (Nat.le_of_ble_eq_true rfl)⟩ dX5_serve_102 (fun v g_65 H locs hp hT => ?_)
          obtain ⟨rfl, hI, x_67, m_66⟩ := hp
          have r_68 : g_65.1 h = 6 := (Ex.r x_67 r_59 (by decide))
          have r_69 : g_65.1 v_1 = 41 := (Ex.r x_67 r_60 (by decide))
          have r_70 : g_65.1 q_2 = 4 := (Ex.r x_67 r_61 (by decide))
          have n_71 : g_65.2.2.1 v_1 = 6 := (Ex.n x_67 r_60 (by decide) n_62)
          have e_72 : g_65.2.1 h 0 = .ref v_1 := (Sm.v m_66 r_59 (by decide) rfl e_63)
          have e_73 : g_65.2.1 h 2 = .int v_55 := (Sm.v m_66 r_59 (by decide) rfl e_64)
          have hM : Sm md_s_serve2 g g_65 := hM.tr hE (m_66.mo (fun r k h => mdle_s_serve2_s_beginKnown h))
          have hE : Ex g g_65 := hE.tr x_67
          refine W.eq (g2 := F0 m 105 ls []) rfl ?_
          refine lv_aload_n hx hb dX5_serve_105 rfl (lv_at hl 4 rfl) ?_
          refine lv_iload_n hx hb dX5_serve_106 rfl (lv_at hl 5 rfl) ?_
          refine lv_iload_n hx hb dX5_serve_107 rfl (lv_at hl 6 rfl) ?_
          refine lv_iload_n hx hb dX5_serve_108 rfl (lv_at hl 7 rfl) ?_
          refine t_callV (n := 3) (ci := 5) (As := [.int n, .int x1, .int x2]) (rest := []) hB hT hl.1 (s_runActs2 l D cI cZ cS cR N0 fr g_65 hI h n x1 x2 r_68 (by omega) (by omega)) (ro_ci r_68 rfl) rfl k_534 k_59 k_531 k_533 k_13 (by decide +kernel) ⟨(Nat.le_of_ble_eq_true rfl), (Nat.le_of_ble_eq_true rfl)⟩ rfl (Nat.le_of_ble_eq_true rfl) ⟨(Nat.le_of_ble_eq_true rfl), (Nat.le_of_ble_eq_true rfl)⟩ dX5_serve_109 (fun v g_74 H locs hp hT => ?_)
          obtain ⟨r_75, rfl, hI, x_77, m_76⟩ := hp
          have r_78 : g_74.1 h = 6 := (Ex.r x_77 r_68 (by decide))
          have r_79 : g_74.1 v_1 = 41 := (Ex.r x_77 r_69 (by decide))
          have r_80 : g_74.1 q_2 = 4 := (Ex.r x_77 r_70 (by decide))
          have n_81 : g_74.2.2.1 v_1 = 6 := (Ex.n x_77 r_69 (by decide) n_71)
          have e_82 : g_74.2.1 h 0 = .ref v_1 := (Sm.v m_76 r_68 (by decide) rfl e_72)
          have e_83 : g_74.2.1 h 2 = .int v_55 := (Sm.v m_76 r_68 (by decide) rfl e_73)
          have hM : Sm md_s_serve2 g g_74 := hM.tr hE (m_76.mo (fun r k h => mdle_s_serve2_s_runActs2 h))
          have hE : Ex g g_74 := hE.tr x_77
          refine W.eq (g2 := F0 m 112 ls [.int r_75]) rfl ?_
          refine lv_istore (lv' := [(8, .int r_75), (7, .int (-1)), (6, .int 1), (5, .int 1), (4, .ref q_2), (0, .ref h), (1, .int n), (2, .int x1), (3, .int x2)]) hx hb dX5_serve_112 hl (by decide) rfl (fun ls hl => ?_)
          refine lv_aload_n hx hb dX5_serve_114 rfl (lv_at hl 5 rfl) ?_
          obtain ⟨v_84, e_v_84, l_v_84, u_v_84⟩ := hI.f r_78 7
          refine t_get (ci := 5) (v := .int v_84) hB hT (ro_ci r_78 rfl) rfl 7 (by decide) k_216 e_v_84 dX5_serve_115 ?_
          refine lv_if_eq (tgt := 124) hx hb dX5_serve_118 (by decide) (fun c_85 => ?_) (fun c_85 => ?_)
          · have c_85' : v_84.toInt = 0 := i_eq c_85 rfl (by decide)
            refine lv_iload hx hb dX5_serve_124 (lv_at hl 2 rfl) ?_
            refine lv_if_eq (tgt := 140) hx hb dX5_serve_126 (by decide) (fun c_ => absurd c_ (by decide)) (fun c_ => ?_)
            refine lv_aload hx hb dX5_serve_129 (lv_at hl 4 rfl) ?_
            refine lv_iload_n hx hb dX5_serve_131 rfl (lv_at hl 8 rfl) ?_
            refine lv_iload hx hb dX5_serve_132 (lv_at hl 0 rfl) ?_
            refine t_callV (n := 2) (ci := 3) (As := [.int x2, .int r_75]) (rest := []) hB hT hl.1 (s_answerNewest l D cI cZ cS cR N0 fr g_74 hI q_2 x2 r_75 r_80) (ro_ci r_80 rfl) rfl k_554 k_60 k_551 k_552 k_553 (by decide +kernel) ⟨(Nat.le_of_ble_eq_true rfl), (Nat.le_of_ble_eq_true rfl)⟩ rfl (Nat.le_of_ble_eq_true rfl) ⟨(Nat.le_of_ble_eq_true rfl), (Nat.le_of_ble_eq_true rfl)⟩ dX5_serve_134 (fun v g_86 H locs hp hT => ?_)
            obtain ⟨rfl, hI, x_88, m_87⟩ := hp
            have r_89 : g_86.1 h = 6 := (Ex.r x_88 r_78 (by decide))
            have r_90 : g_86.1 v_1 = 41 := (Ex.r x_88 r_79 (by decide))
            have r_91 : g_86.1 q_2 = 4 := (Ex.r x_88 r_80 (by decide))
            have n_92 : g_86.2.2.1 v_1 = 6 := (Ex.n x_88 r_79 (by decide) n_81)
            have e_93 : g_86.2.1 h 0 = .ref v_1 := (Sm.v m_87 r_78 (by decide) rfl e_82)
            have e_94 : g_86.2.1 h 2 = .int v_55 := (Sm.v m_87 r_78 (by decide) rfl e_83)
            have e_95 : g_86.2.1 h 7 = .int v_84 := (Sm.v m_87 r_78 (by decide) rfl e_v_84)
            have hM : Sm md_s_serve2 g g_86 := hM.tr hE (m_87.mo (fun r k h => mdle_s_serve2_s_answerNewest h))
            have hE : Ex g g_86 := hE.tr x_88
            refine W.eq (g2 := F0 m 137 ls []) rfl ?_
            refine lv_goto (tgt := 158) hx hb dX5_serve_137 (by decide) ?_
            refine lv_iload hx hb dX5_serve_158 (lv_at hl 0 rfl) ?_
            exact t_iret hB hr hT (Nat.le_of_ble_eq_true rfl) (Nat.le_of_ble_eq_true rfl) dX5_serve_160 ⟨r_75, rfl, hI, hE, hM⟩
          · have c_85' : v_84.toInt ≠ 0 := i_ne c_85 rfl (by decide)
            refine lv_bipush (v := (-2)) hx hb dX5_serve_121 (by decide) ?_
            exact t_iret hB hr hT (Nat.le_of_ble_eq_true rfl) (Nat.le_of_ble_eq_true rfl) dX5_serve_123 ⟨(-2), rfl, hI, hE, hM⟩
        · refine W.eq (g2 := F0 m 60 ls [.int r_44]) rfl ?_
          refine lv_goto (tgt := 64) hx hb dX5_serve_60 (by decide) ?_
          refine lv_istore (lv' := [(7, .int r_44), (6, .int 1), (5, .int 1), (4, .ref q_2), (0, .ref h), (1, .int n), (2, .int x1), (3, .int x2)]) hx hb dX5_serve_64 hl (by decide) rfl (fun ls hl => ?_)
          refine lv_iload hx hb dX5_serve_66 (lv_at hl 0 rfl) ?_
          refine lv_iconst (v := (-1)) hx hb dX5_serve_68 (by decide) ?_
          refine lv_icmp_eq (tgt := 81) hx hb dX5_serve_69 (by decide) (fun c_96 => ?_) (fun c_96 => ?_)
          · have c_96' : r_44.toInt = (-1) := i_eq c_96 rfl (by decide)
            exact absurd c_96' (by omega)
          · have c_96' : r_44.toInt ≠ (-1) := i_ne c_96 rfl (by decide)
            refine lv_aload hx hb dX5_serve_72 (lv_at hl 3 rfl) ?_
            refine lv_iload hx hb dX5_serve_74 (lv_at hl 0 rfl) ?_
            refine lv_iload_n hx hb dX5_serve_76 rfl (lv_at hl 6 rfl) ?_
            refine t_callV (n := 2) (ci := 3) (As := [.int r_44, .int x1]) (rest := []) hB hT hl.1 (s_keptAnswer l D cI cZ cS cR N0 fr g_43 hI q_2 r_44 x1 r_50 (by omega) (by omega)) (ro_ci r_50 rfl) rfl k_520 k_60 k_517 k_518 k_519 (by decide +kernel) ⟨(Nat.le_of_ble_eq_true rfl), (Nat.le_of_ble_eq_true rfl)⟩ rfl (Nat.le_of_ble_eq_true rfl) ⟨(Nat.le_of_ble_eq_true rfl), (Nat.le_of_ble_eq_true rfl)⟩ dX5_serve_77 (fun v g_97 H locs hp hT => ?_)
            obtain ⟨r_98, rfl, hI, x_100, m_99⟩ := hp
            have r_101 : g_97.1 h = 6 := (Ex.r x_100 r_48 (by decide))
            have r_102 : g_97.1 v_1 = 41 := (Ex.r x_100 r_49 (by decide))
            have r_103 : g_97.1 q_2 = 4 := (Ex.r x_100 r_50 (by decide))
            have n_104 : g_97.2.2.1 v_1 = 6 := (Ex.n x_100 r_49 (by decide) n_51)
            have e_105 : g_97.2.1 h 0 = .ref v_1 := (Sm.v m_99 r_48 (by decide) rfl e_52)
            have hM : Sm md_s_serve2 g g_97 := hM.tr hE (m_99.mo (fun r k h => mdle_s_serve2_s_keptAnswer h))
            have hE : Ex g g_97 := hE.tr x_100
            refine W.eq (g2 := F0 m 80 ls [.int r_98]) rfl ?_
            exact t_iret hB hr hT (Nat.le_of_ble_eq_true rfl) (Nat.le_of_ble_eq_true rfl) dX5_serve_80 ⟨r_98, rfl, hI, hE, hM⟩
      · refine W.eq (g2 := F0 m 39 ls [.int 0]) rfl ?_
        refine lv_if_eq (tgt := 46) hx hb dX5_serve_39 (by decide) (fun c_ => ?_) (fun c_ => absurd (by decide) c_)
        refine lv_iconst (v := 0) hx hb dX5_serve_46 (by decide) ?_
        refine lv_istore (lv' := [(6, .int 0), (5, .int 1), (4, .ref q_2), (0, .ref h), (1, .int n), (2, .int x1), (3, .int x2)]) hx hb dX5_serve_47 hl (by decide) rfl (fun ls hl => ?_)
        refine lv_iload hx hb dX5_serve_49 (lv_at hl 1 rfl) ?_
        refine lv_if_eq (tgt := 63) hx hb dX5_serve_51 (by decide) (fun c_ => absurd c_ (by decide)) (fun c_ => ?_)
        refine lv_aload hx hb dX5_serve_54 (lv_at hl 2 rfl) ?_
        refine lv_iload_n hx hb dX5_serve_56 rfl (lv_at hl 6 rfl) ?_
        refine t_callV (n := 1) (ci := 3) (As := [.int x2]) (rest := []) hB hT hl.1 (s_placeOfKey l D cI cZ cS cR N0 fr g_33 hI q_2 x2 r_40) (ro_ci r_40 rfl) rfl k_516 k_60 k_513 k_514 k_515 (by decide +kernel) ⟨(Nat.le_of_ble_eq_true rfl), (Nat.le_of_ble_eq_true rfl)⟩ rfl (Nat.le_of_ble_eq_true rfl) ⟨(Nat.le_of_ble_eq_true rfl), (Nat.le_of_ble_eq_true rfl)⟩ dX5_serve_57 (fun v g_106 H locs hp hT => ?_)
        obtain ⟨r_107, rfl, hI, x_110, m_109, f_108⟩ := hp
        have r_111 : g_106.1 h = 6 := (Ex.r x_110 r_38 (by decide))
        have r_112 : g_106.1 v_1 = 41 := (Ex.r x_110 r_39 (by decide))
        have r_113 : g_106.1 q_2 = 4 := (Ex.r x_110 r_40 (by decide))
        have n_114 : g_106.2.2.1 v_1 = 6 := (Ex.n x_110 r_39 (by decide) n_41)
        have e_115 : g_106.2.1 h 0 = .ref v_1 := (Sm.v m_109 r_38 (by decide) rfl e_42)
        have hM : Sm md_s_serve2 g g_106 := hM.tr hE (m_109.mo (fun r k h => mdle_s_serve2_s_placeOfKey h))
        have hE : Ex g g_106 := hE.tr x_110
        refine W.eq (g2 := F0 m 60 ls [.int r_107]) rfl ?_
        rcases f_108 with rfl | ⟨hw_116, hw_117⟩
        · refine W.eq (g2 := F0 m 60 ls [.int (-1)]) rfl ?_
          refine lv_goto (tgt := 64) hx hb dX5_serve_60 (by decide) ?_
          refine lv_istore (lv' := [(7, .int (-1)), (6, .int 0), (5, .int 1), (4, .ref q_2), (0, .ref h), (1, .int n), (2, .int x1), (3, .int x2)]) hx hb dX5_serve_64 hl (by decide) rfl (fun ls hl => ?_)
          refine lv_iload hx hb dX5_serve_66 (lv_at hl 0 rfl) ?_
          refine lv_iconst (v := (-1)) hx hb dX5_serve_68 (by decide) ?_
          refine lv_icmp_eq (tgt := 81) hx hb dX5_serve_69 (by decide) (fun c_ => ?_) (fun c_ => absurd (by decide) c_)
          refine lv_iload hx hb dX5_serve_81 (lv_at hl 1 rfl) ?_
          refine lv_if_eq (tgt := 98) hx hb dX5_serve_83 (by decide) (fun c_ => ?_) (fun c_ => absurd (by decide) c_)
          refine lv_aload hx hb dX5_serve_98 (lv_at hl 3 rfl) ?_
          refine lv_iload_n hx hb dX5_serve_100 rfl (lv_at hl 6 rfl) ?_
          refine lv_iload_n hx hb dX5_serve_101 rfl (lv_at hl 7 rfl) ?_
          refine t_callV (n := 2) (ci := 3) (As := [.int x1, .int x2]) (rest := []) hB hT hl.1 (s_beginKnown l D cI cZ cS cR N0 fr g_106 hI q_2 x1 x2 r_113) (ro_ci r_113 rfl) rfl k_529 k_60 k_526 k_527 k_528 (by decide +kernel) ⟨(Nat.le_of_ble_eq_true rfl), (Nat.le_of_ble_eq_true rfl)⟩ rfl (Nat.le_of_ble_eq_true rfl) ⟨(Nat.le_of_ble_eq_true rfl), (Nat.le_of_ble_eq_true rfl)⟩ dX5_serve_102 (fun v g_118 H locs hp hT => ?_)
          obtain ⟨rfl, hI, x_120, m_119⟩ := hp
          have r_121 : g_118.1 h = 6 := (Ex.r x_120 r_111 (by decide))
          have r_122 : g_118.1 v_1 = 41 := (Ex.r x_120 r_112 (by decide))
          have r_123 : g_118.1 q_2 = 4 := (Ex.r x_120 r_113 (by decide))
          have n_124 : g_118.2.2.1 v_1 = 6 := (Ex.n x_120 r_112 (by decide) n_114)
          have e_125 : g_118.2.1 h 0 = .ref v_1 := (Sm.v m_119 r_111 (by decide) rfl e_115)
          have hM : Sm md_s_serve2 g g_118 := hM.tr hE (m_119.mo (fun r k h => mdle_s_serve2_s_beginKnown h))
          have hE : Ex g g_118 := hE.tr x_120
          refine W.eq (g2 := F0 m 105 ls []) rfl ?_
          refine lv_aload_n hx hb dX5_serve_105 rfl (lv_at hl 4 rfl) ?_
          refine lv_iload_n hx hb dX5_serve_106 rfl (lv_at hl 5 rfl) ?_
          refine lv_iload_n hx hb dX5_serve_107 rfl (lv_at hl 6 rfl) ?_
          refine lv_iload_n hx hb dX5_serve_108 rfl (lv_at hl 7 rfl) ?_
          refine t_callV (n := 3) (ci := 5) (As := [.int n, .int x1, .int x2]) (rest := []) hB hT hl.1 (s_runActs2 l D cI cZ cS cR N0 fr g_118 hI h n x1 x2 r_121 (by omega) (by omega)) (ro_ci r_121 rfl) rfl k_534 k_59 k_531 k_533 k_13 (by decide +kernel) ⟨(Nat.le_of_ble_eq_true rfl), (Nat.le_of_ble_eq_true rfl)⟩ rfl (Nat.le_of_ble_eq_true rfl) ⟨(Nat.le_of_ble_eq_true rfl), (Nat.le_of_ble_eq_true rfl)⟩ dX5_serve_109 (fun v g_126 H locs hp hT => ?_)
          obtain ⟨r_127, rfl, hI, x_129, m_128⟩ := hp
          have r_130 : g_126.1 h = 6 := (Ex.r x_129 r_121 (by decide))
          have r_131 : g_126.1 v_1 = 41 := (Ex.r x_129 r_122 (by decide))
          have r_132 : g_126.1 q_2 = 4 := (Ex.r x_129 r_123 (by decide))
          have n_133 : g_126.2.2.1 v_1 = 6 := (Ex.n x_129 r_122 (by decide) n_124)
          have e_134 : g_126.2.1 h 0 = .ref v_1 := (Sm.v m_128 r_121 (by decide) rfl e_125)
          have hM : Sm md_s_serve2 g g_126 := hM.tr hE (m_128.mo (fun r k h => mdle_s_serve2_s_runActs2 h))
          have hE : Ex g g_126 := hE.tr x_129
          refine W.eq (g2 := F0 m 112 ls [.int r_127]) rfl ?_
          refine lv_istore (lv' := [(8, .int r_127), (7, .int (-1)), (6, .int 0), (5, .int 1), (4, .ref q_2), (0, .ref h), (1, .int n), (2, .int x1), (3, .int x2)]) hx hb dX5_serve_112 hl (by decide) rfl (fun ls hl => ?_)
          refine lv_aload_n hx hb dX5_serve_114 rfl (lv_at hl 5 rfl) ?_
          obtain ⟨v_135, e_v_135, l_v_135, u_v_135⟩ := hI.f r_130 7
          refine t_get (ci := 5) (v := .int v_135) hB hT (ro_ci r_130 rfl) rfl 7 (by decide) k_216 e_v_135 dX5_serve_115 ?_
          refine lv_if_eq (tgt := 124) hx hb dX5_serve_118 (by decide) (fun c_136 => ?_) (fun c_136 => ?_)
          · have c_136' : v_135.toInt = 0 := i_eq c_136 rfl (by decide)
            refine lv_iload hx hb dX5_serve_124 (lv_at hl 2 rfl) ?_
            refine lv_if_eq (tgt := 140) hx hb dX5_serve_126 (by decide) (fun c_ => ?_) (fun c_ => absurd (by decide) c_)
            refine lv_iload hx hb dX5_serve_140 (lv_at hl 3 rfl) ?_
            refine lv_if_eq (tgt := 158) hx hb dX5_serve_142 (by decide) (fun c_ => absurd c_ (by decide)) (fun c_ => ?_)
            refine lv_aload hx hb dX5_serve_145 (lv_at hl 4 rfl) ?_
            refine lv_iload_n hx hb dX5_serve_147 rfl (lv_at hl 8 rfl) ?_
            refine lv_iload_n hx hb dX5_serve_148 rfl (lv_at hl 7 rfl) ?_
            refine lv_iload hx hb dX5_serve_149 (lv_at hl 0 rfl) ?_
            refine lv_aload_n hx hb dX5_serve_151 rfl (lv_at hl 5 rfl) ?_
            obtain ⟨v_137, e_v_137⟩ := hI.f r_130 2
            refine t_get (ci := 5) (v := .int v_137) hB hT (ro_ci r_130 rfl) rfl 2 (by decide) k_205 e_v_137 dX5_serve_152 ?_
            refine t_callV (n := 4) (ci := 3) (As := [.int x2, .int x1, .int r_127, .int v_137]) (rest := []) hB hT hl.1 (s_keep l D cI cZ cS cR N0 fr g_126 hI q_2 x2 x1 r_127 v_137 r_132) (ro_ci r_132 rfl) rfl k_524 k_60 k_521 k_522 k_523 (by decide +kernel) ⟨(Nat.le_of_ble_eq_true rfl), (Nat.le_of_ble_eq_true rfl)⟩ rfl (Nat.le_of_ble_eq_true rfl) ⟨(Nat.le_of_ble_eq_true rfl), (Nat.le_of_ble_eq_true rfl)⟩ dX5_serve_155 (fun v g_138 H locs hp hT => ?_)
            obtain ⟨rfl, hI, x_140, m_139⟩ := hp
            have r_141 : g_138.1 h = 6 := (Ex.r x_140 r_130 (by decide))
            have r_142 : g_138.1 v_1 = 41 := (Ex.r x_140 r_131 (by decide))
            have r_143 : g_138.1 q_2 = 4 := (Ex.r x_140 r_132 (by decide))
            have n_144 : g_138.2.2.1 v_1 = 6 := (Ex.n x_140 r_131 (by decide) n_133)
            have e_145 : g_138.2.1 h 0 = .ref v_1 := (Sm.v m_139 r_130 (by decide) rfl e_134)
            have e_146 : g_138.2.1 h 7 = .int v_135 := (Sm.v m_139 r_130 (by decide) rfl e_v_135)
            have e_147 : g_138.2.1 h 2 = .int v_137 := (Sm.v m_139 r_130 (by decide) rfl e_v_137)
            have hM : Sm md_s_serve2 g g_138 := hM.tr hE (m_139.mo (fun r k h => mdle_s_serve2_s_keep h))
            have hE : Ex g g_138 := hE.tr x_140
            refine W.eq (g2 := F0 m 158 ls []) rfl ?_
            refine lv_iload hx hb dX5_serve_158 (lv_at hl 0 rfl) ?_
            exact t_iret hB hr hT (Nat.le_of_ble_eq_true rfl) (Nat.le_of_ble_eq_true rfl) dX5_serve_160 ⟨r_127, rfl, hI, hE, hM⟩
          · have c_136' : v_135.toInt ≠ 0 := i_ne c_136 rfl (by decide)
            refine lv_bipush (v := (-2)) hx hb dX5_serve_121 (by decide) ?_
            exact t_iret hB hr hT (Nat.le_of_ble_eq_true rfl) (Nat.le_of_ble_eq_true rfl) dX5_serve_123 ⟨(-2), rfl, hI, hE, hM⟩
        · refine W.eq (g2 := F0 m 60 ls [.int r_107]) rfl ?_
          refine lv_goto (tgt := 64) hx hb dX5_serve_60 (by decide) ?_
          refine lv_istore (lv' := [(7, .int r_107), (6, .int 0), (5, .int 1), (4, .ref q_2), (0, .ref h), (1, .int n), (2, .int x1), (3, .int x2)]) hx hb dX5_serve_64 hl (by decide) rfl (fun ls hl => ?_)
          refine lv_iload hx hb dX5_serve_66 (lv_at hl 0 rfl) ?_
          refine lv_iconst (v := (-1)) hx hb dX5_serve_68 (by decide) ?_
          refine lv_icmp_eq (tgt := 81) hx hb dX5_serve_69 (by decide) (fun c_148 => ?_) (fun c_148 => ?_)
          · have c_148' : r_107.toInt = (-1) := i_eq c_148 rfl (by decide)
            exact absurd c_148' (by omega)
          · have c_148' : r_107.toInt ≠ (-1) := i_ne c_148 rfl (by decide)
            refine lv_aload hx hb dX5_serve_72 (lv_at hl 3 rfl) ?_
            refine lv_iload hx hb dX5_serve_74 (lv_at hl 0 rfl) ?_
            refine lv_iload_n hx hb dX5_serve_76 rfl (lv_at hl 6 rfl) ?_
            refine t_callV (n := 2) (ci := 3) (As := [.int r_107, .int x1]) (rest := []) hB hT hl.1 (s_keptAnswer l D cI cZ cS cR N0 fr g_106 hI q_2 r_107 x1 r_113 (by omega) (by omega)) (ro_ci r_113 rfl) rfl k_520 k_60 k_517 k_518 k_519 (by decide +kernel) ⟨(Nat.le_of_ble_eq_true rfl), (Nat.le_of_ble_eq_true rfl)⟩ rfl (Nat.le_of_ble_eq_true rfl) ⟨(Nat.le_of_ble_eq_true rfl), (Nat.le_of_ble_eq_true rfl)⟩ dX5_serve_77 (fun v g_149 H locs hp hT => ?_)
            obtain ⟨r_150, rfl, hI, x_152, m_151⟩ := hp
            have r_153 : g_149.1 h = 6 := (Ex.r x_152 r_111 (by decide))
            have r_154 : g_149.1 v_1 = 41 := (Ex.r x_152 r_112 (by decide))
            have r_155 : g_149.1 q_2 = 4 := (Ex.r x_152 r_113 (by decide))
            have n_156 : g_149.2.2.1 v_1 = 6 := (Ex.n x_152 r_112 (by decide) n_114)
            have e_157 : g_149.2.1 h 0 = .ref v_1 := (Sm.v m_151 r_111 (by decide) rfl e_115)
            have hM : Sm md_s_serve2 g g_149 := hM.tr hE (m_151.mo (fun r k h => mdle_s_serve2_s_keptAnswer h))
            have hE : Ex g g_149 := hE.tr x_152
            refine W.eq (g2 := F0 m 80 ls [.int r_150]) rfl ?_
            exact t_iret hB hr hT (Nat.le_of_ble_eq_true rfl) (Nat.le_of_ble_eq_true rfl) dX5_serve_80 ⟨r_150, rfl, hI, hE, hM⟩
    · refine W.eq (g2 := F0 m 18 ls [.int 0]) rfl ?_
      refine lv_if_eq (tgt := 25) hx hb dX5_serve_18 (by decide) (fun c_ => ?_) (fun c_ => absurd (by decide) c_)
      refine lv_iconst (v := 0) hx hb dX5_serve_25 (by decide) ?_
      refine lv_istore (lv' := [(5, .int 0), (4, .ref q_2), (0, .ref h), (1, .int n), (2, .int x1), (3, .int x2)]) hx hb dX5_serve_26 hl (by decide) rfl (fun ls hl => ?_)
      refine lv_iload hx hb dX5_serve_28 (lv_at hl 0 rfl) ?_
      refine lv_if_eq (tgt := 46) hx hb dX5_serve_30 (by decide) (fun c_ => ?_) (fun c_ => absurd (by decide) c_)
      refine lv_iconst (v := 0) hx hb dX5_serve_46 (by decide) ?_
      refine lv_istore (lv' := [(6, .int 0), (5, .int 0), (4, .ref q_2), (0, .ref h), (1, .int n), (2, .int x1), (3, .int x2)]) hx hb dX5_serve_47 hl (by decide) rfl (fun ls hl => ?_)
      refine lv_iload hx hb dX5_serve_49 (lv_at hl 1 rfl) ?_
      refine lv_if_eq (tgt := 63) hx hb dX5_serve_51 (by decide) (fun c_ => ?_) (fun c_ => absurd (by decide) c_)
      refine lv_iconst (v := (-1)) hx hb dX5_serve_63 (by decide) ?_
      refine lv_istore (lv' := [(7, .int (-1)), (6, .int 0), (5, .int 0), (4, .ref q_2), (0, .ref h), (1, .int n), (2, .int x1), (3, .int x2)]) hx hb dX5_serve_64 hl (by decide) rfl (fun ls hl => ?_)
      refine lv_iload hx hb dX5_serve_66 (lv_at hl 0 rfl) ?_
      refine lv_iconst (v := (-1)) hx hb dX5_serve_68 (by decide) ?_
      refine lv_icmp_eq (tgt := 81) hx hb dX5_serve_69 (by decide) (fun c_ => ?_) (fun c_ => absurd (by decide) c_)
      refine lv_iload hx hb dX5_serve_81 (lv_at hl 1 rfl) ?_
      refine lv_if_eq (tgt := 98) hx hb dX5_serve_83 (by decide) (fun c_ => ?_) (fun c_ => absurd (by decide) c_)
      refine lv_aload hx hb dX5_serve_98 (lv_at hl 3 rfl) ?_
      refine lv_iload_n hx hb dX5_serve_100 rfl (lv_at hl 6 rfl) ?_
      refine lv_iload_n hx hb dX5_serve_101 rfl (lv_at hl 7 rfl) ?_
      refine t_callV (n := 2) (ci := 3) (As := [.int x1, .int x2]) (rest := []) hB hT hl.1 (s_beginKnown l D cI cZ cS cR N0 fr g_23 hI q_2 x1 x2 r_30) (ro_ci r_30 rfl) rfl k_529 k_60 k_526 k_527 k_528 (by decide +kernel) ⟨(Nat.le_of_ble_eq_true rfl), (Nat.le_of_ble_eq_true rfl)⟩ rfl (Nat.le_of_ble_eq_true rfl) ⟨(Nat.le_of_ble_eq_true rfl), (Nat.le_of_ble_eq_true rfl)⟩ dX5_serve_102 (fun v g_158 H locs hp hT => ?_)
      obtain ⟨rfl, hI, x_160, m_159⟩ := hp
      have r_161 : g_158.1 h = 6 := (Ex.r x_160 r_28 (by decide))
      have r_162 : g_158.1 v_1 = 41 := (Ex.r x_160 r_29 (by decide))
      have r_163 : g_158.1 q_2 = 4 := (Ex.r x_160 r_30 (by decide))
      have n_164 : g_158.2.2.1 v_1 = 6 := (Ex.n x_160 r_29 (by decide) n_31)
      have e_165 : g_158.2.1 h 0 = .ref v_1 := (Sm.v m_159 r_28 (by decide) rfl e_32)
      have hM : Sm md_s_serve2 g g_158 := hM.tr hE (m_159.mo (fun r k h => mdle_s_serve2_s_beginKnown h))
      have hE : Ex g g_158 := hE.tr x_160
      refine W.eq (g2 := F0 m 105 ls []) rfl ?_
      refine lv_aload_n hx hb dX5_serve_105 rfl (lv_at hl 4 rfl) ?_
      refine lv_iload_n hx hb dX5_serve_106 rfl (lv_at hl 5 rfl) ?_
      refine lv_iload_n hx hb dX5_serve_107 rfl (lv_at hl 6 rfl) ?_
      refine lv_iload_n hx hb dX5_serve_108 rfl (lv_at hl 7 rfl) ?_
      refine t_callV (n := 3) (ci := 5) (As := [.int n, .int x1, .int x2]) (rest := []) hB hT hl.1 (s_runActs2 l D cI cZ cS cR N0 fr g_158 hI h n x1 x2 r_161 (by omega) (by omega)) (ro_ci r_161 rfl) rfl k_534 k_59 k_531 k_533 k_13 (by decide +kernel) ⟨(Nat.le_of_ble_eq_true rfl), (Nat.le_of_ble_eq_true rfl)⟩ rfl (Nat.le_of_ble_eq_true rfl) ⟨(Nat.le_of_ble_eq_true rfl), (Nat.le_of_ble_eq_true rfl)⟩ dX5_serve_109 (fun v g_166 H locs hp hT => ?_)
      obtain ⟨r_167, rfl, hI, x_169, m_168⟩ := hp
      have r_170 : g_166.1 h = 6 := (Ex.r x_169 r_161 (by decide))
      have r_171 : g_166.1 v_1 = 41 := (Ex.r x_169 r_162 (by decide))
      have r_172 : g_166.1 q_2 = 4 := (Ex.r x_169 r_163 (by decide))
      have n_173 : g_166.2.2.1 v_1 = 6 := (Ex.n x_169 r_162 (by decide) n_164)
      have e_174 : g_166.2.1 h 0 = .ref v_1 := (Sm.v m_168 r_161 (by decide) rfl e_165)
      have hM : Sm md_s_serve2 g g_166 := hM.tr hE (m_168.mo (fun r k h => mdle_s_serve2_s_runActs2 h))
      have hE : Ex g g_166 := hE.tr x_169
      refine W.eq (g2 := F0 m 112 ls [.int r_167]) rfl ?_
      refine lv_istore (lv' := [(8, .int r_167), (7, .int (-1)), (6, .int 0), (5, .int 0), (4, .ref q_2), (0, .ref h), (1, .int n), (2, .int x1), (3, .int x2)]) hx hb dX5_serve_112 hl (by decide) rfl (fun ls hl => ?_)
      refine lv_aload_n hx hb dX5_serve_114 rfl (lv_at hl 5 rfl) ?_
      obtain ⟨v_175, e_v_175, l_v_175, u_v_175⟩ := hI.f r_170 7
      refine t_get (ci := 5) (v := .int v_175) hB hT (ro_ci r_170 rfl) rfl 7 (by decide) k_216 e_v_175 dX5_serve_115 ?_
      refine lv_if_eq (tgt := 124) hx hb dX5_serve_118 (by decide) (fun c_176 => ?_) (fun c_176 => ?_)
      · have c_176' : v_175.toInt = 0 := i_eq c_176 rfl (by decide)
        refine lv_iload hx hb dX5_serve_124 (lv_at hl 2 rfl) ?_
        refine lv_if_eq (tgt := 140) hx hb dX5_serve_126 (by decide) (fun c_ => ?_) (fun c_ => absurd (by decide) c_)
        refine lv_iload hx hb dX5_serve_140 (lv_at hl 3 rfl) ?_
        refine lv_if_eq (tgt := 158) hx hb dX5_serve_142 (by decide) (fun c_ => ?_) (fun c_ => absurd (by decide) c_)
        refine lv_iload hx hb dX5_serve_158 (lv_at hl 0 rfl) ?_
        exact t_iret hB hr hT (Nat.le_of_ble_eq_true rfl) (Nat.le_of_ble_eq_true rfl) dX5_serve_160 ⟨r_167, rfl, hI, hE, hM⟩
      · have c_176' : v_175.toInt ≠ 0 := i_ne c_176 rfl (by decide)
        refine lv_bipush (v := (-2)) hx hb dX5_serve_121 (by decide) ?_
        exact t_iret hB hr hT (Nat.le_of_ble_eq_true rfl) (Nat.le_of_ble_eq_true rfl) dX5_serve_123 ⟨(-2), rfl, hI, hE, hM⟩
def md_s_runActs3 : Nat → Nat → Bool := fun r k => (r == 4 && k == 0) || (r == 4 && k == 2) || (r == 4 && k == 3) || (r == 4 && k == 4) || (r == 4 && k == 5) || (r == 4 && k == 10) || (r == 4 && k == 11) || (r == 4 && k == 14) || (r == 6 && k == 4) || (r == 6 && k == 5) || (r == 6 && k == 7)
theorem mdle_s_runActs3_s_canAsk {r k : Nat} (h : md_s_runActs3 r k = false) : md_s_canAsk r k = false := by
  first | rfl | (simp only [md_s_runActs3, md_s_canAsk, Bool.or_eq_false_iff, Bool.and_eq_false_iff, beq_eq_false_iff_ne] at h ⊢; omega)
theorem mdle_s_runActs3_s_isHeldBack {r k : Nat} (h : md_s_runActs3 r k = false) : md_s_isHeldBack r k = false := by
  first | rfl | (simp only [md_s_runActs3, md_s_isHeldBack, Bool.or_eq_false_iff, Bool.and_eq_false_iff, beq_eq_false_iff_ne] at h ⊢; omega)
theorem mdle_s_runActs3_s_passesOver {r k : Nat} (h : md_s_runActs3 r k = false) : md_s_passesOver r k = false := by
  first | rfl | (simp only [md_s_runActs3, md_s_passesOver, Bool.or_eq_false_iff, Bool.and_eq_false_iff, beq_eq_false_iff_ne] at h ⊢; omega)
theorem mdle_s_runActs3_s_perform {r k : Nat} (h : md_s_runActs3 r k = false) : md_s_perform r k = false := by
  first | rfl | (simp only [md_s_runActs3, md_s_perform, Bool.or_eq_false_iff, Bool.and_eq_false_iff, beq_eq_false_iff_ne] at h ⊢; omega)
theorem mdle_s_runActs3_s_serve2 {r k : Nat} (h : md_s_runActs3 r k = false) : md_s_serve2 r k = false := by
  first | rfl | (simp only [md_s_runActs3, md_s_serve2, Bool.or_eq_false_iff, Bool.and_eq_false_iff, beq_eq_false_iff_ne] at h ⊢; omega)
theorem mdle_s_runActs3_s_valueAt {r k : Nat} (h : md_s_runActs3 r k = false) : md_s_valueAt r k = false := by
  first | rfl | (simp only [md_s_runActs3, md_s_valueAt, Bool.or_eq_false_iff, Bool.and_eq_false_iff, beq_eq_false_iff_ne] at h ⊢; omega)
set_option maxHeartbeats 4000000 in
set_option maxRecDepth 100000 in
theorem lt_s_runActs3_a (l : Launch) (D : va_G) (cI cZ cS cR : ClassId) (N0 : NT) (fr : Int32) (g : GS) (h : Nat) (n : Int32) (x1 : Int32) (x2 : Int32) (r_h : g.1 h = 6) (l_n : 2 ≤ n.toInt) (u_n : n.toInt ≤ 5) {p : Program} {e : Env} {s : State} {m : MethodId} {args : Array Value} {below : List Frame} {meth : Method} {c : Code} (hB : Tz p s m meth c args cX5_runActs 14 RX5 D cI cZ cS cR N0) (hr : meth.sig.returnType = (some .int))  : ∀ (kf : Nat) (g1 : GS) (i : Int32) (j : Int32) (pk : Int32) (po : Int32) (q1 : Nat) (q2 : Nat) (H : Heap) (locs : List Loc) (ls : Array Slot), Tv D cI cZ cS cR N0 s.heap H locs g1 → Inv fr g1 → Ex g g1 → Sm md_s_runActs3 g g1 → 0 ≤ i.toInt → i.toInt ≤ 8 → 0 ≤ pk.toInt → pk.toInt ≤ 1 → 0 ≤ po.toInt → po.toInt ≤ 1 → g1.1 q1 = 4 → g1.1 q2 = 3 → 8 ≤ i.toInt + kf → lv_has ls 14 [(9, .int i), (8, .int po), (7, .int j), (6, .int pk), (5, .ref q2), (4, .ref q1), (0, .ref h), (1, .int n), (2, .int x1), (3, .int x2)] → W p l e (rmx 7 0 0) s m args below meth c H locs 0 0 (MQ below (tQ D cI cZ cS cR N0 (fun v g' => ∃ (r : Int32), v = some (.int r) ∧ Inv fr g' ∧ Ex g g' ∧ Sm md_s_runActs3 g g')) args s 0 0 (fun q => N0.1 ≤ q)) (F0 m 44 ls []) := by
  have hx := hB.1
  have hb := hB.2.1
  intro kf
  induction kf using Nat.strongRecOn with
  | ind kf ih =>
    intro g1 i j pk po q1 q2 H locs ls hT hI hE hM l_i u_i l_pk u_pk l_po u_po r1_q1 r1_q2 hk hl
    have r1_h : g1.1 h = 6 := Ex.r hE r_h (by decide)
    refine lv_iload hx hb dX5_runActs_44 (lv_at hl 0 rfl) ?_
    refine lv_aload hx hb dX5_runActs_46 (lv_at hl 4 rfl) ?_
    obtain ⟨v_1, e_v_1, l_v_1, u_v_1⟩ := hI.f r1_q2 3
    refine t_get (ci := 2) (v := .int v_1) hB hT (ro_ci r1_q2 rfl) rfl 3 (by decide) k_133 e_v_1 dX5_runActs_48 ?_
    refine lv_icmp_ge (tgt := 288) hx hb dX5_runActs_51 (by decide) (fun c_2 => ?_) (fun c_2 => ?_)
    · have c_2' : v_1.toInt ≤ i.toInt := i_le c_2 rfl rfl
      refine lv_iload hx hb dX5_runActs_288 (lv_at hl 2 rfl) ?_
      exact t_iret hB hr hT (Nat.le_of_ble_eq_true rfl) (Nat.le_of_ble_eq_true rfl) dX5_runActs_290 ⟨j, rfl, hI, hE, hM⟩
    · have c_2' : i.toInt < v_1.toInt := i_nle c_2 rfl rfl
      refine lv_iload hx hb dX5_runActs_54 (lv_at hl 1 rfl) ?_
      refine lv_if_eq (tgt := 65) hx hb dX5_runActs_56 (by decide) (fun c_3 => ?_) (fun c_3 => ?_)
      · have c_3' : po.toInt = 0 := i_eq c_3 rfl (by decide)
        refine lv_aload_n hx hb dX5_runActs_65 rfl (lv_at hl 6 rfl) ?_
        obtain ⟨v_4, e_v_4⟩ := hI.f r1_h 5
        refine t_get (ci := 5) (v := .int v_4) hB hT (ro_ci r1_h rfl) rfl 5 (by decide) k_213 e_v_4 dX5_runActs_66 ?_
        refine lv_iconst (v := 1) hx hb dX5_runActs_69 (by decide) ?_
        refine lv_iadd hx hb dX5_runActs_70 ?_
        refine lv_topi (fun z_5 ez_5 => ?_)
        refine lv_aload_n hx hb dX5_runActs_71 rfl (lv_at hl 6 rfl) ?_
        obtain ⟨v_6, e_v_6⟩ := hI.f r1_h 6
        refine t_get (ci := 5) (v := .int v_6) hB hT (ro_ci r1_h rfl) rfl 6 (by decide) k_215 e_v_6 dX5_runActs_72 ?_
        refine lv_icmp_lt (tgt := 86) hx hb dX5_runActs_75 (by decide) (fun c_7 => ?_) (fun c_7 => ?_)
        · have c_7' : z_5.toInt < v_6.toInt := i_lt c_7 rfl rfl
          refine lv_aload_n hx hb dX5_runActs_86 rfl (lv_at hl 6 rfl) ?_
          refine lv_dup hx hb dX5_runActs_87 rfl ?_
          refine t_get (ci := 5) (v := .int v_4) hB hT (ro_ci r1_h rfl) rfl 5 (by decide) k_213 e_v_4 dX5_runActs_88 ?_
          refine lv_iconst (v := 1) hx hb dX5_runActs_91 (by decide) ?_
          refine lv_iadd hx hb dX5_runActs_92 ?_
          refine lv_topi (fun z_8 ez_8 => ?_)
          refine t_put0 (ci := 5) (v := .int z_8) hB hT (ro_ci r1_h rfl) (ro_n0 r1_h (by decide)) rfl 5 (by decide) k_213 (Or.inl rfl) rfl rfl dX5_runActs_93 (fun H locs hT => ?_)
          have hI : Inv fr (sF g1 h 5 (.int z_8)) := hI.sF (fk r1_h (⟨_, rfl⟩))
          have hM : Sm md_s_runActs3 g (sF g1 h 5 (.int z_8)) := hM.tr hE (Sm_sF (by rw [r1_h]; rfl))
          have hE : Ex g (sF g1 h 5 (.int z_8)) := hE
          refine lv_aload hx hb dX5_runActs_96 (lv_at hl 4 rfl) ?_
          refine lv_iload hx hb dX5_runActs_98 (lv_at hl 0 rfl) ?_
          refine lv_iload_n hx hb dX5_runActs_100 rfl (lv_at hl 8 rfl) ?_
          refine lv_iload hx hb dX5_runActs_101 (lv_at hl 2 rfl) ?_
          refine t_callV (n := 3) (ci := 2) (As := [.int i, .int x1, .int j]) (rest := []) hB hT hl.1 (s_valueAt l D cI cZ cS cR N0 fr (sF g1 h 5 (.int z_8)) hI q2 i x1 j r1_q2 (by omega) (by omega)) (ro_ci r1_q2 rfl) rfl k_538 k_61 k_535 k_536 k_537 (by decide +kernel) ⟨(Nat.le_of_ble_eq_true rfl), (Nat.le_of_ble_eq_true rfl)⟩ rfl (Nat.le_of_ble_eq_true rfl) ⟨(Nat.le_of_ble_eq_true rfl), (Nat.le_of_ble_eq_true rfl)⟩ dX5_runActs_103 (fun v g_9 H locs hp hT => ?_)
          obtain ⟨r_10, rfl, hI, x_12, m_11⟩ := hp
          have r_13 : g_9.1 h = 6 := (Ex.r x_12 r1_h (by decide))
          have r_14 : g_9.1 q1 = 4 := (Ex.r x_12 r1_q1 (by decide))
          have r_15 : g_9.1 q2 = 3 := (Ex.r x_12 r1_q2 (by decide))
          have e_16 : g_9.2.1 q2 3 = .int v_1 := (Sm.v m_11 r1_q2 (by decide) rfl (sF_k e_v_1 (by decide)))
          have e_17 : g_9.2.1 h 6 = .int v_6 := (Sm.v m_11 r1_h (by decide) rfl (sF_k e_v_6 (by decide)))
          have e_18 : g_9.2.1 h 5 = .int z_8 := (Sm.v m_11 r1_h (by decide) rfl sF_eq)
          have hM : Sm md_s_runActs3 g g_9 := hM.tr hE (m_11.mo (fun r k h => mdle_s_runActs3_s_valueAt h))
          have hE : Ex g g_9 := hE.tr x_12
          refine W.eq (g2 := F0 m 106 ls [.int r_10]) rfl ?_
          refine lv_istore (lv' := [(10, .int r_10), (9, .int i), (8, .int po), (7, .int j), (6, .int pk), (5, .ref q2), (4, .ref q1), (0, .ref h), (1, .int n), (2, .int x1), (3, .int x2)]) hx hb dX5_runActs_106 hl (by decide) rfl (fun ls hl => ?_)
          refine lv_aload hx hb dX5_runActs_108 (lv_at hl 6 rfl) ?_
          refine lv_iload hx hb dX5_runActs_110 (lv_at hl 1 rfl) ?_
          refine lv_iload hx hb dX5_runActs_112 (lv_at hl 0 rfl) ?_
          refine t_callV (n := 2) (ci := 3) (As := [.int i, .int r_10]) (rest := []) hB hT hl.1 (s_isHeldBack l D cI cZ cS cR N0 fr g_9 hI q1 i r_10 r_14 (by omega) (by omega)) (ro_ci r_14 rfl) rfl k_542 k_60 k_539 k_540 k_541 (by decide +kernel) ⟨(Nat.le_of_ble_eq_true rfl), (Nat.le_of_ble_eq_true rfl)⟩ rfl (Nat.le_of_ble_eq_true rfl) ⟨(Nat.le_of_ble_eq_true rfl), (Nat.le_of_ble_eq_true rfl)⟩ dX5_runActs_114 (fun v g_19 H locs hp hT => ?_)
          obtain ⟨r_20, rfl, hI, x_23, m_22, f_21⟩ := hp
          have r_24 : g_19.1 h = 6 := (Ex.r x_23 r_13 (by decide))
          have r_25 : g_19.1 q1 = 4 := (Ex.r x_23 r_14 (by decide))
          have r_26 : g_19.1 q2 = 3 := (Ex.r x_23 r_15 (by decide))
          have e_27 : g_19.2.1 q2 3 = .int v_1 := (Sm.v m_22 r_15 (by decide) rfl e_16)
          have e_28 : g_19.2.1 h 6 = .int v_6 := (Sm.v m_22 r_13 (by decide) rfl e_17)
          have e_29 : g_19.2.1 h 5 = .int z_8 := (Sm.v m_22 r_13 (by decide) rfl e_18)
          have hM : Sm md_s_runActs3 g g_19 := hM.tr hE (m_22.mo (fun r k h => mdle_s_runActs3_s_isHeldBack h))
          have hE : Ex g g_19 := hE.tr x_23
          refine W.eq (g2 := F0 m 117 ls [.int r_20]) rfl ?_
          rcases f_21 with rfl | rfl
          · refine W.eq (g2 := F0 m 117 ls [.int 1]) rfl ?_
            refine lv_if_eq (tgt := 123) hx hb dX5_runActs_117 (by decide) (fun c_ => absurd c_ (by decide)) (fun c_ => ?_)
            refine lv_goto (tgt := 282) hx hb dX5_runActs_120 (by decide) ?_
            obtain ⟨z_30, ez_30⟩ : ∃ z : Int32, z = i + 1 := ⟨_, rfl⟩
            have e_z_30 : z_30.toInt = i.toInt + 1 := i_add ez_30 rfl (by decide) (by omega) (by omega)
            refine lv_iinc (v := z_30) (lv' := [(9, .int z_30), (10, .int r_10), (8, .int po), (7, .int j), (6, .int pk), (5, .ref q2), (4, .ref q1), (0, .ref h), (1, .int n), (2, .int x1), (3, .int x2)]) hx hb dX5_runActs_282 hl (k := 1) rfl (by rw [ez_30]; rfl) (by decide) rfl (fun ls hl => ?_)
            refine lv_goto (tgt := 44) hx hb dX5_runActs_285 (by decide) ?_
            exact ih (kf - 1) (by omega) g_19 z_30 j pk po q1 q2 H locs ls hT hI hE hM (by omega) (by omega) (by omega) (by omega) (by omega) (by omega) r_25 r_26 (by have e0 := z0; omega) (lv_sub hl [0, 2, 3, 4, 5, 6, 7, 8, 9, 10] rfl)
          · refine W.eq (g2 := F0 m 117 ls [.int 0]) rfl ?_
            refine lv_if_eq (tgt := 123) hx hb dX5_runActs_117 (by decide) (fun c_ => ?_) (fun c_ => absurd (by decide) c_)
            refine lv_aload hx hb dX5_runActs_123 (lv_at hl 5 rfl) ?_
            obtain ⟨v_31, e_v_31, r_v_31, n_v_31⟩ := hI.f r_26 0
            refine t_get (ci := 2) (v := .ref v_31) hB hT (ro_ci r_26 rfl) rfl 0 (by decide) k_122 e_v_31 dX5_runActs_125 ?_
            refine lv_iload hx hb dX5_runActs_128 (lv_at hl 1 rfl) ?_
            have i_u_32 : vp_in i 8 := (i_in (n := 8) rfl (by omega) (by omega))
            refine t_iald hB hT (ro_in r_v_31 (by decide)) n_v_31 i_u_32 rfl dX5_runActs_130 ?_
            refine lv_topi (fun u_32 e_u_32 => ?_)
            refine lv_istore (lv' := [(11, .int u_32), (10, .int r_10), (9, .int i), (8, .int po), (7, .int j), (6, .int pk), (5, .ref q2), (4, .ref q1), (0, .ref h), (1, .int n), (2, .int x1), (3, .int x2)]) hx hb dX5_runActs_131 hl (by decide) rfl (fun ls hl => ?_)
            refine lv_aload hx hb dX5_runActs_133 (lv_at hl 6 rfl) ?_
            obtain ⟨v_33, e_v_33, r_v_33, n_v_33⟩ := hI.f r_26 1
            refine t_get (ci := 2) (v := .ref v_33) hB hT (ro_ci r_26 rfl) rfl 1 (by decide) k_126 e_v_33 dX5_runActs_135 ?_
            refine lv_iload hx hb dX5_runActs_138 (lv_at hl 2 rfl) ?_
            have i_u_34 : vp_in i 8 := (i_in (n := 8) rfl (by omega) (by omega))
            refine t_iald hB hT (ro_in r_v_33 (by decide)) n_v_33 i_u_34 rfl dX5_runActs_140 ?_
            have c_u_34 := hI.c r_v_33 n_v_33 (i_cl i_u_34)
            refine lv_topi (fun u_34 e_u_34 => ?_)
            obtain ⟨l_u_34, u_u_34⟩ := c_u_34
            rw [← e_u_34] at l_u_34 u_u_34
            refine lv_istore (lv' := [(12, .int u_34), (11, .int u_32), (10, .int r_10), (9, .int i), (8, .int po), (7, .int j), (6, .int pk), (5, .ref q2), (4, .ref q1), (0, .ref h), (1, .int n), (2, .int x1), (3, .int x2)]) hx hb dX5_runActs_141 hl (by decide) rfl (fun ls hl => ?_)
            refine lv_iload hx hb dX5_runActs_143 (lv_at hl 1 rfl) ?_
            refine lv_iconst (v := 5) hx hb dX5_runActs_145 (by decide) ?_
            refine lv_icmp_ne (tgt := 207) hx hb dX5_runActs_146 (by decide) (fun c_35 => ?_) (fun c_35 => ?_)
            · have c_35' : u_32.toInt ≠ 5 := i_ne c_35 rfl (by decide)
              refine lv_iload hx hb dX5_runActs_207 (lv_at hl 1 rfl) ?_
              refine lv_bipush (v := 6) hx hb dX5_runActs_209 (by decide) ?_
              refine lv_icmp_ne (tgt := 242) hx hb dX5_runActs_211 (by decide) (fun c_36 => ?_) (fun c_36 => ?_)
              · have c_36' : u_32.toInt ≠ 6 := i_ne c_36 rfl (by decide)
                refine lv_iload hx hb dX5_runActs_242 (lv_at hl 1 rfl) ?_
                refine lv_bipush (v := 7) hx hb dX5_runActs_244 (by decide) ?_
                refine lv_icmp_ne (tgt := 263) hx hb dX5_runActs_246 (by decide) (fun c_37 => ?_) (fun c_37 => ?_)
                · have c_37' : u_32.toInt ≠ 7 := i_ne c_37 rfl (by decide)
                  refine lv_iload hx hb dX5_runActs_263 (lv_at hl 1 rfl) ?_
                  refine lv_iconst (v := 5) hx hb dX5_runActs_265 (by decide) ?_
                  refine lv_icmp_eq (tgt := 282) hx hb dX5_runActs_266 (by decide) (fun c_38 => ?_) (fun c_38 => ?_)
                  · have c_38' : u_32.toInt = 5 := i_eq c_38 rfl (by decide)
                    obtain ⟨z_39, ez_39⟩ : ∃ z : Int32, z = i + 1 := ⟨_, rfl⟩
                    have e_z_39 : z_39.toInt = i.toInt + 1 := i_add ez_39 rfl (by decide) (by omega) (by omega)
                    refine lv_iinc (v := z_39) (lv' := [(9, .int z_39), (12, .int u_34), (11, .int u_32), (10, .int r_10), (8, .int po), (7, .int j), (6, .int pk), (5, .ref q2), (4, .ref q1), (0, .ref h), (1, .int n), (2, .int x1), (3, .int x2)]) hx hb dX5_runActs_282 hl (k := 3) rfl (by rw [ez_39]; rfl) (by decide) rfl (fun ls hl => ?_)
                    refine lv_goto (tgt := 44) hx hb dX5_runActs_285 (by decide) ?_
                    exact ih (kf - 1) (by omega) g_19 z_39 j pk po q1 q2 H locs ls hT hI hE hM (by omega) (by omega) (by omega) (by omega) (by omega) (by omega) r_25 r_26 (by have e0 := z0; omega) (lv_sub hl [0, 4, 5, 6, 7, 8, 9, 10, 11, 12] rfl)
                  · have c_38' : u_32.toInt ≠ 5 := i_ne c_38 rfl (by decide)
                    refine lv_aload hx hb dX5_runActs_269 (lv_at hl 8 rfl) ?_
                    refine lv_iload hx hb dX5_runActs_271 (lv_at hl 3 rfl) ?_
                    refine lv_iload hx hb dX5_runActs_273 (lv_at hl 2 rfl) ?_
                    refine lv_iload hx hb dX5_runActs_275 (lv_at hl 5 rfl) ?_
                    refine t_callV (n := 3) (ci := 3) (As := [.int i, .int r_10, .int j]) (rest := []) hB hT hl.1 (s_perform l D cI cZ cS cR N0 fr g_19 hI q1 i r_10 j r_25 (by omega) (by omega)) (ro_ci r_25 rfl) rfl k_550 k_60 k_547 k_548 k_549 (by decide +kernel) ⟨(Nat.le_of_ble_eq_true rfl), (Nat.le_of_ble_eq_true rfl)⟩ rfl (Nat.le_of_ble_eq_true rfl) ⟨(Nat.le_of_ble_eq_true rfl), (Nat.le_of_ble_eq_true rfl)⟩ dX5_runActs_277 (fun v g_40 H locs hp hT => ?_)
                    obtain ⟨r_41, rfl, hI, x_43, m_42⟩ := hp
                    have r_44 : g_40.1 h = 6 := (Ex.r x_43 r_24 (by decide))
                    have r_45 : g_40.1 q1 = 4 := (Ex.r x_43 r_25 (by decide))
                    have r_46 : g_40.1 q2 = 3 := (Ex.r x_43 r_26 (by decide))
                    have r_47 : g_40.1 v_31 = 20 := (Ex.r x_43 r_v_31 (by decide))
                    have r_48 : g_40.1 v_33 = 21 := (Ex.r x_43 r_v_33 (by decide))
                    have n_49 : g_40.2.2.1 v_31 = 8 := (Ex.n x_43 r_v_31 (by decide) n_v_31)
                    have n_50 : g_40.2.2.1 v_33 = 8 := (Ex.n x_43 r_v_33 (by decide) n_v_33)
                    have e_51 : g_40.2.1 q2 3 = .int v_1 := (Sm.v m_42 r_26 (by decide) rfl e_27)
                    have e_52 : g_40.2.1 h 6 = .int v_6 := (Sm.v m_42 r_24 (by decide) rfl e_28)
                    have e_53 : g_40.2.1 h 5 = .int z_8 := (Sm.v m_42 r_24 (by decide) rfl e_29)
                    have e_54 : g_40.2.1 q2 0 = .ref v_31 := (Sm.v m_42 r_26 (by decide) rfl e_v_31)
                    have e_55 : g_40.2.1 q2 1 = .ref v_33 := (Sm.v m_42 r_26 (by decide) rfl e_v_33)
                    have hM : Sm md_s_runActs3 g g_40 := hM.tr hE (m_42.mo (fun r k h => mdle_s_runActs3_s_perform h))
                    have hE : Ex g g_40 := hE.tr x_43
                    refine W.eq (g2 := F0 m 280 ls [.int r_41]) rfl ?_
                    refine lv_istore (lv' := [(7, .int r_41), (12, .int u_34), (11, .int u_32), (10, .int r_10), (9, .int i), (8, .int po), (6, .int pk), (5, .ref q2), (4, .ref q1), (0, .ref h), (1, .int n), (2, .int x1), (3, .int x2)]) hx hb dX5_runActs_280 hl (by decide) rfl (fun ls hl => ?_)
                    obtain ⟨z_56, ez_56⟩ : ∃ z : Int32, z = i + 1 := ⟨_, rfl⟩
                    have e_z_56 : z_56.toInt = i.toInt + 1 := i_add ez_56 rfl (by decide) (by omega) (by omega)
                    refine lv_iinc (v := z_56) (lv' := [(9, .int z_56), (7, .int r_41), (12, .int u_34), (11, .int u_32), (10, .int r_10), (8, .int po), (6, .int pk), (5, .ref q2), (4, .ref q1), (0, .ref h), (1, .int n), (2, .int x1), (3, .int x2)]) hx hb dX5_runActs_282 hl (k := 4) rfl (by rw [ez_56]; rfl) (by decide) rfl (fun ls hl => ?_)
                    refine lv_goto (tgt := 44) hx hb dX5_runActs_285 (by decide) ?_
                    exact ih (kf - 1) (by omega) g_40 z_56 r_41 pk po q1 q2 H locs ls hT hI hE hM (by omega) (by omega) (by omega) (by omega) (by omega) (by omega) r_45 r_46 (by have e0 := z0; omega) (lv_sub hl [0, 5, 1, 6, 7, 8, 9, 10, 11, 12] rfl)
                · have c_37' : u_32.toInt = 7 := i_eq c_37 rfl (by decide)
                  refine lv_aload hx hb dX5_runActs_249 (lv_at hl 8 rfl) ?_
                  refine lv_iload hx hb dX5_runActs_251 (lv_at hl 3 rfl) ?_
                  refine lv_iload hx hb dX5_runActs_253 (lv_at hl 2 rfl) ?_
                  refine t_callV (n := 2) (ci := 3) (As := [.int i, .int r_10]) (rest := []) hB hT hl.1 (s_passesOver l D cI cZ cS cR N0 fr g_19 hI q1 i r_10 r_25 (by omega) (by omega)) (ro_ci r_25 rfl) rfl k_546 k_60 k_543 k_544 k_545 (by decide +kernel) ⟨(Nat.le_of_ble_eq_true rfl), (Nat.le_of_ble_eq_true rfl)⟩ rfl (Nat.le_of_ble_eq_true rfl) ⟨(Nat.le_of_ble_eq_true rfl), (Nat.le_of_ble_eq_true rfl)⟩ dX5_runActs_255 (fun v g_57 H locs hp hT => ?_)
                  obtain ⟨r_58, rfl, hI, x_61, m_60, f_59⟩ := hp
                  have r_62 : g_57.1 h = 6 := (Ex.r x_61 r_24 (by decide))
                  have r_63 : g_57.1 q1 = 4 := (Ex.r x_61 r_25 (by decide))
                  have r_64 : g_57.1 q2 = 3 := (Ex.r x_61 r_26 (by decide))
                  have r_65 : g_57.1 v_31 = 20 := (Ex.r x_61 r_v_31 (by decide))
                  have r_66 : g_57.1 v_33 = 21 := (Ex.r x_61 r_v_33 (by decide))
                  have n_67 : g_57.2.2.1 v_31 = 8 := (Ex.n x_61 r_v_31 (by decide) n_v_31)
                  have n_68 : g_57.2.2.1 v_33 = 8 := (Ex.n x_61 r_v_33 (by decide) n_v_33)
                  have e_69 : g_57.2.1 q2 3 = .int v_1 := (Sm.v m_60 r_26 (by decide) rfl e_27)
                  have e_70 : g_57.2.1 h 6 = .int v_6 := (Sm.v m_60 r_24 (by decide) rfl e_28)
                  have e_71 : g_57.2.1 h 5 = .int z_8 := (Sm.v m_60 r_24 (by decide) rfl e_29)
                  have e_72 : g_57.2.1 q2 0 = .ref v_31 := (Sm.v m_60 r_26 (by decide) rfl e_v_31)
                  have e_73 : g_57.2.1 q2 1 = .ref v_33 := (Sm.v m_60 r_26 (by decide) rfl e_v_33)
                  have hM : Sm md_s_runActs3 g g_57 := hM.tr hE (m_60.mo (fun r k h => mdle_s_runActs3_s_passesOver h))
                  have hE : Ex g g_57 := hE.tr x_61
                  refine W.eq (g2 := F0 m 258 ls [.int r_58]) rfl ?_
                  rcases f_59 with rfl | rfl
                  · refine W.eq (g2 := F0 m 258 ls [.int 1]) rfl ?_
                    refine lv_istore (lv' := [(8, .int 1), (12, .int u_34), (11, .int u_32), (10, .int r_10), (9, .int i), (7, .int j), (6, .int pk), (5, .ref q2), (4, .ref q1), (0, .ref h), (1, .int n), (2, .int x1), (3, .int x2)]) hx hb dX5_runActs_258 hl (by decide) rfl (fun ls hl => ?_)
                    refine lv_goto (tgt := 282) hx hb dX5_runActs_260 (by decide) ?_
                    obtain ⟨z_74, ez_74⟩ : ∃ z : Int32, z = i + 1 := ⟨_, rfl⟩
                    have e_z_74 : z_74.toInt = i.toInt + 1 := i_add ez_74 rfl (by decide) (by omega) (by omega)
                    refine lv_iinc (v := z_74) (lv' := [(9, .int z_74), (8, .int 1), (12, .int u_34), (11, .int u_32), (10, .int r_10), (7, .int j), (6, .int pk), (5, .ref q2), (4, .ref q1), (0, .ref h), (1, .int n), (2, .int x1), (3, .int x2)]) hx hb dX5_runActs_282 hl (k := 4) rfl (by rw [ez_74]; rfl) (by decide) rfl (fun ls hl => ?_)
                    refine lv_goto (tgt := 44) hx hb dX5_runActs_285 (by decide) ?_
                    exact ih (kf - 1) (by omega) g_57 z_74 j pk (1 : Int32) q1 q2 H locs ls hT hI hE hM (by omega) (by omega) (by omega) (by omega) (by decide) (by decide) r_63 r_64 (by have e0 := z0; omega) (lv_sub hl [0, 1, 5, 6, 7, 8, 9, 10, 11, 12] rfl)
                  · refine W.eq (g2 := F0 m 258 ls [.int 0]) rfl ?_
                    refine lv_istore (lv' := [(8, .int 0), (12, .int u_34), (11, .int u_32), (10, .int r_10), (9, .int i), (7, .int j), (6, .int pk), (5, .ref q2), (4, .ref q1), (0, .ref h), (1, .int n), (2, .int x1), (3, .int x2)]) hx hb dX5_runActs_258 hl (by decide) rfl (fun ls hl => ?_)
                    refine lv_goto (tgt := 282) hx hb dX5_runActs_260 (by decide) ?_
                    obtain ⟨z_75, ez_75⟩ : ∃ z : Int32, z = i + 1 := ⟨_, rfl⟩
                    have e_z_75 : z_75.toInt = i.toInt + 1 := i_add ez_75 rfl (by decide) (by omega) (by omega)
                    refine lv_iinc (v := z_75) (lv' := [(9, .int z_75), (8, .int 0), (12, .int u_34), (11, .int u_32), (10, .int r_10), (7, .int j), (6, .int pk), (5, .ref q2), (4, .ref q1), (0, .ref h), (1, .int n), (2, .int x1), (3, .int x2)]) hx hb dX5_runActs_282 hl (k := 4) rfl (by rw [ez_75]; rfl) (by decide) rfl (fun ls hl => ?_)
                    refine lv_goto (tgt := 44) hx hb dX5_runActs_285 (by decide) ?_
                    exact ih (kf - 1) (by omega) g_57 z_75 j pk (0 : Int32) q1 q2 H locs ls hT hI hE hM (by omega) (by omega) (by omega) (by omega) (by decide) (by decide) r_63 r_64 (by have e0 := z0; omega) (lv_sub hl [0, 1, 5, 6, 7, 8, 9, 10, 11, 12] rfl)
              · have c_36' : u_32.toInt = 6 := i_eq c_36 rfl (by decide)
                refine lv_aload_n hx hb dX5_runActs_214 rfl (lv_at hl 9 rfl) ?_
                obtain ⟨v_76, e_v_76, r_v_76, n_v_76⟩ := hI.f r_24 3
                refine t_get (ci := 5) (v := .ref v_76) hB hT (ro_ci r_24 rfl) rfl 3 (by decide) k_207 e_v_76 dX5_runActs_215 ?_
                refine lv_aload_n hx hb dX5_runActs_218 rfl (lv_at hl 9 rfl) ?_
                obtain ⟨v_77, e_v_77⟩ := hI.f r_24 4
                refine t_get (ci := 5) (v := .int v_77) hB hT (ro_ci r_24 rfl) rfl 4 (by decide) k_210 e_v_77 dX5_runActs_219 ?_
                refine lv_sipush (v := 511) hx hb dX5_runActs_222 (by decide) ?_
                refine lv_iand hx hb dX5_runActs_225 ?_
                refine lv_topi (fun z_78 ez_78 => ?_)
                have e_z_78 := i_and 9 (b := 511) ez_78 (by decide) (by decide) (by decide)
                refine lv_iload hx hb dX5_runActs_226 (lv_at hl 2 rfl) ?_
                have i_79 : vp_in z_78 512 := (i_in (n := 512) rfl (by omega) (by omega))
                refine t_iast hB hT (ro_in r_v_76 (by decide)) n_v_76 i_79 dX5_runActs_228 (fun H locs hT => ?_)
                have hI : Inv fr (sC g_19 v_76 z_78.toNatClampNeg r_10) := hI.sC (ck r_v_76 trivial)
                have hM : Sm md_s_runActs3 g (sC g_19 v_76 z_78.toNatClampNeg r_10) := hM
                have hE : Ex g (sC g_19 v_76 z_78.toNatClampNeg r_10) := hE
                refine lv_aload_n hx hb dX5_runActs_229 rfl (lv_at hl 9 rfl) ?_
                refine lv_dup hx hb dX5_runActs_230 rfl ?_
                refine t_get (ci := 5) (v := .int v_77) hB hT (ro_ci r_24 rfl) rfl 4 (by decide) k_210 e_v_77 dX5_runActs_231 ?_
                refine lv_iconst (v := 1) hx hb dX5_runActs_234 (by decide) ?_
                refine lv_iadd hx hb dX5_runActs_235 ?_
                refine lv_topi (fun z_80 ez_80 => ?_)
                refine t_put0 (ci := 5) (v := .int z_80) hB hT (ro_ci r_24 rfl) (ro_n0 r_24 (by decide)) rfl 4 (by decide) k_210 (Or.inl rfl) rfl rfl dX5_runActs_236 (fun H locs hT => ?_)
                have hI : Inv fr (sF (sC g_19 v_76 z_78.toNatClampNeg r_10) h 4 (.int z_80)) := hI.sF (fk r_24 (⟨_, rfl⟩))
                have hM : Sm md_s_runActs3 g (sF (sC g_19 v_76 z_78.toNatClampNeg r_10) h 4 (.int z_80)) := hM.tr hE (Sm_sF (by rw [r_24]; rfl))
                have hE : Ex g (sF (sC g_19 v_76 z_78.toNatClampNeg r_10) h 4 (.int z_80)) := hE
                refine lv_goto (tgt := 282) hx hb dX5_runActs_239 (by decide) ?_
                obtain ⟨z_81, ez_81⟩ : ∃ z : Int32, z = i + 1 := ⟨_, rfl⟩
                have e_z_81 : z_81.toInt = i.toInt + 1 := i_add ez_81 rfl (by decide) (by omega) (by omega)
                refine lv_iinc (v := z_81) (lv' := [(9, .int z_81), (12, .int u_34), (11, .int u_32), (10, .int r_10), (8, .int po), (7, .int j), (6, .int pk), (5, .ref q2), (4, .ref q1), (0, .ref h), (1, .int n), (2, .int x1), (3, .int x2)]) hx hb dX5_runActs_282 hl (k := 3) rfl (by rw [ez_81]; rfl) (by decide) rfl (fun ls hl => ?_)
                refine lv_goto (tgt := 44) hx hb dX5_runActs_285 (by decide) ?_
                exact ih (kf - 1) (by omega) (sF (sC g_19 v_76 z_78.toNatClampNeg r_10) h 4 (.int z_80)) z_81 j pk po q1 q2 H locs ls hT hI hE hM (by omega) (by omega) (by omega) (by omega) (by omega) (by omega) r_25 r_26 (by have e0 := z0; omega) (lv_sub hl [0, 4, 5, 6, 7, 8, 9, 10, 11, 12] rfl)
            · have c_35' : u_32.toInt = 5 := i_eq c_35 rfl (by decide)
              refine lv_aload_n hx hb dX5_runActs_149 rfl (lv_at hl 9 rfl) ?_
              refine lv_iload_n hx hb dX5_runActs_150 rfl (lv_at hl 10 rfl) ?_
              refine lv_iload hx hb dX5_runActs_151 (lv_at hl 0 rfl) ?_
              refine t_callV (n := 2) (ci := 5) (As := [.int n, .int u_34]) (rest := []) hB hT hl.1 (s_canAsk l D cI cZ cS cR N0 fr g_19 hI h n u_34 r_24) (ro_ci r_24 rfl) rfl k_477 k_59 k_474 k_476 k_10 (by decide +kernel) ⟨(Nat.le_of_ble_eq_true rfl), (Nat.le_of_ble_eq_true rfl)⟩ rfl (Nat.le_of_ble_eq_true rfl) ⟨(Nat.le_of_ble_eq_true rfl), (Nat.le_of_ble_eq_true rfl)⟩ dX5_runActs_153 (fun v g_82 H locs hp hT => ?_)
              obtain ⟨r_83, rfl, hI, x_86, m_85, f_84⟩ := hp
              have r_87 : g_82.1 h = 6 := (Ex.r x_86 r_24 (by decide))
              have r_88 : g_82.1 q1 = 4 := (Ex.r x_86 r_25 (by decide))
              have r_89 : g_82.1 q2 = 3 := (Ex.r x_86 r_26 (by decide))
              have r_90 : g_82.1 v_31 = 20 := (Ex.r x_86 r_v_31 (by decide))
              have r_91 : g_82.1 v_33 = 21 := (Ex.r x_86 r_v_33 (by decide))
              have n_92 : g_82.2.2.1 v_31 = 8 := (Ex.n x_86 r_v_31 (by decide) n_v_31)
              have n_93 : g_82.2.2.1 v_33 = 8 := (Ex.n x_86 r_v_33 (by decide) n_v_33)
              have e_94 : g_82.2.1 q2 3 = .int v_1 := (Sm.v m_85 r_26 (by decide) rfl e_27)
              have e_95 : g_82.2.1 h 6 = .int v_6 := (Sm.v m_85 r_24 (by decide) rfl e_28)
              have e_96 : g_82.2.1 h 5 = .int z_8 := (Sm.v m_85 r_24 (by decide) rfl e_29)
              have e_97 : g_82.2.1 q2 0 = .ref v_31 := (Sm.v m_85 r_26 (by decide) rfl e_v_31)
              have e_98 : g_82.2.1 q2 1 = .ref v_33 := (Sm.v m_85 r_26 (by decide) rfl e_v_33)
              have hM : Sm md_s_runActs3 g g_82 := hM.tr hE (m_85.mo (fun r k h => mdle_s_runActs3_s_canAsk h))
              have hE : Ex g g_82 := hE.tr x_86
              refine W.eq (g2 := F0 m 156 ls [.int r_83]) rfl ?_
              rcases f_84 with ⟨rfl, hw_99, hw_100⟩ | rfl
              · refine W.eq (g2 := F0 m 156 ls [.int 1]) rfl ?_
                refine lv_if_eq (tgt := 207) hx hb dX5_runActs_156 (by decide) (fun c_ => absurd c_ (by decide)) (fun c_ => ?_)
                refine lv_iload hx hb dX5_runActs_159 (lv_at hl 6 rfl) ?_
                refine lv_if_eq (tgt := 179) hx hb dX5_runActs_161 (by decide) (fun c_101 => ?_) (fun c_101 => ?_)
                · have c_101' : pk.toInt = 0 := i_eq c_101 rfl (by decide)
                  refine lv_iconst (v := 0) hx hb dX5_runActs_179 (by decide) ?_
                  refine lv_istore (lv' := [(13, .int 0), (12, .int u_34), (11, .int u_32), (10, .int r_10), (9, .int i), (8, .int po), (7, .int j), (6, .int pk), (5, .ref q2), (4, .ref q1), (0, .ref h), (1, .int n), (2, .int x1), (3, .int x2)]) hx hb dX5_runActs_180 hl (by decide) rfl (fun ls hl => ?_)
                  refine lv_aload_n hx hb dX5_runActs_182 rfl (lv_at hl 10 rfl) ?_
                  refine lv_iload hx hb dX5_runActs_183 (lv_at hl 1 rfl) ?_
                  refine lv_iload hx hb dX5_runActs_185 (lv_at hl 3 rfl) ?_
                  refine lv_iload hx hb dX5_runActs_187 (lv_at hl 0 rfl) ?_
                  refine t_callV (n := 3) (ci := 5) (As := [.int u_34, .int r_10, .int 0]) (rest := []) hB hT hl.1 (s_serve2 l D cI cZ cS cR N0 fr g_82 hI h u_34 r_10 0 r_87 (by omega) (by omega)) (ro_ci r_87 rfl) rfl k_508 k_59 k_505 k_507 k_12 (by decide +kernel) ⟨(Nat.le_of_ble_eq_true rfl), (Nat.le_of_ble_eq_true rfl)⟩ rfl (Nat.le_of_ble_eq_true rfl) ⟨(Nat.le_of_ble_eq_true rfl), (Nat.le_of_ble_eq_true rfl)⟩ dX5_runActs_189 (fun v g_102 H locs hp hT => ?_)
                  obtain ⟨r_103, rfl, hI, x_105, m_104⟩ := hp
                  have r_106 : g_102.1 h = 6 := (Ex.r x_105 r_87 (by decide))
                  have r_107 : g_102.1 q1 = 4 := (Ex.r x_105 r_88 (by decide))
                  have r_108 : g_102.1 q2 = 3 := (Ex.r x_105 r_89 (by decide))
                  have r_109 : g_102.1 v_31 = 20 := (Ex.r x_105 r_90 (by decide))
                  have r_110 : g_102.1 v_33 = 21 := (Ex.r x_105 r_91 (by decide))
                  have n_111 : g_102.2.2.1 v_31 = 8 := (Ex.n x_105 r_90 (by decide) n_92)
                  have n_112 : g_102.2.2.1 v_33 = 8 := (Ex.n x_105 r_91 (by decide) n_93)
                  have e_113 : g_102.2.1 q2 3 = .int v_1 := (Sm.v m_104 r_89 (by decide) rfl e_94)
                  have e_114 : g_102.2.1 h 6 = .int v_6 := (Sm.v m_104 r_87 (by decide) rfl e_95)
                  have e_115 : g_102.2.1 q2 0 = .ref v_31 := (Sm.v m_104 r_89 (by decide) rfl e_97)
                  have e_116 : g_102.2.1 q2 1 = .ref v_33 := (Sm.v m_104 r_89 (by decide) rfl e_98)
                  have hM : Sm md_s_runActs3 g g_102 := hM.tr hE (m_104.mo (fun r k h => mdle_s_runActs3_s_serve2 h))
                  have hE : Ex g g_102 := hE.tr x_105
                  refine W.eq (g2 := F0 m 192 ls [.int r_103]) rfl ?_
                  refine lv_istore (lv' := [(7, .int r_103), (13, .int 0), (12, .int u_34), (11, .int u_32), (10, .int r_10), (9, .int i), (8, .int po), (6, .int pk), (5, .ref q2), (4, .ref q1), (0, .ref h), (1, .int n), (2, .int x1), (3, .int x2)]) hx hb dX5_runActs_192 hl (by decide) rfl (fun ls hl => ?_)
                  refine lv_aload_n hx hb dX5_runActs_194 rfl (lv_at hl 10 rfl) ?_
                  obtain ⟨v_117, e_v_117, l_v_117, u_v_117⟩ := hI.f r_106 7
                  refine t_get (ci := 5) (v := .int v_117) hB hT (ro_ci r_106 rfl) rfl 7 (by decide) k_216 e_v_117 dX5_runActs_195 ?_
                  refine lv_if_eq (tgt := 204) hx hb dX5_runActs_198 (by decide) (fun c_118 => ?_) (fun c_118 => ?_)
                  · have c_118' : v_117.toInt = 0 := i_eq c_118 rfl (by decide)
                    refine lv_goto (tgt := 282) hx hb dX5_runActs_204 (by decide) ?_
                    obtain ⟨z_119, ez_119⟩ : ∃ z : Int32, z = i + 1 := ⟨_, rfl⟩
                    have e_z_119 : z_119.toInt = i.toInt + 1 := i_add ez_119 rfl (by decide) (by omega) (by omega)
                    refine lv_iinc (v := z_119) (lv' := [(9, .int z_119), (7, .int r_103), (13, .int 0), (12, .int u_34), (11, .int u_32), (10, .int r_10), (8, .int po), (6, .int pk), (5, .ref q2), (4, .ref q1), (0, .ref h), (1, .int n), (2, .int x1), (3, .int x2)]) hx hb dX5_runActs_282 hl (k := 5) rfl (by rw [ez_119]; rfl) (by decide) rfl (fun ls hl => ?_)
                    refine lv_goto (tgt := 44) hx hb dX5_runActs_285 (by decide) ?_
                    exact ih (kf - 1) (by omega) g_102 z_119 r_103 pk po q1 q2 H locs ls hT hI hE hM (by omega) (by omega) (by omega) (by omega) (by omega) (by omega) r_107 r_108 (by have e0 := z0; omega) (lv_sub hl [0, 6, 1, 7, 8, 9, 10, 11, 12, 13] rfl)
                  · have c_118' : v_117.toInt ≠ 0 := i_ne c_118 rfl (by decide)
                    refine lv_bipush (v := (-2)) hx hb dX5_runActs_201 (by decide) ?_
                    exact t_iret hB hr hT (Nat.le_of_ble_eq_true rfl) (Nat.le_of_ble_eq_true rfl) dX5_runActs_203 ⟨(-2), rfl, hI, hE, hM⟩
                · have c_101' : pk.toInt ≠ 0 := i_ne c_101 rfl (by decide)
                  refine lv_iload_n hx hb dX5_runActs_164 rfl (lv_at hl 12 rfl) ?_
                  refine lv_bipush (v := 7) hx hb dX5_runActs_165 (by decide) ?_
                  refine lv_iload hx hb dX5_runActs_167 (lv_at hl 3 rfl) ?_
                  refine lv_imul hx hb dX5_runActs_169 ?_
                  refine lv_topi (fun z_120 ez_120 => ?_)
                  have e_z_120 : z_120.toInt = 7 * i.toInt := i_mul ez_120 (by decide) rfl (by omega) (by omega)
                  refine lv_iadd hx hb dX5_runActs_170 ?_
                  refine lv_topi (fun z_121 ez_121 => ?_)
                  refine lv_bipush (v := 99) hx hb dX5_runActs_171 (by decide) ?_
                  refine lv_irem hx hb dX5_runActs_173 (by decide) ?_
                  refine lv_topi (fun z_122 ez_122 => ?_)
                  refine lv_iconst (v := 1) hx hb dX5_runActs_174 (by decide) ?_
                  refine lv_iadd hx hb dX5_runActs_175 ?_
                  refine lv_topi (fun z_123 ez_123 => ?_)
                  refine lv_goto (tgt := 180) hx hb dX5_runActs_176 (by decide) ?_
                  refine lv_istore (lv' := [(13, .int z_123), (12, .int u_34), (11, .int u_32), (10, .int r_10), (9, .int i), (8, .int po), (7, .int j), (6, .int pk), (5, .ref q2), (4, .ref q1), (0, .ref h), (1, .int n), (2, .int x1), (3, .int x2)]) hx hb dX5_runActs_180 hl (by decide) rfl (fun ls hl => ?_)
                  refine lv_aload_n hx hb dX5_runActs_182 rfl (lv_at hl 10 rfl) ?_
                  refine lv_iload hx hb dX5_runActs_183 (lv_at hl 1 rfl) ?_
                  refine lv_iload hx hb dX5_runActs_185 (lv_at hl 3 rfl) ?_
                  refine lv_iload hx hb dX5_runActs_187 (lv_at hl 0 rfl) ?_
                  refine t_callV (n := 3) (ci := 5) (As := [.int u_34, .int r_10, .int z_123]) (rest := []) hB hT hl.1 (s_serve2 l D cI cZ cS cR N0 fr g_82 hI h u_34 r_10 z_123 r_87 (by omega) (by omega)) (ro_ci r_87 rfl) rfl k_508 k_59 k_505 k_507 k_12 (by decide +kernel) ⟨(Nat.le_of_ble_eq_true rfl), (Nat.le_of_ble_eq_true rfl)⟩ rfl (Nat.le_of_ble_eq_true rfl) ⟨(Nat.le_of_ble_eq_true rfl), (Nat.le_of_ble_eq_true rfl)⟩ dX5_runActs_189 (fun v g_124 H locs hp hT => ?_)
                  obtain ⟨r_125, rfl, hI, x_127, m_126⟩ := hp
                  have r_128 : g_124.1 h = 6 := (Ex.r x_127 r_87 (by decide))
                  have r_129 : g_124.1 q1 = 4 := (Ex.r x_127 r_88 (by decide))
                  have r_130 : g_124.1 q2 = 3 := (Ex.r x_127 r_89 (by decide))
                  have r_131 : g_124.1 v_31 = 20 := (Ex.r x_127 r_90 (by decide))
                  have r_132 : g_124.1 v_33 = 21 := (Ex.r x_127 r_91 (by decide))
                  have n_133 : g_124.2.2.1 v_31 = 8 := (Ex.n x_127 r_90 (by decide) n_92)
                  have n_134 : g_124.2.2.1 v_33 = 8 := (Ex.n x_127 r_91 (by decide) n_93)
                  have e_135 : g_124.2.1 q2 3 = .int v_1 := (Sm.v m_126 r_89 (by decide) rfl e_94)
                  have e_136 : g_124.2.1 h 6 = .int v_6 := (Sm.v m_126 r_87 (by decide) rfl e_95)
                  have e_137 : g_124.2.1 q2 0 = .ref v_31 := (Sm.v m_126 r_89 (by decide) rfl e_97)
                  have e_138 : g_124.2.1 q2 1 = .ref v_33 := (Sm.v m_126 r_89 (by decide) rfl e_98)
                  have hM : Sm md_s_runActs3 g g_124 := hM.tr hE (m_126.mo (fun r k h => mdle_s_runActs3_s_serve2 h))
                  have hE : Ex g g_124 := hE.tr x_127
                  refine W.eq (g2 := F0 m 192 ls [.int r_125]) rfl ?_
                  refine lv_istore (lv' := [(7, .int r_125), (13, .int z_123), (12, .int u_34), (11, .int u_32), (10, .int r_10), (9, .int i), (8, .int po), (6, .int pk), (5, .ref q2), (4, .ref q1), (0, .ref h), (1, .int n), (2, .int x1), (3, .int x2)]) hx hb dX5_runActs_192 hl (by decide) rfl (fun ls hl => ?_)
                  refine lv_aload_n hx hb dX5_runActs_194 rfl (lv_at hl 10 rfl) ?_
                  obtain ⟨v_139, e_v_139, l_v_139, u_v_139⟩ := hI.f r_128 7
                  refine t_get (ci := 5) (v := .int v_139) hB hT (ro_ci r_128 rfl) rfl 7 (by decide) k_216 e_v_139 dX5_runActs_195 ?_
                  refine lv_if_eq (tgt := 204) hx hb dX5_runActs_198 (by decide) (fun c_140 => ?_) (fun c_140 => ?_)
                  · have c_140' : v_139.toInt = 0 := i_eq c_140 rfl (by decide)
                    refine lv_goto (tgt := 282) hx hb dX5_runActs_204 (by decide) ?_
                    obtain ⟨z_141, ez_141⟩ : ∃ z : Int32, z = i + 1 := ⟨_, rfl⟩
                    have e_z_141 : z_141.toInt = i.toInt + 1 := i_add ez_141 rfl (by decide) (by omega) (by omega)
                    refine lv_iinc (v := z_141) (lv' := [(9, .int z_141), (7, .int r_125), (13, .int z_123), (12, .int u_34), (11, .int u_32), (10, .int r_10), (8, .int po), (6, .int pk), (5, .ref q2), (4, .ref q1), (0, .ref h), (1, .int n), (2, .int x1), (3, .int x2)]) hx hb dX5_runActs_282 hl (k := 5) rfl (by rw [ez_141]; rfl) (by decide) rfl (fun ls hl => ?_)
                    refine lv_goto (tgt := 44) hx hb dX5_runActs_285 (by decide) ?_
                    exact ih (kf - 1) (by omega) g_124 z_141 r_125 pk po q1 q2 H locs ls hT hI hE hM (by omega) (by omega) (by omega) (by omega) (by omega) (by omega) r_129 r_130 (by have e0 := z0; omega) (lv_sub hl [0, 6, 1, 7, 8, 9, 10, 11, 12, 13] rfl)
                  · have c_140' : v_139.toInt ≠ 0 := i_ne c_140 rfl (by decide)
                    refine lv_bipush (v := (-2)) hx hb dX5_runActs_201 (by decide) ?_
                    exact t_iret hB hr hT (Nat.le_of_ble_eq_true rfl) (Nat.le_of_ble_eq_true rfl) dX5_runActs_203 ⟨(-2), rfl, hI, hE, hM⟩
              · refine W.eq (g2 := F0 m 156 ls [.int 0]) rfl ?_
                refine lv_if_eq (tgt := 207) hx hb dX5_runActs_156 (by decide) (fun c_ => ?_) (fun c_ => absurd (by decide) c_)
                refine lv_iload hx hb dX5_runActs_207 (lv_at hl 1 rfl) ?_
                refine lv_bipush (v := 6) hx hb dX5_runActs_209 (by decide) ?_
                refine lv_icmp_ne (tgt := 242) hx hb dX5_runActs_211 (by decide) (fun c_142 => ?_) (fun c_142 => ?_)
                · have c_142' : u_32.toInt ≠ 6 := i_ne c_142 rfl (by decide)
                  refine lv_iload hx hb dX5_runActs_242 (lv_at hl 1 rfl) ?_
                  refine lv_bipush (v := 7) hx hb dX5_runActs_244 (by decide) ?_
                  refine lv_icmp_ne (tgt := 263) hx hb dX5_runActs_246 (by decide) (fun c_143 => ?_) (fun c_143 => ?_)
                  · have c_143' : u_32.toInt ≠ 7 := i_ne c_143 rfl (by decide)
                    refine lv_iload hx hb dX5_runActs_263 (lv_at hl 1 rfl) ?_
                    refine lv_iconst (v := 5) hx hb dX5_runActs_265 (by decide) ?_
                    refine lv_icmp_eq (tgt := 282) hx hb dX5_runActs_266 (by decide) (fun c_144 => ?_) (fun c_144 => ?_)
                    · have c_144' : u_32.toInt = 5 := i_eq c_144 rfl (by decide)
                      obtain ⟨z_145, ez_145⟩ : ∃ z : Int32, z = i + 1 := ⟨_, rfl⟩
                      have e_z_145 : z_145.toInt = i.toInt + 1 := i_add ez_145 rfl (by decide) (by omega) (by omega)
                      refine lv_iinc (v := z_145) (lv' := [(9, .int z_145), (12, .int u_34), (11, .int u_32), (10, .int r_10), (8, .int po), (7, .int j), (6, .int pk), (5, .ref q2), (4, .ref q1), (0, .ref h), (1, .int n), (2, .int x1), (3, .int x2)]) hx hb dX5_runActs_282 hl (k := 3) rfl (by rw [ez_145]; rfl) (by decide) rfl (fun ls hl => ?_)
                      refine lv_goto (tgt := 44) hx hb dX5_runActs_285 (by decide) ?_
                      exact ih (kf - 1) (by omega) g_82 z_145 j pk po q1 q2 H locs ls hT hI hE hM (by omega) (by omega) (by omega) (by omega) (by omega) (by omega) r_88 r_89 (by have e0 := z0; omega) (lv_sub hl [0, 4, 5, 6, 7, 8, 9, 10, 11, 12] rfl)
                    · have c_144' : u_32.toInt ≠ 5 := i_ne c_144 rfl (by decide)
                      exact absurd c_144' (by omega)
                  · have c_143' : u_32.toInt = 7 := i_eq c_143 rfl (by decide)
                    exact absurd c_143' (by omega)
                · have c_142' : u_32.toInt = 6 := i_eq c_142 rfl (by decide)
                  exact absurd c_142' (by omega)
        · have c_7' : v_6.toInt ≤ z_5.toInt := i_nlt c_7 rfl rfl
          refine lv_aload_n hx hb dX5_runActs_78 rfl (lv_at hl 6 rfl) ?_
          refine lv_iconst (v := 1) hx hb dX5_runActs_79 (by decide) ?_
          refine t_put0 (ci := 5) (v := .int 1) hB hT (ro_ci r1_h rfl) (ro_n0 r1_h (by decide)) rfl 7 (by decide) k_216 (Or.inl rfl) rfl rfl dX5_runActs_80 (fun H locs hT => ?_)
          have hI : Inv fr (sF g1 h 7 (.int 1)) := hI.sF (fk r1_h (⟨_, rfl, by decide, by decide⟩))
          have hM : Sm md_s_runActs3 g (sF g1 h 7 (.int 1)) := hM.tr hE (Sm_sF (by rw [r1_h]; rfl))
          have hE : Ex g (sF g1 h 7 (.int 1)) := hE
          refine lv_bipush (v := (-2)) hx hb dX5_runActs_83 (by decide) ?_
          exact t_iret hB hr hT (Nat.le_of_ble_eq_true rfl) (Nat.le_of_ble_eq_true rfl) dX5_runActs_85 ⟨(-2), rfl, hI, hE, hM⟩
      · have c_3' : po.toInt ≠ 0 := i_ne c_3 rfl (by decide)
        refine lv_iconst (v := 0) hx hb dX5_runActs_59 (by decide) ?_
        refine lv_istore (lv' := [(8, .int 0), (9, .int i), (7, .int j), (6, .int pk), (5, .ref q2), (4, .ref q1), (0, .ref h), (1, .int n), (2, .int x1), (3, .int x2)]) hx hb dX5_runActs_60 hl (by decide) rfl (fun ls hl => ?_)
        refine lv_goto (tgt := 282) hx hb dX5_runActs_62 (by decide) ?_
        obtain ⟨z_146, ez_146⟩ : ∃ z : Int32, z = i + 1 := ⟨_, rfl⟩
        have e_z_146 : z_146.toInt = i.toInt + 1 := i_add ez_146 rfl (by decide) (by omega) (by omega)
        refine lv_iinc (v := z_146) (lv' := [(9, .int z_146), (8, .int 0), (7, .int j), (6, .int pk), (5, .ref q2), (4, .ref q1), (0, .ref h), (1, .int n), (2, .int x1), (3, .int x2)]) hx hb dX5_runActs_282 hl (k := 1) rfl (by rw [ez_146]; rfl) (by decide) rfl (fun ls hl => ?_)
        refine lv_goto (tgt := 44) hx hb dX5_runActs_285 (by decide) ?_
        exact ih (kf - 1) (by omega) g1 z_146 j pk (0 : Int32) q1 q2 H locs ls hT hI hE hM (by omega) (by omega) (by omega) (by omega) (by decide) (by decide) r1_q1 r1_q2 (by have e0 := z0; omega) (lv_sub hl [0, 1, 2, 3, 4, 5, 6, 7, 8, 9] rfl)
theorem mdle_s_runActs3_s_isMended {r k : Nat} (h : md_s_runActs3 r k = false) : md_s_isMended r k = false := by
  first | rfl | (simp only [md_s_runActs3, md_s_isMended, Bool.or_eq_false_iff, Bool.and_eq_false_iff, beq_eq_false_iff_ne] at h ⊢; omega)
set_option maxHeartbeats 4000000 in
set_option maxRecDepth 100000 in
theorem s_runActs3 (l : Launch) (D : va_G) (cI cZ cS cR : ClassId) (N0 : NT) (fr : Int32) (g : GS) (hI : Inv fr g) (h : Nat) (n : Int32) (x1 : Int32) (x2 : Int32) (r_h : g.1 h = 6) (l_n : 2 ≤ n.toInt) (u_n : n.toInt ≤ 5) : Ty l D cI cZ cS cR N0 yX5_runActs cX5_runActs 14 (some .int) 7 0 0 [.ref h, .int n, .int x1, .int x2] g (fun v g' => ∃ (r : Int32), v = some (.int r) ∧ Inv fr g' ∧ Ex g g' ∧ Sm md_s_runActs3 g g') := by
  refine t_enter (by decide) (Nat.le_of_ble_eq_true rfl) ?_
  intro p e s m args below meth c ls H locs hB hr hin hl hT
  have hx := hB.1
  have hb := hB.2.1
  have hl : lv_has ls 14 [(0, .ref h), (1, .int n), (2, .int x1), (3, .int x2)] := hl
  have hE : Ex g g := Ex.rf
  have hM : Sm md_s_runActs3 g g := Sm.rf
  refine lv_aload_n hx hb dX5_runActs_0 rfl (lv_at hl 0 rfl) ?_
  obtain ⟨v_1, e_v_1, r_v_1, n_v_1⟩ := hI.f r_h 0
  refine t_get (ci := 5) (v := .ref v_1) hB hT (ro_ci r_h rfl) rfl 0 (by decide) k_199 e_v_1 dX5_runActs_1 ?_
  refine lv_iload_n hx hb dX5_runActs_4 rfl (lv_at hl 1 rfl) ?_
  have i_q_2 : vp_in n 6 := (i_in (n := 6) rfl (by omega) (by omega))
  obtain ⟨q_2, e_q_2, r_q_2⟩ := hI.q r_v_1 n_v_1 (i_cl i_q_2)
  refine t_aald hB hT (Or.inl r_v_1) n_v_1 i_q_2 e_q_2 dX5_runActs_5 ?_
  refine lv_astore (lv' := [(4, .ref q_2), (0, .ref h), (1, .int n), (2, .int x1), (3, .int x2)]) hx hb dX5_runActs_6 hl (by decide) rfl (fun ls hl => ?_)
  refine lv_aload hx hb dX5_runActs_8 (lv_at hl 0 rfl) ?_
  obtain ⟨v_3, e_v_3, r_v_3⟩ := hI.f r_q_2 0
  refine t_get (ci := 3) (v := .ref v_3) hB hT (ro_ci r_q_2 rfl) rfl 0 (by decide) k_145 e_v_3 dX5_runActs_10 ?_
  refine lv_astore (lv' := [(5, .ref v_3), (4, .ref q_2), (0, .ref h), (1, .int n), (2, .int x1), (3, .int x2)]) hx hb dX5_runActs_13 hl (by decide) rfl (fun ls hl => ?_)
  refine lv_iload_n hx hb dX5_runActs_15 rfl (lv_at hl 5 rfl) ?_
  refine lv_if_eq (tgt := 32) hx hb dX5_runActs_16 (by decide) (fun c_4 => ?_) (fun c_4 => ?_)
  · have c_4' : x2.toInt = 0 := i_eq c_4 rfl (by decide)
    refine lv_iconst (v := 0) hx hb dX5_runActs_32 (by decide) ?_
    refine lv_istore (lv' := [(6, .int 0), (5, .ref v_3), (4, .ref q_2), (0, .ref h), (1, .int n), (2, .int x1), (3, .int x2)]) hx hb dX5_runActs_33 hl (by decide) rfl (fun ls hl => ?_)
    refine lv_iconst (v := 0) hx hb dX5_runActs_35 (by decide) ?_
    refine lv_istore (lv' := [(7, .int 0), (6, .int 0), (5, .ref v_3), (4, .ref q_2), (0, .ref h), (1, .int n), (2, .int x1), (3, .int x2)]) hx hb dX5_runActs_36 hl (by decide) rfl (fun ls hl => ?_)
    refine lv_iconst (v := 0) hx hb dX5_runActs_38 (by decide) ?_
    refine lv_istore (lv' := [(8, .int 0), (7, .int 0), (6, .int 0), (5, .ref v_3), (4, .ref q_2), (0, .ref h), (1, .int n), (2, .int x1), (3, .int x2)]) hx hb dX5_runActs_39 hl (by decide) rfl (fun ls hl => ?_)
    refine lv_iconst (v := 0) hx hb dX5_runActs_41 (by decide) ?_
    refine lv_istore (lv' := [(9, .int 0), (8, .int 0), (7, .int 0), (6, .int 0), (5, .ref v_3), (4, .ref q_2), (0, .ref h), (1, .int n), (2, .int x1), (3, .int x2)]) hx hb dX5_runActs_42 hl (by decide) rfl (fun ls hl => ?_)
    exact lt_s_runActs3_a l D cI cZ cS cR N0 fr g h n x1 x2 r_h l_n u_n hB hr 8 g (0 : Int32) (0 : Int32) (0 : Int32) (0 : Int32) q_2 v_3 H locs ls hT hI hE hM (by decide) (by decide) (by decide) (by decide) (by decide) (by decide) r_q_2 r_v_3 (by have e0 := z0; omega) (lv_sub hl [0, 1, 2, 3, 4, 5, 6, 7, 8, 9] rfl)
  · have c_4' : x2.toInt ≠ 0 := i_ne c_4 rfl (by decide)
    refine lv_aload hx hb dX5_runActs_19 (lv_at hl 1 rfl) ?_
    refine lv_iconst (v := 2) hx hb dX5_runActs_21 (by decide) ?_
    refine t_callV (n := 1) (ci := 3) (As := [.int 2]) (rest := []) hB hT hl.1 (s_isMended l D cI cZ cS cR N0 fr g hI q_2 2 r_q_2) (ro_ci r_q_2 rfl) rfl k_512 k_60 k_509 k_510 k_511 (by decide +kernel) ⟨(Nat.le_of_ble_eq_true rfl), (Nat.le_of_ble_eq_true rfl)⟩ rfl (Nat.le_of_ble_eq_true rfl) ⟨(Nat.le_of_ble_eq_true rfl), (Nat.le_of_ble_eq_true rfl)⟩ dX5_runActs_22 (fun v g_5 H locs hp hT => ?_)
    obtain ⟨r_6, rfl, hI, x_9, m_8, f_7⟩ := hp
    have r_10 : g_5.1 h = 6 := (Ex.r x_9 r_h (by decide))
    have r_11 : g_5.1 v_1 = 41 := (Ex.r x_9 r_v_1 (by decide))
    have r_12 : g_5.1 q_2 = 4 := (Ex.r x_9 r_q_2 (by decide))
    have r_13 : g_5.1 v_3 = 3 := (Ex.r x_9 r_v_3 (by decide))
    have n_14 : g_5.2.2.1 v_1 = 6 := (Ex.n x_9 r_v_1 (by decide) n_v_1)
    have e_15 : g_5.2.1 h 0 = .ref v_1 := (Sm.v m_8 r_h (by decide) rfl e_v_1)
    have e_16 : g_5.2.1 q_2 0 = .ref v_3 := (Sm.v m_8 r_q_2 (by decide) rfl e_v_3)
    have hM : Sm md_s_runActs3 g g_5 := hM.tr hE (m_8.mo (fun r k h => mdle_s_runActs3_s_isMended h))
    have hE : Ex g g_5 := hE.tr x_9
    refine W.eq (g2 := F0 m 25 ls [.int r_6]) rfl ?_
    rcases f_7 with rfl | rfl
    · refine W.eq (g2 := F0 m 25 ls [.int 1]) rfl ?_
      refine lv_if_eq (tgt := 32) hx hb dX5_runActs_25 (by decide) (fun c_ => absurd c_ (by decide)) (fun c_ => ?_)
      refine lv_iconst (v := 1) hx hb dX5_runActs_28 (by decide) ?_
      refine lv_goto (tgt := 33) hx hb dX5_runActs_29 (by decide) ?_
      refine lv_istore (lv' := [(6, .int 1), (5, .ref v_3), (4, .ref q_2), (0, .ref h), (1, .int n), (2, .int x1), (3, .int x2)]) hx hb dX5_runActs_33 hl (by decide) rfl (fun ls hl => ?_)
      refine lv_iconst (v := 0) hx hb dX5_runActs_35 (by decide) ?_
      refine lv_istore (lv' := [(7, .int 0), (6, .int 1), (5, .ref v_3), (4, .ref q_2), (0, .ref h), (1, .int n), (2, .int x1), (3, .int x2)]) hx hb dX5_runActs_36 hl (by decide) rfl (fun ls hl => ?_)
      refine lv_iconst (v := 0) hx hb dX5_runActs_38 (by decide) ?_
      refine lv_istore (lv' := [(8, .int 0), (7, .int 0), (6, .int 1), (5, .ref v_3), (4, .ref q_2), (0, .ref h), (1, .int n), (2, .int x1), (3, .int x2)]) hx hb dX5_runActs_39 hl (by decide) rfl (fun ls hl => ?_)
      refine lv_iconst (v := 0) hx hb dX5_runActs_41 (by decide) ?_
      refine lv_istore (lv' := [(9, .int 0), (8, .int 0), (7, .int 0), (6, .int 1), (5, .ref v_3), (4, .ref q_2), (0, .ref h), (1, .int n), (2, .int x1), (3, .int x2)]) hx hb dX5_runActs_42 hl (by decide) rfl (fun ls hl => ?_)
      exact lt_s_runActs3_a l D cI cZ cS cR N0 fr g h n x1 x2 r_h l_n u_n hB hr 8 g_5 (0 : Int32) (0 : Int32) (1 : Int32) (0 : Int32) q_2 v_3 H locs ls hT hI hE hM (by decide) (by decide) (by decide) (by decide) (by decide) (by decide) r_12 r_13 (by have e0 := z0; omega) (lv_sub hl [0, 1, 2, 3, 4, 5, 6, 7, 8, 9] rfl)
    · refine W.eq (g2 := F0 m 25 ls [.int 0]) rfl ?_
      refine lv_if_eq (tgt := 32) hx hb dX5_runActs_25 (by decide) (fun c_ => ?_) (fun c_ => absurd (by decide) c_)
      refine lv_iconst (v := 0) hx hb dX5_runActs_32 (by decide) ?_
      refine lv_istore (lv' := [(6, .int 0), (5, .ref v_3), (4, .ref q_2), (0, .ref h), (1, .int n), (2, .int x1), (3, .int x2)]) hx hb dX5_runActs_33 hl (by decide) rfl (fun ls hl => ?_)
      refine lv_iconst (v := 0) hx hb dX5_runActs_35 (by decide) ?_
      refine lv_istore (lv' := [(7, .int 0), (6, .int 0), (5, .ref v_3), (4, .ref q_2), (0, .ref h), (1, .int n), (2, .int x1), (3, .int x2)]) hx hb dX5_runActs_36 hl (by decide) rfl (fun ls hl => ?_)
      refine lv_iconst (v := 0) hx hb dX5_runActs_38 (by decide) ?_
      refine lv_istore (lv' := [(8, .int 0), (7, .int 0), (6, .int 0), (5, .ref v_3), (4, .ref q_2), (0, .ref h), (1, .int n), (2, .int x1), (3, .int x2)]) hx hb dX5_runActs_39 hl (by decide) rfl (fun ls hl => ?_)
      refine lv_iconst (v := 0) hx hb dX5_runActs_41 (by decide) ?_
      refine lv_istore (lv' := [(9, .int 0), (8, .int 0), (7, .int 0), (6, .int 0), (5, .ref v_3), (4, .ref q_2), (0, .ref h), (1, .int n), (2, .int x1), (3, .int x2)]) hx hb dX5_runActs_42 hl (by decide) rfl (fun ls hl => ?_)
      exact lt_s_runActs3_a l D cI cZ cS cR N0 fr g h n x1 x2 r_h l_n u_n hB hr 8 g_5 (0 : Int32) (0 : Int32) (0 : Int32) (0 : Int32) q_2 v_3 H locs ls hT hI hE hM (by decide) (by decide) (by decide) (by decide) (by decide) (by decide) r_12 r_13 (by have e0 := z0; omega) (lv_sub hl [0, 1, 2, 3, 4, 5, 6, 7, 8, 9] rfl)
def md_s_serve3 : Nat → Nat → Bool := fun r k => (r == 4 && k == 0) || (r == 4 && k == 2) || (r == 4 && k == 3) || (r == 4 && k == 4) || (r == 4 && k == 5) || (r == 4 && k == 10) || (r == 4 && k == 11) || (r == 4 && k == 14) || (r == 6 && k == 4) || (r == 6 && k == 5) || (r == 6 && k == 7)
theorem mdle_s_serve3_s_answerNewest {r k : Nat} (h : md_s_serve3 r k = false) : md_s_answerNewest r k = false := by
  first | rfl | (simp only [md_s_serve3, md_s_answerNewest, Bool.or_eq_false_iff, Bool.and_eq_false_iff, beq_eq_false_iff_ne] at h ⊢; omega)
theorem mdle_s_serve3_s_beginKnown {r k : Nat} (h : md_s_serve3 r k = false) : md_s_beginKnown r k = false := by
  first | rfl | (simp only [md_s_serve3, md_s_beginKnown, Bool.or_eq_false_iff, Bool.and_eq_false_iff, beq_eq_false_iff_ne] at h ⊢; omega)
theorem mdle_s_serve3_s_isMended {r k : Nat} (h : md_s_serve3 r k = false) : md_s_isMended r k = false := by
  first | rfl | (simp only [md_s_serve3, md_s_isMended, Bool.or_eq_false_iff, Bool.and_eq_false_iff, beq_eq_false_iff_ne] at h ⊢; omega)
theorem mdle_s_serve3_s_keep {r k : Nat} (h : md_s_serve3 r k = false) : md_s_keep r k = false := by
  first | rfl | (simp only [md_s_serve3, md_s_keep, Bool.or_eq_false_iff, Bool.and_eq_false_iff, beq_eq_false_iff_ne] at h ⊢; omega)
theorem mdle_s_serve3_s_keptAnswer {r k : Nat} (h : md_s_serve3 r k = false) : md_s_keptAnswer r k = false := by
  first | rfl | (simp only [md_s_serve3, md_s_keptAnswer, Bool.or_eq_false_iff, Bool.and_eq_false_iff, beq_eq_false_iff_ne] at h ⊢; omega)
theorem mdle_s_serve3_s_placeOfKey {r k : Nat} (h : md_s_serve3 r k = false) : md_s_placeOfKey r k = false := by
  first | rfl | (simp only [md_s_serve3, md_s_placeOfKey, Bool.or_eq_false_iff, Bool.and_eq_false_iff, beq_eq_false_iff_ne] at h ⊢; omega)
theorem mdle_s_serve3_s_runActs3 {r k : Nat} (h : md_s_serve3 r k = false) : md_s_runActs3 r k = false := by
  first | rfl | (simp only [md_s_serve3, md_s_runActs3, Bool.or_eq_false_iff, Bool.and_eq_false_iff, beq_eq_false_iff_ne] at h ⊢; omega)
set_option maxHeartbeats 4000000 in
set_option maxRecDepth 100000 in
theorem s_serve3 (l : Launch) (D : va_G) (cI cZ cS cR : ClassId) (N0 : NT) (fr : Int32) (g : GS) (hI : Inv fr g) (h : Nat) (n : Int32) (x1 : Int32) (x2 : Int32) (r_h : g.1 h = 6) (l_n : 2 ≤ n.toInt) (u_n : n.toInt ≤ 5) : Ty l D cI cZ cS cR N0 yX5_serve cX5_serve 9 (some .int) 8 0 0 [.ref h, .int n, .int x1, .int x2] g (fun v g' => ∃ (r : Int32), v = some (.int r) ∧ Inv fr g' ∧ Ex g g' ∧ Sm md_s_serve3 g g') := by
  refine t_enter (by decide) (Nat.le_of_ble_eq_true rfl) ?_
  intro p e s m args below meth c ls H locs hB hr hin hl hT
  have hx := hB.1
  have hb := hB.2.1
  have hl : lv_has ls 9 [(0, .ref h), (1, .int n), (2, .int x1), (3, .int x2)] := hl
  have hE : Ex g g := Ex.rf
  have hM : Sm md_s_serve3 g g := Sm.rf
  refine lv_aload_n hx hb dX5_serve_0 rfl (lv_at hl 0 rfl) ?_
  obtain ⟨v_1, e_v_1, r_v_1, n_v_1⟩ := hI.f r_h 0
  refine t_get (ci := 5) (v := .ref v_1) hB hT (ro_ci r_h rfl) rfl 0 (by decide) k_199 e_v_1 dX5_serve_1 ?_
  refine lv_iload_n hx hb dX5_serve_4 rfl (lv_at hl 1 rfl) ?_
  have i_q_2 : vp_in n 6 := (i_in (n := 6) rfl (by omega) (by omega))
  obtain ⟨q_2, e_q_2, r_q_2⟩ := hI.q r_v_1 n_v_1 (i_cl i_q_2)
  refine t_aald hB hT (Or.inl r_v_1) n_v_1 i_q_2 e_q_2 dX5_serve_5 ?_
  refine lv_astore (lv' := [(4, .ref q_2), (0, .ref h), (1, .int n), (2, .int x1), (3, .int x2)]) hx hb dX5_serve_6 hl (by decide) rfl (fun ls hl => ?_)
  refine lv_iload_n hx hb dX5_serve_8 rfl (lv_at hl 4 rfl) ?_
  refine lv_if_eq (tgt := 25) hx hb dX5_serve_9 (by decide) (fun c_3 => ?_) (fun c_3 => ?_)
  · have c_3' : x2.toInt = 0 := i_eq c_3 rfl (by decide)
    refine lv_iconst (v := 0) hx hb dX5_serve_25 (by decide) ?_
    refine lv_istore (lv' := [(5, .int 0), (4, .ref q_2), (0, .ref h), (1, .int n), (2, .int x1), (3, .int x2)]) hx hb dX5_serve_26 hl (by decide) rfl (fun ls hl => ?_)
    refine lv_iload hx hb dX5_serve_28 (lv_at hl 0 rfl) ?_
    refine lv_if_eq (tgt := 46) hx hb dX5_serve_30 (by decide) (fun c_ => ?_) (fun c_ => absurd (by decide) c_)
    refine lv_iconst (v := 0) hx hb dX5_serve_46 (by decide) ?_
    refine lv_istore (lv' := [(6, .int 0), (5, .int 0), (4, .ref q_2), (0, .ref h), (1, .int n), (2, .int x1), (3, .int x2)]) hx hb dX5_serve_47 hl (by decide) rfl (fun ls hl => ?_)
    refine lv_iload hx hb dX5_serve_49 (lv_at hl 1 rfl) ?_
    refine lv_if_eq (tgt := 63) hx hb dX5_serve_51 (by decide) (fun c_ => ?_) (fun c_ => absurd (by decide) c_)
    refine lv_iconst (v := (-1)) hx hb dX5_serve_63 (by decide) ?_
    refine lv_istore (lv' := [(7, .int (-1)), (6, .int 0), (5, .int 0), (4, .ref q_2), (0, .ref h), (1, .int n), (2, .int x1), (3, .int x2)]) hx hb dX5_serve_64 hl (by decide) rfl (fun ls hl => ?_)
    refine lv_iload hx hb dX5_serve_66 (lv_at hl 0 rfl) ?_
    refine lv_iconst (v := (-1)) hx hb dX5_serve_68 (by decide) ?_
    refine lv_icmp_eq (tgt := 81) hx hb dX5_serve_69 (by decide) (fun c_ => ?_) (fun c_ => absurd (by decide) c_)
    refine lv_iload hx hb dX5_serve_81 (lv_at hl 1 rfl) ?_
    refine lv_if_eq (tgt := 98) hx hb dX5_serve_83 (by decide) (fun c_ => ?_) (fun c_ => absurd (by decide) c_)
    refine lv_aload hx hb dX5_serve_98 (lv_at hl 3 rfl) ?_
    refine lv_iload_n hx hb dX5_serve_100 rfl (lv_at hl 6 rfl) ?_
    refine lv_iload_n hx hb dX5_serve_101 rfl (lv_at hl 7 rfl) ?_
    refine t_callV (n := 2) (ci := 3) (As := [.int x1, .int x2]) (rest := []) hB hT hl.1 (s_beginKnown l D cI cZ cS cR N0 fr g hI q_2 x1 x2 r_q_2) (ro_ci r_q_2 rfl) rfl k_529 k_60 k_526 k_527 k_528 (by decide +kernel) ⟨(Nat.le_of_ble_eq_true rfl), (Nat.le_of_ble_eq_true rfl)⟩ rfl (Nat.le_of_ble_eq_true rfl) ⟨(Nat.le_of_ble_eq_true rfl), (Nat.le_of_ble_eq_true rfl)⟩ dX5_serve_102 (fun v g_4 H locs hp hT => ?_)
    obtain ⟨rfl, hI, x_6, m_5⟩ := hp
    have r_7 : g_4.1 h = 6 := (Ex.r x_6 r_h (by decide))
    have r_8 : g_4.1 v_1 = 41 := (Ex.r x_6 r_v_1 (by decide))
    have r_9 : g_4.1 q_2 = 4 := (Ex.r x_6 r_q_2 (by decide))
    have n_10 : g_4.2.2.1 v_1 = 6 := (Ex.n x_6 r_v_1 (by decide) n_v_1)
    have e_11 : g_4.2.1 h 0 = .ref v_1 := (Sm.v m_5 r_h (by decide) rfl e_v_1)
    have hM : Sm md_s_serve3 g g_4 := hM.tr hE (m_5.mo (fun r k h => mdle_s_serve3_s_beginKnown h))
    have hE : Ex g g_4 := hE.tr x_6
    refine W.eq (g2 := F0 m 105 ls []) rfl ?_
    refine lv_aload_n hx hb dX5_serve_105 rfl (lv_at hl 4 rfl) ?_
    refine lv_iload_n hx hb dX5_serve_106 rfl (lv_at hl 5 rfl) ?_
    refine lv_iload_n hx hb dX5_serve_107 rfl (lv_at hl 6 rfl) ?_
    refine lv_iload_n hx hb dX5_serve_108 rfl (lv_at hl 7 rfl) ?_
    refine t_callV (n := 3) (ci := 5) (As := [.int n, .int x1, .int x2]) (rest := []) hB hT hl.1 (s_runActs3 l D cI cZ cS cR N0 fr g_4 hI h n x1 x2 r_7 (by omega) (by omega)) (ro_ci r_7 rfl) rfl k_534 k_59 k_531 k_533 k_13 (by decide +kernel) ⟨(Nat.le_of_ble_eq_true rfl), (Nat.le_of_ble_eq_true rfl)⟩ rfl (Nat.le_of_ble_eq_true rfl) ⟨(Nat.le_of_ble_eq_true rfl), (Nat.le_of_ble_eq_true rfl)⟩ dX5_serve_109 (fun v g_12 H locs hp hT => ?_)
    obtain ⟨r_13, rfl, hI, x_15, m_14⟩ := hp
    have r_16 : g_12.1 h = 6 := (Ex.r x_15 r_7 (by decide))
    have r_17 : g_12.1 v_1 = 41 := (Ex.r x_15 r_8 (by decide))
    have r_18 : g_12.1 q_2 = 4 := (Ex.r x_15 r_9 (by decide))
    have n_19 : g_12.2.2.1 v_1 = 6 := (Ex.n x_15 r_8 (by decide) n_10)
    have e_20 : g_12.2.1 h 0 = .ref v_1 := (Sm.v m_14 r_7 (by decide) rfl e_11)
    have hM : Sm md_s_serve3 g g_12 := hM.tr hE (m_14.mo (fun r k h => mdle_s_serve3_s_runActs3 h))
    have hE : Ex g g_12 := hE.tr x_15
    refine W.eq (g2 := F0 m 112 ls [.int r_13]) rfl ?_
    refine lv_istore (lv' := [(8, .int r_13), (7, .int (-1)), (6, .int 0), (5, .int 0), (4, .ref q_2), (0, .ref h), (1, .int n), (2, .int x1), (3, .int x2)]) hx hb dX5_serve_112 hl (by decide) rfl (fun ls hl => ?_)
    refine lv_aload_n hx hb dX5_serve_114 rfl (lv_at hl 5 rfl) ?_
    obtain ⟨v_21, e_v_21, l_v_21, u_v_21⟩ := hI.f r_16 7
    refine t_get (ci := 5) (v := .int v_21) hB hT (ro_ci r_16 rfl) rfl 7 (by decide) k_216 e_v_21 dX5_serve_115 ?_
    refine lv_if_eq (tgt := 124) hx hb dX5_serve_118 (by decide) (fun c_22 => ?_) (fun c_22 => ?_)
    · have c_22' : v_21.toInt = 0 := i_eq c_22 rfl (by decide)
      refine lv_iload hx hb dX5_serve_124 (lv_at hl 2 rfl) ?_
      refine lv_if_eq (tgt := 140) hx hb dX5_serve_126 (by decide) (fun c_ => ?_) (fun c_ => absurd (by decide) c_)
      refine lv_iload hx hb dX5_serve_140 (lv_at hl 3 rfl) ?_
      refine lv_if_eq (tgt := 158) hx hb dX5_serve_142 (by decide) (fun c_ => ?_) (fun c_ => absurd (by decide) c_)
      refine lv_iload hx hb dX5_serve_158 (lv_at hl 0 rfl) ?_
      exact t_iret hB hr hT (Nat.le_of_ble_eq_true rfl) (Nat.le_of_ble_eq_true rfl) dX5_serve_160 ⟨r_13, rfl, hI, hE, hM⟩
    · have c_22' : v_21.toInt ≠ 0 := i_ne c_22 rfl (by decide)
      refine lv_bipush (v := (-2)) hx hb dX5_serve_121 (by decide) ?_
      exact t_iret hB hr hT (Nat.le_of_ble_eq_true rfl) (Nat.le_of_ble_eq_true rfl) dX5_serve_123 ⟨(-2), rfl, hI, hE, hM⟩
  · have c_3' : x2.toInt ≠ 0 := i_ne c_3 rfl (by decide)
    refine lv_aload hx hb dX5_serve_12 (lv_at hl 0 rfl) ?_
    refine lv_iconst (v := 0) hx hb dX5_serve_14 (by decide) ?_
    refine t_callV (n := 1) (ci := 3) (As := [.int 0]) (rest := []) hB hT hl.1 (s_isMended l D cI cZ cS cR N0 fr g hI q_2 0 r_q_2) (ro_ci r_q_2 rfl) rfl k_512 k_60 k_509 k_510 k_511 (by decide +kernel) ⟨(Nat.le_of_ble_eq_true rfl), (Nat.le_of_ble_eq_true rfl)⟩ rfl (Nat.le_of_ble_eq_true rfl) ⟨(Nat.le_of_ble_eq_true rfl), (Nat.le_of_ble_eq_true rfl)⟩ dX5_serve_15 (fun v g_23 H locs hp hT => ?_)
    obtain ⟨r_24, rfl, hI, x_27, m_26, f_25⟩ := hp
    have r_28 : g_23.1 h = 6 := (Ex.r x_27 r_h (by decide))
    have r_29 : g_23.1 v_1 = 41 := (Ex.r x_27 r_v_1 (by decide))
    have r_30 : g_23.1 q_2 = 4 := (Ex.r x_27 r_q_2 (by decide))
    have n_31 : g_23.2.2.1 v_1 = 6 := (Ex.n x_27 r_v_1 (by decide) n_v_1)
    have e_32 : g_23.2.1 h 0 = .ref v_1 := (Sm.v m_26 r_h (by decide) rfl e_v_1)
    have hM : Sm md_s_serve3 g g_23 := hM.tr hE (m_26.mo (fun r k h => mdle_s_serve3_s_isMended h))
    have hE : Ex g g_23 := hE.tr x_27
    refine W.eq (g2 := F0 m 18 ls [.int r_24]) rfl ?_
    rcases f_25 with rfl | rfl
    · refine W.eq (g2 := F0 m 18 ls [.int 1]) rfl ?_
      refine lv_if_eq (tgt := 25) hx hb dX5_serve_18 (by decide) (fun c_ => absurd c_ (by decide)) (fun c_ => ?_)
      refine lv_iconst (v := 1) hx hb dX5_serve_21 (by decide) ?_
      refine lv_goto (tgt := 26) hx hb dX5_serve_22 (by decide) ?_
      refine lv_istore (lv' := [(5, .int 1), (4, .ref q_2), (0, .ref h), (1, .int n), (2, .int x1), (3, .int x2)]) hx hb dX5_serve_26 hl (by decide) rfl (fun ls hl => ?_)
      refine lv_iload hx hb dX5_serve_28 (lv_at hl 0 rfl) ?_
      refine lv_if_eq (tgt := 46) hx hb dX5_serve_30 (by decide) (fun c_ => absurd c_ (by decide)) (fun c_ => ?_)
      refine lv_aload hx hb dX5_serve_33 (lv_at hl 1 rfl) ?_
      refine lv_iconst (v := 1) hx hb dX5_serve_35 (by decide) ?_
      refine t_callV (n := 1) (ci := 3) (As := [.int 1]) (rest := []) hB hT hl.1 (s_isMended l D cI cZ cS cR N0 fr g_23 hI q_2 1 r_30) (ro_ci r_30 rfl) rfl k_512 k_60 k_509 k_510 k_511 (by decide +kernel) ⟨(Nat.le_of_ble_eq_true rfl), (Nat.le_of_ble_eq_true rfl)⟩ rfl (Nat.le_of_ble_eq_true rfl) ⟨(Nat.le_of_ble_eq_true rfl), (Nat.le_of_ble_eq_true rfl)⟩ dX5_serve_36 (fun v g_33 H locs hp hT => ?_)
      obtain ⟨r_34, rfl, hI, x_37, m_36, f_35⟩ := hp
      have r_38 : g_33.1 h = 6 := (Ex.r x_37 r_28 (by decide))
      have r_39 : g_33.1 v_1 = 41 := (Ex.r x_37 r_29 (by decide))
      have r_40 : g_33.1 q_2 = 4 := (Ex.r x_37 r_30 (by decide))
      have n_41 : g_33.2.2.1 v_1 = 6 := (Ex.n x_37 r_29 (by decide) n_31)
      have e_42 : g_33.2.1 h 0 = .ref v_1 := (Sm.v m_36 r_28 (by decide) rfl e_32)
      have hM : Sm md_s_serve3 g g_33 := hM.tr hE (m_36.mo (fun r k h => mdle_s_serve3_s_isMended h))
      have hE : Ex g g_33 := hE.tr x_37
      refine W.eq (g2 := F0 m 39 ls [.int r_34]) rfl ?_
      rcases f_35 with rfl | rfl
      · refine W.eq (g2 := F0 m 39 ls [.int 1]) rfl ?_
        refine lv_if_eq (tgt := 46) hx hb dX5_serve_39 (by decide) (fun c_ => absurd c_ (by decide)) (fun c_ => ?_)
        refine lv_iconst (v := 1) hx hb dX5_serve_42 (by decide) ?_
        refine lv_goto (tgt := 47) hx hb dX5_serve_43 (by decide) ?_
        refine lv_istore (lv' := [(6, .int 1), (5, .int 1), (4, .ref q_2), (0, .ref h), (1, .int n), (2, .int x1), (3, .int x2)]) hx hb dX5_serve_47 hl (by decide) rfl (fun ls hl => ?_)
        refine lv_iload hx hb dX5_serve_49 (lv_at hl 1 rfl) ?_
        refine lv_if_eq (tgt := 63) hx hb dX5_serve_51 (by decide) (fun c_ => absurd c_ (by decide)) (fun c_ => ?_)
        refine lv_aload hx hb dX5_serve_54 (lv_at hl 2 rfl) ?_
        refine lv_iload_n hx hb dX5_serve_56 rfl (lv_at hl 6 rfl) ?_
        refine t_callV (n := 1) (ci := 3) (As := [.int x2]) (rest := []) hB hT hl.1 (s_placeOfKey l D cI cZ cS cR N0 fr g_33 hI q_2 x2 r_40) (ro_ci r_40 rfl) rfl k_516 k_60 k_513 k_514 k_515 (by decide +kernel) ⟨(Nat.le_of_ble_eq_true rfl), (Nat.le_of_ble_eq_true rfl)⟩ rfl (Nat.le_of_ble_eq_true rfl) ⟨(Nat.le_of_ble_eq_true rfl), (Nat.le_of_ble_eq_true rfl)⟩ dX5_serve_57 (fun v g_43 H locs hp hT => ?_)
        obtain ⟨r_44, rfl, hI, x_47, m_46, f_45⟩ := hp
        have r_48 : g_43.1 h = 6 := (Ex.r x_47 r_38 (by decide))
        have r_49 : g_43.1 v_1 = 41 := (Ex.r x_47 r_39 (by decide))
        have r_50 : g_43.1 q_2 = 4 := (Ex.r x_47 r_40 (by decide))
        have n_51 : g_43.2.2.1 v_1 = 6 := (Ex.n x_47 r_39 (by decide) n_41)
        have e_52 : g_43.2.1 h 0 = .ref v_1 := (Sm.v m_46 r_38 (by decide) rfl e_42)
        have hM : Sm md_s_serve3 g g_43 := hM.tr hE (m_46.mo (fun r k h => mdle_s_serve3_s_placeOfKey h))
        have hE : Ex g g_43 := hE.tr x_47
        refine W.eq (g2 := F0 m 60 ls [.int r_44]) rfl ?_
        rcases f_45 with rfl | ⟨hw_53, hw_54⟩
        · refine W.eq (g2 := F0 m 60 ls [.int (-1)]) rfl ?_
          refine lv_goto (tgt := 64) hx hb dX5_serve_60 (by decide) ?_
          refine lv_istore (lv' := [(7, .int (-1)), (6, .int 1), (5, .int 1), (4, .ref q_2), (0, .ref h), (1, .int n), (2, .int x1), (3, .int x2)]) hx hb dX5_serve_64 hl (by decide) rfl (fun ls hl => ?_)
          refine lv_iload hx hb dX5_serve_66 (lv_at hl 0 rfl) ?_
          refine lv_iconst (v := (-1)) hx hb dX5_serve_68 (by decide) ?_
          refine lv_icmp_eq (tgt := 81) hx hb dX5_serve_69 (by decide) (fun c_ => ?_) (fun c_ => absurd (by decide) c_)
          refine lv_iload hx hb dX5_serve_81 (lv_at hl 1 rfl) ?_
          refine lv_if_eq (tgt := 98) hx hb dX5_serve_83 (by decide) (fun c_ => absurd c_ (by decide)) (fun c_ => ?_)
          refine lv_aload hx hb dX5_serve_86 (lv_at hl 3 rfl) ?_
          refine lv_iload_n hx hb dX5_serve_88 rfl (lv_at hl 7 rfl) ?_
          refine lv_iload_n hx hb dX5_serve_89 rfl (lv_at hl 6 rfl) ?_
          refine lv_iconst (v := 0) hx hb dX5_serve_90 (by decide) ?_
          refine lv_aload_n hx hb dX5_serve_91 rfl (lv_at hl 4 rfl) ?_
          obtain ⟨v_55, e_v_55⟩ := hI.f r_48 2
          refine t_get (ci := 5) (v := .int v_55) hB hT (ro_ci r_48 rfl) rfl 2 (by decide) k_205 e_v_55 dX5_serve_92 ?_
          refine t_callV (n := 4) (ci := 3) (As := [.int x2, .int x1, .int 0, .int v_55]) (rest := []) hB hT hl.1 (s_keep l D cI cZ cS cR N0 fr g_43 hI q_2 x2 x1 0 v_55 r_50) (ro_ci r_50 rfl) rfl k_524 k_60 k_521 k_522 k_523 (by decide +kernel) ⟨(Nat.le_of_ble_eq_true rfl), (Nat.le_of_ble_eq_true rfl)⟩ rfl (Nat.le_of_ble_eq_true rfl) ⟨(Nat.le_of_ble_eq_true rfl), (Nat.le_of_ble_eq_true rfl)⟩ dX5_serve_95 (fun v g_56 H locs hp hT => ?_)
          obtain ⟨rfl, hI, x_58, m_57⟩ := hp
          have r_59 : g_56.1 h = 6 := (Ex.r x_58 r_48 (by decide))
          have r_60 : g_56.1 v_1 = 41 := (Ex.r x_58 r_49 (by decide))
          have r_61 : g_56.1 q_2 = 4 := (Ex.r x_58 r_50 (by decide))
          have n_62 : g_56.2.2.1 v_1 = 6 := (Ex.n x_58 r_49 (by decide) n_51)
          have e_63 : g_56.2.1 h 0 = .ref v_1 := (Sm.v m_57 r_48 (by decide) rfl e_52)
          have e_64 : g_56.2.1 h 2 = .int v_55 := (Sm.v m_57 r_48 (by decide) rfl e_v_55)
          have hM : Sm md_s_serve3 g g_56 := hM.tr hE (m_57.mo (fun r k h => mdle_s_serve3_s_keep h))
          have hE : Ex g g_56 := hE.tr x_58
          refine W.eq (g2 := F0 m 98 ls []) rfl ?_
          refine lv_aload hx hb dX5_serve_98 (lv_at hl 3 rfl) ?_
          refine lv_iload_n hx hb dX5_serve_100 rfl (lv_at hl 6 rfl) ?_
          refine lv_iload_n hx hb dX5_serve_101 rfl (lv_at hl 7 rfl) ?_
          refine t_callV (n := 2) (ci := 3) (As := [.int x1, .int x2]) (rest := []) hB hT hl.1 (s_beginKnown l D cI cZ cS cR N0 fr g_56 hI q_2 x1 x2 r_61) (ro_ci r_61 rfl) rfl k_529 k_60 k_526 k_527 k_528 (by decide +kernel) ⟨(Nat.le_of_ble_eq_true rfl), (Nat.le_of_ble_eq_true rfl)⟩ rfl (Nat.le_of_ble_eq_true rfl) ⟨(Nat.le_of_ble_eq_true rfl), (Nat.le_of_ble_eq_true rfl)⟩ dX5_serve_102 (fun v g_65 H locs hp hT => ?_)
          obtain ⟨rfl, hI, x_67, m_66⟩ := hp
          have r_68 : g_65.1 h = 6 := (Ex.r x_67 r_59 (by decide))
          have r_69 : g_65.1 v_1 = 41 := (Ex.r x_67 r_60 (by decide))
          have r_70 : g_65.1 q_2 = 4 := (Ex.r x_67 r_61 (by decide))
          have n_71 : g_65.2.2.1 v_1 = 6 := (Ex.n x_67 r_60 (by decide) n_62)
          have e_72 : g_65.2.1 h 0 = .ref v_1 := (Sm.v m_66 r_59 (by decide) rfl e_63)
          have e_73 : g_65.2.1 h 2 = .int v_55 := (Sm.v m_66 r_59 (by decide) rfl e_64)
          have hM : Sm md_s_serve3 g g_65 := hM.tr hE (m_66.mo (fun r k h => mdle_s_serve3_s_beginKnown h))
          have hE : Ex g g_65 := hE.tr x_67
          refine W.eq (g2 := F0 m 105 ls []) rfl ?_
          refine lv_aload_n hx hb dX5_serve_105 rfl (lv_at hl 4 rfl) ?_
          refine lv_iload_n hx hb dX5_serve_106 rfl (lv_at hl 5 rfl) ?_
          refine lv_iload_n hx hb dX5_serve_107 rfl (lv_at hl 6 rfl) ?_
          refine lv_iload_n hx hb dX5_serve_108 rfl (lv_at hl 7 rfl) ?_
          refine t_callV (n := 3) (ci := 5) (As := [.int n, .int x1, .int x2]) (rest := []) hB hT hl.1 (s_runActs3 l D cI cZ cS cR N0 fr g_65 hI h n x1 x2 r_68 (by omega) (by omega)) (ro_ci r_68 rfl) rfl k_534 k_59 k_531 k_533 k_13 (by decide +kernel) ⟨(Nat.le_of_ble_eq_true rfl), (Nat.le_of_ble_eq_true rfl)⟩ rfl (Nat.le_of_ble_eq_true rfl) ⟨(Nat.le_of_ble_eq_true rfl), (Nat.le_of_ble_eq_true rfl)⟩ dX5_serve_109 (fun v g_74 H locs hp hT => ?_)
          obtain ⟨r_75, rfl, hI, x_77, m_76⟩ := hp
          have r_78 : g_74.1 h = 6 := (Ex.r x_77 r_68 (by decide))
          have r_79 : g_74.1 v_1 = 41 := (Ex.r x_77 r_69 (by decide))
          have r_80 : g_74.1 q_2 = 4 := (Ex.r x_77 r_70 (by decide))
          have n_81 : g_74.2.2.1 v_1 = 6 := (Ex.n x_77 r_69 (by decide) n_71)
          have e_82 : g_74.2.1 h 0 = .ref v_1 := (Sm.v m_76 r_68 (by decide) rfl e_72)
          have e_83 : g_74.2.1 h 2 = .int v_55 := (Sm.v m_76 r_68 (by decide) rfl e_73)
          have hM : Sm md_s_serve3 g g_74 := hM.tr hE (m_76.mo (fun r k h => mdle_s_serve3_s_runActs3 h))
          have hE : Ex g g_74 := hE.tr x_77
          refine W.eq (g2 := F0 m 112 ls [.int r_75]) rfl ?_
          refine lv_istore (lv' := [(8, .int r_75), (7, .int (-1)), (6, .int 1), (5, .int 1), (4, .ref q_2), (0, .ref h), (1, .int n), (2, .int x1), (3, .int x2)]) hx hb dX5_serve_112 hl (by decide) rfl (fun ls hl => ?_)
          refine lv_aload_n hx hb dX5_serve_114 rfl (lv_at hl 5 rfl) ?_
          obtain ⟨v_84, e_v_84, l_v_84, u_v_84⟩ := hI.f r_78 7
          refine t_get (ci := 5) (v := .int v_84) hB hT (ro_ci r_78 rfl) rfl 7 (by decide) k_216 e_v_84 dX5_serve_115 ?_
          refine lv_if_eq (tgt := 124) hx hb dX5_serve_118 (by decide) (fun c_85 => ?_) (fun c_85 => ?_)
          · have c_85' : v_84.toInt = 0 := i_eq c_85 rfl (by decide)
            refine lv_iload hx hb dX5_serve_124 (lv_at hl 2 rfl) ?_
            refine lv_if_eq (tgt := 140) hx hb dX5_serve_126 (by decide) (fun c_ => absurd c_ (by decide)) (fun c_ => ?_)
            refine lv_aload hx hb dX5_serve_129 (lv_at hl 4 rfl) ?_
            refine lv_iload_n hx hb dX5_serve_131 rfl (lv_at hl 8 rfl) ?_
            refine lv_iload hx hb dX5_serve_132 (lv_at hl 0 rfl) ?_
            refine t_callV (n := 2) (ci := 3) (As := [.int x2, .int r_75]) (rest := []) hB hT hl.1 (s_answerNewest l D cI cZ cS cR N0 fr g_74 hI q_2 x2 r_75 r_80) (ro_ci r_80 rfl) rfl k_554 k_60 k_551 k_552 k_553 (by decide +kernel) ⟨(Nat.le_of_ble_eq_true rfl), (Nat.le_of_ble_eq_true rfl)⟩ rfl (Nat.le_of_ble_eq_true rfl) ⟨(Nat.le_of_ble_eq_true rfl), (Nat.le_of_ble_eq_true rfl)⟩ dX5_serve_134 (fun v g_86 H locs hp hT => ?_)
            obtain ⟨rfl, hI, x_88, m_87⟩ := hp
            have r_89 : g_86.1 h = 6 := (Ex.r x_88 r_78 (by decide))
            have r_90 : g_86.1 v_1 = 41 := (Ex.r x_88 r_79 (by decide))
            have r_91 : g_86.1 q_2 = 4 := (Ex.r x_88 r_80 (by decide))
            have n_92 : g_86.2.2.1 v_1 = 6 := (Ex.n x_88 r_79 (by decide) n_81)
            have e_93 : g_86.2.1 h 0 = .ref v_1 := (Sm.v m_87 r_78 (by decide) rfl e_82)
            have e_94 : g_86.2.1 h 2 = .int v_55 := (Sm.v m_87 r_78 (by decide) rfl e_83)
            have e_95 : g_86.2.1 h 7 = .int v_84 := (Sm.v m_87 r_78 (by decide) rfl e_v_84)
            have hM : Sm md_s_serve3 g g_86 := hM.tr hE (m_87.mo (fun r k h => mdle_s_serve3_s_answerNewest h))
            have hE : Ex g g_86 := hE.tr x_88
            refine W.eq (g2 := F0 m 137 ls []) rfl ?_
            refine lv_goto (tgt := 158) hx hb dX5_serve_137 (by decide) ?_
            refine lv_iload hx hb dX5_serve_158 (lv_at hl 0 rfl) ?_
            exact t_iret hB hr hT (Nat.le_of_ble_eq_true rfl) (Nat.le_of_ble_eq_true rfl) dX5_serve_160 ⟨r_75, rfl, hI, hE, hM⟩
          · have c_85' : v_84.toInt ≠ 0 := i_ne c_85 rfl (by decide)
            refine lv_bipush (v := (-2)) hx hb dX5_serve_121 (by decide) ?_
            exact t_iret hB hr hT (Nat.le_of_ble_eq_true rfl) (Nat.le_of_ble_eq_true rfl) dX5_serve_123 ⟨(-2), rfl, hI, hE, hM⟩
        · refine W.eq (g2 := F0 m 60 ls [.int r_44]) rfl ?_
          refine lv_goto (tgt := 64) hx hb dX5_serve_60 (by decide) ?_
          refine lv_istore (lv' := [(7, .int r_44), (6, .int 1), (5, .int 1), (4, .ref q_2), (0, .ref h), (1, .int n), (2, .int x1), (3, .int x2)]) hx hb dX5_serve_64 hl (by decide) rfl (fun ls hl => ?_)
          refine lv_iload hx hb dX5_serve_66 (lv_at hl 0 rfl) ?_
          refine lv_iconst (v := (-1)) hx hb dX5_serve_68 (by decide) ?_
          refine lv_icmp_eq (tgt := 81) hx hb dX5_serve_69 (by decide) (fun c_96 => ?_) (fun c_96 => ?_)
          · have c_96' : r_44.toInt = (-1) := i_eq c_96 rfl (by decide)
            exact absurd c_96' (by omega)
          · have c_96' : r_44.toInt ≠ (-1) := i_ne c_96 rfl (by decide)
            refine lv_aload hx hb dX5_serve_72 (lv_at hl 3 rfl) ?_
            refine lv_iload hx hb dX5_serve_74 (lv_at hl 0 rfl) ?_
            refine lv_iload_n hx hb dX5_serve_76 rfl (lv_at hl 6 rfl) ?_
            refine t_callV (n := 2) (ci := 3) (As := [.int r_44, .int x1]) (rest := []) hB hT hl.1 (s_keptAnswer l D cI cZ cS cR N0 fr g_43 hI q_2 r_44 x1 r_50 (by omega) (by omega)) (ro_ci r_50 rfl) rfl k_520 k_60 k_517 k_518 k_519 (by decide +kernel) ⟨(Nat.le_of_ble_eq_true rfl), (Nat.le_of_ble_eq_true rfl)⟩ rfl (Nat.le_of_ble_eq_true rfl) ⟨(Nat.le_of_ble_eq_true rfl), (Nat.le_of_ble_eq_true rfl)⟩ dX5_serve_77 (fun v g_97 H locs hp hT => ?_)
            obtain ⟨r_98, rfl, hI, x_100, m_99⟩ := hp
            have r_101 : g_97.1 h = 6 := (Ex.r x_100 r_48 (by decide))
            have r_102 : g_97.1 v_1 = 41 := (Ex.r x_100 r_49 (by decide))
            have r_103 : g_97.1 q_2 = 4 := (Ex.r x_100 r_50 (by decide))
            have n_104 : g_97.2.2.1 v_1 = 6 := (Ex.n x_100 r_49 (by decide) n_51)
            have e_105 : g_97.2.1 h 0 = .ref v_1 := (Sm.v m_99 r_48 (by decide) rfl e_52)
            have hM : Sm md_s_serve3 g g_97 := hM.tr hE (m_99.mo (fun r k h => mdle_s_serve3_s_keptAnswer h))
            have hE : Ex g g_97 := hE.tr x_100
            refine W.eq (g2 := F0 m 80 ls [.int r_98]) rfl ?_
            exact t_iret hB hr hT (Nat.le_of_ble_eq_true rfl) (Nat.le_of_ble_eq_true rfl) dX5_serve_80 ⟨r_98, rfl, hI, hE, hM⟩
      · refine W.eq (g2 := F0 m 39 ls [.int 0]) rfl ?_
        refine lv_if_eq (tgt := 46) hx hb dX5_serve_39 (by decide) (fun c_ => ?_) (fun c_ => absurd (by decide) c_)
        refine lv_iconst (v := 0) hx hb dX5_serve_46 (by decide) ?_
        refine lv_istore (lv' := [(6, .int 0), (5, .int 1), (4, .ref q_2), (0, .ref h), (1, .int n), (2, .int x1), (3, .int x2)]) hx hb dX5_serve_47 hl (by decide) rfl (fun ls hl => ?_)
        refine lv_iload hx hb dX5_serve_49 (lv_at hl 1 rfl) ?_
        refine lv_if_eq (tgt := 63) hx hb dX5_serve_51 (by decide) (fun c_ => absurd c_ (by decide)) (fun c_ => ?_)
        refine lv_aload hx hb dX5_serve_54 (lv_at hl 2 rfl) ?_
        refine lv_iload_n hx hb dX5_serve_56 rfl (lv_at hl 6 rfl) ?_
        refine t_callV (n := 1) (ci := 3) (As := [.int x2]) (rest := []) hB hT hl.1 (s_placeOfKey l D cI cZ cS cR N0 fr g_33 hI q_2 x2 r_40) (ro_ci r_40 rfl) rfl k_516 k_60 k_513 k_514 k_515 (by decide +kernel) ⟨(Nat.le_of_ble_eq_true rfl), (Nat.le_of_ble_eq_true rfl)⟩ rfl (Nat.le_of_ble_eq_true rfl) ⟨(Nat.le_of_ble_eq_true rfl), (Nat.le_of_ble_eq_true rfl)⟩ dX5_serve_57 (fun v g_106 H locs hp hT => ?_)
        obtain ⟨r_107, rfl, hI, x_110, m_109, f_108⟩ := hp
        have r_111 : g_106.1 h = 6 := (Ex.r x_110 r_38 (by decide))
        have r_112 : g_106.1 v_1 = 41 := (Ex.r x_110 r_39 (by decide))
        have r_113 : g_106.1 q_2 = 4 := (Ex.r x_110 r_40 (by decide))
        have n_114 : g_106.2.2.1 v_1 = 6 := (Ex.n x_110 r_39 (by decide) n_41)
        have e_115 : g_106.2.1 h 0 = .ref v_1 := (Sm.v m_109 r_38 (by decide) rfl e_42)
        have hM : Sm md_s_serve3 g g_106 := hM.tr hE (m_109.mo (fun r k h => mdle_s_serve3_s_placeOfKey h))
        have hE : Ex g g_106 := hE.tr x_110
        refine W.eq (g2 := F0 m 60 ls [.int r_107]) rfl ?_
        rcases f_108 with rfl | ⟨hw_116, hw_117⟩
        · refine W.eq (g2 := F0 m 60 ls [.int (-1)]) rfl ?_
          refine lv_goto (tgt := 64) hx hb dX5_serve_60 (by decide) ?_
          refine lv_istore (lv' := [(7, .int (-1)), (6, .int 0), (5, .int 1), (4, .ref q_2), (0, .ref h), (1, .int n), (2, .int x1), (3, .int x2)]) hx hb dX5_serve_64 hl (by decide) rfl (fun ls hl => ?_)
          refine lv_iload hx hb dX5_serve_66 (lv_at hl 0 rfl) ?_
          refine lv_iconst (v := (-1)) hx hb dX5_serve_68 (by decide) ?_
          refine lv_icmp_eq (tgt := 81) hx hb dX5_serve_69 (by decide) (fun c_ => ?_) (fun c_ => absurd (by decide) c_)
          refine lv_iload hx hb dX5_serve_81 (lv_at hl 1 rfl) ?_
          refine lv_if_eq (tgt := 98) hx hb dX5_serve_83 (by decide) (fun c_ => ?_) (fun c_ => absurd (by decide) c_)
          refine lv_aload hx hb dX5_serve_98 (lv_at hl 3 rfl) ?_
          refine lv_iload_n hx hb dX5_serve_100 rfl (lv_at hl 6 rfl) ?_
          refine lv_iload_n hx hb dX5_serve_101 rfl (lv_at hl 7 rfl) ?_
          refine t_callV (n := 2) (ci := 3) (As := [.int x1, .int x2]) (rest := []) hB hT hl.1 (s_beginKnown l D cI cZ cS cR N0 fr g_106 hI q_2 x1 x2 r_113) (ro_ci r_113 rfl) rfl k_529 k_60 k_526 k_527 k_528 (by decide +kernel) ⟨(Nat.le_of_ble_eq_true rfl), (Nat.le_of_ble_eq_true rfl)⟩ rfl (Nat.le_of_ble_eq_true rfl) ⟨(Nat.le_of_ble_eq_true rfl), (Nat.le_of_ble_eq_true rfl)⟩ dX5_serve_102 (fun v g_118 H locs hp hT => ?_)
          obtain ⟨rfl, hI, x_120, m_119⟩ := hp
          have r_121 : g_118.1 h = 6 := (Ex.r x_120 r_111 (by decide))
          have r_122 : g_118.1 v_1 = 41 := (Ex.r x_120 r_112 (by decide))
          have r_123 : g_118.1 q_2 = 4 := (Ex.r x_120 r_113 (by decide))
          have n_124 : g_118.2.2.1 v_1 = 6 := (Ex.n x_120 r_112 (by decide) n_114)
          have e_125 : g_118.2.1 h 0 = .ref v_1 := (Sm.v m_119 r_111 (by decide) rfl e_115)
          have hM : Sm md_s_serve3 g g_118 := hM.tr hE (m_119.mo (fun r k h => mdle_s_serve3_s_beginKnown h))
          have hE : Ex g g_118 := hE.tr x_120
          refine W.eq (g2 := F0 m 105 ls []) rfl ?_
          refine lv_aload_n hx hb dX5_serve_105 rfl (lv_at hl 4 rfl) ?_
          refine lv_iload_n hx hb dX5_serve_106 rfl (lv_at hl 5 rfl) ?_
          refine lv_iload_n hx hb dX5_serve_107 rfl (lv_at hl 6 rfl) ?_
          refine lv_iload_n hx hb dX5_serve_108 rfl (lv_at hl 7 rfl) ?_
          refine t_callV (n := 3) (ci := 5) (As := [.int n, .int x1, .int x2]) (rest := []) hB hT hl.1 (s_runActs3 l D cI cZ cS cR N0 fr g_118 hI h n x1 x2 r_121 (by omega) (by omega)) (ro_ci r_121 rfl) rfl k_534 k_59 k_531 k_533 k_13 (by decide +kernel) ⟨(Nat.le_of_ble_eq_true rfl), (Nat.le_of_ble_eq_true rfl)⟩ rfl (Nat.le_of_ble_eq_true rfl) ⟨(Nat.le_of_ble_eq_true rfl), (Nat.le_of_ble_eq_true rfl)⟩ dX5_serve_109 (fun v g_126 H locs hp hT => ?_)
          obtain ⟨r_127, rfl, hI, x_129, m_128⟩ := hp
          have r_130 : g_126.1 h = 6 := (Ex.r x_129 r_121 (by decide))
          have r_131 : g_126.1 v_1 = 41 := (Ex.r x_129 r_122 (by decide))
          have r_132 : g_126.1 q_2 = 4 := (Ex.r x_129 r_123 (by decide))
          have n_133 : g_126.2.2.1 v_1 = 6 := (Ex.n x_129 r_122 (by decide) n_124)
          have e_134 : g_126.2.1 h 0 = .ref v_1 := (Sm.v m_128 r_121 (by decide) rfl e_125)
          have hM : Sm md_s_serve3 g g_126 := hM.tr hE (m_128.mo (fun r k h => mdle_s_serve3_s_runActs3 h))
          have hE : Ex g g_126 := hE.tr x_129
          refine W.eq (g2 := F0 m 112 ls [.int r_127]) rfl ?_
          refine lv_istore (lv' := [(8, .int r_127), (7, .int (-1)), (6, .int 0), (5, .int 1), (4, .ref q_2), (0, .ref h), (1, .int n), (2, .int x1), (3, .int x2)]) hx hb dX5_serve_112 hl (by decide) rfl (fun ls hl => ?_)
          refine lv_aload_n hx hb dX5_serve_114 rfl (lv_at hl 5 rfl) ?_
          obtain ⟨v_135, e_v_135, l_v_135, u_v_135⟩ := hI.f r_130 7
          refine t_get (ci := 5) (v := .int v_135) hB hT (ro_ci r_130 rfl) rfl 7 (by decide) k_216 e_v_135 dX5_serve_115 ?_
          refine lv_if_eq (tgt := 124) hx hb dX5_serve_118 (by decide) (fun c_136 => ?_) (fun c_136 => ?_)
          · have c_136' : v_135.toInt = 0 := i_eq c_136 rfl (by decide)
            refine lv_iload hx hb dX5_serve_124 (lv_at hl 2 rfl) ?_
            refine lv_if_eq (tgt := 140) hx hb dX5_serve_126 (by decide) (fun c_ => ?_) (fun c_ => absurd (by decide) c_)
            refine lv_iload hx hb dX5_serve_140 (lv_at hl 3 rfl) ?_
            refine lv_if_eq (tgt := 158) hx hb dX5_serve_142 (by decide) (fun c_ => absurd c_ (by decide)) (fun c_ => ?_)
            refine lv_aload hx hb dX5_serve_145 (lv_at hl 4 rfl) ?_
            refine lv_iload_n hx hb dX5_serve_147 rfl (lv_at hl 8 rfl) ?_
            refine lv_iload_n hx hb dX5_serve_148 rfl (lv_at hl 7 rfl) ?_
            refine lv_iload hx hb dX5_serve_149 (lv_at hl 0 rfl) ?_
            refine lv_aload_n hx hb dX5_serve_151 rfl (lv_at hl 5 rfl) ?_
            obtain ⟨v_137, e_v_137⟩ := hI.f r_130 2
            refine t_get (ci := 5) (v := .int v_137) hB hT (ro_ci r_130 rfl) rfl 2 (by decide) k_205 e_v_137 dX5_serve_152 ?_
            refine t_callV (n := 4) (ci := 3) (As := [.int x2, .int x1, .int r_127, .int v_137]) (rest := []) hB hT hl.1 (s_keep l D cI cZ cS cR N0 fr g_126 hI q_2 x2 x1 r_127 v_137 r_132) (ro_ci r_132 rfl) rfl k_524 k_60 k_521 k_522 k_523 (by decide +kernel) ⟨(Nat.le_of_ble_eq_true rfl), (Nat.le_of_ble_eq_true rfl)⟩ rfl (Nat.le_of_ble_eq_true rfl) ⟨(Nat.le_of_ble_eq_true rfl), (Nat.le_of_ble_eq_true rfl)⟩ dX5_serve_155 (fun v g_138 H locs hp hT => ?_)
            obtain ⟨rfl, hI, x_140, m_139⟩ := hp
            have r_141 : g_138.1 h = 6 := (Ex.r x_140 r_130 (by decide))
            have r_142 : g_138.1 v_1 = 41 := (Ex.r x_140 r_131 (by decide))
            have r_143 : g_138.1 q_2 = 4 := (Ex.r x_140 r_132 (by decide))
            have n_144 : g_138.2.2.1 v_1 = 6 := (Ex.n x_140 r_131 (by decide) n_133)
            have e_145 : g_138.2.1 h 0 = .ref v_1 := (Sm.v m_139 r_130 (by decide) rfl e_134)
            have e_146 : g_138.2.1 h 7 = .int v_135 := (Sm.v m_139 r_130 (by decide) rfl e_v_135)
            have e_147 : g_138.2.1 h 2 = .int v_137 := (Sm.v m_139 r_130 (by decide) rfl e_v_137)
            have hM : Sm md_s_serve3 g g_138 := hM.tr hE (m_139.mo (fun r k h => mdle_s_serve3_s_keep h))
            have hE : Ex g g_138 := hE.tr x_140
            refine W.eq (g2 := F0 m 158 ls []) rfl ?_
            refine lv_iload hx hb dX5_serve_158 (lv_at hl 0 rfl) ?_
            exact t_iret hB hr hT (Nat.le_of_ble_eq_true rfl) (Nat.le_of_ble_eq_true rfl) dX5_serve_160 ⟨r_127, rfl, hI, hE, hM⟩
          · have c_136' : v_135.toInt ≠ 0 := i_ne c_136 rfl (by decide)
            refine lv_bipush (v := (-2)) hx hb dX5_serve_121 (by decide) ?_
            exact t_iret hB hr hT (Nat.le_of_ble_eq_true rfl) (Nat.le_of_ble_eq_true rfl) dX5_serve_123 ⟨(-2), rfl, hI, hE, hM⟩
        · refine W.eq (g2 := F0 m 60 ls [.int r_107]) rfl ?_
          refine lv_goto (tgt := 64) hx hb dX5_serve_60 (by decide) ?_
          refine lv_istore (lv' := [(7, .int r_107), (6, .int 0), (5, .int 1), (4, .ref q_2), (0, .ref h), (1, .int n), (2, .int x1), (3, .int x2)]) hx hb dX5_serve_64 hl (by decide) rfl (fun ls hl => ?_)
          refine lv_iload hx hb dX5_serve_66 (lv_at hl 0 rfl) ?_
          refine lv_iconst (v := (-1)) hx hb dX5_serve_68 (by decide) ?_
          refine lv_icmp_eq (tgt := 81) hx hb dX5_serve_69 (by decide) (fun c_148 => ?_) (fun c_148 => ?_)
          · have c_148' : r_107.toInt = (-1) := i_eq c_148 rfl (by decide)
            exact absurd c_148' (by omega)
          · have c_148' : r_107.toInt ≠ (-1) := i_ne c_148 rfl (by decide)
            refine lv_aload hx hb dX5_serve_72 (lv_at hl 3 rfl) ?_
            refine lv_iload hx hb dX5_serve_74 (lv_at hl 0 rfl) ?_
            refine lv_iload_n hx hb dX5_serve_76 rfl (lv_at hl 6 rfl) ?_
            refine t_callV (n := 2) (ci := 3) (As := [.int r_107, .int x1]) (rest := []) hB hT hl.1 (s_keptAnswer l D cI cZ cS cR N0 fr g_106 hI q_2 r_107 x1 r_113 (by omega) (by omega)) (ro_ci r_113 rfl) rfl k_520 k_60 k_517 k_518 k_519 (by decide +kernel) ⟨(Nat.le_of_ble_eq_true rfl), (Nat.le_of_ble_eq_true rfl)⟩ rfl (Nat.le_of_ble_eq_true rfl) ⟨(Nat.le_of_ble_eq_true rfl), (Nat.le_of_ble_eq_true rfl)⟩ dX5_serve_77 (fun v g_149 H locs hp hT => ?_)
            obtain ⟨r_150, rfl, hI, x_152, m_151⟩ := hp
            have r_153 : g_149.1 h = 6 := (Ex.r x_152 r_111 (by decide))
            have r_154 : g_149.1 v_1 = 41 := (Ex.r x_152 r_112 (by decide))
            have r_155 : g_149.1 q_2 = 4 := (Ex.r x_152 r_113 (by decide))
            have n_156 : g_149.2.2.1 v_1 = 6 := (Ex.n x_152 r_112 (by decide) n_114)
            have e_157 : g_149.2.1 h 0 = .ref v_1 := (Sm.v m_151 r_111 (by decide) rfl e_115)
            have hM : Sm md_s_serve3 g g_149 := hM.tr hE (m_151.mo (fun r k h => mdle_s_serve3_s_keptAnswer h))
            have hE : Ex g g_149 := hE.tr x_152
            refine W.eq (g2 := F0 m 80 ls [.int r_150]) rfl ?_
            exact t_iret hB hr hT (Nat.le_of_ble_eq_true rfl) (Nat.le_of_ble_eq_true rfl) dX5_serve_80 ⟨r_150, rfl, hI, hE, hM⟩
    · refine W.eq (g2 := F0 m 18 ls [.int 0]) rfl ?_
      refine lv_if_eq (tgt := 25) hx hb dX5_serve_18 (by decide) (fun c_ => ?_) (fun c_ => absurd (by decide) c_)
      refine lv_iconst (v := 0) hx hb dX5_serve_25 (by decide) ?_
      refine lv_istore (lv' := [(5, .int 0), (4, .ref q_2), (0, .ref h), (1, .int n), (2, .int x1), (3, .int x2)]) hx hb dX5_serve_26 hl (by decide) rfl (fun ls hl => ?_)
      refine lv_iload hx hb dX5_serve_28 (lv_at hl 0 rfl) ?_
      refine lv_if_eq (tgt := 46) hx hb dX5_serve_30 (by decide) (fun c_ => ?_) (fun c_ => absurd (by decide) c_)
      refine lv_iconst (v := 0) hx hb dX5_serve_46 (by decide) ?_
      refine lv_istore (lv' := [(6, .int 0), (5, .int 0), (4, .ref q_2), (0, .ref h), (1, .int n), (2, .int x1), (3, .int x2)]) hx hb dX5_serve_47 hl (by decide) rfl (fun ls hl => ?_)
      refine lv_iload hx hb dX5_serve_49 (lv_at hl 1 rfl) ?_
      refine lv_if_eq (tgt := 63) hx hb dX5_serve_51 (by decide) (fun c_ => ?_) (fun c_ => absurd (by decide) c_)
      refine lv_iconst (v := (-1)) hx hb dX5_serve_63 (by decide) ?_
      refine lv_istore (lv' := [(7, .int (-1)), (6, .int 0), (5, .int 0), (4, .ref q_2), (0, .ref h), (1, .int n), (2, .int x1), (3, .int x2)]) hx hb dX5_serve_64 hl (by decide) rfl (fun ls hl => ?_)
      refine lv_iload hx hb dX5_serve_66 (lv_at hl 0 rfl) ?_
      refine lv_iconst (v := (-1)) hx hb dX5_serve_68 (by decide) ?_
      refine lv_icmp_eq (tgt := 81) hx hb dX5_serve_69 (by decide) (fun c_ => ?_) (fun c_ => absurd (by decide) c_)
      refine lv_iload hx hb dX5_serve_81 (lv_at hl 1 rfl) ?_
      refine lv_if_eq (tgt := 98) hx hb dX5_serve_83 (by decide) (fun c_ => ?_) (fun c_ => absurd (by decide) c_)
      refine lv_aload hx hb dX5_serve_98 (lv_at hl 3 rfl) ?_
      refine lv_iload_n hx hb dX5_serve_100 rfl (lv_at hl 6 rfl) ?_
      refine lv_iload_n hx hb dX5_serve_101 rfl (lv_at hl 7 rfl) ?_
      refine t_callV (n := 2) (ci := 3) (As := [.int x1, .int x2]) (rest := []) hB hT hl.1 (s_beginKnown l D cI cZ cS cR N0 fr g_23 hI q_2 x1 x2 r_30) (ro_ci r_30 rfl) rfl k_529 k_60 k_526 k_527 k_528 (by decide +kernel) ⟨(Nat.le_of_ble_eq_true rfl), (Nat.le_of_ble_eq_true rfl)⟩ rfl (Nat.le_of_ble_eq_true rfl) ⟨(Nat.le_of_ble_eq_true rfl), (Nat.le_of_ble_eq_true rfl)⟩ dX5_serve_102 (fun v g_158 H locs hp hT => ?_)
      obtain ⟨rfl, hI, x_160, m_159⟩ := hp
      have r_161 : g_158.1 h = 6 := (Ex.r x_160 r_28 (by decide))
      have r_162 : g_158.1 v_1 = 41 := (Ex.r x_160 r_29 (by decide))
      have r_163 : g_158.1 q_2 = 4 := (Ex.r x_160 r_30 (by decide))
      have n_164 : g_158.2.2.1 v_1 = 6 := (Ex.n x_160 r_29 (by decide) n_31)
      have e_165 : g_158.2.1 h 0 = .ref v_1 := (Sm.v m_159 r_28 (by decide) rfl e_32)
      have hM : Sm md_s_serve3 g g_158 := hM.tr hE (m_159.mo (fun r k h => mdle_s_serve3_s_beginKnown h))
      have hE : Ex g g_158 := hE.tr x_160
      refine W.eq (g2 := F0 m 105 ls []) rfl ?_
      refine lv_aload_n hx hb dX5_serve_105 rfl (lv_at hl 4 rfl) ?_
      refine lv_iload_n hx hb dX5_serve_106 rfl (lv_at hl 5 rfl) ?_
      refine lv_iload_n hx hb dX5_serve_107 rfl (lv_at hl 6 rfl) ?_
      refine lv_iload_n hx hb dX5_serve_108 rfl (lv_at hl 7 rfl) ?_
      refine t_callV (n := 3) (ci := 5) (As := [.int n, .int x1, .int x2]) (rest := []) hB hT hl.1 (s_runActs3 l D cI cZ cS cR N0 fr g_158 hI h n x1 x2 r_161 (by omega) (by omega)) (ro_ci r_161 rfl) rfl k_534 k_59 k_531 k_533 k_13 (by decide +kernel) ⟨(Nat.le_of_ble_eq_true rfl), (Nat.le_of_ble_eq_true rfl)⟩ rfl (Nat.le_of_ble_eq_true rfl) ⟨(Nat.le_of_ble_eq_true rfl), (Nat.le_of_ble_eq_true rfl)⟩ dX5_serve_109 (fun v g_166 H locs hp hT => ?_)
      obtain ⟨r_167, rfl, hI, x_169, m_168⟩ := hp
      have r_170 : g_166.1 h = 6 := (Ex.r x_169 r_161 (by decide))
      have r_171 : g_166.1 v_1 = 41 := (Ex.r x_169 r_162 (by decide))
      have r_172 : g_166.1 q_2 = 4 := (Ex.r x_169 r_163 (by decide))
      have n_173 : g_166.2.2.1 v_1 = 6 := (Ex.n x_169 r_162 (by decide) n_164)
      have e_174 : g_166.2.1 h 0 = .ref v_1 := (Sm.v m_168 r_161 (by decide) rfl e_165)
      have hM : Sm md_s_serve3 g g_166 := hM.tr hE (m_168.mo (fun r k h => mdle_s_serve3_s_runActs3 h))
      have hE : Ex g g_166 := hE.tr x_169
      refine W.eq (g2 := F0 m 112 ls [.int r_167]) rfl ?_
      refine lv_istore (lv' := [(8, .int r_167), (7, .int (-1)), (6, .int 0), (5, .int 0), (4, .ref q_2), (0, .ref h), (1, .int n), (2, .int x1), (3, .int x2)]) hx hb dX5_serve_112 hl (by decide) rfl (fun ls hl => ?_)
      refine lv_aload_n hx hb dX5_serve_114 rfl (lv_at hl 5 rfl) ?_
      obtain ⟨v_175, e_v_175, l_v_175, u_v_175⟩ := hI.f r_170 7
      refine t_get (ci := 5) (v := .int v_175) hB hT (ro_ci r_170 rfl) rfl 7 (by decide) k_216 e_v_175 dX5_serve_115 ?_
      refine lv_if_eq (tgt := 124) hx hb dX5_serve_118 (by decide) (fun c_176 => ?_) (fun c_176 => ?_)
      · have c_176' : v_175.toInt = 0 := i_eq c_176 rfl (by decide)
        refine lv_iload hx hb dX5_serve_124 (lv_at hl 2 rfl) ?_
        refine lv_if_eq (tgt := 140) hx hb dX5_serve_126 (by decide) (fun c_ => ?_) (fun c_ => absurd (by decide) c_)
        refine lv_iload hx hb dX5_serve_140 (lv_at hl 3 rfl) ?_
        refine lv_if_eq (tgt := 158) hx hb dX5_serve_142 (by decide) (fun c_ => ?_) (fun c_ => absurd (by decide) c_)
        refine lv_iload hx hb dX5_serve_158 (lv_at hl 0 rfl) ?_
        exact t_iret hB hr hT (Nat.le_of_ble_eq_true rfl) (Nat.le_of_ble_eq_true rfl) dX5_serve_160 ⟨r_167, rfl, hI, hE, hM⟩
      · have c_176' : v_175.toInt ≠ 0 := i_ne c_176 rfl (by decide)
        refine lv_bipush (v := (-2)) hx hb dX5_serve_121 (by decide) ?_
        exact t_iret hB hr hT (Nat.le_of_ble_eq_true rfl) (Nat.le_of_ble_eq_true rfl) dX5_serve_123 ⟨(-2), rfl, hI, hE, hM⟩
def md_s_runActs4 : Nat → Nat → Bool := fun r k => (r == 4 && k == 0) || (r == 4 && k == 2) || (r == 4 && k == 3) || (r == 4 && k == 4) || (r == 4 && k == 5) || (r == 4 && k == 10) || (r == 4 && k == 11) || (r == 4 && k == 14) || (r == 6 && k == 4) || (r == 6 && k == 5) || (r == 6 && k == 7)
theorem mdle_s_runActs4_s_canAsk {r k : Nat} (h : md_s_runActs4 r k = false) : md_s_canAsk r k = false := by
  first | rfl | (simp only [md_s_runActs4, md_s_canAsk, Bool.or_eq_false_iff, Bool.and_eq_false_iff, beq_eq_false_iff_ne] at h ⊢; omega)
theorem mdle_s_runActs4_s_isHeldBack {r k : Nat} (h : md_s_runActs4 r k = false) : md_s_isHeldBack r k = false := by
  first | rfl | (simp only [md_s_runActs4, md_s_isHeldBack, Bool.or_eq_false_iff, Bool.and_eq_false_iff, beq_eq_false_iff_ne] at h ⊢; omega)
theorem mdle_s_runActs4_s_passesOver {r k : Nat} (h : md_s_runActs4 r k = false) : md_s_passesOver r k = false := by
  first | rfl | (simp only [md_s_runActs4, md_s_passesOver, Bool.or_eq_false_iff, Bool.and_eq_false_iff, beq_eq_false_iff_ne] at h ⊢; omega)
theorem mdle_s_runActs4_s_perform {r k : Nat} (h : md_s_runActs4 r k = false) : md_s_perform r k = false := by
  first | rfl | (simp only [md_s_runActs4, md_s_perform, Bool.or_eq_false_iff, Bool.and_eq_false_iff, beq_eq_false_iff_ne] at h ⊢; omega)
theorem mdle_s_runActs4_s_serve3 {r k : Nat} (h : md_s_runActs4 r k = false) : md_s_serve3 r k = false := by
  first | rfl | (simp only [md_s_runActs4, md_s_serve3, Bool.or_eq_false_iff, Bool.and_eq_false_iff, beq_eq_false_iff_ne] at h ⊢; omega)
theorem mdle_s_runActs4_s_valueAt {r k : Nat} (h : md_s_runActs4 r k = false) : md_s_valueAt r k = false := by
  first | rfl | (simp only [md_s_runActs4, md_s_valueAt, Bool.or_eq_false_iff, Bool.and_eq_false_iff, beq_eq_false_iff_ne] at h ⊢; omega)
set_option maxHeartbeats 4000000 in
set_option maxRecDepth 100000 in
theorem lt_s_runActs4_a (l : Launch) (D : va_G) (cI cZ cS cR : ClassId) (N0 : NT) (fr : Int32) (g : GS) (h : Nat) (n : Int32) (x1 : Int32) (x2 : Int32) (r_h : g.1 h = 6) (l_n : 1 ≤ n.toInt) (u_n : n.toInt ≤ 5) {p : Program} {e : Env} {s : State} {m : MethodId} {args : Array Value} {below : List Frame} {meth : Method} {c : Code} (hB : Tz p s m meth c args cX5_runActs 14 RX5 D cI cZ cS cR N0) (hr : meth.sig.returnType = (some .int))  : ∀ (kf : Nat) (g1 : GS) (i : Int32) (j : Int32) (pk : Int32) (po : Int32) (q1 : Nat) (q2 : Nat) (H : Heap) (locs : List Loc) (ls : Array Slot), Tv D cI cZ cS cR N0 s.heap H locs g1 → Inv fr g1 → Ex g g1 → Sm md_s_runActs4 g g1 → 0 ≤ i.toInt → i.toInt ≤ 8 → 0 ≤ pk.toInt → pk.toInt ≤ 1 → 0 ≤ po.toInt → po.toInt ≤ 1 → g1.1 q1 = 4 → g1.1 q2 = 3 → 8 ≤ i.toInt + kf → lv_has ls 14 [(9, .int i), (8, .int po), (7, .int j), (6, .int pk), (5, .ref q2), (4, .ref q1), (0, .ref h), (1, .int n), (2, .int x1), (3, .int x2)] → W p l e (rmx 9 0 0) s m args below meth c H locs 0 0 (MQ below (tQ D cI cZ cS cR N0 (fun v g' => ∃ (r : Int32), v = some (.int r) ∧ Inv fr g' ∧ Ex g g' ∧ Sm md_s_runActs4 g g')) args s 0 0 (fun q => N0.1 ≤ q)) (F0 m 44 ls []) := by
  have hx := hB.1
  have hb := hB.2.1
  intro kf
  induction kf using Nat.strongRecOn with
  | ind kf ih =>
    intro g1 i j pk po q1 q2 H locs ls hT hI hE hM l_i u_i l_pk u_pk l_po u_po r1_q1 r1_q2 hk hl
    have r1_h : g1.1 h = 6 := Ex.r hE r_h (by decide)
    refine lv_iload hx hb dX5_runActs_44 (lv_at hl 0 rfl) ?_
    refine lv_aload hx hb dX5_runActs_46 (lv_at hl 4 rfl) ?_
    obtain ⟨v_1, e_v_1, l_v_1, u_v_1⟩ := hI.f r1_q2 3
    refine t_get (ci := 2) (v := .int v_1) hB hT (ro_ci r1_q2 rfl) rfl 3 (by decide) k_133 e_v_1 dX5_runActs_48 ?_
    refine lv_icmp_ge (tgt := 288) hx hb dX5_runActs_51 (by decide) (fun c_2 => ?_) (fun c_2 => ?_)
    · have c_2' : v_1.toInt ≤ i.toInt := i_le c_2 rfl rfl
      refine lv_iload hx hb dX5_runActs_288 (lv_at hl 2 rfl) ?_
      exact t_iret hB hr hT (Nat.le_of_ble_eq_true rfl) (Nat.le_of_ble_eq_true rfl) dX5_runActs_290 ⟨j, rfl, hI, hE, hM⟩
    · have c_2' : i.toInt < v_1.toInt := i_nle c_2 rfl rfl
      refine lv_iload hx hb dX5_runActs_54 (lv_at hl 1 rfl) ?_
      refine lv_if_eq (tgt := 65) hx hb dX5_runActs_56 (by decide) (fun c_3 => ?_) (fun c_3 => ?_)
      · have c_3' : po.toInt = 0 := i_eq c_3 rfl (by decide)
        refine lv_aload_n hx hb dX5_runActs_65 rfl (lv_at hl 6 rfl) ?_
        obtain ⟨v_4, e_v_4⟩ := hI.f r1_h 5
        refine t_get (ci := 5) (v := .int v_4) hB hT (ro_ci r1_h rfl) rfl 5 (by decide) k_213 e_v_4 dX5_runActs_66 ?_
        refine lv_iconst (v := 1) hx hb dX5_runActs_69 (by decide) ?_
        refine lv_iadd hx hb dX5_runActs_70 ?_
        refine lv_topi (fun z_5 ez_5 => ?_)
        refine lv_aload_n hx hb dX5_runActs_71 rfl (lv_at hl 6 rfl) ?_
        obtain ⟨v_6, e_v_6⟩ := hI.f r1_h 6
        refine t_get (ci := 5) (v := .int v_6) hB hT (ro_ci r1_h rfl) rfl 6 (by decide) k_215 e_v_6 dX5_runActs_72 ?_
        refine lv_icmp_lt (tgt := 86) hx hb dX5_runActs_75 (by decide) (fun c_7 => ?_) (fun c_7 => ?_)
        · have c_7' : z_5.toInt < v_6.toInt := i_lt c_7 rfl rfl
          refine lv_aload_n hx hb dX5_runActs_86 rfl (lv_at hl 6 rfl) ?_
          refine lv_dup hx hb dX5_runActs_87 rfl ?_
          refine t_get (ci := 5) (v := .int v_4) hB hT (ro_ci r1_h rfl) rfl 5 (by decide) k_213 e_v_4 dX5_runActs_88 ?_
          refine lv_iconst (v := 1) hx hb dX5_runActs_91 (by decide) ?_
          refine lv_iadd hx hb dX5_runActs_92 ?_
          refine lv_topi (fun z_8 ez_8 => ?_)
          refine t_put0 (ci := 5) (v := .int z_8) hB hT (ro_ci r1_h rfl) (ro_n0 r1_h (by decide)) rfl 5 (by decide) k_213 (Or.inl rfl) rfl rfl dX5_runActs_93 (fun H locs hT => ?_)
          have hI : Inv fr (sF g1 h 5 (.int z_8)) := hI.sF (fk r1_h (⟨_, rfl⟩))
          have hM : Sm md_s_runActs4 g (sF g1 h 5 (.int z_8)) := hM.tr hE (Sm_sF (by rw [r1_h]; rfl))
          have hE : Ex g (sF g1 h 5 (.int z_8)) := hE
          refine lv_aload hx hb dX5_runActs_96 (lv_at hl 4 rfl) ?_
          refine lv_iload hx hb dX5_runActs_98 (lv_at hl 0 rfl) ?_
          refine lv_iload_n hx hb dX5_runActs_100 rfl (lv_at hl 8 rfl) ?_
          refine lv_iload hx hb dX5_runActs_101 (lv_at hl 2 rfl) ?_
          refine t_callV (n := 3) (ci := 2) (As := [.int i, .int x1, .int j]) (rest := []) hB hT hl.1 (s_valueAt l D cI cZ cS cR N0 fr (sF g1 h 5 (.int z_8)) hI q2 i x1 j r1_q2 (by omega) (by omega)) (ro_ci r1_q2 rfl) rfl k_538 k_61 k_535 k_536 k_537 (by decide +kernel) ⟨(Nat.le_of_ble_eq_true rfl), (Nat.le_of_ble_eq_true rfl)⟩ rfl (Nat.le_of_ble_eq_true rfl) ⟨(Nat.le_of_ble_eq_true rfl), (Nat.le_of_ble_eq_true rfl)⟩ dX5_runActs_103 (fun v g_9 H locs hp hT => ?_)
          obtain ⟨r_10, rfl, hI, x_12, m_11⟩ := hp
          have r_13 : g_9.1 h = 6 := (Ex.r x_12 r1_h (by decide))
          have r_14 : g_9.1 q1 = 4 := (Ex.r x_12 r1_q1 (by decide))
          have r_15 : g_9.1 q2 = 3 := (Ex.r x_12 r1_q2 (by decide))
          have e_16 : g_9.2.1 q2 3 = .int v_1 := (Sm.v m_11 r1_q2 (by decide) rfl (sF_k e_v_1 (by decide)))
          have e_17 : g_9.2.1 h 6 = .int v_6 := (Sm.v m_11 r1_h (by decide) rfl (sF_k e_v_6 (by decide)))
          have e_18 : g_9.2.1 h 5 = .int z_8 := (Sm.v m_11 r1_h (by decide) rfl sF_eq)
          have hM : Sm md_s_runActs4 g g_9 := hM.tr hE (m_11.mo (fun r k h => mdle_s_runActs4_s_valueAt h))
          have hE : Ex g g_9 := hE.tr x_12
          refine W.eq (g2 := F0 m 106 ls [.int r_10]) rfl ?_
          refine lv_istore (lv' := [(10, .int r_10), (9, .int i), (8, .int po), (7, .int j), (6, .int pk), (5, .ref q2), (4, .ref q1), (0, .ref h), (1, .int n), (2, .int x1), (3, .int x2)]) hx hb dX5_runActs_106 hl (by decide) rfl (fun ls hl => ?_)
          refine lv_aload hx hb dX5_runActs_108 (lv_at hl 6 rfl) ?_
          refine lv_iload hx hb dX5_runActs_110 (lv_at hl 1 rfl) ?_
          refine lv_iload hx hb dX5_runActs_112 (lv_at hl 0 rfl) ?_
          refine t_callV (n := 2) (ci := 3) (As := [.int i, .int r_10]) (rest := []) hB hT hl.1 (s_isHeldBack l D cI cZ cS cR N0 fr g_9 hI q1 i r_10 r_14 (by omega) (by omega)) (ro_ci r_14 rfl) rfl k_542 k_60 k_539 k_540 k_541 (by decide +kernel) ⟨(Nat.le_of_ble_eq_true rfl), (Nat.le_of_ble_eq_true rfl)⟩ rfl (Nat.le_of_ble_eq_true rfl) ⟨(Nat.le_of_ble_eq_true rfl), (Nat.le_of_ble_eq_true rfl)⟩ dX5_runActs_114 (fun v g_19 H locs hp hT => ?_)
          obtain ⟨r_20, rfl, hI, x_23, m_22, f_21⟩ := hp
          have r_24 : g_19.1 h = 6 := (Ex.r x_23 r_13 (by decide))
          have r_25 : g_19.1 q1 = 4 := (Ex.r x_23 r_14 (by decide))
          have r_26 : g_19.1 q2 = 3 := (Ex.r x_23 r_15 (by decide))
          have e_27 : g_19.2.1 q2 3 = .int v_1 := (Sm.v m_22 r_15 (by decide) rfl e_16)
          have e_28 : g_19.2.1 h 6 = .int v_6 := (Sm.v m_22 r_13 (by decide) rfl e_17)
          have e_29 : g_19.2.1 h 5 = .int z_8 := (Sm.v m_22 r_13 (by decide) rfl e_18)
          have hM : Sm md_s_runActs4 g g_19 := hM.tr hE (m_22.mo (fun r k h => mdle_s_runActs4_s_isHeldBack h))
          have hE : Ex g g_19 := hE.tr x_23
          refine W.eq (g2 := F0 m 117 ls [.int r_20]) rfl ?_
          rcases f_21 with rfl | rfl
          · refine W.eq (g2 := F0 m 117 ls [.int 1]) rfl ?_
            refine lv_if_eq (tgt := 123) hx hb dX5_runActs_117 (by decide) (fun c_ => absurd c_ (by decide)) (fun c_ => ?_)
            refine lv_goto (tgt := 282) hx hb dX5_runActs_120 (by decide) ?_
            obtain ⟨z_30, ez_30⟩ : ∃ z : Int32, z = i + 1 := ⟨_, rfl⟩
            have e_z_30 : z_30.toInt = i.toInt + 1 := i_add ez_30 rfl (by decide) (by omega) (by omega)
            refine lv_iinc (v := z_30) (lv' := [(9, .int z_30), (10, .int r_10), (8, .int po), (7, .int j), (6, .int pk), (5, .ref q2), (4, .ref q1), (0, .ref h), (1, .int n), (2, .int x1), (3, .int x2)]) hx hb dX5_runActs_282 hl (k := 1) rfl (by rw [ez_30]; rfl) (by decide) rfl (fun ls hl => ?_)
            refine lv_goto (tgt := 44) hx hb dX5_runActs_285 (by decide) ?_
            exact ih (kf - 1) (by omega) g_19 z_30 j pk po q1 q2 H locs ls hT hI hE hM (by omega) (by omega) (by omega) (by omega) (by omega) (by omega) r_25 r_26 (by have e0 := z0; omega) (lv_sub hl [0, 2, 3, 4, 5, 6, 7, 8, 9, 10] rfl)
          · refine W.eq (g2 := F0 m 117 ls [.int 0]) rfl ?_
            refine lv_if_eq (tgt := 123) hx hb dX5_runActs_117 (by decide) (fun c_ => ?_) (fun c_ => absurd (by decide) c_)
            refine lv_aload hx hb dX5_runActs_123 (lv_at hl 5 rfl) ?_
            obtain ⟨v_31, e_v_31, r_v_31, n_v_31⟩ := hI.f r_26 0
            refine t_get (ci := 2) (v := .ref v_31) hB hT (ro_ci r_26 rfl) rfl 0 (by decide) k_122 e_v_31 dX5_runActs_125 ?_
            refine lv_iload hx hb dX5_runActs_128 (lv_at hl 1 rfl) ?_
            have i_u_32 : vp_in i 8 := (i_in (n := 8) rfl (by omega) (by omega))
            refine t_iald hB hT (ro_in r_v_31 (by decide)) n_v_31 i_u_32 rfl dX5_runActs_130 ?_
            refine lv_topi (fun u_32 e_u_32 => ?_)
            refine lv_istore (lv' := [(11, .int u_32), (10, .int r_10), (9, .int i), (8, .int po), (7, .int j), (6, .int pk), (5, .ref q2), (4, .ref q1), (0, .ref h), (1, .int n), (2, .int x1), (3, .int x2)]) hx hb dX5_runActs_131 hl (by decide) rfl (fun ls hl => ?_)
            refine lv_aload hx hb dX5_runActs_133 (lv_at hl 6 rfl) ?_
            obtain ⟨v_33, e_v_33, r_v_33, n_v_33⟩ := hI.f r_26 1
            refine t_get (ci := 2) (v := .ref v_33) hB hT (ro_ci r_26 rfl) rfl 1 (by decide) k_126 e_v_33 dX5_runActs_135 ?_
            refine lv_iload hx hb dX5_runActs_138 (lv_at hl 2 rfl) ?_
            have i_u_34 : vp_in i 8 := (i_in (n := 8) rfl (by omega) (by omega))
            refine t_iald hB hT (ro_in r_v_33 (by decide)) n_v_33 i_u_34 rfl dX5_runActs_140 ?_
            have c_u_34 := hI.c r_v_33 n_v_33 (i_cl i_u_34)
            refine lv_topi (fun u_34 e_u_34 => ?_)
            obtain ⟨l_u_34, u_u_34⟩ := c_u_34
            rw [← e_u_34] at l_u_34 u_u_34
            refine lv_istore (lv' := [(12, .int u_34), (11, .int u_32), (10, .int r_10), (9, .int i), (8, .int po), (7, .int j), (6, .int pk), (5, .ref q2), (4, .ref q1), (0, .ref h), (1, .int n), (2, .int x1), (3, .int x2)]) hx hb dX5_runActs_141 hl (by decide) rfl (fun ls hl => ?_)
            refine lv_iload hx hb dX5_runActs_143 (lv_at hl 1 rfl) ?_
            refine lv_iconst (v := 5) hx hb dX5_runActs_145 (by decide) ?_
            refine lv_icmp_ne (tgt := 207) hx hb dX5_runActs_146 (by decide) (fun c_35 => ?_) (fun c_35 => ?_)
            · have c_35' : u_32.toInt ≠ 5 := i_ne c_35 rfl (by decide)
              refine lv_iload hx hb dX5_runActs_207 (lv_at hl 1 rfl) ?_
              refine lv_bipush (v := 6) hx hb dX5_runActs_209 (by decide) ?_
              refine lv_icmp_ne (tgt := 242) hx hb dX5_runActs_211 (by decide) (fun c_36 => ?_) (fun c_36 => ?_)
              · have c_36' : u_32.toInt ≠ 6 := i_ne c_36 rfl (by decide)
                refine lv_iload hx hb dX5_runActs_242 (lv_at hl 1 rfl) ?_
                refine lv_bipush (v := 7) hx hb dX5_runActs_244 (by decide) ?_
                refine lv_icmp_ne (tgt := 263) hx hb dX5_runActs_246 (by decide) (fun c_37 => ?_) (fun c_37 => ?_)
                · have c_37' : u_32.toInt ≠ 7 := i_ne c_37 rfl (by decide)
                  refine lv_iload hx hb dX5_runActs_263 (lv_at hl 1 rfl) ?_
                  refine lv_iconst (v := 5) hx hb dX5_runActs_265 (by decide) ?_
                  refine lv_icmp_eq (tgt := 282) hx hb dX5_runActs_266 (by decide) (fun c_38 => ?_) (fun c_38 => ?_)
                  · have c_38' : u_32.toInt = 5 := i_eq c_38 rfl (by decide)
                    obtain ⟨z_39, ez_39⟩ : ∃ z : Int32, z = i + 1 := ⟨_, rfl⟩
                    have e_z_39 : z_39.toInt = i.toInt + 1 := i_add ez_39 rfl (by decide) (by omega) (by omega)
                    refine lv_iinc (v := z_39) (lv' := [(9, .int z_39), (12, .int u_34), (11, .int u_32), (10, .int r_10), (8, .int po), (7, .int j), (6, .int pk), (5, .ref q2), (4, .ref q1), (0, .ref h), (1, .int n), (2, .int x1), (3, .int x2)]) hx hb dX5_runActs_282 hl (k := 3) rfl (by rw [ez_39]; rfl) (by decide) rfl (fun ls hl => ?_)
                    refine lv_goto (tgt := 44) hx hb dX5_runActs_285 (by decide) ?_
                    exact ih (kf - 1) (by omega) g_19 z_39 j pk po q1 q2 H locs ls hT hI hE hM (by omega) (by omega) (by omega) (by omega) (by omega) (by omega) r_25 r_26 (by have e0 := z0; omega) (lv_sub hl [0, 4, 5, 6, 7, 8, 9, 10, 11, 12] rfl)
                  · have c_38' : u_32.toInt ≠ 5 := i_ne c_38 rfl (by decide)
                    refine lv_aload hx hb dX5_runActs_269 (lv_at hl 8 rfl) ?_
                    refine lv_iload hx hb dX5_runActs_271 (lv_at hl 3 rfl) ?_
                    refine lv_iload hx hb dX5_runActs_273 (lv_at hl 2 rfl) ?_
                    refine lv_iload hx hb dX5_runActs_275 (lv_at hl 5 rfl) ?_
                    refine t_callV (n := 3) (ci := 3) (As := [.int i, .int r_10, .int j]) (rest := []) hB hT hl.1 (s_perform l D cI cZ cS cR N0 fr g_19 hI q1 i r_10 j r_25 (by omega) (by omega)) (ro_ci r_25 rfl) rfl k_550 k_60 k_547 k_548 k_549 (by decide +kernel) ⟨(Nat.le_of_ble_eq_true rfl), (Nat.le_of_ble_eq_true rfl)⟩ rfl (Nat.le_of_ble_eq_true rfl) ⟨(Nat.le_of_ble_eq_true rfl), (Nat.le_of_ble_eq_true rfl)⟩ dX5_runActs_277 (fun v g_40 H locs hp hT => ?_)
                    obtain ⟨r_41, rfl, hI, x_43, m_42⟩ := hp
                    have r_44 : g_40.1 h = 6 := (Ex.r x_43 r_24 (by decide))
                    have r_45 : g_40.1 q1 = 4 := (Ex.r x_43 r_25 (by decide))
                    have r_46 : g_40.1 q2 = 3 := (Ex.r x_43 r_26 (by decide))
                    have r_47 : g_40.1 v_31 = 20 := (Ex.r x_43 r_v_31 (by decide))
                    have r_48 : g_40.1 v_33 = 21 := (Ex.r x_43 r_v_33 (by decide))
                    have n_49 : g_40.2.2.1 v_31 = 8 := (Ex.n x_43 r_v_31 (by decide) n_v_31)
                    have n_50 : g_40.2.2.1 v_33 = 8 := (Ex.n x_43 r_v_33 (by decide) n_v_33)
                    have e_51 : g_40.2.1 q2 3 = .int v_1 := (Sm.v m_42 r_26 (by decide) rfl e_27)
                    have e_52 : g_40.2.1 h 6 = .int v_6 := (Sm.v m_42 r_24 (by decide) rfl e_28)
                    have e_53 : g_40.2.1 h 5 = .int z_8 := (Sm.v m_42 r_24 (by decide) rfl e_29)
                    have e_54 : g_40.2.1 q2 0 = .ref v_31 := (Sm.v m_42 r_26 (by decide) rfl e_v_31)
                    have e_55 : g_40.2.1 q2 1 = .ref v_33 := (Sm.v m_42 r_26 (by decide) rfl e_v_33)
                    have hM : Sm md_s_runActs4 g g_40 := hM.tr hE (m_42.mo (fun r k h => mdle_s_runActs4_s_perform h))
                    have hE : Ex g g_40 := hE.tr x_43
                    refine W.eq (g2 := F0 m 280 ls [.int r_41]) rfl ?_
                    refine lv_istore (lv' := [(7, .int r_41), (12, .int u_34), (11, .int u_32), (10, .int r_10), (9, .int i), (8, .int po), (6, .int pk), (5, .ref q2), (4, .ref q1), (0, .ref h), (1, .int n), (2, .int x1), (3, .int x2)]) hx hb dX5_runActs_280 hl (by decide) rfl (fun ls hl => ?_)
                    obtain ⟨z_56, ez_56⟩ : ∃ z : Int32, z = i + 1 := ⟨_, rfl⟩
                    have e_z_56 : z_56.toInt = i.toInt + 1 := i_add ez_56 rfl (by decide) (by omega) (by omega)
                    refine lv_iinc (v := z_56) (lv' := [(9, .int z_56), (7, .int r_41), (12, .int u_34), (11, .int u_32), (10, .int r_10), (8, .int po), (6, .int pk), (5, .ref q2), (4, .ref q1), (0, .ref h), (1, .int n), (2, .int x1), (3, .int x2)]) hx hb dX5_runActs_282 hl (k := 4) rfl (by rw [ez_56]; rfl) (by decide) rfl (fun ls hl => ?_)
                    refine lv_goto (tgt := 44) hx hb dX5_runActs_285 (by decide) ?_
                    exact ih (kf - 1) (by omega) g_40 z_56 r_41 pk po q1 q2 H locs ls hT hI hE hM (by omega) (by omega) (by omega) (by omega) (by omega) (by omega) r_45 r_46 (by have e0 := z0; omega) (lv_sub hl [0, 5, 1, 6, 7, 8, 9, 10, 11, 12] rfl)
                · have c_37' : u_32.toInt = 7 := i_eq c_37 rfl (by decide)
                  refine lv_aload hx hb dX5_runActs_249 (lv_at hl 8 rfl) ?_
                  refine lv_iload hx hb dX5_runActs_251 (lv_at hl 3 rfl) ?_
                  refine lv_iload hx hb dX5_runActs_253 (lv_at hl 2 rfl) ?_
                  refine t_callV (n := 2) (ci := 3) (As := [.int i, .int r_10]) (rest := []) hB hT hl.1 (s_passesOver l D cI cZ cS cR N0 fr g_19 hI q1 i r_10 r_25 (by omega) (by omega)) (ro_ci r_25 rfl) rfl k_546 k_60 k_543 k_544 k_545 (by decide +kernel) ⟨(Nat.le_of_ble_eq_true rfl), (Nat.le_of_ble_eq_true rfl)⟩ rfl (Nat.le_of_ble_eq_true rfl) ⟨(Nat.le_of_ble_eq_true rfl), (Nat.le_of_ble_eq_true rfl)⟩ dX5_runActs_255 (fun v g_57 H locs hp hT => ?_)
                  obtain ⟨r_58, rfl, hI, x_61, m_60, f_59⟩ := hp
                  have r_62 : g_57.1 h = 6 := (Ex.r x_61 r_24 (by decide))
                  have r_63 : g_57.1 q1 = 4 := (Ex.r x_61 r_25 (by decide))
                  have r_64 : g_57.1 q2 = 3 := (Ex.r x_61 r_26 (by decide))
                  have r_65 : g_57.1 v_31 = 20 := (Ex.r x_61 r_v_31 (by decide))
                  have r_66 : g_57.1 v_33 = 21 := (Ex.r x_61 r_v_33 (by decide))
                  have n_67 : g_57.2.2.1 v_31 = 8 := (Ex.n x_61 r_v_31 (by decide) n_v_31)
                  have n_68 : g_57.2.2.1 v_33 = 8 := (Ex.n x_61 r_v_33 (by decide) n_v_33)
                  have e_69 : g_57.2.1 q2 3 = .int v_1 := (Sm.v m_60 r_26 (by decide) rfl e_27)
                  have e_70 : g_57.2.1 h 6 = .int v_6 := (Sm.v m_60 r_24 (by decide) rfl e_28)
                  have e_71 : g_57.2.1 h 5 = .int z_8 := (Sm.v m_60 r_24 (by decide) rfl e_29)
                  have e_72 : g_57.2.1 q2 0 = .ref v_31 := (Sm.v m_60 r_26 (by decide) rfl e_v_31)
                  have e_73 : g_57.2.1 q2 1 = .ref v_33 := (Sm.v m_60 r_26 (by decide) rfl e_v_33)
                  have hM : Sm md_s_runActs4 g g_57 := hM.tr hE (m_60.mo (fun r k h => mdle_s_runActs4_s_passesOver h))
                  have hE : Ex g g_57 := hE.tr x_61
                  refine W.eq (g2 := F0 m 258 ls [.int r_58]) rfl ?_
                  rcases f_59 with rfl | rfl
                  · refine W.eq (g2 := F0 m 258 ls [.int 1]) rfl ?_
                    refine lv_istore (lv' := [(8, .int 1), (12, .int u_34), (11, .int u_32), (10, .int r_10), (9, .int i), (7, .int j), (6, .int pk), (5, .ref q2), (4, .ref q1), (0, .ref h), (1, .int n), (2, .int x1), (3, .int x2)]) hx hb dX5_runActs_258 hl (by decide) rfl (fun ls hl => ?_)
                    refine lv_goto (tgt := 282) hx hb dX5_runActs_260 (by decide) ?_
                    obtain ⟨z_74, ez_74⟩ : ∃ z : Int32, z = i + 1 := ⟨_, rfl⟩
                    have e_z_74 : z_74.toInt = i.toInt + 1 := i_add ez_74 rfl (by decide) (by omega) (by omega)
                    refine lv_iinc (v := z_74) (lv' := [(9, .int z_74), (8, .int 1), (12, .int u_34), (11, .int u_32), (10, .int r_10), (7, .int j), (6, .int pk), (5, .ref q2), (4, .ref q1), (0, .ref h), (1, .int n), (2, .int x1), (3, .int x2)]) hx hb dX5_runActs_282 hl (k := 4) rfl (by rw [ez_74]; rfl) (by decide) rfl (fun ls hl => ?_)
                    refine lv_goto (tgt := 44) hx hb dX5_runActs_285 (by decide) ?_
                    exact ih (kf - 1) (by omega) g_57 z_74 j pk (1 : Int32) q1 q2 H locs ls hT hI hE hM (by omega) (by omega) (by omega) (by omega) (by decide) (by decide) r_63 r_64 (by have e0 := z0; omega) (lv_sub hl [0, 1, 5, 6, 7, 8, 9, 10, 11, 12] rfl)
                  · refine W.eq (g2 := F0 m 258 ls [.int 0]) rfl ?_
                    refine lv_istore (lv' := [(8, .int 0), (12, .int u_34), (11, .int u_32), (10, .int r_10), (9, .int i), (7, .int j), (6, .int pk), (5, .ref q2), (4, .ref q1), (0, .ref h), (1, .int n), (2, .int x1), (3, .int x2)]) hx hb dX5_runActs_258 hl (by decide) rfl (fun ls hl => ?_)
                    refine lv_goto (tgt := 282) hx hb dX5_runActs_260 (by decide) ?_
                    obtain ⟨z_75, ez_75⟩ : ∃ z : Int32, z = i + 1 := ⟨_, rfl⟩
                    have e_z_75 : z_75.toInt = i.toInt + 1 := i_add ez_75 rfl (by decide) (by omega) (by omega)
                    refine lv_iinc (v := z_75) (lv' := [(9, .int z_75), (8, .int 0), (12, .int u_34), (11, .int u_32), (10, .int r_10), (7, .int j), (6, .int pk), (5, .ref q2), (4, .ref q1), (0, .ref h), (1, .int n), (2, .int x1), (3, .int x2)]) hx hb dX5_runActs_282 hl (k := 4) rfl (by rw [ez_75]; rfl) (by decide) rfl (fun ls hl => ?_)
                    refine lv_goto (tgt := 44) hx hb dX5_runActs_285 (by decide) ?_
                    exact ih (kf - 1) (by omega) g_57 z_75 j pk (0 : Int32) q1 q2 H locs ls hT hI hE hM (by omega) (by omega) (by omega) (by omega) (by decide) (by decide) r_63 r_64 (by have e0 := z0; omega) (lv_sub hl [0, 1, 5, 6, 7, 8, 9, 10, 11, 12] rfl)
              · have c_36' : u_32.toInt = 6 := i_eq c_36 rfl (by decide)
                refine lv_aload_n hx hb dX5_runActs_214 rfl (lv_at hl 9 rfl) ?_
                obtain ⟨v_76, e_v_76, r_v_76, n_v_76⟩ := hI.f r_24 3
                refine t_get (ci := 5) (v := .ref v_76) hB hT (ro_ci r_24 rfl) rfl 3 (by decide) k_207 e_v_76 dX5_runActs_215 ?_
                refine lv_aload_n hx hb dX5_runActs_218 rfl (lv_at hl 9 rfl) ?_
                obtain ⟨v_77, e_v_77⟩ := hI.f r_24 4
                refine t_get (ci := 5) (v := .int v_77) hB hT (ro_ci r_24 rfl) rfl 4 (by decide) k_210 e_v_77 dX5_runActs_219 ?_
                refine lv_sipush (v := 511) hx hb dX5_runActs_222 (by decide) ?_
                refine lv_iand hx hb dX5_runActs_225 ?_
                refine lv_topi (fun z_78 ez_78 => ?_)
                have e_z_78 := i_and 9 (b := 511) ez_78 (by decide) (by decide) (by decide)
                refine lv_iload hx hb dX5_runActs_226 (lv_at hl 2 rfl) ?_
                have i_79 : vp_in z_78 512 := (i_in (n := 512) rfl (by omega) (by omega))
                refine t_iast hB hT (ro_in r_v_76 (by decide)) n_v_76 i_79 dX5_runActs_228 (fun H locs hT => ?_)
                have hI : Inv fr (sC g_19 v_76 z_78.toNatClampNeg r_10) := hI.sC (ck r_v_76 trivial)
                have hM : Sm md_s_runActs4 g (sC g_19 v_76 z_78.toNatClampNeg r_10) := hM
                have hE : Ex g (sC g_19 v_76 z_78.toNatClampNeg r_10) := hE
                refine lv_aload_n hx hb dX5_runActs_229 rfl (lv_at hl 9 rfl) ?_
                refine lv_dup hx hb dX5_runActs_230 rfl ?_
                refine t_get (ci := 5) (v := .int v_77) hB hT (ro_ci r_24 rfl) rfl 4 (by decide) k_210 e_v_77 dX5_runActs_231 ?_
                refine lv_iconst (v := 1) hx hb dX5_runActs_234 (by decide) ?_
                refine lv_iadd hx hb dX5_runActs_235 ?_
                refine lv_topi (fun z_80 ez_80 => ?_)
                refine t_put0 (ci := 5) (v := .int z_80) hB hT (ro_ci r_24 rfl) (ro_n0 r_24 (by decide)) rfl 4 (by decide) k_210 (Or.inl rfl) rfl rfl dX5_runActs_236 (fun H locs hT => ?_)
                have hI : Inv fr (sF (sC g_19 v_76 z_78.toNatClampNeg r_10) h 4 (.int z_80)) := hI.sF (fk r_24 (⟨_, rfl⟩))
                have hM : Sm md_s_runActs4 g (sF (sC g_19 v_76 z_78.toNatClampNeg r_10) h 4 (.int z_80)) := hM.tr hE (Sm_sF (by rw [r_24]; rfl))
                have hE : Ex g (sF (sC g_19 v_76 z_78.toNatClampNeg r_10) h 4 (.int z_80)) := hE
                refine lv_goto (tgt := 282) hx hb dX5_runActs_239 (by decide) ?_
                obtain ⟨z_81, ez_81⟩ : ∃ z : Int32, z = i + 1 := ⟨_, rfl⟩
                have e_z_81 : z_81.toInt = i.toInt + 1 := i_add ez_81 rfl (by decide) (by omega) (by omega)
                refine lv_iinc (v := z_81) (lv' := [(9, .int z_81), (12, .int u_34), (11, .int u_32), (10, .int r_10), (8, .int po), (7, .int j), (6, .int pk), (5, .ref q2), (4, .ref q1), (0, .ref h), (1, .int n), (2, .int x1), (3, .int x2)]) hx hb dX5_runActs_282 hl (k := 3) rfl (by rw [ez_81]; rfl) (by decide) rfl (fun ls hl => ?_)
                refine lv_goto (tgt := 44) hx hb dX5_runActs_285 (by decide) ?_
                exact ih (kf - 1) (by omega) (sF (sC g_19 v_76 z_78.toNatClampNeg r_10) h 4 (.int z_80)) z_81 j pk po q1 q2 H locs ls hT hI hE hM (by omega) (by omega) (by omega) (by omega) (by omega) (by omega) r_25 r_26 (by have e0 := z0; omega) (lv_sub hl [0, 4, 5, 6, 7, 8, 9, 10, 11, 12] rfl)
            · have c_35' : u_32.toInt = 5 := i_eq c_35 rfl (by decide)
              refine lv_aload_n hx hb dX5_runActs_149 rfl (lv_at hl 9 rfl) ?_
              refine lv_iload_n hx hb dX5_runActs_150 rfl (lv_at hl 10 rfl) ?_
              refine lv_iload hx hb dX5_runActs_151 (lv_at hl 0 rfl) ?_
              refine t_callV (n := 2) (ci := 5) (As := [.int n, .int u_34]) (rest := []) hB hT hl.1 (s_canAsk l D cI cZ cS cR N0 fr g_19 hI h n u_34 r_24) (ro_ci r_24 rfl) rfl k_477 k_59 k_474 k_476 k_10 (by decide +kernel) ⟨(Nat.le_of_ble_eq_true rfl), (Nat.le_of_ble_eq_true rfl)⟩ rfl (Nat.le_of_ble_eq_true rfl) ⟨(Nat.le_of_ble_eq_true rfl), (Nat.le_of_ble_eq_true rfl)⟩ dX5_runActs_153 (fun v g_82 H locs hp hT => ?_)
              obtain ⟨r_83, rfl, hI, x_86, m_85, f_84⟩ := hp
              have r_87 : g_82.1 h = 6 := (Ex.r x_86 r_24 (by decide))
              have r_88 : g_82.1 q1 = 4 := (Ex.r x_86 r_25 (by decide))
              have r_89 : g_82.1 q2 = 3 := (Ex.r x_86 r_26 (by decide))
              have r_90 : g_82.1 v_31 = 20 := (Ex.r x_86 r_v_31 (by decide))
              have r_91 : g_82.1 v_33 = 21 := (Ex.r x_86 r_v_33 (by decide))
              have n_92 : g_82.2.2.1 v_31 = 8 := (Ex.n x_86 r_v_31 (by decide) n_v_31)
              have n_93 : g_82.2.2.1 v_33 = 8 := (Ex.n x_86 r_v_33 (by decide) n_v_33)
              have e_94 : g_82.2.1 q2 3 = .int v_1 := (Sm.v m_85 r_26 (by decide) rfl e_27)
              have e_95 : g_82.2.1 h 6 = .int v_6 := (Sm.v m_85 r_24 (by decide) rfl e_28)
              have e_96 : g_82.2.1 h 5 = .int z_8 := (Sm.v m_85 r_24 (by decide) rfl e_29)
              have e_97 : g_82.2.1 q2 0 = .ref v_31 := (Sm.v m_85 r_26 (by decide) rfl e_v_31)
              have e_98 : g_82.2.1 q2 1 = .ref v_33 := (Sm.v m_85 r_26 (by decide) rfl e_v_33)
              have hM : Sm md_s_runActs4 g g_82 := hM.tr hE (m_85.mo (fun r k h => mdle_s_runActs4_s_canAsk h))
              have hE : Ex g g_82 := hE.tr x_86
              refine W.eq (g2 := F0 m 156 ls [.int r_83]) rfl ?_
              rcases f_84 with ⟨rfl, hw_99, hw_100⟩ | rfl
              · refine W.eq (g2 := F0 m 156 ls [.int 1]) rfl ?_
                refine lv_if_eq (tgt := 207) hx hb dX5_runActs_156 (by decide) (fun c_ => absurd c_ (by decide)) (fun c_ => ?_)
                refine lv_iload hx hb dX5_runActs_159 (lv_at hl 6 rfl) ?_
                refine lv_if_eq (tgt := 179) hx hb dX5_runActs_161 (by decide) (fun c_101 => ?_) (fun c_101 => ?_)
                · have c_101' : pk.toInt = 0 := i_eq c_101 rfl (by decide)
                  refine lv_iconst (v := 0) hx hb dX5_runActs_179 (by decide) ?_
                  refine lv_istore (lv' := [(13, .int 0), (12, .int u_34), (11, .int u_32), (10, .int r_10), (9, .int i), (8, .int po), (7, .int j), (6, .int pk), (5, .ref q2), (4, .ref q1), (0, .ref h), (1, .int n), (2, .int x1), (3, .int x2)]) hx hb dX5_runActs_180 hl (by decide) rfl (fun ls hl => ?_)
                  refine lv_aload_n hx hb dX5_runActs_182 rfl (lv_at hl 10 rfl) ?_
                  refine lv_iload hx hb dX5_runActs_183 (lv_at hl 1 rfl) ?_
                  refine lv_iload hx hb dX5_runActs_185 (lv_at hl 3 rfl) ?_
                  refine lv_iload hx hb dX5_runActs_187 (lv_at hl 0 rfl) ?_
                  refine t_callV (n := 3) (ci := 5) (As := [.int u_34, .int r_10, .int 0]) (rest := []) hB hT hl.1 (s_serve3 l D cI cZ cS cR N0 fr g_82 hI h u_34 r_10 0 r_87 (by omega) (by omega)) (ro_ci r_87 rfl) rfl k_508 k_59 k_505 k_507 k_12 (by decide +kernel) ⟨(Nat.le_of_ble_eq_true rfl), (Nat.le_of_ble_eq_true rfl)⟩ rfl (Nat.le_of_ble_eq_true rfl) ⟨(Nat.le_of_ble_eq_true rfl), (Nat.le_of_ble_eq_true rfl)⟩ dX5_runActs_189 (fun v g_102 H locs hp hT => ?_)
                  obtain ⟨r_103, rfl, hI, x_105, m_104⟩ := hp
                  have r_106 : g_102.1 h = 6 := (Ex.r x_105 r_87 (by decide))
                  have r_107 : g_102.1 q1 = 4 := (Ex.r x_105 r_88 (by decide))
                  have r_108 : g_102.1 q2 = 3 := (Ex.r x_105 r_89 (by decide))
                  have r_109 : g_102.1 v_31 = 20 := (Ex.r x_105 r_90 (by decide))
                  have r_110 : g_102.1 v_33 = 21 := (Ex.r x_105 r_91 (by decide))
                  have n_111 : g_102.2.2.1 v_31 = 8 := (Ex.n x_105 r_90 (by decide) n_92)
                  have n_112 : g_102.2.2.1 v_33 = 8 := (Ex.n x_105 r_91 (by decide) n_93)
                  have e_113 : g_102.2.1 q2 3 = .int v_1 := (Sm.v m_104 r_89 (by decide) rfl e_94)
                  have e_114 : g_102.2.1 h 6 = .int v_6 := (Sm.v m_104 r_87 (by decide) rfl e_95)
                  have e_115 : g_102.2.1 q2 0 = .ref v_31 := (Sm.v m_104 r_89 (by decide) rfl e_97)
                  have e_116 : g_102.2.1 q2 1 = .ref v_33 := (Sm.v m_104 r_89 (by decide) rfl e_98)
                  have hM : Sm md_s_runActs4 g g_102 := hM.tr hE (m_104.mo (fun r k h => mdle_s_runActs4_s_serve3 h))
                  have hE : Ex g g_102 := hE.tr x_105
                  refine W.eq (g2 := F0 m 192 ls [.int r_103]) rfl ?_
                  refine lv_istore (lv' := [(7, .int r_103), (13, .int 0), (12, .int u_34), (11, .int u_32), (10, .int r_10), (9, .int i), (8, .int po), (6, .int pk), (5, .ref q2), (4, .ref q1), (0, .ref h), (1, .int n), (2, .int x1), (3, .int x2)]) hx hb dX5_runActs_192 hl (by decide) rfl (fun ls hl => ?_)
                  refine lv_aload_n hx hb dX5_runActs_194 rfl (lv_at hl 10 rfl) ?_
                  obtain ⟨v_117, e_v_117, l_v_117, u_v_117⟩ := hI.f r_106 7
                  refine t_get (ci := 5) (v := .int v_117) hB hT (ro_ci r_106 rfl) rfl 7 (by decide) k_216 e_v_117 dX5_runActs_195 ?_
                  refine lv_if_eq (tgt := 204) hx hb dX5_runActs_198 (by decide) (fun c_118 => ?_) (fun c_118 => ?_)
                  · have c_118' : v_117.toInt = 0 := i_eq c_118 rfl (by decide)
                    refine lv_goto (tgt := 282) hx hb dX5_runActs_204 (by decide) ?_
                    obtain ⟨z_119, ez_119⟩ : ∃ z : Int32, z = i + 1 := ⟨_, rfl⟩
                    have e_z_119 : z_119.toInt = i.toInt + 1 := i_add ez_119 rfl (by decide) (by omega) (by omega)
                    refine lv_iinc (v := z_119) (lv' := [(9, .int z_119), (7, .int r_103), (13, .int 0), (12, .int u_34), (11, .int u_32), (10, .int r_10), (8, .int po), (6, .int pk), (5, .ref q2), (4, .ref q1), (0, .ref h), (1, .int n), (2, .int x1), (3, .int x2)]) hx hb dX5_runActs_282 hl (k := 5) rfl (by rw [ez_119]; rfl) (by decide) rfl (fun ls hl => ?_)
                    refine lv_goto (tgt := 44) hx hb dX5_runActs_285 (by decide) ?_
                    exact ih (kf - 1) (by omega) g_102 z_119 r_103 pk po q1 q2 H locs ls hT hI hE hM (by omega) (by omega) (by omega) (by omega) (by omega) (by omega) r_107 r_108 (by have e0 := z0; omega) (lv_sub hl [0, 6, 1, 7, 8, 9, 10, 11, 12, 13] rfl)
                  · have c_118' : v_117.toInt ≠ 0 := i_ne c_118 rfl (by decide)
                    refine lv_bipush (v := (-2)) hx hb dX5_runActs_201 (by decide) ?_
                    exact t_iret hB hr hT (Nat.le_of_ble_eq_true rfl) (Nat.le_of_ble_eq_true rfl) dX5_runActs_203 ⟨(-2), rfl, hI, hE, hM⟩
                · have c_101' : pk.toInt ≠ 0 := i_ne c_101 rfl (by decide)
                  refine lv_iload_n hx hb dX5_runActs_164 rfl (lv_at hl 12 rfl) ?_
                  refine lv_bipush (v := 7) hx hb dX5_runActs_165 (by decide) ?_
                  refine lv_iload hx hb dX5_runActs_167 (lv_at hl 3 rfl) ?_
                  refine lv_imul hx hb dX5_runActs_169 ?_
                  refine lv_topi (fun z_120 ez_120 => ?_)
                  have e_z_120 : z_120.toInt = 7 * i.toInt := i_mul ez_120 (by decide) rfl (by omega) (by omega)
                  refine lv_iadd hx hb dX5_runActs_170 ?_
                  refine lv_topi (fun z_121 ez_121 => ?_)
                  refine lv_bipush (v := 99) hx hb dX5_runActs_171 (by decide) ?_
                  refine lv_irem hx hb dX5_runActs_173 (by decide) ?_
                  refine lv_topi (fun z_122 ez_122 => ?_)
                  refine lv_iconst (v := 1) hx hb dX5_runActs_174 (by decide) ?_
                  refine lv_iadd hx hb dX5_runActs_175 ?_
                  refine lv_topi (fun z_123 ez_123 => ?_)
                  refine lv_goto (tgt := 180) hx hb dX5_runActs_176 (by decide) ?_
                  refine lv_istore (lv' := [(13, .int z_123), (12, .int u_34), (11, .int u_32), (10, .int r_10), (9, .int i), (8, .int po), (7, .int j), (6, .int pk), (5, .ref q2), (4, .ref q1), (0, .ref h), (1, .int n), (2, .int x1), (3, .int x2)]) hx hb dX5_runActs_180 hl (by decide) rfl (fun ls hl => ?_)
                  refine lv_aload_n hx hb dX5_runActs_182 rfl (lv_at hl 10 rfl) ?_
                  refine lv_iload hx hb dX5_runActs_183 (lv_at hl 1 rfl) ?_
                  refine lv_iload hx hb dX5_runActs_185 (lv_at hl 3 rfl) ?_
                  refine lv_iload hx hb dX5_runActs_187 (lv_at hl 0 rfl) ?_
                  refine t_callV (n := 3) (ci := 5) (As := [.int u_34, .int r_10, .int z_123]) (rest := []) hB hT hl.1 (s_serve3 l D cI cZ cS cR N0 fr g_82 hI h u_34 r_10 z_123 r_87 (by omega) (by omega)) (ro_ci r_87 rfl) rfl k_508 k_59 k_505 k_507 k_12 (by decide +kernel) ⟨(Nat.le_of_ble_eq_true rfl), (Nat.le_of_ble_eq_true rfl)⟩ rfl (Nat.le_of_ble_eq_true rfl) ⟨(Nat.le_of_ble_eq_true rfl), (Nat.le_of_ble_eq_true rfl)⟩ dX5_runActs_189 (fun v g_124 H locs hp hT => ?_)
                  obtain ⟨r_125, rfl, hI, x_127, m_126⟩ := hp
                  have r_128 : g_124.1 h = 6 := (Ex.r x_127 r_87 (by decide))
                  have r_129 : g_124.1 q1 = 4 := (Ex.r x_127 r_88 (by decide))
                  have r_130 : g_124.1 q2 = 3 := (Ex.r x_127 r_89 (by decide))
                  have r_131 : g_124.1 v_31 = 20 := (Ex.r x_127 r_90 (by decide))
                  have r_132 : g_124.1 v_33 = 21 := (Ex.r x_127 r_91 (by decide))
                  have n_133 : g_124.2.2.1 v_31 = 8 := (Ex.n x_127 r_90 (by decide) n_92)
                  have n_134 : g_124.2.2.1 v_33 = 8 := (Ex.n x_127 r_91 (by decide) n_93)
                  have e_135 : g_124.2.1 q2 3 = .int v_1 := (Sm.v m_126 r_89 (by decide) rfl e_94)
                  have e_136 : g_124.2.1 h 6 = .int v_6 := (Sm.v m_126 r_87 (by decide) rfl e_95)
                  have e_137 : g_124.2.1 q2 0 = .ref v_31 := (Sm.v m_126 r_89 (by decide) rfl e_97)
                  have e_138 : g_124.2.1 q2 1 = .ref v_33 := (Sm.v m_126 r_89 (by decide) rfl e_98)
                  have hM : Sm md_s_runActs4 g g_124 := hM.tr hE (m_126.mo (fun r k h => mdle_s_runActs4_s_serve3 h))
                  have hE : Ex g g_124 := hE.tr x_127
                  refine W.eq (g2 := F0 m 192 ls [.int r_125]) rfl ?_
                  refine lv_istore (lv' := [(7, .int r_125), (13, .int z_123), (12, .int u_34), (11, .int u_32), (10, .int r_10), (9, .int i), (8, .int po), (6, .int pk), (5, .ref q2), (4, .ref q1), (0, .ref h), (1, .int n), (2, .int x1), (3, .int x2)]) hx hb dX5_runActs_192 hl (by decide) rfl (fun ls hl => ?_)
                  refine lv_aload_n hx hb dX5_runActs_194 rfl (lv_at hl 10 rfl) ?_
                  obtain ⟨v_139, e_v_139, l_v_139, u_v_139⟩ := hI.f r_128 7
                  refine t_get (ci := 5) (v := .int v_139) hB hT (ro_ci r_128 rfl) rfl 7 (by decide) k_216 e_v_139 dX5_runActs_195 ?_
                  refine lv_if_eq (tgt := 204) hx hb dX5_runActs_198 (by decide) (fun c_140 => ?_) (fun c_140 => ?_)
                  · have c_140' : v_139.toInt = 0 := i_eq c_140 rfl (by decide)
                    refine lv_goto (tgt := 282) hx hb dX5_runActs_204 (by decide) ?_
                    obtain ⟨z_141, ez_141⟩ : ∃ z : Int32, z = i + 1 := ⟨_, rfl⟩
                    have e_z_141 : z_141.toInt = i.toInt + 1 := i_add ez_141 rfl (by decide) (by omega) (by omega)
                    refine lv_iinc (v := z_141) (lv' := [(9, .int z_141), (7, .int r_125), (13, .int z_123), (12, .int u_34), (11, .int u_32), (10, .int r_10), (8, .int po), (6, .int pk), (5, .ref q2), (4, .ref q1), (0, .ref h), (1, .int n), (2, .int x1), (3, .int x2)]) hx hb dX5_runActs_282 hl (k := 5) rfl (by rw [ez_141]; rfl) (by decide) rfl (fun ls hl => ?_)
                    refine lv_goto (tgt := 44) hx hb dX5_runActs_285 (by decide) ?_
                    exact ih (kf - 1) (by omega) g_124 z_141 r_125 pk po q1 q2 H locs ls hT hI hE hM (by omega) (by omega) (by omega) (by omega) (by omega) (by omega) r_129 r_130 (by have e0 := z0; omega) (lv_sub hl [0, 6, 1, 7, 8, 9, 10, 11, 12, 13] rfl)
                  · have c_140' : v_139.toInt ≠ 0 := i_ne c_140 rfl (by decide)
                    refine lv_bipush (v := (-2)) hx hb dX5_runActs_201 (by decide) ?_
                    exact t_iret hB hr hT (Nat.le_of_ble_eq_true rfl) (Nat.le_of_ble_eq_true rfl) dX5_runActs_203 ⟨(-2), rfl, hI, hE, hM⟩
              · refine W.eq (g2 := F0 m 156 ls [.int 0]) rfl ?_
                refine lv_if_eq (tgt := 207) hx hb dX5_runActs_156 (by decide) (fun c_ => ?_) (fun c_ => absurd (by decide) c_)
                refine lv_iload hx hb dX5_runActs_207 (lv_at hl 1 rfl) ?_
                refine lv_bipush (v := 6) hx hb dX5_runActs_209 (by decide) ?_
                refine lv_icmp_ne (tgt := 242) hx hb dX5_runActs_211 (by decide) (fun c_142 => ?_) (fun c_142 => ?_)
                · have c_142' : u_32.toInt ≠ 6 := i_ne c_142 rfl (by decide)
                  refine lv_iload hx hb dX5_runActs_242 (lv_at hl 1 rfl) ?_
                  refine lv_bipush (v := 7) hx hb dX5_runActs_244 (by decide) ?_
                  refine lv_icmp_ne (tgt := 263) hx hb dX5_runActs_246 (by decide) (fun c_143 => ?_) (fun c_143 => ?_)
                  · have c_143' : u_32.toInt ≠ 7 := i_ne c_143 rfl (by decide)
                    refine lv_iload hx hb dX5_runActs_263 (lv_at hl 1 rfl) ?_
                    refine lv_iconst (v := 5) hx hb dX5_runActs_265 (by decide) ?_
                    refine lv_icmp_eq (tgt := 282) hx hb dX5_runActs_266 (by decide) (fun c_144 => ?_) (fun c_144 => ?_)
                    · have c_144' : u_32.toInt = 5 := i_eq c_144 rfl (by decide)
                      obtain ⟨z_145, ez_145⟩ : ∃ z : Int32, z = i + 1 := ⟨_, rfl⟩
                      have e_z_145 : z_145.toInt = i.toInt + 1 := i_add ez_145 rfl (by decide) (by omega) (by omega)
                      refine lv_iinc (v := z_145) (lv' := [(9, .int z_145), (12, .int u_34), (11, .int u_32), (10, .int r_10), (8, .int po), (7, .int j), (6, .int pk), (5, .ref q2), (4, .ref q1), (0, .ref h), (1, .int n), (2, .int x1), (3, .int x2)]) hx hb dX5_runActs_282 hl (k := 3) rfl (by rw [ez_145]; rfl) (by decide) rfl (fun ls hl => ?_)
                      refine lv_goto (tgt := 44) hx hb dX5_runActs_285 (by decide) ?_
                      exact ih (kf - 1) (by omega) g_82 z_145 j pk po q1 q2 H locs ls hT hI hE hM (by omega) (by omega) (by omega) (by omega) (by omega) (by omega) r_88 r_89 (by have e0 := z0; omega) (lv_sub hl [0, 4, 5, 6, 7, 8, 9, 10, 11, 12] rfl)
                    · have c_144' : u_32.toInt ≠ 5 := i_ne c_144 rfl (by decide)
                      exact absurd c_144' (by omega)
                  · have c_143' : u_32.toInt = 7 := i_eq c_143 rfl (by decide)
                    exact absurd c_143' (by omega)
                · have c_142' : u_32.toInt = 6 := i_eq c_142 rfl (by decide)
                  exact absurd c_142' (by omega)
        · have c_7' : v_6.toInt ≤ z_5.toInt := i_nlt c_7 rfl rfl
          refine lv_aload_n hx hb dX5_runActs_78 rfl (lv_at hl 6 rfl) ?_
          refine lv_iconst (v := 1) hx hb dX5_runActs_79 (by decide) ?_
          refine t_put0 (ci := 5) (v := .int 1) hB hT (ro_ci r1_h rfl) (ro_n0 r1_h (by decide)) rfl 7 (by decide) k_216 (Or.inl rfl) rfl rfl dX5_runActs_80 (fun H locs hT => ?_)
          have hI : Inv fr (sF g1 h 7 (.int 1)) := hI.sF (fk r1_h (⟨_, rfl, by decide, by decide⟩))
          have hM : Sm md_s_runActs4 g (sF g1 h 7 (.int 1)) := hM.tr hE (Sm_sF (by rw [r1_h]; rfl))
          have hE : Ex g (sF g1 h 7 (.int 1)) := hE
          refine lv_bipush (v := (-2)) hx hb dX5_runActs_83 (by decide) ?_
          exact t_iret hB hr hT (Nat.le_of_ble_eq_true rfl) (Nat.le_of_ble_eq_true rfl) dX5_runActs_85 ⟨(-2), rfl, hI, hE, hM⟩
      · have c_3' : po.toInt ≠ 0 := i_ne c_3 rfl (by decide)
        refine lv_iconst (v := 0) hx hb dX5_runActs_59 (by decide) ?_
        refine lv_istore (lv' := [(8, .int 0), (9, .int i), (7, .int j), (6, .int pk), (5, .ref q2), (4, .ref q1), (0, .ref h), (1, .int n), (2, .int x1), (3, .int x2)]) hx hb dX5_runActs_60 hl (by decide) rfl (fun ls hl => ?_)
        refine lv_goto (tgt := 282) hx hb dX5_runActs_62 (by decide) ?_
        obtain ⟨z_146, ez_146⟩ : ∃ z : Int32, z = i + 1 := ⟨_, rfl⟩
        have e_z_146 : z_146.toInt = i.toInt + 1 := i_add ez_146 rfl (by decide) (by omega) (by omega)
        refine lv_iinc (v := z_146) (lv' := [(9, .int z_146), (8, .int 0), (7, .int j), (6, .int pk), (5, .ref q2), (4, .ref q1), (0, .ref h), (1, .int n), (2, .int x1), (3, .int x2)]) hx hb dX5_runActs_282 hl (k := 1) rfl (by rw [ez_146]; rfl) (by decide) rfl (fun ls hl => ?_)
        refine lv_goto (tgt := 44) hx hb dX5_runActs_285 (by decide) ?_
        exact ih (kf - 1) (by omega) g1 z_146 j pk (0 : Int32) q1 q2 H locs ls hT hI hE hM (by omega) (by omega) (by omega) (by omega) (by decide) (by decide) r1_q1 r1_q2 (by have e0 := z0; omega) (lv_sub hl [0, 1, 2, 3, 4, 5, 6, 7, 8, 9] rfl)
theorem mdle_s_runActs4_s_isMended {r k : Nat} (h : md_s_runActs4 r k = false) : md_s_isMended r k = false := by
  first | rfl | (simp only [md_s_runActs4, md_s_isMended, Bool.or_eq_false_iff, Bool.and_eq_false_iff, beq_eq_false_iff_ne] at h ⊢; omega)
set_option maxHeartbeats 4000000 in
set_option maxRecDepth 100000 in
theorem s_runActs4 (l : Launch) (D : va_G) (cI cZ cS cR : ClassId) (N0 : NT) (fr : Int32) (g : GS) (hI : Inv fr g) (h : Nat) (n : Int32) (x1 : Int32) (x2 : Int32) (r_h : g.1 h = 6) (l_n : 1 ≤ n.toInt) (u_n : n.toInt ≤ 5) : Ty l D cI cZ cS cR N0 yX5_runActs cX5_runActs 14 (some .int) 9 0 0 [.ref h, .int n, .int x1, .int x2] g (fun v g' => ∃ (r : Int32), v = some (.int r) ∧ Inv fr g' ∧ Ex g g' ∧ Sm md_s_runActs4 g g') := by
  refine t_enter (by decide) (Nat.le_of_ble_eq_true rfl) ?_
  intro p e s m args below meth c ls H locs hB hr hin hl hT
  have hx := hB.1
  have hb := hB.2.1
  have hl : lv_has ls 14 [(0, .ref h), (1, .int n), (2, .int x1), (3, .int x2)] := hl
  have hE : Ex g g := Ex.rf
  have hM : Sm md_s_runActs4 g g := Sm.rf
  refine lv_aload_n hx hb dX5_runActs_0 rfl (lv_at hl 0 rfl) ?_
  obtain ⟨v_1, e_v_1, r_v_1, n_v_1⟩ := hI.f r_h 0
  refine t_get (ci := 5) (v := .ref v_1) hB hT (ro_ci r_h rfl) rfl 0 (by decide) k_199 e_v_1 dX5_runActs_1 ?_
  refine lv_iload_n hx hb dX5_runActs_4 rfl (lv_at hl 1 rfl) ?_
  have i_q_2 : vp_in n 6 := (i_in (n := 6) rfl (by omega) (by omega))
  obtain ⟨q_2, e_q_2, r_q_2⟩ := hI.q r_v_1 n_v_1 (i_cl i_q_2)
  refine t_aald hB hT (Or.inl r_v_1) n_v_1 i_q_2 e_q_2 dX5_runActs_5 ?_
  refine lv_astore (lv' := [(4, .ref q_2), (0, .ref h), (1, .int n), (2, .int x1), (3, .int x2)]) hx hb dX5_runActs_6 hl (by decide) rfl (fun ls hl => ?_)
  refine lv_aload hx hb dX5_runActs_8 (lv_at hl 0 rfl) ?_
  obtain ⟨v_3, e_v_3, r_v_3⟩ := hI.f r_q_2 0
  refine t_get (ci := 3) (v := .ref v_3) hB hT (ro_ci r_q_2 rfl) rfl 0 (by decide) k_145 e_v_3 dX5_runActs_10 ?_
  refine lv_astore (lv' := [(5, .ref v_3), (4, .ref q_2), (0, .ref h), (1, .int n), (2, .int x1), (3, .int x2)]) hx hb dX5_runActs_13 hl (by decide) rfl (fun ls hl => ?_)
  refine lv_iload_n hx hb dX5_runActs_15 rfl (lv_at hl 5 rfl) ?_
  refine lv_if_eq (tgt := 32) hx hb dX5_runActs_16 (by decide) (fun c_4 => ?_) (fun c_4 => ?_)
  · have c_4' : x2.toInt = 0 := i_eq c_4 rfl (by decide)
    refine lv_iconst (v := 0) hx hb dX5_runActs_32 (by decide) ?_
    refine lv_istore (lv' := [(6, .int 0), (5, .ref v_3), (4, .ref q_2), (0, .ref h), (1, .int n), (2, .int x1), (3, .int x2)]) hx hb dX5_runActs_33 hl (by decide) rfl (fun ls hl => ?_)
    refine lv_iconst (v := 0) hx hb dX5_runActs_35 (by decide) ?_
    refine lv_istore (lv' := [(7, .int 0), (6, .int 0), (5, .ref v_3), (4, .ref q_2), (0, .ref h), (1, .int n), (2, .int x1), (3, .int x2)]) hx hb dX5_runActs_36 hl (by decide) rfl (fun ls hl => ?_)
    refine lv_iconst (v := 0) hx hb dX5_runActs_38 (by decide) ?_
    refine lv_istore (lv' := [(8, .int 0), (7, .int 0), (6, .int 0), (5, .ref v_3), (4, .ref q_2), (0, .ref h), (1, .int n), (2, .int x1), (3, .int x2)]) hx hb dX5_runActs_39 hl (by decide) rfl (fun ls hl => ?_)
    refine lv_iconst (v := 0) hx hb dX5_runActs_41 (by decide) ?_
    refine lv_istore (lv' := [(9, .int 0), (8, .int 0), (7, .int 0), (6, .int 0), (5, .ref v_3), (4, .ref q_2), (0, .ref h), (1, .int n), (2, .int x1), (3, .int x2)]) hx hb dX5_runActs_42 hl (by decide) rfl (fun ls hl => ?_)
    exact lt_s_runActs4_a l D cI cZ cS cR N0 fr g h n x1 x2 r_h l_n u_n hB hr 8 g (0 : Int32) (0 : Int32) (0 : Int32) (0 : Int32) q_2 v_3 H locs ls hT hI hE hM (by decide) (by decide) (by decide) (by decide) (by decide) (by decide) r_q_2 r_v_3 (by have e0 := z0; omega) (lv_sub hl [0, 1, 2, 3, 4, 5, 6, 7, 8, 9] rfl)
  · have c_4' : x2.toInt ≠ 0 := i_ne c_4 rfl (by decide)
    refine lv_aload hx hb dX5_runActs_19 (lv_at hl 1 rfl) ?_
    refine lv_iconst (v := 2) hx hb dX5_runActs_21 (by decide) ?_
    refine t_callV (n := 1) (ci := 3) (As := [.int 2]) (rest := []) hB hT hl.1 (s_isMended l D cI cZ cS cR N0 fr g hI q_2 2 r_q_2) (ro_ci r_q_2 rfl) rfl k_512 k_60 k_509 k_510 k_511 (by decide +kernel) ⟨(Nat.le_of_ble_eq_true rfl), (Nat.le_of_ble_eq_true rfl)⟩ rfl (Nat.le_of_ble_eq_true rfl) ⟨(Nat.le_of_ble_eq_true rfl), (Nat.le_of_ble_eq_true rfl)⟩ dX5_runActs_22 (fun v g_5 H locs hp hT => ?_)
    obtain ⟨r_6, rfl, hI, x_9, m_8, f_7⟩ := hp
    have r_10 : g_5.1 h = 6 := (Ex.r x_9 r_h (by decide))
    have r_11 : g_5.1 v_1 = 41 := (Ex.r x_9 r_v_1 (by decide))
    have r_12 : g_5.1 q_2 = 4 := (Ex.r x_9 r_q_2 (by decide))
    have r_13 : g_5.1 v_3 = 3 := (Ex.r x_9 r_v_3 (by decide))
    have n_14 : g_5.2.2.1 v_1 = 6 := (Ex.n x_9 r_v_1 (by decide) n_v_1)
    have e_15 : g_5.2.1 h 0 = .ref v_1 := (Sm.v m_8 r_h (by decide) rfl e_v_1)
    have e_16 : g_5.2.1 q_2 0 = .ref v_3 := (Sm.v m_8 r_q_2 (by decide) rfl e_v_3)
    have hM : Sm md_s_runActs4 g g_5 := hM.tr hE (m_8.mo (fun r k h => mdle_s_runActs4_s_isMended h))
    have hE : Ex g g_5 := hE.tr x_9
    refine W.eq (g2 := F0 m 25 ls [.int r_6]) rfl ?_
    rcases f_7 with rfl | rfl
    · refine W.eq (g2 := F0 m 25 ls [.int 1]) rfl ?_
      refine lv_if_eq (tgt := 32) hx hb dX5_runActs_25 (by decide) (fun c_ => absurd c_ (by decide)) (fun c_ => ?_)
      refine lv_iconst (v := 1) hx hb dX5_runActs_28 (by decide) ?_
      refine lv_goto (tgt := 33) hx hb dX5_runActs_29 (by decide) ?_
      refine lv_istore (lv' := [(6, .int 1), (5, .ref v_3), (4, .ref q_2), (0, .ref h), (1, .int n), (2, .int x1), (3, .int x2)]) hx hb dX5_runActs_33 hl (by decide) rfl (fun ls hl => ?_)
      refine lv_iconst (v := 0) hx hb dX5_runActs_35 (by decide) ?_
      refine lv_istore (lv' := [(7, .int 0), (6, .int 1), (5, .ref v_3), (4, .ref q_2), (0, .ref h), (1, .int n), (2, .int x1), (3, .int x2)]) hx hb dX5_runActs_36 hl (by decide) rfl (fun ls hl => ?_)
      refine lv_iconst (v := 0) hx hb dX5_runActs_38 (by decide) ?_
      refine lv_istore (lv' := [(8, .int 0), (7, .int 0), (6, .int 1), (5, .ref v_3), (4, .ref q_2), (0, .ref h), (1, .int n), (2, .int x1), (3, .int x2)]) hx hb dX5_runActs_39 hl (by decide) rfl (fun ls hl => ?_)
      refine lv_iconst (v := 0) hx hb dX5_runActs_41 (by decide) ?_
      refine lv_istore (lv' := [(9, .int 0), (8, .int 0), (7, .int 0), (6, .int 1), (5, .ref v_3), (4, .ref q_2), (0, .ref h), (1, .int n), (2, .int x1), (3, .int x2)]) hx hb dX5_runActs_42 hl (by decide) rfl (fun ls hl => ?_)
      exact lt_s_runActs4_a l D cI cZ cS cR N0 fr g h n x1 x2 r_h l_n u_n hB hr 8 g_5 (0 : Int32) (0 : Int32) (1 : Int32) (0 : Int32) q_2 v_3 H locs ls hT hI hE hM (by decide) (by decide) (by decide) (by decide) (by decide) (by decide) r_12 r_13 (by have e0 := z0; omega) (lv_sub hl [0, 1, 2, 3, 4, 5, 6, 7, 8, 9] rfl)
    · refine W.eq (g2 := F0 m 25 ls [.int 0]) rfl ?_
      refine lv_if_eq (tgt := 32) hx hb dX5_runActs_25 (by decide) (fun c_ => ?_) (fun c_ => absurd (by decide) c_)
      refine lv_iconst (v := 0) hx hb dX5_runActs_32 (by decide) ?_
      refine lv_istore (lv' := [(6, .int 0), (5, .ref v_3), (4, .ref q_2), (0, .ref h), (1, .int n), (2, .int x1), (3, .int x2)]) hx hb dX5_runActs_33 hl (by decide) rfl (fun ls hl => ?_)
      refine lv_iconst (v := 0) hx hb dX5_runActs_35 (by decide) ?_
      refine lv_istore (lv' := [(7, .int 0), (6, .int 0), (5, .ref v_3), (4, .ref q_2), (0, .ref h), (1, .int n), (2, .int x1), (3, .int x2)]) hx hb dX5_runActs_36 hl (by decide) rfl (fun ls hl => ?_)
      refine lv_iconst (v := 0) hx hb dX5_runActs_38 (by decide) ?_
      refine lv_istore (lv' := [(8, .int 0), (7, .int 0), (6, .int 0), (5, .ref v_3), (4, .ref q_2), (0, .ref h), (1, .int n), (2, .int x1), (3, .int x2)]) hx hb dX5_runActs_39 hl (by decide) rfl (fun ls hl => ?_)
      refine lv_iconst (v := 0) hx hb dX5_runActs_41 (by decide) ?_
      refine lv_istore (lv' := [(9, .int 0), (8, .int 0), (7, .int 0), (6, .int 0), (5, .ref v_3), (4, .ref q_2), (0, .ref h), (1, .int n), (2, .int x1), (3, .int x2)]) hx hb dX5_runActs_42 hl (by decide) rfl (fun ls hl => ?_)
      exact lt_s_runActs4_a l D cI cZ cS cR N0 fr g h n x1 x2 r_h l_n u_n hB hr 8 g_5 (0 : Int32) (0 : Int32) (0 : Int32) (0 : Int32) q_2 v_3 H locs ls hT hI hE hM (by decide) (by decide) (by decide) (by decide) (by decide) (by decide) r_12 r_13 (by have e0 := z0; omega) (lv_sub hl [0, 1, 2, 3, 4, 5, 6, 7, 8, 9] rfl)
def md_s_serve4 : Nat → Nat → Bool := fun r k => (r == 4 && k == 0) || (r == 4 && k == 2) || (r == 4 && k == 3) || (r == 4 && k == 4) || (r == 4 && k == 5) || (r == 4 && k == 10) || (r == 4 && k == 11) || (r == 4 && k == 14) || (r == 6 && k == 4) || (r == 6 && k == 5) || (r == 6 && k == 7)
theorem mdle_s_serve4_s_answerNewest {r k : Nat} (h : md_s_serve4 r k = false) : md_s_answerNewest r k = false := by
  first | rfl | (simp only [md_s_serve4, md_s_answerNewest, Bool.or_eq_false_iff, Bool.and_eq_false_iff, beq_eq_false_iff_ne] at h ⊢; omega)
theorem mdle_s_serve4_s_beginKnown {r k : Nat} (h : md_s_serve4 r k = false) : md_s_beginKnown r k = false := by
  first | rfl | (simp only [md_s_serve4, md_s_beginKnown, Bool.or_eq_false_iff, Bool.and_eq_false_iff, beq_eq_false_iff_ne] at h ⊢; omega)
theorem mdle_s_serve4_s_isMended {r k : Nat} (h : md_s_serve4 r k = false) : md_s_isMended r k = false := by
  first | rfl | (simp only [md_s_serve4, md_s_isMended, Bool.or_eq_false_iff, Bool.and_eq_false_iff, beq_eq_false_iff_ne] at h ⊢; omega)
theorem mdle_s_serve4_s_keep {r k : Nat} (h : md_s_serve4 r k = false) : md_s_keep r k = false := by
  first | rfl | (simp only [md_s_serve4, md_s_keep, Bool.or_eq_false_iff, Bool.and_eq_false_iff, beq_eq_false_iff_ne] at h ⊢; omega)
theorem mdle_s_serve4_s_keptAnswer {r k : Nat} (h : md_s_serve4 r k = false) : md_s_keptAnswer r k = false := by
  first | rfl | (simp only [md_s_serve4, md_s_keptAnswer, Bool.or_eq_false_iff, Bool.and_eq_false_iff, beq_eq_false_iff_ne] at h ⊢; omega)
theorem mdle_s_serve4_s_placeOfKey {r k : Nat} (h : md_s_serve4 r k = false) : md_s_placeOfKey r k = false := by
  first | rfl | (simp only [md_s_serve4, md_s_placeOfKey, Bool.or_eq_false_iff, Bool.and_eq_false_iff, beq_eq_false_iff_ne] at h ⊢; omega)
theorem mdle_s_serve4_s_runActs4 {r k : Nat} (h : md_s_serve4 r k = false) : md_s_runActs4 r k = false := by
  first | rfl | (simp only [md_s_serve4, md_s_runActs4, Bool.or_eq_false_iff, Bool.and_eq_false_iff, beq_eq_false_iff_ne] at h ⊢; omega)
set_option maxHeartbeats 4000000 in
set_option maxRecDepth 100000 in
theorem s_serve4 (l : Launch) (D : va_G) (cI cZ cS cR : ClassId) (N0 : NT) (fr : Int32) (g : GS) (hI : Inv fr g) (h : Nat) (n : Int32) (x1 : Int32) (x2 : Int32) (r_h : g.1 h = 6) (l_n : 1 ≤ n.toInt) (u_n : n.toInt ≤ 5) : Ty l D cI cZ cS cR N0 yX5_serve cX5_serve 9 (some .int) 10 0 0 [.ref h, .int n, .int x1, .int x2] g (fun v g' => ∃ (r : Int32), v = some (.int r) ∧ Inv fr g' ∧ Ex g g' ∧ Sm md_s_serve4 g g') := by
  refine t_enter (by decide) (Nat.le_of_ble_eq_true rfl) ?_
  intro p e s m args below meth c ls H locs hB hr hin hl hT
  have hx := hB.1
  have hb := hB.2.1
  have hl : lv_has ls 9 [(0, .ref h), (1, .int n), (2, .int x1), (3, .int x2)] := hl
  have hE : Ex g g := Ex.rf
  have hM : Sm md_s_serve4 g g := Sm.rf
  refine lv_aload_n hx hb dX5_serve_0 rfl (lv_at hl 0 rfl) ?_
  obtain ⟨v_1, e_v_1, r_v_1, n_v_1⟩ := hI.f r_h 0
  refine t_get (ci := 5) (v := .ref v_1) hB hT (ro_ci r_h rfl) rfl 0 (by decide) k_199 e_v_1 dX5_serve_1 ?_
  refine lv_iload_n hx hb dX5_serve_4 rfl (lv_at hl 1 rfl) ?_
  have i_q_2 : vp_in n 6 := (i_in (n := 6) rfl (by omega) (by omega))
  obtain ⟨q_2, e_q_2, r_q_2⟩ := hI.q r_v_1 n_v_1 (i_cl i_q_2)
  refine t_aald hB hT (Or.inl r_v_1) n_v_1 i_q_2 e_q_2 dX5_serve_5 ?_
  refine lv_astore (lv' := [(4, .ref q_2), (0, .ref h), (1, .int n), (2, .int x1), (3, .int x2)]) hx hb dX5_serve_6 hl (by decide) rfl (fun ls hl => ?_)
  refine lv_iload_n hx hb dX5_serve_8 rfl (lv_at hl 4 rfl) ?_
  refine lv_if_eq (tgt := 25) hx hb dX5_serve_9 (by decide) (fun c_3 => ?_) (fun c_3 => ?_)
  · have c_3' : x2.toInt = 0 := i_eq c_3 rfl (by decide)
    refine lv_iconst (v := 0) hx hb dX5_serve_25 (by decide) ?_
    refine lv_istore (lv' := [(5, .int 0), (4, .ref q_2), (0, .ref h), (1, .int n), (2, .int x1), (3, .int x2)]) hx hb dX5_serve_26 hl (by decide) rfl (fun ls hl => ?_)
    refine lv_iload hx hb dX5_serve_28 (lv_at hl 0 rfl) ?_
    refine lv_if_eq (tgt := 46) hx hb dX5_serve_30 (by decide) (fun c_ => ?_) (fun c_ => absurd (by decide) c_)
    refine lv_iconst (v := 0) hx hb dX5_serve_46 (by decide) ?_
    refine lv_istore (lv' := [(6, .int 0), (5, .int 0), (4, .ref q_2), (0, .ref h), (1, .int n), (2, .int x1), (3, .int x2)]) hx hb dX5_serve_47 hl (by decide) rfl (fun ls hl => ?_)
    refine lv_iload hx hb dX5_serve_49 (lv_at hl 1 rfl) ?_
    refine lv_if_eq (tgt := 63) hx hb dX5_serve_51 (by decide) (fun c_ => ?_) (fun c_ => absurd (by decide) c_)
    refine lv_iconst (v := (-1)) hx hb dX5_serve_63 (by decide) ?_
    refine lv_istore (lv' := [(7, .int (-1)), (6, .int 0), (5, .int 0), (4, .ref q_2), (0, .ref h), (1, .int n), (2, .int x1), (3, .int x2)]) hx hb dX5_serve_64 hl (by decide) rfl (fun ls hl => ?_)
    refine lv_iload hx hb dX5_serve_66 (lv_at hl 0 rfl) ?_
    refine lv_iconst (v := (-1)) hx hb dX5_serve_68 (by decide) ?_
    refine lv_icmp_eq (tgt := 81) hx hb dX5_serve_69 (by decide) (fun c_ => ?_) (fun c_ => absurd (by decide) c_)
    refine lv_iload hx hb dX5_serve_81 (lv_at hl 1 rfl) ?_
    refine lv_if_eq (tgt := 98) hx hb dX5_serve_83 (by decide) (fun c_ => ?_) (fun c_ => absurd (by decide) c_)
    refine lv_aload hx hb dX5_serve_98 (lv_at hl 3 rfl) ?_
    refine lv_iload_n hx hb dX5_serve_100 rfl (lv_at hl 6 rfl) ?_
    refine lv_iload_n hx hb dX5_serve_101 rfl (lv_at hl 7 rfl) ?_
    refine t_callV (n := 2) (ci := 3) (As := [.int x1, .int x2]) (rest := []) hB hT hl.1 (s_beginKnown l D cI cZ cS cR N0 fr g hI q_2 x1 x2 r_q_2) (ro_ci r_q_2 rfl) rfl k_529 k_60 k_526 k_527 k_528 (by decide +kernel) ⟨(Nat.le_of_ble_eq_true rfl), (Nat.le_of_ble_eq_true rfl)⟩ rfl (Nat.le_of_ble_eq_true rfl) ⟨(Nat.le_of_ble_eq_true rfl), (Nat.le_of_ble_eq_true rfl)⟩ dX5_serve_102 (fun v g_4 H locs hp hT => ?_)
    obtain ⟨rfl, hI, x_6, m_5⟩ := hp
    have r_7 : g_4.1 h = 6 := (Ex.r x_6 r_h (by decide))
    have r_8 : g_4.1 v_1 = 41 := (Ex.r x_6 r_v_1 (by decide))
    have r_9 : g_4.1 q_2 = 4 := (Ex.r x_6 r_q_2 (by decide))
    have n_10 : g_4.2.2.1 v_1 = 6 := (Ex.n x_6 r_v_1 (by decide) n_v_1)
    have e_11 : g_4.2.1 h 0 = .ref v_1 := (Sm.v m_5 r_h (by decide) rfl e_v_1)
    have hM : Sm md_s_serve4 g g_4 := hM.tr hE (m_5.mo (fun r k h => mdle_s_serve4_s_beginKnown h))
    have hE : Ex g g_4 := hE.tr x_6
    refine W.eq (g2 := F0 m 105 ls []) rfl ?_
    refine lv_aload_n hx hb dX5_serve_105 rfl (lv_at hl 4 rfl) ?_
    refine lv_iload_n hx hb dX5_serve_106 rfl (lv_at hl 5 rfl) ?_
    refine lv_iload_n hx hb dX5_serve_107 rfl (lv_at hl 6 rfl) ?_
    refine lv_iload_n hx hb dX5_serve_108 rfl (lv_at hl 7 rfl) ?_
    refine t_callV (n := 3) (ci := 5) (As := [.int n, .int x1, .int x2]) (rest := []) hB hT hl.1 (s_runActs4 l D cI cZ cS cR N0 fr g_4 hI h n x1 x2 r_7 (by omega) (by omega)) (ro_ci r_7 rfl) rfl k_534 k_59 k_531 k_533 k_13 (by decide +kernel) ⟨(Nat.le_of_ble_eq_true rfl), (Nat.le_of_ble_eq_true rfl)⟩ rfl (Nat.le_of_ble_eq_true rfl) ⟨(Nat.le_of_ble_eq_true rfl), (Nat.le_of_ble_eq_true rfl)⟩ dX5_serve_109 (fun v g_12 H locs hp hT => ?_)
    obtain ⟨r_13, rfl, hI, x_15, m_14⟩ := hp
    have r_16 : g_12.1 h = 6 := (Ex.r x_15 r_7 (by decide))
    have r_17 : g_12.1 v_1 = 41 := (Ex.r x_15 r_8 (by decide))
    have r_18 : g_12.1 q_2 = 4 := (Ex.r x_15 r_9 (by decide))
    have n_19 : g_12.2.2.1 v_1 = 6 := (Ex.n x_15 r_8 (by decide) n_10)
    have e_20 : g_12.2.1 h 0 = .ref v_1 := (Sm.v m_14 r_7 (by decide) rfl e_11)
    have hM : Sm md_s_serve4 g g_12 := hM.tr hE (m_14.mo (fun r k h => mdle_s_serve4_s_runActs4 h))
    have hE : Ex g g_12 := hE.tr x_15
    refine W.eq (g2 := F0 m 112 ls [.int r_13]) rfl ?_
    refine lv_istore (lv' := [(8, .int r_13), (7, .int (-1)), (6, .int 0), (5, .int 0), (4, .ref q_2), (0, .ref h), (1, .int n), (2, .int x1), (3, .int x2)]) hx hb dX5_serve_112 hl (by decide) rfl (fun ls hl => ?_)
    refine lv_aload_n hx hb dX5_serve_114 rfl (lv_at hl 5 rfl) ?_
    obtain ⟨v_21, e_v_21, l_v_21, u_v_21⟩ := hI.f r_16 7
    refine t_get (ci := 5) (v := .int v_21) hB hT (ro_ci r_16 rfl) rfl 7 (by decide) k_216 e_v_21 dX5_serve_115 ?_
    refine lv_if_eq (tgt := 124) hx hb dX5_serve_118 (by decide) (fun c_22 => ?_) (fun c_22 => ?_)
    · have c_22' : v_21.toInt = 0 := i_eq c_22 rfl (by decide)
      refine lv_iload hx hb dX5_serve_124 (lv_at hl 2 rfl) ?_
      refine lv_if_eq (tgt := 140) hx hb dX5_serve_126 (by decide) (fun c_ => ?_) (fun c_ => absurd (by decide) c_)
      refine lv_iload hx hb dX5_serve_140 (lv_at hl 3 rfl) ?_
      refine lv_if_eq (tgt := 158) hx hb dX5_serve_142 (by decide) (fun c_ => ?_) (fun c_ => absurd (by decide) c_)
      refine lv_iload hx hb dX5_serve_158 (lv_at hl 0 rfl) ?_
      exact t_iret hB hr hT (Nat.le_of_ble_eq_true rfl) (Nat.le_of_ble_eq_true rfl) dX5_serve_160 ⟨r_13, rfl, hI, hE, hM⟩
    · have c_22' : v_21.toInt ≠ 0 := i_ne c_22 rfl (by decide)
      refine lv_bipush (v := (-2)) hx hb dX5_serve_121 (by decide) ?_
      exact t_iret hB hr hT (Nat.le_of_ble_eq_true rfl) (Nat.le_of_ble_eq_true rfl) dX5_serve_123 ⟨(-2), rfl, hI, hE, hM⟩
  · have c_3' : x2.toInt ≠ 0 := i_ne c_3 rfl (by decide)
    refine lv_aload hx hb dX5_serve_12 (lv_at hl 0 rfl) ?_
    refine lv_iconst (v := 0) hx hb dX5_serve_14 (by decide) ?_
    refine t_callV (n := 1) (ci := 3) (As := [.int 0]) (rest := []) hB hT hl.1 (s_isMended l D cI cZ cS cR N0 fr g hI q_2 0 r_q_2) (ro_ci r_q_2 rfl) rfl k_512 k_60 k_509 k_510 k_511 (by decide +kernel) ⟨(Nat.le_of_ble_eq_true rfl), (Nat.le_of_ble_eq_true rfl)⟩ rfl (Nat.le_of_ble_eq_true rfl) ⟨(Nat.le_of_ble_eq_true rfl), (Nat.le_of_ble_eq_true rfl)⟩ dX5_serve_15 (fun v g_23 H locs hp hT => ?_)
    obtain ⟨r_24, rfl, hI, x_27, m_26, f_25⟩ := hp
    have r_28 : g_23.1 h = 6 := (Ex.r x_27 r_h (by decide))
    have r_29 : g_23.1 v_1 = 41 := (Ex.r x_27 r_v_1 (by decide))
    have r_30 : g_23.1 q_2 = 4 := (Ex.r x_27 r_q_2 (by decide))
    have n_31 : g_23.2.2.1 v_1 = 6 := (Ex.n x_27 r_v_1 (by decide) n_v_1)
    have e_32 : g_23.2.1 h 0 = .ref v_1 := (Sm.v m_26 r_h (by decide) rfl e_v_1)
    have hM : Sm md_s_serve4 g g_23 := hM.tr hE (m_26.mo (fun r k h => mdle_s_serve4_s_isMended h))
    have hE : Ex g g_23 := hE.tr x_27
    refine W.eq (g2 := F0 m 18 ls [.int r_24]) rfl ?_
    rcases f_25 with rfl | rfl
    · refine W.eq (g2 := F0 m 18 ls [.int 1]) rfl ?_
      refine lv_if_eq (tgt := 25) hx hb dX5_serve_18 (by decide) (fun c_ => absurd c_ (by decide)) (fun c_ => ?_)
      refine lv_iconst (v := 1) hx hb dX5_serve_21 (by decide) ?_
      refine lv_goto (tgt := 26) hx hb dX5_serve_22 (by decide) ?_
      refine lv_istore (lv' := [(5, .int 1), (4, .ref q_2), (0, .ref h), (1, .int n), (2, .int x1), (3, .int x2)]) hx hb dX5_serve_26 hl (by decide) rfl (fun ls hl => ?_)
      refine lv_iload hx hb dX5_serve_28 (lv_at hl 0 rfl) ?_
      refine lv_if_eq (tgt := 46) hx hb dX5_serve_30 (by decide) (fun c_ => absurd c_ (by decide)) (fun c_ => ?_)
      refine lv_aload hx hb dX5_serve_33 (lv_at hl 1 rfl) ?_
      refine lv_iconst (v := 1) hx hb dX5_serve_35 (by decide) ?_
      refine t_callV (n := 1) (ci := 3) (As := [.int 1]) (rest := []) hB hT hl.1 (s_isMended l D cI cZ cS cR N0 fr g_23 hI q_2 1 r_30) (ro_ci r_30 rfl) rfl k_512 k_60 k_509 k_510 k_511 (by decide +kernel) ⟨(Nat.le_of_ble_eq_true rfl), (Nat.le_of_ble_eq_true rfl)⟩ rfl (Nat.le_of_ble_eq_true rfl) ⟨(Nat.le_of_ble_eq_true rfl), (Nat.le_of_ble_eq_true rfl)⟩ dX5_serve_36 (fun v g_33 H locs hp hT => ?_)
      obtain ⟨r_34, rfl, hI, x_37, m_36, f_35⟩ := hp
      have r_38 : g_33.1 h = 6 := (Ex.r x_37 r_28 (by decide))
      have r_39 : g_33.1 v_1 = 41 := (Ex.r x_37 r_29 (by decide))
      have r_40 : g_33.1 q_2 = 4 := (Ex.r x_37 r_30 (by decide))
      have n_41 : g_33.2.2.1 v_1 = 6 := (Ex.n x_37 r_29 (by decide) n_31)
      have e_42 : g_33.2.1 h 0 = .ref v_1 := (Sm.v m_36 r_28 (by decide) rfl e_32)
      have hM : Sm md_s_serve4 g g_33 := hM.tr hE (m_36.mo (fun r k h => mdle_s_serve4_s_isMended h))
      have hE : Ex g g_33 := hE.tr x_37
      refine W.eq (g2 := F0 m 39 ls [.int r_34]) rfl ?_
      rcases f_35 with rfl | rfl
      · refine W.eq (g2 := F0 m 39 ls [.int 1]) rfl ?_
        refine lv_if_eq (tgt := 46) hx hb dX5_serve_39 (by decide) (fun c_ => absurd c_ (by decide)) (fun c_ => ?_)
        refine lv_iconst (v := 1) hx hb dX5_serve_42 (by decide) ?_
        refine lv_goto (tgt := 47) hx hb dX5_serve_43 (by decide) ?_
        refine lv_istore (lv' := [(6, .int 1), (5, .int 1), (4, .ref q_2), (0, .ref h), (1, .int n), (2, .int x1), (3, .int x2)]) hx hb dX5_serve_47 hl (by decide) rfl (fun ls hl => ?_)
        refine lv_iload hx hb dX5_serve_49 (lv_at hl 1 rfl) ?_
        refine lv_if_eq (tgt := 63) hx hb dX5_serve_51 (by decide) (fun c_ => absurd c_ (by decide)) (fun c_ => ?_)
        refine lv_aload hx hb dX5_serve_54 (lv_at hl 2 rfl) ?_
        refine lv_iload_n hx hb dX5_serve_56 rfl (lv_at hl 6 rfl) ?_
        refine t_callV (n := 1) (ci := 3) (As := [.int x2]) (rest := []) hB hT hl.1 (s_placeOfKey l D cI cZ cS cR N0 fr g_33 hI q_2 x2 r_40) (ro_ci r_40 rfl) rfl k_516 k_60 k_513 k_514 k_515 (by decide +kernel) ⟨(Nat.le_of_ble_eq_true rfl), (Nat.le_of_ble_eq_true rfl)⟩ rfl (Nat.le_of_ble_eq_true rfl) ⟨(Nat.le_of_ble_eq_true rfl), (Nat.le_of_ble_eq_true rfl)⟩ dX5_serve_57 (fun v g_43 H locs hp hT => ?_)
        obtain ⟨r_44, rfl, hI, x_47, m_46, f_45⟩ := hp
        have r_48 : g_43.1 h = 6 := (Ex.r x_47 r_38 (by decide))
        have r_49 : g_43.1 v_1 = 41 := (Ex.r x_47 r_39 (by decide))
        have r_50 : g_43.1 q_2 = 4 := (Ex.r x_47 r_40 (by decide))
        have n_51 : g_43.2.2.1 v_1 = 6 := (Ex.n x_47 r_39 (by decide) n_41)
        have e_52 : g_43.2.1 h 0 = .ref v_1 := (Sm.v m_46 r_38 (by decide) rfl e_42)
        have hM : Sm md_s_serve4 g g_43 := hM.tr hE (m_46.mo (fun r k h => mdle_s_serve4_s_placeOfKey h))
        have hE : Ex g g_43 := hE.tr x_47
        refine W.eq (g2 := F0 m 60 ls [.int r_44]) rfl ?_
        rcases f_45 with rfl | ⟨hw_53, hw_54⟩
        · refine W.eq (g2 := F0 m 60 ls [.int (-1)]) rfl ?_
          refine lv_goto (tgt := 64) hx hb dX5_serve_60 (by decide) ?_
          refine lv_istore (lv' := [(7, .int (-1)), (6, .int 1), (5, .int 1), (4, .ref q_2), (0, .ref h), (1, .int n), (2, .int x1), (3, .int x2)]) hx hb dX5_serve_64 hl (by decide) rfl (fun ls hl => ?_)
          refine lv_iload hx hb dX5_serve_66 (lv_at hl 0 rfl) ?_
          refine lv_iconst (v := (-1)) hx hb dX5_serve_68 (by decide) ?_
          refine lv_icmp_eq (tgt := 81) hx hb dX5_serve_69 (by decide) (fun c_ => ?_) (fun c_ => absurd (by decide) c_)
          refine lv_iload hx hb dX5_serve_81 (lv_at hl 1 rfl) ?_
          refine lv_if_eq (tgt := 98) hx hb dX5_serve_83 (by decide) (fun c_ => absurd c_ (by decide)) (fun c_ => ?_)
          refine lv_aload hx hb dX5_serve_86 (lv_at hl 3 rfl) ?_
          refine lv_iload_n hx hb dX5_serve_88 rfl (lv_at hl 7 rfl) ?_
          refine lv_iload_n hx hb dX5_serve_89 rfl (lv_at hl 6 rfl) ?_
          refine lv_iconst (v := 0) hx hb dX5_serve_90 (by decide) ?_
          refine lv_aload_n hx hb dX5_serve_91 rfl (lv_at hl 4 rfl) ?_
          obtain ⟨v_55, e_v_55⟩ := hI.f r_48 2
          refine t_get (ci := 5) (v := .int v_55) hB hT (ro_ci r_48 rfl) rfl 2 (by decide) k_205 e_v_55 dX5_serve_92 ?_
          refine t_callV (n := 4) (ci := 3) (As := [.int x2, .int x1, .int 0, .int v_55]) (rest := []) hB hT hl.1 (s_keep l D cI cZ cS cR N0 fr g_43 hI q_2 x2 x1 0 v_55 r_50) (ro_ci r_50 rfl) rfl k_524 k_60 k_521 k_522 k_523 (by decide +kernel) ⟨(Nat.le_of_ble_eq_true rfl), (Nat.le_of_ble_eq_true rfl)⟩ rfl (Nat.le_of_ble_eq_true rfl) ⟨(Nat.le_of_ble_eq_true rfl), (Nat.le_of_ble_eq_true rfl)⟩ dX5_serve_95 (fun v g_56 H locs hp hT => ?_)
          obtain ⟨rfl, hI, x_58, m_57⟩ := hp
          have r_59 : g_56.1 h = 6 := (Ex.r x_58 r_48 (by decide))
          have r_60 : g_56.1 v_1 = 41 := (Ex.r x_58 r_49 (by decide))
          have r_61 : g_56.1 q_2 = 4 := (Ex.r x_58 r_50 (by decide))
          have n_62 : g_56.2.2.1 v_1 = 6 := (Ex.n x_58 r_49 (by decide) n_51)
          have e_63 : g_56.2.1 h 0 = .ref v_1 := (Sm.v m_57 r_48 (by decide) rfl e_52)
          have e_64 : g_56.2.1 h 2 = .int v_55 := (Sm.v m_57 r_48 (by decide) rfl e_v_55)
          have hM : Sm md_s_serve4 g g_56 := hM.tr hE (m_57.mo (fun r k h => mdle_s_serve4_s_keep h))
          have hE : Ex g g_56 := hE.tr x_58
          refine W.eq (g2 := F0 m 98 ls []) rfl ?_
          refine lv_aload hx hb dX5_serve_98 (lv_at hl 3 rfl) ?_
          refine lv_iload_n hx hb dX5_serve_100 rfl (lv_at hl 6 rfl) ?_
          refine lv_iload_n hx hb dX5_serve_101 rfl (lv_at hl 7 rfl) ?_
          refine t_callV (n := 2) (ci := 3) (As := [.int x1, .int x2]) (rest := []) hB hT hl.1 (s_beginKnown l D cI cZ cS cR N0 fr g_56 hI q_2 x1 x2 r_61) (ro_ci r_61 rfl) rfl k_529 k_60 k_526 k_527 k_528 (by decide +kernel) ⟨(Nat.le_of_ble_eq_true rfl), (Nat.le_of_ble_eq_true rfl)⟩ rfl (Nat.le_of_ble_eq_true rfl) ⟨(Nat.le_of_ble_eq_true rfl), (Nat.le_of_ble_eq_true rfl)⟩ dX5_serve_102 (fun v g_65 H locs hp hT => ?_)
          obtain ⟨rfl, hI, x_67, m_66⟩ := hp
          have r_68 : g_65.1 h = 6 := (Ex.r x_67 r_59 (by decide))
          have r_69 : g_65.1 v_1 = 41 := (Ex.r x_67 r_60 (by decide))
          have r_70 : g_65.1 q_2 = 4 := (Ex.r x_67 r_61 (by decide))
          have n_71 : g_65.2.2.1 v_1 = 6 := (Ex.n x_67 r_60 (by decide) n_62)
          have e_72 : g_65.2.1 h 0 = .ref v_1 := (Sm.v m_66 r_59 (by decide) rfl e_63)
          have e_73 : g_65.2.1 h 2 = .int v_55 := (Sm.v m_66 r_59 (by decide) rfl e_64)
          have hM : Sm md_s_serve4 g g_65 := hM.tr hE (m_66.mo (fun r k h => mdle_s_serve4_s_beginKnown h))
          have hE : Ex g g_65 := hE.tr x_67
          refine W.eq (g2 := F0 m 105 ls []) rfl ?_
          refine lv_aload_n hx hb dX5_serve_105 rfl (lv_at hl 4 rfl) ?_
          refine lv_iload_n hx hb dX5_serve_106 rfl (lv_at hl 5 rfl) ?_
          refine lv_iload_n hx hb dX5_serve_107 rfl (lv_at hl 6 rfl) ?_
          refine lv_iload_n hx hb dX5_serve_108 rfl (lv_at hl 7 rfl) ?_
          refine t_callV (n := 3) (ci := 5) (As := [.int n, .int x1, .int x2]) (rest := []) hB hT hl.1 (s_runActs4 l D cI cZ cS cR N0 fr g_65 hI h n x1 x2 r_68 (by omega) (by omega)) (ro_ci r_68 rfl) rfl k_534 k_59 k_531 k_533 k_13 (by decide +kernel) ⟨(Nat.le_of_ble_eq_true rfl), (Nat.le_of_ble_eq_true rfl)⟩ rfl (Nat.le_of_ble_eq_true rfl) ⟨(Nat.le_of_ble_eq_true rfl), (Nat.le_of_ble_eq_true rfl)⟩ dX5_serve_109 (fun v g_74 H locs hp hT => ?_)
          obtain ⟨r_75, rfl, hI, x_77, m_76⟩ := hp
          have r_78 : g_74.1 h = 6 := (Ex.r x_77 r_68 (by decide))
          have r_79 : g_74.1 v_1 = 41 := (Ex.r x_77 r_69 (by decide))
          have r_80 : g_74.1 q_2 = 4 := (Ex.r x_77 r_70 (by decide))
          have n_81 : g_74.2.2.1 v_1 = 6 := (Ex.n x_77 r_69 (by decide) n_71)
          have e_82 : g_74.2.1 h 0 = .ref v_1 := (Sm.v m_76 r_68 (by decide) rfl e_72)
          have e_83 : g_74.2.1 h 2 = .int v_55 := (Sm.v m_76 r_68 (by decide) rfl e_73)
          have hM : Sm md_s_serve4 g g_74 := hM.tr hE (m_76.mo (fun r k h => mdle_s_serve4_s_runActs4 h))
          have hE : Ex g g_74 := hE.tr x_77
          refine W.eq (g2 := F0 m 112 ls [.int r_75]) rfl ?_
          refine lv_istore (lv' := [(8, .int r_75), (7, .int (-1)), (6, .int 1), (5, .int 1), (4, .ref q_2), (0, .ref h), (1, .int n), (2, .int x1), (3, .int x2)]) hx hb dX5_serve_112 hl (by decide) rfl (fun ls hl => ?_)
          refine lv_aload_n hx hb dX5_serve_114 rfl (lv_at hl 5 rfl) ?_
          obtain ⟨v_84, e_v_84, l_v_84, u_v_84⟩ := hI.f r_78 7
          refine t_get (ci := 5) (v := .int v_84) hB hT (ro_ci r_78 rfl) rfl 7 (by decide) k_216 e_v_84 dX5_serve_115 ?_
          refine lv_if_eq (tgt := 124) hx hb dX5_serve_118 (by decide) (fun c_85 => ?_) (fun c_85 => ?_)
          · have c_85' : v_84.toInt = 0 := i_eq c_85 rfl (by decide)
            refine lv_iload hx hb dX5_serve_124 (lv_at hl 2 rfl) ?_
            refine lv_if_eq (tgt := 140) hx hb dX5_serve_126 (by decide) (fun c_ => absurd c_ (by decide)) (fun c_ => ?_)
            refine lv_aload hx hb dX5_serve_129 (lv_at hl 4 rfl) ?_
            refine lv_iload_n hx hb dX5_serve_131 rfl (lv_at hl 8 rfl) ?_
            refine lv_iload hx hb dX5_serve_132 (lv_at hl 0 rfl) ?_
            refine t_callV (n := 2) (ci := 3) (As := [.int x2, .int r_75]) (rest := []) hB hT hl.1 (s_answerNewest l D cI cZ cS cR N0 fr g_74 hI q_2 x2 r_75 r_80) (ro_ci r_80 rfl) rfl k_554 k_60 k_551 k_552 k_553 (by decide +kernel) ⟨(Nat.le_of_ble_eq_true rfl), (Nat.le_of_ble_eq_true rfl)⟩ rfl (Nat.le_of_ble_eq_true rfl) ⟨(Nat.le_of_ble_eq_true rfl), (Nat.le_of_ble_eq_true rfl)⟩ dX5_serve_134 (fun v g_86 H locs hp hT => ?_)
            obtain ⟨rfl, hI, x_88, m_87⟩ := hp
            have r_89 : g_86.1 h = 6 := (Ex.r x_88 r_78 (by decide))
            have r_90 : g_86.1 v_1 = 41 := (Ex.r x_88 r_79 (by decide))
            have r_91 : g_86.1 q_2 = 4 := (Ex.r x_88 r_80 (by decide))
            have n_92 : g_86.2.2.1 v_1 = 6 := (Ex.n x_88 r_79 (by decide) n_81)
            have e_93 : g_86.2.1 h 0 = .ref v_1 := (Sm.v m_87 r_78 (by decide) rfl e_82)
            have e_94 : g_86.2.1 h 2 = .int v_55 := (Sm.v m_87 r_78 (by decide) rfl e_83)
            have e_95 : g_86.2.1 h 7 = .int v_84 := (Sm.v m_87 r_78 (by decide) rfl e_v_84)
            have hM : Sm md_s_serve4 g g_86 := hM.tr hE (m_87.mo (fun r k h => mdle_s_serve4_s_answerNewest h))
            have hE : Ex g g_86 := hE.tr x_88
            refine W.eq (g2 := F0 m 137 ls []) rfl ?_
            refine lv_goto (tgt := 158) hx hb dX5_serve_137 (by decide) ?_
            refine lv_iload hx hb dX5_serve_158 (lv_at hl 0 rfl) ?_
            exact t_iret hB hr hT (Nat.le_of_ble_eq_true rfl) (Nat.le_of_ble_eq_true rfl) dX5_serve_160 ⟨r_75, rfl, hI, hE, hM⟩
          · have c_85' : v_84.toInt ≠ 0 := i_ne c_85 rfl (by decide)
            refine lv_bipush (v := (-2)) hx hb dX5_serve_121 (by decide) ?_
            exact t_iret hB hr hT (Nat.le_of_ble_eq_true rfl) (Nat.le_of_ble_eq_true rfl) dX5_serve_123 ⟨(-2), rfl, hI, hE, hM⟩
        · refine W.eq (g2 := F0 m 60 ls [.int r_44]) rfl ?_
          refine lv_goto (tgt := 64) hx hb dX5_serve_60 (by decide) ?_
          refine lv_istore (lv' := [(7, .int r_44), (6, .int 1), (5, .int 1), (4, .ref q_2), (0, .ref h), (1, .int n), (2, .int x1), (3, .int x2)]) hx hb dX5_serve_64 hl (by decide) rfl (fun ls hl => ?_)
          refine lv_iload hx hb dX5_serve_66 (lv_at hl 0 rfl) ?_
          refine lv_iconst (v := (-1)) hx hb dX5_serve_68 (by decide) ?_
          refine lv_icmp_eq (tgt := 81) hx hb dX5_serve_69 (by decide) (fun c_96 => ?_) (fun c_96 => ?_)
          · have c_96' : r_44.toInt = (-1) := i_eq c_96 rfl (by decide)
            exact absurd c_96' (by omega)
          · have c_96' : r_44.toInt ≠ (-1) := i_ne c_96 rfl (by decide)
            refine lv_aload hx hb dX5_serve_72 (lv_at hl 3 rfl) ?_
            refine lv_iload hx hb dX5_serve_74 (lv_at hl 0 rfl) ?_
            refine lv_iload_n hx hb dX5_serve_76 rfl (lv_at hl 6 rfl) ?_
            refine t_callV (n := 2) (ci := 3) (As := [.int r_44, .int x1]) (rest := []) hB hT hl.1 (s_keptAnswer l D cI cZ cS cR N0 fr g_43 hI q_2 r_44 x1 r_50 (by omega) (by omega)) (ro_ci r_50 rfl) rfl k_520 k_60 k_517 k_518 k_519 (by decide +kernel) ⟨(Nat.le_of_ble_eq_true rfl), (Nat.le_of_ble_eq_true rfl)⟩ rfl (Nat.le_of_ble_eq_true rfl) ⟨(Nat.le_of_ble_eq_true rfl), (Nat.le_of_ble_eq_true rfl)⟩ dX5_serve_77 (fun v g_97 H locs hp hT => ?_)
            obtain ⟨r_98, rfl, hI, x_100, m_99⟩ := hp
            have r_101 : g_97.1 h = 6 := (Ex.r x_100 r_48 (by decide))
            have r_102 : g_97.1 v_1 = 41 := (Ex.r x_100 r_49 (by decide))
            have r_103 : g_97.1 q_2 = 4 := (Ex.r x_100 r_50 (by decide))
            have n_104 : g_97.2.2.1 v_1 = 6 := (Ex.n x_100 r_49 (by decide) n_51)
            have e_105 : g_97.2.1 h 0 = .ref v_1 := (Sm.v m_99 r_48 (by decide) rfl e_52)
            have hM : Sm md_s_serve4 g g_97 := hM.tr hE (m_99.mo (fun r k h => mdle_s_serve4_s_keptAnswer h))
            have hE : Ex g g_97 := hE.tr x_100
            refine W.eq (g2 := F0 m 80 ls [.int r_98]) rfl ?_
            exact t_iret hB hr hT (Nat.le_of_ble_eq_true rfl) (Nat.le_of_ble_eq_true rfl) dX5_serve_80 ⟨r_98, rfl, hI, hE, hM⟩
      · refine W.eq (g2 := F0 m 39 ls [.int 0]) rfl ?_
        refine lv_if_eq (tgt := 46) hx hb dX5_serve_39 (by decide) (fun c_ => ?_) (fun c_ => absurd (by decide) c_)
        refine lv_iconst (v := 0) hx hb dX5_serve_46 (by decide) ?_
        refine lv_istore (lv' := [(6, .int 0), (5, .int 1), (4, .ref q_2), (0, .ref h), (1, .int n), (2, .int x1), (3, .int x2)]) hx hb dX5_serve_47 hl (by decide) rfl (fun ls hl => ?_)
        refine lv_iload hx hb dX5_serve_49 (lv_at hl 1 rfl) ?_
        refine lv_if_eq (tgt := 63) hx hb dX5_serve_51 (by decide) (fun c_ => absurd c_ (by decide)) (fun c_ => ?_)
        refine lv_aload hx hb dX5_serve_54 (lv_at hl 2 rfl) ?_
        refine lv_iload_n hx hb dX5_serve_56 rfl (lv_at hl 6 rfl) ?_
        refine t_callV (n := 1) (ci := 3) (As := [.int x2]) (rest := []) hB hT hl.1 (s_placeOfKey l D cI cZ cS cR N0 fr g_33 hI q_2 x2 r_40) (ro_ci r_40 rfl) rfl k_516 k_60 k_513 k_514 k_515 (by decide +kernel) ⟨(Nat.le_of_ble_eq_true rfl), (Nat.le_of_ble_eq_true rfl)⟩ rfl (Nat.le_of_ble_eq_true rfl) ⟨(Nat.le_of_ble_eq_true rfl), (Nat.le_of_ble_eq_true rfl)⟩ dX5_serve_57 (fun v g_106 H locs hp hT => ?_)
        obtain ⟨r_107, rfl, hI, x_110, m_109, f_108⟩ := hp
        have r_111 : g_106.1 h = 6 := (Ex.r x_110 r_38 (by decide))
        have r_112 : g_106.1 v_1 = 41 := (Ex.r x_110 r_39 (by decide))
        have r_113 : g_106.1 q_2 = 4 := (Ex.r x_110 r_40 (by decide))
        have n_114 : g_106.2.2.1 v_1 = 6 := (Ex.n x_110 r_39 (by decide) n_41)
        have e_115 : g_106.2.1 h 0 = .ref v_1 := (Sm.v m_109 r_38 (by decide) rfl e_42)
        have hM : Sm md_s_serve4 g g_106 := hM.tr hE (m_109.mo (fun r k h => mdle_s_serve4_s_placeOfKey h))
        have hE : Ex g g_106 := hE.tr x_110
        refine W.eq (g2 := F0 m 60 ls [.int r_107]) rfl ?_
        rcases f_108 with rfl | ⟨hw_116, hw_117⟩
        · refine W.eq (g2 := F0 m 60 ls [.int (-1)]) rfl ?_
          refine lv_goto (tgt := 64) hx hb dX5_serve_60 (by decide) ?_
          refine lv_istore (lv' := [(7, .int (-1)), (6, .int 0), (5, .int 1), (4, .ref q_2), (0, .ref h), (1, .int n), (2, .int x1), (3, .int x2)]) hx hb dX5_serve_64 hl (by decide) rfl (fun ls hl => ?_)
          refine lv_iload hx hb dX5_serve_66 (lv_at hl 0 rfl) ?_
          refine lv_iconst (v := (-1)) hx hb dX5_serve_68 (by decide) ?_
          refine lv_icmp_eq (tgt := 81) hx hb dX5_serve_69 (by decide) (fun c_ => ?_) (fun c_ => absurd (by decide) c_)
          refine lv_iload hx hb dX5_serve_81 (lv_at hl 1 rfl) ?_
          refine lv_if_eq (tgt := 98) hx hb dX5_serve_83 (by decide) (fun c_ => ?_) (fun c_ => absurd (by decide) c_)
          refine lv_aload hx hb dX5_serve_98 (lv_at hl 3 rfl) ?_
          refine lv_iload_n hx hb dX5_serve_100 rfl (lv_at hl 6 rfl) ?_
          refine lv_iload_n hx hb dX5_serve_101 rfl (lv_at hl 7 rfl) ?_
          refine t_callV (n := 2) (ci := 3) (As := [.int x1, .int x2]) (rest := []) hB hT hl.1 (s_beginKnown l D cI cZ cS cR N0 fr g_106 hI q_2 x1 x2 r_113) (ro_ci r_113 rfl) rfl k_529 k_60 k_526 k_527 k_528 (by decide +kernel) ⟨(Nat.le_of_ble_eq_true rfl), (Nat.le_of_ble_eq_true rfl)⟩ rfl (Nat.le_of_ble_eq_true rfl) ⟨(Nat.le_of_ble_eq_true rfl), (Nat.le_of_ble_eq_true rfl)⟩ dX5_serve_102 (fun v g_118 H locs hp hT => ?_)
          obtain ⟨rfl, hI, x_120, m_119⟩ := hp
          have r_121 : g_118.1 h = 6 := (Ex.r x_120 r_111 (by decide))
          have r_122 : g_118.1 v_1 = 41 := (Ex.r x_120 r_112 (by decide))
          have r_123 : g_118.1 q_2 = 4 := (Ex.r x_120 r_113 (by decide))
          have n_124 : g_118.2.2.1 v_1 = 6 := (Ex.n x_120 r_112 (by decide) n_114)
          have e_125 : g_118.2.1 h 0 = .ref v_1 := (Sm.v m_119 r_111 (by decide) rfl e_115)
          have hM : Sm md_s_serve4 g g_118 := hM.tr hE (m_119.mo (fun r k h => mdle_s_serve4_s_beginKnown h))
          have hE : Ex g g_118 := hE.tr x_120
          refine W.eq (g2 := F0 m 105 ls []) rfl ?_
          refine lv_aload_n hx hb dX5_serve_105 rfl (lv_at hl 4 rfl) ?_
          refine lv_iload_n hx hb dX5_serve_106 rfl (lv_at hl 5 rfl) ?_
          refine lv_iload_n hx hb dX5_serve_107 rfl (lv_at hl 6 rfl) ?_
          refine lv_iload_n hx hb dX5_serve_108 rfl (lv_at hl 7 rfl) ?_
          refine t_callV (n := 3) (ci := 5) (As := [.int n, .int x1, .int x2]) (rest := []) hB hT hl.1 (s_runActs4 l D cI cZ cS cR N0 fr g_118 hI h n x1 x2 r_121 (by omega) (by omega)) (ro_ci r_121 rfl) rfl k_534 k_59 k_531 k_533 k_13 (by decide +kernel) ⟨(Nat.le_of_ble_eq_true rfl), (Nat.le_of_ble_eq_true rfl)⟩ rfl (Nat.le_of_ble_eq_true rfl) ⟨(Nat.le_of_ble_eq_true rfl), (Nat.le_of_ble_eq_true rfl)⟩ dX5_serve_109 (fun v g_126 H locs hp hT => ?_)
          obtain ⟨r_127, rfl, hI, x_129, m_128⟩ := hp
          have r_130 : g_126.1 h = 6 := (Ex.r x_129 r_121 (by decide))
          have r_131 : g_126.1 v_1 = 41 := (Ex.r x_129 r_122 (by decide))
          have r_132 : g_126.1 q_2 = 4 := (Ex.r x_129 r_123 (by decide))
          have n_133 : g_126.2.2.1 v_1 = 6 := (Ex.n x_129 r_122 (by decide) n_124)
          have e_134 : g_126.2.1 h 0 = .ref v_1 := (Sm.v m_128 r_121 (by decide) rfl e_125)
          have hM : Sm md_s_serve4 g g_126 := hM.tr hE (m_128.mo (fun r k h => mdle_s_serve4_s_runActs4 h))
          have hE : Ex g g_126 := hE.tr x_129
          refine W.eq (g2 := F0 m 112 ls [.int r_127]) rfl ?_
          refine lv_istore (lv' := [(8, .int r_127), (7, .int (-1)), (6, .int 0), (5, .int 1), (4, .ref q_2), (0, .ref h), (1, .int n), (2, .int x1), (3, .int x2)]) hx hb dX5_serve_112 hl (by decide) rfl (fun ls hl => ?_)
          refine lv_aload_n hx hb dX5_serve_114 rfl (lv_at hl 5 rfl) ?_
          obtain ⟨v_135, e_v_135, l_v_135, u_v_135⟩ := hI.f r_130 7
          refine t_get (ci := 5) (v := .int v_135) hB hT (ro_ci r_130 rfl) rfl 7 (by decide) k_216 e_v_135 dX5_serve_115 ?_
          refine lv_if_eq (tgt := 124) hx hb dX5_serve_118 (by decide) (fun c_136 => ?_) (fun c_136 => ?_)
          · have c_136' : v_135.toInt = 0 := i_eq c_136 rfl (by decide)
            refine lv_iload hx hb dX5_serve_124 (lv_at hl 2 rfl) ?_
            refine lv_if_eq (tgt := 140) hx hb dX5_serve_126 (by decide) (fun c_ => ?_) (fun c_ => absurd (by decide) c_)
            refine lv_iload hx hb dX5_serve_140 (lv_at hl 3 rfl) ?_
            refine lv_if_eq (tgt := 158) hx hb dX5_serve_142 (by decide) (fun c_ => absurd c_ (by decide)) (fun c_ => ?_)
            refine lv_aload hx hb dX5_serve_145 (lv_at hl 4 rfl) ?_
            refine lv_iload_n hx hb dX5_serve_147 rfl (lv_at hl 8 rfl) ?_
            refine lv_iload_n hx hb dX5_serve_148 rfl (lv_at hl 7 rfl) ?_
            refine lv_iload hx hb dX5_serve_149 (lv_at hl 0 rfl) ?_
            refine lv_aload_n hx hb dX5_serve_151 rfl (lv_at hl 5 rfl) ?_
            obtain ⟨v_137, e_v_137⟩ := hI.f r_130 2
            refine t_get (ci := 5) (v := .int v_137) hB hT (ro_ci r_130 rfl) rfl 2 (by decide) k_205 e_v_137 dX5_serve_152 ?_
            refine t_callV (n := 4) (ci := 3) (As := [.int x2, .int x1, .int r_127, .int v_137]) (rest := []) hB hT hl.1 (s_keep l D cI cZ cS cR N0 fr g_126 hI q_2 x2 x1 r_127 v_137 r_132) (ro_ci r_132 rfl) rfl k_524 k_60 k_521 k_522 k_523 (by decide +kernel) ⟨(Nat.le_of_ble_eq_true rfl), (Nat.le_of_ble_eq_true rfl)⟩ rfl (Nat.le_of_ble_eq_true rfl) ⟨(Nat.le_of_ble_eq_true rfl), (Nat.le_of_ble_eq_true rfl)⟩ dX5_serve_155 (fun v g_138 H locs hp hT => ?_)
            obtain ⟨rfl, hI, x_140, m_139⟩ := hp
            have r_141 : g_138.1 h = 6 := (Ex.r x_140 r_130 (by decide))
            have r_142 : g_138.1 v_1 = 41 := (Ex.r x_140 r_131 (by decide))
            have r_143 : g_138.1 q_2 = 4 := (Ex.r x_140 r_132 (by decide))
            have n_144 : g_138.2.2.1 v_1 = 6 := (Ex.n x_140 r_131 (by decide) n_133)
            have e_145 : g_138.2.1 h 0 = .ref v_1 := (Sm.v m_139 r_130 (by decide) rfl e_134)
            have e_146 : g_138.2.1 h 7 = .int v_135 := (Sm.v m_139 r_130 (by decide) rfl e_v_135)
            have e_147 : g_138.2.1 h 2 = .int v_137 := (Sm.v m_139 r_130 (by decide) rfl e_v_137)
            have hM : Sm md_s_serve4 g g_138 := hM.tr hE (m_139.mo (fun r k h => mdle_s_serve4_s_keep h))
            have hE : Ex g g_138 := hE.tr x_140
            refine W.eq (g2 := F0 m 158 ls []) rfl ?_
            refine lv_iload hx hb dX5_serve_158 (lv_at hl 0 rfl) ?_
            exact t_iret hB hr hT (Nat.le_of_ble_eq_true rfl) (Nat.le_of_ble_eq_true rfl) dX5_serve_160 ⟨r_127, rfl, hI, hE, hM⟩
          · have c_136' : v_135.toInt ≠ 0 := i_ne c_136 rfl (by decide)
            refine lv_bipush (v := (-2)) hx hb dX5_serve_121 (by decide) ?_
            exact t_iret hB hr hT (Nat.le_of_ble_eq_true rfl) (Nat.le_of_ble_eq_true rfl) dX5_serve_123 ⟨(-2), rfl, hI, hE, hM⟩
        · refine W.eq (g2 := F0 m 60 ls [.int r_107]) rfl ?_
          refine lv_goto (tgt := 64) hx hb dX5_serve_60 (by decide) ?_
          refine lv_istore (lv' := [(7, .int r_107), (6, .int 0), (5, .int 1), (4, .ref q_2), (0, .ref h), (1, .int n), (2, .int x1), (3, .int x2)]) hx hb dX5_serve_64 hl (by decide) rfl (fun ls hl => ?_)
          refine lv_iload hx hb dX5_serve_66 (lv_at hl 0 rfl) ?_
          refine lv_iconst (v := (-1)) hx hb dX5_serve_68 (by decide) ?_
          refine lv_icmp_eq (tgt := 81) hx hb dX5_serve_69 (by decide) (fun c_148 => ?_) (fun c_148 => ?_)
          · have c_148' : r_107.toInt = (-1) := i_eq c_148 rfl (by decide)
            exact absurd c_148' (by omega)
          · have c_148' : r_107.toInt ≠ (-1) := i_ne c_148 rfl (by decide)
            refine lv_aload hx hb dX5_serve_72 (lv_at hl 3 rfl) ?_
            refine lv_iload hx hb dX5_serve_74 (lv_at hl 0 rfl) ?_
            refine lv_iload_n hx hb dX5_serve_76 rfl (lv_at hl 6 rfl) ?_
            refine t_callV (n := 2) (ci := 3) (As := [.int r_107, .int x1]) (rest := []) hB hT hl.1 (s_keptAnswer l D cI cZ cS cR N0 fr g_106 hI q_2 r_107 x1 r_113 (by omega) (by omega)) (ro_ci r_113 rfl) rfl k_520 k_60 k_517 k_518 k_519 (by decide +kernel) ⟨(Nat.le_of_ble_eq_true rfl), (Nat.le_of_ble_eq_true rfl)⟩ rfl (Nat.le_of_ble_eq_true rfl) ⟨(Nat.le_of_ble_eq_true rfl), (Nat.le_of_ble_eq_true rfl)⟩ dX5_serve_77 (fun v g_149 H locs hp hT => ?_)
            obtain ⟨r_150, rfl, hI, x_152, m_151⟩ := hp
            have r_153 : g_149.1 h = 6 := (Ex.r x_152 r_111 (by decide))
            have r_154 : g_149.1 v_1 = 41 := (Ex.r x_152 r_112 (by decide))
            have r_155 : g_149.1 q_2 = 4 := (Ex.r x_152 r_113 (by decide))
            have n_156 : g_149.2.2.1 v_1 = 6 := (Ex.n x_152 r_112 (by decide) n_114)
            have e_157 : g_149.2.1 h 0 = .ref v_1 := (Sm.v m_151 r_111 (by decide) rfl e_115)
            have hM : Sm md_s_serve4 g g_149 := hM.tr hE (m_151.mo (fun r k h => mdle_s_serve4_s_keptAnswer h))
            have hE : Ex g g_149 := hE.tr x_152
            refine W.eq (g2 := F0 m 80 ls [.int r_150]) rfl ?_
            exact t_iret hB hr hT (Nat.le_of_ble_eq_true rfl) (Nat.le_of_ble_eq_true rfl) dX5_serve_80 ⟨r_150, rfl, hI, hE, hM⟩
    · refine W.eq (g2 := F0 m 18 ls [.int 0]) rfl ?_
      refine lv_if_eq (tgt := 25) hx hb dX5_serve_18 (by decide) (fun c_ => ?_) (fun c_ => absurd (by decide) c_)
      refine lv_iconst (v := 0) hx hb dX5_serve_25 (by decide) ?_
      refine lv_istore (lv' := [(5, .int 0), (4, .ref q_2), (0, .ref h), (1, .int n), (2, .int x1), (3, .int x2)]) hx hb dX5_serve_26 hl (by decide) rfl (fun ls hl => ?_)
      refine lv_iload hx hb dX5_serve_28 (lv_at hl 0 rfl) ?_
      refine lv_if_eq (tgt := 46) hx hb dX5_serve_30 (by decide) (fun c_ => ?_) (fun c_ => absurd (by decide) c_)
      refine lv_iconst (v := 0) hx hb dX5_serve_46 (by decide) ?_
      refine lv_istore (lv' := [(6, .int 0), (5, .int 0), (4, .ref q_2), (0, .ref h), (1, .int n), (2, .int x1), (3, .int x2)]) hx hb dX5_serve_47 hl (by decide) rfl (fun ls hl => ?_)
      refine lv_iload hx hb dX5_serve_49 (lv_at hl 1 rfl) ?_
      refine lv_if_eq (tgt := 63) hx hb dX5_serve_51 (by decide) (fun c_ => ?_) (fun c_ => absurd (by decide) c_)
      refine lv_iconst (v := (-1)) hx hb dX5_serve_63 (by decide) ?_
      refine lv_istore (lv' := [(7, .int (-1)), (6, .int 0), (5, .int 0), (4, .ref q_2), (0, .ref h), (1, .int n), (2, .int x1), (3, .int x2)]) hx hb dX5_serve_64 hl (by decide) rfl (fun ls hl => ?_)
      refine lv_iload hx hb dX5_serve_66 (lv_at hl 0 rfl) ?_
      refine lv_iconst (v := (-1)) hx hb dX5_serve_68 (by decide) ?_
      refine lv_icmp_eq (tgt := 81) hx hb dX5_serve_69 (by decide) (fun c_ => ?_) (fun c_ => absurd (by decide) c_)
      refine lv_iload hx hb dX5_serve_81 (lv_at hl 1 rfl) ?_
      refine lv_if_eq (tgt := 98) hx hb dX5_serve_83 (by decide) (fun c_ => ?_) (fun c_ => absurd (by decide) c_)
      refine lv_aload hx hb dX5_serve_98 (lv_at hl 3 rfl) ?_
      refine lv_iload_n hx hb dX5_serve_100 rfl (lv_at hl 6 rfl) ?_
      refine lv_iload_n hx hb dX5_serve_101 rfl (lv_at hl 7 rfl) ?_
      refine t_callV (n := 2) (ci := 3) (As := [.int x1, .int x2]) (rest := []) hB hT hl.1 (s_beginKnown l D cI cZ cS cR N0 fr g_23 hI q_2 x1 x2 r_30) (ro_ci r_30 rfl) rfl k_529 k_60 k_526 k_527 k_528 (by decide +kernel) ⟨(Nat.le_of_ble_eq_true rfl), (Nat.le_of_ble_eq_true rfl)⟩ rfl (Nat.le_of_ble_eq_true rfl) ⟨(Nat.le_of_ble_eq_true rfl), (Nat.le_of_ble_eq_true rfl)⟩ dX5_serve_102 (fun v g_158 H locs hp hT => ?_)
      obtain ⟨rfl, hI, x_160, m_159⟩ := hp
      have r_161 : g_158.1 h = 6 := (Ex.r x_160 r_28 (by decide))
      have r_162 : g_158.1 v_1 = 41 := (Ex.r x_160 r_29 (by decide))
      have r_163 : g_158.1 q_2 = 4 := (Ex.r x_160 r_30 (by decide))
      have n_164 : g_158.2.2.1 v_1 = 6 := (Ex.n x_160 r_29 (by decide) n_31)
      have e_165 : g_158.2.1 h 0 = .ref v_1 := (Sm.v m_159 r_28 (by decide) rfl e_32)
      have hM : Sm md_s_serve4 g g_158 := hM.tr hE (m_159.mo (fun r k h => mdle_s_serve4_s_beginKnown h))
      have hE : Ex g g_158 := hE.tr x_160
      refine W.eq (g2 := F0 m 105 ls []) rfl ?_
      refine lv_aload_n hx hb dX5_serve_105 rfl (lv_at hl 4 rfl) ?_
      refine lv_iload_n hx hb dX5_serve_106 rfl (lv_at hl 5 rfl) ?_
      refine lv_iload_n hx hb dX5_serve_107 rfl (lv_at hl 6 rfl) ?_
      refine lv_iload_n hx hb dX5_serve_108 rfl (lv_at hl 7 rfl) ?_
      refine t_callV (n := 3) (ci := 5) (As := [.int n, .int x1, .int x2]) (rest := []) hB hT hl.1 (s_runActs4 l D cI cZ cS cR N0 fr g_158 hI h n x1 x2 r_161 (by omega) (by omega)) (ro_ci r_161 rfl) rfl k_534 k_59 k_531 k_533 k_13 (by decide +kernel) ⟨(Nat.le_of_ble_eq_true rfl), (Nat.le_of_ble_eq_true rfl)⟩ rfl (Nat.le_of_ble_eq_true rfl) ⟨(Nat.le_of_ble_eq_true rfl), (Nat.le_of_ble_eq_true rfl)⟩ dX5_serve_109 (fun v g_166 H locs hp hT => ?_)
      obtain ⟨r_167, rfl, hI, x_169, m_168⟩ := hp
      have r_170 : g_166.1 h = 6 := (Ex.r x_169 r_161 (by decide))
      have r_171 : g_166.1 v_1 = 41 := (Ex.r x_169 r_162 (by decide))
      have r_172 : g_166.1 q_2 = 4 := (Ex.r x_169 r_163 (by decide))
      have n_173 : g_166.2.2.1 v_1 = 6 := (Ex.n x_169 r_162 (by decide) n_164)
      have e_174 : g_166.2.1 h 0 = .ref v_1 := (Sm.v m_168 r_161 (by decide) rfl e_165)
      have hM : Sm md_s_serve4 g g_166 := hM.tr hE (m_168.mo (fun r k h => mdle_s_serve4_s_runActs4 h))
      have hE : Ex g g_166 := hE.tr x_169
      refine W.eq (g2 := F0 m 112 ls [.int r_167]) rfl ?_
      refine lv_istore (lv' := [(8, .int r_167), (7, .int (-1)), (6, .int 0), (5, .int 0), (4, .ref q_2), (0, .ref h), (1, .int n), (2, .int x1), (3, .int x2)]) hx hb dX5_serve_112 hl (by decide) rfl (fun ls hl => ?_)
      refine lv_aload_n hx hb dX5_serve_114 rfl (lv_at hl 5 rfl) ?_
      obtain ⟨v_175, e_v_175, l_v_175, u_v_175⟩ := hI.f r_170 7
      refine t_get (ci := 5) (v := .int v_175) hB hT (ro_ci r_170 rfl) rfl 7 (by decide) k_216 e_v_175 dX5_serve_115 ?_
      refine lv_if_eq (tgt := 124) hx hb dX5_serve_118 (by decide) (fun c_176 => ?_) (fun c_176 => ?_)
      · have c_176' : v_175.toInt = 0 := i_eq c_176 rfl (by decide)
        refine lv_iload hx hb dX5_serve_124 (lv_at hl 2 rfl) ?_
        refine lv_if_eq (tgt := 140) hx hb dX5_serve_126 (by decide) (fun c_ => ?_) (fun c_ => absurd (by decide) c_)
        refine lv_iload hx hb dX5_serve_140 (lv_at hl 3 rfl) ?_
        refine lv_if_eq (tgt := 158) hx hb dX5_serve_142 (by decide) (fun c_ => ?_) (fun c_ => absurd (by decide) c_)
        refine lv_iload hx hb dX5_serve_158 (lv_at hl 0 rfl) ?_
        exact t_iret hB hr hT (Nat.le_of_ble_eq_true rfl) (Nat.le_of_ble_eq_true rfl) dX5_serve_160 ⟨r_167, rfl, hI, hE, hM⟩
      · have c_176' : v_175.toInt ≠ 0 := i_ne c_176 rfl (by decide)
        refine lv_bipush (v := (-2)) hx hb dX5_serve_121 (by decide) ?_
        exact t_iret hB hr hT (Nat.le_of_ble_eq_true rfl) (Nat.le_of_ble_eq_true rfl) dX5_serve_123 ⟨(-2), rfl, hI, hE, hM⟩
def md_s_runActs5 : Nat → Nat → Bool := fun r k => (r == 4 && k == 0) || (r == 4 && k == 2) || (r == 4 && k == 3) || (r == 4 && k == 4) || (r == 4 && k == 5) || (r == 4 && k == 10) || (r == 4 && k == 11) || (r == 4 && k == 14) || (r == 6 && k == 4) || (r == 6 && k == 5) || (r == 6 && k == 7)
theorem mdle_s_runActs5_s_canAsk {r k : Nat} (h : md_s_runActs5 r k = false) : md_s_canAsk r k = false := by
  first | rfl | (simp only [md_s_runActs5, md_s_canAsk, Bool.or_eq_false_iff, Bool.and_eq_false_iff, beq_eq_false_iff_ne] at h ⊢; omega)
theorem mdle_s_runActs5_s_isHeldBack {r k : Nat} (h : md_s_runActs5 r k = false) : md_s_isHeldBack r k = false := by
  first | rfl | (simp only [md_s_runActs5, md_s_isHeldBack, Bool.or_eq_false_iff, Bool.and_eq_false_iff, beq_eq_false_iff_ne] at h ⊢; omega)
theorem mdle_s_runActs5_s_passesOver {r k : Nat} (h : md_s_runActs5 r k = false) : md_s_passesOver r k = false := by
  first | rfl | (simp only [md_s_runActs5, md_s_passesOver, Bool.or_eq_false_iff, Bool.and_eq_false_iff, beq_eq_false_iff_ne] at h ⊢; omega)
theorem mdle_s_runActs5_s_perform {r k : Nat} (h : md_s_runActs5 r k = false) : md_s_perform r k = false := by
  first | rfl | (simp only [md_s_runActs5, md_s_perform, Bool.or_eq_false_iff, Bool.and_eq_false_iff, beq_eq_false_iff_ne] at h ⊢; omega)
theorem mdle_s_runActs5_s_serve4 {r k : Nat} (h : md_s_runActs5 r k = false) : md_s_serve4 r k = false := by
  first | rfl | (simp only [md_s_runActs5, md_s_serve4, Bool.or_eq_false_iff, Bool.and_eq_false_iff, beq_eq_false_iff_ne] at h ⊢; omega)
theorem mdle_s_runActs5_s_valueAt {r k : Nat} (h : md_s_runActs5 r k = false) : md_s_valueAt r k = false := by
  first | rfl | (simp only [md_s_runActs5, md_s_valueAt, Bool.or_eq_false_iff, Bool.and_eq_false_iff, beq_eq_false_iff_ne] at h ⊢; omega)
set_option maxHeartbeats 4000000 in
set_option maxRecDepth 100000 in
theorem lt_s_runActs5_a (l : Launch) (D : va_G) (cI cZ cS cR : ClassId) (N0 : NT) (fr : Int32) (g : GS) (h : Nat) (n : Int32) (x1 : Int32) (x2 : Int32) (r_h : g.1 h = 6) (l_n : 0 ≤ n.toInt) (u_n : n.toInt ≤ 5) {p : Program} {e : Env} {s : State} {m : MethodId} {args : Array Value} {below : List Frame} {meth : Method} {c : Code} (hB : Tz p s m meth c args cX5_runActs 14 RX5 D cI cZ cS cR N0) (hr : meth.sig.returnType = (some .int))  : ∀ (kf : Nat) (g1 : GS) (i : Int32) (j : Int32) (pk : Int32) (po : Int32) (q1 : Nat) (q2 : Nat) (H : Heap) (locs : List Loc) (ls : Array Slot), Tv D cI cZ cS cR N0 s.heap H locs g1 → Inv fr g1 → Ex g g1 → Sm md_s_runActs5 g g1 → 0 ≤ i.toInt → i.toInt ≤ 8 → 0 ≤ pk.toInt → pk.toInt ≤ 1 → 0 ≤ po.toInt → po.toInt ≤ 1 → g1.1 q1 = 4 → g1.1 q2 = 3 → 8 ≤ i.toInt + kf → lv_has ls 14 [(9, .int i), (8, .int po), (7, .int j), (6, .int pk), (5, .ref q2), (4, .ref q1), (0, .ref h), (1, .int n), (2, .int x1), (3, .int x2)] → W p l e (rmx 11 0 0) s m args below meth c H locs 0 0 (MQ below (tQ D cI cZ cS cR N0 (fun v g' => ∃ (r : Int32), v = some (.int r) ∧ Inv fr g' ∧ Ex g g' ∧ Sm md_s_runActs5 g g')) args s 0 0 (fun q => N0.1 ≤ q)) (F0 m 44 ls []) := by
  have hx := hB.1
  have hb := hB.2.1
  intro kf
  induction kf using Nat.strongRecOn with
  | ind kf ih =>
    intro g1 i j pk po q1 q2 H locs ls hT hI hE hM l_i u_i l_pk u_pk l_po u_po r1_q1 r1_q2 hk hl
    have r1_h : g1.1 h = 6 := Ex.r hE r_h (by decide)
    refine lv_iload hx hb dX5_runActs_44 (lv_at hl 0 rfl) ?_
    refine lv_aload hx hb dX5_runActs_46 (lv_at hl 4 rfl) ?_
    obtain ⟨v_1, e_v_1, l_v_1, u_v_1⟩ := hI.f r1_q2 3
    refine t_get (ci := 2) (v := .int v_1) hB hT (ro_ci r1_q2 rfl) rfl 3 (by decide) k_133 e_v_1 dX5_runActs_48 ?_
    refine lv_icmp_ge (tgt := 288) hx hb dX5_runActs_51 (by decide) (fun c_2 => ?_) (fun c_2 => ?_)
    · have c_2' : v_1.toInt ≤ i.toInt := i_le c_2 rfl rfl
      refine lv_iload hx hb dX5_runActs_288 (lv_at hl 2 rfl) ?_
      exact t_iret hB hr hT (Nat.le_of_ble_eq_true rfl) (Nat.le_of_ble_eq_true rfl) dX5_runActs_290 ⟨j, rfl, hI, hE, hM⟩
    · have c_2' : i.toInt < v_1.toInt := i_nle c_2 rfl rfl
      refine lv_iload hx hb dX5_runActs_54 (lv_at hl 1 rfl) ?_
      refine lv_if_eq (tgt := 65) hx hb dX5_runActs_56 (by decide) (fun c_3 => ?_) (fun c_3 => ?_)
      · have c_3' : po.toInt = 0 := i_eq c_3 rfl (by decide)
        refine lv_aload_n hx hb dX5_runActs_65 rfl (lv_at hl 6 rfl) ?_
        obtain ⟨v_4, e_v_4⟩ := hI.f r1_h 5
        refine t_get (ci := 5) (v := .int v_4) hB hT (ro_ci r1_h rfl) rfl 5 (by decide) k_213 e_v_4 dX5_runActs_66 ?_
        refine lv_iconst (v := 1) hx hb dX5_runActs_69 (by decide) ?_
        refine lv_iadd hx hb dX5_runActs_70 ?_
        refine lv_topi (fun z_5 ez_5 => ?_)
        refine lv_aload_n hx hb dX5_runActs_71 rfl (lv_at hl 6 rfl) ?_
        obtain ⟨v_6, e_v_6⟩ := hI.f r1_h 6
        refine t_get (ci := 5) (v := .int v_6) hB hT (ro_ci r1_h rfl) rfl 6 (by decide) k_215 e_v_6 dX5_runActs_72 ?_
        refine lv_icmp_lt (tgt := 86) hx hb dX5_runActs_75 (by decide) (fun c_7 => ?_) (fun c_7 => ?_)
        · have c_7' : z_5.toInt < v_6.toInt := i_lt c_7 rfl rfl
          refine lv_aload_n hx hb dX5_runActs_86 rfl (lv_at hl 6 rfl) ?_
          refine lv_dup hx hb dX5_runActs_87 rfl ?_
          refine t_get (ci := 5) (v := .int v_4) hB hT (ro_ci r1_h rfl) rfl 5 (by decide) k_213 e_v_4 dX5_runActs_88 ?_
          refine lv_iconst (v := 1) hx hb dX5_runActs_91 (by decide) ?_
          refine lv_iadd hx hb dX5_runActs_92 ?_
          refine lv_topi (fun z_8 ez_8 => ?_)
          refine t_put0 (ci := 5) (v := .int z_8) hB hT (ro_ci r1_h rfl) (ro_n0 r1_h (by decide)) rfl 5 (by decide) k_213 (Or.inl rfl) rfl rfl dX5_runActs_93 (fun H locs hT => ?_)
          have hI : Inv fr (sF g1 h 5 (.int z_8)) := hI.sF (fk r1_h (⟨_, rfl⟩))
          have hM : Sm md_s_runActs5 g (sF g1 h 5 (.int z_8)) := hM.tr hE (Sm_sF (by rw [r1_h]; rfl))
          have hE : Ex g (sF g1 h 5 (.int z_8)) := hE
          refine lv_aload hx hb dX5_runActs_96 (lv_at hl 4 rfl) ?_
          refine lv_iload hx hb dX5_runActs_98 (lv_at hl 0 rfl) ?_
          refine lv_iload_n hx hb dX5_runActs_100 rfl (lv_at hl 8 rfl) ?_
          refine lv_iload hx hb dX5_runActs_101 (lv_at hl 2 rfl) ?_
          refine t_callV (n := 3) (ci := 2) (As := [.int i, .int x1, .int j]) (rest := []) hB hT hl.1 (s_valueAt l D cI cZ cS cR N0 fr (sF g1 h 5 (.int z_8)) hI q2 i x1 j r1_q2 (by omega) (by omega)) (ro_ci r1_q2 rfl) rfl k_538 k_61 k_535 k_536 k_537 (by decide +kernel) ⟨(Nat.le_of_ble_eq_true rfl), (Nat.le_of_ble_eq_true rfl)⟩ rfl (Nat.le_of_ble_eq_true rfl) ⟨(Nat.le_of_ble_eq_true rfl), (Nat.le_of_ble_eq_true rfl)⟩ dX5_runActs_103 (fun v g_9 H locs hp hT => ?_)
          obtain ⟨r_10, rfl, hI, x_12, m_11⟩ := hp
          have r_13 : g_9.1 h = 6 := (Ex.r x_12 r1_h (by decide))
          have r_14 : g_9.1 q1 = 4 := (Ex.r x_12 r1_q1 (by decide))
          have r_15 : g_9.1 q2 = 3 := (Ex.r x_12 r1_q2 (by decide))
          have e_16 : g_9.2.1 q2 3 = .int v_1 := (Sm.v m_11 r1_q2 (by decide) rfl (sF_k e_v_1 (by decide)))
          have e_17 : g_9.2.1 h 6 = .int v_6 := (Sm.v m_11 r1_h (by decide) rfl (sF_k e_v_6 (by decide)))
          have e_18 : g_9.2.1 h 5 = .int z_8 := (Sm.v m_11 r1_h (by decide) rfl sF_eq)
          have hM : Sm md_s_runActs5 g g_9 := hM.tr hE (m_11.mo (fun r k h => mdle_s_runActs5_s_valueAt h))
          have hE : Ex g g_9 := hE.tr x_12
          refine W.eq (g2 := F0 m 106 ls [.int r_10]) rfl ?_
          refine lv_istore (lv' := [(10, .int r_10), (9, .int i), (8, .int po), (7, .int j), (6, .int pk), (5, .ref q2), (4, .ref q1), (0, .ref h), (1, .int n), (2, .int x1), (3, .int x2)]) hx hb dX5_runActs_106 hl (by decide) rfl (fun ls hl => ?_)
          refine lv_aload hx hb dX5_runActs_108 (lv_at hl 6 rfl) ?_
          refine lv_iload hx hb dX5_runActs_110 (lv_at hl 1 rfl) ?_
          refine lv_iload hx hb dX5_runActs_112 (lv_at hl 0 rfl) ?_
          refine t_callV (n := 2) (ci := 3) (As := [.int i, .int r_10]) (rest := []) hB hT hl.1 (s_isHeldBack l D cI cZ cS cR N0 fr g_9 hI q1 i r_10 r_14 (by omega) (by omega)) (ro_ci r_14 rfl) rfl k_542 k_60 k_539 k_540 k_541 (by decide +kernel) ⟨(Nat.le_of_ble_eq_true rfl), (Nat.le_of_ble_eq_true rfl)⟩ rfl (Nat.le_of_ble_eq_true rfl) ⟨(Nat.le_of_ble_eq_true rfl), (Nat.le_of_ble_eq_true rfl)⟩ dX5_runActs_114 (fun v g_19 H locs hp hT => ?_)
          obtain ⟨r_20, rfl, hI, x_23, m_22, f_21⟩ := hp
          have r_24 : g_19.1 h = 6 := (Ex.r x_23 r_13 (by decide))
          have r_25 : g_19.1 q1 = 4 := (Ex.r x_23 r_14 (by decide))
          have r_26 : g_19.1 q2 = 3 := (Ex.r x_23 r_15 (by decide))
          have e_27 : g_19.2.1 q2 3 = .int v_1 := (Sm.v m_22 r_15 (by decide) rfl e_16)
          have e_28 : g_19.2.1 h 6 = .int v_6 := (Sm.v m_22 r_13 (by decide) rfl e_17)
          have e_29 : g_19.2.1 h 5 = .int z_8 := (Sm.v m_22 r_13 (by decide) rfl e_18)
          have hM : Sm md_s_runActs5 g g_19 := hM.tr hE (m_22.mo (fun r k h => mdle_s_runActs5_s_isHeldBack h))
          have hE : Ex g g_19 := hE.tr x_23
          refine W.eq (g2 := F0 m 117 ls [.int r_20]) rfl ?_
          rcases f_21 with rfl | rfl
          · refine W.eq (g2 := F0 m 117 ls [.int 1]) rfl ?_
            refine lv_if_eq (tgt := 123) hx hb dX5_runActs_117 (by decide) (fun c_ => absurd c_ (by decide)) (fun c_ => ?_)
            refine lv_goto (tgt := 282) hx hb dX5_runActs_120 (by decide) ?_
            obtain ⟨z_30, ez_30⟩ : ∃ z : Int32, z = i + 1 := ⟨_, rfl⟩
            have e_z_30 : z_30.toInt = i.toInt + 1 := i_add ez_30 rfl (by decide) (by omega) (by omega)
            refine lv_iinc (v := z_30) (lv' := [(9, .int z_30), (10, .int r_10), (8, .int po), (7, .int j), (6, .int pk), (5, .ref q2), (4, .ref q1), (0, .ref h), (1, .int n), (2, .int x1), (3, .int x2)]) hx hb dX5_runActs_282 hl (k := 1) rfl (by rw [ez_30]; rfl) (by decide) rfl (fun ls hl => ?_)
            refine lv_goto (tgt := 44) hx hb dX5_runActs_285 (by decide) ?_
            exact ih (kf - 1) (by omega) g_19 z_30 j pk po q1 q2 H locs ls hT hI hE hM (by omega) (by omega) (by omega) (by omega) (by omega) (by omega) r_25 r_26 (by have e0 := z0; omega) (lv_sub hl [0, 2, 3, 4, 5, 6, 7, 8, 9, 10] rfl)
          · refine W.eq (g2 := F0 m 117 ls [.int 0]) rfl ?_
            refine lv_if_eq (tgt := 123) hx hb dX5_runActs_117 (by decide) (fun c_ => ?_) (fun c_ => absurd (by decide) c_)
            refine lv_aload hx hb dX5_runActs_123 (lv_at hl 5 rfl) ?_
            obtain ⟨v_31, e_v_31, r_v_31, n_v_31⟩ := hI.f r_26 0
            refine t_get (ci := 2) (v := .ref v_31) hB hT (ro_ci r_26 rfl) rfl 0 (by decide) k_122 e_v_31 dX5_runActs_125 ?_
            refine lv_iload hx hb dX5_runActs_128 (lv_at hl 1 rfl) ?_
            have i_u_32 : vp_in i 8 := (i_in (n := 8) rfl (by omega) (by omega))
            refine t_iald hB hT (ro_in r_v_31 (by decide)) n_v_31 i_u_32 rfl dX5_runActs_130 ?_
            refine lv_topi (fun u_32 e_u_32 => ?_)
            refine lv_istore (lv' := [(11, .int u_32), (10, .int r_10), (9, .int i), (8, .int po), (7, .int j), (6, .int pk), (5, .ref q2), (4, .ref q1), (0, .ref h), (1, .int n), (2, .int x1), (3, .int x2)]) hx hb dX5_runActs_131 hl (by decide) rfl (fun ls hl => ?_)
            refine lv_aload hx hb dX5_runActs_133 (lv_at hl 6 rfl) ?_
            obtain ⟨v_33, e_v_33, r_v_33, n_v_33⟩ := hI.f r_26 1
            refine t_get (ci := 2) (v := .ref v_33) hB hT (ro_ci r_26 rfl) rfl 1 (by decide) k_126 e_v_33 dX5_runActs_135 ?_
            refine lv_iload hx hb dX5_runActs_138 (lv_at hl 2 rfl) ?_
            have i_u_34 : vp_in i 8 := (i_in (n := 8) rfl (by omega) (by omega))
            refine t_iald hB hT (ro_in r_v_33 (by decide)) n_v_33 i_u_34 rfl dX5_runActs_140 ?_
            have c_u_34 := hI.c r_v_33 n_v_33 (i_cl i_u_34)
            refine lv_topi (fun u_34 e_u_34 => ?_)
            obtain ⟨l_u_34, u_u_34⟩ := c_u_34
            rw [← e_u_34] at l_u_34 u_u_34
            refine lv_istore (lv' := [(12, .int u_34), (11, .int u_32), (10, .int r_10), (9, .int i), (8, .int po), (7, .int j), (6, .int pk), (5, .ref q2), (4, .ref q1), (0, .ref h), (1, .int n), (2, .int x1), (3, .int x2)]) hx hb dX5_runActs_141 hl (by decide) rfl (fun ls hl => ?_)
            refine lv_iload hx hb dX5_runActs_143 (lv_at hl 1 rfl) ?_
            refine lv_iconst (v := 5) hx hb dX5_runActs_145 (by decide) ?_
            refine lv_icmp_ne (tgt := 207) hx hb dX5_runActs_146 (by decide) (fun c_35 => ?_) (fun c_35 => ?_)
            · have c_35' : u_32.toInt ≠ 5 := i_ne c_35 rfl (by decide)
              refine lv_iload hx hb dX5_runActs_207 (lv_at hl 1 rfl) ?_
              refine lv_bipush (v := 6) hx hb dX5_runActs_209 (by decide) ?_
              refine lv_icmp_ne (tgt := 242) hx hb dX5_runActs_211 (by decide) (fun c_36 => ?_) (fun c_36 => ?_)
              · have c_36' : u_32.toInt ≠ 6 := i_ne c_36 rfl (by decide)
                refine lv_iload hx hb dX5_runActs_242 (lv_at hl 1 rfl) ?_
                refine lv_bipush (v := 7) hx hb dX5_runActs_244 (by decide) ?_
                refine lv_icmp_ne (tgt := 263) hx hb dX5_runActs_246 (by decide) (fun c_37 => ?_) (fun c_37 => ?_)
                · have c_37' : u_32.toInt ≠ 7 := i_ne c_37 rfl (by decide)
                  refine lv_iload hx hb dX5_runActs_263 (lv_at hl 1 rfl) ?_
                  refine lv_iconst (v := 5) hx hb dX5_runActs_265 (by decide) ?_
                  refine lv_icmp_eq (tgt := 282) hx hb dX5_runActs_266 (by decide) (fun c_38 => ?_) (fun c_38 => ?_)
                  · have c_38' : u_32.toInt = 5 := i_eq c_38 rfl (by decide)
                    obtain ⟨z_39, ez_39⟩ : ∃ z : Int32, z = i + 1 := ⟨_, rfl⟩
                    have e_z_39 : z_39.toInt = i.toInt + 1 := i_add ez_39 rfl (by decide) (by omega) (by omega)
                    refine lv_iinc (v := z_39) (lv' := [(9, .int z_39), (12, .int u_34), (11, .int u_32), (10, .int r_10), (8, .int po), (7, .int j), (6, .int pk), (5, .ref q2), (4, .ref q1), (0, .ref h), (1, .int n), (2, .int x1), (3, .int x2)]) hx hb dX5_runActs_282 hl (k := 3) rfl (by rw [ez_39]; rfl) (by decide) rfl (fun ls hl => ?_)
                    refine lv_goto (tgt := 44) hx hb dX5_runActs_285 (by decide) ?_
                    exact ih (kf - 1) (by omega) g_19 z_39 j pk po q1 q2 H locs ls hT hI hE hM (by omega) (by omega) (by omega) (by omega) (by omega) (by omega) r_25 r_26 (by have e0 := z0; omega) (lv_sub hl [0, 4, 5, 6, 7, 8, 9, 10, 11, 12] rfl)
                  · have c_38' : u_32.toInt ≠ 5 := i_ne c_38 rfl (by decide)
                    refine lv_aload hx hb dX5_runActs_269 (lv_at hl 8 rfl) ?_
                    refine lv_iload hx hb dX5_runActs_271 (lv_at hl 3 rfl) ?_
                    refine lv_iload hx hb dX5_runActs_273 (lv_at hl 2 rfl) ?_
                    refine lv_iload hx hb dX5_runActs_275 (lv_at hl 5 rfl) ?_
                    refine t_callV (n := 3) (ci := 3) (As := [.int i, .int r_10, .int j]) (rest := []) hB hT hl.1 (s_perform l D cI cZ cS cR N0 fr g_19 hI q1 i r_10 j r_25 (by omega) (by omega)) (ro_ci r_25 rfl) rfl k_550 k_60 k_547 k_548 k_549 (by decide +kernel) ⟨(Nat.le_of_ble_eq_true rfl), (Nat.le_of_ble_eq_true rfl)⟩ rfl (Nat.le_of_ble_eq_true rfl) ⟨(Nat.le_of_ble_eq_true rfl), (Nat.le_of_ble_eq_true rfl)⟩ dX5_runActs_277 (fun v g_40 H locs hp hT => ?_)
                    obtain ⟨r_41, rfl, hI, x_43, m_42⟩ := hp
                    have r_44 : g_40.1 h = 6 := (Ex.r x_43 r_24 (by decide))
                    have r_45 : g_40.1 q1 = 4 := (Ex.r x_43 r_25 (by decide))
                    have r_46 : g_40.1 q2 = 3 := (Ex.r x_43 r_26 (by decide))
                    have r_47 : g_40.1 v_31 = 20 := (Ex.r x_43 r_v_31 (by decide))
                    have r_48 : g_40.1 v_33 = 21 := (Ex.r x_43 r_v_33 (by decide))
                    have n_49 : g_40.2.2.1 v_31 = 8 := (Ex.n x_43 r_v_31 (by decide) n_v_31)
                    have n_50 : g_40.2.2.1 v_33 = 8 := (Ex.n x_43 r_v_33 (by decide) n_v_33)
                    have e_51 : g_40.2.1 q2 3 = .int v_1 := (Sm.v m_42 r_26 (by decide) rfl e_27)
                    have e_52 : g_40.2.1 h 6 = .int v_6 := (Sm.v m_42 r_24 (by decide) rfl e_28)
                    have e_53 : g_40.2.1 h 5 = .int z_8 := (Sm.v m_42 r_24 (by decide) rfl e_29)
                    have e_54 : g_40.2.1 q2 0 = .ref v_31 := (Sm.v m_42 r_26 (by decide) rfl e_v_31)
                    have e_55 : g_40.2.1 q2 1 = .ref v_33 := (Sm.v m_42 r_26 (by decide) rfl e_v_33)
                    have hM : Sm md_s_runActs5 g g_40 := hM.tr hE (m_42.mo (fun r k h => mdle_s_runActs5_s_perform h))
                    have hE : Ex g g_40 := hE.tr x_43
                    refine W.eq (g2 := F0 m 280 ls [.int r_41]) rfl ?_
                    refine lv_istore (lv' := [(7, .int r_41), (12, .int u_34), (11, .int u_32), (10, .int r_10), (9, .int i), (8, .int po), (6, .int pk), (5, .ref q2), (4, .ref q1), (0, .ref h), (1, .int n), (2, .int x1), (3, .int x2)]) hx hb dX5_runActs_280 hl (by decide) rfl (fun ls hl => ?_)
                    obtain ⟨z_56, ez_56⟩ : ∃ z : Int32, z = i + 1 := ⟨_, rfl⟩
                    have e_z_56 : z_56.toInt = i.toInt + 1 := i_add ez_56 rfl (by decide) (by omega) (by omega)
                    refine lv_iinc (v := z_56) (lv' := [(9, .int z_56), (7, .int r_41), (12, .int u_34), (11, .int u_32), (10, .int r_10), (8, .int po), (6, .int pk), (5, .ref q2), (4, .ref q1), (0, .ref h), (1, .int n), (2, .int x1), (3, .int x2)]) hx hb dX5_runActs_282 hl (k := 4) rfl (by rw [ez_56]; rfl) (by decide) rfl (fun ls hl => ?_)
                    refine lv_goto (tgt := 44) hx hb dX5_runActs_285 (by decide) ?_
                    exact ih (kf - 1) (by omega) g_40 z_56 r_41 pk po q1 q2 H locs ls hT hI hE hM (by omega) (by omega) (by omega) (by omega) (by omega) (by omega) r_45 r_46 (by have e0 := z0; omega) (lv_sub hl [0, 5, 1, 6, 7, 8, 9, 10, 11, 12] rfl)
                · have c_37' : u_32.toInt = 7 := i_eq c_37 rfl (by decide)
                  refine lv_aload hx hb dX5_runActs_249 (lv_at hl 8 rfl) ?_
                  refine lv_iload hx hb dX5_runActs_251 (lv_at hl 3 rfl) ?_
                  refine lv_iload hx hb dX5_runActs_253 (lv_at hl 2 rfl) ?_
                  refine t_callV (n := 2) (ci := 3) (As := [.int i, .int r_10]) (rest := []) hB hT hl.1 (s_passesOver l D cI cZ cS cR N0 fr g_19 hI q1 i r_10 r_25 (by omega) (by omega)) (ro_ci r_25 rfl) rfl k_546 k_60 k_543 k_544 k_545 (by decide +kernel) ⟨(Nat.le_of_ble_eq_true rfl), (Nat.le_of_ble_eq_true rfl)⟩ rfl (Nat.le_of_ble_eq_true rfl) ⟨(Nat.le_of_ble_eq_true rfl), (Nat.le_of_ble_eq_true rfl)⟩ dX5_runActs_255 (fun v g_57 H locs hp hT => ?_)
                  obtain ⟨r_58, rfl, hI, x_61, m_60, f_59⟩ := hp
                  have r_62 : g_57.1 h = 6 := (Ex.r x_61 r_24 (by decide))
                  have r_63 : g_57.1 q1 = 4 := (Ex.r x_61 r_25 (by decide))
                  have r_64 : g_57.1 q2 = 3 := (Ex.r x_61 r_26 (by decide))
                  have r_65 : g_57.1 v_31 = 20 := (Ex.r x_61 r_v_31 (by decide))
                  have r_66 : g_57.1 v_33 = 21 := (Ex.r x_61 r_v_33 (by decide))
                  have n_67 : g_57.2.2.1 v_31 = 8 := (Ex.n x_61 r_v_31 (by decide) n_v_31)
                  have n_68 : g_57.2.2.1 v_33 = 8 := (Ex.n x_61 r_v_33 (by decide) n_v_33)
                  have e_69 : g_57.2.1 q2 3 = .int v_1 := (Sm.v m_60 r_26 (by decide) rfl e_27)
                  have e_70 : g_57.2.1 h 6 = .int v_6 := (Sm.v m_60 r_24 (by decide) rfl e_28)
                  have e_71 : g_57.2.1 h 5 = .int z_8 := (Sm.v m_60 r_24 (by decide) rfl e_29)
                  have e_72 : g_57.2.1 q2 0 = .ref v_31 := (Sm.v m_60 r_26 (by decide) rfl e_v_31)
                  have e_73 : g_57.2.1 q2 1 = .ref v_33 := (Sm.v m_60 r_26 (by decide) rfl e_v_33)
                  have hM : Sm md_s_runActs5 g g_57 := hM.tr hE (m_60.mo (fun r k h => mdle_s_runActs5_s_passesOver h))
                  have hE : Ex g g_57 := hE.tr x_61
                  refine W.eq (g2 := F0 m 258 ls [.int r_58]) rfl ?_
                  rcases f_59 with rfl | rfl
                  · refine W.eq (g2 := F0 m 258 ls [.int 1]) rfl ?_
                    refine lv_istore (lv' := [(8, .int 1), (12, .int u_34), (11, .int u_32), (10, .int r_10), (9, .int i), (7, .int j), (6, .int pk), (5, .ref q2), (4, .ref q1), (0, .ref h), (1, .int n), (2, .int x1), (3, .int x2)]) hx hb dX5_runActs_258 hl (by decide) rfl (fun ls hl => ?_)
                    refine lv_goto (tgt := 282) hx hb dX5_runActs_260 (by decide) ?_
                    obtain ⟨z_74, ez_74⟩ : ∃ z : Int32, z = i + 1 := ⟨_, rfl⟩
                    have e_z_74 : z_74.toInt = i.toInt + 1 := i_add ez_74 rfl (by decide) (by omega) (by omega)
                    refine lv_iinc (v := z_74) (lv' := [(9, .int z_74), (8, .int 1), (12, .int u_34), (11, .int u_32), (10, .int r_10), (7, .int j), (6, .int pk), (5, .ref q2), (4, .ref q1), (0, .ref h), (1, .int n), (2, .int x1), (3, .int x2)]) hx hb dX5_runActs_282 hl (k := 4) rfl (by rw [ez_74]; rfl) (by decide) rfl (fun ls hl => ?_)
                    refine lv_goto (tgt := 44) hx hb dX5_runActs_285 (by decide) ?_
                    exact ih (kf - 1) (by omega) g_57 z_74 j pk (1 : Int32) q1 q2 H locs ls hT hI hE hM (by omega) (by omega) (by omega) (by omega) (by decide) (by decide) r_63 r_64 (by have e0 := z0; omega) (lv_sub hl [0, 1, 5, 6, 7, 8, 9, 10, 11, 12] rfl)
                  · refine W.eq (g2 := F0 m 258 ls [.int 0]) rfl ?_
                    refine lv_istore (lv' := [(8, .int 0), (12, .int u_34), (11, .int u_32), (10, .int r_10), (9, .int i), (7, .int j), (6, .int pk), (5, .ref q2), (4, .ref q1), (0, .ref h), (1, .int n), (2, .int x1), (3, .int x2)]) hx hb dX5_runActs_258 hl (by decide) rfl (fun ls hl => ?_)
                    refine lv_goto (tgt := 282) hx hb dX5_runActs_260 (by decide) ?_
                    obtain ⟨z_75, ez_75⟩ : ∃ z : Int32, z = i + 1 := ⟨_, rfl⟩
                    have e_z_75 : z_75.toInt = i.toInt + 1 := i_add ez_75 rfl (by decide) (by omega) (by omega)
                    refine lv_iinc (v := z_75) (lv' := [(9, .int z_75), (8, .int 0), (12, .int u_34), (11, .int u_32), (10, .int r_10), (7, .int j), (6, .int pk), (5, .ref q2), (4, .ref q1), (0, .ref h), (1, .int n), (2, .int x1), (3, .int x2)]) hx hb dX5_runActs_282 hl (k := 4) rfl (by rw [ez_75]; rfl) (by decide) rfl (fun ls hl => ?_)
                    refine lv_goto (tgt := 44) hx hb dX5_runActs_285 (by decide) ?_
                    exact ih (kf - 1) (by omega) g_57 z_75 j pk (0 : Int32) q1 q2 H locs ls hT hI hE hM (by omega) (by omega) (by omega) (by omega) (by decide) (by decide) r_63 r_64 (by have e0 := z0; omega) (lv_sub hl [0, 1, 5, 6, 7, 8, 9, 10, 11, 12] rfl)
              · have c_36' : u_32.toInt = 6 := i_eq c_36 rfl (by decide)
                refine lv_aload_n hx hb dX5_runActs_214 rfl (lv_at hl 9 rfl) ?_
                obtain ⟨v_76, e_v_76, r_v_76, n_v_76⟩ := hI.f r_24 3
                refine t_get (ci := 5) (v := .ref v_76) hB hT (ro_ci r_24 rfl) rfl 3 (by decide) k_207 e_v_76 dX5_runActs_215 ?_
                refine lv_aload_n hx hb dX5_runActs_218 rfl (lv_at hl 9 rfl) ?_
                obtain ⟨v_77, e_v_77⟩ := hI.f r_24 4
                refine t_get (ci := 5) (v := .int v_77) hB hT (ro_ci r_24 rfl) rfl 4 (by decide) k_210 e_v_77 dX5_runActs_219 ?_
                refine lv_sipush (v := 511) hx hb dX5_runActs_222 (by decide) ?_
                refine lv_iand hx hb dX5_runActs_225 ?_
                refine lv_topi (fun z_78 ez_78 => ?_)
                have e_z_78 := i_and 9 (b := 511) ez_78 (by decide) (by decide) (by decide)
                refine lv_iload hx hb dX5_runActs_226 (lv_at hl 2 rfl) ?_
                have i_79 : vp_in z_78 512 := (i_in (n := 512) rfl (by omega) (by omega))
                refine t_iast hB hT (ro_in r_v_76 (by decide)) n_v_76 i_79 dX5_runActs_228 (fun H locs hT => ?_)
                have hI : Inv fr (sC g_19 v_76 z_78.toNatClampNeg r_10) := hI.sC (ck r_v_76 trivial)
                have hM : Sm md_s_runActs5 g (sC g_19 v_76 z_78.toNatClampNeg r_10) := hM
                have hE : Ex g (sC g_19 v_76 z_78.toNatClampNeg r_10) := hE
                refine lv_aload_n hx hb dX5_runActs_229 rfl (lv_at hl 9 rfl) ?_
                refine lv_dup hx hb dX5_runActs_230 rfl ?_
                refine t_get (ci := 5) (v := .int v_77) hB hT (ro_ci r_24 rfl) rfl 4 (by decide) k_210 e_v_77 dX5_runActs_231 ?_
                refine lv_iconst (v := 1) hx hb dX5_runActs_234 (by decide) ?_
                refine lv_iadd hx hb dX5_runActs_235 ?_
                refine lv_topi (fun z_80 ez_80 => ?_)
                refine t_put0 (ci := 5) (v := .int z_80) hB hT (ro_ci r_24 rfl) (ro_n0 r_24 (by decide)) rfl 4 (by decide) k_210 (Or.inl rfl) rfl rfl dX5_runActs_236 (fun H locs hT => ?_)
                have hI : Inv fr (sF (sC g_19 v_76 z_78.toNatClampNeg r_10) h 4 (.int z_80)) := hI.sF (fk r_24 (⟨_, rfl⟩))
                have hM : Sm md_s_runActs5 g (sF (sC g_19 v_76 z_78.toNatClampNeg r_10) h 4 (.int z_80)) := hM.tr hE (Sm_sF (by rw [r_24]; rfl))
                have hE : Ex g (sF (sC g_19 v_76 z_78.toNatClampNeg r_10) h 4 (.int z_80)) := hE
                refine lv_goto (tgt := 282) hx hb dX5_runActs_239 (by decide) ?_
                obtain ⟨z_81, ez_81⟩ : ∃ z : Int32, z = i + 1 := ⟨_, rfl⟩
                have e_z_81 : z_81.toInt = i.toInt + 1 := i_add ez_81 rfl (by decide) (by omega) (by omega)
                refine lv_iinc (v := z_81) (lv' := [(9, .int z_81), (12, .int u_34), (11, .int u_32), (10, .int r_10), (8, .int po), (7, .int j), (6, .int pk), (5, .ref q2), (4, .ref q1), (0, .ref h), (1, .int n), (2, .int x1), (3, .int x2)]) hx hb dX5_runActs_282 hl (k := 3) rfl (by rw [ez_81]; rfl) (by decide) rfl (fun ls hl => ?_)
                refine lv_goto (tgt := 44) hx hb dX5_runActs_285 (by decide) ?_
                exact ih (kf - 1) (by omega) (sF (sC g_19 v_76 z_78.toNatClampNeg r_10) h 4 (.int z_80)) z_81 j pk po q1 q2 H locs ls hT hI hE hM (by omega) (by omega) (by omega) (by omega) (by omega) (by omega) r_25 r_26 (by have e0 := z0; omega) (lv_sub hl [0, 4, 5, 6, 7, 8, 9, 10, 11, 12] rfl)
            · have c_35' : u_32.toInt = 5 := i_eq c_35 rfl (by decide)
              refine lv_aload_n hx hb dX5_runActs_149 rfl (lv_at hl 9 rfl) ?_
              refine lv_iload_n hx hb dX5_runActs_150 rfl (lv_at hl 10 rfl) ?_
              refine lv_iload hx hb dX5_runActs_151 (lv_at hl 0 rfl) ?_
              refine t_callV (n := 2) (ci := 5) (As := [.int n, .int u_34]) (rest := []) hB hT hl.1 (s_canAsk l D cI cZ cS cR N0 fr g_19 hI h n u_34 r_24) (ro_ci r_24 rfl) rfl k_477 k_59 k_474 k_476 k_10 (by decide +kernel) ⟨(Nat.le_of_ble_eq_true rfl), (Nat.le_of_ble_eq_true rfl)⟩ rfl (Nat.le_of_ble_eq_true rfl) ⟨(Nat.le_of_ble_eq_true rfl), (Nat.le_of_ble_eq_true rfl)⟩ dX5_runActs_153 (fun v g_82 H locs hp hT => ?_)
              obtain ⟨r_83, rfl, hI, x_86, m_85, f_84⟩ := hp
              have r_87 : g_82.1 h = 6 := (Ex.r x_86 r_24 (by decide))
              have r_88 : g_82.1 q1 = 4 := (Ex.r x_86 r_25 (by decide))
              have r_89 : g_82.1 q2 = 3 := (Ex.r x_86 r_26 (by decide))
              have r_90 : g_82.1 v_31 = 20 := (Ex.r x_86 r_v_31 (by decide))
              have r_91 : g_82.1 v_33 = 21 := (Ex.r x_86 r_v_33 (by decide))
              have n_92 : g_82.2.2.1 v_31 = 8 := (Ex.n x_86 r_v_31 (by decide) n_v_31)
              have n_93 : g_82.2.2.1 v_33 = 8 := (Ex.n x_86 r_v_33 (by decide) n_v_33)
              have e_94 : g_82.2.1 q2 3 = .int v_1 := (Sm.v m_85 r_26 (by decide) rfl e_27)
              have e_95 : g_82.2.1 h 6 = .int v_6 := (Sm.v m_85 r_24 (by decide) rfl e_28)
              have e_96 : g_82.2.1 h 5 = .int z_8 := (Sm.v m_85 r_24 (by decide) rfl e_29)
              have e_97 : g_82.2.1 q2 0 = .ref v_31 := (Sm.v m_85 r_26 (by decide) rfl e_v_31)
              have e_98 : g_82.2.1 q2 1 = .ref v_33 := (Sm.v m_85 r_26 (by decide) rfl e_v_33)
              have hM : Sm md_s_runActs5 g g_82 := hM.tr hE (m_85.mo (fun r k h => mdle_s_runActs5_s_canAsk h))
              have hE : Ex g g_82 := hE.tr x_86
              refine W.eq (g2 := F0 m 156 ls [.int r_83]) rfl ?_
              rcases f_84 with ⟨rfl, hw_99, hw_100⟩ | rfl
              · refine W.eq (g2 := F0 m 156 ls [.int 1]) rfl ?_
                refine lv_if_eq (tgt := 207) hx hb dX5_runActs_156 (by decide) (fun c_ => absurd c_ (by decide)) (fun c_ => ?_)
                refine lv_iload hx hb dX5_runActs_159 (lv_at hl 6 rfl) ?_
                refine lv_if_eq (tgt := 179) hx hb dX5_runActs_161 (by decide) (fun c_101 => ?_) (fun c_101 => ?_)
                · have c_101' : pk.toInt = 0 := i_eq c_101 rfl (by decide)
                  refine lv_iconst (v := 0) hx hb dX5_runActs_179 (by decide) ?_
                  refine lv_istore (lv' := [(13, .int 0), (12, .int u_34), (11, .int u_32), (10, .int r_10), (9, .int i), (8, .int po), (7, .int j), (6, .int pk), (5, .ref q2), (4, .ref q1), (0, .ref h), (1, .int n), (2, .int x1), (3, .int x2)]) hx hb dX5_runActs_180 hl (by decide) rfl (fun ls hl => ?_)
                  refine lv_aload_n hx hb dX5_runActs_182 rfl (lv_at hl 10 rfl) ?_
                  refine lv_iload hx hb dX5_runActs_183 (lv_at hl 1 rfl) ?_
                  refine lv_iload hx hb dX5_runActs_185 (lv_at hl 3 rfl) ?_
                  refine lv_iload hx hb dX5_runActs_187 (lv_at hl 0 rfl) ?_
                  refine t_callV (n := 3) (ci := 5) (As := [.int u_34, .int r_10, .int 0]) (rest := []) hB hT hl.1 (s_serve4 l D cI cZ cS cR N0 fr g_82 hI h u_34 r_10 0 r_87 (by omega) (by omega)) (ro_ci r_87 rfl) rfl k_508 k_59 k_505 k_507 k_12 (by decide +kernel) ⟨(Nat.le_of_ble_eq_true rfl), (Nat.le_of_ble_eq_true rfl)⟩ rfl (Nat.le_of_ble_eq_true rfl) ⟨(Nat.le_of_ble_eq_true rfl), (Nat.le_of_ble_eq_true rfl)⟩ dX5_runActs_189 (fun v g_102 H locs hp hT => ?_)
                  obtain ⟨r_103, rfl, hI, x_105, m_104⟩ := hp
                  have r_106 : g_102.1 h = 6 := (Ex.r x_105 r_87 (by decide))
                  have r_107 : g_102.1 q1 = 4 := (Ex.r x_105 r_88 (by decide))
                  have r_108 : g_102.1 q2 = 3 := (Ex.r x_105 r_89 (by decide))
                  have r_109 : g_102.1 v_31 = 20 := (Ex.r x_105 r_90 (by decide))
                  have r_110 : g_102.1 v_33 = 21 := (Ex.r x_105 r_91 (by decide))
                  have n_111 : g_102.2.2.1 v_31 = 8 := (Ex.n x_105 r_90 (by decide) n_92)
                  have n_112 : g_102.2.2.1 v_33 = 8 := (Ex.n x_105 r_91 (by decide) n_93)
                  have e_113 : g_102.2.1 q2 3 = .int v_1 := (Sm.v m_104 r_89 (by decide) rfl e_94)
                  have e_114 : g_102.2.1 h 6 = .int v_6 := (Sm.v m_104 r_87 (by decide) rfl e_95)
                  have e_115 : g_102.2.1 q2 0 = .ref v_31 := (Sm.v m_104 r_89 (by decide) rfl e_97)
                  have e_116 : g_102.2.1 q2 1 = .ref v_33 := (Sm.v m_104 r_89 (by decide) rfl e_98)
                  have hM : Sm md_s_runActs5 g g_102 := hM.tr hE (m_104.mo (fun r k h => mdle_s_runActs5_s_serve4 h))
                  have hE : Ex g g_102 := hE.tr x_105
                  refine W.eq (g2 := F0 m 192 ls [.int r_103]) rfl ?_
                  refine lv_istore (lv' := [(7, .int r_103), (13, .int 0), (12, .int u_34), (11, .int u_32), (10, .int r_10), (9, .int i), (8, .int po), (6, .int pk), (5, .ref q2), (4, .ref q1), (0, .ref h), (1, .int n), (2, .int x1), (3, .int x2)]) hx hb dX5_runActs_192 hl (by decide) rfl (fun ls hl => ?_)
                  refine lv_aload_n hx hb dX5_runActs_194 rfl (lv_at hl 10 rfl) ?_
                  obtain ⟨v_117, e_v_117, l_v_117, u_v_117⟩ := hI.f r_106 7
                  refine t_get (ci := 5) (v := .int v_117) hB hT (ro_ci r_106 rfl) rfl 7 (by decide) k_216 e_v_117 dX5_runActs_195 ?_
                  refine lv_if_eq (tgt := 204) hx hb dX5_runActs_198 (by decide) (fun c_118 => ?_) (fun c_118 => ?_)
                  · have c_118' : v_117.toInt = 0 := i_eq c_118 rfl (by decide)
                    refine lv_goto (tgt := 282) hx hb dX5_runActs_204 (by decide) ?_
                    obtain ⟨z_119, ez_119⟩ : ∃ z : Int32, z = i + 1 := ⟨_, rfl⟩
                    have e_z_119 : z_119.toInt = i.toInt + 1 := i_add ez_119 rfl (by decide) (by omega) (by omega)
                    refine lv_iinc (v := z_119) (lv' := [(9, .int z_119), (7, .int r_103), (13, .int 0), (12, .int u_34), (11, .int u_32), (10, .int r_10), (8, .int po), (6, .int pk), (5, .ref q2), (4, .ref q1), (0, .ref h), (1, .int n), (2, .int x1), (3, .int x2)]) hx hb dX5_runActs_282 hl (k := 5) rfl (by rw [ez_119]; rfl) (by decide) rfl (fun ls hl => ?_)
                    refine lv_goto (tgt := 44) hx hb dX5_runActs_285 (by decide) ?_
                    exact ih (kf - 1) (by omega) g_102 z_119 r_103 pk po q1 q2 H locs ls hT hI hE hM (by omega) (by omega) (by omega) (by omega) (by omega) (by omega) r_107 r_108 (by have e0 := z0; omega) (lv_sub hl [0, 6, 1, 7, 8, 9, 10, 11, 12, 13] rfl)
                  · have c_118' : v_117.toInt ≠ 0 := i_ne c_118 rfl (by decide)
                    refine lv_bipush (v := (-2)) hx hb dX5_runActs_201 (by decide) ?_
                    exact t_iret hB hr hT (Nat.le_of_ble_eq_true rfl) (Nat.le_of_ble_eq_true rfl) dX5_runActs_203 ⟨(-2), rfl, hI, hE, hM⟩
                · have c_101' : pk.toInt ≠ 0 := i_ne c_101 rfl (by decide)
                  refine lv_iload_n hx hb dX5_runActs_164 rfl (lv_at hl 12 rfl) ?_
                  refine lv_bipush (v := 7) hx hb dX5_runActs_165 (by decide) ?_
                  refine lv_iload hx hb dX5_runActs_167 (lv_at hl 3 rfl) ?_
                  refine lv_imul hx hb dX5_runActs_169 ?_
                  refine lv_topi (fun z_120 ez_120 => ?_)
                  have e_z_120 : z_120.toInt = 7 * i.toInt := i_mul ez_120 (by decide) rfl (by omega) (by omega)
                  refine lv_iadd hx hb dX5_runActs_170 ?_
                  refine lv_topi (fun z_121 ez_121 => ?_)
                  refine lv_bipush (v := 99) hx hb dX5_runActs_171 (by decide) ?_
                  refine lv_irem hx hb dX5_runActs_173 (by decide) ?_
                  refine lv_topi (fun z_122 ez_122 => ?_)
                  refine lv_iconst (v := 1) hx hb dX5_runActs_174 (by decide) ?_
                  refine lv_iadd hx hb dX5_runActs_175 ?_
                  refine lv_topi (fun z_123 ez_123 => ?_)
                  refine lv_goto (tgt := 180) hx hb dX5_runActs_176 (by decide) ?_
                  refine lv_istore (lv' := [(13, .int z_123), (12, .int u_34), (11, .int u_32), (10, .int r_10), (9, .int i), (8, .int po), (7, .int j), (6, .int pk), (5, .ref q2), (4, .ref q1), (0, .ref h), (1, .int n), (2, .int x1), (3, .int x2)]) hx hb dX5_runActs_180 hl (by decide) rfl (fun ls hl => ?_)
                  refine lv_aload_n hx hb dX5_runActs_182 rfl (lv_at hl 10 rfl) ?_
                  refine lv_iload hx hb dX5_runActs_183 (lv_at hl 1 rfl) ?_
                  refine lv_iload hx hb dX5_runActs_185 (lv_at hl 3 rfl) ?_
                  refine lv_iload hx hb dX5_runActs_187 (lv_at hl 0 rfl) ?_
                  refine t_callV (n := 3) (ci := 5) (As := [.int u_34, .int r_10, .int z_123]) (rest := []) hB hT hl.1 (s_serve4 l D cI cZ cS cR N0 fr g_82 hI h u_34 r_10 z_123 r_87 (by omega) (by omega)) (ro_ci r_87 rfl) rfl k_508 k_59 k_505 k_507 k_12 (by decide +kernel) ⟨(Nat.le_of_ble_eq_true rfl), (Nat.le_of_ble_eq_true rfl)⟩ rfl (Nat.le_of_ble_eq_true rfl) ⟨(Nat.le_of_ble_eq_true rfl), (Nat.le_of_ble_eq_true rfl)⟩ dX5_runActs_189 (fun v g_124 H locs hp hT => ?_)
                  obtain ⟨r_125, rfl, hI, x_127, m_126⟩ := hp
                  have r_128 : g_124.1 h = 6 := (Ex.r x_127 r_87 (by decide))
                  have r_129 : g_124.1 q1 = 4 := (Ex.r x_127 r_88 (by decide))
                  have r_130 : g_124.1 q2 = 3 := (Ex.r x_127 r_89 (by decide))
                  have r_131 : g_124.1 v_31 = 20 := (Ex.r x_127 r_90 (by decide))
                  have r_132 : g_124.1 v_33 = 21 := (Ex.r x_127 r_91 (by decide))
                  have n_133 : g_124.2.2.1 v_31 = 8 := (Ex.n x_127 r_90 (by decide) n_92)
                  have n_134 : g_124.2.2.1 v_33 = 8 := (Ex.n x_127 r_91 (by decide) n_93)
                  have e_135 : g_124.2.1 q2 3 = .int v_1 := (Sm.v m_126 r_89 (by decide) rfl e_94)
                  have e_136 : g_124.2.1 h 6 = .int v_6 := (Sm.v m_126 r_87 (by decide) rfl e_95)
                  have e_137 : g_124.2.1 q2 0 = .ref v_31 := (Sm.v m_126 r_89 (by decide) rfl e_97)
                  have e_138 : g_124.2.1 q2 1 = .ref v_33 := (Sm.v m_126 r_89 (by decide) rfl e_98)
                  have hM : Sm md_s_runActs5 g g_124 := hM.tr hE (m_126.mo (fun r k h => mdle_s_runActs5_s_serve4 h))
                  have hE : Ex g g_124 := hE.tr x_127
                  refine W.eq (g2 := F0 m 192 ls [.int r_125]) rfl ?_
                  refine lv_istore (lv' := [(7, .int r_125), (13, .int z_123), (12, .int u_34), (11, .int u_32), (10, .int r_10), (9, .int i), (8, .int po), (6, .int pk), (5, .ref q2), (4, .ref q1), (0, .ref h), (1, .int n), (2, .int x1), (3, .int x2)]) hx hb dX5_runActs_192 hl (by decide) rfl (fun ls hl => ?_)
                  refine lv_aload_n hx hb dX5_runActs_194 rfl (lv_at hl 10 rfl) ?_
                  obtain ⟨v_139, e_v_139, l_v_139, u_v_139⟩ := hI.f r_128 7
                  refine t_get (ci := 5) (v := .int v_139) hB hT (ro_ci r_128 rfl) rfl 7 (by decide) k_216 e_v_139 dX5_runActs_195 ?_
                  refine lv_if_eq (tgt := 204) hx hb dX5_runActs_198 (by decide) (fun c_140 => ?_) (fun c_140 => ?_)
                  · have c_140' : v_139.toInt = 0 := i_eq c_140 rfl (by decide)
                    refine lv_goto (tgt := 282) hx hb dX5_runActs_204 (by decide) ?_
                    obtain ⟨z_141, ez_141⟩ : ∃ z : Int32, z = i + 1 := ⟨_, rfl⟩
                    have e_z_141 : z_141.toInt = i.toInt + 1 := i_add ez_141 rfl (by decide) (by omega) (by omega)
                    refine lv_iinc (v := z_141) (lv' := [(9, .int z_141), (7, .int r_125), (13, .int z_123), (12, .int u_34), (11, .int u_32), (10, .int r_10), (8, .int po), (6, .int pk), (5, .ref q2), (4, .ref q1), (0, .ref h), (1, .int n), (2, .int x1), (3, .int x2)]) hx hb dX5_runActs_282 hl (k := 5) rfl (by rw [ez_141]; rfl) (by decide) rfl (fun ls hl => ?_)
                    refine lv_goto (tgt := 44) hx hb dX5_runActs_285 (by decide) ?_
                    exact ih (kf - 1) (by omega) g_124 z_141 r_125 pk po q1 q2 H locs ls hT hI hE hM (by omega) (by omega) (by omega) (by omega) (by omega) (by omega) r_129 r_130 (by have e0 := z0; omega) (lv_sub hl [0, 6, 1, 7, 8, 9, 10, 11, 12, 13] rfl)
                  · have c_140' : v_139.toInt ≠ 0 := i_ne c_140 rfl (by decide)
                    refine lv_bipush (v := (-2)) hx hb dX5_runActs_201 (by decide) ?_
                    exact t_iret hB hr hT (Nat.le_of_ble_eq_true rfl) (Nat.le_of_ble_eq_true rfl) dX5_runActs_203 ⟨(-2), rfl, hI, hE, hM⟩
              · refine W.eq (g2 := F0 m 156 ls [.int 0]) rfl ?_
                refine lv_if_eq (tgt := 207) hx hb dX5_runActs_156 (by decide) (fun c_ => ?_) (fun c_ => absurd (by decide) c_)
                refine lv_iload hx hb dX5_runActs_207 (lv_at hl 1 rfl) ?_
                refine lv_bipush (v := 6) hx hb dX5_runActs_209 (by decide) ?_
                refine lv_icmp_ne (tgt := 242) hx hb dX5_runActs_211 (by decide) (fun c_142 => ?_) (fun c_142 => ?_)
                · have c_142' : u_32.toInt ≠ 6 := i_ne c_142 rfl (by decide)
                  refine lv_iload hx hb dX5_runActs_242 (lv_at hl 1 rfl) ?_
                  refine lv_bipush (v := 7) hx hb dX5_runActs_244 (by decide) ?_
                  refine lv_icmp_ne (tgt := 263) hx hb dX5_runActs_246 (by decide) (fun c_143 => ?_) (fun c_143 => ?_)
                  · have c_143' : u_32.toInt ≠ 7 := i_ne c_143 rfl (by decide)
                    refine lv_iload hx hb dX5_runActs_263 (lv_at hl 1 rfl) ?_
                    refine lv_iconst (v := 5) hx hb dX5_runActs_265 (by decide) ?_
                    refine lv_icmp_eq (tgt := 282) hx hb dX5_runActs_266 (by decide) (fun c_144 => ?_) (fun c_144 => ?_)
                    · have c_144' : u_32.toInt = 5 := i_eq c_144 rfl (by decide)
                      obtain ⟨z_145, ez_145⟩ : ∃ z : Int32, z = i + 1 := ⟨_, rfl⟩
                      have e_z_145 : z_145.toInt = i.toInt + 1 := i_add ez_145 rfl (by decide) (by omega) (by omega)
                      refine lv_iinc (v := z_145) (lv' := [(9, .int z_145), (12, .int u_34), (11, .int u_32), (10, .int r_10), (8, .int po), (7, .int j), (6, .int pk), (5, .ref q2), (4, .ref q1), (0, .ref h), (1, .int n), (2, .int x1), (3, .int x2)]) hx hb dX5_runActs_282 hl (k := 3) rfl (by rw [ez_145]; rfl) (by decide) rfl (fun ls hl => ?_)
                      refine lv_goto (tgt := 44) hx hb dX5_runActs_285 (by decide) ?_
                      exact ih (kf - 1) (by omega) g_82 z_145 j pk po q1 q2 H locs ls hT hI hE hM (by omega) (by omega) (by omega) (by omega) (by omega) (by omega) r_88 r_89 (by have e0 := z0; omega) (lv_sub hl [0, 4, 5, 6, 7, 8, 9, 10, 11, 12] rfl)
                    · have c_144' : u_32.toInt ≠ 5 := i_ne c_144 rfl (by decide)
                      exact absurd c_144' (by omega)
                  · have c_143' : u_32.toInt = 7 := i_eq c_143 rfl (by decide)
                    exact absurd c_143' (by omega)
                · have c_142' : u_32.toInt = 6 := i_eq c_142 rfl (by decide)
                  exact absurd c_142' (by omega)
        · have c_7' : v_6.toInt ≤ z_5.toInt := i_nlt c_7 rfl rfl
          refine lv_aload_n hx hb dX5_runActs_78 rfl (lv_at hl 6 rfl) ?_
          refine lv_iconst (v := 1) hx hb dX5_runActs_79 (by decide) ?_
          refine t_put0 (ci := 5) (v := .int 1) hB hT (ro_ci r1_h rfl) (ro_n0 r1_h (by decide)) rfl 7 (by decide) k_216 (Or.inl rfl) rfl rfl dX5_runActs_80 (fun H locs hT => ?_)
          have hI : Inv fr (sF g1 h 7 (.int 1)) := hI.sF (fk r1_h (⟨_, rfl, by decide, by decide⟩))
          have hM : Sm md_s_runActs5 g (sF g1 h 7 (.int 1)) := hM.tr hE (Sm_sF (by rw [r1_h]; rfl))
          have hE : Ex g (sF g1 h 7 (.int 1)) := hE
          refine lv_bipush (v := (-2)) hx hb dX5_runActs_83 (by decide) ?_
          exact t_iret hB hr hT (Nat.le_of_ble_eq_true rfl) (Nat.le_of_ble_eq_true rfl) dX5_runActs_85 ⟨(-2), rfl, hI, hE, hM⟩
      · have c_3' : po.toInt ≠ 0 := i_ne c_3 rfl (by decide)
        refine lv_iconst (v := 0) hx hb dX5_runActs_59 (by decide) ?_
        refine lv_istore (lv' := [(8, .int 0), (9, .int i), (7, .int j), (6, .int pk), (5, .ref q2), (4, .ref q1), (0, .ref h), (1, .int n), (2, .int x1), (3, .int x2)]) hx hb dX5_runActs_60 hl (by decide) rfl (fun ls hl => ?_)
        refine lv_goto (tgt := 282) hx hb dX5_runActs_62 (by decide) ?_
        obtain ⟨z_146, ez_146⟩ : ∃ z : Int32, z = i + 1 := ⟨_, rfl⟩
        have e_z_146 : z_146.toInt = i.toInt + 1 := i_add ez_146 rfl (by decide) (by omega) (by omega)
        refine lv_iinc (v := z_146) (lv' := [(9, .int z_146), (8, .int 0), (7, .int j), (6, .int pk), (5, .ref q2), (4, .ref q1), (0, .ref h), (1, .int n), (2, .int x1), (3, .int x2)]) hx hb dX5_runActs_282 hl (k := 1) rfl (by rw [ez_146]; rfl) (by decide) rfl (fun ls hl => ?_)
        refine lv_goto (tgt := 44) hx hb dX5_runActs_285 (by decide) ?_
        exact ih (kf - 1) (by omega) g1 z_146 j pk (0 : Int32) q1 q2 H locs ls hT hI hE hM (by omega) (by omega) (by omega) (by omega) (by decide) (by decide) r1_q1 r1_q2 (by have e0 := z0; omega) (lv_sub hl [0, 1, 2, 3, 4, 5, 6, 7, 8, 9] rfl)
theorem mdle_s_runActs5_s_isMended {r k : Nat} (h : md_s_runActs5 r k = false) : md_s_isMended r k = false := by
  first | rfl | (simp only [md_s_runActs5, md_s_isMended, Bool.or_eq_false_iff, Bool.and_eq_false_iff, beq_eq_false_iff_ne] at h ⊢; omega)
set_option maxHeartbeats 4000000 in
set_option maxRecDepth 100000 in
theorem s_runActs5 (l : Launch) (D : va_G) (cI cZ cS cR : ClassId) (N0 : NT) (fr : Int32) (g : GS) (hI : Inv fr g) (h : Nat) (n : Int32) (x1 : Int32) (x2 : Int32) (r_h : g.1 h = 6) (l_n : 0 ≤ n.toInt) (u_n : n.toInt ≤ 5) : Ty l D cI cZ cS cR N0 yX5_runActs cX5_runActs 14 (some .int) 11 0 0 [.ref h, .int n, .int x1, .int x2] g (fun v g' => ∃ (r : Int32), v = some (.int r) ∧ Inv fr g' ∧ Ex g g' ∧ Sm md_s_runActs5 g g') := by
  refine t_enter (by decide) (Nat.le_of_ble_eq_true rfl) ?_
  intro p e s m args below meth c ls H locs hB hr hin hl hT
  have hx := hB.1
  have hb := hB.2.1
  have hl : lv_has ls 14 [(0, .ref h), (1, .int n), (2, .int x1), (3, .int x2)] := hl
  have hE : Ex g g := Ex.rf
  have hM : Sm md_s_runActs5 g g := Sm.rf
  refine lv_aload_n hx hb dX5_runActs_0 rfl (lv_at hl 0 rfl) ?_
  obtain ⟨v_1, e_v_1, r_v_1, n_v_1⟩ := hI.f r_h 0
  refine t_get (ci := 5) (v := .ref v_1) hB hT (ro_ci r_h rfl) rfl 0 (by decide) k_199 e_v_1 dX5_runActs_1 ?_
  refine lv_iload_n hx hb dX5_runActs_4 rfl (lv_at hl 1 rfl) ?_
  have i_q_2 : vp_in n 6 := (i_in (n := 6) rfl (by omega) (by omega))
  obtain ⟨q_2, e_q_2, r_q_2⟩ := hI.q r_v_1 n_v_1 (i_cl i_q_2)
  refine t_aald hB hT (Or.inl r_v_1) n_v_1 i_q_2 e_q_2 dX5_runActs_5 ?_
  refine lv_astore (lv' := [(4, .ref q_2), (0, .ref h), (1, .int n), (2, .int x1), (3, .int x2)]) hx hb dX5_runActs_6 hl (by decide) rfl (fun ls hl => ?_)
  refine lv_aload hx hb dX5_runActs_8 (lv_at hl 0 rfl) ?_
  obtain ⟨v_3, e_v_3, r_v_3⟩ := hI.f r_q_2 0
  refine t_get (ci := 3) (v := .ref v_3) hB hT (ro_ci r_q_2 rfl) rfl 0 (by decide) k_145 e_v_3 dX5_runActs_10 ?_
  refine lv_astore (lv' := [(5, .ref v_3), (4, .ref q_2), (0, .ref h), (1, .int n), (2, .int x1), (3, .int x2)]) hx hb dX5_runActs_13 hl (by decide) rfl (fun ls hl => ?_)
  refine lv_iload_n hx hb dX5_runActs_15 rfl (lv_at hl 5 rfl) ?_
  refine lv_if_eq (tgt := 32) hx hb dX5_runActs_16 (by decide) (fun c_4 => ?_) (fun c_4 => ?_)
  · have c_4' : x2.toInt = 0 := i_eq c_4 rfl (by decide)
    refine lv_iconst (v := 0) hx hb dX5_runActs_32 (by decide) ?_
    refine lv_istore (lv' := [(6, .int 0), (5, .ref v_3), (4, .ref q_2), (0, .ref h), (1, .int n), (2, .int x1), (3, .int x2)]) hx hb dX5_runActs_33 hl (by decide) rfl (fun ls hl => ?_)
    refine lv_iconst (v := 0) hx hb dX5_runActs_35 (by decide) ?_
    refine lv_istore (lv' := [(7, .int 0), (6, .int 0), (5, .ref v_3), (4, .ref q_2), (0, .ref h), (1, .int n), (2, .int x1), (3, .int x2)]) hx hb dX5_runActs_36 hl (by decide) rfl (fun ls hl => ?_)
    refine lv_iconst (v := 0) hx hb dX5_runActs_38 (by decide) ?_
    refine lv_istore (lv' := [(8, .int 0), (7, .int 0), (6, .int 0), (5, .ref v_3), (4, .ref q_2), (0, .ref h), (1, .int n), (2, .int x1), (3, .int x2)]) hx hb dX5_runActs_39 hl (by decide) rfl (fun ls hl => ?_)
    refine lv_iconst (v := 0) hx hb dX5_runActs_41 (by decide) ?_
    refine lv_istore (lv' := [(9, .int 0), (8, .int 0), (7, .int 0), (6, .int 0), (5, .ref v_3), (4, .ref q_2), (0, .ref h), (1, .int n), (2, .int x1), (3, .int x2)]) hx hb dX5_runActs_42 hl (by decide) rfl (fun ls hl => ?_)
    exact lt_s_runActs5_a l D cI cZ cS cR N0 fr g h n x1 x2 r_h l_n u_n hB hr 8 g (0 : Int32) (0 : Int32) (0 : Int32) (0 : Int32) q_2 v_3 H locs ls hT hI hE hM (by decide) (by decide) (by decide) (by decide) (by decide) (by decide) r_q_2 r_v_3 (by have e0 := z0; omega) (lv_sub hl [0, 1, 2, 3, 4, 5, 6, 7, 8, 9] rfl)
  · have c_4' : x2.toInt ≠ 0 := i_ne c_4 rfl (by decide)
    refine lv_aload hx hb dX5_runActs_19 (lv_at hl 1 rfl) ?_
    refine lv_iconst (v := 2) hx hb dX5_runActs_21 (by decide) ?_
    refine t_callV (n := 1) (ci := 3) (As := [.int 2]) (rest := []) hB hT hl.1 (s_isMended l D cI cZ cS cR N0 fr g hI q_2 2 r_q_2) (ro_ci r_q_2 rfl) rfl k_512 k_60 k_509 k_510 k_511 (by decide +kernel) ⟨(Nat.le_of_ble_eq_true rfl), (Nat.le_of_ble_eq_true rfl)⟩ rfl (Nat.le_of_ble_eq_true rfl) ⟨(Nat.le_of_ble_eq_true rfl), (Nat.le_of_ble_eq_true rfl)⟩ dX5_runActs_22 (fun v g_5 H locs hp hT => ?_)
    obtain ⟨r_6, rfl, hI, x_9, m_8, f_7⟩ := hp
    have r_10 : g_5.1 h = 6 := (Ex.r x_9 r_h (by decide))
    have r_11 : g_5.1 v_1 = 41 := (Ex.r x_9 r_v_1 (by decide))
    have r_12 : g_5.1 q_2 = 4 := (Ex.r x_9 r_q_2 (by decide))
    have r_13 : g_5.1 v_3 = 3 := (Ex.r x_9 r_v_3 (by decide))
    have n_14 : g_5.2.2.1 v_1 = 6 := (Ex.n x_9 r_v_1 (by decide) n_v_1)
    have e_15 : g_5.2.1 h 0 = .ref v_1 := (Sm.v m_8 r_h (by decide) rfl e_v_1)
    have e_16 : g_5.2.1 q_2 0 = .ref v_3 := (Sm.v m_8 r_q_2 (by decide) rfl e_v_3)
    have hM : Sm md_s_runActs5 g g_5 := hM.tr hE (m_8.mo (fun r k h => mdle_s_runActs5_s_isMended h))
    have hE : Ex g g_5 := hE.tr x_9
    refine W.eq (g2 := F0 m 25 ls [.int r_6]) rfl ?_
    rcases f_7 with rfl | rfl
    · refine W.eq (g2 := F0 m 25 ls [.int 1]) rfl ?_
      refine lv_if_eq (tgt := 32) hx hb dX5_runActs_25 (by decide) (fun c_ => absurd c_ (by decide)) (fun c_ => ?_)
      refine lv_iconst (v := 1) hx hb dX5_runActs_28 (by decide) ?_
      refine lv_goto (tgt := 33) hx hb dX5_runActs_29 (by decide) ?_
      refine lv_istore (lv' := [(6, .int 1), (5, .ref v_3), (4, .ref q_2), (0, .ref h), (1, .int n), (2, .int x1), (3, .int x2)]) hx hb dX5_runActs_33 hl (by decide) rfl (fun ls hl => ?_)
      refine lv_iconst (v := 0) hx hb dX5_runActs_35 (by decide) ?_
      refine lv_istore (lv' := [(7, .int 0), (6, .int 1), (5, .ref v_3), (4, .ref q_2), (0, .ref h), (1, .int n), (2, .int x1), (3, .int x2)]) hx hb dX5_runActs_36 hl (by decide) rfl (fun ls hl => ?_)
      refine lv_iconst (v := 0) hx hb dX5_runActs_38 (by decide) ?_
      refine lv_istore (lv' := [(8, .int 0), (7, .int 0), (6, .int 1), (5, .ref v_3), (4, .ref q_2), (0, .ref h), (1, .int n), (2, .int x1), (3, .int x2)]) hx hb dX5_runActs_39 hl (by decide) rfl (fun ls hl => ?_)
      refine lv_iconst (v := 0) hx hb dX5_runActs_41 (by decide) ?_
      refine lv_istore (lv' := [(9, .int 0), (8, .int 0), (7, .int 0), (6, .int 1), (5, .ref v_3), (4, .ref q_2), (0, .ref h), (1, .int n), (2, .int x1), (3, .int x2)]) hx hb dX5_runActs_42 hl (by decide) rfl (fun ls hl => ?_)
      exact lt_s_runActs5_a l D cI cZ cS cR N0 fr g h n x1 x2 r_h l_n u_n hB hr 8 g_5 (0 : Int32) (0 : Int32) (1 : Int32) (0 : Int32) q_2 v_3 H locs ls hT hI hE hM (by decide) (by decide) (by decide) (by decide) (by decide) (by decide) r_12 r_13 (by have e0 := z0; omega) (lv_sub hl [0, 1, 2, 3, 4, 5, 6, 7, 8, 9] rfl)
    · refine W.eq (g2 := F0 m 25 ls [.int 0]) rfl ?_
      refine lv_if_eq (tgt := 32) hx hb dX5_runActs_25 (by decide) (fun c_ => ?_) (fun c_ => absurd (by decide) c_)
      refine lv_iconst (v := 0) hx hb dX5_runActs_32 (by decide) ?_
      refine lv_istore (lv' := [(6, .int 0), (5, .ref v_3), (4, .ref q_2), (0, .ref h), (1, .int n), (2, .int x1), (3, .int x2)]) hx hb dX5_runActs_33 hl (by decide) rfl (fun ls hl => ?_)
      refine lv_iconst (v := 0) hx hb dX5_runActs_35 (by decide) ?_
      refine lv_istore (lv' := [(7, .int 0), (6, .int 0), (5, .ref v_3), (4, .ref q_2), (0, .ref h), (1, .int n), (2, .int x1), (3, .int x2)]) hx hb dX5_runActs_36 hl (by decide) rfl (fun ls hl => ?_)
      refine lv_iconst (v := 0) hx hb dX5_runActs_38 (by decide) ?_
      refine lv_istore (lv' := [(8, .int 0), (7, .int 0), (6, .int 0), (5, .ref v_3), (4, .ref q_2), (0, .ref h), (1, .int n), (2, .int x1), (3, .int x2)]) hx hb dX5_runActs_39 hl (by decide) rfl (fun ls hl => ?_)
      refine lv_iconst (v := 0) hx hb dX5_runActs_41 (by decide) ?_
      refine lv_istore (lv' := [(9, .int 0), (8, .int 0), (7, .int 0), (6, .int 0), (5, .ref v_3), (4, .ref q_2), (0, .ref h), (1, .int n), (2, .int x1), (3, .int x2)]) hx hb dX5_runActs_42 hl (by decide) rfl (fun ls hl => ?_)
      exact lt_s_runActs5_a l D cI cZ cS cR N0 fr g h n x1 x2 r_h l_n u_n hB hr 8 g_5 (0 : Int32) (0 : Int32) (0 : Int32) (0 : Int32) q_2 v_3 H locs ls hT hI hE hM (by decide) (by decide) (by decide) (by decide) (by decide) (by decide) r_12 r_13 (by have e0 := z0; omega) (lv_sub hl [0, 1, 2, 3, 4, 5, 6, 7, 8, 9] rfl)
def md_s_serve5 : Nat → Nat → Bool := fun r k => (r == 4 && k == 0) || (r == 4 && k == 2) || (r == 4 && k == 3) || (r == 4 && k == 4) || (r == 4 && k == 5) || (r == 4 && k == 10) || (r == 4 && k == 11) || (r == 4 && k == 14) || (r == 6 && k == 4) || (r == 6 && k == 5) || (r == 6 && k == 7)
theorem mdle_s_serve5_s_answerNewest {r k : Nat} (h : md_s_serve5 r k = false) : md_s_answerNewest r k = false := by
  first | rfl | (simp only [md_s_serve5, md_s_answerNewest, Bool.or_eq_false_iff, Bool.and_eq_false_iff, beq_eq_false_iff_ne] at h ⊢; omega)
theorem mdle_s_serve5_s_beginKnown {r k : Nat} (h : md_s_serve5 r k = false) : md_s_beginKnown r k = false := by
  first | rfl | (simp only [md_s_serve5, md_s_beginKnown, Bool.or_eq_false_iff, Bool.and_eq_false_iff, beq_eq_false_iff_ne] at h ⊢; omega)
theorem mdle_s_serve5_s_isMended {r k : Nat} (h : md_s_serve5 r k = false) : md_s_isMended r k = false := by
  first | rfl | (simp only [md_s_serve5, md_s_isMended, Bool.or_eq_false_iff, Bool.and_eq_false_iff, beq_eq_false_iff_ne] at h ⊢; omega)
theorem mdle_s_serve5_s_keep {r k : Nat} (h : md_s_serve5 r k = false) : md_s_keep r k = false := by
  first | rfl | (simp only [md_s_serve5, md_s_keep, Bool.or_eq_false_iff, Bool.and_eq_false_iff, beq_eq_false_iff_ne] at h ⊢; omega)
theorem mdle_s_serve5_s_keptAnswer {r k : Nat} (h : md_s_serve5 r k = false) : md_s_keptAnswer r k = false := by
  first | rfl | (simp only [md_s_serve5, md_s_keptAnswer, Bool.or_eq_false_iff, Bool.and_eq_false_iff, beq_eq_false_iff_ne] at h ⊢; omega)
theorem mdle_s_serve5_s_placeOfKey {r k : Nat} (h : md_s_serve5 r k = false) : md_s_placeOfKey r k = false := by
  first | rfl | (simp only [md_s_serve5, md_s_placeOfKey, Bool.or_eq_false_iff, Bool.and_eq_false_iff, beq_eq_false_iff_ne] at h ⊢; omega)
theorem mdle_s_serve5_s_runActs5 {r k : Nat} (h : md_s_serve5 r k = false) : md_s_runActs5 r k = false := by
  first | rfl | (simp only [md_s_serve5, md_s_runActs5, Bool.or_eq_false_iff, Bool.and_eq_false_iff, beq_eq_false_iff_ne] at h ⊢; omega)
set_option maxHeartbeats 4000000 in
set_option maxRecDepth 100000 in
theorem s_serve5 (l : Launch) (D : va_G) (cI cZ cS cR : ClassId) (N0 : NT) (fr : Int32) (g : GS) (hI : Inv fr g) (h : Nat) (n : Int32) (x1 : Int32) (x2 : Int32) (r_h : g.1 h = 6) (l_n : 0 ≤ n.toInt) (u_n : n.toInt ≤ 5) : Ty l D cI cZ cS cR N0 yX5_serve cX5_serve 9 (some .int) 12 0 0 [.ref h, .int n, .int x1, .int x2] g (fun v g' => ∃ (r : Int32), v = some (.int r) ∧ Inv fr g' ∧ Ex g g' ∧ Sm md_s_serve5 g g') := by
  refine t_enter (by decide) (Nat.le_of_ble_eq_true rfl) ?_
  intro p e s m args below meth c ls H locs hB hr hin hl hT
  have hx := hB.1
  have hb := hB.2.1
  have hl : lv_has ls 9 [(0, .ref h), (1, .int n), (2, .int x1), (3, .int x2)] := hl
  have hE : Ex g g := Ex.rf
  have hM : Sm md_s_serve5 g g := Sm.rf
  refine lv_aload_n hx hb dX5_serve_0 rfl (lv_at hl 0 rfl) ?_
  obtain ⟨v_1, e_v_1, r_v_1, n_v_1⟩ := hI.f r_h 0
  refine t_get (ci := 5) (v := .ref v_1) hB hT (ro_ci r_h rfl) rfl 0 (by decide) k_199 e_v_1 dX5_serve_1 ?_
  refine lv_iload_n hx hb dX5_serve_4 rfl (lv_at hl 1 rfl) ?_
  have i_q_2 : vp_in n 6 := (i_in (n := 6) rfl (by omega) (by omega))
  obtain ⟨q_2, e_q_2, r_q_2⟩ := hI.q r_v_1 n_v_1 (i_cl i_q_2)
  refine t_aald hB hT (Or.inl r_v_1) n_v_1 i_q_2 e_q_2 dX5_serve_5 ?_
  refine lv_astore (lv' := [(4, .ref q_2), (0, .ref h), (1, .int n), (2, .int x1), (3, .int x2)]) hx hb dX5_serve_6 hl (by decide) rfl (fun ls hl => ?_)
  refine lv_iload_n hx hb dX5_serve_8 rfl (lv_at hl 4 rfl) ?_
  refine lv_if_eq (tgt := 25) hx hb dX5_serve_9 (by decide) (fun c_3 => ?_) (fun c_3 => ?_)
  · have c_3' : x2.toInt = 0 := i_eq c_3 rfl (by decide)
    refine lv_iconst (v := 0) hx hb dX5_serve_25 (by decide) ?_
    refine lv_istore (lv' := [(5, .int 0), (4, .ref q_2), (0, .ref h), (1, .int n), (2, .int x1), (3, .int x2)]) hx hb dX5_serve_26 hl (by decide) rfl (fun ls hl => ?_)
    refine lv_iload hx hb dX5_serve_28 (lv_at hl 0 rfl) ?_
    refine lv_if_eq (tgt := 46) hx hb dX5_serve_30 (by decide) (fun c_ => ?_) (fun c_ => absurd (by decide) c_)
    refine lv_iconst (v := 0) hx hb dX5_serve_46 (by decide) ?_
    refine lv_istore (lv' := [(6, .int 0), (5, .int 0), (4, .ref q_2), (0, .ref h), (1, .int n), (2, .int x1), (3, .int x2)]) hx hb dX5_serve_47 hl (by decide) rfl (fun ls hl => ?_)
    refine lv_iload hx hb dX5_serve_49 (lv_at hl 1 rfl) ?_
    refine lv_if_eq (tgt := 63) hx hb dX5_serve_51 (by decide) (fun c_ => ?_) (fun c_ => absurd (by decide) c_)
    refine lv_iconst (v := (-1)) hx hb dX5_serve_63 (by decide) ?_
    refine lv_istore (lv' := [(7, .int (-1)), (6, .int 0), (5, .int 0), (4, .ref q_2), (0, .ref h), (1, .int n), (2, .int x1), (3, .int x2)]) hx hb dX5_serve_64 hl (by decide) rfl (fun ls hl => ?_)
    refine lv_iload hx hb dX5_serve_66 (lv_at hl 0 rfl) ?_
    refine lv_iconst (v := (-1)) hx hb dX5_serve_68 (by decide) ?_
    refine lv_icmp_eq (tgt := 81) hx hb dX5_serve_69 (by decide) (fun c_ => ?_) (fun c_ => absurd (by decide) c_)
    refine lv_iload hx hb dX5_serve_81 (lv_at hl 1 rfl) ?_
    refine lv_if_eq (tgt := 98) hx hb dX5_serve_83 (by decide) (fun c_ => ?_) (fun c_ => absurd (by decide) c_)
    refine lv_aload hx hb dX5_serve_98 (lv_at hl 3 rfl) ?_
    refine lv_iload_n hx hb dX5_serve_100 rfl (lv_at hl 6 rfl) ?_
    refine lv_iload_n hx hb dX5_serve_101 rfl (lv_at hl 7 rfl) ?_
    refine t_callV (n := 2) (ci := 3) (As := [.int x1, .int x2]) (rest := []) hB hT hl.1 (s_beginKnown l D cI cZ cS cR N0 fr g hI q_2 x1 x2 r_q_2) (ro_ci r_q_2 rfl) rfl k_529 k_60 k_526 k_527 k_528 (by decide +kernel) ⟨(Nat.le_of_ble_eq_true rfl), (Nat.le_of_ble_eq_true rfl)⟩ rfl (Nat.le_of_ble_eq_true rfl) ⟨(Nat.le_of_ble_eq_true rfl), (Nat.le_of_ble_eq_true rfl)⟩ dX5_serve_102 (fun v g_4 H locs hp hT => ?_)
    obtain ⟨rfl, hI, x_6, m_5⟩ := hp
    have r_7 : g_4.1 h = 6 := (Ex.r x_6 r_h (by decide))
    have r_8 : g_4.1 v_1 = 41 := (Ex.r x_6 r_v_1 (by decide))
    have r_9 : g_4.1 q_2 = 4 := (Ex.r x_6 r_q_2 (by decide))
    have n_10 : g_4.2.2.1 v_1 = 6 := (Ex.n x_6 r_v_1 (by decide) n_v_1)
    have e_11 : g_4.2.1 h 0 = .ref v_1 := (Sm.v m_5 r_h (by decide) rfl e_v_1)
    have hM : Sm md_s_serve5 g g_4 := hM.tr hE (m_5.mo (fun r k h => mdle_s_serve5_s_beginKnown h))
    have hE : Ex g g_4 := hE.tr x_6
    refine W.eq (g2 := F0 m 105 ls []) rfl ?_
    refine lv_aload_n hx hb dX5_serve_105 rfl (lv_at hl 4 rfl) ?_
    refine lv_iload_n hx hb dX5_serve_106 rfl (lv_at hl 5 rfl) ?_
    refine lv_iload_n hx hb dX5_serve_107 rfl (lv_at hl 6 rfl) ?_
    refine lv_iload_n hx hb dX5_serve_108 rfl (lv_at hl 7 rfl) ?_
    refine t_callV (n := 3) (ci := 5) (As := [.int n, .int x1, .int x2]) (rest := []) hB hT hl.1 (s_runActs5 l D cI cZ cS cR N0 fr g_4 hI h n x1 x2 r_7 (by omega) (by omega)) (ro_ci r_7 rfl) rfl k_534 k_59 k_531 k_533 k_13 (by decide +kernel) ⟨(Nat.le_of_ble_eq_true rfl), (Nat.le_of_ble_eq_true rfl)⟩ rfl (Nat.le_of_ble_eq_true rfl) ⟨(Nat.le_of_ble_eq_true rfl), (Nat.le_of_ble_eq_true rfl)⟩ dX5_serve_109 (fun v g_12 H locs hp hT => ?_)
    obtain ⟨r_13, rfl, hI, x_15, m_14⟩ := hp
    have r_16 : g_12.1 h = 6 := (Ex.r x_15 r_7 (by decide))
    have r_17 : g_12.1 v_1 = 41 := (Ex.r x_15 r_8 (by decide))
    have r_18 : g_12.1 q_2 = 4 := (Ex.r x_15 r_9 (by decide))
    have n_19 : g_12.2.2.1 v_1 = 6 := (Ex.n x_15 r_8 (by decide) n_10)
    have e_20 : g_12.2.1 h 0 = .ref v_1 := (Sm.v m_14 r_7 (by decide) rfl e_11)
    have hM : Sm md_s_serve5 g g_12 := hM.tr hE (m_14.mo (fun r k h => mdle_s_serve5_s_runActs5 h))
    have hE : Ex g g_12 := hE.tr x_15
    refine W.eq (g2 := F0 m 112 ls [.int r_13]) rfl ?_
    refine lv_istore (lv' := [(8, .int r_13), (7, .int (-1)), (6, .int 0), (5, .int 0), (4, .ref q_2), (0, .ref h), (1, .int n), (2, .int x1), (3, .int x2)]) hx hb dX5_serve_112 hl (by decide) rfl (fun ls hl => ?_)
    refine lv_aload_n hx hb dX5_serve_114 rfl (lv_at hl 5 rfl) ?_
    obtain ⟨v_21, e_v_21, l_v_21, u_v_21⟩ := hI.f r_16 7
    refine t_get (ci := 5) (v := .int v_21) hB hT (ro_ci r_16 rfl) rfl 7 (by decide) k_216 e_v_21 dX5_serve_115 ?_
    refine lv_if_eq (tgt := 124) hx hb dX5_serve_118 (by decide) (fun c_22 => ?_) (fun c_22 => ?_)
    · have c_22' : v_21.toInt = 0 := i_eq c_22 rfl (by decide)
      refine lv_iload hx hb dX5_serve_124 (lv_at hl 2 rfl) ?_
      refine lv_if_eq (tgt := 140) hx hb dX5_serve_126 (by decide) (fun c_ => ?_) (fun c_ => absurd (by decide) c_)
      refine lv_iload hx hb dX5_serve_140 (lv_at hl 3 rfl) ?_
      refine lv_if_eq (tgt := 158) hx hb dX5_serve_142 (by decide) (fun c_ => ?_) (fun c_ => absurd (by decide) c_)
      refine lv_iload hx hb dX5_serve_158 (lv_at hl 0 rfl) ?_
      exact t_iret hB hr hT (Nat.le_of_ble_eq_true rfl) (Nat.le_of_ble_eq_true rfl) dX5_serve_160 ⟨r_13, rfl, hI, hE, hM⟩
    · have c_22' : v_21.toInt ≠ 0 := i_ne c_22 rfl (by decide)
      refine lv_bipush (v := (-2)) hx hb dX5_serve_121 (by decide) ?_
      exact t_iret hB hr hT (Nat.le_of_ble_eq_true rfl) (Nat.le_of_ble_eq_true rfl) dX5_serve_123 ⟨(-2), rfl, hI, hE, hM⟩
  · have c_3' : x2.toInt ≠ 0 := i_ne c_3 rfl (by decide)
    refine lv_aload hx hb dX5_serve_12 (lv_at hl 0 rfl) ?_
    refine lv_iconst (v := 0) hx hb dX5_serve_14 (by decide) ?_
    refine t_callV (n := 1) (ci := 3) (As := [.int 0]) (rest := []) hB hT hl.1 (s_isMended l D cI cZ cS cR N0 fr g hI q_2 0 r_q_2) (ro_ci r_q_2 rfl) rfl k_512 k_60 k_509 k_510 k_511 (by decide +kernel) ⟨(Nat.le_of_ble_eq_true rfl), (Nat.le_of_ble_eq_true rfl)⟩ rfl (Nat.le_of_ble_eq_true rfl) ⟨(Nat.le_of_ble_eq_true rfl), (Nat.le_of_ble_eq_true rfl)⟩ dX5_serve_15 (fun v g_23 H locs hp hT => ?_)
    obtain ⟨r_24, rfl, hI, x_27, m_26, f_25⟩ := hp
    have r_28 : g_23.1 h = 6 := (Ex.r x_27 r_h (by decide))
    have r_29 : g_23.1 v_1 = 41 := (Ex.r x_27 r_v_1 (by decide))
    have r_30 : g_23.1 q_2 = 4 := (Ex.r x_27 r_q_2 (by decide))
    have n_31 : g_23.2.2.1 v_1 = 6 := (Ex.n x_27 r_v_1 (by decide) n_v_1)
    have e_32 : g_23.2.1 h 0 = .ref v_1 := (Sm.v m_26 r_h (by decide) rfl e_v_1)
    have hM : Sm md_s_serve5 g g_23 := hM.tr hE (m_26.mo (fun r k h => mdle_s_serve5_s_isMended h))
    have hE : Ex g g_23 := hE.tr x_27
    refine W.eq (g2 := F0 m 18 ls [.int r_24]) rfl ?_
    rcases f_25 with rfl | rfl
    · refine W.eq (g2 := F0 m 18 ls [.int 1]) rfl ?_
      refine lv_if_eq (tgt := 25) hx hb dX5_serve_18 (by decide) (fun c_ => absurd c_ (by decide)) (fun c_ => ?_)
      refine lv_iconst (v := 1) hx hb dX5_serve_21 (by decide) ?_
      refine lv_goto (tgt := 26) hx hb dX5_serve_22 (by decide) ?_
      refine lv_istore (lv' := [(5, .int 1), (4, .ref q_2), (0, .ref h), (1, .int n), (2, .int x1), (3, .int x2)]) hx hb dX5_serve_26 hl (by decide) rfl (fun ls hl => ?_)
      refine lv_iload hx hb dX5_serve_28 (lv_at hl 0 rfl) ?_
      refine lv_if_eq (tgt := 46) hx hb dX5_serve_30 (by decide) (fun c_ => absurd c_ (by decide)) (fun c_ => ?_)
      refine lv_aload hx hb dX5_serve_33 (lv_at hl 1 rfl) ?_
      refine lv_iconst (v := 1) hx hb dX5_serve_35 (by decide) ?_
      refine t_callV (n := 1) (ci := 3) (As := [.int 1]) (rest := []) hB hT hl.1 (s_isMended l D cI cZ cS cR N0 fr g_23 hI q_2 1 r_30) (ro_ci r_30 rfl) rfl k_512 k_60 k_509 k_510 k_511 (by decide +kernel) ⟨(Nat.le_of_ble_eq_true rfl), (Nat.le_of_ble_eq_true rfl)⟩ rfl (Nat.le_of_ble_eq_true rfl) ⟨(Nat.le_of_ble_eq_true rfl), (Nat.le_of_ble_eq_true rfl)⟩ dX5_serve_36 (fun v g_33 H locs hp hT => ?_)
      obtain ⟨r_34, rfl, hI, x_37, m_36, f_35⟩ := hp
      have r_38 : g_33.1 h = 6 := (Ex.r x_37 r_28 (by decide))
      have r_39 : g_33.1 v_1 = 41 := (Ex.r x_37 r_29 (by decide))
      have r_40 : g_33.1 q_2 = 4 := (Ex.r x_37 r_30 (by decide))
      have n_41 : g_33.2.2.1 v_1 = 6 := (Ex.n x_37 r_29 (by decide) n_31)
      have e_42 : g_33.2.1 h 0 = .ref v_1 := (Sm.v m_36 r_28 (by decide) rfl e_32)
      have hM : Sm md_s_serve5 g g_33 := hM.tr hE (m_36.mo (fun r k h => mdle_s_serve5_s_isMended h))
      have hE : Ex g g_33 := hE.tr x_37
      refine W.eq (g2 := F0 m 39 ls [.int r_34]) rfl ?_
      rcases f_35 with rfl | rfl
      · refine W.eq (g2 := F0 m 39 ls [.int 1]) rfl ?_
        refine lv_if_eq (tgt := 46) hx hb dX5_serve_39 (by decide) (fun c_ => absurd c_ (by decide)) (fun c_ => ?_)
        refine lv_iconst (v := 1) hx hb dX5_serve_42 (by decide) ?_
        refine lv_goto (tgt := 47) hx hb dX5_serve_43 (by decide) ?_
        refine lv_istore (lv' := [(6, .int 1), (5, .int 1), (4, .ref q_2), (0, .ref h), (1, .int n), (2, .int x1), (3, .int x2)]) hx hb dX5_serve_47 hl (by decide) rfl (fun ls hl => ?_)
        refine lv_iload hx hb dX5_serve_49 (lv_at hl 1 rfl) ?_
        refine lv_if_eq (tgt := 63) hx hb dX5_serve_51 (by decide) (fun c_ => absurd c_ (by decide)) (fun c_ => ?_)
        refine lv_aload hx hb dX5_serve_54 (lv_at hl 2 rfl) ?_
        refine lv_iload_n hx hb dX5_serve_56 rfl (lv_at hl 6 rfl) ?_
        refine t_callV (n := 1) (ci := 3) (As := [.int x2]) (rest := []) hB hT hl.1 (s_placeOfKey l D cI cZ cS cR N0 fr g_33 hI q_2 x2 r_40) (ro_ci r_40 rfl) rfl k_516 k_60 k_513 k_514 k_515 (by decide +kernel) ⟨(Nat.le_of_ble_eq_true rfl), (Nat.le_of_ble_eq_true rfl)⟩ rfl (Nat.le_of_ble_eq_true rfl) ⟨(Nat.le_of_ble_eq_true rfl), (Nat.le_of_ble_eq_true rfl)⟩ dX5_serve_57 (fun v g_43 H locs hp hT => ?_)
        obtain ⟨r_44, rfl, hI, x_47, m_46, f_45⟩ := hp
        have r_48 : g_43.1 h = 6 := (Ex.r x_47 r_38 (by decide))
        have r_49 : g_43.1 v_1 = 41 := (Ex.r x_47 r_39 (by decide))
        have r_50 : g_43.1 q_2 = 4 := (Ex.r x_47 r_40 (by decide))
        have n_51 : g_43.2.2.1 v_1 = 6 := (Ex.n x_47 r_39 (by decide) n_41)
        have e_52 : g_43.2.1 h 0 = .ref v_1 := (Sm.v m_46 r_38 (by decide) rfl e_42)
        have hM : Sm md_s_serve5 g g_43 := hM.tr hE (m_46.mo (fun r k h => mdle_s_serve5_s_placeOfKey h))
        have hE : Ex g g_43 := hE.tr x_47
        refine W.eq (g2 := F0 m 60 ls [.int r_44]) rfl ?_
        rcases f_45 with rfl | ⟨hw_53, hw_54⟩
        · refine W.eq (g2 := F0 m 60 ls [.int (-1)]) rfl ?_
          refine lv_goto (tgt := 64) hx hb dX5_serve_60 (by decide) ?_
          refine lv_istore (lv' := [(7, .int (-1)), (6, .int 1), (5, .int 1), (4, .ref q_2), (0, .ref h), (1, .int n), (2, .int x1), (3, .int x2)]) hx hb dX5_serve_64 hl (by decide) rfl (fun ls hl => ?_)
          refine lv_iload hx hb dX5_serve_66 (lv_at hl 0 rfl) ?_
          refine lv_iconst (v := (-1)) hx hb dX5_serve_68 (by decide) ?_
          refine lv_icmp_eq (tgt := 81) hx hb dX5_serve_69 (by decide) (fun c_ => ?_) (fun c_ => absurd (by decide) c_)
          refine lv_iload hx hb dX5_serve_81 (lv_at hl 1 rfl) ?_
          refine lv_if_eq (tgt := 98) hx hb dX5_serve_83 (by decide) (fun c_ => absurd c_ (by decide)) (fun c_ => ?_)
          refine lv_aload hx hb dX5_serve_86 (lv_at hl 3 rfl) ?_
          refine lv_iload_n hx hb dX5_serve_88 rfl (lv_at hl 7 rfl) ?_
          refine lv_iload_n hx hb dX5_serve_89 rfl (lv_at hl 6 rfl) ?_
          refine lv_iconst (v := 0) hx hb dX5_serve_90 (by decide) ?_
          refine lv_aload_n hx hb dX5_serve_91 rfl (lv_at hl 4 rfl) ?_
          obtain ⟨v_55, e_v_55⟩ := hI.f r_48 2
          refine t_get (ci := 5) (v := .int v_55) hB hT (ro_ci r_48 rfl) rfl 2 (by decide) k_205 e_v_55 dX5_serve_92 ?_
          refine t_callV (n := 4) (ci := 3) (As := [.int x2, .int x1, .int 0, .int v_55]) (rest := []) hB hT hl.1 (s_keep l D cI cZ cS cR N0 fr g_43 hI q_2 x2 x1 0 v_55 r_50) (ro_ci r_50 rfl) rfl k_524 k_60 k_521 k_522 k_523 (by decide +kernel) ⟨(Nat.le_of_ble_eq_true rfl), (Nat.le_of_ble_eq_true rfl)⟩ rfl (Nat.le_of_ble_eq_true rfl) ⟨(Nat.le_of_ble_eq_true rfl), (Nat.le_of_ble_eq_true rfl)⟩ dX5_serve_95 (fun v g_56 H locs hp hT => ?_)
          obtain ⟨rfl, hI, x_58, m_57⟩ := hp
          have r_59 : g_56.1 h = 6 := (Ex.r x_58 r_48 (by decide))
          have r_60 : g_56.1 v_1 = 41 := (Ex.r x_58 r_49 (by decide))
          have r_61 : g_56.1 q_2 = 4 := (Ex.r x_58 r_50 (by decide))
          have n_62 : g_56.2.2.1 v_1 = 6 := (Ex.n x_58 r_49 (by decide) n_51)
          have e_63 : g_56.2.1 h 0 = .ref v_1 := (Sm.v m_57 r_48 (by decide) rfl e_52)
          have e_64 : g_56.2.1 h 2 = .int v_55 := (Sm.v m_57 r_48 (by decide) rfl e_v_55)
          have hM : Sm md_s_serve5 g g_56 := hM.tr hE (m_57.mo (fun r k h => mdle_s_serve5_s_keep h))
          have hE : Ex g g_56 := hE.tr x_58
          refine W.eq (g2 := F0 m 98 ls []) rfl ?_
          refine lv_aload hx hb dX5_serve_98 (lv_at hl 3 rfl) ?_
          refine lv_iload_n hx hb dX5_serve_100 rfl (lv_at hl 6 rfl) ?_
          refine lv_iload_n hx hb dX5_serve_101 rfl (lv_at hl 7 rfl) ?_
          refine t_callV (n := 2) (ci := 3) (As := [.int x1, .int x2]) (rest := []) hB hT hl.1 (s_beginKnown l D cI cZ cS cR N0 fr g_56 hI q_2 x1 x2 r_61) (ro_ci r_61 rfl) rfl k_529 k_60 k_526 k_527 k_528 (by decide +kernel) ⟨(Nat.le_of_ble_eq_true rfl), (Nat.le_of_ble_eq_true rfl)⟩ rfl (Nat.le_of_ble_eq_true rfl) ⟨(Nat.le_of_ble_eq_true rfl), (Nat.le_of_ble_eq_true rfl)⟩ dX5_serve_102 (fun v g_65 H locs hp hT => ?_)
          obtain ⟨rfl, hI, x_67, m_66⟩ := hp
          have r_68 : g_65.1 h = 6 := (Ex.r x_67 r_59 (by decide))
          have r_69 : g_65.1 v_1 = 41 := (Ex.r x_67 r_60 (by decide))
          have r_70 : g_65.1 q_2 = 4 := (Ex.r x_67 r_61 (by decide))
          have n_71 : g_65.2.2.1 v_1 = 6 := (Ex.n x_67 r_60 (by decide) n_62)
          have e_72 : g_65.2.1 h 0 = .ref v_1 := (Sm.v m_66 r_59 (by decide) rfl e_63)
          have e_73 : g_65.2.1 h 2 = .int v_55 := (Sm.v m_66 r_59 (by decide) rfl e_64)
          have hM : Sm md_s_serve5 g g_65 := hM.tr hE (m_66.mo (fun r k h => mdle_s_serve5_s_beginKnown h))
          have hE : Ex g g_65 := hE.tr x_67
          refine W.eq (g2 := F0 m 105 ls []) rfl ?_
          refine lv_aload_n hx hb dX5_serve_105 rfl (lv_at hl 4 rfl) ?_
          refine lv_iload_n hx hb dX5_serve_106 rfl (lv_at hl 5 rfl) ?_
          refine lv_iload_n hx hb dX5_serve_107 rfl (lv_at hl 6 rfl) ?_
          refine lv_iload_n hx hb dX5_serve_108 rfl (lv_at hl 7 rfl) ?_
          refine t_callV (n := 3) (ci := 5) (As := [.int n, .int x1, .int x2]) (rest := []) hB hT hl.1 (s_runActs5 l D cI cZ cS cR N0 fr g_65 hI h n x1 x2 r_68 (by omega) (by omega)) (ro_ci r_68 rfl) rfl k_534 k_59 k_531 k_533 k_13 (by decide +kernel) ⟨(Nat.le_of_ble_eq_true rfl), (Nat.le_of_ble_eq_true rfl)⟩ rfl (Nat.le_of_ble_eq_true rfl) ⟨(Nat.le_of_ble_eq_true rfl), (Nat.le_of_ble_eq_true rfl)⟩ dX5_serve_109 (fun v g_74 H locs hp hT => ?_)
          obtain ⟨r_75, rfl, hI, x_77, m_76⟩ := hp
          have r_78 : g_74.1 h = 6 := (Ex.r x_77 r_68 (by decide))
          have r_79 : g_74.1 v_1 = 41 := (Ex.r x_77 r_69 (by decide))
          have r_80 : g_74.1 q_2 = 4 := (Ex.r x_77 r_70 (by decide))
          have n_81 : g_74.2.2.1 v_1 = 6 := (Ex.n x_77 r_69 (by decide) n_71)
          have e_82 : g_74.2.1 h 0 = .ref v_1 := (Sm.v m_76 r_68 (by decide) rfl e_72)
          have e_83 : g_74.2.1 h 2 = .int v_55 := (Sm.v m_76 r_68 (by decide) rfl e_73)
          have hM : Sm md_s_serve5 g g_74 := hM.tr hE (m_76.mo (fun r k h => mdle_s_serve5_s_runActs5 h))
          have hE : Ex g g_74 := hE.tr x_77
          refine W.eq (g2 := F0 m 112 ls [.int r_75]) rfl ?_
          refine lv_istore (lv' := [(8, .int r_75), (7, .int (-1)), (6, .int 1), (5, .int 1), (4, .ref q_2), (0, .ref h), (1, .int n), (2, .int x1), (3, .int x2)]) hx hb dX5_serve_112 hl (by decide) rfl (fun ls hl => ?_)
          refine lv_aload_n hx hb dX5_serve_114 rfl (lv_at hl 5 rfl) ?_
          obtain ⟨v_84, e_v_84, l_v_84, u_v_84⟩ := hI.f r_78 7
          refine t_get (ci := 5) (v := .int v_84) hB hT (ro_ci r_78 rfl) rfl 7 (by decide) k_216 e_v_84 dX5_serve_115 ?_
          refine lv_if_eq (tgt := 124) hx hb dX5_serve_118 (by decide) (fun c_85 => ?_) (fun c_85 => ?_)
          · have c_85' : v_84.toInt = 0 := i_eq c_85 rfl (by decide)
            refine lv_iload hx hb dX5_serve_124 (lv_at hl 2 rfl) ?_
            refine lv_if_eq (tgt := 140) hx hb dX5_serve_126 (by decide) (fun c_ => absurd c_ (by decide)) (fun c_ => ?_)
            refine lv_aload hx hb dX5_serve_129 (lv_at hl 4 rfl) ?_
            refine lv_iload_n hx hb dX5_serve_131 rfl (lv_at hl 8 rfl) ?_
            refine lv_iload hx hb dX5_serve_132 (lv_at hl 0 rfl) ?_
            refine t_callV (n := 2) (ci := 3) (As := [.int x2, .int r_75]) (rest := []) hB hT hl.1 (s_answerNewest l D cI cZ cS cR N0 fr g_74 hI q_2 x2 r_75 r_80) (ro_ci r_80 rfl) rfl k_554 k_60 k_551 k_552 k_553 (by decide +kernel) ⟨(Nat.le_of_ble_eq_true rfl), (Nat.le_of_ble_eq_true rfl)⟩ rfl (Nat.le_of_ble_eq_true rfl) ⟨(Nat.le_of_ble_eq_true rfl), (Nat.le_of_ble_eq_true rfl)⟩ dX5_serve_134 (fun v g_86 H locs hp hT => ?_)
            obtain ⟨rfl, hI, x_88, m_87⟩ := hp
            have r_89 : g_86.1 h = 6 := (Ex.r x_88 r_78 (by decide))
            have r_90 : g_86.1 v_1 = 41 := (Ex.r x_88 r_79 (by decide))
            have r_91 : g_86.1 q_2 = 4 := (Ex.r x_88 r_80 (by decide))
            have n_92 : g_86.2.2.1 v_1 = 6 := (Ex.n x_88 r_79 (by decide) n_81)
            have e_93 : g_86.2.1 h 0 = .ref v_1 := (Sm.v m_87 r_78 (by decide) rfl e_82)
            have e_94 : g_86.2.1 h 2 = .int v_55 := (Sm.v m_87 r_78 (by decide) rfl e_83)
            have e_95 : g_86.2.1 h 7 = .int v_84 := (Sm.v m_87 r_78 (by decide) rfl e_v_84)
            have hM : Sm md_s_serve5 g g_86 := hM.tr hE (m_87.mo (fun r k h => mdle_s_serve5_s_answerNewest h))
            have hE : Ex g g_86 := hE.tr x_88
            refine W.eq (g2 := F0 m 137 ls []) rfl ?_
            refine lv_goto (tgt := 158) hx hb dX5_serve_137 (by decide) ?_
            refine lv_iload hx hb dX5_serve_158 (lv_at hl 0 rfl) ?_
            exact t_iret hB hr hT (Nat.le_of_ble_eq_true rfl) (Nat.le_of_ble_eq_true rfl) dX5_serve_160 ⟨r_75, rfl, hI, hE, hM⟩
          · have c_85' : v_84.toInt ≠ 0 := i_ne c_85 rfl (by decide)
            refine lv_bipush (v := (-2)) hx hb dX5_serve_121 (by decide) ?_
            exact t_iret hB hr hT (Nat.le_of_ble_eq_true rfl) (Nat.le_of_ble_eq_true rfl) dX5_serve_123 ⟨(-2), rfl, hI, hE, hM⟩
        · refine W.eq (g2 := F0 m 60 ls [.int r_44]) rfl ?_
          refine lv_goto (tgt := 64) hx hb dX5_serve_60 (by decide) ?_
          refine lv_istore (lv' := [(7, .int r_44), (6, .int 1), (5, .int 1), (4, .ref q_2), (0, .ref h), (1, .int n), (2, .int x1), (3, .int x2)]) hx hb dX5_serve_64 hl (by decide) rfl (fun ls hl => ?_)
          refine lv_iload hx hb dX5_serve_66 (lv_at hl 0 rfl) ?_
          refine lv_iconst (v := (-1)) hx hb dX5_serve_68 (by decide) ?_
          refine lv_icmp_eq (tgt := 81) hx hb dX5_serve_69 (by decide) (fun c_96 => ?_) (fun c_96 => ?_)
          · have c_96' : r_44.toInt = (-1) := i_eq c_96 rfl (by decide)
            exact absurd c_96' (by omega)
          · have c_96' : r_44.toInt ≠ (-1) := i_ne c_96 rfl (by decide)
            refine lv_aload hx hb dX5_serve_72 (lv_at hl 3 rfl) ?_
            refine lv_iload hx hb dX5_serve_74 (lv_at hl 0 rfl) ?_
            refine lv_iload_n hx hb dX5_serve_76 rfl (lv_at hl 6 rfl) ?_
            refine t_callV (n := 2) (ci := 3) (As := [.int r_44, .int x1]) (rest := []) hB hT hl.1 (s_keptAnswer l D cI cZ cS cR N0 fr g_43 hI q_2 r_44 x1 r_50 (by omega) (by omega)) (ro_ci r_50 rfl) rfl k_520 k_60 k_517 k_518 k_519 (by decide +kernel) ⟨(Nat.le_of_ble_eq_true rfl), (Nat.le_of_ble_eq_true rfl)⟩ rfl (Nat.le_of_ble_eq_true rfl) ⟨(Nat.le_of_ble_eq_true rfl), (Nat.le_of_ble_eq_true rfl)⟩ dX5_serve_77 (fun v g_97 H locs hp hT => ?_)
            obtain ⟨r_98, rfl, hI, x_100, m_99⟩ := hp
            have r_101 : g_97.1 h = 6 := (Ex.r x_100 r_48 (by decide))
            have r_102 : g_97.1 v_1 = 41 := (Ex.r x_100 r_49 (by decide))
            have r_103 : g_97.1 q_2 = 4 := (Ex.r x_100 r_50 (by decide))
            have n_104 : g_97.2.2.1 v_1 = 6 := (Ex.n x_100 r_49 (by decide) n_51)
            have e_105 : g_97.2.1 h 0 = .ref v_1 := (Sm.v m_99 r_48 (by decide) rfl e_52)
            have hM : Sm md_s_serve5 g g_97 := hM.tr hE (m_99.mo (fun r k h => mdle_s_serve5_s_keptAnswer h))
            have hE : Ex g g_97 := hE.tr x_100
            refine W.eq (g2 := F0 m 80 ls [.int r_98]) rfl ?_
            exact t_iret hB hr hT (Nat.le_of_ble_eq_true rfl) (Nat.le_of_ble_eq_true rfl) dX5_serve_80 ⟨r_98, rfl, hI, hE, hM⟩
      · refine W.eq (g2 := F0 m 39 ls [.int 0]) rfl ?_
        refine lv_if_eq (tgt := 46) hx hb dX5_serve_39 (by decide) (fun c_ => ?_) (fun c_ => absurd (by decide) c_)
        refine lv_iconst (v := 0) hx hb dX5_serve_46 (by decide) ?_
        refine lv_istore (lv' := [(6, .int 0), (5, .int 1), (4, .ref q_2), (0, .ref h), (1, .int n), (2, .int x1), (3, .int x2)]) hx hb dX5_serve_47 hl (by decide) rfl (fun ls hl => ?_)
        refine lv_iload hx hb dX5_serve_49 (lv_at hl 1 rfl) ?_
        refine lv_if_eq (tgt := 63) hx hb dX5_serve_51 (by decide) (fun c_ => absurd c_ (by decide)) (fun c_ => ?_)
        refine lv_aload hx hb dX5_serve_54 (lv_at hl 2 rfl) ?_
        refine lv_iload_n hx hb dX5_serve_56 rfl (lv_at hl 6 rfl) ?_
        refine t_callV (n := 1) (ci := 3) (As := [.int x2]) (rest := []) hB hT hl.1 (s_placeOfKey l D cI cZ cS cR N0 fr g_33 hI q_2 x2 r_40) (ro_ci r_40 rfl) rfl k_516 k_60 k_513 k_514 k_515 (by decide +kernel) ⟨(Nat.le_of_ble_eq_true rfl), (Nat.le_of_ble_eq_true rfl)⟩ rfl (Nat.le_of_ble_eq_true rfl) ⟨(Nat.le_of_ble_eq_true rfl), (Nat.le_of_ble_eq_true rfl)⟩ dX5_serve_57 (fun v g_106 H locs hp hT => ?_)
        obtain ⟨r_107, rfl, hI, x_110, m_109, f_108⟩ := hp
        have r_111 : g_106.1 h = 6 := (Ex.r x_110 r_38 (by decide))
        have r_112 : g_106.1 v_1 = 41 := (Ex.r x_110 r_39 (by decide))
        have r_113 : g_106.1 q_2 = 4 := (Ex.r x_110 r_40 (by decide))
        have n_114 : g_106.2.2.1 v_1 = 6 := (Ex.n x_110 r_39 (by decide) n_41)
        have e_115 : g_106.2.1 h 0 = .ref v_1 := (Sm.v m_109 r_38 (by decide) rfl e_42)
        have hM : Sm md_s_serve5 g g_106 := hM.tr hE (m_109.mo (fun r k h => mdle_s_serve5_s_placeOfKey h))
        have hE : Ex g g_106 := hE.tr x_110
        refine W.eq (g2 := F0 m 60 ls [.int r_107]) rfl ?_
        rcases f_108 with rfl | ⟨hw_116, hw_117⟩
        · refine W.eq (g2 := F0 m 60 ls [.int (-1)]) rfl ?_
          refine lv_goto (tgt := 64) hx hb dX5_serve_60 (by decide) ?_
          refine lv_istore (lv' := [(7, .int (-1)), (6, .int 0), (5, .int 1), (4, .ref q_2), (0, .ref h), (1, .int n), (2, .int x1), (3, .int x2)]) hx hb dX5_serve_64 hl (by decide) rfl (fun ls hl => ?_)
          refine lv_iload hx hb dX5_serve_66 (lv_at hl 0 rfl) ?_
          refine lv_iconst (v := (-1)) hx hb dX5_serve_68 (by decide) ?_
          refine lv_icmp_eq (tgt := 81) hx hb dX5_serve_69 (by decide) (fun c_ => ?_) (fun c_ => absurd (by decide) c_)
          refine lv_iload hx hb dX5_serve_81 (lv_at hl 1 rfl) ?_
          refine lv_if_eq (tgt := 98) hx hb dX5_serve_83 (by decide) (fun c_ => ?_) (fun c_ => absurd (by decide) c_)
          refine lv_aload hx hb dX5_serve_98 (lv_at hl 3 rfl) ?_
          refine lv_iload_n hx hb dX5_serve_100 rfl (lv_at hl 6 rfl) ?_
          refine lv_iload_n hx hb dX5_serve_101 rfl (lv_at hl 7 rfl) ?_
          refine t_callV (n := 2) (ci := 3) (As := [.int x1, .int x2]) (rest := []) hB hT hl.1 (s_beginKnown l D cI cZ cS cR N0 fr g_106 hI q_2 x1 x2 r_113) (ro_ci r_113 rfl) rfl k_529 k_60 k_526 k_527 k_528 (by decide +kernel) ⟨(Nat.le_of_ble_eq_true rfl), (Nat.le_of_ble_eq_true rfl)⟩ rfl (Nat.le_of_ble_eq_true rfl) ⟨(Nat.le_of_ble_eq_true rfl), (Nat.le_of_ble_eq_true rfl)⟩ dX5_serve_102 (fun v g_118 H locs hp hT => ?_)
          obtain ⟨rfl, hI, x_120, m_119⟩ := hp
          have r_121 : g_118.1 h = 6 := (Ex.r x_120 r_111 (by decide))
          have r_122 : g_118.1 v_1 = 41 := (Ex.r x_120 r_112 (by decide))
          have r_123 : g_118.1 q_2 = 4 := (Ex.r x_120 r_113 (by decide))
          have n_124 : g_118.2.2.1 v_1 = 6 := (Ex.n x_120 r_112 (by decide) n_114)
          have e_125 : g_118.2.1 h 0 = .ref v_1 := (Sm.v m_119 r_111 (by decide) rfl e_115)
          have hM : Sm md_s_serve5 g g_118 := hM.tr hE (m_119.mo (fun r k h => mdle_s_serve5_s_beginKnown h))
          have hE : Ex g g_118 := hE.tr x_120
          refine W.eq (g2 := F0 m 105 ls []) rfl ?_
          refine lv_aload_n hx hb dX5_serve_105 rfl (lv_at hl 4 rfl) ?_
          refine lv_iload_n hx hb dX5_serve_106 rfl (lv_at hl 5 rfl) ?_
          refine lv_iload_n hx hb dX5_serve_107 rfl (lv_at hl 6 rfl) ?_
          refine lv_iload_n hx hb dX5_serve_108 rfl (lv_at hl 7 rfl) ?_
          refine t_callV (n := 3) (ci := 5) (As := [.int n, .int x1, .int x2]) (rest := []) hB hT hl.1 (s_runActs5 l D cI cZ cS cR N0 fr g_118 hI h n x1 x2 r_121 (by omega) (by omega)) (ro_ci r_121 rfl) rfl k_534 k_59 k_531 k_533 k_13 (by decide +kernel) ⟨(Nat.le_of_ble_eq_true rfl), (Nat.le_of_ble_eq_true rfl)⟩ rfl (Nat.le_of_ble_eq_true rfl) ⟨(Nat.le_of_ble_eq_true rfl), (Nat.le_of_ble_eq_true rfl)⟩ dX5_serve_109 (fun v g_126 H locs hp hT => ?_)
          obtain ⟨r_127, rfl, hI, x_129, m_128⟩ := hp
          have r_130 : g_126.1 h = 6 := (Ex.r x_129 r_121 (by decide))
          have r_131 : g_126.1 v_1 = 41 := (Ex.r x_129 r_122 (by decide))
          have r_132 : g_126.1 q_2 = 4 := (Ex.r x_129 r_123 (by decide))
          have n_133 : g_126.2.2.1 v_1 = 6 := (Ex.n x_129 r_122 (by decide) n_124)
          have e_134 : g_126.2.1 h 0 = .ref v_1 := (Sm.v m_128 r_121 (by decide) rfl e_125)
          have hM : Sm md_s_serve5 g g_126 := hM.tr hE (m_128.mo (fun r k h => mdle_s_serve5_s_runActs5 h))
          have hE : Ex g g_126 := hE.tr x_129
          refine W.eq (g2 := F0 m 112 ls [.int r_127]) rfl ?_
          refine lv_istore (lv' := [(8, .int r_127), (7, .int (-1)), (6, .int 0), (5, .int 1), (4, .ref q_2), (0, .ref h), (1, .int n), (2, .int x1), (3, .int x2)]) hx hb dX5_serve_112 hl (by decide) rfl (fun ls hl => ?_)
          refine lv_aload_n hx hb dX5_serve_114 rfl (lv_at hl 5 rfl) ?_
          obtain ⟨v_135, e_v_135, l_v_135, u_v_135⟩ := hI.f r_130 7
          refine t_get (ci := 5) (v := .int v_135) hB hT (ro_ci r_130 rfl) rfl 7 (by decide) k_216 e_v_135 dX5_serve_115 ?_
          refine lv_if_eq (tgt := 124) hx hb dX5_serve_118 (by decide) (fun c_136 => ?_) (fun c_136 => ?_)
          · have c_136' : v_135.toInt = 0 := i_eq c_136 rfl (by decide)
            refine lv_iload hx hb dX5_serve_124 (lv_at hl 2 rfl) ?_
            refine lv_if_eq (tgt := 140) hx hb dX5_serve_126 (by decide) (fun c_ => ?_) (fun c_ => absurd (by decide) c_)
            refine lv_iload hx hb dX5_serve_140 (lv_at hl 3 rfl) ?_
            refine lv_if_eq (tgt := 158) hx hb dX5_serve_142 (by decide) (fun c_ => absurd c_ (by decide)) (fun c_ => ?_)
            refine lv_aload hx hb dX5_serve_145 (lv_at hl 4 rfl) ?_
            refine lv_iload_n hx hb dX5_serve_147 rfl (lv_at hl 8 rfl) ?_
            refine lv_iload_n hx hb dX5_serve_148 rfl (lv_at hl 7 rfl) ?_
            refine lv_iload hx hb dX5_serve_149 (lv_at hl 0 rfl) ?_
            refine lv_aload_n hx hb dX5_serve_151 rfl (lv_at hl 5 rfl) ?_
            obtain ⟨v_137, e_v_137⟩ := hI.f r_130 2
            refine t_get (ci := 5) (v := .int v_137) hB hT (ro_ci r_130 rfl) rfl 2 (by decide) k_205 e_v_137 dX5_serve_152 ?_
            refine t_callV (n := 4) (ci := 3) (As := [.int x2, .int x1, .int r_127, .int v_137]) (rest := []) hB hT hl.1 (s_keep l D cI cZ cS cR N0 fr g_126 hI q_2 x2 x1 r_127 v_137 r_132) (ro_ci r_132 rfl) rfl k_524 k_60 k_521 k_522 k_523 (by decide +kernel) ⟨(Nat.le_of_ble_eq_true rfl), (Nat.le_of_ble_eq_true rfl)⟩ rfl (Nat.le_of_ble_eq_true rfl) ⟨(Nat.le_of_ble_eq_true rfl), (Nat.le_of_ble_eq_true rfl)⟩ dX5_serve_155 (fun v g_138 H locs hp hT => ?_)
            obtain ⟨rfl, hI, x_140, m_139⟩ := hp
            have r_141 : g_138.1 h = 6 := (Ex.r x_140 r_130 (by decide))
            have r_142 : g_138.1 v_1 = 41 := (Ex.r x_140 r_131 (by decide))
            have r_143 : g_138.1 q_2 = 4 := (Ex.r x_140 r_132 (by decide))
            have n_144 : g_138.2.2.1 v_1 = 6 := (Ex.n x_140 r_131 (by decide) n_133)
            have e_145 : g_138.2.1 h 0 = .ref v_1 := (Sm.v m_139 r_130 (by decide) rfl e_134)
            have e_146 : g_138.2.1 h 7 = .int v_135 := (Sm.v m_139 r_130 (by decide) rfl e_v_135)
            have e_147 : g_138.2.1 h 2 = .int v_137 := (Sm.v m_139 r_130 (by decide) rfl e_v_137)
            have hM : Sm md_s_serve5 g g_138 := hM.tr hE (m_139.mo (fun r k h => mdle_s_serve5_s_keep h))
            have hE : Ex g g_138 := hE.tr x_140
            refine W.eq (g2 := F0 m 158 ls []) rfl ?_
            refine lv_iload hx hb dX5_serve_158 (lv_at hl 0 rfl) ?_
            exact t_iret hB hr hT (Nat.le_of_ble_eq_true rfl) (Nat.le_of_ble_eq_true rfl) dX5_serve_160 ⟨r_127, rfl, hI, hE, hM⟩
          · have c_136' : v_135.toInt ≠ 0 := i_ne c_136 rfl (by decide)
            refine lv_bipush (v := (-2)) hx hb dX5_serve_121 (by decide) ?_
            exact t_iret hB hr hT (Nat.le_of_ble_eq_true rfl) (Nat.le_of_ble_eq_true rfl) dX5_serve_123 ⟨(-2), rfl, hI, hE, hM⟩
        · refine W.eq (g2 := F0 m 60 ls [.int r_107]) rfl ?_
          refine lv_goto (tgt := 64) hx hb dX5_serve_60 (by decide) ?_
          refine lv_istore (lv' := [(7, .int r_107), (6, .int 0), (5, .int 1), (4, .ref q_2), (0, .ref h), (1, .int n), (2, .int x1), (3, .int x2)]) hx hb dX5_serve_64 hl (by decide) rfl (fun ls hl => ?_)
          refine lv_iload hx hb dX5_serve_66 (lv_at hl 0 rfl) ?_
          refine lv_iconst (v := (-1)) hx hb dX5_serve_68 (by decide) ?_
          refine lv_icmp_eq (tgt := 81) hx hb dX5_serve_69 (by decide) (fun c_148 => ?_) (fun c_148 => ?_)
          · have c_148' : r_107.toInt = (-1) := i_eq c_148 rfl (by decide)
            exact absurd c_148' (by omega)
          · have c_148' : r_107.toInt ≠ (-1) := i_ne c_148 rfl (by decide)
            refine lv_aload hx hb dX5_serve_72 (lv_at hl 3 rfl) ?_
            refine lv_iload hx hb dX5_serve_74 (lv_at hl 0 rfl) ?_
            refine lv_iload_n hx hb dX5_serve_76 rfl (lv_at hl 6 rfl) ?_
            refine t_callV (n := 2) (ci := 3) (As := [.int r_107, .int x1]) (rest := []) hB hT hl.1 (s_keptAnswer l D cI cZ cS cR N0 fr g_106 hI q_2 r_107 x1 r_113 (by omega) (by omega)) (ro_ci r_113 rfl) rfl k_520 k_60 k_517 k_518 k_519 (by decide +kernel) ⟨(Nat.le_of_ble_eq_true rfl), (Nat.le_of_ble_eq_true rfl)⟩ rfl (Nat.le_of_ble_eq_true rfl) ⟨(Nat.le_of_ble_eq_true rfl), (Nat.le_of_ble_eq_true rfl)⟩ dX5_serve_77 (fun v g_149 H locs hp hT => ?_)
            obtain ⟨r_150, rfl, hI, x_152, m_151⟩ := hp
            have r_153 : g_149.1 h = 6 := (Ex.r x_152 r_111 (by decide))
            have r_154 : g_149.1 v_1 = 41 := (Ex.r x_152 r_112 (by decide))
            have r_155 : g_149.1 q_2 = 4 := (Ex.r x_152 r_113 (by decide))
            have n_156 : g_149.2.2.1 v_1 = 6 := (Ex.n x_152 r_112 (by decide) n_114)
            have e_157 : g_149.2.1 h 0 = .ref v_1 := (Sm.v m_151 r_111 (by decide) rfl e_115)
            have hM : Sm md_s_serve5 g g_149 := hM.tr hE (m_151.mo (fun r k h => mdle_s_serve5_s_keptAnswer h))
            have hE : Ex g g_149 := hE.tr x_152
            refine W.eq (g2 := F0 m 80 ls [.int r_150]) rfl ?_
            exact t_iret hB hr hT (Nat.le_of_ble_eq_true rfl) (Nat.le_of_ble_eq_true rfl) dX5_serve_80 ⟨r_150, rfl, hI, hE, hM⟩
    · refine W.eq (g2 := F0 m 18 ls [.int 0]) rfl ?_
      refine lv_if_eq (tgt := 25) hx hb dX5_serve_18 (by decide) (fun c_ => ?_) (fun c_ => absurd (by decide) c_)
      refine lv_iconst (v := 0) hx hb dX5_serve_25 (by decide) ?_
      refine lv_istore (lv' := [(5, .int 0), (4, .ref q_2), (0, .ref h), (1, .int n), (2, .int x1), (3, .int x2)]) hx hb dX5_serve_26 hl (by decide) rfl (fun ls hl => ?_)
      refine lv_iload hx hb dX5_serve_28 (lv_at hl 0 rfl) ?_
      refine lv_if_eq (tgt := 46) hx hb dX5_serve_30 (by decide) (fun c_ => ?_) (fun c_ => absurd (by decide) c_)
      refine lv_iconst (v := 0) hx hb dX5_serve_46 (by decide) ?_
      refine lv_istore (lv' := [(6, .int 0), (5, .int 0), (4, .ref q_2), (0, .ref h), (1, .int n), (2, .int x1), (3, .int x2)]) hx hb dX5_serve_47 hl (by decide) rfl (fun ls hl => ?_)
      refine lv_iload hx hb dX5_serve_49 (lv_at hl 1 rfl) ?_
      refine lv_if_eq (tgt := 63) hx hb dX5_serve_51 (by decide) (fun c_ => ?_) (fun c_ => absurd (by decide) c_)
      refine lv_iconst (v := (-1)) hx hb dX5_serve_63 (by decide) ?_
      refine lv_istore (lv' := [(7, .int (-1)), (6, .int 0), (5, .int 0), (4, .ref q_2), (0, .ref h), (1, .int n), (2, .int x1), (3, .int x2)]) hx hb dX5_serve_64 hl (by decide) rfl (fun ls hl => ?_)
      refine lv_iload hx hb dX5_serve_66 (lv_at hl 0 rfl) ?_
      refine lv_iconst (v := (-1)) hx hb dX5_serve_68 (by decide) ?_
      refine lv_icmp_eq (tgt := 81) hx hb dX5_serve_69 (by decide) (fun c_ => ?_) (fun c_ => absurd (by decide) c_)
      refine lv_iload hx hb dX5_serve_81 (lv_at hl 1 rfl) ?_
      refine lv_if_eq (tgt := 98) hx hb dX5_serve_83 (by decide) (fun c_ => ?_) (fun c_ => absurd (by decide) c_)
      refine lv_aload hx hb dX5_serve_98 (lv_at hl 3 rfl) ?_
      refine lv_iload_n hx hb dX5_serve_100 rfl (lv_at hl 6 rfl) ?_
      refine lv_iload_n hx hb dX5_serve_101 rfl (lv_at hl 7 rfl) ?_
      refine t_callV (n := 2) (ci := 3) (As := [.int x1, .int x2]) (rest := []) hB hT hl.1 (s_beginKnown l D cI cZ cS cR N0 fr g_23 hI q_2 x1 x2 r_30) (ro_ci r_30 rfl) rfl k_529 k_60 k_526 k_527 k_528 (by decide +kernel) ⟨(Nat.le_of_ble_eq_true rfl), (Nat.le_of_ble_eq_true rfl)⟩ rfl (Nat.le_of_ble_eq_true rfl) ⟨(Nat.le_of_ble_eq_true rfl), (Nat.le_of_ble_eq_true rfl)⟩ dX5_serve_102 (fun v g_158 H locs hp hT => ?_)
      obtain ⟨rfl, hI, x_160, m_159⟩ := hp
      have r_161 : g_158.1 h = 6 := (Ex.r x_160 r_28 (by decide))
      have r_162 : g_158.1 v_1 = 41 := (Ex.r x_160 r_29 (by decide))
      have r_163 : g_158.1 q_2 = 4 := (Ex.r x_160 r_30 (by decide))
      have n_164 : g_158.2.2.1 v_1 = 6 := (Ex.n x_160 r_29 (by decide) n_31)
      have e_165 : g_158.2.1 h 0 = .ref v_1 := (Sm.v m_159 r_28 (by decide) rfl e_32)
      have hM : Sm md_s_serve5 g g_158 := hM.tr hE (m_159.mo (fun r k h => mdle_s_serve5_s_beginKnown h))
      have hE : Ex g g_158 := hE.tr x_160
      refine W.eq (g2 := F0 m 105 ls []) rfl ?_
      refine lv_aload_n hx hb dX5_serve_105 rfl (lv_at hl 4 rfl) ?_
      refine lv_iload_n hx hb dX5_serve_106 rfl (lv_at hl 5 rfl) ?_
      refine lv_iload_n hx hb dX5_serve_107 rfl (lv_at hl 6 rfl) ?_
      refine lv_iload_n hx hb dX5_serve_108 rfl (lv_at hl 7 rfl) ?_
      refine t_callV (n := 3) (ci := 5) (As := [.int n, .int x1, .int x2]) (rest := []) hB hT hl.1 (s_runActs5 l D cI cZ cS cR N0 fr g_158 hI h n x1 x2 r_161 (by omega) (by omega)) (ro_ci r_161 rfl) rfl k_534 k_59 k_531 k_533 k_13 (by decide +kernel) ⟨(Nat.le_of_ble_eq_true rfl), (Nat.le_of_ble_eq_true rfl)⟩ rfl (Nat.le_of_ble_eq_true rfl) ⟨(Nat.le_of_ble_eq_true rfl), (Nat.le_of_ble_eq_true rfl)⟩ dX5_serve_109 (fun v g_166 H locs hp hT => ?_)
      obtain ⟨r_167, rfl, hI, x_169, m_168⟩ := hp
      have r_170 : g_166.1 h = 6 := (Ex.r x_169 r_161 (by decide))
      have r_171 : g_166.1 v_1 = 41 := (Ex.r x_169 r_162 (by decide))
      have r_172 : g_166.1 q_2 = 4 := (Ex.r x_169 r_163 (by decide))
      have n_173 : g_166.2.2.1 v_1 = 6 := (Ex.n x_169 r_162 (by decide) n_164)
      have e_174 : g_166.2.1 h 0 = .ref v_1 := (Sm.v m_168 r_161 (by decide) rfl e_165)
      have hM : Sm md_s_serve5 g g_166 := hM.tr hE (m_168.mo (fun r k h => mdle_s_serve5_s_runActs5 h))
      have hE : Ex g g_166 := hE.tr x_169
      refine W.eq (g2 := F0 m 112 ls [.int r_167]) rfl ?_
      refine lv_istore (lv' := [(8, .int r_167), (7, .int (-1)), (6, .int 0), (5, .int 0), (4, .ref q_2), (0, .ref h), (1, .int n), (2, .int x1), (3, .int x2)]) hx hb dX5_serve_112 hl (by decide) rfl (fun ls hl => ?_)
      refine lv_aload_n hx hb dX5_serve_114 rfl (lv_at hl 5 rfl) ?_
      obtain ⟨v_175, e_v_175, l_v_175, u_v_175⟩ := hI.f r_170 7
      refine t_get (ci := 5) (v := .int v_175) hB hT (ro_ci r_170 rfl) rfl 7 (by decide) k_216 e_v_175 dX5_serve_115 ?_
      refine lv_if_eq (tgt := 124) hx hb dX5_serve_118 (by decide) (fun c_176 => ?_) (fun c_176 => ?_)
      · have c_176' : v_175.toInt = 0 := i_eq c_176 rfl (by decide)
        refine lv_iload hx hb dX5_serve_124 (lv_at hl 2 rfl) ?_
        refine lv_if_eq (tgt := 140) hx hb dX5_serve_126 (by decide) (fun c_ => ?_) (fun c_ => absurd (by decide) c_)
        refine lv_iload hx hb dX5_serve_140 (lv_at hl 3 rfl) ?_
        refine lv_if_eq (tgt := 158) hx hb dX5_serve_142 (by decide) (fun c_ => ?_) (fun c_ => absurd (by decide) c_)
        refine lv_iload hx hb dX5_serve_158 (lv_at hl 0 rfl) ?_
        exact t_iret hB hr hT (Nat.le_of_ble_eq_true rfl) (Nat.le_of_ble_eq_true rfl) dX5_serve_160 ⟨r_167, rfl, hI, hE, hM⟩
      · have c_176' : v_175.toInt ≠ 0 := i_ne c_176 rfl (by decide)
        refine lv_bipush (v := (-2)) hx hb dX5_serve_121 (by decide) ?_
        exact t_iret hB hr hT (Nat.le_of_ble_eq_true rfl) (Nat.le_of_ble_eq_true rfl) dX5_serve_123 ⟨(-2), rfl, hI, hE, hM⟩
