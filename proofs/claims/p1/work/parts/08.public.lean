theorem k_19 : Cond.selects RX6 yX6_cheapestAdditions yX6_cheapestAdditions ∈ tb := mt 19 (by decide +kernel) rfl
theorem k_20 : Cond.selects RX6 yX6_priceOf yX6_priceOf ∈ tb := mt 20 (by decide +kernel) rfl
theorem k_57 : Cond.initialized RX6 ∈ tb := mt 57 (by decide +kernel) rfl
theorem k_71 : Cond.initialized RJ6 ∈ tb := mt 71 (by decide +kernel) rfl
theorem k_88 : Cond.fieldLink RX6 50 "TwiceOnce$Tape" "size" "I" ∈ tb := mt 88 (by decide +kernel) rfl
theorem k_203 : Cond.fieldLink RX6 58 "TwiceOnce$World" "size" "I" ∈ tb := mt 203 (by decide +kernel) rfl
theorem k_206 : Cond.fieldLink RX6 99 "TwiceOnce$World" "ticks" "I" ∈ tb := mt 206 (by decide +kernel) rfl
theorem k_211 : Cond.fieldLink RX6 126 "TwiceOnce$World" "doneInAll" "I" ∈ tb := mt 211 (by decide +kernel) rfl
theorem k_256 : Cond.fieldLink RX6 138 "TwiceOnce$CallList" "size" "I" ∈ tb := mt 256 (by decide +kernel) rfl
theorem k_277 : Cond.fieldLink RX6 163 "TwiceOnce$Judge" "start" "LTwiceOnce$World;" ∈ tb := mt 277 (by decide +kernel) rfl
theorem k_414 : Cond.static yX6_within ∈ tb := mt 414 (by decide +kernel) rfl
set_option maxRecDepth 20000 in
theorem k_415 : Cond.code yX6_within cX6_within 2 (some .boolean) ∈ tb := mt 415 rfl rfl
theorem k_433 : Cond.methodLink RX6 76 yX5_has ∈ tb := mt 433 (by decide +kernel) rfl
theorem k_434 : Cond.instanceMethod yX5_has ∈ tb := mt 434 (by decide +kernel) rfl
theorem k_435 : Cond.selects RX5 yX5_has yX5_has ∈ tb := mt 435 (by decide +kernel) rfl
set_option maxRecDepth 20000 in
theorem k_436 : Cond.code yX5_has cX5_has 2 (some .boolean) ∈ tb := mt 436 rfl rfl
theorem k_441 : Cond.methodLink RX6 83 yX6_within ∈ tb := mt 441 (by decide +kernel) rfl
theorem k_559 : Cond.methodLink RX6 129 Lib.Math.min.name ∈ tb := mt 559 (by decide +kernel) rfl
theorem k_560 : Cond.static Lib.Math.min.name ∈ tb := mt 560 (by decide +kernel) rfl
set_option maxRecDepth 20000 in
theorem k_561 : Cond.code Lib.Math.min.name Lib.Math.min.code 2 (some .int) ∈ tb := mt 561 rfl rfl
theorem k_578 : Cond.methodLink RX6 139 yX1_beginAt ∈ tb := mt 578 (by decide +kernel) rfl
theorem k_579 : Cond.instanceMethod yX1_beginAt ∈ tb := mt 579 (by decide +kernel) rfl
theorem k_580 : Cond.selects RX1 yX1_beginAt yX1_beginAt ∈ tb := mt 580 (by decide +kernel) rfl
set_option maxRecDepth 20000 in
theorem k_581 : Cond.code yX1_beginAt cX1_beginAt 2 none ∈ tb := mt 581 rfl rfl
theorem k_623 : Cond.methodLink RX6 155 yX1_firstUnsafe ∈ tb := mt 623 (by decide +kernel) rfl
theorem k_624 : Cond.instanceMethod yX1_firstUnsafe ∈ tb := mt 624 (by decide +kernel) rfl
theorem k_625 : Cond.selects RX1 yX1_firstUnsafe yX1_firstUnsafe ∈ tb := mt 625 (by decide +kernel) rfl
set_option maxRecDepth 20000 in
theorem k_626 : Cond.code yX1_firstUnsafe cX1_firstUnsafe 7 (some .int) ∈ tb := mt 626 rfl rfl
theorem k_669 : Cond.methodLink RX6 166 yX5_holdAll ∈ tb := mt 669 (by decide +kernel) rfl
theorem k_670 : Cond.instanceMethod yX5_holdAll ∈ tb := mt 670 (by decide +kernel) rfl
theorem k_671 : Cond.selects RX5 yX5_holdAll yX5_holdAll ∈ tb := mt 671 (by decide +kernel) rfl
set_option maxRecDepth 20000 in
theorem k_672 : Cond.code yX5_holdAll cX5_holdAll 3 none ∈ tb := mt 672 rfl rfl
theorem k_681 : Cond.methodLink RX6 169 yX5_reachOf ∈ tb := mt 681 (by decide +kernel) rfl
theorem k_682 : Cond.instanceMethod yX5_reachOf ∈ tb := mt 682 (by decide +kernel) rfl
theorem k_683 : Cond.selects RX5 yX5_reachOf yX5_reachOf ∈ tb := mt 683 (by decide +kernel) rfl
set_option maxRecDepth 20000 in
theorem k_684 : Cond.code yX5_reachOf cX5_reachOf 4 (some .int) ∈ tb := mt 684 rfl rfl
theorem k_685 : Cond.methodLink RX6 173 yJ6_bitCount_0f7a4 ∈ tb := mt 685 (by decide +kernel) rfl
theorem k_686 : Cond.static yJ6_bitCount_0f7a4 ∈ tb := mt 686 (by decide +kernel) rfl
set_option maxRecDepth 20000 in
theorem k_687 : Cond.code yJ6_bitCount_0f7a4 cJ6_bitCount_0f7a4 1 (some .int) ∈ tb := mt 687 rfl rfl
theorem k_691 : Cond.methodLink RX6 178 yX6_cheapestAdditions ∈ tb := mt 691 (by decide +kernel) rfl
theorem k_693 : Cond.instanceMethod yX6_cheapestAdditions ∈ tb := mt 693 (by decide +kernel) rfl
set_option maxRecDepth 20000 in
theorem k_694 : Cond.code yX6_cheapestAdditions cX6_cheapestAdditions 10 (some .int) ∈ tb := mt 694 rfl rfl
theorem k_695 : Cond.methodLink RX6 184 yJ6_numberOfTrailingZeros_0f7a4 ∈ tb := mt 695 (by decide +kernel) rfl
theorem k_696 : Cond.static yJ6_numberOfTrailingZeros_0f7a4 ∈ tb := mt 696 (by decide +kernel) rfl
set_option maxRecDepth 20000 in
theorem k_697 : Cond.code yJ6_numberOfTrailingZeros_0f7a4 cJ6_numberOfTrailingZeros_0f7a4 2 (some .int) ∈ tb := mt 697 rfl rfl
theorem k_699 : Cond.methodLink RX6 187 yJ6_numberOfLeadingZeros_0f7a4 ∈ tb := mt 699 (by decide +kernel) rfl
theorem k_700 : Cond.static yJ6_numberOfLeadingZeros_0f7a4 ∈ tb := mt 700 (by decide +kernel) rfl
set_option maxRecDepth 20000 in
theorem k_701 : Cond.code yJ6_numberOfLeadingZeros_0f7a4 cJ6_numberOfLeadingZeros_0f7a4 2 (some .int) ∈ tb := mt 701 rfl rfl
theorem k_702 : Cond.methodLink RX6 190 Lib.Math.max.name ∈ tb := mt 702 (by decide +kernel) rfl
theorem k_703 : Cond.methodLink RX6 181 yX6_priceOf ∈ tb := mt 703 (by decide +kernel) rfl
theorem k_705 : Cond.instanceMethod yX6_priceOf ∈ tb := mt 705 (by decide +kernel) rfl
set_option maxRecDepth 20000 in
theorem k_706 : Cond.code yX6_priceOf cX6_priceOf 4 (some .int) ∈ tb := mt 706 rfl rfl
theorem k_707 : Cond.methodLink RX6 193 yX5_addMends ∈ tb := mt 707 (by decide +kernel) rfl
theorem k_708 : Cond.instanceMethod yX5_addMends ∈ tb := mt 708 (by decide +kernel) rfl
theorem k_709 : Cond.selects RX5 yX5_addMends yX5_addMends ∈ tb := mt 709 (by decide +kernel) rfl
set_option maxRecDepth 20000 in
theorem k_710 : Cond.code yX5_addMends cX5_addMends 3 none ∈ tb := mt 710 rfl rfl
theorem k_715 : Cond.methodLink RX6 196 yX1_isStill ∈ tb := mt 715 (by decide +kernel) rfl
theorem k_716 : Cond.instanceMethod yX1_isStill ∈ tb := mt 716 (by decide +kernel) rfl
theorem k_717 : Cond.selects RX1 yX1_isStill yX1_isStill ∈ tb := mt 717 (by decide +kernel) rfl
set_option maxRecDepth 20000 in
theorem k_718 : Cond.code yX1_isStill cX1_isStill 3 (some .boolean) ∈ tb := mt 718 rfl rfl
theorem k_727 : Cond.methodLink RX6 208 yX5_makeFresh ∈ tb := mt 727 (by decide +kernel) rfl
theorem k_728 : Cond.instanceMethod yX5_makeFresh ∈ tb := mt 728 (by decide +kernel) rfl
theorem k_729 : Cond.selects RX5 yX5_makeFresh yX5_makeFresh ∈ tb := mt 729 (by decide +kernel) rfl
set_option maxRecDepth 20000 in
theorem k_730 : Cond.code yX5_makeFresh cX5_makeFresh 2 none ∈ tb := mt 730 rfl rfl
theorem dX6_change_0 : decode cX6_change 0 = .ok (.aload_n 0, 1) := by decide +kernel
theorem dX6_change_1 : decode cX6_change 1 = .ok (.getfield 19, 3) := by decide +kernel
theorem dX6_change_4 : decode cX6_change 4 = .ok (.iload_n 1, 1) := by decide +kernel
theorem dX6_change_5 : decode cX6_change 5 = .ok (.invokevirtual 76, 3) := by decide +kernel
theorem dX6_change_8 : decode cX6_change 8 = .ok (.ifCond .ne 5, 3) := by decide +kernel
theorem dX6_change_11 : decode cX6_change 11 = .ok (.iconst (-1), 1) := by decide +kernel
theorem dX6_change_12 : decode cX6_change 12 = .ok (.ireturn, 1) := by decide +kernel
theorem dX6_mend_0 : decode cX6_mend 0 = .ok (.aload_n 0, 1) := by decide +kernel
theorem dX6_mend_1 : decode cX6_mend 1 = .ok (.getfield 19, 3) := by decide +kernel
theorem dX6_mend_4 : decode cX6_mend 4 = .ok (.iload_n 1, 1) := by decide +kernel
theorem dX6_mend_5 : decode cX6_mend 5 = .ok (.invokevirtual 76, 3) := by decide +kernel
theorem dX6_mend_8 : decode cX6_mend 8 = .ok (.ifCond .eq 11, 3) := by decide +kernel
theorem dX6_mend_19 : decode cX6_mend 19 = .ok (.iconst (-1), 1) := by decide +kernel
theorem dX6_mend_20 : decode cX6_mend 20 = .ok (.ireturn, 1) := by decide +kernel
theorem dX6_hold_0 : decode cX6_hold 0 = .ok (.aload_n 0, 1) := by decide +kernel
theorem dX6_hold_1 : decode cX6_hold 1 = .ok (.getfield 19, 3) := by decide +kernel
theorem dX6_hold_4 : decode cX6_hold 4 = .ok (.iload_n 1, 1) := by decide +kernel
theorem dX6_hold_5 : decode cX6_hold 5 = .ok (.invokevirtual 76, 3) := by decide +kernel
theorem dX6_hold_8 : decode cX6_hold 8 = .ok (.ifCond .ne 5, 3) := by decide +kernel
theorem dX6_hold_11 : decode cX6_hold 11 = .ok (.iconst (-1), 1) := by decide +kernel
theorem dX6_hold_12 : decode cX6_hold 12 = .ok (.ireturn, 1) := by decide +kernel
theorem dX6_set_0 : decode cX6_set 0 = .ok (.aload_n 0, 1) := by decide +kernel
theorem dX6_set_1 : decode cX6_set 1 = .ok (.getfield 19, 3) := by decide +kernel
theorem dX6_set_4 : decode cX6_set 4 = .ok (.iload_n 1, 1) := by decide +kernel
theorem dX6_set_5 : decode cX6_set 5 = .ok (.invokevirtual 76, 3) := by decide +kernel
theorem dX6_set_8 : decode cX6_set 8 = .ok (.ifCond .eq 11, 3) := by decide +kernel
theorem dX6_set_19 : decode cX6_set 19 = .ok (.iconst (-1), 1) := by decide +kernel
theorem dX6_set_20 : decode cX6_set 20 = .ok (.ireturn, 1) := by decide +kernel
theorem dX6_about_0 : decode cX6_about 0 = .ok (.aload_n 0, 1) := by decide +kernel
theorem dX6_about_1 : decode cX6_about 1 = .ok (.getfield 19, 3) := by decide +kernel
theorem dX6_about_4 : decode cX6_about 4 = .ok (.iload_n 1, 1) := by decide +kernel
theorem dX6_about_5 : decode cX6_about 5 = .ok (.invokevirtual 76, 3) := by decide +kernel
theorem dX6_about_8 : decode cX6_about 8 = .ok (.ifCond .eq 12, 3) := by decide +kernel
theorem dX6_about_20 : decode cX6_about 20 = .ok (.iconst (-1), 1) := by decide +kernel
theorem dX6_about_21 : decode cX6_about 21 = .ok (.ireturn, 1) := by decide +kernel
theorem dX6_act_0 : decode cX6_act 0 = .ok (.aload_n 0, 1) := by decide +kernel
theorem dX6_act_1 : decode cX6_act 1 = .ok (.getfield 19, 3) := by decide +kernel
theorem dX6_act_4 : decode cX6_act 4 = .ok (.iload_n 1, 1) := by decide +kernel
theorem dX6_act_5 : decode cX6_act 5 = .ok (.invokevirtual 76, 3) := by decide +kernel
theorem dX6_act_8 : decode cX6_act 8 = .ok (.ifCond .ne 5, 3) := by decide +kernel
theorem dX6_act_11 : decode cX6_act 11 = .ok (.iconst (-1), 1) := by decide +kernel
theorem dX6_act_12 : decode cX6_act 12 = .ok (.ireturn, 1) := by decide +kernel
theorem dX6_call_0 : decode cX6_call 0 = .ok (.aload_n 0, 1) := by decide +kernel
theorem dX6_call_1 : decode cX6_call 1 = .ok (.getfield 19, 3) := by decide +kernel
theorem dX6_call_4 : decode cX6_call 4 = .ok (.iload_n 1, 1) := by decide +kernel
theorem dX6_call_5 : decode cX6_call 5 = .ok (.invokevirtual 76, 3) := by decide +kernel
theorem dX6_call_8 : decode cX6_call 8 = .ok (.ifCond .ne 6, 3) := by decide +kernel
theorem dX6_call_11 : decode cX6_call 11 = .ok (.bipush (-3), 2) := by decide +kernel
theorem dX6_call_13 : decode cX6_call 13 = .ok (.ireturn, 1) := by decide +kernel
theorem dX6_row_0 : decode cX6_row 0 = .ok (.aload_n 0, 1) := by decide +kernel
theorem dX6_row_1 : decode cX6_row 1 = .ok (.getfield 19, 3) := by decide +kernel
theorem dX6_row_4 : decode cX6_row 4 = .ok (.iload_n 1, 1) := by decide +kernel
theorem dX6_row_5 : decode cX6_row 5 = .ok (.invokevirtual 76, 3) := by decide +kernel
theorem dX6_row_8 : decode cX6_row 8 = .ok (.ifCond .ne 5, 3) := by decide +kernel
theorem dX6_row_11 : decode cX6_row 11 = .ok (.iconst (-1), 1) := by decide +kernel
theorem dX6_row_12 : decode cX6_row 12 = .ok (.ireturn, 1) := by decide +kernel
theorem dX6_outside_0 : decode cX6_outside 0 = .ok (.iload_n 1, 1) := by decide +kernel
theorem dX6_outside_1 : decode cX6_outside 1 = .ok (.aload_n 0, 1) := by decide +kernel
theorem dX6_outside_2 : decode cX6_outside 2 = .ok (.getfield 19, 3) := by decide +kernel
theorem dX6_outside_5 : decode cX6_outside 5 = .ok (.getfield 126, 3) := by decide +kernel
theorem dX6_outside_8 : decode cX6_outside 8 = .ok (.bipush 40, 2) := by decide +kernel
theorem dX6_outside_10 : decode cX6_outside 10 = .ok (.invokestatic 129, 3) := by decide +kernel
theorem dX6_outside_13 : decode cX6_outside 13 = .ok (.iconst 1, 1) := by decide +kernel
theorem dX6_outside_14 : decode cX6_outside 14 = .ok (.isub, 1) := by decide +kernel
theorem dX6_outside_15 : decode cX6_outside 15 = .ok (.invokestatic 83, 3) := by decide +kernel
theorem dX6_outside_18 : decode cX6_outside 18 = .ok (.ifCond .ne 5, 3) := by decide +kernel
theorem dX6_outside_21 : decode cX6_outside 21 = .ok (.iconst (-1), 1) := by decide +kernel
theorem dX6_outside_22 : decode cX6_outside 22 = .ok (.ireturn, 1) := by decide +kernel
theorem dX6_clear_0 : decode cX6_clear 0 = .ok (.aload_n 0, 1) := by decide +kernel
theorem dX6_clear_1 : decode cX6_clear 1 = .ok (.getfield 28, 3) := by decide +kernel
theorem dX6_clear_4 : decode cX6_clear 4 = .ok (.getfield 138, 3) := by decide +kernel
theorem dX6_clear_7 : decode cX6_clear 7 = .ok (.istore_n 1, 1) := by decide +kernel
theorem dX6_clear_8 : decode cX6_clear 8 = .ok (.aload_n 0, 1) := by decide +kernel
theorem dX6_clear_9 : decode cX6_clear 9 = .ok (.getfield 28, 3) := by decide +kernel
theorem dX6_clear_12 : decode cX6_clear 12 = .ok (.iconst 0, 1) := by decide +kernel
theorem dX6_clear_13 : decode cX6_clear 13 = .ok (.putfield 138, 3) := by decide +kernel
theorem dX6_clear_16 : decode cX6_clear 16 = .ok (.iload_n 1, 1) := by decide +kernel
theorem dX6_clear_17 : decode cX6_clear 17 = .ok (.ireturn, 1) := by decide +kernel
theorem dX6_free_0 : decode cX6_free 0 = .ok (.iload_n 1, 1) := by decide +kernel
theorem dX6_free_1 : decode cX6_free 1 = .ok (.iconst 1, 1) := by decide +kernel
theorem dX6_free_2 : decode cX6_free 2 = .ok (.invokestatic 83, 3) := by decide +kernel
theorem dX6_free_5 : decode cX6_free 5 = .ok (.ifCond .ne 6, 3) := by decide +kernel
theorem dX6_free_11 : decode cX6_free 11 = .ok (.aload_n 0, 1) := by decide +kernel
theorem dX6_free_12 : decode cX6_free 12 = .ok (.getfield 46, 3) := by decide +kernel
theorem dX6_free_15 : decode cX6_free 15 = .ok (.ifCond .eq 7, 3) := by decide +kernel
theorem dX6_free_22 : decode cX6_free 22 = .ok (.iconst 0, 1) := by decide +kernel
theorem dX6_free_23 : decode cX6_free 23 = .ok (.istore_n 2, 1) := by decide +kernel
theorem dX6_free_24 : decode cX6_free 24 = .ok (.aload_n 0, 1) := by decide +kernel
theorem dX6_free_25 : decode cX6_free 25 = .ok (.iload_n 1, 1) := by decide +kernel
theorem dX6_free_26 : decode cX6_free 26 = .ok (.iconst 1, 1) := by decide +kernel
theorem dX6_free_27 : decode cX6_free 27 = .ok (.if_icmp .ne 7, 3) := by decide +kernel
theorem dX6_free_34 : decode cX6_free 34 = .ok (.iconst 0, 1) := by decide +kernel
theorem dX6_free_35 : decode cX6_free 35 = .ok (.putfield 46, 3) := by decide +kernel
theorem dX6_free_38 : decode cX6_free 38 = .ok (.iload_n 2, 1) := by decide +kernel
theorem dX6_free_39 : decode cX6_free 39 = .ok (.ireturn, 1) := by decide +kernel
theorem dX6_free_30 : decode cX6_free 30 = .ok (.iconst 1, 1) := by decide +kernel
theorem dX6_free_31 : decode cX6_free 31 = .ok (.goto 4, 3) := by decide +kernel
theorem dX6_free_8 : decode cX6_free 8 = .ok (.bipush (-2), 2) := by decide +kernel
theorem dX6_free_10 : decode cX6_free 10 = .ok (.ireturn, 1) := by decide +kernel
theorem dX6_safe_0 : decode cX6_safe 0 = .ok (.iload_n 1, 1) := by decide +kernel
theorem dX6_safe_1 : decode cX6_safe 1 = .ok (.aload_n 0, 1) := by decide +kernel
theorem dX6_safe_2 : decode cX6_safe 2 = .ok (.getfield 28, 3) := by decide +kernel
theorem dX6_safe_5 : decode cX6_safe 5 = .ok (.getfield 138, 3) := by decide +kernel
theorem dX6_safe_8 : decode cX6_safe 8 = .ok (.iconst 1, 1) := by decide +kernel
theorem dX6_safe_9 : decode cX6_safe 9 = .ok (.isub, 1) := by decide +kernel
theorem dX6_safe_10 : decode cX6_safe 10 = .ok (.invokestatic 83, 3) := by decide +kernel
theorem dX6_safe_13 : decode cX6_safe 13 = .ok (.ifCond .ne 5, 3) := by decide +kernel
theorem dX6_safe_16 : decode cX6_safe 16 = .ok (.iconst (-1), 1) := by decide +kernel
theorem dX6_safe_17 : decode cX6_safe 17 = .ok (.ireturn, 1) := by decide +kernel
theorem dX6_orders_0 : decode cX6_orders 0 = .ok (.iload_n 1, 1) := by decide +kernel
theorem dX6_orders_1 : decode cX6_orders 1 = .ok (.aload_n 0, 1) := by decide +kernel
theorem dX6_orders_2 : decode cX6_orders 2 = .ok (.getfield 28, 3) := by decide +kernel
theorem dX6_orders_5 : decode cX6_orders 5 = .ok (.getfield 138, 3) := by decide +kernel
theorem dX6_orders_8 : decode cX6_orders 8 = .ok (.iconst 1, 1) := by decide +kernel
theorem dX6_orders_9 : decode cX6_orders 9 = .ok (.isub, 1) := by decide +kernel
theorem dX6_orders_10 : decode cX6_orders 10 = .ok (.invokestatic 83, 3) := by decide +kernel
theorem dX6_orders_13 : decode cX6_orders 13 = .ok (.ifCond .eq 11, 3) := by decide +kernel
theorem dX6_orders_24 : decode cX6_orders 24 = .ok (.iconst (-1), 1) := by decide +kernel
theorem dX6_orders_25 : decode cX6_orders 25 = .ok (.ireturn, 1) := by decide +kernel
theorem dX6_log_0 : decode cX6_log 0 = .ok (.iload_n 1, 1) := by decide +kernel
theorem dX6_log_1 : decode cX6_log 1 = .ok (.aload_n 0, 1) := by decide +kernel
theorem dX6_log_2 : decode cX6_log 2 = .ok (.getfield 32, 3) := by decide +kernel
theorem dX6_log_5 : decode cX6_log 5 = .ok (.getfield 138, 3) := by decide +kernel
theorem dX6_log_8 : decode cX6_log 8 = .ok (.iconst 1, 1) := by decide +kernel
theorem dX6_log_9 : decode cX6_log 9 = .ok (.isub, 1) := by decide +kernel
theorem dX6_log_10 : decode cX6_log 10 = .ok (.invokestatic 83, 3) := by decide +kernel
theorem dX6_log_13 : decode cX6_log 13 = .ok (.ifCond .ne 5, 3) := by decide +kernel
theorem dX6_log_16 : decode cX6_log 16 = .ok (.iconst (-1), 1) := by decide +kernel
theorem dX6_log_17 : decode cX6_log 17 = .ok (.ireturn, 1) := by decide +kernel
theorem dX6_worst_0 : decode cX6_worst 0 = .ok (.aload_n 0, 1) := by decide +kernel
theorem dX6_worst_1 : decode cX6_worst 1 = .ok (.getfield 38, 3) := by decide +kernel
theorem dX6_worst_4 : decode cX6_worst 4 = .ok (.aload_n 0, 1) := by decide +kernel
theorem dX6_worst_5 : decode cX6_worst 5 = .ok (.getfield 19, 3) := by decide +kernel
theorem dX6_worst_8 : decode cX6_worst 8 = .ok (.invokevirtual 139, 3) := by decide +kernel
theorem dX6_worst_11 : decode cX6_worst 11 = .ok (.aload_n 0, 1) := by decide +kernel
theorem dX6_worst_12 : decode cX6_worst 12 = .ok (.getfield 38, 3) := by decide +kernel
theorem dX6_worst_15 : decode cX6_worst 15 = .ok (.aload_n 0, 1) := by decide +kernel
theorem dX6_worst_16 : decode cX6_worst 16 = .ok (.getfield 28, 3) := by decide +kernel
theorem dX6_worst_19 : decode cX6_worst 19 = .ok (.aload_n 0, 1) := by decide +kernel
theorem dX6_worst_20 : decode cX6_worst 20 = .ok (.getfield 46, 3) := by decide +kernel
theorem dX6_worst_23 : decode cX6_worst 23 = .ok (.invokevirtual 155, 3) := by decide +kernel
theorem dX6_worst_26 : decode cX6_worst 26 = .ok (.ireturn, 1) := by decide +kernel
theorem dX6_enough_0 : decode cX6_enough 0 = .ok (.iconst 0, 1) := by decide +kernel
theorem dX6_enough_1 : decode cX6_enough 1 = .ok (.istore_n 1, 1) := by decide +kernel
theorem dX6_enough_2 : decode cX6_enough 2 = .ok (.iload_n 1, 1) := by decide +kernel
theorem dX6_enough_3 : decode cX6_enough 3 = .ok (.bipush 20, 2) := by decide +kernel
theorem dX6_enough_5 : decode cX6_enough 5 = .ok (.if_icmp .gt 52, 3) := by decide +kernel
theorem dX6_enough_8 : decode cX6_enough 8 = .ok (.aload_n 0, 1) := by decide +kernel
theorem dX6_enough_9 : decode cX6_enough 9 = .ok (.getfield 38, 3) := by decide +kernel
theorem dX6_enough_12 : decode cX6_enough 12 = .ok (.aload_n 0, 1) := by decide +kernel
theorem dX6_enough_13 : decode cX6_enough 13 = .ok (.getfield 19, 3) := by decide +kernel
theorem dX6_enough_16 : decode cX6_enough 16 = .ok (.invokevirtual 139, 3) := by decide +kernel
theorem dX6_enough_19 : decode cX6_enough 19 = .ok (.aload_n 0, 1) := by decide +kernel
theorem dX6_enough_20 : decode cX6_enough 20 = .ok (.getfield 38, 3) := by decide +kernel
theorem dX6_enough_23 : decode cX6_enough 23 = .ok (.getfield 163, 3) := by decide +kernel
theorem dX6_enough_26 : decode cX6_enough 26 = .ok (.iload_n 1, 1) := by decide +kernel
theorem dX6_enough_27 : decode cX6_enough 27 = .ok (.invokevirtual 166, 3) := by decide +kernel
theorem dX6_enough_30 : decode cX6_enough 30 = .ok (.aload_n 0, 1) := by decide +kernel
theorem dX6_enough_31 : decode cX6_enough 31 = .ok (.getfield 38, 3) := by decide +kernel
theorem dX6_enough_34 : decode cX6_enough 34 = .ok (.aload_n 0, 1) := by decide +kernel
theorem dX6_enough_35 : decode cX6_enough 35 = .ok (.getfield 28, 3) := by decide +kernel
theorem dX6_enough_38 : decode cX6_enough 38 = .ok (.aload_n 0, 1) := by decide +kernel
theorem dX6_enough_39 : decode cX6_enough 39 = .ok (.getfield 46, 3) := by decide +kernel
theorem dX6_enough_42 : decode cX6_enough 42 = .ok (.invokevirtual 155, 3) := by decide +kernel
theorem dX6_enough_45 : decode cX6_enough 45 = .ok (.iconst (-1), 1) := by decide +kernel
theorem dX6_enough_46 : decode cX6_enough 46 = .ok (.if_icmp .ne 5, 3) := by decide +kernel
theorem dX6_enough_49 : decode cX6_enough 49 = .ok (.iload_n 1, 1) := by decide +kernel
theorem dX6_enough_50 : decode cX6_enough 50 = .ok (.ireturn, 1) := by decide +kernel
theorem dX6_again_0 : decode cX6_again 0 = .ok (.aload_n 0, 1) := by decide +kernel
theorem dX6_again_1 : decode cX6_again 1 = .ok (.getfield 38, 3) := by decide +kernel
theorem dX6_again_4 : decode cX6_again 4 = .ok (.aload_n 0, 1) := by decide +kernel
theorem dX6_again_5 : decode cX6_again 5 = .ok (.getfield 19, 3) := by decide +kernel
theorem dX6_again_8 : decode cX6_again 8 = .ok (.invokevirtual 139, 3) := by decide +kernel
theorem dX6_again_11 : decode cX6_again 11 = .ok (.aload_n 0, 1) := by decide +kernel
theorem dX6_again_12 : decode cX6_again 12 = .ok (.getfield 38, 3) := by decide +kernel
theorem dX6_again_15 : decode cX6_again 15 = .ok (.aload_n 0, 1) := by decide +kernel
theorem dX6_again_16 : decode cX6_again 16 = .ok (.getfield 32, 3) := by decide +kernel
theorem dX6_again_19 : decode cX6_again 19 = .ok (.invokevirtual 196, 3) := by decide +kernel
theorem dX6_again_22 : decode cX6_again 22 = .ok (.ifCond .eq 7, 3) := by decide +kernel
theorem dX6_again_25 : decode cX6_again 25 = .ok (.iconst 1, 1) := by decide +kernel
theorem dX6_again_26 : decode cX6_again 26 = .ok (.goto 4, 3) := by decide +kernel
theorem dX6_again_30 : decode cX6_again 30 = .ok (.ireturn, 1) := by decide +kernel
theorem dX6_reset_0 : decode cX6_reset 0 = .ok (.aload_n 0, 1) := by decide +kernel
theorem dX6_reset_1 : decode cX6_reset 1 = .ok (.getfield 32, 3) := by decide +kernel
theorem dX6_reset_4 : decode cX6_reset 4 = .ok (.getfield 138, 3) := by decide +kernel
theorem dX6_reset_7 : decode cX6_reset 7 = .ok (.istore_n 1, 1) := by decide +kernel
theorem dX6_reset_8 : decode cX6_reset 8 = .ok (.aload_n 0, 1) := by decide +kernel
theorem dX6_reset_9 : decode cX6_reset 9 = .ok (.getfield 32, 3) := by decide +kernel
theorem dX6_reset_12 : decode cX6_reset 12 = .ok (.iconst 0, 1) := by decide +kernel
theorem dX6_reset_13 : decode cX6_reset 13 = .ok (.putfield 138, 3) := by decide +kernel
theorem dX6_reset_16 : decode cX6_reset 16 = .ok (.aload_n 0, 1) := by decide +kernel
theorem dX6_reset_17 : decode cX6_reset 17 = .ok (.getfield 19, 3) := by decide +kernel
theorem dX6_reset_20 : decode cX6_reset 20 = .ok (.invokevirtual 208, 3) := by decide +kernel
theorem dX6_reset_23 : decode cX6_reset 23 = .ok (.iload_n 1, 1) := by decide +kernel
theorem dX6_reset_24 : decode cX6_reset 24 = .ok (.ireturn, 1) := by decide +kernel
theorem dX6_price_0 : decode cX6_price 0 = .ok (.iload_n 1, 1) := by decide +kernel
theorem dX6_price_1 : decode cX6_price 1 = .ok (.iconst 3, 1) := by decide +kernel
theorem dX6_price_2 : decode cX6_price 2 = .ok (.invokestatic 83, 3) := by decide +kernel
theorem dX6_price_5 : decode cX6_price 5 = .ok (.ifCond .ne 5, 3) := by decide +kernel
theorem dX6_price_10 : decode cX6_price 10 = .ok (.iload_n 2, 1) := by decide +kernel
theorem dX6_price_11 : decode cX6_price 11 = .ok (.bipush 99, 2) := by decide +kernel
theorem dX6_price_13 : decode cX6_price 13 = .ok (.invokestatic 83, 3) := by decide +kernel
theorem dX6_price_16 : decode cX6_price 16 = .ok (.ifCond .ne 6, 3) := by decide +kernel
theorem dX6_price_22 : decode cX6_price 22 = .ok (.aload_n 0, 1) := by decide +kernel
theorem dX6_price_23 : decode cX6_price 23 = .ok (.getfield 42, 3) := by decide +kernel
theorem dX6_price_26 : decode cX6_price 26 = .ok (.iload_n 1, 1) := by decide +kernel
theorem dX6_price_27 : decode cX6_price 27 = .ok (.iaload, 1) := by decide +kernel
theorem dX6_price_28 : decode cX6_price 28 = .ok (.istore_n 3, 1) := by decide +kernel
theorem dX6_price_29 : decode cX6_price 29 = .ok (.aload_n 0, 1) := by decide +kernel
theorem dX6_price_30 : decode cX6_price 30 = .ok (.getfield 42, 3) := by decide +kernel
theorem dX6_price_33 : decode cX6_price 33 = .ok (.iload_n 1, 1) := by decide +kernel
theorem dX6_price_34 : decode cX6_price 34 = .ok (.iload_n 2, 1) := by decide +kernel
theorem dX6_price_35 : decode cX6_price 35 = .ok (.iastore, 1) := by decide +kernel
theorem dX6_price_36 : decode cX6_price 36 = .ok (.iload_n 3, 1) := by decide +kernel
theorem dX6_price_37 : decode cX6_price 37 = .ok (.ireturn, 1) := by decide +kernel
theorem dX6_price_19 : decode cX6_price 19 = .ok (.bipush (-2), 2) := by decide +kernel
theorem dX6_price_21 : decode cX6_price 21 = .ok (.ireturn, 1) := by decide +kernel
theorem dX6_price_8 : decode cX6_price 8 = .ok (.iconst (-1), 1) := by decide +kernel
theorem dX6_price_9 : decode cX6_price 9 = .ok (.ireturn, 1) := by decide +kernel
theorem dX6_priceOf_0 : decode cX6_priceOf 0 = .ok (.iconst 0, 1) := by decide +kernel
theorem dX6_priceOf_1 : decode cX6_priceOf 1 = .ok (.istore_n 2, 1) := by decide +kernel
theorem dX6_priceOf_2 : decode cX6_priceOf 2 = .ok (.iconst 0, 1) := by decide +kernel
theorem dX6_priceOf_3 : decode cX6_priceOf 3 = .ok (.istore_n 3, 1) := by decide +kernel
theorem dX6_priceOf_4 : decode cX6_priceOf 4 = .ok (.iload_n 3, 1) := by decide +kernel
theorem dX6_priceOf_5 : decode cX6_priceOf 5 = .ok (.bipush 24, 2) := by decide +kernel
theorem dX6_priceOf_7 : decode cX6_priceOf 7 = .ok (.if_icmp .ge 29, 3) := by decide +kernel
theorem dX6_priceOf_10 : decode cX6_priceOf 10 = .ok (.iload_n 1, 1) := by decide +kernel
theorem dX6_priceOf_11 : decode cX6_priceOf 11 = .ok (.iload_n 3, 1) := by decide +kernel
theorem dX6_priceOf_12 : decode cX6_priceOf 12 = .ok (.ishr, 1) := by decide +kernel
theorem dX6_priceOf_13 : decode cX6_priceOf 13 = .ok (.iconst 1, 1) := by decide +kernel
theorem dX6_priceOf_14 : decode cX6_priceOf 14 = .ok (.iand, 1) := by decide +kernel
theorem dX6_priceOf_15 : decode cX6_priceOf 15 = .ok (.iconst 1, 1) := by decide +kernel
theorem dX6_priceOf_16 : decode cX6_priceOf 16 = .ok (.if_icmp .ne 14, 3) := by decide +kernel
theorem dX6_priceOf_30 : decode cX6_priceOf 30 = .ok (.iinc 3 1, 3) := by decide +kernel
theorem dX6_priceOf_33 : decode cX6_priceOf 33 = .ok (.goto (-29), 3) := by decide +kernel
theorem dX6_priceOf_36 : decode cX6_priceOf 36 = .ok (.iload_n 2, 1) := by decide +kernel
theorem dX6_priceOf_37 : decode cX6_priceOf 37 = .ok (.ireturn, 1) := by decide +kernel
theorem dX6_cheapestAdditions_0 : decode cX6_cheapestAdditions 0 = .ok (.iload_n 1, 1) := by decide +kernel
theorem dX6_cheapestAdditions_1 : decode cX6_cheapestAdditions 1 = .ok (.invokestatic 184, 3) := by decide +kernel
theorem dX6_cheapestAdditions_4 : decode cX6_cheapestAdditions 4 = .ok (.iconst 5, 1) := by decide +kernel
theorem dX6_cheapestAdditions_5 : decode cX6_cheapestAdditions 5 = .ok (.invokestatic 129, 3) := by decide +kernel
theorem dX6_cheapestAdditions_8 : decode cX6_cheapestAdditions 8 = .ok (.istore_n 2, 1) := by decide +kernel
theorem dX6_cheapestAdditions_9 : decode cX6_cheapestAdditions 9 = .ok (.bipush 31, 2) := by decide +kernel
theorem dX6_cheapestAdditions_11 : decode cX6_cheapestAdditions 11 = .ok (.iload_n 1, 1) := by decide +kernel
theorem dX6_cheapestAdditions_12 : decode cX6_cheapestAdditions 12 = .ok (.invokestatic 187, 3) := by decide +kernel
theorem dX6_cheapestAdditions_15 : decode cX6_cheapestAdditions 15 = .ok (.isub, 1) := by decide +kernel
theorem dX6_cheapestAdditions_16 : decode cX6_cheapestAdditions 16 = .ok (.iconst 0, 1) := by decide +kernel
theorem dX6_cheapestAdditions_17 : decode cX6_cheapestAdditions 17 = .ok (.invokestatic 190, 3) := by decide +kernel
theorem dX6_cheapestAdditions_20 : decode cX6_cheapestAdditions 20 = .ok (.istore_n 3, 1) := by decide +kernel
theorem dX6_cheapestAdditions_21 : decode cX6_cheapestAdditions 21 = .ok (.iconst 1, 1) := by decide +kernel
theorem dX6_cheapestAdditions_22 : decode cX6_cheapestAdditions 22 = .ok (.iconst 4, 1) := by decide +kernel
theorem dX6_cheapestAdditions_23 : decode cX6_cheapestAdditions 23 = .ok (.iload_n 1, 1) := by decide +kernel
theorem dX6_cheapestAdditions_24 : decode cX6_cheapestAdditions 24 = .ok (.invokestatic 173, 3) := by decide +kernel
theorem dX6_cheapestAdditions_27 : decode cX6_cheapestAdditions 27 = .ok (.imul, 1) := by decide +kernel
theorem dX6_cheapestAdditions_28 : decode cX6_cheapestAdditions 28 = .ok (.ishl, 1) := by decide +kernel
theorem dX6_cheapestAdditions_29 : decode cX6_cheapestAdditions 29 = .ok (.istore 4, 2) := by decide +kernel
theorem dX6_cheapestAdditions_31 : decode cX6_cheapestAdditions 31 = .ok (.iconst (-1), 1) := by decide +kernel
theorem dX6_cheapestAdditions_32 : decode cX6_cheapestAdditions 32 = .ok (.istore 5, 2) := by decide +kernel
theorem dX6_cheapestAdditions_34 : decode cX6_cheapestAdditions 34 = .ok (.iconst 0, 1) := by decide +kernel
theorem dX6_cheapestAdditions_35 : decode cX6_cheapestAdditions 35 = .ok (.istore 6, 2) := by decide +kernel
theorem dX6_cheapestAdditions_37 : decode cX6_cheapestAdditions 37 = .ok (.iload 6, 2) := by decide +kernel
theorem dX6_cheapestAdditions_39 : decode cX6_cheapestAdditions 39 = .ok (.iload 4, 2) := by decide +kernel
theorem dX6_cheapestAdditions_41 : decode cX6_cheapestAdditions 41 = .ok (.if_icmp .ge 107, 3) := by decide +kernel
theorem dX6_cheapestAdditions_44 : decode cX6_cheapestAdditions 44 = .ok (.iload 6, 2) := by decide +kernel
theorem dX6_cheapestAdditions_46 : decode cX6_cheapestAdditions 46 = .ok (.bipush 15, 2) := by decide +kernel
theorem dX6_cheapestAdditions_48 : decode cX6_cheapestAdditions 48 = .ok (.iand, 1) := by decide +kernel
theorem dX6_cheapestAdditions_49 : decode cX6_cheapestAdditions 49 = .ok (.istore 7, 2) := by decide +kernel
theorem dX6_cheapestAdditions_51 : decode cX6_cheapestAdditions 51 = .ok (.iload 6, 2) := by decide +kernel
theorem dX6_cheapestAdditions_53 : decode cX6_cheapestAdditions 53 = .ok (.iconst 4, 1) := by decide +kernel
theorem dX6_cheapestAdditions_54 : decode cX6_cheapestAdditions 54 = .ok (.ishr, 1) := by decide +kernel
theorem dX6_cheapestAdditions_55 : decode cX6_cheapestAdditions 55 = .ok (.istore 8, 2) := by decide +kernel
theorem dX6_cheapestAdditions_57 : decode cX6_cheapestAdditions 57 = .ok (.iload 7, 2) := by decide +kernel
theorem dX6_cheapestAdditions_59 : decode cX6_cheapestAdditions 59 = .ok (.iconst 4, 1) := by decide +kernel
theorem dX6_cheapestAdditions_60 : decode cX6_cheapestAdditions 60 = .ok (.iload_n 2, 1) := by decide +kernel
theorem dX6_cheapestAdditions_61 : decode cX6_cheapestAdditions 61 = .ok (.imul, 1) := by decide +kernel
theorem dX6_cheapestAdditions_62 : decode cX6_cheapestAdditions 62 = .ok (.ishl, 1) := by decide +kernel
theorem dX6_cheapestAdditions_63 : decode cX6_cheapestAdditions 63 = .ok (.iload 8, 2) := by decide +kernel
theorem dX6_cheapestAdditions_65 : decode cX6_cheapestAdditions 65 = .ok (.iconst 4, 1) := by decide +kernel
theorem dX6_cheapestAdditions_66 : decode cX6_cheapestAdditions 66 = .ok (.iload_n 3, 1) := by decide +kernel
theorem dX6_cheapestAdditions_67 : decode cX6_cheapestAdditions 67 = .ok (.imul, 1) := by decide +kernel
theorem dX6_cheapestAdditions_68 : decode cX6_cheapestAdditions 68 = .ok (.ishl, 1) := by decide +kernel
theorem dX6_cheapestAdditions_69 : decode cX6_cheapestAdditions 69 = .ok (.ior, 1) := by decide +kernel
theorem dX6_cheapestAdditions_70 : decode cX6_cheapestAdditions 70 = .ok (.istore 9, 2) := by decide +kernel
theorem dX6_cheapestAdditions_72 : decode cX6_cheapestAdditions 72 = .ok (.iload 5, 2) := by decide +kernel
theorem dX6_cheapestAdditions_74 : decode cX6_cheapestAdditions 74 = .ok (.iconst (-1), 1) := by decide +kernel
theorem dX6_cheapestAdditions_75 : decode cX6_cheapestAdditions 75 = .ok (.if_icmp .eq 21, 3) := by decide +kernel
theorem dX6_cheapestAdditions_96 : decode cX6_cheapestAdditions 96 = .ok (.aload_n 0, 1) := by decide +kernel
theorem dX6_cheapestAdditions_97 : decode cX6_cheapestAdditions 97 = .ok (.getfield 38, 3) := by decide +kernel
theorem dX6_cheapestAdditions_100 : decode cX6_cheapestAdditions 100 = .ok (.aload_n 0, 1) := by decide +kernel
theorem dX6_cheapestAdditions_101 : decode cX6_cheapestAdditions 101 = .ok (.getfield 19, 3) := by decide +kernel
theorem dX6_cheapestAdditions_104 : decode cX6_cheapestAdditions 104 = .ok (.invokevirtual 139, 3) := by decide +kernel
theorem dX6_cheapestAdditions_107 : decode cX6_cheapestAdditions 107 = .ok (.aload_n 0, 1) := by decide +kernel
theorem dX6_cheapestAdditions_108 : decode cX6_cheapestAdditions 108 = .ok (.getfield 38, 3) := by decide +kernel
theorem dX6_cheapestAdditions_111 : decode cX6_cheapestAdditions 111 = .ok (.getfield 163, 3) := by decide +kernel
theorem dX6_cheapestAdditions_114 : decode cX6_cheapestAdditions 114 = .ok (.iload 9, 2) := by decide +kernel
theorem dX6_cheapestAdditions_116 : decode cX6_cheapestAdditions 116 = .ok (.invokevirtual 193, 3) := by decide +kernel
theorem dX6_cheapestAdditions_119 : decode cX6_cheapestAdditions 119 = .ok (.aload_n 0, 1) := by decide +kernel
theorem dX6_cheapestAdditions_120 : decode cX6_cheapestAdditions 120 = .ok (.getfield 38, 3) := by decide +kernel
theorem dX6_cheapestAdditions_123 : decode cX6_cheapestAdditions 123 = .ok (.aload_n 0, 1) := by decide +kernel
theorem dX6_cheapestAdditions_124 : decode cX6_cheapestAdditions 124 = .ok (.getfield 28, 3) := by decide +kernel
theorem dX6_cheapestAdditions_127 : decode cX6_cheapestAdditions 127 = .ok (.aload_n 0, 1) := by decide +kernel
theorem dX6_cheapestAdditions_128 : decode cX6_cheapestAdditions 128 = .ok (.getfield 46, 3) := by decide +kernel
theorem dX6_cheapestAdditions_131 : decode cX6_cheapestAdditions 131 = .ok (.invokevirtual 155, 3) := by decide +kernel
theorem dX6_cheapestAdditions_134 : decode cX6_cheapestAdditions 134 = .ok (.iconst (-1), 1) := by decide +kernel
theorem dX6_cheapestAdditions_135 : decode cX6_cheapestAdditions 135 = .ok (.if_icmp .ne 7, 3) := by decide +kernel
theorem dX6_cheapestAdditions_138 : decode cX6_cheapestAdditions 138 = .ok (.iload 9, 2) := by decide +kernel
theorem dX6_cheapestAdditions_140 : decode cX6_cheapestAdditions 140 = .ok (.istore 5, 2) := by decide +kernel
theorem dX6_cheapestAdditions_142 : decode cX6_cheapestAdditions 142 = .ok (.iinc 6 1, 3) := by decide +kernel
theorem dX6_cheapestAdditions_145 : decode cX6_cheapestAdditions 145 = .ok (.goto (-108), 3) := by decide +kernel
theorem dX6_cheapestAdditions_148 : decode cX6_cheapestAdditions 148 = .ok (.iload 5, 2) := by decide +kernel
theorem dX6_cheapestAdditions_150 : decode cX6_cheapestAdditions 150 = .ok (.ireturn, 1) := by decide +kernel
theorem dX6_cheapest_0 : decode cX6_cheapest 0 = .ok (.iload_n 1, 1) := by decide +kernel
theorem dX6_cheapest_1 : decode cX6_cheapest 1 = .ok (.iconst 1, 1) := by decide +kernel
theorem dX6_cheapest_2 : decode cX6_cheapest 2 = .ok (.invokestatic 83, 3) := by decide +kernel
theorem dX6_cheapest_5 : decode cX6_cheapest 5 = .ok (.ifCond .ne 5, 3) := by decide +kernel
theorem dX6_cheapest_10 : decode cX6_cheapest 10 = .ok (.aload_n 0, 1) := by decide +kernel
theorem dX6_cheapest_11 : decode cX6_cheapest 11 = .ok (.getfield 28, 3) := by decide +kernel
theorem dX6_cheapest_14 : decode cX6_cheapest 14 = .ok (.getfield 138, 3) := by decide +kernel
theorem dX6_cheapest_17 : decode cX6_cheapest 17 = .ok (.iconst 3, 1) := by decide +kernel
theorem dX6_cheapest_18 : decode cX6_cheapest 18 = .ok (.if_icmp .le 6, 3) := by decide +kernel
theorem dX6_cheapest_24 : decode cX6_cheapest 24 = .ok (.aload_n 0, 1) := by decide +kernel
theorem dX6_cheapest_25 : decode cX6_cheapest 25 = .ok (.getfield 19, 3) := by decide +kernel
theorem dX6_cheapest_28 : decode cX6_cheapest 28 = .ok (.aload_n 0, 1) := by decide +kernel
theorem dX6_cheapest_29 : decode cX6_cheapest 29 = .ok (.getfield 28, 3) := by decide +kernel
theorem dX6_cheapest_32 : decode cX6_cheapest 32 = .ok (.invokevirtual 169, 3) := by decide +kernel
theorem dX6_cheapest_35 : decode cX6_cheapest 35 = .ok (.istore_n 2, 1) := by decide +kernel
theorem dX6_cheapest_36 : decode cX6_cheapest 36 = .ok (.iload_n 2, 1) := by decide +kernel
theorem dX6_cheapest_37 : decode cX6_cheapest 37 = .ok (.invokestatic 173, 3) := by decide +kernel
theorem dX6_cheapest_40 : decode cX6_cheapest 40 = .ok (.iconst 2, 1) := by decide +kernel
theorem dX6_cheapest_41 : decode cX6_cheapest 41 = .ok (.if_icmp .le 6, 3) := by decide +kernel
theorem dX6_cheapest_47 : decode cX6_cheapest 47 = .ok (.aload_n 0, 1) := by decide +kernel
theorem dX6_cheapest_48 : decode cX6_cheapest 48 = .ok (.iload_n 2, 1) := by decide +kernel
theorem dX6_cheapest_49 : decode cX6_cheapest 49 = .ok (.invokevirtual 178, 3) := by decide +kernel
theorem dX6_cheapest_52 : decode cX6_cheapest 52 = .ok (.istore_n 3, 1) := by decide +kernel
theorem dX6_cheapest_53 : decode cX6_cheapest 53 = .ok (.iload_n 3, 1) := by decide +kernel
theorem dX6_cheapest_54 : decode cX6_cheapest 54 = .ok (.iconst (-1), 1) := by decide +kernel
theorem dX6_cheapest_55 : decode cX6_cheapest 55 = .ok (.if_icmp .eq 8, 3) := by decide +kernel
theorem dX6_cheapest_58 : decode cX6_cheapest 58 = .ok (.iload_n 1, 1) := by decide +kernel
theorem dX6_cheapest_59 : decode cX6_cheapest 59 = .ok (.iconst 1, 1) := by decide +kernel
theorem dX6_cheapest_60 : decode cX6_cheapest 60 = .ok (.if_icmp .ne 7, 3) := by decide +kernel
theorem dX6_cheapest_67 : decode cX6_cheapest 67 = .ok (.aload_n 0, 1) := by decide +kernel
theorem dX6_cheapest_68 : decode cX6_cheapest 68 = .ok (.iload_n 3, 1) := by decide +kernel
theorem dX6_cheapest_69 : decode cX6_cheapest 69 = .ok (.invokevirtual 181, 3) := by decide +kernel
theorem dX6_cheapest_72 : decode cX6_cheapest 72 = .ok (.ireturn, 1) := by decide +kernel
theorem dX6_cheapest_63 : decode cX6_cheapest 63 = .ok (.iload_n 3, 1) := by decide +kernel
theorem dX6_cheapest_64 : decode cX6_cheapest 64 = .ok (.goto 8, 3) := by decide +kernel
theorem dX6_cheapest_8 : decode cX6_cheapest 8 = .ok (.iconst (-1), 1) := by decide +kernel
theorem dX6_cheapest_9 : decode cX6_cheapest 9 = .ok (.ireturn, 1) := by decide +kernel
theorem dX6_count_0 : decode cX6_count 0 = .ok (.iload_n 1, 1) := by decide +kernel
theorem dX6_count_1 : decode cX6_count 1 = .ok (.tableswitch 87 0 5 #[39, 47, 55, 63, 71, 79], 39) := by decide +kernel
theorem dX6_count_88 : decode cX6_count 88 = .ok (.iconst (-1), 1) := by decide +kernel
theorem dX6_count_89 : decode cX6_count 89 = .ok (.ireturn, 1) := by decide +kernel
theorem dX6_count_40 : decode cX6_count 40 = .ok (.aload_n 0, 1) := by decide +kernel
theorem dX6_count_41 : decode cX6_count 41 = .ok (.getfield 19, 3) := by decide +kernel
theorem dX6_count_44 : decode cX6_count 44 = .ok (.getfield 58, 3) := by decide +kernel
theorem dX6_count_47 : decode cX6_count 47 = .ok (.ireturn, 1) := by decide +kernel
theorem dX6_count_48 : decode cX6_count 48 = .ok (.aload_n 0, 1) := by decide +kernel
theorem dX6_count_49 : decode cX6_count 49 = .ok (.getfield 28, 3) := by decide +kernel
theorem dX6_count_52 : decode cX6_count 52 = .ok (.getfield 138, 3) := by decide +kernel
theorem dX6_count_55 : decode cX6_count 55 = .ok (.ireturn, 1) := by decide +kernel
theorem dX6_count_56 : decode cX6_count 56 = .ok (.aload_n 0, 1) := by decide +kernel
theorem dX6_count_57 : decode cX6_count 57 = .ok (.getfield 19, 3) := by decide +kernel
theorem dX6_count_60 : decode cX6_count 60 = .ok (.getfield 126, 3) := by decide +kernel
theorem dX6_count_63 : decode cX6_count 63 = .ok (.ireturn, 1) := by decide +kernel
theorem dX6_count_64 : decode cX6_count 64 = .ok (.aload_n 0, 1) := by decide +kernel
theorem dX6_count_65 : decode cX6_count 65 = .ok (.getfield 19, 3) := by decide +kernel
theorem dX6_count_68 : decode cX6_count 68 = .ok (.getfield 99, 3) := by decide +kernel
theorem dX6_count_71 : decode cX6_count 71 = .ok (.ireturn, 1) := by decide +kernel
theorem dX6_count_72 : decode cX6_count 72 = .ok (.aload_n 0, 1) := by decide +kernel
theorem dX6_count_73 : decode cX6_count 73 = .ok (.getfield 32, 3) := by decide +kernel
theorem dX6_count_76 : decode cX6_count 76 = .ok (.getfield 138, 3) := by decide +kernel
theorem dX6_count_79 : decode cX6_count 79 = .ok (.ireturn, 1) := by decide +kernel
theorem dX6_count_80 : decode cX6_count 80 = .ok (.aload_n 0, 1) := by decide +kernel
theorem dX6_count_81 : decode cX6_count 81 = .ok (.getfield 12, 3) := by decide +kernel
theorem dX6_count_84 : decode cX6_count 84 = .ok (.getfield 50, 3) := by decide +kernel
theorem dX6_count_87 : decode cX6_count 87 = .ok (.ireturn, 1) := by decide +kernel
def sp_free (x : Int32) : Int32 := if (x < 0 ∨ 1 < x) then -2 else 0
def sp_price (x y : Int32) : Int32 := if (x < 0 ∨ 3 < x) then -1 else if (y < 0 ∨ 99 < y) then -2 else 1
def sp_cheap (x : Int32) : Int32 := if (x < 0 ∨ 1 < x) then -1 else 0
def sp_count (x : Int32) : Int32 := if (x < 0 ∨ 5 < x) then -1 else 0
def sp_feed (x : Int32) : Int32 := if (x < 1 ∨ 8 < x) then -2 else x
set_option maxHeartbeats 4000000 in
set_option maxRecDepth 100000 in
theorem p_change (l : Launch) (D : va_G) (cI cZ cS : ClassId) (N0 : NT) (h : Nat) (tp : Nat) (nw : Nat) (rw : Nat) (lg : Nat) (jd : Nat) (pr : Nat) (n1 : Nat) (n2 : Nat) (x1 : Int32)  : Mx l D cI cZ cS N0 yX6_change cX6_change 3 (some .int) 1 0 0 [.ref h, .int x1] [(h, .inr (6, [.ref tp, .ref nw, .ref rw, .ref lg, .ref jd, .ref pr, .int 0])), (nw, .inr (5, [.ref n1, .int 0, .int 0, .ref n2, .int 0, .int 0, .int 0, .int 0]))] (fun v w => v = some (.int (-1)) ∧ w = ([] : va_W)) := by
  refine x_enter (by decide) (Nat.le_of_ble_eq_true rfl) ?_
  intro p e s m args below meth c A ls H locs hB hr hin hl hV hA
  have hx := hB.1
  have hb := hB.2.1
  have hl : lv_has ls 3 [(0, .ref h), (1, .int x1)] := hl
  refine lv_aload_n hx hb dX6_change_0 rfl (lv_at hl 0 rfl) ?_
  refine x_get (v := .ref nw) hB hV 0 rfl rfl 1 (by decide) k_309 rfl dX6_change_1 ?_
  refine lv_iload_n hx hb dX6_change_4 rfl (lv_at hl 1 rfl) ?_
  refine x_callV (n := 1) (wr := [(h, .inr (6, [.ref tp, .ref nw, .ref rw, .ref lg, .ref jd, .ref pr, .int 0]))]) (q0 := 1) (As := [.int x1]) (rest := []) hB hV (x_N hB) hl.1 (c_has l D cI cZ cS N0 nw n1 n2 x1 ) rfl rfl k_436 k_59 k_433 k_434 k_435 (by decide +kernel) ⟨(Nat.le_of_ble_eq_true rfl), (Nat.le_of_ble_eq_true rfl)⟩ rfl (Nat.le_of_ble_eq_true rfl) ⟨(Nat.le_of_ble_eq_true rfl), (Nat.le_of_ble_eq_true rfl)⟩ [1] [0] rfl rfl rfl ⟨by decide, by decide, by decide⟩ dX6_change_5 (fun v w H locs hp hV => ?_)
  obtain ⟨rfl, rfl⟩ := hp
  have hV : Vx D A s.heap H locs [(h, .inr (6, [.ref tp, .ref nw, .ref rw, .ref lg, .ref jd, .ref pr, .int 0])), (nw, .inr (5, [.ref n1, .int 0, .int 0, .ref n2, .int 0, .int 0, .int 0, .int 0]))] := hV
  refine W.eq (g2 := F0 m 8 ls [.int 0]) rfl ?_
  refine lv_if_ne (tgt := 13) hx hb dX6_change_8 (by decide) (fun c_ => absurd (by decide) c_) (fun c_ => ?_)
  refine lv_iconst (v := (-1)) hx hb dX6_change_11 (by decide) ?_
  exact x_iret (w := []) hB hr hV hA (Nat.le_of_ble_eq_true rfl) (Nat.le_of_ble_eq_true rfl) [] rfl rfl (by decide) dX6_change_12 ⟨rfl, rfl⟩
set_option maxHeartbeats 4000000 in
set_option maxRecDepth 100000 in
theorem p_mend (l : Launch) (D : va_G) (cI cZ cS : ClassId) (N0 : NT) (h : Nat) (tp : Nat) (nw : Nat) (rw : Nat) (lg : Nat) (jd : Nat) (pr : Nat) (n1 : Nat) (n2 : Nat) (x1 : Int32) (x2 : Int32) (x3 : Int32)  : Mx l D cI cZ cS N0 yX6_mend cX6_mend 6 (some .int) 1 0 0 [.ref h, .int x1, .int x2, .int x3] [(h, .inr (6, [.ref tp, .ref nw, .ref rw, .ref lg, .ref jd, .ref pr, .int 0])), (nw, .inr (5, [.ref n1, .int 0, .int 0, .ref n2, .int 0, .int 0, .int 0, .int 0]))] (fun v w => v = some (.int (-1)) ∧ w = ([] : va_W)) := by
  refine x_enter (by decide) (Nat.le_of_ble_eq_true rfl) ?_
  intro p e s m args below meth c A ls H locs hB hr hin hl hV hA
  have hx := hB.1
  have hb := hB.2.1
  have hl : lv_has ls 6 [(0, .ref h), (1, .int x1), (2, .int x2), (3, .int x3)] := hl
  refine lv_aload_n hx hb dX6_mend_0 rfl (lv_at hl 0 rfl) ?_
  refine x_get (v := .ref nw) hB hV 0 rfl rfl 1 (by decide) k_309 rfl dX6_mend_1 ?_
  refine lv_iload_n hx hb dX6_mend_4 rfl (lv_at hl 1 rfl) ?_
  refine x_callV (n := 1) (wr := [(h, .inr (6, [.ref tp, .ref nw, .ref rw, .ref lg, .ref jd, .ref pr, .int 0]))]) (q0 := 1) (As := [.int x1]) (rest := []) hB hV (x_N hB) hl.1 (c_has l D cI cZ cS N0 nw n1 n2 x1 ) rfl rfl k_436 k_59 k_433 k_434 k_435 (by decide +kernel) ⟨(Nat.le_of_ble_eq_true rfl), (Nat.le_of_ble_eq_true rfl)⟩ rfl (Nat.le_of_ble_eq_true rfl) ⟨(Nat.le_of_ble_eq_true rfl), (Nat.le_of_ble_eq_true rfl)⟩ [1] [0] rfl rfl rfl ⟨by decide, by decide, by decide⟩ dX6_mend_5 (fun v w H locs hp hV => ?_)
  obtain ⟨rfl, rfl⟩ := hp
  have hV : Vx D A s.heap H locs [(h, .inr (6, [.ref tp, .ref nw, .ref rw, .ref lg, .ref jd, .ref pr, .int 0])), (nw, .inr (5, [.ref n1, .int 0, .int 0, .ref n2, .int 0, .int 0, .int 0, .int 0]))] := hV
  refine W.eq (g2 := F0 m 8 ls [.int 0]) rfl ?_
  refine lv_if_eq (tgt := 19) hx hb dX6_mend_8 (by decide) (fun c_ => ?_) (fun c_ => absurd (by decide) c_)
  refine lv_iconst (v := (-1)) hx hb dX6_mend_19 (by decide) ?_
  exact x_iret (w := []) hB hr hV hA (Nat.le_of_ble_eq_true rfl) (Nat.le_of_ble_eq_true rfl) [] rfl rfl (by decide) dX6_mend_20 ⟨rfl, rfl⟩
set_option maxHeartbeats 4000000 in
set_option maxRecDepth 100000 in
theorem p_hold (l : Launch) (D : va_G) (cI cZ cS : ClassId) (N0 : NT) (h : Nat) (tp : Nat) (nw : Nat) (rw : Nat) (lg : Nat) (jd : Nat) (pr : Nat) (n1 : Nat) (n2 : Nat) (x1 : Int32) (x2 : Int32)  : Mx l D cI cZ cS N0 yX6_hold cX6_hold 4 (some .int) 1 0 0 [.ref h, .int x1, .int x2] [(h, .inr (6, [.ref tp, .ref nw, .ref rw, .ref lg, .ref jd, .ref pr, .int 0])), (nw, .inr (5, [.ref n1, .int 0, .int 0, .ref n2, .int 0, .int 0, .int 0, .int 0]))] (fun v w => v = some (.int (-1)) ∧ w = ([] : va_W)) := by
  refine x_enter (by decide) (Nat.le_of_ble_eq_true rfl) ?_
  intro p e s m args below meth c A ls H locs hB hr hin hl hV hA
  have hx := hB.1
  have hb := hB.2.1
  have hl : lv_has ls 4 [(0, .ref h), (1, .int x1), (2, .int x2)] := hl
  refine lv_aload_n hx hb dX6_hold_0 rfl (lv_at hl 0 rfl) ?_
  refine x_get (v := .ref nw) hB hV 0 rfl rfl 1 (by decide) k_309 rfl dX6_hold_1 ?_
  refine lv_iload_n hx hb dX6_hold_4 rfl (lv_at hl 1 rfl) ?_
  refine x_callV (n := 1) (wr := [(h, .inr (6, [.ref tp, .ref nw, .ref rw, .ref lg, .ref jd, .ref pr, .int 0]))]) (q0 := 1) (As := [.int x1]) (rest := []) hB hV (x_N hB) hl.1 (c_has l D cI cZ cS N0 nw n1 n2 x1 ) rfl rfl k_436 k_59 k_433 k_434 k_435 (by decide +kernel) ⟨(Nat.le_of_ble_eq_true rfl), (Nat.le_of_ble_eq_true rfl)⟩ rfl (Nat.le_of_ble_eq_true rfl) ⟨(Nat.le_of_ble_eq_true rfl), (Nat.le_of_ble_eq_true rfl)⟩ [1] [0] rfl rfl rfl ⟨by decide, by decide, by decide⟩ dX6_hold_5 (fun v w H locs hp hV => ?_)
  obtain ⟨rfl, rfl⟩ := hp
  have hV : Vx D A s.heap H locs [(h, .inr (6, [.ref tp, .ref nw, .ref rw, .ref lg, .ref jd, .ref pr, .int 0])), (nw, .inr (5, [.ref n1, .int 0, .int 0, .ref n2, .int 0, .int 0, .int 0, .int 0]))] := hV
  refine W.eq (g2 := F0 m 8 ls [.int 0]) rfl ?_
  refine lv_if_ne (tgt := 13) hx hb dX6_hold_8 (by decide) (fun c_ => absurd (by decide) c_) (fun c_ => ?_)
  refine lv_iconst (v := (-1)) hx hb dX6_hold_11 (by decide) ?_
  exact x_iret (w := []) hB hr hV hA (Nat.le_of_ble_eq_true rfl) (Nat.le_of_ble_eq_true rfl) [] rfl rfl (by decide) dX6_hold_12 ⟨rfl, rfl⟩
set_option maxHeartbeats 4000000 in
set_option maxRecDepth 100000 in
theorem p_set (l : Launch) (D : va_G) (cI cZ cS : ClassId) (N0 : NT) (h : Nat) (tp : Nat) (nw : Nat) (rw : Nat) (lg : Nat) (jd : Nat) (pr : Nat) (n1 : Nat) (n2 : Nat) (x1 : Int32) (x2 : Int32) (x3 : Int32)  : Mx l D cI cZ cS N0 yX6_set cX6_set 5 (some .int) 1 0 0 [.ref h, .int x1, .int x2, .int x3] [(h, .inr (6, [.ref tp, .ref nw, .ref rw, .ref lg, .ref jd, .ref pr, .int 0])), (nw, .inr (5, [.ref n1, .int 0, .int 0, .ref n2, .int 0, .int 0, .int 0, .int 0]))] (fun v w => v = some (.int (-1)) ∧ w = ([] : va_W)) := by
  refine x_enter (by decide) (Nat.le_of_ble_eq_true rfl) ?_
  intro p e s m args below meth c A ls H locs hB hr hin hl hV hA
  have hx := hB.1
  have hb := hB.2.1
  have hl : lv_has ls 5 [(0, .ref h), (1, .int x1), (2, .int x2), (3, .int x3)] := hl
  refine lv_aload_n hx hb dX6_set_0 rfl (lv_at hl 0 rfl) ?_
  refine x_get (v := .ref nw) hB hV 0 rfl rfl 1 (by decide) k_309 rfl dX6_set_1 ?_
  refine lv_iload_n hx hb dX6_set_4 rfl (lv_at hl 1 rfl) ?_
  refine x_callV (n := 1) (wr := [(h, .inr (6, [.ref tp, .ref nw, .ref rw, .ref lg, .ref jd, .ref pr, .int 0]))]) (q0 := 1) (As := [.int x1]) (rest := []) hB hV (x_N hB) hl.1 (c_has l D cI cZ cS N0 nw n1 n2 x1 ) rfl rfl k_436 k_59 k_433 k_434 k_435 (by decide +kernel) ⟨(Nat.le_of_ble_eq_true rfl), (Nat.le_of_ble_eq_true rfl)⟩ rfl (Nat.le_of_ble_eq_true rfl) ⟨(Nat.le_of_ble_eq_true rfl), (Nat.le_of_ble_eq_true rfl)⟩ [1] [0] rfl rfl rfl ⟨by decide, by decide, by decide⟩ dX6_set_5 (fun v w H locs hp hV => ?_)
  obtain ⟨rfl, rfl⟩ := hp
  have hV : Vx D A s.heap H locs [(h, .inr (6, [.ref tp, .ref nw, .ref rw, .ref lg, .ref jd, .ref pr, .int 0])), (nw, .inr (5, [.ref n1, .int 0, .int 0, .ref n2, .int 0, .int 0, .int 0, .int 0]))] := hV
  refine W.eq (g2 := F0 m 8 ls [.int 0]) rfl ?_
  refine lv_if_eq (tgt := 19) hx hb dX6_set_8 (by decide) (fun c_ => ?_) (fun c_ => absurd (by decide) c_)
  refine lv_iconst (v := (-1)) hx hb dX6_set_19 (by decide) ?_
  exact x_iret (w := []) hB hr hV hA (Nat.le_of_ble_eq_true rfl) (Nat.le_of_ble_eq_true rfl) [] rfl rfl (by decide) dX6_set_20 ⟨rfl, rfl⟩
set_option maxHeartbeats 4000000 in
set_option maxRecDepth 100000 in
theorem p_about (l : Launch) (D : va_G) (cI cZ cS : ClassId) (N0 : NT) (h : Nat) (tp : Nat) (nw : Nat) (rw : Nat) (lg : Nat) (jd : Nat) (pr : Nat) (n1 : Nat) (n2 : Nat) (x1 : Int32) (x2 : Int32)  : Mx l D cI cZ cS N0 yX6_about cX6_about 4 (some .int) 1 0 0 [.ref h, .int x1, .int x2] [(h, .inr (6, [.ref tp, .ref nw, .ref rw, .ref lg, .ref jd, .ref pr, .int 0])), (nw, .inr (5, [.ref n1, .int 0, .int 0, .ref n2, .int 0, .int 0, .int 0, .int 0]))] (fun v w => v = some (.int (-1)) ∧ w = ([] : va_W)) := by
  refine x_enter (by decide) (Nat.le_of_ble_eq_true rfl) ?_
  intro p e s m args below meth c A ls H locs hB hr hin hl hV hA
  have hx := hB.1
  have hb := hB.2.1
  have hl : lv_has ls 4 [(0, .ref h), (1, .int x1), (2, .int x2)] := hl
  refine lv_aload_n hx hb dX6_about_0 rfl (lv_at hl 0 rfl) ?_
  refine x_get (v := .ref nw) hB hV 0 rfl rfl 1 (by decide) k_309 rfl dX6_about_1 ?_
  refine lv_iload_n hx hb dX6_about_4 rfl (lv_at hl 1 rfl) ?_
  refine x_callV (n := 1) (wr := [(h, .inr (6, [.ref tp, .ref nw, .ref rw, .ref lg, .ref jd, .ref pr, .int 0]))]) (q0 := 1) (As := [.int x1]) (rest := []) hB hV (x_N hB) hl.1 (c_has l D cI cZ cS N0 nw n1 n2 x1 ) rfl rfl k_436 k_59 k_433 k_434 k_435 (by decide +kernel) ⟨(Nat.le_of_ble_eq_true rfl), (Nat.le_of_ble_eq_true rfl)⟩ rfl (Nat.le_of_ble_eq_true rfl) ⟨(Nat.le_of_ble_eq_true rfl), (Nat.le_of_ble_eq_true rfl)⟩ [1] [0] rfl rfl rfl ⟨by decide, by decide, by decide⟩ dX6_about_5 (fun v w H locs hp hV => ?_)
  obtain ⟨rfl, rfl⟩ := hp
  have hV : Vx D A s.heap H locs [(h, .inr (6, [.ref tp, .ref nw, .ref rw, .ref lg, .ref jd, .ref pr, .int 0])), (nw, .inr (5, [.ref n1, .int 0, .int 0, .ref n2, .int 0, .int 0, .int 0, .int 0]))] := hV
  refine W.eq (g2 := F0 m 8 ls [.int 0]) rfl ?_
  refine lv_if_eq (tgt := 20) hx hb dX6_about_8 (by decide) (fun c_ => ?_) (fun c_ => absurd (by decide) c_)
  refine lv_iconst (v := (-1)) hx hb dX6_about_20 (by decide) ?_
  exact x_iret (w := []) hB hr hV hA (Nat.le_of_ble_eq_true rfl) (Nat.le_of_ble_eq_true rfl) [] rfl rfl (by decide) dX6_about_21 ⟨rfl, rfl⟩
set_option maxHeartbeats 4000000 in
set_option maxRecDepth 100000 in
theorem p_act (l : Launch) (D : va_G) (cI cZ cS : ClassId) (N0 : NT) (h : Nat) (tp : Nat) (nw : Nat) (rw : Nat) (lg : Nat) (jd : Nat) (pr : Nat) (n1 : Nat) (n2 : Nat) (x1 : Int32) (x2 : Int32) (x3 : Int32)  : Mx l D cI cZ cS N0 yX6_act cX6_act 5 (some .int) 1 0 0 [.ref h, .int x1, .int x2, .int x3] [(h, .inr (6, [.ref tp, .ref nw, .ref rw, .ref lg, .ref jd, .ref pr, .int 0])), (nw, .inr (5, [.ref n1, .int 0, .int 0, .ref n2, .int 0, .int 0, .int 0, .int 0]))] (fun v w => v = some (.int (-1)) ∧ w = ([] : va_W)) := by
  refine x_enter (by decide) (Nat.le_of_ble_eq_true rfl) ?_
  intro p e s m args below meth c A ls H locs hB hr hin hl hV hA
  have hx := hB.1
  have hb := hB.2.1
  have hl : lv_has ls 5 [(0, .ref h), (1, .int x1), (2, .int x2), (3, .int x3)] := hl
  refine lv_aload_n hx hb dX6_act_0 rfl (lv_at hl 0 rfl) ?_
  refine x_get (v := .ref nw) hB hV 0 rfl rfl 1 (by decide) k_309 rfl dX6_act_1 ?_
  refine lv_iload_n hx hb dX6_act_4 rfl (lv_at hl 1 rfl) ?_
  refine x_callV (n := 1) (wr := [(h, .inr (6, [.ref tp, .ref nw, .ref rw, .ref lg, .ref jd, .ref pr, .int 0]))]) (q0 := 1) (As := [.int x1]) (rest := []) hB hV (x_N hB) hl.1 (c_has l D cI cZ cS N0 nw n1 n2 x1 ) rfl rfl k_436 k_59 k_433 k_434 k_435 (by decide +kernel) ⟨(Nat.le_of_ble_eq_true rfl), (Nat.le_of_ble_eq_true rfl)⟩ rfl (Nat.le_of_ble_eq_true rfl) ⟨(Nat.le_of_ble_eq_true rfl), (Nat.le_of_ble_eq_true rfl)⟩ [1] [0] rfl rfl rfl ⟨by decide, by decide, by decide⟩ dX6_act_5 (fun v w H locs hp hV => ?_)
  obtain ⟨rfl, rfl⟩ := hp
  have hV : Vx D A s.heap H locs [(h, .inr (6, [.ref tp, .ref nw, .ref rw, .ref lg, .ref jd, .ref pr, .int 0])), (nw, .inr (5, [.ref n1, .int 0, .int 0, .ref n2, .int 0, .int 0, .int 0, .int 0]))] := hV
  refine W.eq (g2 := F0 m 8 ls [.int 0]) rfl ?_
  refine lv_if_ne (tgt := 13) hx hb dX6_act_8 (by decide) (fun c_ => absurd (by decide) c_) (fun c_ => ?_)
  refine lv_iconst (v := (-1)) hx hb dX6_act_11 (by decide) ?_
  exact x_iret (w := []) hB hr hV hA (Nat.le_of_ble_eq_true rfl) (Nat.le_of_ble_eq_true rfl) [] rfl rfl (by decide) dX6_act_12 ⟨rfl, rfl⟩
set_option maxHeartbeats 4000000 in
set_option maxRecDepth 100000 in
theorem p_call (l : Launch) (D : va_G) (cI cZ cS : ClassId) (N0 : NT) (h : Nat) (tp : Nat) (nw : Nat) (rw : Nat) (lg : Nat) (jd : Nat) (pr : Nat) (n1 : Nat) (n2 : Nat) (x1 : Int32) (x2 : Int32) (x3 : Int32) (x4 : Int32)  : Mx l D cI cZ cS N0 yX6_call cX6_call 5 (some .int) 1 0 0 [.ref h, .int x1, .int x2, .int x3, .int x4] [(h, .inr (6, [.ref tp, .ref nw, .ref rw, .ref lg, .ref jd, .ref pr, .int 0])), (nw, .inr (5, [.ref n1, .int 0, .int 0, .ref n2, .int 0, .int 0, .int 0, .int 0]))] (fun v w => v = some (.int (-3)) ∧ w = ([] : va_W)) := by
  refine x_enter (by decide) (Nat.le_of_ble_eq_true rfl) ?_
  intro p e s m args below meth c A ls H locs hB hr hin hl hV hA
  have hx := hB.1
  have hb := hB.2.1
  have hl : lv_has ls 5 [(0, .ref h), (1, .int x1), (2, .int x2), (3, .int x3), (4, .int x4)] := hl
  refine lv_aload_n hx hb dX6_call_0 rfl (lv_at hl 0 rfl) ?_
  refine x_get (v := .ref nw) hB hV 0 rfl rfl 1 (by decide) k_309 rfl dX6_call_1 ?_
  refine lv_iload_n hx hb dX6_call_4 rfl (lv_at hl 1 rfl) ?_
  refine x_callV (n := 1) (wr := [(h, .inr (6, [.ref tp, .ref nw, .ref rw, .ref lg, .ref jd, .ref pr, .int 0]))]) (q0 := 1) (As := [.int x1]) (rest := []) hB hV (x_N hB) hl.1 (c_has l D cI cZ cS N0 nw n1 n2 x1 ) rfl rfl k_436 k_59 k_433 k_434 k_435 (by decide +kernel) ⟨(Nat.le_of_ble_eq_true rfl), (Nat.le_of_ble_eq_true rfl)⟩ rfl (Nat.le_of_ble_eq_true rfl) ⟨(Nat.le_of_ble_eq_true rfl), (Nat.le_of_ble_eq_true rfl)⟩ [1] [0] rfl rfl rfl ⟨by decide, by decide, by decide⟩ dX6_call_5 (fun v w H locs hp hV => ?_)
  obtain ⟨rfl, rfl⟩ := hp
  have hV : Vx D A s.heap H locs [(h, .inr (6, [.ref tp, .ref nw, .ref rw, .ref lg, .ref jd, .ref pr, .int 0])), (nw, .inr (5, [.ref n1, .int 0, .int 0, .ref n2, .int 0, .int 0, .int 0, .int 0]))] := hV
  refine W.eq (g2 := F0 m 8 ls [.int 0]) rfl ?_
  refine lv_if_ne (tgt := 14) hx hb dX6_call_8 (by decide) (fun c_ => absurd (by decide) c_) (fun c_ => ?_)
  refine lv_bipush (v := (-3)) hx hb dX6_call_11 (by decide) ?_
  exact x_iret (w := []) hB hr hV hA (Nat.le_of_ble_eq_true rfl) (Nat.le_of_ble_eq_true rfl) [] rfl rfl (by decide) dX6_call_13 ⟨rfl, rfl⟩
set_option maxHeartbeats 4000000 in
set_option maxRecDepth 100000 in
theorem p_row (l : Launch) (D : va_G) (cI cZ cS : ClassId) (N0 : NT) (h : Nat) (tp : Nat) (nw : Nat) (rw : Nat) (lg : Nat) (jd : Nat) (pr : Nat) (n1 : Nat) (n2 : Nat) (x1 : Int32) (x2 : Int32) (x3 : Int32)  : Mx l D cI cZ cS N0 yX6_row cX6_row 4 (some .int) 1 0 0 [.ref h, .int x1, .int x2, .int x3] [(h, .inr (6, [.ref tp, .ref nw, .ref rw, .ref lg, .ref jd, .ref pr, .int 0])), (nw, .inr (5, [.ref n1, .int 0, .int 0, .ref n2, .int 0, .int 0, .int 0, .int 0]))] (fun v w => v = some (.int (-1)) ∧ w = ([] : va_W)) := by
  refine x_enter (by decide) (Nat.le_of_ble_eq_true rfl) ?_
  intro p e s m args below meth c A ls H locs hB hr hin hl hV hA
  have hx := hB.1
  have hb := hB.2.1
  have hl : lv_has ls 4 [(0, .ref h), (1, .int x1), (2, .int x2), (3, .int x3)] := hl
  refine lv_aload_n hx hb dX6_row_0 rfl (lv_at hl 0 rfl) ?_
  refine x_get (v := .ref nw) hB hV 0 rfl rfl 1 (by decide) k_309 rfl dX6_row_1 ?_
  refine lv_iload_n hx hb dX6_row_4 rfl (lv_at hl 1 rfl) ?_
  refine x_callV (n := 1) (wr := [(h, .inr (6, [.ref tp, .ref nw, .ref rw, .ref lg, .ref jd, .ref pr, .int 0]))]) (q0 := 1) (As := [.int x1]) (rest := []) hB hV (x_N hB) hl.1 (c_has l D cI cZ cS N0 nw n1 n2 x1 ) rfl rfl k_436 k_59 k_433 k_434 k_435 (by decide +kernel) ⟨(Nat.le_of_ble_eq_true rfl), (Nat.le_of_ble_eq_true rfl)⟩ rfl (Nat.le_of_ble_eq_true rfl) ⟨(Nat.le_of_ble_eq_true rfl), (Nat.le_of_ble_eq_true rfl)⟩ [1] [0] rfl rfl rfl ⟨by decide, by decide, by decide⟩ dX6_row_5 (fun v w H locs hp hV => ?_)
  obtain ⟨rfl, rfl⟩ := hp
  have hV : Vx D A s.heap H locs [(h, .inr (6, [.ref tp, .ref nw, .ref rw, .ref lg, .ref jd, .ref pr, .int 0])), (nw, .inr (5, [.ref n1, .int 0, .int 0, .ref n2, .int 0, .int 0, .int 0, .int 0]))] := hV
  refine W.eq (g2 := F0 m 8 ls [.int 0]) rfl ?_
  refine lv_if_ne (tgt := 13) hx hb dX6_row_8 (by decide) (fun c_ => absurd (by decide) c_) (fun c_ => ?_)
  refine lv_iconst (v := (-1)) hx hb dX6_row_11 (by decide) ?_
  exact x_iret (w := []) hB hr hV hA (Nat.le_of_ble_eq_true rfl) (Nat.le_of_ble_eq_true rfl) [] rfl rfl (by decide) dX6_row_12 ⟨rfl, rfl⟩
set_option maxHeartbeats 4000000 in
set_option maxRecDepth 100000 in
theorem p_outside (l : Launch) (D : va_G) (cI cZ cS : ClassId) (N0 : NT) (h : Nat) (tp : Nat) (nw : Nat) (rw : Nat) (lg : Nat) (jd : Nat) (pr : Nat) (n1 : Nat) (n2 : Nat) (x1 : Int32)  : Mx l D cI cZ cS N0 yX6_outside cX6_outside 2 (some .int) 1 0 0 [.ref h, .int x1] [(h, .inr (6, [.ref tp, .ref nw, .ref rw, .ref lg, .ref jd, .ref pr, .int 0])), (nw, .inr (5, [.ref n1, .int 0, .int 0, .ref n2, .int 0, .int 0, .int 0, .int 0]))] (fun v w => v = some (.int (-1)) ∧ w = ([] : va_W)) := by
  refine x_enter (by decide) (Nat.le_of_ble_eq_true rfl) ?_
  intro p e s m args below meth c A ls H locs hB hr hin hl hV hA
  have hx := hB.1
  have hb := hB.2.1
  have hl : lv_has ls 2 [(0, .ref h), (1, .int x1)] := hl
  refine lv_iload_n hx hb dX6_outside_0 rfl (lv_at hl 1 rfl) ?_
  refine lv_aload_n hx hb dX6_outside_1 rfl (lv_at hl 0 rfl) ?_
  refine x_get (v := .ref nw) hB hV 0 rfl rfl 1 (by decide) k_309 rfl dX6_outside_2 ?_
  refine x_get (v := .int 0) hB hV 1 rfl rfl 4 (by decide) k_211 rfl dX6_outside_5 ?_
  refine lv_bipush (v := 40) hx hb dX6_outside_8 (by decide) ?_
  refine x_min (v := 0) hB k_559 k_560 k_63 k_561 hl.1 (Nat.le_of_ble_eq_true rfl) (Nat.le_of_ble_eq_true rfl) (Nat.le_of_ble_eq_true rfl) (Nat.le_of_ble_eq_true rfl) (by decide) dX6_outside_10 ?_
  refine lv_iconst (v := 1) hx hb dX6_outside_13 (by decide) ?_
  refine lv_isub hx hb dX6_outside_14 ?_
  refine x_ev (y := (-1)) (by decide) ?_
  refine x_callS (n := 2) (wr := [(h, .inr (6, [.ref tp, .ref nw, .ref rw, .ref lg, .ref jd, .ref pr, .int 0])), (nw, .inr (5, [.ref n1, .int 0, .int 0, .ref n2, .int 0, .int 0, .int 0, .int 0]))]) (As := [.int x1, .int (-1)]) (rest := []) hB hV (x_N hB) hl.1 (c_within_m1 l D cI cZ cS N0 x1 ) k_415 k_57 k_441 k_414 (by decide +kernel) ⟨(Nat.le_of_ble_eq_true rfl), (Nat.le_of_ble_eq_true rfl)⟩ rfl (Nat.le_of_ble_eq_true rfl) ⟨(Nat.le_of_ble_eq_true rfl), (Nat.le_of_ble_eq_true rfl)⟩ [] [0, 1] rfl rfl rfl ⟨by decide, by decide, by decide⟩ dX6_outside_15 (fun v w H locs hp hV => ?_)
  obtain ⟨rfl, rfl⟩ := hp
  have hV : Vx D A s.heap H locs [(h, .inr (6, [.ref tp, .ref nw, .ref rw, .ref lg, .ref jd, .ref pr, .int 0])), (nw, .inr (5, [.ref n1, .int 0, .int 0, .ref n2, .int 0, .int 0, .int 0, .int 0]))] := hV
  refine W.eq (g2 := F0 m 18 ls [.int 0]) rfl ?_
  refine lv_if_ne (tgt := 23) hx hb dX6_outside_18 (by decide) (fun c_ => absurd (by decide) c_) (fun c_ => ?_)
  refine lv_iconst (v := (-1)) hx hb dX6_outside_21 (by decide) ?_
  exact x_iret (w := []) hB hr hV hA (Nat.le_of_ble_eq_true rfl) (Nat.le_of_ble_eq_true rfl) [] rfl rfl (by decide) dX6_outside_22 ⟨rfl, rfl⟩
set_option maxHeartbeats 4000000 in
set_option maxRecDepth 100000 in
theorem p_clear (l : Launch) (D : va_G) (cI cZ cS : ClassId) (N0 : NT) (h : Nat) (tp : Nat) (nw : Nat) (rw : Nat) (lg : Nat) (jd : Nat) (pr : Nat) (r1 : Nat) (r2 : Nat) (r3 : Nat)  : Mx l D cI cZ cS N0 yX6_clear cX6_clear 2 (some .int) 1 0 0 [.ref h] [(h, .inr (6, [.ref tp, .ref nw, .ref rw, .ref lg, .ref jd, .ref pr, .int 0])), (rw, .inr (0, [.ref r1, .ref r2, .ref r3, .int 0]))] (fun v w => v = some (.int 0) ∧ w = ([] : va_W)) := by
  refine x_enter (by decide) (Nat.le_of_ble_eq_true rfl) ?_
  intro p e s m args below meth c A ls H locs hB hr hin hl hV hA
  have hx := hB.1
  have hb := hB.2.1
  have hl : lv_has ls 2 [(0, .ref h)] := hl
  refine lv_aload_n hx hb dX6_clear_0 rfl (lv_at hl 0 rfl) ?_
  refine x_get (v := .ref rw) hB hV 0 rfl rfl 2 (by decide) k_310 rfl dX6_clear_1 ?_
  refine x_get (v := .int 0) hB hV 1 rfl rfl 3 (by decide) k_256 rfl dX6_clear_4 ?_
  refine lv_istore_n (lv' := [(1, .int 0), (0, .ref h)]) hx hb dX6_clear_7 rfl hl (by decide) rfl (fun ls hl => ?_)
  refine lv_aload_n hx hb dX6_clear_8 rfl (lv_at hl 1 rfl) ?_
  refine x_get (v := .ref rw) hB hV 0 rfl rfl 2 (by decide) k_310 rfl dX6_clear_9 ?_
  refine lv_iconst (v := 0) hx hb dX6_clear_12 (by decide) ?_
  refine x_put (v := .int 0) hB hV 1 rfl rfl 3 (by decide) k_256 rfl rfl rfl (Nat.le_of_ble_eq_true rfl) dX6_clear_13 (fun H locs hV => ?_)
  have hV : Vx D A s.heap H locs [(h, .inr (6, [.ref tp, .ref nw, .ref rw, .ref lg, .ref jd, .ref pr, .int 0])), (rw, .inr (0, [.ref r1, .ref r2, .ref r3, .int 0]))] := hV
  refine lv_iload_n hx hb dX6_clear_16 rfl (lv_at hl 0 rfl) ?_
  exact x_iret (w := []) hB hr hV hA (Nat.le_of_ble_eq_true rfl) (Nat.le_of_ble_eq_true rfl) [] rfl rfl (by decide) dX6_clear_17 ⟨rfl, rfl⟩
set_option maxHeartbeats 4000000 in
set_option maxRecDepth 100000 in
theorem p_free (l : Launch) (D : va_G) (cI cZ cS : ClassId) (N0 : NT) (h : Nat) (tp : Nat) (nw : Nat) (rw : Nat) (lg : Nat) (jd : Nat) (pr : Nat) (x1 : Int32)  : Mx l D cI cZ cS N0 yX6_free cX6_free 3 (some .int) 1 0 0 [.ref h, .int x1] [(h, .inr (6, [.ref tp, .ref nw, .ref rw, .ref lg, .ref jd, .ref pr, .int 0]))] (fun v w => ∃ (r : Int32), v = some (.int r) ∧ w = ([] : va_W) ∧ (r = sp_free x1)) := by
  refine x_enter (by decide) (Nat.le_of_ble_eq_true rfl) ?_
  intro p e s m args below meth c A ls H locs hB hr hin hl hV hA
  have hx := hB.1
  have hb := hB.2.1
  have hl : lv_has ls 3 [(0, .ref h), (1, .int x1)] := hl
  refine lv_iload_n hx hb dX6_free_0 rfl (lv_at hl 1 rfl) ?_
  refine lv_iconst (v := 1) hx hb dX6_free_1 (by decide) ?_
  refine x_callS (n := 2) (wr := [(h, .inr (6, [.ref tp, .ref nw, .ref rw, .ref lg, .ref jd, .ref pr, .int 0]))]) (As := [.int x1, .int 1]) (rest := []) hB hV (x_N hB) hl.1 (c_within l D cI cZ cS N0 x1 1 ) k_415 k_57 k_441 k_414 (by decide +kernel) ⟨(Nat.le_of_ble_eq_true rfl), (Nat.le_of_ble_eq_true rfl)⟩ rfl (Nat.le_of_ble_eq_true rfl) ⟨(Nat.le_of_ble_eq_true rfl), (Nat.le_of_ble_eq_true rfl)⟩ [] [0] rfl rfl rfl ⟨by decide, by decide, by decide⟩ dX6_free_2 (fun v w H locs hp hV => ?_)
  obtain ⟨r_1, rfl, rfl, f_2⟩ := hp
  have hV : Vx D A s.heap H locs [(h, .inr (6, [.ref tp, .ref nw, .ref rw, .ref lg, .ref jd, .ref pr, .int 0]))] := hV
  refine W.eq (g2 := F0 m 5 ls [.int r_1]) rfl ?_
  rcases f_2 with ⟨rfl, hw_3⟩ | ⟨rfl, hw_3⟩
  · refine W.eq (g2 := F0 m 5 ls [.int 1]) rfl ?_
    refine lv_if_ne (tgt := 11) hx hb dX6_free_5 (by decide) (fun c_ => ?_) (fun c_ => absurd c_ (by decide))
    refine lv_aload_n hx hb dX6_free_11 rfl (lv_at hl 0 rfl) ?_
    refine x_get (v := .int 0) hB hV 0 rfl rfl 6 (by decide) k_314 rfl dX6_free_12 ?_
    refine lv_if_eq (tgt := 22) hx hb dX6_free_15 (by decide) (fun c_ => ?_) (fun c_ => absurd (by decide) c_)
    refine lv_iconst (v := 0) hx hb dX6_free_22 (by decide) ?_
    refine lv_istore_n (lv' := [(2, .int 0), (0, .ref h), (1, .int x1)]) hx hb dX6_free_23 rfl hl (by decide) rfl (fun ls hl => ?_)
    refine lv_aload_n hx hb dX6_free_24 rfl (lv_at hl 1 rfl) ?_
    refine lv_iload_n hx hb dX6_free_25 rfl (lv_at hl 2 rfl) ?_
    refine lv_iconst (v := 1) hx hb dX6_free_26 (by decide) ?_
    refine lv_icmp_ne (tgt := 34) hx hb dX6_free_27 (by decide) (fun c5 => ?_) (fun c5 => ?_)
    · refine lv_iconst (v := 0) hx hb dX6_free_34 (by decide) ?_
      refine x_put (v := .int 0) hB hV 0 rfl rfl 6 (by decide) k_314 rfl rfl rfl (Nat.le_of_ble_eq_true rfl) dX6_free_35 (fun H locs hV => ?_)
      have hV : Vx D A s.heap H locs [(h, .inr (6, [.ref tp, .ref nw, .ref rw, .ref lg, .ref jd, .ref pr, .int 0]))] := hV
      refine lv_iload_n hx hb dX6_free_38 rfl (lv_at hl 0 rfl) ?_
      exact x_iret (w := []) hB hr hV hA (Nat.le_of_ble_eq_true rfl) (Nat.le_of_ble_eq_true rfl) [] rfl rfl (by decide) dX6_free_39 ⟨0, rfl, rfl, (if_neg hw_3).symm⟩
    · refine lv_iconst (v := 1) hx hb dX6_free_30 (by decide) ?_
      refine lv_goto (tgt := 35) hx hb dX6_free_31 (by decide) ?_
      refine x_put (v := .int 1) hB hV 0 rfl rfl 6 (by decide) k_314 rfl rfl rfl (Nat.le_of_ble_eq_true rfl) dX6_free_35 (fun H locs hV => ?_)
      have hV : Vx D A s.heap H locs [(h, .inr (6, [.ref tp, .ref nw, .ref rw, .ref lg, .ref jd, .ref pr, .int 1]))] := hV
      refine lv_iload_n hx hb dX6_free_38 rfl (lv_at hl 0 rfl) ?_
      exact x_iret (w := []) hB hr hV hA (Nat.le_of_ble_eq_true rfl) (Nat.le_of_ble_eq_true rfl) [] rfl rfl (by decide) dX6_free_39 ⟨0, rfl, rfl, (if_neg hw_3).symm⟩
  · refine W.eq (g2 := F0 m 5 ls [.int 0]) rfl ?_
    refine lv_if_ne (tgt := 11) hx hb dX6_free_5 (by decide) (fun c_ => absurd (by decide) c_) (fun c_ => ?_)
    refine lv_bipush (v := (-2)) hx hb dX6_free_8 (by decide) ?_
    exact x_iret (w := []) hB hr hV hA (Nat.le_of_ble_eq_true rfl) (Nat.le_of_ble_eq_true rfl) [] rfl rfl (by decide) dX6_free_10 ⟨(-2), rfl, rfl, (if_pos hw_3).symm⟩
set_option maxHeartbeats 4000000 in
set_option maxRecDepth 100000 in
theorem p_safe (l : Launch) (D : va_G) (cI cZ cS : ClassId) (N0 : NT) (h : Nat) (tp : Nat) (nw : Nat) (rw : Nat) (lg : Nat) (jd : Nat) (pr : Nat) (r1 : Nat) (r2 : Nat) (r3 : Nat) (x1 : Int32) (x2 : Int32) (x3 : Int32)  : Mx l D cI cZ cS N0 yX6_safe cX6_safe 4 (some .int) 1 0 0 [.ref h, .int x1, .int x2, .int x3] [(h, .inr (6, [.ref tp, .ref nw, .ref rw, .ref lg, .ref jd, .ref pr, .int 0])), (rw, .inr (0, [.ref r1, .ref r2, .ref r3, .int 0]))] (fun v w => v = some (.int (-1)) ∧ w = ([] : va_W)) := by
  refine x_enter (by decide) (Nat.le_of_ble_eq_true rfl) ?_
  intro p e s m args below meth c A ls H locs hB hr hin hl hV hA
  have hx := hB.1
  have hb := hB.2.1
  have hl : lv_has ls 4 [(0, .ref h), (1, .int x1), (2, .int x2), (3, .int x3)] := hl
  refine lv_iload_n hx hb dX6_safe_0 rfl (lv_at hl 1 rfl) ?_
  refine lv_aload_n hx hb dX6_safe_1 rfl (lv_at hl 0 rfl) ?_
  refine x_get (v := .ref rw) hB hV 0 rfl rfl 2 (by decide) k_310 rfl dX6_safe_2 ?_
  refine x_get (v := .int 0) hB hV 1 rfl rfl 3 (by decide) k_256 rfl dX6_safe_5 ?_
  refine lv_iconst (v := 1) hx hb dX6_safe_8 (by decide) ?_
  refine lv_isub hx hb dX6_safe_9 ?_
  refine x_ev (y := (-1)) (by decide) ?_
  refine x_callS (n := 2) (wr := [(h, .inr (6, [.ref tp, .ref nw, .ref rw, .ref lg, .ref jd, .ref pr, .int 0])), (rw, .inr (0, [.ref r1, .ref r2, .ref r3, .int 0]))]) (As := [.int x1, .int (-1)]) (rest := []) hB hV (x_N hB) hl.1 (c_within_m1 l D cI cZ cS N0 x1 ) k_415 k_57 k_441 k_414 (by decide +kernel) ⟨(Nat.le_of_ble_eq_true rfl), (Nat.le_of_ble_eq_true rfl)⟩ rfl (Nat.le_of_ble_eq_true rfl) ⟨(Nat.le_of_ble_eq_true rfl), (Nat.le_of_ble_eq_true rfl)⟩ [] [0, 1] rfl rfl rfl ⟨by decide, by decide, by decide⟩ dX6_safe_10 (fun v w H locs hp hV => ?_)
  obtain ⟨rfl, rfl⟩ := hp
  have hV : Vx D A s.heap H locs [(h, .inr (6, [.ref tp, .ref nw, .ref rw, .ref lg, .ref jd, .ref pr, .int 0])), (rw, .inr (0, [.ref r1, .ref r2, .ref r3, .int 0]))] := hV
  refine W.eq (g2 := F0 m 13 ls [.int 0]) rfl ?_
  refine lv_if_ne (tgt := 18) hx hb dX6_safe_13 (by decide) (fun c_ => absurd (by decide) c_) (fun c_ => ?_)
  refine lv_iconst (v := (-1)) hx hb dX6_safe_16 (by decide) ?_
  exact x_iret (w := []) hB hr hV hA (Nat.le_of_ble_eq_true rfl) (Nat.le_of_ble_eq_true rfl) [] rfl rfl (by decide) dX6_safe_17 ⟨rfl, rfl⟩
set_option maxHeartbeats 4000000 in
set_option maxRecDepth 100000 in
theorem p_orders (l : Launch) (D : va_G) (cI cZ cS : ClassId) (N0 : NT) (h : Nat) (tp : Nat) (nw : Nat) (rw : Nat) (lg : Nat) (jd : Nat) (pr : Nat) (r1 : Nat) (r2 : Nat) (r3 : Nat) (x1 : Int32) (x2 : Int32)  : Mx l D cI cZ cS N0 yX6_orders cX6_orders 3 (some .int) 1 0 0 [.ref h, .int x1, .int x2] [(h, .inr (6, [.ref tp, .ref nw, .ref rw, .ref lg, .ref jd, .ref pr, .int 0])), (rw, .inr (0, [.ref r1, .ref r2, .ref r3, .int 0]))] (fun v w => v = some (.int (-1)) ∧ w = ([] : va_W)) := by
  refine x_enter (by decide) (Nat.le_of_ble_eq_true rfl) ?_
  intro p e s m args below meth c A ls H locs hB hr hin hl hV hA
  have hx := hB.1
  have hb := hB.2.1
  have hl : lv_has ls 3 [(0, .ref h), (1, .int x1), (2, .int x2)] := hl
  refine lv_iload_n hx hb dX6_orders_0 rfl (lv_at hl 1 rfl) ?_
  refine lv_aload_n hx hb dX6_orders_1 rfl (lv_at hl 0 rfl) ?_
  refine x_get (v := .ref rw) hB hV 0 rfl rfl 2 (by decide) k_310 rfl dX6_orders_2 ?_
  refine x_get (v := .int 0) hB hV 1 rfl rfl 3 (by decide) k_256 rfl dX6_orders_5 ?_
  refine lv_iconst (v := 1) hx hb dX6_orders_8 (by decide) ?_
  refine lv_isub hx hb dX6_orders_9 ?_
  refine x_ev (y := (-1)) (by decide) ?_
  refine x_callS (n := 2) (wr := [(h, .inr (6, [.ref tp, .ref nw, .ref rw, .ref lg, .ref jd, .ref pr, .int 0])), (rw, .inr (0, [.ref r1, .ref r2, .ref r3, .int 0]))]) (As := [.int x1, .int (-1)]) (rest := []) hB hV (x_N hB) hl.1 (c_within_m1 l D cI cZ cS N0 x1 ) k_415 k_57 k_441 k_414 (by decide +kernel) ⟨(Nat.le_of_ble_eq_true rfl), (Nat.le_of_ble_eq_true rfl)⟩ rfl (Nat.le_of_ble_eq_true rfl) ⟨(Nat.le_of_ble_eq_true rfl), (Nat.le_of_ble_eq_true rfl)⟩ [] [0, 1] rfl rfl rfl ⟨by decide, by decide, by decide⟩ dX6_orders_10 (fun v w H locs hp hV => ?_)
  obtain ⟨rfl, rfl⟩ := hp
  have hV : Vx D A s.heap H locs [(h, .inr (6, [.ref tp, .ref nw, .ref rw, .ref lg, .ref jd, .ref pr, .int 0])), (rw, .inr (0, [.ref r1, .ref r2, .ref r3, .int 0]))] := hV
  refine W.eq (g2 := F0 m 13 ls [.int 0]) rfl ?_
  refine lv_if_eq (tgt := 24) hx hb dX6_orders_13 (by decide) (fun c_ => ?_) (fun c_ => absurd (by decide) c_)
  refine lv_iconst (v := (-1)) hx hb dX6_orders_24 (by decide) ?_
  exact x_iret (w := []) hB hr hV hA (Nat.le_of_ble_eq_true rfl) (Nat.le_of_ble_eq_true rfl) [] rfl rfl (by decide) dX6_orders_25 ⟨rfl, rfl⟩
set_option maxHeartbeats 4000000 in
set_option maxRecDepth 100000 in
theorem p_log (l : Launch) (D : va_G) (cI cZ cS : ClassId) (N0 : NT) (h : Nat) (tp : Nat) (nw : Nat) (rw : Nat) (lg : Nat) (jd : Nat) (pr : Nat) (l1 : Nat) (l2 : Nat) (l3 : Nat) (x1 : Int32) (x2 : Int32)  : Mx l D cI cZ cS N0 yX6_log cX6_log 3 (some .int) 1 0 0 [.ref h, .int x1, .int x2] [(h, .inr (6, [.ref tp, .ref nw, .ref rw, .ref lg, .ref jd, .ref pr, .int 0])), (lg, .inr (0, [.ref l1, .ref l2, .ref l3, .int 0]))] (fun v w => v = some (.int (-1)) ∧ w = ([] : va_W)) := by
  refine x_enter (by decide) (Nat.le_of_ble_eq_true rfl) ?_
  intro p e s m args below meth c A ls H locs hB hr hin hl hV hA
  have hx := hB.1
  have hb := hB.2.1
  have hl : lv_has ls 3 [(0, .ref h), (1, .int x1), (2, .int x2)] := hl
  refine lv_iload_n hx hb dX6_log_0 rfl (lv_at hl 1 rfl) ?_
  refine lv_aload_n hx hb dX6_log_1 rfl (lv_at hl 0 rfl) ?_
  refine x_get (v := .ref lg) hB hV 0 rfl rfl 3 (by decide) k_311 rfl dX6_log_2 ?_
  refine x_get (v := .int 0) hB hV 1 rfl rfl 3 (by decide) k_256 rfl dX6_log_5 ?_
  refine lv_iconst (v := 1) hx hb dX6_log_8 (by decide) ?_
  refine lv_isub hx hb dX6_log_9 ?_
  refine x_ev (y := (-1)) (by decide) ?_
  refine x_callS (n := 2) (wr := [(h, .inr (6, [.ref tp, .ref nw, .ref rw, .ref lg, .ref jd, .ref pr, .int 0])), (lg, .inr (0, [.ref l1, .ref l2, .ref l3, .int 0]))]) (As := [.int x1, .int (-1)]) (rest := []) hB hV (x_N hB) hl.1 (c_within_m1 l D cI cZ cS N0 x1 ) k_415 k_57 k_441 k_414 (by decide +kernel) ⟨(Nat.le_of_ble_eq_true rfl), (Nat.le_of_ble_eq_true rfl)⟩ rfl (Nat.le_of_ble_eq_true rfl) ⟨(Nat.le_of_ble_eq_true rfl), (Nat.le_of_ble_eq_true rfl)⟩ [] [0, 1] rfl rfl rfl ⟨by decide, by decide, by decide⟩ dX6_log_10 (fun v w H locs hp hV => ?_)
  obtain ⟨rfl, rfl⟩ := hp
  have hV : Vx D A s.heap H locs [(h, .inr (6, [.ref tp, .ref nw, .ref rw, .ref lg, .ref jd, .ref pr, .int 0])), (lg, .inr (0, [.ref l1, .ref l2, .ref l3, .int 0]))] := hV
  refine W.eq (g2 := F0 m 13 ls [.int 0]) rfl ?_
  refine lv_if_ne (tgt := 18) hx hb dX6_log_13 (by decide) (fun c_ => absurd (by decide) c_) (fun c_ => ?_)
  refine lv_iconst (v := (-1)) hx hb dX6_log_16 (by decide) ?_
  exact x_iret (w := []) hB hr hV hA (Nat.le_of_ble_eq_true rfl) (Nat.le_of_ble_eq_true rfl) [] rfl rfl (by decide) dX6_log_17 ⟨rfl, rfl⟩
set_option maxHeartbeats 4000000 in
set_option maxRecDepth 100000 in
theorem p_worst (l : Launch) (D : va_G) (cI cZ cS : ClassId) (N0 : NT) (h : Nat) (tp : Nat) (nw : Nat) (rw : Nat) (lg : Nat) (jd : Nat) (pr : Nat) (n1 : Nat) (n2 : Nat) (r1 : Nat) (r2 : Nat) (r3 : Nat) (s1 : Nat) (s2 : Nat) (s3 : Nat) (s4 : Nat) (s5 : Nat) (s6 : Nat) (s7 : Nat) (s8 : Nat) (s9 : Nat) (b1 : Nat) (b2 : Nat) (b3 : Nat) (b4 : Nat) (b5 : Nat) (b6 : Nat)  : Mx l D cI cZ cS N0 yX6_worst cX6_worst 1 (some .int) 4 0 0 [.ref h] [(h, .inr (6, [.ref tp, .ref nw, .ref rw, .ref lg, .ref jd, .ref pr, .int 0])), (nw, .inr (5, [.ref n1, .int 0, .int 0, .ref n2, .int 0, .int 0, .int 0, .int 0])), (rw, .inr (0, [.ref r1, .ref r2, .ref r3, .int 0])), (jd, .inr (1, [.ref s1, .ref s2, .ref s3, .ref b1, .ref b2, .ref b3, .int 0, .ref b4, .ref b5, .ref b6])), (s1, .inr (5, [.ref s4, .int 0, .int 0, .ref s5, .int 0, .int 0, .int 0, .int 0])), (s2, .inr (5, [.ref s6, .int 0, .int 0, .ref s7, .int 0, .int 0, .int 0, .int 0])), (s3, .inr (5, [.ref s8, .int 0, .int 0, .ref s9, .int 0, .int 0, .int 0, .int 0]))] (fun v w => v = some (.int (-1)) ∧ w = ([] : va_W)) := by
  refine x_enter (by decide) (Nat.le_of_ble_eq_true rfl) ?_
  intro p e s m args below meth c A ls H locs hB hr hin hl hV hA
  have hx := hB.1
  have hb := hB.2.1
  have hl : lv_has ls 1 [(0, .ref h)] := hl
  refine lv_aload_n hx hb dX6_worst_0 rfl (lv_at hl 0 rfl) ?_
  refine x_get (v := .ref jd) hB hV 0 rfl rfl 4 (by decide) k_312 rfl dX6_worst_1 ?_
  refine lv_aload_n hx hb dX6_worst_4 rfl (lv_at hl 0 rfl) ?_
  refine x_get (v := .ref nw) hB hV 0 rfl rfl 1 (by decide) k_309 rfl dX6_worst_5 ?_
  refine x_callV (n := 1) (wr := [(h, .inr (6, [.ref tp, .ref nw, .ref rw, .ref lg, .ref jd, .ref pr, .int 0])), (rw, .inr (0, [.ref r1, .ref r2, .ref r3, .int 0])), (s2, .inr (5, [.ref s6, .int 0, .int 0, .ref s7, .int 0, .int 0, .int 0, .int 0])), (s3, .inr (5, [.ref s8, .int 0, .int 0, .ref s9, .int 0, .int 0, .int 0, .int 0]))]) (q0 := 3) (As := [.ref nw]) (rest := []) hB hV (x_N hB) hl.1 (c_beginAt l D cI cZ cS N0 jd s1 s2 s3 s4 s5 0 0 0 0 b1 b2 b3 b4 b5 b6 nw n1 n2 ) rfl rfl k_581 k_64 k_578 k_579 k_580 (by decide +kernel) ⟨(Nat.le_of_ble_eq_true rfl), (Nat.le_of_ble_eq_true rfl)⟩ rfl (Nat.le_of_ble_eq_true rfl) ⟨(Nat.le_of_ble_eq_true rfl), (Nat.le_of_ble_eq_true rfl)⟩ [3, 4, 1] [0, 2, 5, 6] rfl rfl rfl ⟨by decide, by decide, by decide⟩ dX6_worst_8 (fun v w H locs hp hV => ?_)
  obtain ⟨rfl, rfl⟩ := hp
  have hV : Vx D A s.heap H locs [(h, .inr (6, [.ref tp, .ref nw, .ref rw, .ref lg, .ref jd, .ref pr, .int 0])), (rw, .inr (0, [.ref r1, .ref r2, .ref r3, .int 0])), (s2, .inr (5, [.ref s6, .int 0, .int 0, .ref s7, .int 0, .int 0, .int 0, .int 0])), (s3, .inr (5, [.ref s8, .int 0, .int 0, .ref s9, .int 0, .int 0, .int 0, .int 0])), (jd, .inr (1, [.ref s1, .ref s2, .ref s3, .ref b1, .ref b2, .ref b3, .int 0, .ref b4, .ref b5, .ref b6])), (s1, .inr (5, [.ref s4, .int 0, .int 0, .ref s5, .int 0, .int 0, .int 0, .int 0])), (nw, .inr (5, [.ref n1, .int 0, .int 0, .ref n2, .int 0, .int 0, .int 0, .int 0]))] := hV
  refine W.eq (g2 := F0 m 11 ls []) rfl ?_
  refine lv_aload_n hx hb dX6_worst_11 rfl (lv_at hl 0 rfl) ?_
  refine x_get (v := .ref jd) hB hV 0 rfl rfl 4 (by decide) k_312 rfl dX6_worst_12 ?_
  refine lv_aload_n hx hb dX6_worst_15 rfl (lv_at hl 0 rfl) ?_
  refine x_get (v := .ref rw) hB hV 0 rfl rfl 2 (by decide) k_310 rfl dX6_worst_16 ?_
  refine lv_aload_n hx hb dX6_worst_19 rfl (lv_at hl 0 rfl) ?_
  refine x_get (v := .int 0) hB hV 0 rfl rfl 6 (by decide) k_314 rfl dX6_worst_20 ?_
  refine x_callV (n := 2) (wr := [(h, .inr (6, [.ref tp, .ref nw, .ref rw, .ref lg, .ref jd, .ref pr, .int 0])), (nw, .inr (5, [.ref n1, .int 0, .int 0, .ref n2, .int 0, .int 0, .int 0, .int 0]))]) (q0 := 4) (As := [.ref rw, .int 0]) (rest := []) hB hV (x_N hB) hl.1 (c_firstUnsafe l D cI cZ cS N0 jd s1 s2 s3 s4 s5 s6 s7 s8 s9 b1 b2 b3 b4 b5 b6 rw r1 r2 r3 ) rfl rfl k_626 k_64 k_623 k_624 k_625 (by decide +kernel) ⟨(Nat.le_of_ble_eq_true rfl), (Nat.le_of_ble_eq_true rfl)⟩ rfl (Nat.le_of_ble_eq_true rfl) ⟨(Nat.le_of_ble_eq_true rfl), (Nat.le_of_ble_eq_true rfl)⟩ [4, 5, 2, 3, 1] [0, 6] rfl rfl rfl ⟨by decide, by decide, by decide⟩ dX6_worst_23 (fun v w H locs hp hV => ?_)
  obtain ⟨rfl, rfl⟩ := hp
  have hV : Vx D A s.heap H locs [(h, .inr (6, [.ref tp, .ref nw, .ref rw, .ref lg, .ref jd, .ref pr, .int 0])), (nw, .inr (5, [.ref n1, .int 0, .int 0, .ref n2, .int 0, .int 0, .int 0, .int 0])), (jd, .inr (1, [.ref s1, .ref s2, .ref s3, .ref b1, .ref b2, .ref b3, .int 0, .ref b4, .ref b5, .ref b6])), (s1, .inr (5, [.ref s4, .int 0, .int 0, .ref s5, .int 0, .int 0, .int 0, .int 0])), (s2, .inr (5, [.ref s6, .int 0, .int 0, .ref s7, .int 0, .int 0, .int 0, .int 0])), (s3, .inr (5, [.ref s8, .int 0, .int 0, .ref s9, .int 0, .int 0, .int 0, .int 0])), (rw, .inr (0, [.ref r1, .ref r2, .ref r3, .int 0]))] := hV
  refine W.eq (g2 := F0 m 26 ls [.int (-1)]) rfl ?_
  exact x_iret (w := []) hB hr hV hA (Nat.le_of_ble_eq_true rfl) (Nat.le_of_ble_eq_true rfl) [] rfl rfl (by decide) dX6_worst_26 ⟨rfl, rfl⟩
set_option maxHeartbeats 4000000 in
set_option maxRecDepth 100000 in
theorem p_enough (l : Launch) (D : va_G) (cI cZ cS : ClassId) (N0 : NT) (h : Nat) (tp : Nat) (nw : Nat) (rw : Nat) (lg : Nat) (jd : Nat) (pr : Nat) (n1 : Nat) (n2 : Nat) (r1 : Nat) (r2 : Nat) (r3 : Nat) (s1 : Nat) (s2 : Nat) (s3 : Nat) (s4 : Nat) (s5 : Nat) (s6 : Nat) (s7 : Nat) (s8 : Nat) (s9 : Nat) (b1 : Nat) (b2 : Nat) (b3 : Nat) (b4 : Nat) (b5 : Nat) (b6 : Nat)  : Mx l D cI cZ cS N0 yX6_enough cX6_enough 2 (some .int) 4 0 0 [.ref h] [(h, .inr (6, [.ref tp, .ref nw, .ref rw, .ref lg, .ref jd, .ref pr, .int 0])), (nw, .inr (5, [.ref n1, .int 0, .int 0, .ref n2, .int 0, .int 0, .int 0, .int 0])), (rw, .inr (0, [.ref r1, .ref r2, .ref r3, .int 0])), (jd, .inr (1, [.ref s1, .ref s2, .ref s3, .ref b1, .ref b2, .ref b3, .int 0, .ref b4, .ref b5, .ref b6])), (s1, .inr (5, [.ref s4, .int 0, .int 0, .ref s5, .int 0, .int 0, .int 0, .int 0])), (s2, .inr (5, [.ref s6, .int 0, .int 0, .ref s7, .int 0, .int 0, .int 0, .int 0])), (s3, .inr (5, [.ref s8, .int 0, .int 0, .ref s9, .int 0, .int 0, .int 0, .int 0]))] (fun v w => v = some (.int 0) ∧ w = ([] : va_W)) := by
  refine x_enter (by decide) (Nat.le_of_ble_eq_true rfl) ?_
  intro p e s m args below meth c A ls H locs hB hr hin hl hV hA
  have hx := hB.1
  have hb := hB.2.1
  have hl : lv_has ls 2 [(0, .ref h)] := hl
  refine lv_iconst (v := 0) hx hb dX6_enough_0 (by decide) ?_
  refine lv_istore_n (lv' := [(1, .int 0), (0, .ref h)]) hx hb dX6_enough_1 rfl hl (by decide) rfl (fun ls hl => ?_)
  refine lv_iload_n hx hb dX6_enough_2 rfl (lv_at hl 0 rfl) ?_
  refine lv_bipush (v := 20) hx hb dX6_enough_3 (by decide) ?_
  refine lv_icmp_gt (tgt := 57) hx hb dX6_enough_5 (by decide) (fun c_ => absurd c_ (by decide)) (fun c_ => ?_)
  refine lv_aload_n hx hb dX6_enough_8 rfl (lv_at hl 1 rfl) ?_
  refine x_get (v := .ref jd) hB hV 0 rfl rfl 4 (by decide) k_312 rfl dX6_enough_9 ?_
  refine lv_aload_n hx hb dX6_enough_12 rfl (lv_at hl 1 rfl) ?_
  refine x_get (v := .ref nw) hB hV 0 rfl rfl 1 (by decide) k_309 rfl dX6_enough_13 ?_
  refine x_callV (n := 1) (wr := [(h, .inr (6, [.ref tp, .ref nw, .ref rw, .ref lg, .ref jd, .ref pr, .int 0])), (rw, .inr (0, [.ref r1, .ref r2, .ref r3, .int 0])), (s2, .inr (5, [.ref s6, .int 0, .int 0, .ref s7, .int 0, .int 0, .int 0, .int 0])), (s3, .inr (5, [.ref s8, .int 0, .int 0, .ref s9, .int 0, .int 0, .int 0, .int 0]))]) (q0 := 3) (As := [.ref nw]) (rest := []) hB hV (x_N hB) hl.1 (c_beginAt l D cI cZ cS N0 jd s1 s2 s3 s4 s5 0 0 0 0 b1 b2 b3 b4 b5 b6 nw n1 n2 ) rfl rfl k_581 k_64 k_578 k_579 k_580 (by decide +kernel) ⟨(Nat.le_of_ble_eq_true rfl), (Nat.le_of_ble_eq_true rfl)⟩ rfl (Nat.le_of_ble_eq_true rfl) ⟨(Nat.le_of_ble_eq_true rfl), (Nat.le_of_ble_eq_true rfl)⟩ [3, 4, 1] [0, 2, 5, 6] rfl rfl rfl ⟨by decide, by decide, by decide⟩ dX6_enough_16 (fun v w H locs hp hV => ?_)
  obtain ⟨rfl, rfl⟩ := hp
  have hV : Vx D A s.heap H locs [(h, .inr (6, [.ref tp, .ref nw, .ref rw, .ref lg, .ref jd, .ref pr, .int 0])), (rw, .inr (0, [.ref r1, .ref r2, .ref r3, .int 0])), (s2, .inr (5, [.ref s6, .int 0, .int 0, .ref s7, .int 0, .int 0, .int 0, .int 0])), (s3, .inr (5, [.ref s8, .int 0, .int 0, .ref s9, .int 0, .int 0, .int 0, .int 0])), (jd, .inr (1, [.ref s1, .ref s2, .ref s3, .ref b1, .ref b2, .ref b3, .int 0, .ref b4, .ref b5, .ref b6])), (s1, .inr (5, [.ref s4, .int 0, .int 0, .ref s5, .int 0, .int 0, .int 0, .int 0])), (nw, .inr (5, [.ref n1, .int 0, .int 0, .ref n2, .int 0, .int 0, .int 0, .int 0]))] := hV
  refine W.eq (g2 := F0 m 19 ls []) rfl ?_
  refine lv_aload_n hx hb dX6_enough_19 rfl (lv_at hl 1 rfl) ?_
  refine x_get (v := .ref jd) hB hV 0 rfl rfl 4 (by decide) k_312 rfl dX6_enough_20 ?_
  refine x_get (v := .ref s1) hB hV 4 rfl rfl 0 (by decide) k_277 rfl dX6_enough_23 ?_
  refine lv_iload_n hx hb dX6_enough_26 rfl (lv_at hl 0 rfl) ?_
  refine x_callV (n := 1) (wr := [(h, .inr (6, [.ref tp, .ref nw, .ref rw, .ref lg, .ref jd, .ref pr, .int 0])), (rw, .inr (0, [.ref r1, .ref r2, .ref r3, .int 0])), (s2, .inr (5, [.ref s6, .int 0, .int 0, .ref s7, .int 0, .int 0, .int 0, .int 0])), (s3, .inr (5, [.ref s8, .int 0, .int 0, .ref s9, .int 0, .int 0, .int 0, .int 0])), (jd, .inr (1, [.ref s1, .ref s2, .ref s3, .ref b1, .ref b2, .ref b3, .int 0, .ref b4, .ref b5, .ref b6])), (nw, .inr (5, [.ref n1, .int 0, .int 0, .ref n2, .int 0, .int 0, .int 0, .int 0]))]) (q0 := 5) (As := [.int 0]) (rest := []) hB hV (x_N hB) hl.1 (c_holdAll l D cI cZ cS N0 s1 s4 s5 0 ) rfl rfl k_672 k_59 k_669 k_670 k_671 (by decide +kernel) ⟨(Nat.le_of_ble_eq_true rfl), (Nat.le_of_ble_eq_true rfl)⟩ rfl (Nat.le_of_ble_eq_true rfl) ⟨(Nat.le_of_ble_eq_true rfl), (Nat.le_of_ble_eq_true rfl)⟩ [5] [0, 1, 2, 3, 4, 6] rfl rfl rfl ⟨by decide, by decide, by decide⟩ dX6_enough_27 (fun v w H locs hp hV => ?_)
  obtain ⟨rfl, rfl⟩ := hp
  have hV : Vx D A s.heap H locs [(h, .inr (6, [.ref tp, .ref nw, .ref rw, .ref lg, .ref jd, .ref pr, .int 0])), (rw, .inr (0, [.ref r1, .ref r2, .ref r3, .int 0])), (s2, .inr (5, [.ref s6, .int 0, .int 0, .ref s7, .int 0, .int 0, .int 0, .int 0])), (s3, .inr (5, [.ref s8, .int 0, .int 0, .ref s9, .int 0, .int 0, .int 0, .int 0])), (jd, .inr (1, [.ref s1, .ref s2, .ref s3, .ref b1, .ref b2, .ref b3, .int 0, .ref b4, .ref b5, .ref b6])), (nw, .inr (5, [.ref n1, .int 0, .int 0, .ref n2, .int 0, .int 0, .int 0, .int 0])), (s1, .inr (5, [.ref s4, .int 0, .int 0, .ref s5, .int 0, .int 0, .int 0, .int 0]))] := hV
  refine W.eq (g2 := F0 m 30 ls []) rfl ?_
  refine lv_aload_n hx hb dX6_enough_30 rfl (lv_at hl 1 rfl) ?_
  refine x_get (v := .ref jd) hB hV 0 rfl rfl 4 (by decide) k_312 rfl dX6_enough_31 ?_
  refine lv_aload_n hx hb dX6_enough_34 rfl (lv_at hl 1 rfl) ?_
  refine x_get (v := .ref rw) hB hV 0 rfl rfl 2 (by decide) k_310 rfl dX6_enough_35 ?_
  refine lv_aload_n hx hb dX6_enough_38 rfl (lv_at hl 1 rfl) ?_
  refine x_get (v := .int 0) hB hV 0 rfl rfl 6 (by decide) k_314 rfl dX6_enough_39 ?_
  refine x_callV (n := 2) (wr := [(h, .inr (6, [.ref tp, .ref nw, .ref rw, .ref lg, .ref jd, .ref pr, .int 0])), (nw, .inr (5, [.ref n1, .int 0, .int 0, .ref n2, .int 0, .int 0, .int 0, .int 0]))]) (q0 := 4) (As := [.ref rw, .int 0]) (rest := []) hB hV (x_N hB) hl.1 (c_firstUnsafe l D cI cZ cS N0 jd s1 s2 s3 s4 s5 s6 s7 s8 s9 b1 b2 b3 b4 b5 b6 rw r1 r2 r3 ) rfl rfl k_626 k_64 k_623 k_624 k_625 (by decide +kernel) ⟨(Nat.le_of_ble_eq_true rfl), (Nat.le_of_ble_eq_true rfl)⟩ rfl (Nat.le_of_ble_eq_true rfl) ⟨(Nat.le_of_ble_eq_true rfl), (Nat.le_of_ble_eq_true rfl)⟩ [4, 6, 2, 3, 1] [0, 5] rfl rfl rfl ⟨by decide, by decide, by decide⟩ dX6_enough_42 (fun v w H locs hp hV => ?_)
  obtain ⟨rfl, rfl⟩ := hp
  have hV : Vx D A s.heap H locs [(h, .inr (6, [.ref tp, .ref nw, .ref rw, .ref lg, .ref jd, .ref pr, .int 0])), (nw, .inr (5, [.ref n1, .int 0, .int 0, .ref n2, .int 0, .int 0, .int 0, .int 0])), (jd, .inr (1, [.ref s1, .ref s2, .ref s3, .ref b1, .ref b2, .ref b3, .int 0, .ref b4, .ref b5, .ref b6])), (s1, .inr (5, [.ref s4, .int 0, .int 0, .ref s5, .int 0, .int 0, .int 0, .int 0])), (s2, .inr (5, [.ref s6, .int 0, .int 0, .ref s7, .int 0, .int 0, .int 0, .int 0])), (s3, .inr (5, [.ref s8, .int 0, .int 0, .ref s9, .int 0, .int 0, .int 0, .int 0])), (rw, .inr (0, [.ref r1, .ref r2, .ref r3, .int 0]))] := hV
  refine W.eq (g2 := F0 m 45 ls [.int (-1)]) rfl ?_
  refine lv_iconst (v := (-1)) hx hb dX6_enough_45 (by decide) ?_
  refine lv_icmp_ne (tgt := 51) hx hb dX6_enough_46 (by decide) (fun c_ => absurd (by decide) c_) (fun c_ => ?_)
  refine lv_iload_n hx hb dX6_enough_49 rfl (lv_at hl 0 rfl) ?_
  exact x_iret (w := []) hB hr hV hA (Nat.le_of_ble_eq_true rfl) (Nat.le_of_ble_eq_true rfl) [] rfl rfl (by decide) dX6_enough_50 ⟨rfl, rfl⟩
set_option maxHeartbeats 4000000 in
set_option maxRecDepth 100000 in
theorem p_again (l : Launch) (D : va_G) (cI cZ cS : ClassId) (N0 : NT) (h : Nat) (tp : Nat) (nw : Nat) (rw : Nat) (lg : Nat) (jd : Nat) (pr : Nat) (n1 : Nat) (n2 : Nat) (l1 : Nat) (l2 : Nat) (l3 : Nat) (s1 : Nat) (s2 : Nat) (s3 : Nat) (s4 : Nat) (s5 : Nat) (s6 : Nat) (s7 : Nat) (s8 : Nat) (s9 : Nat) (b1 : Nat) (b2 : Nat) (b3 : Nat) (b4 : Nat) (b5 : Nat) (b6 : Nat)  : Mx l D cI cZ cS N0 yX6_again cX6_again 1 (some .int) 4 0 0 [.ref h] [(h, .inr (6, [.ref tp, .ref nw, .ref rw, .ref lg, .ref jd, .ref pr, .int 0])), (nw, .inr (5, [.ref n1, .int 0, .int 0, .ref n2, .int 0, .int 0, .int 0, .int 0])), (lg, .inr (0, [.ref l1, .ref l2, .ref l3, .int 0])), (jd, .inr (1, [.ref s1, .ref s2, .ref s3, .ref b1, .ref b2, .ref b3, .int 0, .ref b4, .ref b5, .ref b6])), (s1, .inr (5, [.ref s4, .int 0, .int 0, .ref s5, .int 0, .int 0, .int 0, .int 0])), (s2, .inr (5, [.ref s6, .int 0, .int 0, .ref s7, .int 0, .int 0, .int 0, .int 0])), (s3, .inr (5, [.ref s8, .int 0, .int 0, .ref s9, .int 0, .int 0, .int 0, .int 0]))] (fun v w => v = some (.int 1) ∧ w = ([] : va_W)) := by
  refine x_enter (by decide) (Nat.le_of_ble_eq_true rfl) ?_
  intro p e s m args below meth c A ls H locs hB hr hin hl hV hA
  have hx := hB.1
  have hb := hB.2.1
  have hl : lv_has ls 1 [(0, .ref h)] := hl
  refine lv_aload_n hx hb dX6_again_0 rfl (lv_at hl 0 rfl) ?_
  refine x_get (v := .ref jd) hB hV 0 rfl rfl 4 (by decide) k_312 rfl dX6_again_1 ?_
  refine lv_aload_n hx hb dX6_again_4 rfl (lv_at hl 0 rfl) ?_
  refine x_get (v := .ref nw) hB hV 0 rfl rfl 1 (by decide) k_309 rfl dX6_again_5 ?_
  refine x_callV (n := 1) (wr := [(h, .inr (6, [.ref tp, .ref nw, .ref rw, .ref lg, .ref jd, .ref pr, .int 0])), (lg, .inr (0, [.ref l1, .ref l2, .ref l3, .int 0])), (s2, .inr (5, [.ref s6, .int 0, .int 0, .ref s7, .int 0, .int 0, .int 0, .int 0])), (s3, .inr (5, [.ref s8, .int 0, .int 0, .ref s9, .int 0, .int 0, .int 0, .int 0]))]) (q0 := 3) (As := [.ref nw]) (rest := []) hB hV (x_N hB) hl.1 (c_beginAt l D cI cZ cS N0 jd s1 s2 s3 s4 s5 0 0 0 0 b1 b2 b3 b4 b5 b6 nw n1 n2 ) rfl rfl k_581 k_64 k_578 k_579 k_580 (by decide +kernel) ⟨(Nat.le_of_ble_eq_true rfl), (Nat.le_of_ble_eq_true rfl)⟩ rfl (Nat.le_of_ble_eq_true rfl) ⟨(Nat.le_of_ble_eq_true rfl), (Nat.le_of_ble_eq_true rfl)⟩ [3, 4, 1] [0, 2, 5, 6] rfl rfl rfl ⟨by decide, by decide, by decide⟩ dX6_again_8 (fun v w H locs hp hV => ?_)
  obtain ⟨rfl, rfl⟩ := hp
  have hV : Vx D A s.heap H locs [(h, .inr (6, [.ref tp, .ref nw, .ref rw, .ref lg, .ref jd, .ref pr, .int 0])), (lg, .inr (0, [.ref l1, .ref l2, .ref l3, .int 0])), (s2, .inr (5, [.ref s6, .int 0, .int 0, .ref s7, .int 0, .int 0, .int 0, .int 0])), (s3, .inr (5, [.ref s8, .int 0, .int 0, .ref s9, .int 0, .int 0, .int 0, .int 0])), (jd, .inr (1, [.ref s1, .ref s2, .ref s3, .ref b1, .ref b2, .ref b3, .int 0, .ref b4, .ref b5, .ref b6])), (s1, .inr (5, [.ref s4, .int 0, .int 0, .ref s5, .int 0, .int 0, .int 0, .int 0])), (nw, .inr (5, [.ref n1, .int 0, .int 0, .ref n2, .int 0, .int 0, .int 0, .int 0]))] := hV
  refine W.eq (g2 := F0 m 11 ls []) rfl ?_
  refine lv_aload_n hx hb dX6_again_11 rfl (lv_at hl 0 rfl) ?_
  refine x_get (v := .ref jd) hB hV 0 rfl rfl 4 (by decide) k_312 rfl dX6_again_12 ?_
  refine lv_aload_n hx hb dX6_again_15 rfl (lv_at hl 0 rfl) ?_
  refine x_get (v := .ref lg) hB hV 0 rfl rfl 3 (by decide) k_311 rfl dX6_again_16 ?_
  refine x_callV (n := 1) (wr := [(h, .inr (6, [.ref tp, .ref nw, .ref rw, .ref lg, .ref jd, .ref pr, .int 0])), (nw, .inr (5, [.ref n1, .int 0, .int 0, .ref n2, .int 0, .int 0, .int 0, .int 0]))]) (q0 := 4) (As := [.ref lg]) (rest := []) hB hV (x_N hB) hl.1 (c_isStill l D cI cZ cS N0 jd s1 s2 s3 s4 s5 s6 s7 s8 s9 b1 b2 b3 b4 b5 b6 lg l1 l2 l3 ) rfl rfl k_718 k_64 k_715 k_716 k_717 (by decide +kernel) ⟨(Nat.le_of_ble_eq_true rfl), (Nat.le_of_ble_eq_true rfl)⟩ rfl (Nat.le_of_ble_eq_true rfl) ⟨(Nat.le_of_ble_eq_true rfl), (Nat.le_of_ble_eq_true rfl)⟩ [4, 5, 2, 3, 1] [0, 6] rfl rfl rfl ⟨by decide, by decide, by decide⟩ dX6_again_19 (fun v w H locs hp hV => ?_)
  obtain ⟨rfl, rfl⟩ := hp
  have hV : Vx D A s.heap H locs [(h, .inr (6, [.ref tp, .ref nw, .ref rw, .ref lg, .ref jd, .ref pr, .int 0])), (nw, .inr (5, [.ref n1, .int 0, .int 0, .ref n2, .int 0, .int 0, .int 0, .int 0])), (jd, .inr (1, [.ref s1, .ref s2, .ref s3, .ref b1, .ref b2, .ref b3, .int 0, .ref b4, .ref b5, .ref b6])), (s1, .inr (5, [.ref s4, .int 0, .int 0, .ref s5, .int 0, .int 0, .int 0, .int 0])), (s2, .inr (5, [.ref s6, .int 0, .int 0, .ref s7, .int 0, .int 0, .int 0, .int 0])), (s3, .inr (5, [.ref s8, .int 0, .int 0, .ref s9, .int 0, .int 0, .int 0, .int 0])), (lg, .inr (0, [.ref l1, .ref l2, .ref l3, .int 0]))] := hV
  refine W.eq (g2 := F0 m 22 ls [.int 1]) rfl ?_
  refine lv_if_eq (tgt := 29) hx hb dX6_again_22 (by decide) (fun c_ => absurd c_ (by decide)) (fun c_ => ?_)
  refine lv_iconst (v := 1) hx hb dX6_again_25 (by decide) ?_
  refine lv_goto (tgt := 30) hx hb dX6_again_26 (by decide) ?_
  exact x_iret (w := []) hB hr hV hA (Nat.le_of_ble_eq_true rfl) (Nat.le_of_ble_eq_true rfl) [] rfl rfl (by decide) dX6_again_30 ⟨rfl, rfl⟩
set_option maxHeartbeats 4000000 in
set_option maxRecDepth 100000 in
theorem p_reset (l : Launch) (D : va_G) (cI cZ cS : ClassId) (N0 : NT) (h : Nat) (tp : Nat) (nw : Nat) (rw : Nat) (lg : Nat) (jd : Nat) (pr : Nat) (n1 : Nat) (n2 : Nat) (l1 : Nat) (l2 : Nat) (l3 : Nat)  : Mx l D cI cZ cS N0 yX6_reset cX6_reset 2 (some .int) 2 0 0 [.ref h] [(h, .inr (6, [.ref tp, .ref nw, .ref rw, .ref lg, .ref jd, .ref pr, .int 0])), (nw, .inr (5, [.ref n1, .int 0, .int 0, .ref n2, .int 0, .int 0, .int 0, .int 0])), (lg, .inr (0, [.ref l1, .ref l2, .ref l3, .int 0]))] (fun v w => v = some (.int 0) ∧ w = ([] : va_W)) := by
  refine x_enter (by decide) (Nat.le_of_ble_eq_true rfl) ?_
  intro p e s m args below meth c A ls H locs hB hr hin hl hV hA
  have hx := hB.1
  have hb := hB.2.1
  have hl : lv_has ls 2 [(0, .ref h)] := hl
  refine lv_aload_n hx hb dX6_reset_0 rfl (lv_at hl 0 rfl) ?_
  refine x_get (v := .ref lg) hB hV 0 rfl rfl 3 (by decide) k_311 rfl dX6_reset_1 ?_
  refine x_get (v := .int 0) hB hV 2 rfl rfl 3 (by decide) k_256 rfl dX6_reset_4 ?_
  refine lv_istore_n (lv' := [(1, .int 0), (0, .ref h)]) hx hb dX6_reset_7 rfl hl (by decide) rfl (fun ls hl => ?_)
  refine lv_aload_n hx hb dX6_reset_8 rfl (lv_at hl 1 rfl) ?_
  refine x_get (v := .ref lg) hB hV 0 rfl rfl 3 (by decide) k_311 rfl dX6_reset_9 ?_
  refine lv_iconst (v := 0) hx hb dX6_reset_12 (by decide) ?_
  refine x_put (v := .int 0) hB hV 2 rfl rfl 3 (by decide) k_256 rfl rfl rfl (Nat.le_of_ble_eq_true rfl) dX6_reset_13 (fun H locs hV => ?_)
  have hV : Vx D A s.heap H locs [(h, .inr (6, [.ref tp, .ref nw, .ref rw, .ref lg, .ref jd, .ref pr, .int 0])), (nw, .inr (5, [.ref n1, .int 0, .int 0, .ref n2, .int 0, .int 0, .int 0, .int 0])), (lg, .inr (0, [.ref l1, .ref l2, .ref l3, .int 0]))] := hV
  refine lv_aload_n hx hb dX6_reset_16 rfl (lv_at hl 1 rfl) ?_
  refine x_get (v := .ref nw) hB hV 0 rfl rfl 1 (by decide) k_309 rfl dX6_reset_17 ?_
  refine x_callV (n := 0) (wr := [(h, .inr (6, [.ref tp, .ref nw, .ref rw, .ref lg, .ref jd, .ref pr, .int 0])), (lg, .inr (0, [.ref l1, .ref l2, .ref l3, .int 0]))]) (q0 := 1) (As := []) (rest := []) hB hV (x_N hB) hl.1 (c_makeFresh l D cI cZ cS N0 nw n1 n2 ) rfl rfl k_730 k_59 k_727 k_728 k_729 (by decide +kernel) ⟨(Nat.le_of_ble_eq_true rfl), (Nat.le_of_ble_eq_true rfl)⟩ rfl (Nat.le_of_ble_eq_true rfl) ⟨(Nat.le_of_ble_eq_true rfl), (Nat.le_of_ble_eq_true rfl)⟩ [1] [0, 2] rfl rfl rfl ⟨by decide, by decide, by decide⟩ dX6_reset_20 (fun v w H locs hp hV => ?_)
  obtain ⟨rfl, rfl⟩ := hp
  have hV : Vx D A s.heap H locs [(h, .inr (6, [.ref tp, .ref nw, .ref rw, .ref lg, .ref jd, .ref pr, .int 0])), (lg, .inr (0, [.ref l1, .ref l2, .ref l3, .int 0])), (nw, .inr (5, [.ref n1, .int 0, .int 0, .ref n2, .int 0, .int 0, .int 0, .int 0]))] := hV
  refine W.eq (g2 := F0 m 23 ls []) rfl ?_
  refine lv_iload_n hx hb dX6_reset_23 rfl (lv_at hl 0 rfl) ?_
  exact x_iret (w := []) hB hr hV hA (Nat.le_of_ble_eq_true rfl) (Nat.le_of_ble_eq_true rfl) [] rfl rfl (by decide) dX6_reset_24 ⟨rfl, rfl⟩
set_option maxHeartbeats 4000000 in
set_option maxRecDepth 100000 in
theorem p_price (l : Launch) (D : va_G) (cI cZ cS : ClassId) (N0 : NT) (h : Nat) (tp : Nat) (nw : Nat) (rw : Nat) (lg : Nat) (jd : Nat) (pr : Nat) (x1 : Int32) (x2 : Int32)  : Mx l D cI cZ cS N0 yX6_price cX6_price 4 (some .int) 1 0 0 [.ref h, .int x1, .int x2] [(h, .inr (6, [.ref tp, .ref nw, .ref rw, .ref lg, .ref jd, .ref pr, .int 0])), (pr, .inl (cI, 4, .inl (upd (upd (upd (upd (fun _ => 0) 0 1) 1 1) 2 1) 3 1)))] (fun v w => ∃ (r : Int32), v = some (.int r) ∧ w = ([] : va_W) ∧ (r = sp_price x1 x2)) := by
  refine x_enter (by decide) (Nat.le_of_ble_eq_true rfl) ?_
  intro p e s m args below meth c A ls H locs hB hr hin hl hV hA
  have hx := hB.1
  have hb := hB.2.1
  have hl : lv_has ls 4 [(0, .ref h), (1, .int x1), (2, .int x2)] := hl
  refine lv_iload_n hx hb dX6_price_0 rfl (lv_at hl 1 rfl) ?_
  refine lv_iconst (v := 3) hx hb dX6_price_1 (by decide) ?_
  refine x_callS (n := 2) (wr := [(h, .inr (6, [.ref tp, .ref nw, .ref rw, .ref lg, .ref jd, .ref pr, .int 0])), (pr, .inl (cI, 4, .inl (upd (upd (upd (upd (fun _ => 0) 0 1) 1 1) 2 1) 3 1)))]) (As := [.int x1, .int 3]) (rest := []) hB hV (x_N hB) hl.1 (c_within l D cI cZ cS N0 x1 3 ) k_415 k_57 k_441 k_414 (by decide +kernel) ⟨(Nat.le_of_ble_eq_true rfl), (Nat.le_of_ble_eq_true rfl)⟩ rfl (Nat.le_of_ble_eq_true rfl) ⟨(Nat.le_of_ble_eq_true rfl), (Nat.le_of_ble_eq_true rfl)⟩ [] [0, 1] rfl rfl rfl ⟨by decide, by decide, by decide⟩ dX6_price_2 (fun v w H locs hp hV => ?_)
  obtain ⟨r_1, rfl, rfl, f_2⟩ := hp
  have hV : Vx D A s.heap H locs [(h, .inr (6, [.ref tp, .ref nw, .ref rw, .ref lg, .ref jd, .ref pr, .int 0])), (pr, .inl (cI, 4, .inl (upd (upd (upd (upd (fun _ => 0) 0 1) 1 1) 2 1) 3 1)))] := hV
  refine W.eq (g2 := F0 m 5 ls [.int r_1]) rfl ?_
  rcases f_2 with ⟨rfl, hw_3⟩ | ⟨rfl, hw_3⟩
  · refine W.eq (g2 := F0 m 5 ls [.int 1]) rfl ?_
    refine lv_if_ne (tgt := 10) hx hb dX6_price_5 (by decide) (fun c_ => ?_) (fun c_ => absurd c_ (by decide))
    refine lv_iload_n hx hb dX6_price_10 rfl (lv_at hl 2 rfl) ?_
    refine lv_bipush (v := 99) hx hb dX6_price_11 (by decide) ?_
    refine x_callS (n := 2) (wr := [(h, .inr (6, [.ref tp, .ref nw, .ref rw, .ref lg, .ref jd, .ref pr, .int 0])), (pr, .inl (cI, 4, .inl (upd (upd (upd (upd (fun _ => 0) 0 1) 1 1) 2 1) 3 1)))]) (As := [.int x2, .int 99]) (rest := []) hB hV (x_N hB) hl.1 (c_within l D cI cZ cS N0 x2 99 ) k_415 k_57 k_441 k_414 (by decide +kernel) ⟨(Nat.le_of_ble_eq_true rfl), (Nat.le_of_ble_eq_true rfl)⟩ rfl (Nat.le_of_ble_eq_true rfl) ⟨(Nat.le_of_ble_eq_true rfl), (Nat.le_of_ble_eq_true rfl)⟩ [] [0, 1] rfl rfl rfl ⟨by decide, by decide, by decide⟩ dX6_price_13 (fun v w H locs hp hV => ?_)
    obtain ⟨r_4, rfl, rfl, f_5⟩ := hp
    have hV : Vx D A s.heap H locs [(h, .inr (6, [.ref tp, .ref nw, .ref rw, .ref lg, .ref jd, .ref pr, .int 0])), (pr, .inl (cI, 4, .inl (upd (upd (upd (upd (fun _ => 0) 0 1) 1 1) 2 1) 3 1)))] := hV
    refine W.eq (g2 := F0 m 16 ls [.int r_4]) rfl ?_
    rcases f_5 with ⟨rfl, hw_6⟩ | ⟨rfl, hw_6⟩
    · refine W.eq (g2 := F0 m 16 ls [.int 1]) rfl ?_
      refine lv_if_ne (tgt := 22) hx hb dX6_price_16 (by decide) (fun c_ => ?_) (fun c_ => absurd c_ (by decide))
      obtain ⟨j, hj, rfl⟩ := sw_in (n := 4) rfl hw_3
      refine lv_aload_n hx hb dX6_price_22 rfl (lv_at hl 0 rfl) ?_
      refine x_get (v := .ref pr) hB hV 0 rfl rfl 5 (by decide) k_313 rfl dX6_price_23 ?_
      refine lv_iload_n hx hb dX6_price_26 rfl (lv_at hl 1 rfl) ?_
      refine x_iald (v := 1) hB hV 1 rfl (vp_in_nI (by omega) (by decide)) (pr_one hj) dX6_price_27 ?_
      refine lv_istore_n (lv' := [(3, .int 1), (0, .ref h), (1, .int (nI j)), (2, .int x2)]) hx hb dX6_price_28 rfl hl (by decide) rfl (fun ls hl => ?_)
      refine lv_aload_n hx hb dX6_price_29 rfl (lv_at hl 1 rfl) ?_
      refine x_get (v := .ref pr) hB hV 0 rfl rfl 5 (by decide) k_313 rfl dX6_price_30 ?_
      refine lv_iload_n hx hb dX6_price_33 rfl (lv_at hl 2 rfl) ?_
      refine lv_iload_n hx hb dX6_price_34 rfl (lv_at hl 3 rfl) ?_
      refine x_iast (g := (upd (upd (upd (upd (upd (fun _ => 0) 0 1) 1 1) 2 1) 3 1) (nI j).toNatClampNeg x2)) hB hV 1 rfl (vp_in_nI (by omega) (by decide)) rfl dX6_price_35 (fun H locs hV => ?_)
      have hV : Vx D A s.heap H locs [(h, .inr (6, [.ref tp, .ref nw, .ref rw, .ref lg, .ref jd, .ref pr, .int 0])), (pr, .inl (cI, 4, .inl (upd (upd (upd (upd (upd (fun _ => 0) 0 1) 1 1) 2 1) 3 1) (nI j).toNatClampNeg x2)))] := hV
      refine lv_iload_n hx hb dX6_price_36 rfl (lv_at hl 0 rfl) ?_
      exact x_iret (w := []) hB hr hV hA (Nat.le_of_ble_eq_true rfl) (Nat.le_of_ble_eq_true rfl) [] rfl rfl (by decide) dX6_price_37 ⟨1, rfl, rfl, ((if_neg hw_3).trans (if_neg hw_6)).symm⟩
    · refine W.eq (g2 := F0 m 16 ls [.int 0]) rfl ?_
      refine lv_if_ne (tgt := 22) hx hb dX6_price_16 (by decide) (fun c_ => absurd (by decide) c_) (fun c_ => ?_)
      refine lv_bipush (v := (-2)) hx hb dX6_price_19 (by decide) ?_
      exact x_iret (w := []) hB hr hV hA (Nat.le_of_ble_eq_true rfl) (Nat.le_of_ble_eq_true rfl) [] rfl rfl (by decide) dX6_price_21 ⟨(-2), rfl, rfl, ((if_neg hw_3).trans (if_pos hw_6)).symm⟩
  · refine W.eq (g2 := F0 m 5 ls [.int 0]) rfl ?_
    refine lv_if_ne (tgt := 10) hx hb dX6_price_5 (by decide) (fun c_ => absurd (by decide) c_) (fun c_ => ?_)
    refine lv_iconst (v := (-1)) hx hb dX6_price_8 (by decide) ?_
    exact x_iret (w := []) hB hr hV hA (Nat.le_of_ble_eq_true rfl) (Nat.le_of_ble_eq_true rfl) [] rfl rfl (by decide) dX6_price_9 ⟨(-1), rfl, rfl, (if_pos hw_3).symm⟩
set_option maxHeartbeats 4000000 in
set_option maxRecDepth 100000 in
theorem c_priceOf (l : Launch) (D : va_G) (cI cZ cS : ClassId) (N0 : NT) (h : Nat) (tp : Nat) (nw : Nat) (rw : Nat) (lg : Nat) (jd : Nat) (pr : Nat)  : Mx l D cI cZ cS N0 yX6_priceOf cX6_priceOf 4 (some .int) 1 0 0 [.ref h, .int 0] [(h, .inr (6, [.ref tp, .ref nw, .ref rw, .ref lg, .ref jd, .ref pr, .int 0]))] (fun v w => v = some (.int 0) ∧ w = ([(h, .inr (6, [.ref tp, .ref nw, .ref rw, .ref lg, .ref jd, .ref pr, .int 0]))] : va_W)) := by
  refine x_enter (by decide) (Nat.le_of_ble_eq_true rfl) ?_
  intro p e s m args below meth c A ls H locs hB hr hin hl hV hA
  have hx := hB.1
  have hb := hB.2.1
  have hl : lv_has ls 4 [(0, .ref h), (1, .int 0)] := hl
  refine lv_iconst (v := 0) hx hb dX6_priceOf_0 (by decide) ?_
  refine lv_istore_n (lv' := [(2, .int 0), (0, .ref h), (1, .int 0)]) hx hb dX6_priceOf_1 rfl hl (by decide) rfl (fun ls hl => ?_)
  refine lv_iconst (v := 0) hx hb dX6_priceOf_2 (by decide) ?_
  refine lv_istore_n (lv' := [(3, .int 0), (2, .int 0), (0, .ref h), (1, .int 0)]) hx hb dX6_priceOf_3 rfl hl (by decide) rfl (fun ls hl => ?_)
  refine lv_iload_n hx hb dX6_priceOf_4 rfl (lv_at hl 0 rfl) ?_
  refine lv_bipush (v := 24) hx hb dX6_priceOf_5 (by decide) ?_
  refine lv_icmp_ge (tgt := 36) hx hb dX6_priceOf_7 (by decide) (fun c_ => absurd c_ (by decide)) (fun c_ => ?_)
  refine lv_iload_n hx hb dX6_priceOf_10 rfl (lv_at hl 3 rfl) ?_
  refine lv_iload_n hx hb dX6_priceOf_11 rfl (lv_at hl 0 rfl) ?_
  refine lv_ishr hx hb dX6_priceOf_12 ?_
  refine x_ev (y := 0) (by decide) ?_
  refine lv_iconst (v := 1) hx hb dX6_priceOf_13 (by decide) ?_
  refine lv_iand hx hb dX6_priceOf_14 ?_
  refine x_ev (y := 0) (by decide) ?_
  refine lv_iconst (v := 1) hx hb dX6_priceOf_15 (by decide) ?_
  refine lv_icmp_ne (tgt := 30) hx hb dX6_priceOf_16 (by decide) (fun c_ => ?_) (fun c_ => absurd c_ (by decide))
  refine lv_iinc (v := 1) (lv' := [(3, .int 1), (2, .int 0), (0, .ref h), (1, .int 0)]) hx hb dX6_priceOf_30 hl (k := 0) rfl (by decide) (by decide) rfl (fun ls hl => ?_)
  refine lv_goto (tgt := 4) hx hb dX6_priceOf_33 (by decide) ?_
  refine lv_iload_n hx hb dX6_priceOf_4 rfl (lv_at hl 0 rfl) ?_
  refine lv_bipush (v := 24) hx hb dX6_priceOf_5 (by decide) ?_
  refine lv_icmp_ge (tgt := 36) hx hb dX6_priceOf_7 (by decide) (fun c_ => absurd c_ (by decide)) (fun c_ => ?_)
  refine lv_iload_n hx hb dX6_priceOf_10 rfl (lv_at hl 3 rfl) ?_
  refine lv_iload_n hx hb dX6_priceOf_11 rfl (lv_at hl 0 rfl) ?_
  refine lv_ishr hx hb dX6_priceOf_12 ?_
  refine x_ev (y := 0) (by decide) ?_
  refine lv_iconst (v := 1) hx hb dX6_priceOf_13 (by decide) ?_
  refine lv_iand hx hb dX6_priceOf_14 ?_
  refine x_ev (y := 0) (by decide) ?_
  refine lv_iconst (v := 1) hx hb dX6_priceOf_15 (by decide) ?_
  refine lv_icmp_ne (tgt := 30) hx hb dX6_priceOf_16 (by decide) (fun c_ => ?_) (fun c_ => absurd c_ (by decide))
  refine lv_iinc (v := 2) (lv' := [(3, .int 2), (2, .int 0), (0, .ref h), (1, .int 0)]) hx hb dX6_priceOf_30 hl (k := 0) rfl (by decide) (by decide) rfl (fun ls hl => ?_)
  refine lv_goto (tgt := 4) hx hb dX6_priceOf_33 (by decide) ?_
  refine lv_iload_n hx hb dX6_priceOf_4 rfl (lv_at hl 0 rfl) ?_
  refine lv_bipush (v := 24) hx hb dX6_priceOf_5 (by decide) ?_
  refine lv_icmp_ge (tgt := 36) hx hb dX6_priceOf_7 (by decide) (fun c_ => absurd c_ (by decide)) (fun c_ => ?_)
  refine lv_iload_n hx hb dX6_priceOf_10 rfl (lv_at hl 3 rfl) ?_
  refine lv_iload_n hx hb dX6_priceOf_11 rfl (lv_at hl 0 rfl) ?_
  refine lv_ishr hx hb dX6_priceOf_12 ?_
  refine x_ev (y := 0) (by decide) ?_
  refine lv_iconst (v := 1) hx hb dX6_priceOf_13 (by decide) ?_
  refine lv_iand hx hb dX6_priceOf_14 ?_
  refine x_ev (y := 0) (by decide) ?_
  refine lv_iconst (v := 1) hx hb dX6_priceOf_15 (by decide) ?_
  refine lv_icmp_ne (tgt := 30) hx hb dX6_priceOf_16 (by decide) (fun c_ => ?_) (fun c_ => absurd c_ (by decide))
  refine lv_iinc (v := 3) (lv' := [(3, .int 3), (2, .int 0), (0, .ref h), (1, .int 0)]) hx hb dX6_priceOf_30 hl (k := 0) rfl (by decide) (by decide) rfl (fun ls hl => ?_)
  refine lv_goto (tgt := 4) hx hb dX6_priceOf_33 (by decide) ?_
  refine lv_iload_n hx hb dX6_priceOf_4 rfl (lv_at hl 0 rfl) ?_
  refine lv_bipush (v := 24) hx hb dX6_priceOf_5 (by decide) ?_
  refine lv_icmp_ge (tgt := 36) hx hb dX6_priceOf_7 (by decide) (fun c_ => absurd c_ (by decide)) (fun c_ => ?_)
  refine lv_iload_n hx hb dX6_priceOf_10 rfl (lv_at hl 3 rfl) ?_
  refine lv_iload_n hx hb dX6_priceOf_11 rfl (lv_at hl 0 rfl) ?_
  refine lv_ishr hx hb dX6_priceOf_12 ?_
  refine x_ev (y := 0) (by decide) ?_
  refine lv_iconst (v := 1) hx hb dX6_priceOf_13 (by decide) ?_
  refine lv_iand hx hb dX6_priceOf_14 ?_
  refine x_ev (y := 0) (by decide) ?_
  refine lv_iconst (v := 1) hx hb dX6_priceOf_15 (by decide) ?_
  refine lv_icmp_ne (tgt := 30) hx hb dX6_priceOf_16 (by decide) (fun c_ => ?_) (fun c_ => absurd c_ (by decide))
  refine lv_iinc (v := 4) (lv' := [(3, .int 4), (2, .int 0), (0, .ref h), (1, .int 0)]) hx hb dX6_priceOf_30 hl (k := 0) rfl (by decide) (by decide) rfl (fun ls hl => ?_)
  refine lv_goto (tgt := 4) hx hb dX6_priceOf_33 (by decide) ?_
  refine lv_iload_n hx hb dX6_priceOf_4 rfl (lv_at hl 0 rfl) ?_
  refine lv_bipush (v := 24) hx hb dX6_priceOf_5 (by decide) ?_
  refine lv_icmp_ge (tgt := 36) hx hb dX6_priceOf_7 (by decide) (fun c_ => absurd c_ (by decide)) (fun c_ => ?_)
  refine lv_iload_n hx hb dX6_priceOf_10 rfl (lv_at hl 3 rfl) ?_
  refine lv_iload_n hx hb dX6_priceOf_11 rfl (lv_at hl 0 rfl) ?_
  refine lv_ishr hx hb dX6_priceOf_12 ?_
  refine x_ev (y := 0) (by decide) ?_
  refine lv_iconst (v := 1) hx hb dX6_priceOf_13 (by decide) ?_
  refine lv_iand hx hb dX6_priceOf_14 ?_
  refine x_ev (y := 0) (by decide) ?_
  refine lv_iconst (v := 1) hx hb dX6_priceOf_15 (by decide) ?_
  refine lv_icmp_ne (tgt := 30) hx hb dX6_priceOf_16 (by decide) (fun c_ => ?_) (fun c_ => absurd c_ (by decide))
  refine lv_iinc (v := 5) (lv' := [(3, .int 5), (2, .int 0), (0, .ref h), (1, .int 0)]) hx hb dX6_priceOf_30 hl (k := 0) rfl (by decide) (by decide) rfl (fun ls hl => ?_)
  refine lv_goto (tgt := 4) hx hb dX6_priceOf_33 (by decide) ?_
  refine lv_iload_n hx hb dX6_priceOf_4 rfl (lv_at hl 0 rfl) ?_
  refine lv_bipush (v := 24) hx hb dX6_priceOf_5 (by decide) ?_
  refine lv_icmp_ge (tgt := 36) hx hb dX6_priceOf_7 (by decide) (fun c_ => absurd c_ (by decide)) (fun c_ => ?_)
  refine lv_iload_n hx hb dX6_priceOf_10 rfl (lv_at hl 3 rfl) ?_
  refine lv_iload_n hx hb dX6_priceOf_11 rfl (lv_at hl 0 rfl) ?_
  refine lv_ishr hx hb dX6_priceOf_12 ?_
  refine x_ev (y := 0) (by decide) ?_
  refine lv_iconst (v := 1) hx hb dX6_priceOf_13 (by decide) ?_
  refine lv_iand hx hb dX6_priceOf_14 ?_
  refine x_ev (y := 0) (by decide) ?_
  refine lv_iconst (v := 1) hx hb dX6_priceOf_15 (by decide) ?_
  refine lv_icmp_ne (tgt := 30) hx hb dX6_priceOf_16 (by decide) (fun c_ => ?_) (fun c_ => absurd c_ (by decide))
  refine lv_iinc (v := 6) (lv' := [(3, .int 6), (2, .int 0), (0, .ref h), (1, .int 0)]) hx hb dX6_priceOf_30 hl (k := 0) rfl (by decide) (by decide) rfl (fun ls hl => ?_)
  refine lv_goto (tgt := 4) hx hb dX6_priceOf_33 (by decide) ?_
  refine lv_iload_n hx hb dX6_priceOf_4 rfl (lv_at hl 0 rfl) ?_
  refine lv_bipush (v := 24) hx hb dX6_priceOf_5 (by decide) ?_
  refine lv_icmp_ge (tgt := 36) hx hb dX6_priceOf_7 (by decide) (fun c_ => absurd c_ (by decide)) (fun c_ => ?_)
  refine lv_iload_n hx hb dX6_priceOf_10 rfl (lv_at hl 3 rfl) ?_
  refine lv_iload_n hx hb dX6_priceOf_11 rfl (lv_at hl 0 rfl) ?_
  refine lv_ishr hx hb dX6_priceOf_12 ?_
  refine x_ev (y := 0) (by decide) ?_
  refine lv_iconst (v := 1) hx hb dX6_priceOf_13 (by decide) ?_
  refine lv_iand hx hb dX6_priceOf_14 ?_
  refine x_ev (y := 0) (by decide) ?_
  refine lv_iconst (v := 1) hx hb dX6_priceOf_15 (by decide) ?_
  refine lv_icmp_ne (tgt := 30) hx hb dX6_priceOf_16 (by decide) (fun c_ => ?_) (fun c_ => absurd c_ (by decide))
  refine lv_iinc (v := 7) (lv' := [(3, .int 7), (2, .int 0), (0, .ref h), (1, .int 0)]) hx hb dX6_priceOf_30 hl (k := 0) rfl (by decide) (by decide) rfl (fun ls hl => ?_)
  refine lv_goto (tgt := 4) hx hb dX6_priceOf_33 (by decide) ?_
  refine lv_iload_n hx hb dX6_priceOf_4 rfl (lv_at hl 0 rfl) ?_
  refine lv_bipush (v := 24) hx hb dX6_priceOf_5 (by decide) ?_
  refine lv_icmp_ge (tgt := 36) hx hb dX6_priceOf_7 (by decide) (fun c_ => absurd c_ (by decide)) (fun c_ => ?_)
  refine lv_iload_n hx hb dX6_priceOf_10 rfl (lv_at hl 3 rfl) ?_
  refine lv_iload_n hx hb dX6_priceOf_11 rfl (lv_at hl 0 rfl) ?_
  refine lv_ishr hx hb dX6_priceOf_12 ?_
  refine x_ev (y := 0) (by decide) ?_
  refine lv_iconst (v := 1) hx hb dX6_priceOf_13 (by decide) ?_
  refine lv_iand hx hb dX6_priceOf_14 ?_
  refine x_ev (y := 0) (by decide) ?_
  refine lv_iconst (v := 1) hx hb dX6_priceOf_15 (by decide) ?_
  refine lv_icmp_ne (tgt := 30) hx hb dX6_priceOf_16 (by decide) (fun c_ => ?_) (fun c_ => absurd c_ (by decide))
  refine lv_iinc (v := 8) (lv' := [(3, .int 8), (2, .int 0), (0, .ref h), (1, .int 0)]) hx hb dX6_priceOf_30 hl (k := 0) rfl (by decide) (by decide) rfl (fun ls hl => ?_)
  refine lv_goto (tgt := 4) hx hb dX6_priceOf_33 (by decide) ?_
  refine lv_iload_n hx hb dX6_priceOf_4 rfl (lv_at hl 0 rfl) ?_
  refine lv_bipush (v := 24) hx hb dX6_priceOf_5 (by decide) ?_
  refine lv_icmp_ge (tgt := 36) hx hb dX6_priceOf_7 (by decide) (fun c_ => absurd c_ (by decide)) (fun c_ => ?_)
  refine lv_iload_n hx hb dX6_priceOf_10 rfl (lv_at hl 3 rfl) ?_
  refine lv_iload_n hx hb dX6_priceOf_11 rfl (lv_at hl 0 rfl) ?_
  refine lv_ishr hx hb dX6_priceOf_12 ?_
  refine x_ev (y := 0) (by decide) ?_
  refine lv_iconst (v := 1) hx hb dX6_priceOf_13 (by decide) ?_
  refine lv_iand hx hb dX6_priceOf_14 ?_
  refine x_ev (y := 0) (by decide) ?_
  refine lv_iconst (v := 1) hx hb dX6_priceOf_15 (by decide) ?_
  refine lv_icmp_ne (tgt := 30) hx hb dX6_priceOf_16 (by decide) (fun c_ => ?_) (fun c_ => absurd c_ (by decide))
  refine lv_iinc (v := 9) (lv' := [(3, .int 9), (2, .int 0), (0, .ref h), (1, .int 0)]) hx hb dX6_priceOf_30 hl (k := 0) rfl (by decide) (by decide) rfl (fun ls hl => ?_)
  refine lv_goto (tgt := 4) hx hb dX6_priceOf_33 (by decide) ?_
  refine lv_iload_n hx hb dX6_priceOf_4 rfl (lv_at hl 0 rfl) ?_
  refine lv_bipush (v := 24) hx hb dX6_priceOf_5 (by decide) ?_
  refine lv_icmp_ge (tgt := 36) hx hb dX6_priceOf_7 (by decide) (fun c_ => absurd c_ (by decide)) (fun c_ => ?_)
  refine lv_iload_n hx hb dX6_priceOf_10 rfl (lv_at hl 3 rfl) ?_
  refine lv_iload_n hx hb dX6_priceOf_11 rfl (lv_at hl 0 rfl) ?_
  refine lv_ishr hx hb dX6_priceOf_12 ?_
  refine x_ev (y := 0) (by decide) ?_
  refine lv_iconst (v := 1) hx hb dX6_priceOf_13 (by decide) ?_
  refine lv_iand hx hb dX6_priceOf_14 ?_
  refine x_ev (y := 0) (by decide) ?_
  refine lv_iconst (v := 1) hx hb dX6_priceOf_15 (by decide) ?_
  refine lv_icmp_ne (tgt := 30) hx hb dX6_priceOf_16 (by decide) (fun c_ => ?_) (fun c_ => absurd c_ (by decide))
  refine lv_iinc (v := 10) (lv' := [(3, .int 10), (2, .int 0), (0, .ref h), (1, .int 0)]) hx hb dX6_priceOf_30 hl (k := 0) rfl (by decide) (by decide) rfl (fun ls hl => ?_)
  refine lv_goto (tgt := 4) hx hb dX6_priceOf_33 (by decide) ?_
  refine lv_iload_n hx hb dX6_priceOf_4 rfl (lv_at hl 0 rfl) ?_
  refine lv_bipush (v := 24) hx hb dX6_priceOf_5 (by decide) ?_
  refine lv_icmp_ge (tgt := 36) hx hb dX6_priceOf_7 (by decide) (fun c_ => absurd c_ (by decide)) (fun c_ => ?_)
  refine lv_iload_n hx hb dX6_priceOf_10 rfl (lv_at hl 3 rfl) ?_
  refine lv_iload_n hx hb dX6_priceOf_11 rfl (lv_at hl 0 rfl) ?_
  refine lv_ishr hx hb dX6_priceOf_12 ?_
  refine x_ev (y := 0) (by decide) ?_
  refine lv_iconst (v := 1) hx hb dX6_priceOf_13 (by decide) ?_
  refine lv_iand hx hb dX6_priceOf_14 ?_
  refine x_ev (y := 0) (by decide) ?_
  refine lv_iconst (v := 1) hx hb dX6_priceOf_15 (by decide) ?_
  refine lv_icmp_ne (tgt := 30) hx hb dX6_priceOf_16 (by decide) (fun c_ => ?_) (fun c_ => absurd c_ (by decide))
  refine lv_iinc (v := 11) (lv' := [(3, .int 11), (2, .int 0), (0, .ref h), (1, .int 0)]) hx hb dX6_priceOf_30 hl (k := 0) rfl (by decide) (by decide) rfl (fun ls hl => ?_)
  refine lv_goto (tgt := 4) hx hb dX6_priceOf_33 (by decide) ?_
  refine lv_iload_n hx hb dX6_priceOf_4 rfl (lv_at hl 0 rfl) ?_
  refine lv_bipush (v := 24) hx hb dX6_priceOf_5 (by decide) ?_
  refine lv_icmp_ge (tgt := 36) hx hb dX6_priceOf_7 (by decide) (fun c_ => absurd c_ (by decide)) (fun c_ => ?_)
  refine lv_iload_n hx hb dX6_priceOf_10 rfl (lv_at hl 3 rfl) ?_
  refine lv_iload_n hx hb dX6_priceOf_11 rfl (lv_at hl 0 rfl) ?_
  refine lv_ishr hx hb dX6_priceOf_12 ?_
  refine x_ev (y := 0) (by decide) ?_
  refine lv_iconst (v := 1) hx hb dX6_priceOf_13 (by decide) ?_
  refine lv_iand hx hb dX6_priceOf_14 ?_
  refine x_ev (y := 0) (by decide) ?_
  refine lv_iconst (v := 1) hx hb dX6_priceOf_15 (by decide) ?_
  refine lv_icmp_ne (tgt := 30) hx hb dX6_priceOf_16 (by decide) (fun c_ => ?_) (fun c_ => absurd c_ (by decide))
  refine lv_iinc (v := 12) (lv' := [(3, .int 12), (2, .int 0), (0, .ref h), (1, .int 0)]) hx hb dX6_priceOf_30 hl (k := 0) rfl (by decide) (by decide) rfl (fun ls hl => ?_)
  refine lv_goto (tgt := 4) hx hb dX6_priceOf_33 (by decide) ?_
  refine lv_iload_n hx hb dX6_priceOf_4 rfl (lv_at hl 0 rfl) ?_
  refine lv_bipush (v := 24) hx hb dX6_priceOf_5 (by decide) ?_
  refine lv_icmp_ge (tgt := 36) hx hb dX6_priceOf_7 (by decide) (fun c_ => absurd c_ (by decide)) (fun c_ => ?_)
  refine lv_iload_n hx hb dX6_priceOf_10 rfl (lv_at hl 3 rfl) ?_
  refine lv_iload_n hx hb dX6_priceOf_11 rfl (lv_at hl 0 rfl) ?_
  refine lv_ishr hx hb dX6_priceOf_12 ?_
  refine x_ev (y := 0) (by decide) ?_
  refine lv_iconst (v := 1) hx hb dX6_priceOf_13 (by decide) ?_
  refine lv_iand hx hb dX6_priceOf_14 ?_
  refine x_ev (y := 0) (by decide) ?_
  refine lv_iconst (v := 1) hx hb dX6_priceOf_15 (by decide) ?_
  refine lv_icmp_ne (tgt := 30) hx hb dX6_priceOf_16 (by decide) (fun c_ => ?_) (fun c_ => absurd c_ (by decide))
  refine lv_iinc (v := 13) (lv' := [(3, .int 13), (2, .int 0), (0, .ref h), (1, .int 0)]) hx hb dX6_priceOf_30 hl (k := 0) rfl (by decide) (by decide) rfl (fun ls hl => ?_)
  refine lv_goto (tgt := 4) hx hb dX6_priceOf_33 (by decide) ?_
  refine lv_iload_n hx hb dX6_priceOf_4 rfl (lv_at hl 0 rfl) ?_
  refine lv_bipush (v := 24) hx hb dX6_priceOf_5 (by decide) ?_
  refine lv_icmp_ge (tgt := 36) hx hb dX6_priceOf_7 (by decide) (fun c_ => absurd c_ (by decide)) (fun c_ => ?_)
  refine lv_iload_n hx hb dX6_priceOf_10 rfl (lv_at hl 3 rfl) ?_
  refine lv_iload_n hx hb dX6_priceOf_11 rfl (lv_at hl 0 rfl) ?_
  refine lv_ishr hx hb dX6_priceOf_12 ?_
  refine x_ev (y := 0) (by decide) ?_
  refine lv_iconst (v := 1) hx hb dX6_priceOf_13 (by decide) ?_
  refine lv_iand hx hb dX6_priceOf_14 ?_
  refine x_ev (y := 0) (by decide) ?_
  refine lv_iconst (v := 1) hx hb dX6_priceOf_15 (by decide) ?_
  refine lv_icmp_ne (tgt := 30) hx hb dX6_priceOf_16 (by decide) (fun c_ => ?_) (fun c_ => absurd c_ (by decide))
  refine lv_iinc (v := 14) (lv' := [(3, .int 14), (2, .int 0), (0, .ref h), (1, .int 0)]) hx hb dX6_priceOf_30 hl (k := 0) rfl (by decide) (by decide) rfl (fun ls hl => ?_)
  refine lv_goto (tgt := 4) hx hb dX6_priceOf_33 (by decide) ?_
  refine lv_iload_n hx hb dX6_priceOf_4 rfl (lv_at hl 0 rfl) ?_
  refine lv_bipush (v := 24) hx hb dX6_priceOf_5 (by decide) ?_
  refine lv_icmp_ge (tgt := 36) hx hb dX6_priceOf_7 (by decide) (fun c_ => absurd c_ (by decide)) (fun c_ => ?_)
  refine lv_iload_n hx hb dX6_priceOf_10 rfl (lv_at hl 3 rfl) ?_
  refine lv_iload_n hx hb dX6_priceOf_11 rfl (lv_at hl 0 rfl) ?_
  refine lv_ishr hx hb dX6_priceOf_12 ?_
  refine x_ev (y := 0) (by decide) ?_
  refine lv_iconst (v := 1) hx hb dX6_priceOf_13 (by decide) ?_
  refine lv_iand hx hb dX6_priceOf_14 ?_
  refine x_ev (y := 0) (by decide) ?_
  refine lv_iconst (v := 1) hx hb dX6_priceOf_15 (by decide) ?_
  refine lv_icmp_ne (tgt := 30) hx hb dX6_priceOf_16 (by decide) (fun c_ => ?_) (fun c_ => absurd c_ (by decide))
  refine lv_iinc (v := 15) (lv' := [(3, .int 15), (2, .int 0), (0, .ref h), (1, .int 0)]) hx hb dX6_priceOf_30 hl (k := 0) rfl (by decide) (by decide) rfl (fun ls hl => ?_)
  refine lv_goto (tgt := 4) hx hb dX6_priceOf_33 (by decide) ?_
  refine lv_iload_n hx hb dX6_priceOf_4 rfl (lv_at hl 0 rfl) ?_
  refine lv_bipush (v := 24) hx hb dX6_priceOf_5 (by decide) ?_
  refine lv_icmp_ge (tgt := 36) hx hb dX6_priceOf_7 (by decide) (fun c_ => absurd c_ (by decide)) (fun c_ => ?_)
  refine lv_iload_n hx hb dX6_priceOf_10 rfl (lv_at hl 3 rfl) ?_
  refine lv_iload_n hx hb dX6_priceOf_11 rfl (lv_at hl 0 rfl) ?_
  refine lv_ishr hx hb dX6_priceOf_12 ?_
  refine x_ev (y := 0) (by decide) ?_
  refine lv_iconst (v := 1) hx hb dX6_priceOf_13 (by decide) ?_
  refine lv_iand hx hb dX6_priceOf_14 ?_
  refine x_ev (y := 0) (by decide) ?_
  refine lv_iconst (v := 1) hx hb dX6_priceOf_15 (by decide) ?_
  refine lv_icmp_ne (tgt := 30) hx hb dX6_priceOf_16 (by decide) (fun c_ => ?_) (fun c_ => absurd c_ (by decide))
  refine lv_iinc (v := 16) (lv' := [(3, .int 16), (2, .int 0), (0, .ref h), (1, .int 0)]) hx hb dX6_priceOf_30 hl (k := 0) rfl (by decide) (by decide) rfl (fun ls hl => ?_)
  refine lv_goto (tgt := 4) hx hb dX6_priceOf_33 (by decide) ?_
  refine lv_iload_n hx hb dX6_priceOf_4 rfl (lv_at hl 0 rfl) ?_
  refine lv_bipush (v := 24) hx hb dX6_priceOf_5 (by decide) ?_
  refine lv_icmp_ge (tgt := 36) hx hb dX6_priceOf_7 (by decide) (fun c_ => absurd c_ (by decide)) (fun c_ => ?_)
  refine lv_iload_n hx hb dX6_priceOf_10 rfl (lv_at hl 3 rfl) ?_
  refine lv_iload_n hx hb dX6_priceOf_11 rfl (lv_at hl 0 rfl) ?_
  refine lv_ishr hx hb dX6_priceOf_12 ?_
  refine x_ev (y := 0) (by decide) ?_
  refine lv_iconst (v := 1) hx hb dX6_priceOf_13 (by decide) ?_
  refine lv_iand hx hb dX6_priceOf_14 ?_
  refine x_ev (y := 0) (by decide) ?_
  refine lv_iconst (v := 1) hx hb dX6_priceOf_15 (by decide) ?_
  refine lv_icmp_ne (tgt := 30) hx hb dX6_priceOf_16 (by decide) (fun c_ => ?_) (fun c_ => absurd c_ (by decide))
  refine lv_iinc (v := 17) (lv' := [(3, .int 17), (2, .int 0), (0, .ref h), (1, .int 0)]) hx hb dX6_priceOf_30 hl (k := 0) rfl (by decide) (by decide) rfl (fun ls hl => ?_)
  refine lv_goto (tgt := 4) hx hb dX6_priceOf_33 (by decide) ?_
  refine lv_iload_n hx hb dX6_priceOf_4 rfl (lv_at hl 0 rfl) ?_
  refine lv_bipush (v := 24) hx hb dX6_priceOf_5 (by decide) ?_
  refine lv_icmp_ge (tgt := 36) hx hb dX6_priceOf_7 (by decide) (fun c_ => absurd c_ (by decide)) (fun c_ => ?_)
  refine lv_iload_n hx hb dX6_priceOf_10 rfl (lv_at hl 3 rfl) ?_
  refine lv_iload_n hx hb dX6_priceOf_11 rfl (lv_at hl 0 rfl) ?_
  refine lv_ishr hx hb dX6_priceOf_12 ?_
  refine x_ev (y := 0) (by decide) ?_
  refine lv_iconst (v := 1) hx hb dX6_priceOf_13 (by decide) ?_
  refine lv_iand hx hb dX6_priceOf_14 ?_
  refine x_ev (y := 0) (by decide) ?_
  refine lv_iconst (v := 1) hx hb dX6_priceOf_15 (by decide) ?_
  refine lv_icmp_ne (tgt := 30) hx hb dX6_priceOf_16 (by decide) (fun c_ => ?_) (fun c_ => absurd c_ (by decide))
  refine lv_iinc (v := 18) (lv' := [(3, .int 18), (2, .int 0), (0, .ref h), (1, .int 0)]) hx hb dX6_priceOf_30 hl (k := 0) rfl (by decide) (by decide) rfl (fun ls hl => ?_)
  refine lv_goto (tgt := 4) hx hb dX6_priceOf_33 (by decide) ?_
  refine lv_iload_n hx hb dX6_priceOf_4 rfl (lv_at hl 0 rfl) ?_
  refine lv_bipush (v := 24) hx hb dX6_priceOf_5 (by decide) ?_
  refine lv_icmp_ge (tgt := 36) hx hb dX6_priceOf_7 (by decide) (fun c_ => absurd c_ (by decide)) (fun c_ => ?_)
  refine lv_iload_n hx hb dX6_priceOf_10 rfl (lv_at hl 3 rfl) ?_
  refine lv_iload_n hx hb dX6_priceOf_11 rfl (lv_at hl 0 rfl) ?_
  refine lv_ishr hx hb dX6_priceOf_12 ?_
  refine x_ev (y := 0) (by decide) ?_
  refine lv_iconst (v := 1) hx hb dX6_priceOf_13 (by decide) ?_
  refine lv_iand hx hb dX6_priceOf_14 ?_
  refine x_ev (y := 0) (by decide) ?_
  refine lv_iconst (v := 1) hx hb dX6_priceOf_15 (by decide) ?_
  refine lv_icmp_ne (tgt := 30) hx hb dX6_priceOf_16 (by decide) (fun c_ => ?_) (fun c_ => absurd c_ (by decide))
  refine lv_iinc (v := 19) (lv' := [(3, .int 19), (2, .int 0), (0, .ref h), (1, .int 0)]) hx hb dX6_priceOf_30 hl (k := 0) rfl (by decide) (by decide) rfl (fun ls hl => ?_)
  refine lv_goto (tgt := 4) hx hb dX6_priceOf_33 (by decide) ?_
  refine lv_iload_n hx hb dX6_priceOf_4 rfl (lv_at hl 0 rfl) ?_
  refine lv_bipush (v := 24) hx hb dX6_priceOf_5 (by decide) ?_
  refine lv_icmp_ge (tgt := 36) hx hb dX6_priceOf_7 (by decide) (fun c_ => absurd c_ (by decide)) (fun c_ => ?_)
  refine lv_iload_n hx hb dX6_priceOf_10 rfl (lv_at hl 3 rfl) ?_
  refine lv_iload_n hx hb dX6_priceOf_11 rfl (lv_at hl 0 rfl) ?_
  refine lv_ishr hx hb dX6_priceOf_12 ?_
  refine x_ev (y := 0) (by decide) ?_
  refine lv_iconst (v := 1) hx hb dX6_priceOf_13 (by decide) ?_
  refine lv_iand hx hb dX6_priceOf_14 ?_
  refine x_ev (y := 0) (by decide) ?_
  refine lv_iconst (v := 1) hx hb dX6_priceOf_15 (by decide) ?_
  refine lv_icmp_ne (tgt := 30) hx hb dX6_priceOf_16 (by decide) (fun c_ => ?_) (fun c_ => absurd c_ (by decide))
  refine lv_iinc (v := 20) (lv' := [(3, .int 20), (2, .int 0), (0, .ref h), (1, .int 0)]) hx hb dX6_priceOf_30 hl (k := 0) rfl (by decide) (by decide) rfl (fun ls hl => ?_)
  refine lv_goto (tgt := 4) hx hb dX6_priceOf_33 (by decide) ?_
  refine lv_iload_n hx hb dX6_priceOf_4 rfl (lv_at hl 0 rfl) ?_
  refine lv_bipush (v := 24) hx hb dX6_priceOf_5 (by decide) ?_
  refine lv_icmp_ge (tgt := 36) hx hb dX6_priceOf_7 (by decide) (fun c_ => absurd c_ (by decide)) (fun c_ => ?_)
  refine lv_iload_n hx hb dX6_priceOf_10 rfl (lv_at hl 3 rfl) ?_
  refine lv_iload_n hx hb dX6_priceOf_11 rfl (lv_at hl 0 rfl) ?_
  refine lv_ishr hx hb dX6_priceOf_12 ?_
  refine x_ev (y := 0) (by decide) ?_
  refine lv_iconst (v := 1) hx hb dX6_priceOf_13 (by decide) ?_
  refine lv_iand hx hb dX6_priceOf_14 ?_
  refine x_ev (y := 0) (by decide) ?_
  refine lv_iconst (v := 1) hx hb dX6_priceOf_15 (by decide) ?_
  refine lv_icmp_ne (tgt := 30) hx hb dX6_priceOf_16 (by decide) (fun c_ => ?_) (fun c_ => absurd c_ (by decide))
  refine lv_iinc (v := 21) (lv' := [(3, .int 21), (2, .int 0), (0, .ref h), (1, .int 0)]) hx hb dX6_priceOf_30 hl (k := 0) rfl (by decide) (by decide) rfl (fun ls hl => ?_)
  refine lv_goto (tgt := 4) hx hb dX6_priceOf_33 (by decide) ?_
  refine lv_iload_n hx hb dX6_priceOf_4 rfl (lv_at hl 0 rfl) ?_
  refine lv_bipush (v := 24) hx hb dX6_priceOf_5 (by decide) ?_
  refine lv_icmp_ge (tgt := 36) hx hb dX6_priceOf_7 (by decide) (fun c_ => absurd c_ (by decide)) (fun c_ => ?_)
  refine lv_iload_n hx hb dX6_priceOf_10 rfl (lv_at hl 3 rfl) ?_
  refine lv_iload_n hx hb dX6_priceOf_11 rfl (lv_at hl 0 rfl) ?_
  refine lv_ishr hx hb dX6_priceOf_12 ?_
  refine x_ev (y := 0) (by decide) ?_
  refine lv_iconst (v := 1) hx hb dX6_priceOf_13 (by decide) ?_
  refine lv_iand hx hb dX6_priceOf_14 ?_
  refine x_ev (y := 0) (by decide) ?_
  refine lv_iconst (v := 1) hx hb dX6_priceOf_15 (by decide) ?_
  refine lv_icmp_ne (tgt := 30) hx hb dX6_priceOf_16 (by decide) (fun c_ => ?_) (fun c_ => absurd c_ (by decide))
  refine lv_iinc (v := 22) (lv' := [(3, .int 22), (2, .int 0), (0, .ref h), (1, .int 0)]) hx hb dX6_priceOf_30 hl (k := 0) rfl (by decide) (by decide) rfl (fun ls hl => ?_)
  refine lv_goto (tgt := 4) hx hb dX6_priceOf_33 (by decide) ?_
  refine lv_iload_n hx hb dX6_priceOf_4 rfl (lv_at hl 0 rfl) ?_
  refine lv_bipush (v := 24) hx hb dX6_priceOf_5 (by decide) ?_
  refine lv_icmp_ge (tgt := 36) hx hb dX6_priceOf_7 (by decide) (fun c_ => absurd c_ (by decide)) (fun c_ => ?_)
  refine lv_iload_n hx hb dX6_priceOf_10 rfl (lv_at hl 3 rfl) ?_
  refine lv_iload_n hx hb dX6_priceOf_11 rfl (lv_at hl 0 rfl) ?_
  refine lv_ishr hx hb dX6_priceOf_12 ?_
  refine x_ev (y := 0) (by decide) ?_
  refine lv_iconst (v := 1) hx hb dX6_priceOf_13 (by decide) ?_
  refine lv_iand hx hb dX6_priceOf_14 ?_
  refine x_ev (y := 0) (by decide) ?_
  refine lv_iconst (v := 1) hx hb dX6_priceOf_15 (by decide) ?_
  refine lv_icmp_ne (tgt := 30) hx hb dX6_priceOf_16 (by decide) (fun c_ => ?_) (fun c_ => absurd c_ (by decide))
  refine lv_iinc (v := 23) (lv' := [(3, .int 23), (2, .int 0), (0, .ref h), (1, .int 0)]) hx hb dX6_priceOf_30 hl (k := 0) rfl (by decide) (by decide) rfl (fun ls hl => ?_)
  refine lv_goto (tgt := 4) hx hb dX6_priceOf_33 (by decide) ?_
  refine lv_iload_n hx hb dX6_priceOf_4 rfl (lv_at hl 0 rfl) ?_
  refine lv_bipush (v := 24) hx hb dX6_priceOf_5 (by decide) ?_
  refine lv_icmp_ge (tgt := 36) hx hb dX6_priceOf_7 (by decide) (fun c_ => absurd c_ (by decide)) (fun c_ => ?_)
  refine lv_iload_n hx hb dX6_priceOf_10 rfl (lv_at hl 3 rfl) ?_
  refine lv_iload_n hx hb dX6_priceOf_11 rfl (lv_at hl 0 rfl) ?_
  refine lv_ishr hx hb dX6_priceOf_12 ?_
  refine x_ev (y := 0) (by decide) ?_
  refine lv_iconst (v := 1) hx hb dX6_priceOf_13 (by decide) ?_
  refine lv_iand hx hb dX6_priceOf_14 ?_
  refine x_ev (y := 0) (by decide) ?_
  refine lv_iconst (v := 1) hx hb dX6_priceOf_15 (by decide) ?_
  refine lv_icmp_ne (tgt := 30) hx hb dX6_priceOf_16 (by decide) (fun c_ => ?_) (fun c_ => absurd c_ (by decide))
  refine lv_iinc (v := 24) (lv' := [(3, .int 24), (2, .int 0), (0, .ref h), (1, .int 0)]) hx hb dX6_priceOf_30 hl (k := 0) rfl (by decide) (by decide) rfl (fun ls hl => ?_)
  refine lv_goto (tgt := 4) hx hb dX6_priceOf_33 (by decide) ?_
  refine lv_iload_n hx hb dX6_priceOf_4 rfl (lv_at hl 0 rfl) ?_
  refine lv_bipush (v := 24) hx hb dX6_priceOf_5 (by decide) ?_
  refine lv_icmp_ge (tgt := 36) hx hb dX6_priceOf_7 (by decide) (fun c_ => ?_) (fun c_ => absurd (by decide) c_)
  refine lv_iload_n hx hb dX6_priceOf_36 rfl (lv_at hl 1 rfl) ?_
  exact x_iret (w := [(h, .inr (6, [.ref tp, .ref nw, .ref rw, .ref lg, .ref jd, .ref pr, .int 0]))]) hB hr hV hA (Nat.le_of_ble_eq_true rfl) (Nat.le_of_ble_eq_true rfl) [0] rfl rfl (by decide) dX6_priceOf_37 ⟨rfl, rfl⟩
set_option maxHeartbeats 4000000 in
set_option maxRecDepth 100000 in
theorem c_cheapestAdditions (l : Launch) (D : va_G) (cI cZ cS : ClassId) (N0 : NT) (h : Nat) (tp : Nat) (nw : Nat) (rw : Nat) (lg : Nat) (jd : Nat) (pr : Nat) (n1 : Nat) (n2 : Nat) (r1 : Nat) (r2 : Nat) (r3 : Nat) (s1 : Nat) (s2 : Nat) (s3 : Nat) (s4 : Nat) (s5 : Nat) (s6 : Nat) (s7 : Nat) (s8 : Nat) (s9 : Nat) (b1 : Nat) (b2 : Nat) (b3 : Nat) (b4 : Nat) (b5 : Nat) (b6 : Nat)  : Mx l D cI cZ cS N0 yX6_cheapestAdditions cX6_cheapestAdditions 10 (some .int) 4 0 0 [.ref h, .int 0] [(h, .inr (6, [.ref tp, .ref nw, .ref rw, .ref lg, .ref jd, .ref pr, .int 0])), (nw, .inr (5, [.ref n1, .int 0, .int 0, .ref n2, .int 0, .int 0, .int 0, .int 0])), (rw, .inr (0, [.ref r1, .ref r2, .ref r3, .int 0])), (jd, .inr (1, [.ref s1, .ref s2, .ref s3, .ref b1, .ref b2, .ref b3, .int 0, .ref b4, .ref b5, .ref b6])), (s1, .inr (5, [.ref s4, .int 0, .int 0, .ref s5, .int 0, .int 0, .int 0, .int 0])), (s2, .inr (5, [.ref s6, .int 0, .int 0, .ref s7, .int 0, .int 0, .int 0, .int 0])), (s3, .inr (5, [.ref s8, .int 0, .int 0, .ref s9, .int 0, .int 0, .int 0, .int 0]))] (fun v w => v = some (.int 0) ∧ w = ([(h, .inr (6, [.ref tp, .ref nw, .ref rw, .ref lg, .ref jd, .ref pr, .int 0]))] : va_W)) := by
  refine x_enter (by decide) (Nat.le_of_ble_eq_true rfl) ?_
  intro p e s m args below meth c A ls H locs hB hr hin hl hV hA
  have hx := hB.1
  have hb := hB.2.1
  have hl : lv_has ls 10 [(0, .ref h), (1, .int 0)] := hl
  refine lv_iload_n hx hb dX6_cheapestAdditions_0 rfl (lv_at hl 1 rfl) ?_
  refine x_callS (n := 1) (wr := [(h, .inr (6, [.ref tp, .ref nw, .ref rw, .ref lg, .ref jd, .ref pr, .int 0])), (nw, .inr (5, [.ref n1, .int 0, .int 0, .ref n2, .int 0, .int 0, .int 0, .int 0])), (rw, .inr (0, [.ref r1, .ref r2, .ref r3, .int 0])), (jd, .inr (1, [.ref s1, .ref s2, .ref s3, .ref b1, .ref b2, .ref b3, .int 0, .ref b4, .ref b5, .ref b6])), (s1, .inr (5, [.ref s4, .int 0, .int 0, .ref s5, .int 0, .int 0, .int 0, .int 0])), (s2, .inr (5, [.ref s6, .int 0, .int 0, .ref s7, .int 0, .int 0, .int 0, .int 0])), (s3, .inr (5, [.ref s8, .int 0, .int 0, .ref s9, .int 0, .int 0, .int 0, .int 0]))]) (As := [.int 0]) (rest := []) hB hV (x_N hB) hl.1 (c_numberOfTrailingZeros l D cI cZ cS N0  ) k_697 k_71 k_695 k_696 (by decide +kernel) ⟨(Nat.le_of_ble_eq_true rfl), (Nat.le_of_ble_eq_true rfl)⟩ rfl (Nat.le_of_ble_eq_true rfl) ⟨(Nat.le_of_ble_eq_true rfl), (Nat.le_of_ble_eq_true rfl)⟩ [] [0, 1, 2, 3, 4, 5, 6] rfl rfl rfl ⟨by decide, by decide, by decide⟩ dX6_cheapestAdditions_1 (fun v w H locs hp hV => ?_)
  obtain ⟨rfl, rfl⟩ := hp
  have hV : Vx D A s.heap H locs [(h, .inr (6, [.ref tp, .ref nw, .ref rw, .ref lg, .ref jd, .ref pr, .int 0])), (nw, .inr (5, [.ref n1, .int 0, .int 0, .ref n2, .int 0, .int 0, .int 0, .int 0])), (rw, .inr (0, [.ref r1, .ref r2, .ref r3, .int 0])), (jd, .inr (1, [.ref s1, .ref s2, .ref s3, .ref b1, .ref b2, .ref b3, .int 0, .ref b4, .ref b5, .ref b6])), (s1, .inr (5, [.ref s4, .int 0, .int 0, .ref s5, .int 0, .int 0, .int 0, .int 0])), (s2, .inr (5, [.ref s6, .int 0, .int 0, .ref s7, .int 0, .int 0, .int 0, .int 0])), (s3, .inr (5, [.ref s8, .int 0, .int 0, .ref s9, .int 0, .int 0, .int 0, .int 0]))] := hV
  refine W.eq (g2 := F0 m 4 ls [.int 32]) rfl ?_
  refine lv_iconst (v := 5) hx hb dX6_cheapestAdditions_4 (by decide) ?_
  refine x_min (v := 5) hB k_559 k_560 k_63 k_561 hl.1 (Nat.le_of_ble_eq_true rfl) (Nat.le_of_ble_eq_true rfl) (Nat.le_of_ble_eq_true rfl) (Nat.le_of_ble_eq_true rfl) (by decide) dX6_cheapestAdditions_5 ?_
  refine lv_istore_n (lv' := [(2, .int 5), (0, .ref h), (1, .int 0)]) hx hb dX6_cheapestAdditions_8 rfl hl (by decide) rfl (fun ls hl => ?_)
  refine lv_bipush (v := 31) hx hb dX6_cheapestAdditions_9 (by decide) ?_
  refine lv_iload_n hx hb dX6_cheapestAdditions_11 rfl (lv_at hl 2 rfl) ?_
  refine x_callS (n := 1) (wr := [(h, .inr (6, [.ref tp, .ref nw, .ref rw, .ref lg, .ref jd, .ref pr, .int 0])), (nw, .inr (5, [.ref n1, .int 0, .int 0, .ref n2, .int 0, .int 0, .int 0, .int 0])), (rw, .inr (0, [.ref r1, .ref r2, .ref r3, .int 0])), (jd, .inr (1, [.ref s1, .ref s2, .ref s3, .ref b1, .ref b2, .ref b3, .int 0, .ref b4, .ref b5, .ref b6])), (s1, .inr (5, [.ref s4, .int 0, .int 0, .ref s5, .int 0, .int 0, .int 0, .int 0])), (s2, .inr (5, [.ref s6, .int 0, .int 0, .ref s7, .int 0, .int 0, .int 0, .int 0])), (s3, .inr (5, [.ref s8, .int 0, .int 0, .ref s9, .int 0, .int 0, .int 0, .int 0]))]) (As := [.int 0]) (rest := [.int 31]) hB hV (x_N hB) hl.1 (c_numberOfLeadingZeros l D cI cZ cS N0  ) k_701 k_71 k_699 k_700 (by decide +kernel) ⟨(Nat.le_of_ble_eq_true rfl), (Nat.le_of_ble_eq_true rfl)⟩ rfl (Nat.le_of_ble_eq_true rfl) ⟨(Nat.le_of_ble_eq_true rfl), (Nat.le_of_ble_eq_true rfl)⟩ [] [0, 1, 2, 3, 4, 5, 6] rfl rfl rfl ⟨by decide, by decide, by decide⟩ dX6_cheapestAdditions_12 (fun v w H locs hp hV => ?_)
  obtain ⟨rfl, rfl⟩ := hp
  have hV : Vx D A s.heap H locs [(h, .inr (6, [.ref tp, .ref nw, .ref rw, .ref lg, .ref jd, .ref pr, .int 0])), (nw, .inr (5, [.ref n1, .int 0, .int 0, .ref n2, .int 0, .int 0, .int 0, .int 0])), (rw, .inr (0, [.ref r1, .ref r2, .ref r3, .int 0])), (jd, .inr (1, [.ref s1, .ref s2, .ref s3, .ref b1, .ref b2, .ref b3, .int 0, .ref b4, .ref b5, .ref b6])), (s1, .inr (5, [.ref s4, .int 0, .int 0, .ref s5, .int 0, .int 0, .int 0, .int 0])), (s2, .inr (5, [.ref s6, .int 0, .int 0, .ref s7, .int 0, .int 0, .int 0, .int 0])), (s3, .inr (5, [.ref s8, .int 0, .int 0, .ref s9, .int 0, .int 0, .int 0, .int 0]))] := hV
  refine W.eq (g2 := F0 m 15 ls [.int 32, .int 31]) rfl ?_
  refine lv_isub hx hb dX6_cheapestAdditions_15 ?_
  refine x_ev (y := (-1)) (by decide) ?_
  refine lv_iconst (v := 0) hx hb dX6_cheapestAdditions_16 (by decide) ?_
  refine x_max (v := 0) hB k_702 k_241 k_63 k_242 hl.1 (Nat.le_of_ble_eq_true rfl) (Nat.le_of_ble_eq_true rfl) (Nat.le_of_ble_eq_true rfl) (Nat.le_of_ble_eq_true rfl) (by decide) dX6_cheapestAdditions_17 ?_
  refine lv_istore_n (lv' := [(3, .int 0), (2, .int 5), (0, .ref h), (1, .int 0)]) hx hb dX6_cheapestAdditions_20 rfl hl (by decide) rfl (fun ls hl => ?_)
  refine lv_iconst (v := 1) hx hb dX6_cheapestAdditions_21 (by decide) ?_
  refine lv_iconst (v := 4) hx hb dX6_cheapestAdditions_22 (by decide) ?_
  refine lv_iload_n hx hb dX6_cheapestAdditions_23 rfl (lv_at hl 3 rfl) ?_
  refine x_callS (n := 1) (wr := [(h, .inr (6, [.ref tp, .ref nw, .ref rw, .ref lg, .ref jd, .ref pr, .int 0])), (nw, .inr (5, [.ref n1, .int 0, .int 0, .ref n2, .int 0, .int 0, .int 0, .int 0])), (rw, .inr (0, [.ref r1, .ref r2, .ref r3, .int 0])), (jd, .inr (1, [.ref s1, .ref s2, .ref s3, .ref b1, .ref b2, .ref b3, .int 0, .ref b4, .ref b5, .ref b6])), (s1, .inr (5, [.ref s4, .int 0, .int 0, .ref s5, .int 0, .int 0, .int 0, .int 0])), (s2, .inr (5, [.ref s6, .int 0, .int 0, .ref s7, .int 0, .int 0, .int 0, .int 0])), (s3, .inr (5, [.ref s8, .int 0, .int 0, .ref s9, .int 0, .int 0, .int 0, .int 0]))]) (As := [.int 0]) (rest := [.int 4, .int 1]) hB hV (x_N hB) hl.1 (c_bitCount l D cI cZ cS N0  ) k_687 k_71 k_685 k_686 (by decide +kernel) ⟨(Nat.le_of_ble_eq_true rfl), (Nat.le_of_ble_eq_true rfl)⟩ rfl (Nat.le_of_ble_eq_true rfl) ⟨(Nat.le_of_ble_eq_true rfl), (Nat.le_of_ble_eq_true rfl)⟩ [] [0, 1, 2, 3, 4, 5, 6] rfl rfl rfl ⟨by decide, by decide, by decide⟩ dX6_cheapestAdditions_24 (fun v w H locs hp hV => ?_)
  obtain ⟨rfl, rfl⟩ := hp
  have hV : Vx D A s.heap H locs [(h, .inr (6, [.ref tp, .ref nw, .ref rw, .ref lg, .ref jd, .ref pr, .int 0])), (nw, .inr (5, [.ref n1, .int 0, .int 0, .ref n2, .int 0, .int 0, .int 0, .int 0])), (rw, .inr (0, [.ref r1, .ref r2, .ref r3, .int 0])), (jd, .inr (1, [.ref s1, .ref s2, .ref s3, .ref b1, .ref b2, .ref b3, .int 0, .ref b4, .ref b5, .ref b6])), (s1, .inr (5, [.ref s4, .int 0, .int 0, .ref s5, .int 0, .int 0, .int 0, .int 0])), (s2, .inr (5, [.ref s6, .int 0, .int 0, .ref s7, .int 0, .int 0, .int 0, .int 0])), (s3, .inr (5, [.ref s8, .int 0, .int 0, .ref s9, .int 0, .int 0, .int 0, .int 0]))] := hV
  refine W.eq (g2 := F0 m 27 ls [.int 0, .int 4, .int 1]) rfl ?_
  refine lv_imul hx hb dX6_cheapestAdditions_27 ?_
  refine x_ev (y := 0) (by decide) ?_
  refine lv_ishl hx hb dX6_cheapestAdditions_28 ?_
  refine x_ev (y := 1) (by decide) ?_
  refine lv_istore (lv' := [(4, .int 1), (3, .int 0), (2, .int 5), (0, .ref h), (1, .int 0)]) hx hb dX6_cheapestAdditions_29 hl (by decide) rfl (fun ls hl => ?_)
  refine lv_iconst (v := (-1)) hx hb dX6_cheapestAdditions_31 (by decide) ?_
  refine lv_istore (lv' := [(5, .int (-1)), (4, .int 1), (3, .int 0), (2, .int 5), (0, .ref h), (1, .int 0)]) hx hb dX6_cheapestAdditions_32 hl (by decide) rfl (fun ls hl => ?_)
  refine lv_iconst (v := 0) hx hb dX6_cheapestAdditions_34 (by decide) ?_
  refine lv_istore (lv' := [(6, .int 0), (5, .int (-1)), (4, .int 1), (3, .int 0), (2, .int 5), (0, .ref h), (1, .int 0)]) hx hb dX6_cheapestAdditions_35 hl (by decide) rfl (fun ls hl => ?_)
  refine lv_iload hx hb dX6_cheapestAdditions_37 (lv_at hl 0 rfl) ?_
  refine lv_iload hx hb dX6_cheapestAdditions_39 (lv_at hl 2 rfl) ?_
  refine lv_icmp_ge (tgt := 148) hx hb dX6_cheapestAdditions_41 (by decide) (fun c_ => absurd c_ (by decide)) (fun c_ => ?_)
  refine lv_iload hx hb dX6_cheapestAdditions_44 (lv_at hl 0 rfl) ?_
  refine lv_bipush (v := 15) hx hb dX6_cheapestAdditions_46 (by decide) ?_
  refine lv_iand hx hb dX6_cheapestAdditions_48 ?_
  refine x_ev (y := 0) (by decide) ?_
  refine lv_istore (lv' := [(7, .int 0), (6, .int 0), (5, .int (-1)), (4, .int 1), (3, .int 0), (2, .int 5), (0, .ref h), (1, .int 0)]) hx hb dX6_cheapestAdditions_49 hl (by decide) rfl (fun ls hl => ?_)
  refine lv_iload hx hb dX6_cheapestAdditions_51 (lv_at hl 1 rfl) ?_
  refine lv_iconst (v := 4) hx hb dX6_cheapestAdditions_53 (by decide) ?_
  refine lv_ishr hx hb dX6_cheapestAdditions_54 ?_
  refine x_ev (y := 0) (by decide) ?_
  refine lv_istore (lv' := [(8, .int 0), (7, .int 0), (6, .int 0), (5, .int (-1)), (4, .int 1), (3, .int 0), (2, .int 5), (0, .ref h), (1, .int 0)]) hx hb dX6_cheapestAdditions_55 hl (by decide) rfl (fun ls hl => ?_)
  refine lv_iload hx hb dX6_cheapestAdditions_57 (lv_at hl 1 rfl) ?_
  refine lv_iconst (v := 4) hx hb dX6_cheapestAdditions_59 (by decide) ?_
  refine lv_iload_n hx hb dX6_cheapestAdditions_60 rfl (lv_at hl 6 rfl) ?_
  refine lv_imul hx hb dX6_cheapestAdditions_61 ?_
  refine x_ev (y := 20) (by decide) ?_
  refine lv_ishl hx hb dX6_cheapestAdditions_62 ?_
  refine x_ev (y := 0) (by decide) ?_
  refine lv_iload hx hb dX6_cheapestAdditions_63 (lv_at hl 0 rfl) ?_
  refine lv_iconst (v := 4) hx hb dX6_cheapestAdditions_65 (by decide) ?_
  refine lv_iload_n hx hb dX6_cheapestAdditions_66 rfl (lv_at hl 5 rfl) ?_
  refine lv_imul hx hb dX6_cheapestAdditions_67 ?_
  refine x_ev (y := 0) (by decide) ?_
  refine lv_ishl hx hb dX6_cheapestAdditions_68 ?_
  refine x_ev (y := 0) (by decide) ?_
  refine lv_ior hx hb dX6_cheapestAdditions_69 ?_
  refine x_ev (y := 0) (by decide) ?_
  refine lv_istore (lv' := [(9, .int 0), (8, .int 0), (7, .int 0), (6, .int 0), (5, .int (-1)), (4, .int 1), (3, .int 0), (2, .int 5), (0, .ref h), (1, .int 0)]) hx hb dX6_cheapestAdditions_70 hl (by decide) rfl (fun ls hl => ?_)
  refine lv_iload hx hb dX6_cheapestAdditions_72 (lv_at hl 4 rfl) ?_
  refine lv_iconst (v := (-1)) hx hb dX6_cheapestAdditions_74 (by decide) ?_
  refine lv_icmp_eq (tgt := 96) hx hb dX6_cheapestAdditions_75 (by decide) (fun c_ => ?_) (fun c_ => absurd (by decide) c_)
  refine lv_aload_n hx hb dX6_cheapestAdditions_96 rfl (lv_at hl 8 rfl) ?_
  refine x_get (v := .ref jd) hB hV 0 rfl rfl 4 (by decide) k_312 rfl dX6_cheapestAdditions_97 ?_
  refine lv_aload_n hx hb dX6_cheapestAdditions_100 rfl (lv_at hl 8 rfl) ?_
  refine x_get (v := .ref nw) hB hV 0 rfl rfl 1 (by decide) k_309 rfl dX6_cheapestAdditions_101 ?_
  refine x_callV (n := 1) (wr := [(h, .inr (6, [.ref tp, .ref nw, .ref rw, .ref lg, .ref jd, .ref pr, .int 0])), (rw, .inr (0, [.ref r1, .ref r2, .ref r3, .int 0])), (s2, .inr (5, [.ref s6, .int 0, .int 0, .ref s7, .int 0, .int 0, .int 0, .int 0])), (s3, .inr (5, [.ref s8, .int 0, .int 0, .ref s9, .int 0, .int 0, .int 0, .int 0]))]) (q0 := 3) (As := [.ref nw]) (rest := []) hB hV (x_N hB) hl.1 (c_beginAt l D cI cZ cS N0 jd s1 s2 s3 s4 s5 0 0 0 0 b1 b2 b3 b4 b5 b6 nw n1 n2 ) rfl rfl k_581 k_64 k_578 k_579 k_580 (by decide +kernel) ⟨(Nat.le_of_ble_eq_true rfl), (Nat.le_of_ble_eq_true rfl)⟩ rfl (Nat.le_of_ble_eq_true rfl) ⟨(Nat.le_of_ble_eq_true rfl), (Nat.le_of_ble_eq_true rfl)⟩ [3, 4, 1] [0, 2, 5, 6] rfl rfl rfl ⟨by decide, by decide, by decide⟩ dX6_cheapestAdditions_104 (fun v w H locs hp hV => ?_)
  obtain ⟨rfl, rfl⟩ := hp
  have hV : Vx D A s.heap H locs [(h, .inr (6, [.ref tp, .ref nw, .ref rw, .ref lg, .ref jd, .ref pr, .int 0])), (rw, .inr (0, [.ref r1, .ref r2, .ref r3, .int 0])), (s2, .inr (5, [.ref s6, .int 0, .int 0, .ref s7, .int 0, .int 0, .int 0, .int 0])), (s3, .inr (5, [.ref s8, .int 0, .int 0, .ref s9, .int 0, .int 0, .int 0, .int 0])), (jd, .inr (1, [.ref s1, .ref s2, .ref s3, .ref b1, .ref b2, .ref b3, .int 0, .ref b4, .ref b5, .ref b6])), (s1, .inr (5, [.ref s4, .int 0, .int 0, .ref s5, .int 0, .int 0, .int 0, .int 0])), (nw, .inr (5, [.ref n1, .int 0, .int 0, .ref n2, .int 0, .int 0, .int 0, .int 0]))] := hV
  refine W.eq (g2 := F0 m 107 ls []) rfl ?_
  refine lv_aload_n hx hb dX6_cheapestAdditions_107 rfl (lv_at hl 8 rfl) ?_
  refine x_get (v := .ref jd) hB hV 0 rfl rfl 4 (by decide) k_312 rfl dX6_cheapestAdditions_108 ?_
  refine x_get (v := .ref s1) hB hV 4 rfl rfl 0 (by decide) k_277 rfl dX6_cheapestAdditions_111 ?_
  refine lv_iload hx hb dX6_cheapestAdditions_114 (lv_at hl 0 rfl) ?_
  refine x_callV (n := 1) (wr := [(h, .inr (6, [.ref tp, .ref nw, .ref rw, .ref lg, .ref jd, .ref pr, .int 0])), (rw, .inr (0, [.ref r1, .ref r2, .ref r3, .int 0])), (s2, .inr (5, [.ref s6, .int 0, .int 0, .ref s7, .int 0, .int 0, .int 0, .int 0])), (s3, .inr (5, [.ref s8, .int 0, .int 0, .ref s9, .int 0, .int 0, .int 0, .int 0])), (jd, .inr (1, [.ref s1, .ref s2, .ref s3, .ref b1, .ref b2, .ref b3, .int 0, .ref b4, .ref b5, .ref b6])), (nw, .inr (5, [.ref n1, .int 0, .int 0, .ref n2, .int 0, .int 0, .int 0, .int 0]))]) (q0 := 5) (As := [.int 0]) (rest := []) hB hV (x_N hB) hl.1 (c_addMends l D cI cZ cS N0 s1 s4 s5 0 ) rfl rfl k_710 k_59 k_707 k_708 k_709 (by decide +kernel) ⟨(Nat.le_of_ble_eq_true rfl), (Nat.le_of_ble_eq_true rfl)⟩ rfl (Nat.le_of_ble_eq_true rfl) ⟨(Nat.le_of_ble_eq_true rfl), (Nat.le_of_ble_eq_true rfl)⟩ [5] [0, 1, 2, 3, 4, 6] rfl rfl rfl ⟨by decide, by decide, by decide⟩ dX6_cheapestAdditions_116 (fun v w H locs hp hV => ?_)
  obtain ⟨rfl, rfl⟩ := hp
  have hV : Vx D A s.heap H locs [(h, .inr (6, [.ref tp, .ref nw, .ref rw, .ref lg, .ref jd, .ref pr, .int 0])), (rw, .inr (0, [.ref r1, .ref r2, .ref r3, .int 0])), (s2, .inr (5, [.ref s6, .int 0, .int 0, .ref s7, .int 0, .int 0, .int 0, .int 0])), (s3, .inr (5, [.ref s8, .int 0, .int 0, .ref s9, .int 0, .int 0, .int 0, .int 0])), (jd, .inr (1, [.ref s1, .ref s2, .ref s3, .ref b1, .ref b2, .ref b3, .int 0, .ref b4, .ref b5, .ref b6])), (nw, .inr (5, [.ref n1, .int 0, .int 0, .ref n2, .int 0, .int 0, .int 0, .int 0])), (s1, .inr (5, [.ref s4, .int 0, .int 0, .ref s5, .int 0, .int 0, .int 0, .int 0]))] := hV
  refine W.eq (g2 := F0 m 119 ls []) rfl ?_
  refine lv_aload_n hx hb dX6_cheapestAdditions_119 rfl (lv_at hl 8 rfl) ?_
  refine x_get (v := .ref jd) hB hV 0 rfl rfl 4 (by decide) k_312 rfl dX6_cheapestAdditions_120 ?_
  refine lv_aload_n hx hb dX6_cheapestAdditions_123 rfl (lv_at hl 8 rfl) ?_
  refine x_get (v := .ref rw) hB hV 0 rfl rfl 2 (by decide) k_310 rfl dX6_cheapestAdditions_124 ?_
  refine lv_aload_n hx hb dX6_cheapestAdditions_127 rfl (lv_at hl 8 rfl) ?_
  refine x_get (v := .int 0) hB hV 0 rfl rfl 6 (by decide) k_314 rfl dX6_cheapestAdditions_128 ?_
  refine x_callV (n := 2) (wr := [(h, .inr (6, [.ref tp, .ref nw, .ref rw, .ref lg, .ref jd, .ref pr, .int 0])), (nw, .inr (5, [.ref n1, .int 0, .int 0, .ref n2, .int 0, .int 0, .int 0, .int 0]))]) (q0 := 4) (As := [.ref rw, .int 0]) (rest := []) hB hV (x_N hB) hl.1 (c_firstUnsafe l D cI cZ cS N0 jd s1 s2 s3 s4 s5 s6 s7 s8 s9 b1 b2 b3 b4 b5 b6 rw r1 r2 r3 ) rfl rfl k_626 k_64 k_623 k_624 k_625 (by decide +kernel) ⟨(Nat.le_of_ble_eq_true rfl), (Nat.le_of_ble_eq_true rfl)⟩ rfl (Nat.le_of_ble_eq_true rfl) ⟨(Nat.le_of_ble_eq_true rfl), (Nat.le_of_ble_eq_true rfl)⟩ [4, 6, 2, 3, 1] [0, 5] rfl rfl rfl ⟨by decide, by decide, by decide⟩ dX6_cheapestAdditions_131 (fun v w H locs hp hV => ?_)
  obtain ⟨rfl, rfl⟩ := hp
  have hV : Vx D A s.heap H locs [(h, .inr (6, [.ref tp, .ref nw, .ref rw, .ref lg, .ref jd, .ref pr, .int 0])), (nw, .inr (5, [.ref n1, .int 0, .int 0, .ref n2, .int 0, .int 0, .int 0, .int 0])), (jd, .inr (1, [.ref s1, .ref s2, .ref s3, .ref b1, .ref b2, .ref b3, .int 0, .ref b4, .ref b5, .ref b6])), (s1, .inr (5, [.ref s4, .int 0, .int 0, .ref s5, .int 0, .int 0, .int 0, .int 0])), (s2, .inr (5, [.ref s6, .int 0, .int 0, .ref s7, .int 0, .int 0, .int 0, .int 0])), (s3, .inr (5, [.ref s8, .int 0, .int 0, .ref s9, .int 0, .int 0, .int 0, .int 0])), (rw, .inr (0, [.ref r1, .ref r2, .ref r3, .int 0]))] := hV
  refine W.eq (g2 := F0 m 134 ls [.int (-1)]) rfl ?_
  refine lv_iconst (v := (-1)) hx hb dX6_cheapestAdditions_134 (by decide) ?_
  refine lv_icmp_ne (tgt := 142) hx hb dX6_cheapestAdditions_135 (by decide) (fun c_ => absurd (by decide) c_) (fun c_ => ?_)
  refine lv_iload hx hb dX6_cheapestAdditions_138 (lv_at hl 0 rfl) ?_
  refine lv_istore (lv' := [(5, .int 0), (9, .int 0), (8, .int 0), (7, .int 0), (6, .int 0), (4, .int 1), (3, .int 0), (2, .int 5), (0, .ref h), (1, .int 0)]) hx hb dX6_cheapestAdditions_140 hl (by decide) rfl (fun ls hl => ?_)
  refine lv_iinc (v := 1) (lv' := [(6, .int 1), (5, .int 0), (9, .int 0), (8, .int 0), (7, .int 0), (4, .int 1), (3, .int 0), (2, .int 5), (0, .ref h), (1, .int 0)]) hx hb dX6_cheapestAdditions_142 hl (k := 4) rfl (by decide) (by decide) rfl (fun ls hl => ?_)
  refine lv_goto (tgt := 37) hx hb dX6_cheapestAdditions_145 (by decide) ?_
  refine lv_iload hx hb dX6_cheapestAdditions_37 (lv_at hl 0 rfl) ?_
  refine lv_iload hx hb dX6_cheapestAdditions_39 (lv_at hl 5 rfl) ?_
  refine lv_icmp_ge (tgt := 148) hx hb dX6_cheapestAdditions_41 (by decide) (fun c_ => ?_) (fun c_ => absurd (by decide) c_)
  refine lv_iload hx hb dX6_cheapestAdditions_148 (lv_at hl 1 rfl) ?_
  exact x_iret (w := [(h, .inr (6, [.ref tp, .ref nw, .ref rw, .ref lg, .ref jd, .ref pr, .int 0]))]) hB hr hV hA (Nat.le_of_ble_eq_true rfl) (Nat.le_of_ble_eq_true rfl) [0] rfl rfl (by decide) dX6_cheapestAdditions_150 ⟨rfl, rfl⟩
set_option maxHeartbeats 4000000 in
set_option maxRecDepth 100000 in
theorem p_cheapest (l : Launch) (D : va_G) (cI cZ cS : ClassId) (N0 : NT) (h : Nat) (tp : Nat) (nw : Nat) (rw : Nat) (lg : Nat) (jd : Nat) (pr : Nat) (n1 : Nat) (n2 : Nat) (r1 : Nat) (r2 : Nat) (r3 : Nat) (s1 : Nat) (s2 : Nat) (s3 : Nat) (s4 : Nat) (s5 : Nat) (s6 : Nat) (s7 : Nat) (s8 : Nat) (s9 : Nat) (b1 : Nat) (b2 : Nat) (b3 : Nat) (b4 : Nat) (b5 : Nat) (b6 : Nat) (x1 : Int32)  : Mx l D cI cZ cS N0 yX6_cheapest cX6_cheapest 4 (some .int) 5 0 0 [.ref h, .int x1] [(h, .inr (6, [.ref tp, .ref nw, .ref rw, .ref lg, .ref jd, .ref pr, .int 0])), (nw, .inr (5, [.ref n1, .int 0, .int 0, .ref n2, .int 0, .int 0, .int 0, .int 0])), (rw, .inr (0, [.ref r1, .ref r2, .ref r3, .int 0])), (jd, .inr (1, [.ref s1, .ref s2, .ref s3, .ref b1, .ref b2, .ref b3, .int 0, .ref b4, .ref b5, .ref b6])), (s1, .inr (5, [.ref s4, .int 0, .int 0, .ref s5, .int 0, .int 0, .int 0, .int 0])), (s2, .inr (5, [.ref s6, .int 0, .int 0, .ref s7, .int 0, .int 0, .int 0, .int 0])), (s3, .inr (5, [.ref s8, .int 0, .int 0, .ref s9, .int 0, .int 0, .int 0, .int 0]))] (fun v w => ∃ (r : Int32), v = some (.int r) ∧ w = ([] : va_W) ∧ (r = sp_cheap x1)) := by
  refine x_enter (by decide) (Nat.le_of_ble_eq_true rfl) ?_
  intro p e s m args below meth c A ls H locs hB hr hin hl hV hA
  have hx := hB.1
  have hb := hB.2.1
  have hl : lv_has ls 4 [(0, .ref h), (1, .int x1)] := hl
  refine lv_iload_n hx hb dX6_cheapest_0 rfl (lv_at hl 1 rfl) ?_
  refine lv_iconst (v := 1) hx hb dX6_cheapest_1 (by decide) ?_
  refine x_callS (n := 2) (wr := [(h, .inr (6, [.ref tp, .ref nw, .ref rw, .ref lg, .ref jd, .ref pr, .int 0])), (nw, .inr (5, [.ref n1, .int 0, .int 0, .ref n2, .int 0, .int 0, .int 0, .int 0])), (rw, .inr (0, [.ref r1, .ref r2, .ref r3, .int 0])), (jd, .inr (1, [.ref s1, .ref s2, .ref s3, .ref b1, .ref b2, .ref b3, .int 0, .ref b4, .ref b5, .ref b6])), (s1, .inr (5, [.ref s4, .int 0, .int 0, .ref s5, .int 0, .int 0, .int 0, .int 0])), (s2, .inr (5, [.ref s6, .int 0, .int 0, .ref s7, .int 0, .int 0, .int 0, .int 0])), (s3, .inr (5, [.ref s8, .int 0, .int 0, .ref s9, .int 0, .int 0, .int 0, .int 0]))]) (As := [.int x1, .int 1]) (rest := []) hB hV (x_N hB) hl.1 (c_within l D cI cZ cS N0 x1 1 ) k_415 k_57 k_441 k_414 (by decide +kernel) ⟨(Nat.le_of_ble_eq_true rfl), (Nat.le_of_ble_eq_true rfl)⟩ rfl (Nat.le_of_ble_eq_true rfl) ⟨(Nat.le_of_ble_eq_true rfl), (Nat.le_of_ble_eq_true rfl)⟩ [] [0, 1, 2, 3, 4, 5, 6] rfl rfl rfl ⟨by decide, by decide, by decide⟩ dX6_cheapest_2 (fun v w H locs hp hV => ?_)
  obtain ⟨r_1, rfl, rfl, f_2⟩ := hp
  have hV : Vx D A s.heap H locs [(h, .inr (6, [.ref tp, .ref nw, .ref rw, .ref lg, .ref jd, .ref pr, .int 0])), (nw, .inr (5, [.ref n1, .int 0, .int 0, .ref n2, .int 0, .int 0, .int 0, .int 0])), (rw, .inr (0, [.ref r1, .ref r2, .ref r3, .int 0])), (jd, .inr (1, [.ref s1, .ref s2, .ref s3, .ref b1, .ref b2, .ref b3, .int 0, .ref b4, .ref b5, .ref b6])), (s1, .inr (5, [.ref s4, .int 0, .int 0, .ref s5, .int 0, .int 0, .int 0, .int 0])), (s2, .inr (5, [.ref s6, .int 0, .int 0, .ref s7, .int 0, .int 0, .int 0, .int 0])), (s3, .inr (5, [.ref s8, .int 0, .int 0, .ref s9, .int 0, .int 0, .int 0, .int 0]))] := hV
  refine W.eq (g2 := F0 m 5 ls [.int r_1]) rfl ?_
  rcases f_2 with ⟨rfl, hw_3⟩ | ⟨rfl, hw_3⟩
  · refine W.eq (g2 := F0 m 5 ls [.int 1]) rfl ?_
    refine lv_if_ne (tgt := 10) hx hb dX6_cheapest_5 (by decide) (fun c_ => ?_) (fun c_ => absurd c_ (by decide))
    refine lv_aload_n hx hb dX6_cheapest_10 rfl (lv_at hl 0 rfl) ?_
    refine x_get (v := .ref rw) hB hV 0 rfl rfl 2 (by decide) k_310 rfl dX6_cheapest_11 ?_
    refine x_get (v := .int 0) hB hV 2 rfl rfl 3 (by decide) k_256 rfl dX6_cheapest_14 ?_
    refine lv_iconst (v := 3) hx hb dX6_cheapest_17 (by decide) ?_
    refine lv_icmp_le (tgt := 24) hx hb dX6_cheapest_18 (by decide) (fun c_ => ?_) (fun c_ => absurd (by decide) c_)
    refine lv_aload_n hx hb dX6_cheapest_24 rfl (lv_at hl 0 rfl) ?_
    refine x_get (v := .ref nw) hB hV 0 rfl rfl 1 (by decide) k_309 rfl dX6_cheapest_25 ?_
    refine lv_aload_n hx hb dX6_cheapest_28 rfl (lv_at hl 0 rfl) ?_
    refine x_get (v := .ref rw) hB hV 0 rfl rfl 2 (by decide) k_310 rfl dX6_cheapest_29 ?_
    refine x_callV (n := 1) (wr := [(h, .inr (6, [.ref tp, .ref nw, .ref rw, .ref lg, .ref jd, .ref pr, .int 0])), (jd, .inr (1, [.ref s1, .ref s2, .ref s3, .ref b1, .ref b2, .ref b3, .int 0, .ref b4, .ref b5, .ref b6])), (s1, .inr (5, [.ref s4, .int 0, .int 0, .ref s5, .int 0, .int 0, .int 0, .int 0])), (s2, .inr (5, [.ref s6, .int 0, .int 0, .ref s7, .int 0, .int 0, .int 0, .int 0])), (s3, .inr (5, [.ref s8, .int 0, .int 0, .ref s9, .int 0, .int 0, .int 0, .int 0]))]) (q0 := 1) (As := [.ref rw]) (rest := []) hB hV (x_N hB) hl.1 (c_reachOf l D cI cZ cS N0 nw n1 n2 rw r1 r2 r3 ) rfl rfl k_684 k_59 k_681 k_682 k_683 (by decide +kernel) ⟨(Nat.le_of_ble_eq_true rfl), (Nat.le_of_ble_eq_true rfl)⟩ rfl (Nat.le_of_ble_eq_true rfl) ⟨(Nat.le_of_ble_eq_true rfl), (Nat.le_of_ble_eq_true rfl)⟩ [1, 2] [0, 3, 4, 5, 6] rfl rfl rfl ⟨by decide, by decide, by decide⟩ dX6_cheapest_32 (fun v w H locs hp hV => ?_)
    obtain ⟨rfl, rfl⟩ := hp
    have hV : Vx D A s.heap H locs [(h, .inr (6, [.ref tp, .ref nw, .ref rw, .ref lg, .ref jd, .ref pr, .int 0])), (jd, .inr (1, [.ref s1, .ref s2, .ref s3, .ref b1, .ref b2, .ref b3, .int 0, .ref b4, .ref b5, .ref b6])), (s1, .inr (5, [.ref s4, .int 0, .int 0, .ref s5, .int 0, .int 0, .int 0, .int 0])), (s2, .inr (5, [.ref s6, .int 0, .int 0, .ref s7, .int 0, .int 0, .int 0, .int 0])), (s3, .inr (5, [.ref s8, .int 0, .int 0, .ref s9, .int 0, .int 0, .int 0, .int 0])), (nw, .inr (5, [.ref n1, .int 0, .int 0, .ref n2, .int 0, .int 0, .int 0, .int 0])), (rw, .inr (0, [.ref r1, .ref r2, .ref r3, .int 0]))] := hV
    refine W.eq (g2 := F0 m 35 ls [.int 0]) rfl ?_
    refine lv_istore_n (lv' := [(2, .int 0), (0, .ref h), (1, .int x1)]) hx hb dX6_cheapest_35 rfl hl (by decide) rfl (fun ls hl => ?_)
    refine lv_iload_n hx hb dX6_cheapest_36 rfl (lv_at hl 0 rfl) ?_
    refine x_callS (n := 1) (wr := [(h, .inr (6, [.ref tp, .ref nw, .ref rw, .ref lg, .ref jd, .ref pr, .int 0])), (jd, .inr (1, [.ref s1, .ref s2, .ref s3, .ref b1, .ref b2, .ref b3, .int 0, .ref b4, .ref b5, .ref b6])), (s1, .inr (5, [.ref s4, .int 0, .int 0, .ref s5, .int 0, .int 0, .int 0, .int 0])), (s2, .inr (5, [.ref s6, .int 0, .int 0, .ref s7, .int 0, .int 0, .int 0, .int 0])), (s3, .inr (5, [.ref s8, .int 0, .int 0, .ref s9, .int 0, .int 0, .int 0, .int 0])), (nw, .inr (5, [.ref n1, .int 0, .int 0, .ref n2, .int 0, .int 0, .int 0, .int 0])), (rw, .inr (0, [.ref r1, .ref r2, .ref r3, .int 0]))]) (As := [.int 0]) (rest := []) hB hV (x_N hB) hl.1 (c_bitCount l D cI cZ cS N0  ) k_687 k_71 k_685 k_686 (by decide +kernel) ⟨(Nat.le_of_ble_eq_true rfl), (Nat.le_of_ble_eq_true rfl)⟩ rfl (Nat.le_of_ble_eq_true rfl) ⟨(Nat.le_of_ble_eq_true rfl), (Nat.le_of_ble_eq_true rfl)⟩ [] [0, 1, 2, 3, 4, 5, 6] rfl rfl rfl ⟨by decide, by decide, by decide⟩ dX6_cheapest_37 (fun v w H locs hp hV => ?_)
    obtain ⟨rfl, rfl⟩ := hp
    have hV : Vx D A s.heap H locs [(h, .inr (6, [.ref tp, .ref nw, .ref rw, .ref lg, .ref jd, .ref pr, .int 0])), (jd, .inr (1, [.ref s1, .ref s2, .ref s3, .ref b1, .ref b2, .ref b3, .int 0, .ref b4, .ref b5, .ref b6])), (s1, .inr (5, [.ref s4, .int 0, .int 0, .ref s5, .int 0, .int 0, .int 0, .int 0])), (s2, .inr (5, [.ref s6, .int 0, .int 0, .ref s7, .int 0, .int 0, .int 0, .int 0])), (s3, .inr (5, [.ref s8, .int 0, .int 0, .ref s9, .int 0, .int 0, .int 0, .int 0])), (nw, .inr (5, [.ref n1, .int 0, .int 0, .ref n2, .int 0, .int 0, .int 0, .int 0])), (rw, .inr (0, [.ref r1, .ref r2, .ref r3, .int 0]))] := hV
    refine W.eq (g2 := F0 m 40 ls [.int 0]) rfl ?_
    refine lv_iconst (v := 2) hx hb dX6_cheapest_40 (by decide) ?_
    refine lv_icmp_le (tgt := 47) hx hb dX6_cheapest_41 (by decide) (fun c_ => ?_) (fun c_ => absurd (by decide) c_)
    refine lv_aload_n hx hb dX6_cheapest_47 rfl (lv_at hl 1 rfl) ?_
    refine lv_iload_n hx hb dX6_cheapest_48 rfl (lv_at hl 0 rfl) ?_
    refine x_callV (n := 1) (wr := []) (q0 := 0) (As := [.int 0]) (rest := []) hB hV (x_N hB) hl.1 (c_cheapestAdditions l D cI cZ cS N0 h tp nw rw lg jd pr n1 n2 r1 r2 r3 s1 s2 s3 s4 s5 s6 s7 s8 s9 b1 b2 b3 b4 b5 b6 ) rfl rfl k_694 k_57 k_691 k_693 k_19 (by decide +kernel) ⟨(Nat.le_of_ble_eq_true rfl), (Nat.le_of_ble_eq_true rfl)⟩ rfl (Nat.le_of_ble_eq_true rfl) ⟨(Nat.le_of_ble_eq_true rfl), (Nat.le_of_ble_eq_true rfl)⟩ [0, 5, 6, 1, 2, 3, 4] [] rfl rfl rfl ⟨by decide, by decide, by decide⟩ dX6_cheapest_49 (fun v w H locs hp hV => ?_)
    obtain ⟨rfl, rfl⟩ := hp
    have hV : Vx D A s.heap H locs [(h, .inr (6, [.ref tp, .ref nw, .ref rw, .ref lg, .ref jd, .ref pr, .int 0]))] := hV
    refine W.eq (g2 := F0 m 52 ls [.int 0]) rfl ?_
    refine lv_istore_n (lv' := [(3, .int 0), (2, .int 0), (0, .ref h), (1, .int x1)]) hx hb dX6_cheapest_52 rfl hl (by decide) rfl (fun ls hl => ?_)
    refine lv_iload_n hx hb dX6_cheapest_53 rfl (lv_at hl 0 rfl) ?_
    refine lv_iconst (v := (-1)) hx hb dX6_cheapest_54 (by decide) ?_
    refine lv_icmp_eq (tgt := 63) hx hb dX6_cheapest_55 (by decide) (fun c_ => absurd c_ (by decide)) (fun c_ => ?_)
    refine lv_iload_n hx hb dX6_cheapest_58 rfl (lv_at hl 3 rfl) ?_
    refine lv_iconst (v := 1) hx hb dX6_cheapest_59 (by decide) ?_
    refine lv_icmp_ne (tgt := 67) hx hb dX6_cheapest_60 (by decide) (fun c5 => ?_) (fun c5 => ?_)
    · refine lv_aload_n hx hb dX6_cheapest_67 rfl (lv_at hl 2 rfl) ?_
      refine lv_iload_n hx hb dX6_cheapest_68 rfl (lv_at hl 0 rfl) ?_
      refine x_callV (n := 1) (wr := []) (q0 := 0) (As := [.int 0]) (rest := []) hB hV (x_N hB) hl.1 (c_priceOf l D cI cZ cS N0 h tp nw rw lg jd pr ) rfl rfl k_706 k_57 k_703 k_705 k_20 (by decide +kernel) ⟨(Nat.le_of_ble_eq_true rfl), (Nat.le_of_ble_eq_true rfl)⟩ rfl (Nat.le_of_ble_eq_true rfl) ⟨(Nat.le_of_ble_eq_true rfl), (Nat.le_of_ble_eq_true rfl)⟩ [0] [] rfl rfl rfl ⟨by decide, by decide, by decide⟩ dX6_cheapest_69 (fun v w H locs hp hV => ?_)
      obtain ⟨rfl, rfl⟩ := hp
      have hV : Vx D A s.heap H locs [(h, .inr (6, [.ref tp, .ref nw, .ref rw, .ref lg, .ref jd, .ref pr, .int 0]))] := hV
      refine W.eq (g2 := F0 m 72 ls [.int 0]) rfl ?_
      exact x_iret (w := []) hB hr hV hA (Nat.le_of_ble_eq_true rfl) (Nat.le_of_ble_eq_true rfl) [] rfl rfl (by decide) dX6_cheapest_72 ⟨0, rfl, rfl, (if_neg hw_3).symm⟩
    · refine lv_iload_n hx hb dX6_cheapest_63 rfl (lv_at hl 0 rfl) ?_
      refine lv_goto (tgt := 72) hx hb dX6_cheapest_64 (by decide) ?_
      exact x_iret (w := []) hB hr hV hA (Nat.le_of_ble_eq_true rfl) (Nat.le_of_ble_eq_true rfl) [] rfl rfl (by decide) dX6_cheapest_72 ⟨0, rfl, rfl, (if_neg hw_3).symm⟩
  · refine W.eq (g2 := F0 m 5 ls [.int 0]) rfl ?_
    refine lv_if_ne (tgt := 10) hx hb dX6_cheapest_5 (by decide) (fun c_ => absurd (by decide) c_) (fun c_ => ?_)
    refine lv_iconst (v := (-1)) hx hb dX6_cheapest_8 (by decide) ?_
    exact x_iret (w := []) hB hr hV hA (Nat.le_of_ble_eq_true rfl) (Nat.le_of_ble_eq_true rfl) [] rfl rfl (by decide) dX6_cheapest_9 ⟨(-1), rfl, rfl, (if_pos hw_3).symm⟩
set_option maxHeartbeats 4000000 in
set_option maxRecDepth 100000 in
theorem p_count (l : Launch) (D : va_G) (cI cZ cS : ClassId) (N0 : NT) (h : Nat) (tp : Nat) (nw : Nat) (rw : Nat) (lg : Nat) (jd : Nat) (pr : Nat) (n1 : Nat) (n2 : Nat) (r1 : Nat) (r2 : Nat) (r3 : Nat) (l1 : Nat) (l2 : Nat) (l3 : Nat) (byt : Nat) (x1 : Int32)  : Mx l D cI cZ cS N0 yX6_count cX6_count 2 (some .int) 1 0 0 [.ref h, .int x1] [(h, .inr (6, [.ref tp, .ref nw, .ref rw, .ref lg, .ref jd, .ref pr, .int 0])), (nw, .inr (5, [.ref n1, .int 0, .int 0, .ref n2, .int 0, .int 0, .int 0, .int 0])), (rw, .inr (0, [.ref r1, .ref r2, .ref r3, .int 0])), (lg, .inr (0, [.ref l1, .ref l2, .ref l3, .int 0])), (tp, .inr (4, [.ref byt, .int 0, .int 0, .int 0]))] (fun v w => ∃ (r : Int32), v = some (.int r) ∧ w = ([] : va_W) ∧ (r = sp_count x1)) := by
  refine x_enter (by decide) (Nat.le_of_ble_eq_true rfl) ?_
  intro p e s m args below meth c A ls H locs hB hr hin hl hV hA
  have hx := hB.1
  have hb := hB.2.1
  have hl : lv_has ls 2 [(0, .ref h), (1, .int x1)] := hl
  refine lv_iload_n hx hb dX6_count_0 rfl (lv_at hl 1 rfl) ?_
  by_cases ht_1 : (x1 < 0 ∨ 5 < x1)
  · refine lv_tableOut (tgt := 88) hx hb dX6_count_1 (sw_out ht_1) (by decide) ?_
    refine lv_iconst (v := (-1)) hx hb dX6_count_88 (by decide) ?_
    exact x_iret (w := []) hB hr hV hA (Nat.le_of_ble_eq_true rfl) (Nat.le_of_ble_eq_true rfl) [] rfl rfl (by decide) dX6_count_89 ⟨(-1), rfl, rfl, (if_pos ht_1).symm⟩
  · obtain ⟨j_2, hj_2, ej_2⟩ := sw_in (n := 6) rfl ht_1
    rcases (show j_2 = 0 ∨ j_2 = 1 ∨ j_2 = 2 ∨ j_2 = 3 ∨ j_2 = 4 ∨ j_2 = 5 by omega) with rfl | rfl | rfl | rfl | rfl | rfl
    · refine x_ev (y := 0) ej_2 ?_
      refine lv_tableIn (off := 39) (tgt := 40) hx hb dX6_count_1 (by decide) (by decide) rfl (by decide) ?_
      refine lv_aload_n hx hb dX6_count_40 rfl (lv_at hl 0 rfl) ?_
      refine x_get (v := .ref nw) hB hV 0 rfl rfl 1 (by decide) k_309 rfl dX6_count_41 ?_
      refine x_get (v := .int 0) hB hV 1 rfl rfl 1 (by decide) k_203 rfl dX6_count_44 ?_
      exact x_iret (w := []) hB hr hV hA (Nat.le_of_ble_eq_true rfl) (Nat.le_of_ble_eq_true rfl) [] rfl rfl (by decide) dX6_count_47 ⟨0, rfl, rfl, (if_neg ht_1).symm⟩
    · refine x_ev (y := 1) ej_2 ?_
      refine lv_tableIn (off := 47) (tgt := 48) hx hb dX6_count_1 (by decide) (by decide) rfl (by decide) ?_
      refine lv_aload_n hx hb dX6_count_48 rfl (lv_at hl 0 rfl) ?_
      refine x_get (v := .ref rw) hB hV 0 rfl rfl 2 (by decide) k_310 rfl dX6_count_49 ?_
      refine x_get (v := .int 0) hB hV 2 rfl rfl 3 (by decide) k_256 rfl dX6_count_52 ?_
      exact x_iret (w := []) hB hr hV hA (Nat.le_of_ble_eq_true rfl) (Nat.le_of_ble_eq_true rfl) [] rfl rfl (by decide) dX6_count_55 ⟨0, rfl, rfl, (if_neg ht_1).symm⟩
    · refine x_ev (y := 2) ej_2 ?_
      refine lv_tableIn (off := 55) (tgt := 56) hx hb dX6_count_1 (by decide) (by decide) rfl (by decide) ?_
      refine lv_aload_n hx hb dX6_count_56 rfl (lv_at hl 0 rfl) ?_
      refine x_get (v := .ref nw) hB hV 0 rfl rfl 1 (by decide) k_309 rfl dX6_count_57 ?_
      refine x_get (v := .int 0) hB hV 1 rfl rfl 4 (by decide) k_211 rfl dX6_count_60 ?_
      exact x_iret (w := []) hB hr hV hA (Nat.le_of_ble_eq_true rfl) (Nat.le_of_ble_eq_true rfl) [] rfl rfl (by decide) dX6_count_63 ⟨0, rfl, rfl, (if_neg ht_1).symm⟩
    · refine x_ev (y := 3) ej_2 ?_
      refine lv_tableIn (off := 63) (tgt := 64) hx hb dX6_count_1 (by decide) (by decide) rfl (by decide) ?_
      refine lv_aload_n hx hb dX6_count_64 rfl (lv_at hl 0 rfl) ?_
      refine x_get (v := .ref nw) hB hV 0 rfl rfl 1 (by decide) k_309 rfl dX6_count_65 ?_
      refine x_get (v := .int 0) hB hV 1 rfl rfl 2 (by decide) k_206 rfl dX6_count_68 ?_
      exact x_iret (w := []) hB hr hV hA (Nat.le_of_ble_eq_true rfl) (Nat.le_of_ble_eq_true rfl) [] rfl rfl (by decide) dX6_count_71 ⟨0, rfl, rfl, (if_neg ht_1).symm⟩
    · refine x_ev (y := 4) ej_2 ?_
      refine lv_tableIn (off := 71) (tgt := 72) hx hb dX6_count_1 (by decide) (by decide) rfl (by decide) ?_
      refine lv_aload_n hx hb dX6_count_72 rfl (lv_at hl 0 rfl) ?_
      refine x_get (v := .ref lg) hB hV 0 rfl rfl 3 (by decide) k_311 rfl dX6_count_73 ?_
      refine x_get (v := .int 0) hB hV 3 rfl rfl 3 (by decide) k_256 rfl dX6_count_76 ?_
      exact x_iret (w := []) hB hr hV hA (Nat.le_of_ble_eq_true rfl) (Nat.le_of_ble_eq_true rfl) [] rfl rfl (by decide) dX6_count_79 ⟨0, rfl, rfl, (if_neg ht_1).symm⟩
    · refine x_ev (y := 5) ej_2 ?_
      refine lv_tableIn (off := 79) (tgt := 80) hx hb dX6_count_1 (by decide) (by decide) rfl (by decide) ?_
      refine lv_aload_n hx hb dX6_count_80 rfl (lv_at hl 0 rfl) ?_
      refine x_get (v := .ref tp) hB hV 0 rfl rfl 0 (by decide) k_308 rfl dX6_count_81 ?_
      refine x_get (v := .int 0) hB hV 4 rfl rfl 1 (by decide) k_88 rfl dX6_count_84 ?_
      exact x_iret (w := []) hB hr hV hA (Nat.le_of_ble_eq_true rfl) (Nat.le_of_ble_eq_true rfl) [] rfl rfl (by decide) dX6_count_87 ⟨0, rfl, rfl, (if_neg ht_1).symm⟩
