theorem k_19 : Cond.selects RX6 yX6_cheapestAdditions yX6_cheapestAdditions ∈ tb := mt 19 (by decide +kernel) rfl
theorem k_20 : Cond.selects RX6 yX6_priceOf yX6_priceOf ∈ tb := mt 20 (by decide +kernel) rfl
theorem k_71 : Cond.initialized RJ6 ∈ tb := mt 71 (by decide +kernel) rfl
theorem k_246 : Cond.fieldLink RX6 200 "TwiceOnce$CallList" "services" "[I" ∈ tb := mt 246 (by decide +kernel) rfl
theorem k_249 : Cond.fieldLink RX6 202 "TwiceOnce$CallList" "xs" "[I" ∈ tb := mt 249 (by decide +kernel) rfl
theorem k_252 : Cond.fieldLink RX6 205 "TwiceOnce$CallList" "keys" "[I" ∈ tb := mt 252 (by decide +kernel) rfl
theorem k_277 : Cond.fieldLink RX6 163 "TwiceOnce$Judge" "start" "LTwiceOnce$World;" ∈ tb := mt 277 (by decide +kernel) rfl
theorem k_578 : Cond.methodLink RX6 139 yX1_beginAt ∈ tb := mt 578 (by decide +kernel) rfl
theorem k_579 : Cond.instanceMethod yX1_beginAt ∈ tb := mt 579 (by decide +kernel) rfl
theorem k_580 : Cond.selects RX1 yX1_beginAt yX1_beginAt ∈ tb := mt 580 (by decide +kernel) rfl
set_option maxRecDepth 20000 in
theorem k_581 : Cond.code yX1_beginAt cX1_beginAt 2 none ∈ tb := mt 581 rfl rfl
theorem k_590 : Cond.methodLink RX6 143 yX1_runOnce ∈ tb := mt 590 (by decide +kernel) rfl
theorem k_595 : Cond.methodLink RX6 147 yX1_runTwice ∈ tb := mt 595 (by decide +kernel) rfl
theorem k_599 : Cond.methodLink RX6 151 yX1_isLike ∈ tb := mt 599 (by decide +kernel) rfl
theorem k_623 : Cond.methodLink RX6 155 yX1_firstUnsafe ∈ tb := mt 623 (by decide +kernel) rfl
theorem k_624 : Cond.instanceMethod yX1_firstUnsafe ∈ tb := mt 624 (by decide +kernel) rfl
theorem k_625 : Cond.selects RX1 yX1_firstUnsafe yX1_firstUnsafe ∈ tb := mt 625 (by decide +kernel) rfl
set_option maxRecDepth 20000 in
theorem k_626 : Cond.code yX1_firstUnsafe cX1_firstUnsafe 7 (some .int) ∈ tb := mt 626 rfl rfl
theorem k_635 : Cond.methodLink RX6 159 yX1_ordersOf ∈ tb := mt 635 (by decide +kernel) rfl
theorem k_636 : Cond.instanceMethod yX1_ordersOf ∈ tb := mt 636 (by decide +kernel) rfl
theorem k_637 : Cond.selects RX1 yX1_ordersOf yX1_ordersOf ∈ tb := mt 637 (by decide +kernel) rfl
set_option maxRecDepth 20000 in
theorem k_638 : Cond.code yX1_ordersOf cX1_ordersOf 8 (some .int) ∈ tb := mt 638 rfl rfl
theorem k_669 : Cond.methodLink RX6 166 yX5_holdAll ∈ tb := mt 669 (by decide +kernel) rfl
theorem k_670 : Cond.instanceMethod yX5_holdAll ∈ tb := mt 670 (by decide +kernel) rfl
theorem k_671 : Cond.selects RX5 yX5_holdAll yX5_holdAll ∈ tb := mt 671 (by decide +kernel) rfl
set_option maxRecDepth 20000 in
theorem k_672 : Cond.code yX5_holdAll cX5_holdAll 3 none ∈ tb := mt 672 rfl rfl
theorem k_681 : Cond.methodLink RX6 169 yX5_reachOf ∈ tb := mt 681 (by decide +kernel) rfl
theorem k_682 : Cond.instanceMethod yX5_reachOf ∈ tb := mt 682 (by decide +kernel) rfl
theorem k_683 : Cond.selects RX5 yX5_reachOf yX5_reachOf ∈ tb := mt 683 (by decide +kernel) rfl
set_option maxRecDepth 20000 in
theorem k_684 : Cond.code yX5_reachOf cX5_reachOf 4 (some .int) ∈ tb := mt 684 rfl rfl
theorem k_685 : Cond.methodLink RX6 173 yJ6_bitCount_0f7a4 ∈ tb := mt 685 (by decide +kernel) rfl
theorem k_686 : Cond.static yJ6_bitCount_0f7a4 ∈ tb := mt 686 (by decide +kernel) rfl
set_option maxRecDepth 20000 in
theorem k_687 : Cond.code yJ6_bitCount_0f7a4 cJ6_bitCount_0f7a4 1 (some .int) ∈ tb := mt 687 rfl rfl
theorem k_691 : Cond.methodLink RX6 178 yX6_cheapestAdditions ∈ tb := mt 691 (by decide +kernel) rfl
theorem k_693 : Cond.instanceMethod yX6_cheapestAdditions ∈ tb := mt 693 (by decide +kernel) rfl
set_option maxRecDepth 20000 in
theorem k_694 : Cond.code yX6_cheapestAdditions cX6_cheapestAdditions 10 (some .int) ∈ tb := mt 694 rfl rfl
theorem k_695 : Cond.methodLink RX6 184 yJ6_numberOfTrailingZeros_0f7a4 ∈ tb := mt 695 (by decide +kernel) rfl
theorem k_696 : Cond.static yJ6_numberOfTrailingZeros_0f7a4 ∈ tb := mt 696 (by decide +kernel) rfl
set_option maxRecDepth 20000 in
theorem k_697 : Cond.code yJ6_numberOfTrailingZeros_0f7a4 cJ6_numberOfTrailingZeros_0f7a4 2 (some .int) ∈ tb := mt 697 rfl rfl
theorem k_699 : Cond.methodLink RX6 187 yJ6_numberOfLeadingZeros_0f7a4 ∈ tb := mt 699 (by decide +kernel) rfl
theorem k_700 : Cond.static yJ6_numberOfLeadingZeros_0f7a4 ∈ tb := mt 700 (by decide +kernel) rfl
set_option maxRecDepth 20000 in
theorem k_701 : Cond.code yJ6_numberOfLeadingZeros_0f7a4 cJ6_numberOfLeadingZeros_0f7a4 2 (some .int) ∈ tb := mt 701 rfl rfl
theorem k_702 : Cond.methodLink RX6 190 Lib.Math.max.name ∈ tb := mt 702 (by decide +kernel) rfl
theorem k_703 : Cond.methodLink RX6 181 yX6_priceOf ∈ tb := mt 703 (by decide +kernel) rfl
theorem k_705 : Cond.instanceMethod yX6_priceOf ∈ tb := mt 705 (by decide +kernel) rfl
set_option maxRecDepth 20000 in
theorem k_706 : Cond.code yX6_priceOf cX6_priceOf 4 (some .int) ∈ tb := mt 706 rfl rfl
theorem k_707 : Cond.methodLink RX6 193 yX5_addMends ∈ tb := mt 707 (by decide +kernel) rfl
theorem k_708 : Cond.instanceMethod yX5_addMends ∈ tb := mt 708 (by decide +kernel) rfl
theorem k_709 : Cond.selects RX5 yX5_addMends yX5_addMends ∈ tb := mt 709 (by decide +kernel) rfl
set_option maxRecDepth 20000 in
theorem k_710 : Cond.code yX5_addMends cX5_addMends 3 none ∈ tb := mt 710 rfl rfl
theorem k_715 : Cond.methodLink RX6 196 yX1_isStill ∈ tb := mt 715 (by decide +kernel) rfl
theorem k_716 : Cond.instanceMethod yX1_isStill ∈ tb := mt 716 (by decide +kernel) rfl
theorem k_717 : Cond.selects RX1 yX1_isStill yX1_isStill ∈ tb := mt 717 (by decide +kernel) rfl
set_option maxRecDepth 20000 in
theorem k_718 : Cond.code yX1_isStill cX1_isStill 3 (some .boolean) ∈ tb := mt 718 rfl rfl
theorem k_727 : Cond.methodLink RX6 208 yX5_makeFresh ∈ tb := mt 727 (by decide +kernel) rfl
theorem k_728 : Cond.instanceMethod yX5_makeFresh ∈ tb := mt 728 (by decide +kernel) rfl
theorem k_729 : Cond.selects RX5 yX5_makeFresh yX5_makeFresh ∈ tb := mt 729 (by decide +kernel) rfl
set_option maxRecDepth 20000 in
theorem k_730 : Cond.code yX5_makeFresh cX5_makeFresh 2 none ∈ tb := mt 730 rfl rfl
theorem dX6_free_0 : decode cX6_free 0 = .ok (.iload_n 1, 1) := by decide +kernel
theorem dX6_free_1 : decode cX6_free 1 = .ok (.iconst 1, 1) := by decide +kernel
theorem dX6_free_2 : decode cX6_free 2 = .ok (.invokestatic 83, 3) := by decide +kernel
theorem dX6_free_5 : decode cX6_free 5 = .ok (.ifCond .ne 6, 3) := by decide +kernel
theorem dX6_free_11 : decode cX6_free 11 = .ok (.aload_n 0, 1) := by decide +kernel
theorem dX6_free_12 : decode cX6_free 12 = .ok (.getfield 46, 3) := by decide +kernel
theorem dX6_free_15 : decode cX6_free 15 = .ok (.ifCond .eq 7, 3) := by decide +kernel
theorem dX6_free_22 : decode cX6_free 22 = .ok (.iconst 0, 1) := by decide +kernel
theorem dX6_free_23 : decode cX6_free 23 = .ok (.istore_n 2, 1) := by decide +kernel
theorem dX6_free_24 : decode cX6_free 24 = .ok (.aload_n 0, 1) := by decide +kernel
theorem dX6_free_25 : decode cX6_free 25 = .ok (.iload_n 1, 1) := by decide +kernel
theorem dX6_free_26 : decode cX6_free 26 = .ok (.iconst 1, 1) := by decide +kernel
theorem dX6_free_27 : decode cX6_free 27 = .ok (.if_icmp .ne 7, 3) := by decide +kernel
theorem dX6_free_34 : decode cX6_free 34 = .ok (.iconst 0, 1) := by decide +kernel
theorem dX6_free_35 : decode cX6_free 35 = .ok (.putfield 46, 3) := by decide +kernel
theorem dX6_free_38 : decode cX6_free 38 = .ok (.iload_n 2, 1) := by decide +kernel
theorem dX6_free_39 : decode cX6_free 39 = .ok (.ireturn, 1) := by decide +kernel
theorem dX6_free_30 : decode cX6_free 30 = .ok (.iconst 1, 1) := by decide +kernel
theorem dX6_free_31 : decode cX6_free 31 = .ok (.goto 4, 3) := by decide +kernel
theorem dX6_free_18 : decode cX6_free 18 = .ok (.iconst 1, 1) := by decide +kernel
theorem dX6_free_19 : decode cX6_free 19 = .ok (.goto 4, 3) := by decide +kernel
theorem dX6_free_8 : decode cX6_free 8 = .ok (.bipush (-2), 2) := by decide +kernel
theorem dX6_free_10 : decode cX6_free 10 = .ok (.ireturn, 1) := by decide +kernel
theorem dX6_safe_0 : decode cX6_safe 0 = .ok (.iload_n 1, 1) := by decide +kernel
theorem dX6_safe_1 : decode cX6_safe 1 = .ok (.aload_n 0, 1) := by decide +kernel
theorem dX6_safe_2 : decode cX6_safe 2 = .ok (.getfield 28, 3) := by decide +kernel
theorem dX6_safe_5 : decode cX6_safe 5 = .ok (.getfield 138, 3) := by decide +kernel
theorem dX6_safe_8 : decode cX6_safe 8 = .ok (.iconst 1, 1) := by decide +kernel
theorem dX6_safe_9 : decode cX6_safe 9 = .ok (.isub, 1) := by decide +kernel
theorem dX6_safe_10 : decode cX6_safe 10 = .ok (.invokestatic 83, 3) := by decide +kernel
theorem dX6_safe_13 : decode cX6_safe 13 = .ok (.ifCond .ne 5, 3) := by decide +kernel
theorem dX6_safe_18 : decode cX6_safe 18 = .ok (.iload_n 2, 1) := by decide +kernel
theorem dX6_safe_19 : decode cX6_safe 19 = .ok (.aload_n 0, 1) := by decide +kernel
theorem dX6_safe_20 : decode cX6_safe 20 = .ok (.getfield 28, 3) := by decide +kernel
theorem dX6_safe_23 : decode cX6_safe 23 = .ok (.getfield 138, 3) := by decide +kernel
theorem dX6_safe_26 : decode cX6_safe 26 = .ok (.iconst 1, 1) := by decide +kernel
theorem dX6_safe_27 : decode cX6_safe 27 = .ok (.isub, 1) := by decide +kernel
theorem dX6_safe_28 : decode cX6_safe 28 = .ok (.iload_n 1, 1) := by decide +kernel
theorem dX6_safe_29 : decode cX6_safe 29 = .ok (.isub, 1) := by decide +kernel
theorem dX6_safe_30 : decode cX6_safe 30 = .ok (.invokestatic 83, 3) := by decide +kernel
theorem dX6_safe_33 : decode cX6_safe 33 = .ok (.ifCond .eq 12, 3) := by decide +kernel
theorem dX6_safe_36 : decode cX6_safe 36 = .ok (.iload_n 3, 1) := by decide +kernel
theorem dX6_safe_37 : decode cX6_safe 37 = .ok (.bipush 99, 2) := by decide +kernel
theorem dX6_safe_39 : decode cX6_safe 39 = .ok (.invokestatic 83, 3) := by decide +kernel
theorem dX6_safe_42 : decode cX6_safe 42 = .ok (.ifCond .ne 6, 3) := by decide +kernel
theorem dX6_safe_48 : decode cX6_safe 48 = .ok (.aload_n 0, 1) := by decide +kernel
theorem dX6_safe_49 : decode cX6_safe 49 = .ok (.getfield 38, 3) := by decide +kernel
theorem dX6_safe_52 : decode cX6_safe 52 = .ok (.aload_n 0, 1) := by decide +kernel
theorem dX6_safe_53 : decode cX6_safe 53 = .ok (.getfield 19, 3) := by decide +kernel
theorem dX6_safe_56 : decode cX6_safe 56 = .ok (.invokevirtual 139, 3) := by decide +kernel
theorem dX6_safe_59 : decode cX6_safe 59 = .ok (.aload_n 0, 1) := by decide +kernel
theorem dX6_safe_60 : decode cX6_safe 60 = .ok (.getfield 38, 3) := by decide +kernel
theorem dX6_safe_63 : decode cX6_safe 63 = .ok (.aload_n 0, 1) := by decide +kernel
theorem dX6_safe_64 : decode cX6_safe 64 = .ok (.getfield 28, 3) := by decide +kernel
theorem dX6_safe_67 : decode cX6_safe 67 = .ok (.invokevirtual 143, 3) := by decide +kernel
theorem dX6_safe_70 : decode cX6_safe 70 = .ok (.aload_n 0, 1) := by decide +kernel
theorem dX6_safe_71 : decode cX6_safe 71 = .ok (.getfield 38, 3) := by decide +kernel
theorem dX6_safe_74 : decode cX6_safe 74 = .ok (.aload_n 0, 1) := by decide +kernel
theorem dX6_safe_75 : decode cX6_safe 75 = .ok (.getfield 28, 3) := by decide +kernel
theorem dX6_safe_78 : decode cX6_safe 78 = .ok (.iload_n 1, 1) := by decide +kernel
theorem dX6_safe_79 : decode cX6_safe 79 = .ok (.iload_n 2, 1) := by decide +kernel
theorem dX6_safe_80 : decode cX6_safe 80 = .ok (.iload_n 3, 1) := by decide +kernel
theorem dX6_safe_81 : decode cX6_safe 81 = .ok (.invokevirtual 147, 3) := by decide +kernel
theorem dX6_safe_84 : decode cX6_safe 84 = .ok (.aload_n 0, 1) := by decide +kernel
theorem dX6_safe_85 : decode cX6_safe 85 = .ok (.getfield 38, 3) := by decide +kernel
theorem dX6_safe_88 : decode cX6_safe 88 = .ok (.aload_n 0, 1) := by decide +kernel
theorem dX6_safe_89 : decode cX6_safe 89 = .ok (.getfield 28, 3) := by decide +kernel
theorem dX6_safe_92 : decode cX6_safe 92 = .ok (.iload_n 1, 1) := by decide +kernel
theorem dX6_safe_93 : decode cX6_safe 93 = .ok (.aload_n 0, 1) := by decide +kernel
theorem dX6_safe_94 : decode cX6_safe 94 = .ok (.getfield 46, 3) := by decide +kernel
theorem dX6_safe_97 : decode cX6_safe 97 = .ok (.invokevirtual 151, 3) := by decide +kernel
theorem dX6_safe_100 : decode cX6_safe 100 = .ok (.ifCond .eq 7, 3) := by decide +kernel
theorem dX6_safe_103 : decode cX6_safe 103 = .ok (.iconst 1, 1) := by decide +kernel
theorem dX6_safe_104 : decode cX6_safe 104 = .ok (.goto 4, 3) := by decide +kernel
theorem dX6_safe_108 : decode cX6_safe 108 = .ok (.ireturn, 1) := by decide +kernel
theorem dX6_safe_107 : decode cX6_safe 107 = .ok (.iconst 0, 1) := by decide +kernel
theorem dX6_safe_45 : decode cX6_safe 45 = .ok (.bipush (-2), 2) := by decide +kernel
theorem dX6_safe_47 : decode cX6_safe 47 = .ok (.ireturn, 1) := by decide +kernel
theorem dX6_safe_16 : decode cX6_safe 16 = .ok (.iconst (-1), 1) := by decide +kernel
theorem dX6_safe_17 : decode cX6_safe 17 = .ok (.ireturn, 1) := by decide +kernel
theorem dX6_worst_0 : decode cX6_worst 0 = .ok (.aload_n 0, 1) := by decide +kernel
theorem dX6_worst_1 : decode cX6_worst 1 = .ok (.getfield 38, 3) := by decide +kernel
theorem dX6_worst_4 : decode cX6_worst 4 = .ok (.aload_n 0, 1) := by decide +kernel
theorem dX6_worst_5 : decode cX6_worst 5 = .ok (.getfield 19, 3) := by decide +kernel
theorem dX6_worst_8 : decode cX6_worst 8 = .ok (.invokevirtual 139, 3) := by decide +kernel
theorem dX6_worst_11 : decode cX6_worst 11 = .ok (.aload_n 0, 1) := by decide +kernel
theorem dX6_worst_12 : decode cX6_worst 12 = .ok (.getfield 38, 3) := by decide +kernel
theorem dX6_worst_15 : decode cX6_worst 15 = .ok (.aload_n 0, 1) := by decide +kernel
theorem dX6_worst_16 : decode cX6_worst 16 = .ok (.getfield 28, 3) := by decide +kernel
theorem dX6_worst_19 : decode cX6_worst 19 = .ok (.aload_n 0, 1) := by decide +kernel
theorem dX6_worst_20 : decode cX6_worst 20 = .ok (.getfield 46, 3) := by decide +kernel
theorem dX6_worst_23 : decode cX6_worst 23 = .ok (.invokevirtual 155, 3) := by decide +kernel
theorem dX6_worst_26 : decode cX6_worst 26 = .ok (.ireturn, 1) := by decide +kernel
theorem dX6_orders_0 : decode cX6_orders 0 = .ok (.iload_n 1, 1) := by decide +kernel
theorem dX6_orders_1 : decode cX6_orders 1 = .ok (.aload_n 0, 1) := by decide +kernel
theorem dX6_orders_2 : decode cX6_orders 2 = .ok (.getfield 28, 3) := by decide +kernel
theorem dX6_orders_5 : decode cX6_orders 5 = .ok (.getfield 138, 3) := by decide +kernel
theorem dX6_orders_8 : decode cX6_orders 8 = .ok (.iconst 1, 1) := by decide +kernel
theorem dX6_orders_9 : decode cX6_orders 9 = .ok (.isub, 1) := by decide +kernel
theorem dX6_orders_10 : decode cX6_orders 10 = .ok (.invokestatic 83, 3) := by decide +kernel
theorem dX6_orders_13 : decode cX6_orders 13 = .ok (.ifCond .eq 11, 3) := by decide +kernel
theorem dX6_orders_16 : decode cX6_orders 16 = .ok (.iload_n 2, 1) := by decide +kernel
theorem dX6_orders_17 : decode cX6_orders 17 = .ok (.iconst 1, 1) := by decide +kernel
theorem dX6_orders_18 : decode cX6_orders 18 = .ok (.invokestatic 83, 3) := by decide +kernel
theorem dX6_orders_21 : decode cX6_orders 21 = .ok (.ifCond .ne 5, 3) := by decide +kernel
theorem dX6_orders_26 : decode cX6_orders 26 = .ok (.aload_n 0, 1) := by decide +kernel
theorem dX6_orders_27 : decode cX6_orders 27 = .ok (.getfield 28, 3) := by decide +kernel
theorem dX6_orders_30 : decode cX6_orders 30 = .ok (.getfield 138, 3) := by decide +kernel
theorem dX6_orders_33 : decode cX6_orders 33 = .ok (.iconst 2, 1) := by decide +kernel
theorem dX6_orders_34 : decode cX6_orders 34 = .ok (.if_icmp .lt 14, 3) := by decide +kernel
theorem dX6_orders_48 : decode cX6_orders 48 = .ok (.bipush (-3), 2) := by decide +kernel
theorem dX6_orders_50 : decode cX6_orders 50 = .ok (.ireturn, 1) := by decide +kernel
theorem dX6_orders_37 : decode cX6_orders 37 = .ok (.aload_n 0, 1) := by decide +kernel
theorem dX6_orders_38 : decode cX6_orders 38 = .ok (.getfield 28, 3) := by decide +kernel
theorem dX6_orders_41 : decode cX6_orders 41 = .ok (.getfield 138, 3) := by decide +kernel
theorem dX6_orders_44 : decode cX6_orders 44 = .ok (.iconst 4, 1) := by decide +kernel
theorem dX6_orders_45 : decode cX6_orders 45 = .ok (.if_icmp .le 6, 3) := by decide +kernel
theorem dX6_orders_51 : decode cX6_orders 51 = .ok (.aload_n 0, 1) := by decide +kernel
theorem dX6_orders_52 : decode cX6_orders 52 = .ok (.getfield 38, 3) := by decide +kernel
theorem dX6_orders_55 : decode cX6_orders 55 = .ok (.aload_n 0, 1) := by decide +kernel
theorem dX6_orders_56 : decode cX6_orders 56 = .ok (.getfield 19, 3) := by decide +kernel
theorem dX6_orders_59 : decode cX6_orders 59 = .ok (.invokevirtual 139, 3) := by decide +kernel
theorem dX6_orders_62 : decode cX6_orders 62 = .ok (.aload_n 0, 1) := by decide +kernel
theorem dX6_orders_63 : decode cX6_orders 63 = .ok (.getfield 38, 3) := by decide +kernel
theorem dX6_orders_66 : decode cX6_orders 66 = .ok (.aload_n 0, 1) := by decide +kernel
theorem dX6_orders_67 : decode cX6_orders 67 = .ok (.getfield 28, 3) := by decide +kernel
theorem dX6_orders_70 : decode cX6_orders 70 = .ok (.iload_n 1, 1) := by decide +kernel
theorem dX6_orders_71 : decode cX6_orders 71 = .ok (.iload_n 2, 1) := by decide +kernel
theorem dX6_orders_72 : decode cX6_orders 72 = .ok (.iconst 1, 1) := by decide +kernel
theorem dX6_orders_73 : decode cX6_orders 73 = .ok (.if_icmp .ne 7, 3) := by decide +kernel
theorem dX6_orders_80 : decode cX6_orders 80 = .ok (.iconst 0, 1) := by decide +kernel
theorem dX6_orders_81 : decode cX6_orders 81 = .ok (.invokevirtual 159, 3) := by decide +kernel
theorem dX6_orders_84 : decode cX6_orders 84 = .ok (.ireturn, 1) := by decide +kernel
theorem dX6_orders_76 : decode cX6_orders 76 = .ok (.iconst 1, 1) := by decide +kernel
theorem dX6_orders_77 : decode cX6_orders 77 = .ok (.goto 4, 3) := by decide +kernel
theorem dX6_orders_24 : decode cX6_orders 24 = .ok (.iconst (-1), 1) := by decide +kernel
theorem dX6_orders_25 : decode cX6_orders 25 = .ok (.ireturn, 1) := by decide +kernel
theorem dX6_enough_2 : decode cX6_enough 2 = .ok (.iload_n 1, 1) := by decide +kernel
theorem dX6_enough_3 : decode cX6_enough 3 = .ok (.bipush 20, 2) := by decide +kernel
theorem dX6_enough_5 : decode cX6_enough 5 = .ok (.if_icmp .gt 52, 3) := by decide +kernel
theorem dX6_enough_57 : decode cX6_enough 57 = .ok (.iconst (-1), 1) := by decide +kernel
theorem dX6_enough_58 : decode cX6_enough 58 = .ok (.ireturn, 1) := by decide +kernel
theorem dX6_enough_8 : decode cX6_enough 8 = .ok (.aload_n 0, 1) := by decide +kernel
theorem dX6_enough_9 : decode cX6_enough 9 = .ok (.getfield 38, 3) := by decide +kernel
theorem dX6_enough_12 : decode cX6_enough 12 = .ok (.aload_n 0, 1) := by decide +kernel
theorem dX6_enough_13 : decode cX6_enough 13 = .ok (.getfield 19, 3) := by decide +kernel
theorem dX6_enough_16 : decode cX6_enough 16 = .ok (.invokevirtual 139, 3) := by decide +kernel
theorem dX6_enough_19 : decode cX6_enough 19 = .ok (.aload_n 0, 1) := by decide +kernel
theorem dX6_enough_20 : decode cX6_enough 20 = .ok (.getfield 38, 3) := by decide +kernel
theorem dX6_enough_23 : decode cX6_enough 23 = .ok (.getfield 163, 3) := by decide +kernel
theorem dX6_enough_26 : decode cX6_enough 26 = .ok (.iload_n 1, 1) := by decide +kernel
theorem dX6_enough_27 : decode cX6_enough 27 = .ok (.invokevirtual 166, 3) := by decide +kernel
theorem dX6_enough_30 : decode cX6_enough 30 = .ok (.aload_n 0, 1) := by decide +kernel
theorem dX6_enough_31 : decode cX6_enough 31 = .ok (.getfield 38, 3) := by decide +kernel
theorem dX6_enough_34 : decode cX6_enough 34 = .ok (.aload_n 0, 1) := by decide +kernel
theorem dX6_enough_35 : decode cX6_enough 35 = .ok (.getfield 28, 3) := by decide +kernel
theorem dX6_enough_38 : decode cX6_enough 38 = .ok (.aload_n 0, 1) := by decide +kernel
theorem dX6_enough_39 : decode cX6_enough 39 = .ok (.getfield 46, 3) := by decide +kernel
theorem dX6_enough_42 : decode cX6_enough 42 = .ok (.invokevirtual 155, 3) := by decide +kernel
theorem dX6_enough_45 : decode cX6_enough 45 = .ok (.iconst (-1), 1) := by decide +kernel
theorem dX6_enough_46 : decode cX6_enough 46 = .ok (.if_icmp .ne 5, 3) := by decide +kernel
theorem dX6_enough_51 : decode cX6_enough 51 = .ok (.iinc 1 1, 3) := by decide +kernel
theorem dX6_enough_54 : decode cX6_enough 54 = .ok (.goto (-52), 3) := by decide +kernel
theorem dX6_enough_49 : decode cX6_enough 49 = .ok (.iload_n 1, 1) := by decide +kernel
theorem dX6_enough_50 : decode cX6_enough 50 = .ok (.ireturn, 1) := by decide +kernel
theorem dX6_enough_0 : decode cX6_enough 0 = .ok (.iconst 0, 1) := by decide +kernel
theorem dX6_enough_1 : decode cX6_enough 1 = .ok (.istore_n 1, 1) := by decide +kernel
theorem dX6_price_0 : decode cX6_price 0 = .ok (.iload_n 1, 1) := by decide +kernel
theorem dX6_price_1 : decode cX6_price 1 = .ok (.iconst 3, 1) := by decide +kernel
theorem dX6_price_2 : decode cX6_price 2 = .ok (.invokestatic 83, 3) := by decide +kernel
theorem dX6_price_5 : decode cX6_price 5 = .ok (.ifCond .ne 5, 3) := by decide +kernel
theorem dX6_price_10 : decode cX6_price 10 = .ok (.iload_n 2, 1) := by decide +kernel
theorem dX6_price_11 : decode cX6_price 11 = .ok (.bipush 99, 2) := by decide +kernel
theorem dX6_price_13 : decode cX6_price 13 = .ok (.invokestatic 83, 3) := by decide +kernel
theorem dX6_price_16 : decode cX6_price 16 = .ok (.ifCond .ne 6, 3) := by decide +kernel
theorem dX6_price_22 : decode cX6_price 22 = .ok (.aload_n 0, 1) := by decide +kernel
theorem dX6_price_23 : decode cX6_price 23 = .ok (.getfield 42, 3) := by decide +kernel
theorem dX6_price_26 : decode cX6_price 26 = .ok (.iload_n 1, 1) := by decide +kernel
theorem dX6_price_27 : decode cX6_price 27 = .ok (.iaload, 1) := by decide +kernel
theorem dX6_price_28 : decode cX6_price 28 = .ok (.istore_n 3, 1) := by decide +kernel
theorem dX6_price_29 : decode cX6_price 29 = .ok (.aload_n 0, 1) := by decide +kernel
theorem dX6_price_30 : decode cX6_price 30 = .ok (.getfield 42, 3) := by decide +kernel
theorem dX6_price_33 : decode cX6_price 33 = .ok (.iload_n 1, 1) := by decide +kernel
theorem dX6_price_34 : decode cX6_price 34 = .ok (.iload_n 2, 1) := by decide +kernel
theorem dX6_price_35 : decode cX6_price 35 = .ok (.iastore, 1) := by decide +kernel
theorem dX6_price_36 : decode cX6_price 36 = .ok (.iload_n 3, 1) := by decide +kernel
theorem dX6_price_37 : decode cX6_price 37 = .ok (.ireturn, 1) := by decide +kernel
theorem dX6_price_19 : decode cX6_price 19 = .ok (.bipush (-2), 2) := by decide +kernel
theorem dX6_price_21 : decode cX6_price 21 = .ok (.ireturn, 1) := by decide +kernel
theorem dX6_price_8 : decode cX6_price 8 = .ok (.iconst (-1), 1) := by decide +kernel
theorem dX6_price_9 : decode cX6_price 9 = .ok (.ireturn, 1) := by decide +kernel
theorem dX6_priceOf_4 : decode cX6_priceOf 4 = .ok (.iload_n 3, 1) := by decide +kernel
theorem dX6_priceOf_5 : decode cX6_priceOf 5 = .ok (.bipush 24, 2) := by decide +kernel
theorem dX6_priceOf_7 : decode cX6_priceOf 7 = .ok (.if_icmp .ge 29, 3) := by decide +kernel
theorem dX6_priceOf_36 : decode cX6_priceOf 36 = .ok (.iload_n 2, 1) := by decide +kernel
theorem dX6_priceOf_37 : decode cX6_priceOf 37 = .ok (.ireturn, 1) := by decide +kernel
theorem dX6_priceOf_10 : decode cX6_priceOf 10 = .ok (.iload_n 1, 1) := by decide +kernel
theorem dX6_priceOf_11 : decode cX6_priceOf 11 = .ok (.iload_n 3, 1) := by decide +kernel
theorem dX6_priceOf_12 : decode cX6_priceOf 12 = .ok (.ishr, 1) := by decide +kernel
theorem dX6_priceOf_13 : decode cX6_priceOf 13 = .ok (.iconst 1, 1) := by decide +kernel
theorem dX6_priceOf_14 : decode cX6_priceOf 14 = .ok (.iand, 1) := by decide +kernel
theorem dX6_priceOf_15 : decode cX6_priceOf 15 = .ok (.iconst 1, 1) := by decide +kernel
theorem dX6_priceOf_16 : decode cX6_priceOf 16 = .ok (.if_icmp .ne 14, 3) := by decide +kernel
theorem dX6_priceOf_30 : decode cX6_priceOf 30 = .ok (.iinc 3 1, 3) := by decide +kernel
theorem dX6_priceOf_33 : decode cX6_priceOf 33 = .ok (.goto (-29), 3) := by decide +kernel
theorem dX6_priceOf_19 : decode cX6_priceOf 19 = .ok (.iload_n 2, 1) := by decide +kernel
theorem dX6_priceOf_20 : decode cX6_priceOf 20 = .ok (.aload_n 0, 1) := by decide +kernel
theorem dX6_priceOf_21 : decode cX6_priceOf 21 = .ok (.getfield 42, 3) := by decide +kernel
theorem dX6_priceOf_24 : decode cX6_priceOf 24 = .ok (.iload_n 3, 1) := by decide +kernel
theorem dX6_priceOf_25 : decode cX6_priceOf 25 = .ok (.iconst 4, 1) := by decide +kernel
theorem dX6_priceOf_26 : decode cX6_priceOf 26 = .ok (.irem, 1) := by decide +kernel
theorem dX6_priceOf_27 : decode cX6_priceOf 27 = .ok (.iaload, 1) := by decide +kernel
theorem dX6_priceOf_28 : decode cX6_priceOf 28 = .ok (.iadd, 1) := by decide +kernel
theorem dX6_priceOf_29 : decode cX6_priceOf 29 = .ok (.istore_n 2, 1) := by decide +kernel
theorem dX6_priceOf_0 : decode cX6_priceOf 0 = .ok (.iconst 0, 1) := by decide +kernel
theorem dX6_priceOf_1 : decode cX6_priceOf 1 = .ok (.istore_n 2, 1) := by decide +kernel
theorem dX6_priceOf_2 : decode cX6_priceOf 2 = .ok (.iconst 0, 1) := by decide +kernel
theorem dX6_priceOf_3 : decode cX6_priceOf 3 = .ok (.istore_n 3, 1) := by decide +kernel
theorem dX6_cheapestAdditions_37 : decode cX6_cheapestAdditions 37 = .ok (.iload 6, 2) := by decide +kernel
theorem dX6_cheapestAdditions_39 : decode cX6_cheapestAdditions 39 = .ok (.iload 4, 2) := by decide +kernel
theorem dX6_cheapestAdditions_41 : decode cX6_cheapestAdditions 41 = .ok (.if_icmp .ge 107, 3) := by decide +kernel
theorem dX6_cheapestAdditions_148 : decode cX6_cheapestAdditions 148 = .ok (.iload 5, 2) := by decide +kernel
theorem dX6_cheapestAdditions_150 : decode cX6_cheapestAdditions 150 = .ok (.ireturn, 1) := by decide +kernel
theorem dX6_cheapestAdditions_44 : decode cX6_cheapestAdditions 44 = .ok (.iload 6, 2) := by decide +kernel
theorem dX6_cheapestAdditions_46 : decode cX6_cheapestAdditions 46 = .ok (.bipush 15, 2) := by decide +kernel
theorem dX6_cheapestAdditions_48 : decode cX6_cheapestAdditions 48 = .ok (.iand, 1) := by decide +kernel
theorem dX6_cheapestAdditions_49 : decode cX6_cheapestAdditions 49 = .ok (.istore 7, 2) := by decide +kernel
theorem dX6_cheapestAdditions_51 : decode cX6_cheapestAdditions 51 = .ok (.iload 6, 2) := by decide +kernel
theorem dX6_cheapestAdditions_53 : decode cX6_cheapestAdditions 53 = .ok (.iconst 4, 1) := by decide +kernel
theorem dX6_cheapestAdditions_54 : decode cX6_cheapestAdditions 54 = .ok (.ishr, 1) := by decide +kernel
theorem dX6_cheapestAdditions_55 : decode cX6_cheapestAdditions 55 = .ok (.istore 8, 2) := by decide +kernel
theorem dX6_cheapestAdditions_57 : decode cX6_cheapestAdditions 57 = .ok (.iload 7, 2) := by decide +kernel
theorem dX6_cheapestAdditions_59 : decode cX6_cheapestAdditions 59 = .ok (.iconst 4, 1) := by decide +kernel
theorem dX6_cheapestAdditions_60 : decode cX6_cheapestAdditions 60 = .ok (.iload_n 2, 1) := by decide +kernel
theorem dX6_cheapestAdditions_61 : decode cX6_cheapestAdditions 61 = .ok (.imul, 1) := by decide +kernel
theorem dX6_cheapestAdditions_62 : decode cX6_cheapestAdditions 62 = .ok (.ishl, 1) := by decide +kernel
theorem dX6_cheapestAdditions_63 : decode cX6_cheapestAdditions 63 = .ok (.iload 8, 2) := by decide +kernel
theorem dX6_cheapestAdditions_65 : decode cX6_cheapestAdditions 65 = .ok (.iconst 4, 1) := by decide +kernel
theorem dX6_cheapestAdditions_66 : decode cX6_cheapestAdditions 66 = .ok (.iload_n 3, 1) := by decide +kernel
theorem dX6_cheapestAdditions_67 : decode cX6_cheapestAdditions 67 = .ok (.imul, 1) := by decide +kernel
theorem dX6_cheapestAdditions_68 : decode cX6_cheapestAdditions 68 = .ok (.ishl, 1) := by decide +kernel
theorem dX6_cheapestAdditions_69 : decode cX6_cheapestAdditions 69 = .ok (.ior, 1) := by decide +kernel
theorem dX6_cheapestAdditions_70 : decode cX6_cheapestAdditions 70 = .ok (.istore 9, 2) := by decide +kernel
theorem dX6_cheapestAdditions_72 : decode cX6_cheapestAdditions 72 = .ok (.iload 5, 2) := by decide +kernel
theorem dX6_cheapestAdditions_74 : decode cX6_cheapestAdditions 74 = .ok (.iconst (-1), 1) := by decide +kernel
theorem dX6_cheapestAdditions_75 : decode cX6_cheapestAdditions 75 = .ok (.if_icmp .eq 21, 3) := by decide +kernel
theorem dX6_cheapestAdditions_96 : decode cX6_cheapestAdditions 96 = .ok (.aload_n 0, 1) := by decide +kernel
theorem dX6_cheapestAdditions_97 : decode cX6_cheapestAdditions 97 = .ok (.getfield 38, 3) := by decide +kernel
theorem dX6_cheapestAdditions_100 : decode cX6_cheapestAdditions 100 = .ok (.aload_n 0, 1) := by decide +kernel
theorem dX6_cheapestAdditions_101 : decode cX6_cheapestAdditions 101 = .ok (.getfield 19, 3) := by decide +kernel
theorem dX6_cheapestAdditions_104 : decode cX6_cheapestAdditions 104 = .ok (.invokevirtual 139, 3) := by decide +kernel
theorem dX6_cheapestAdditions_107 : decode cX6_cheapestAdditions 107 = .ok (.aload_n 0, 1) := by decide +kernel
theorem dX6_cheapestAdditions_108 : decode cX6_cheapestAdditions 108 = .ok (.getfield 38, 3) := by decide +kernel
theorem dX6_cheapestAdditions_111 : decode cX6_cheapestAdditions 111 = .ok (.getfield 163, 3) := by decide +kernel
theorem dX6_cheapestAdditions_114 : decode cX6_cheapestAdditions 114 = .ok (.iload 9, 2) := by decide +kernel
theorem dX6_cheapestAdditions_116 : decode cX6_cheapestAdditions 116 = .ok (.invokevirtual 193, 3) := by decide +kernel
theorem dX6_cheapestAdditions_119 : decode cX6_cheapestAdditions 119 = .ok (.aload_n 0, 1) := by decide +kernel
theorem dX6_cheapestAdditions_120 : decode cX6_cheapestAdditions 120 = .ok (.getfield 38, 3) := by decide +kernel
theorem dX6_cheapestAdditions_123 : decode cX6_cheapestAdditions 123 = .ok (.aload_n 0, 1) := by decide +kernel
theorem dX6_cheapestAdditions_124 : decode cX6_cheapestAdditions 124 = .ok (.getfield 28, 3) := by decide +kernel
theorem dX6_cheapestAdditions_127 : decode cX6_cheapestAdditions 127 = .ok (.aload_n 0, 1) := by decide +kernel
theorem dX6_cheapestAdditions_128 : decode cX6_cheapestAdditions 128 = .ok (.getfield 46, 3) := by decide +kernel
theorem dX6_cheapestAdditions_131 : decode cX6_cheapestAdditions 131 = .ok (.invokevirtual 155, 3) := by decide +kernel
theorem dX6_cheapestAdditions_134 : decode cX6_cheapestAdditions 134 = .ok (.iconst (-1), 1) := by decide +kernel
theorem dX6_cheapestAdditions_135 : decode cX6_cheapestAdditions 135 = .ok (.if_icmp .ne 7, 3) := by decide +kernel
theorem dX6_cheapestAdditions_142 : decode cX6_cheapestAdditions 142 = .ok (.iinc 6 1, 3) := by decide +kernel
theorem dX6_cheapestAdditions_145 : decode cX6_cheapestAdditions 145 = .ok (.goto (-108), 3) := by decide +kernel
theorem dX6_cheapestAdditions_138 : decode cX6_cheapestAdditions 138 = .ok (.iload 9, 2) := by decide +kernel
theorem dX6_cheapestAdditions_140 : decode cX6_cheapestAdditions 140 = .ok (.istore 5, 2) := by decide +kernel
theorem dX6_cheapestAdditions_78 : decode cX6_cheapestAdditions 78 = .ok (.aload_n 0, 1) := by decide +kernel
theorem dX6_cheapestAdditions_79 : decode cX6_cheapestAdditions 79 = .ok (.iload 9, 2) := by decide +kernel
theorem dX6_cheapestAdditions_81 : decode cX6_cheapestAdditions 81 = .ok (.invokevirtual 181, 3) := by decide +kernel
theorem dX6_cheapestAdditions_84 : decode cX6_cheapestAdditions 84 = .ok (.aload_n 0, 1) := by decide +kernel
theorem dX6_cheapestAdditions_85 : decode cX6_cheapestAdditions 85 = .ok (.iload 5, 2) := by decide +kernel
theorem dX6_cheapestAdditions_87 : decode cX6_cheapestAdditions 87 = .ok (.invokevirtual 181, 3) := by decide +kernel
theorem dX6_cheapestAdditions_90 : decode cX6_cheapestAdditions 90 = .ok (.if_icmp .lt 6, 3) := by decide +kernel
theorem dX6_cheapestAdditions_93 : decode cX6_cheapestAdditions 93 = .ok (.goto 49, 3) := by decide +kernel
theorem dX6_cheapestAdditions_0 : decode cX6_cheapestAdditions 0 = .ok (.iload_n 1, 1) := by decide +kernel
theorem dX6_cheapestAdditions_1 : decode cX6_cheapestAdditions 1 = .ok (.invokestatic 184, 3) := by decide +kernel
theorem dX6_cheapestAdditions_4 : decode cX6_cheapestAdditions 4 = .ok (.iconst 5, 1) := by decide +kernel
theorem dX6_cheapestAdditions_5 : decode cX6_cheapestAdditions 5 = .ok (.invokestatic 129, 3) := by decide +kernel
theorem dX6_cheapestAdditions_8 : decode cX6_cheapestAdditions 8 = .ok (.istore_n 2, 1) := by decide +kernel
theorem dX6_cheapestAdditions_9 : decode cX6_cheapestAdditions 9 = .ok (.bipush 31, 2) := by decide +kernel
theorem dX6_cheapestAdditions_11 : decode cX6_cheapestAdditions 11 = .ok (.iload_n 1, 1) := by decide +kernel
theorem dX6_cheapestAdditions_12 : decode cX6_cheapestAdditions 12 = .ok (.invokestatic 187, 3) := by decide +kernel
theorem dX6_cheapestAdditions_15 : decode cX6_cheapestAdditions 15 = .ok (.isub, 1) := by decide +kernel
theorem dX6_cheapestAdditions_16 : decode cX6_cheapestAdditions 16 = .ok (.iconst 0, 1) := by decide +kernel
theorem dX6_cheapestAdditions_17 : decode cX6_cheapestAdditions 17 = .ok (.invokestatic 190, 3) := by decide +kernel
theorem dX6_cheapestAdditions_20 : decode cX6_cheapestAdditions 20 = .ok (.istore_n 3, 1) := by decide +kernel
theorem dX6_cheapestAdditions_21 : decode cX6_cheapestAdditions 21 = .ok (.iconst 1, 1) := by decide +kernel
theorem dX6_cheapestAdditions_22 : decode cX6_cheapestAdditions 22 = .ok (.iconst 4, 1) := by decide +kernel
theorem dX6_cheapestAdditions_23 : decode cX6_cheapestAdditions 23 = .ok (.iload_n 1, 1) := by decide +kernel
theorem dX6_cheapestAdditions_24 : decode cX6_cheapestAdditions 24 = .ok (.invokestatic 173, 3) := by decide +kernel
theorem dX6_cheapestAdditions_27 : decode cX6_cheapestAdditions 27 = .ok (.imul, 1) := by decide +kernel
theorem dX6_cheapestAdditions_28 : decode cX6_cheapestAdditions 28 = .ok (.ishl, 1) := by decide +kernel
theorem dX6_cheapestAdditions_29 : decode cX6_cheapestAdditions 29 = .ok (.istore 4, 2) := by decide +kernel
theorem dX6_cheapestAdditions_31 : decode cX6_cheapestAdditions 31 = .ok (.iconst (-1), 1) := by decide +kernel
theorem dX6_cheapestAdditions_32 : decode cX6_cheapestAdditions 32 = .ok (.istore 5, 2) := by decide +kernel
theorem dX6_cheapestAdditions_34 : decode cX6_cheapestAdditions 34 = .ok (.iconst 0, 1) := by decide +kernel
theorem dX6_cheapestAdditions_35 : decode cX6_cheapestAdditions 35 = .ok (.istore 6, 2) := by decide +kernel
theorem dX6_cheapest_0 : decode cX6_cheapest 0 = .ok (.iload_n 1, 1) := by decide +kernel
theorem dX6_cheapest_1 : decode cX6_cheapest 1 = .ok (.iconst 1, 1) := by decide +kernel
theorem dX6_cheapest_2 : decode cX6_cheapest 2 = .ok (.invokestatic 83, 3) := by decide +kernel
theorem dX6_cheapest_5 : decode cX6_cheapest 5 = .ok (.ifCond .ne 5, 3) := by decide +kernel
theorem dX6_cheapest_10 : decode cX6_cheapest 10 = .ok (.aload_n 0, 1) := by decide +kernel
theorem dX6_cheapest_11 : decode cX6_cheapest 11 = .ok (.getfield 28, 3) := by decide +kernel
theorem dX6_cheapest_14 : decode cX6_cheapest 14 = .ok (.getfield 138, 3) := by decide +kernel
theorem dX6_cheapest_17 : decode cX6_cheapest 17 = .ok (.iconst 3, 1) := by decide +kernel
theorem dX6_cheapest_18 : decode cX6_cheapest 18 = .ok (.if_icmp .le 6, 3) := by decide +kernel
theorem dX6_cheapest_24 : decode cX6_cheapest 24 = .ok (.aload_n 0, 1) := by decide +kernel
theorem dX6_cheapest_25 : decode cX6_cheapest 25 = .ok (.getfield 19, 3) := by decide +kernel
theorem dX6_cheapest_28 : decode cX6_cheapest 28 = .ok (.aload_n 0, 1) := by decide +kernel
theorem dX6_cheapest_29 : decode cX6_cheapest 29 = .ok (.getfield 28, 3) := by decide +kernel
theorem dX6_cheapest_32 : decode cX6_cheapest 32 = .ok (.invokevirtual 169, 3) := by decide +kernel
theorem dX6_cheapest_35 : decode cX6_cheapest 35 = .ok (.istore_n 2, 1) := by decide +kernel
theorem dX6_cheapest_36 : decode cX6_cheapest 36 = .ok (.iload_n 2, 1) := by decide +kernel
theorem dX6_cheapest_37 : decode cX6_cheapest 37 = .ok (.invokestatic 173, 3) := by decide +kernel
theorem dX6_cheapest_40 : decode cX6_cheapest 40 = .ok (.iconst 2, 1) := by decide +kernel
theorem dX6_cheapest_41 : decode cX6_cheapest 41 = .ok (.if_icmp .le 6, 3) := by decide +kernel
theorem dX6_cheapest_47 : decode cX6_cheapest 47 = .ok (.aload_n 0, 1) := by decide +kernel
theorem dX6_cheapest_48 : decode cX6_cheapest 48 = .ok (.iload_n 2, 1) := by decide +kernel
theorem dX6_cheapest_49 : decode cX6_cheapest 49 = .ok (.invokevirtual 178, 3) := by decide +kernel
theorem dX6_cheapest_52 : decode cX6_cheapest 52 = .ok (.istore_n 3, 1) := by decide +kernel
theorem dX6_cheapest_53 : decode cX6_cheapest 53 = .ok (.iload_n 3, 1) := by decide +kernel
theorem dX6_cheapest_54 : decode cX6_cheapest 54 = .ok (.iconst (-1), 1) := by decide +kernel
theorem dX6_cheapest_55 : decode cX6_cheapest 55 = .ok (.if_icmp .eq 8, 3) := by decide +kernel
theorem dX6_cheapest_63 : decode cX6_cheapest 63 = .ok (.iload_n 3, 1) := by decide +kernel
theorem dX6_cheapest_64 : decode cX6_cheapest 64 = .ok (.goto 8, 3) := by decide +kernel
theorem dX6_cheapest_72 : decode cX6_cheapest 72 = .ok (.ireturn, 1) := by decide +kernel
theorem dX6_cheapest_58 : decode cX6_cheapest 58 = .ok (.iload_n 1, 1) := by decide +kernel
theorem dX6_cheapest_59 : decode cX6_cheapest 59 = .ok (.iconst 1, 1) := by decide +kernel
theorem dX6_cheapest_60 : decode cX6_cheapest 60 = .ok (.if_icmp .ne 7, 3) := by decide +kernel
theorem dX6_cheapest_67 : decode cX6_cheapest 67 = .ok (.aload_n 0, 1) := by decide +kernel
theorem dX6_cheapest_68 : decode cX6_cheapest 68 = .ok (.iload_n 3, 1) := by decide +kernel
theorem dX6_cheapest_69 : decode cX6_cheapest 69 = .ok (.invokevirtual 181, 3) := by decide +kernel
theorem dX6_cheapest_44 : decode cX6_cheapest 44 = .ok (.bipush (-5), 2) := by decide +kernel
theorem dX6_cheapest_46 : decode cX6_cheapest 46 = .ok (.ireturn, 1) := by decide +kernel
theorem dX6_cheapest_21 : decode cX6_cheapest 21 = .ok (.bipush (-3), 2) := by decide +kernel
theorem dX6_cheapest_23 : decode cX6_cheapest 23 = .ok (.ireturn, 1) := by decide +kernel
theorem dX6_cheapest_8 : decode cX6_cheapest 8 = .ok (.iconst (-1), 1) := by decide +kernel
theorem dX6_cheapest_9 : decode cX6_cheapest 9 = .ok (.ireturn, 1) := by decide +kernel
theorem dX6_again_0 : decode cX6_again 0 = .ok (.aload_n 0, 1) := by decide +kernel
theorem dX6_again_1 : decode cX6_again 1 = .ok (.getfield 38, 3) := by decide +kernel
theorem dX6_again_4 : decode cX6_again 4 = .ok (.aload_n 0, 1) := by decide +kernel
theorem dX6_again_5 : decode cX6_again 5 = .ok (.getfield 19, 3) := by decide +kernel
theorem dX6_again_8 : decode cX6_again 8 = .ok (.invokevirtual 139, 3) := by decide +kernel
theorem dX6_again_11 : decode cX6_again 11 = .ok (.aload_n 0, 1) := by decide +kernel
theorem dX6_again_12 : decode cX6_again 12 = .ok (.getfield 38, 3) := by decide +kernel
theorem dX6_again_15 : decode cX6_again 15 = .ok (.aload_n 0, 1) := by decide +kernel
theorem dX6_again_16 : decode cX6_again 16 = .ok (.getfield 32, 3) := by decide +kernel
theorem dX6_again_19 : decode cX6_again 19 = .ok (.invokevirtual 196, 3) := by decide +kernel
theorem dX6_again_22 : decode cX6_again 22 = .ok (.ifCond .eq 7, 3) := by decide +kernel
theorem dX6_again_25 : decode cX6_again 25 = .ok (.iconst 1, 1) := by decide +kernel
theorem dX6_again_26 : decode cX6_again 26 = .ok (.goto 4, 3) := by decide +kernel
theorem dX6_again_30 : decode cX6_again 30 = .ok (.ireturn, 1) := by decide +kernel
theorem dX6_again_29 : decode cX6_again 29 = .ok (.iconst 0, 1) := by decide +kernel
theorem dX6_log_0 : decode cX6_log 0 = .ok (.iload_n 1, 1) := by decide +kernel
theorem dX6_log_1 : decode cX6_log 1 = .ok (.aload_n 0, 1) := by decide +kernel
theorem dX6_log_2 : decode cX6_log 2 = .ok (.getfield 32, 3) := by decide +kernel
theorem dX6_log_5 : decode cX6_log 5 = .ok (.getfield 138, 3) := by decide +kernel
theorem dX6_log_8 : decode cX6_log 8 = .ok (.iconst 1, 1) := by decide +kernel
theorem dX6_log_9 : decode cX6_log 9 = .ok (.isub, 1) := by decide +kernel
theorem dX6_log_10 : decode cX6_log 10 = .ok (.invokestatic 83, 3) := by decide +kernel
theorem dX6_log_13 : decode cX6_log 13 = .ok (.ifCond .ne 5, 3) := by decide +kernel
theorem dX6_log_18 : decode cX6_log 18 = .ok (.iload_n 2, 1) := by decide +kernel
theorem dX6_log_19 : decode cX6_log 19 = .ok (.tableswitch 55 0 2 #[25, 35, 45], 25) := by decide +kernel
theorem dX6_log_74 : decode cX6_log 74 = .ok (.iconst (-1), 1) := by decide +kernel
theorem dX6_log_75 : decode cX6_log 75 = .ok (.ireturn, 1) := by decide +kernel
theorem dX6_log_44 : decode cX6_log 44 = .ok (.aload_n 0, 1) := by decide +kernel
theorem dX6_log_45 : decode cX6_log 45 = .ok (.getfield 32, 3) := by decide +kernel
theorem dX6_log_48 : decode cX6_log 48 = .ok (.getfield 200, 3) := by decide +kernel
theorem dX6_log_51 : decode cX6_log 51 = .ok (.iload_n 1, 1) := by decide +kernel
theorem dX6_log_52 : decode cX6_log 52 = .ok (.iaload, 1) := by decide +kernel
theorem dX6_log_53 : decode cX6_log 53 = .ok (.ireturn, 1) := by decide +kernel
theorem dX6_log_54 : decode cX6_log 54 = .ok (.aload_n 0, 1) := by decide +kernel
theorem dX6_log_55 : decode cX6_log 55 = .ok (.getfield 32, 3) := by decide +kernel
theorem dX6_log_58 : decode cX6_log 58 = .ok (.getfield 202, 3) := by decide +kernel
theorem dX6_log_61 : decode cX6_log 61 = .ok (.iload_n 1, 1) := by decide +kernel
theorem dX6_log_62 : decode cX6_log 62 = .ok (.iaload, 1) := by decide +kernel
theorem dX6_log_63 : decode cX6_log 63 = .ok (.ireturn, 1) := by decide +kernel
theorem dX6_log_64 : decode cX6_log 64 = .ok (.aload_n 0, 1) := by decide +kernel
theorem dX6_log_65 : decode cX6_log 65 = .ok (.getfield 32, 3) := by decide +kernel
theorem dX6_log_68 : decode cX6_log 68 = .ok (.getfield 205, 3) := by decide +kernel
theorem dX6_log_71 : decode cX6_log 71 = .ok (.iload_n 1, 1) := by decide +kernel
theorem dX6_log_72 : decode cX6_log 72 = .ok (.iaload, 1) := by decide +kernel
theorem dX6_log_73 : decode cX6_log 73 = .ok (.ireturn, 1) := by decide +kernel
theorem dX6_log_16 : decode cX6_log 16 = .ok (.iconst (-1), 1) := by decide +kernel
theorem dX6_log_17 : decode cX6_log 17 = .ok (.ireturn, 1) := by decide +kernel
theorem dX6_reset_0 : decode cX6_reset 0 = .ok (.aload_n 0, 1) := by decide +kernel
theorem dX6_reset_1 : decode cX6_reset 1 = .ok (.getfield 32, 3) := by decide +kernel
theorem dX6_reset_4 : decode cX6_reset 4 = .ok (.getfield 138, 3) := by decide +kernel
theorem dX6_reset_7 : decode cX6_reset 7 = .ok (.istore_n 1, 1) := by decide +kernel
theorem dX6_reset_8 : decode cX6_reset 8 = .ok (.aload_n 0, 1) := by decide +kernel
theorem dX6_reset_9 : decode cX6_reset 9 = .ok (.getfield 32, 3) := by decide +kernel
theorem dX6_reset_12 : decode cX6_reset 12 = .ok (.iconst 0, 1) := by decide +kernel
theorem dX6_reset_13 : decode cX6_reset 13 = .ok (.putfield 138, 3) := by decide +kernel
theorem dX6_reset_16 : decode cX6_reset 16 = .ok (.aload_n 0, 1) := by decide +kernel
theorem dX6_reset_17 : decode cX6_reset 17 = .ok (.getfield 19, 3) := by decide +kernel
theorem dX6_reset_20 : decode cX6_reset 20 = .ok (.invokevirtual 208, 3) := by decide +kernel
theorem dX6_reset_23 : decode cX6_reset 23 = .ok (.iload_n 1, 1) := by decide +kernel
theorem dX6_reset_24 : decode cX6_reset 24 = .ok (.ireturn, 1) := by decide +kernel
theorem dX6_count_0 : decode cX6_count 0 = .ok (.iload_n 1, 1) := by decide +kernel
theorem dX6_count_1 : decode cX6_count 1 = .ok (.tableswitch 87 0 5 #[39, 47, 55, 63, 71, 79], 39) := by decide +kernel
theorem dX6_count_88 : decode cX6_count 88 = .ok (.iconst (-1), 1) := by decide +kernel
theorem dX6_count_89 : decode cX6_count 89 = .ok (.ireturn, 1) := by decide +kernel
theorem dX6_count_40 : decode cX6_count 40 = .ok (.aload_n 0, 1) := by decide +kernel
theorem dX6_count_41 : decode cX6_count 41 = .ok (.getfield 19, 3) := by decide +kernel
theorem dX6_count_44 : decode cX6_count 44 = .ok (.getfield 58, 3) := by decide +kernel
theorem dX6_count_47 : decode cX6_count 47 = .ok (.ireturn, 1) := by decide +kernel
theorem dX6_count_48 : decode cX6_count 48 = .ok (.aload_n 0, 1) := by decide +kernel
theorem dX6_count_49 : decode cX6_count 49 = .ok (.getfield 28, 3) := by decide +kernel
theorem dX6_count_52 : decode cX6_count 52 = .ok (.getfield 138, 3) := by decide +kernel
theorem dX6_count_55 : decode cX6_count 55 = .ok (.ireturn, 1) := by decide +kernel
theorem dX6_count_56 : decode cX6_count 56 = .ok (.aload_n 0, 1) := by decide +kernel
theorem dX6_count_57 : decode cX6_count 57 = .ok (.getfield 19, 3) := by decide +kernel
theorem dX6_count_60 : decode cX6_count 60 = .ok (.getfield 126, 3) := by decide +kernel
theorem dX6_count_63 : decode cX6_count 63 = .ok (.ireturn, 1) := by decide +kernel
theorem dX6_count_64 : decode cX6_count 64 = .ok (.aload_n 0, 1) := by decide +kernel
theorem dX6_count_65 : decode cX6_count 65 = .ok (.getfield 19, 3) := by decide +kernel
theorem dX6_count_68 : decode cX6_count 68 = .ok (.getfield 99, 3) := by decide +kernel
theorem dX6_count_71 : decode cX6_count 71 = .ok (.ireturn, 1) := by decide +kernel
theorem dX6_count_72 : decode cX6_count 72 = .ok (.aload_n 0, 1) := by decide +kernel
theorem dX6_count_73 : decode cX6_count 73 = .ok (.getfield 32, 3) := by decide +kernel
theorem dX6_count_76 : decode cX6_count 76 = .ok (.getfield 138, 3) := by decide +kernel
theorem dX6_count_79 : decode cX6_count 79 = .ok (.ireturn, 1) := by decide +kernel
theorem dX6_count_80 : decode cX6_count 80 = .ok (.aload_n 0, 1) := by decide +kernel
theorem dX6_count_81 : decode cX6_count 81 = .ok (.getfield 12, 3) := by decide +kernel
theorem dX6_count_84 : decode cX6_count 84 = .ok (.getfield 50, 3) := by decide +kernel
theorem dX6_count_87 : decode cX6_count 87 = .ok (.ireturn, 1) := by decide +kernel
abbrev md_P_free : Nat → Nat → Bool := mdf [(7, 6)]
set_option maxHeartbeats 4000000 in
set_option maxRecDepth 100000 in
theorem P_free (l : Launch) (D : va_G) (cI cZ cS cR : ClassId) (N0 : NT) (g : GS) (hI : Inv g) (h : Nat) (n : Int32) (z : Int32) (r_h : g.1 h = 7) (kz : g.2.1 h 6 = .int z) (l_z : 0 ≤ z.toInt) (u_z : z.toInt ≤ 1) : Ty l D cI cZ cS cR N0 yX6_free cX6_free 3 (some .int) 1 0 0 [.ref h, .int n] g (fun v g' => ∃ (r : Int32) (z2 : Int32), v = some (.int r) ∧ Inv g' ∧ Ex g g' ∧ Sm md_P_free g g' ∧ (g'.2.1 h 6 = .int z2) ∧ ((0 ≤ n.toInt ∧ n.toInt ≤ 1 ∧ r.toInt = z.toInt ∧ z2.toInt = n.toInt) ∨ ((n.toInt < 0 ∨ 1 < n.toInt) ∧ r.toInt = -2 ∧ z2.toInt = z.toInt))) := by
  refine t_enter (by decide) (Nat.le_of_ble_eq_true rfl) ?_
  intro p e s m args below meth c ls H locs hB hr hin hl hT
  have hx := hB.1
  have hb := hB.2.1
  have hl : lv_has ls 3 [(0, .ref h), (1, .int n)] := hl
  have hE : Ex g g := Ex.rf
  have hM : Sm md_P_free g g := Sm.rf
  refine lv_iload_n hx hb dX6_free_0 rfl (lv_at hl 1 rfl) ?_
  refine lv_iconst (v := 1) hx hb dX6_free_1 (by decide) ?_
  refine t_callS (n := 2) (As := [.int n, .int 1]) (rest := []) hB hT hl.1 (s_within l D cI cZ cS cR N0 g hI n 1 ) k_415 k_57 k_441 k_414 (by decide +kernel) ⟨(Nat.le_of_ble_eq_true rfl), (Nat.le_of_ble_eq_true rfl)⟩ rfl (Nat.le_of_ble_eq_true rfl) ⟨(Nat.le_of_ble_eq_true rfl), (Nat.le_of_ble_eq_true rfl)⟩ dX6_free_2 (fun v g_1 H locs hp hT => ?_)
  obtain ⟨r_2, rfl, eg, f_3⟩ := hp
  rw [eg] at hT
  clear eg
  refine W.eq (g2 := F0 m 5 ls [.int r_2]) rfl ?_
  have qc_6 : (1 : Int32).toInt = 1 := (by decide)
  rcases f_3 with ⟨rfl, hw_7, hw_8⟩ | ⟨rfl, hw_9⟩
  · refine W.eq (g2 := F0 m 5 ls [.int 1]) rfl ?_
    refine lv_if_ne (tgt := 11) hx hb dX6_free_5 (by decide) (fun c_ => ?_) (fun c_ => absurd c_ (by decide))
    refine lv_aload_n hx hb dX6_free_11 rfl (lv_at hl 0 rfl) ?_
    refine t_get (ci := 6) (v := .int z) hB hT (ro_ci r_h rfl) rfl 6 (by decide) k_314 kz dX6_free_12 ?_
    refine lv_if_eq (tgt := 22) hx hb dX6_free_15 (by decide) (fun c_10 => ?_) (fun c_10 => ?_)
    · have c_10' : z.toInt = 0 := i_eq c_10 rfl (by decide)
      refine lv_iconst (v := 0) hx hb dX6_free_22 (by decide) ?_
      refine lv_istore_n (lv' := [(2, .int 0), (0, .ref h), (1, .int n)]) hx hb dX6_free_23 rfl hl (by decide) rfl (fun ls hl => ?_)
      refine lv_aload_n hx hb dX6_free_24 rfl (lv_at hl 1 rfl) ?_
      refine lv_iload_n hx hb dX6_free_25 rfl (lv_at hl 2 rfl) ?_
      refine lv_iconst (v := 1) hx hb dX6_free_26 (by decide) ?_
      refine lv_icmp_ne (tgt := 34) hx hb dX6_free_27 (by decide) (fun c_11 => ?_) (fun c_11 => ?_)
      · have c_11' : n.toInt ≠ 1 := i_ne c_11 rfl (by decide)
        refine lv_iconst (v := 0) hx hb dX6_free_34 (by decide) ?_
        refine t_put0 (ci := 6) (v := .int 0) hB hT (ro_ci r_h rfl) (ro_n0 r_h (by decide)) rfl 6 (by decide) k_314 (Or.inl rfl) rfl rfl dX6_free_35 (fun H locs hT => ?_)
        have hI : Inv (sF g h 6 (.int 0)) := hI.sF (p_7_6 r_h (⟨_, rfl, by decide, by decide⟩))
        have hM : Sm md_P_free g (sF g h 6 (.int 0)) := hM.tr hE (Sm_sF (by rw [r_h]; rfl))
        have hE : Ex g (sF g h 6 (.int 0)) := hE
        refine lv_iload_n hx hb dX6_free_38 rfl (lv_at hl 0 rfl) ?_
        exact t_iret hB hr hT (Nat.le_of_ble_eq_true rfl) (Nat.le_of_ble_eq_true rfl) dX6_free_39 ⟨0, 0, rfl, hI, hE, hM, sF_eq, (by have q1 : (1 : Int32).toInt = 1 := (by decide); have q0 : (0 : Int32).toInt = 0 := (by decide); have q2 : (-2 : Int32).toInt = -2 := (by decide); omega)⟩
      · have c_11' : n.toInt = 1 := i_eq c_11 rfl (by decide)
        refine lv_iconst (v := 1) hx hb dX6_free_30 (by decide) ?_
        refine lv_goto (tgt := 35) hx hb dX6_free_31 (by decide) ?_
        refine t_put0 (ci := 6) (v := .int 1) hB hT (ro_ci r_h rfl) (ro_n0 r_h (by decide)) rfl 6 (by decide) k_314 (Or.inl rfl) rfl rfl dX6_free_35 (fun H locs hT => ?_)
        have hI : Inv (sF g h 6 (.int 1)) := hI.sF (p_7_6 r_h (⟨_, rfl, by decide, by decide⟩))
        have hM : Sm md_P_free g (sF g h 6 (.int 1)) := hM.tr hE (Sm_sF (by rw [r_h]; rfl))
        have hE : Ex g (sF g h 6 (.int 1)) := hE
        refine lv_iload_n hx hb dX6_free_38 rfl (lv_at hl 0 rfl) ?_
        exact t_iret hB hr hT (Nat.le_of_ble_eq_true rfl) (Nat.le_of_ble_eq_true rfl) dX6_free_39 ⟨0, 1, rfl, hI, hE, hM, sF_eq, (by have q1 : (1 : Int32).toInt = 1 := (by decide); have q0 : (0 : Int32).toInt = 0 := (by decide); have q2 : (-2 : Int32).toInt = -2 := (by decide); omega)⟩
    · have c_10' : z.toInt ≠ 0 := i_ne c_10 rfl (by decide)
      refine lv_iconst (v := 1) hx hb dX6_free_18 (by decide) ?_
      refine lv_goto (tgt := 23) hx hb dX6_free_19 (by decide) ?_
      refine lv_istore_n (lv' := [(2, .int 1), (0, .ref h), (1, .int n)]) hx hb dX6_free_23 rfl hl (by decide) rfl (fun ls hl => ?_)
      refine lv_aload_n hx hb dX6_free_24 rfl (lv_at hl 1 rfl) ?_
      refine lv_iload_n hx hb dX6_free_25 rfl (lv_at hl 2 rfl) ?_
      refine lv_iconst (v := 1) hx hb dX6_free_26 (by decide) ?_
      refine lv_icmp_ne (tgt := 34) hx hb dX6_free_27 (by decide) (fun c_12 => ?_) (fun c_12 => ?_)
      · have c_12' : n.toInt ≠ 1 := i_ne c_12 rfl (by decide)
        refine lv_iconst (v := 0) hx hb dX6_free_34 (by decide) ?_
        refine t_put0 (ci := 6) (v := .int 0) hB hT (ro_ci r_h rfl) (ro_n0 r_h (by decide)) rfl 6 (by decide) k_314 (Or.inl rfl) rfl rfl dX6_free_35 (fun H locs hT => ?_)
        have hI : Inv (sF g h 6 (.int 0)) := hI.sF (p_7_6 r_h (⟨_, rfl, by decide, by decide⟩))
        have hM : Sm md_P_free g (sF g h 6 (.int 0)) := hM.tr hE (Sm_sF (by rw [r_h]; rfl))
        have hE : Ex g (sF g h 6 (.int 0)) := hE
        refine lv_iload_n hx hb dX6_free_38 rfl (lv_at hl 0 rfl) ?_
        exact t_iret hB hr hT (Nat.le_of_ble_eq_true rfl) (Nat.le_of_ble_eq_true rfl) dX6_free_39 ⟨1, 0, rfl, hI, hE, hM, sF_eq, (by have q1 : (1 : Int32).toInt = 1 := (by decide); have q0 : (0 : Int32).toInt = 0 := (by decide); have q2 : (-2 : Int32).toInt = -2 := (by decide); omega)⟩
      · have c_12' : n.toInt = 1 := i_eq c_12 rfl (by decide)
        refine lv_iconst (v := 1) hx hb dX6_free_30 (by decide) ?_
        refine lv_goto (tgt := 35) hx hb dX6_free_31 (by decide) ?_
        refine t_put0 (ci := 6) (v := .int 1) hB hT (ro_ci r_h rfl) (ro_n0 r_h (by decide)) rfl 6 (by decide) k_314 (Or.inl rfl) rfl rfl dX6_free_35 (fun H locs hT => ?_)
        have hI : Inv (sF g h 6 (.int 1)) := hI.sF (p_7_6 r_h (⟨_, rfl, by decide, by decide⟩))
        have hM : Sm md_P_free g (sF g h 6 (.int 1)) := hM.tr hE (Sm_sF (by rw [r_h]; rfl))
        have hE : Ex g (sF g h 6 (.int 1)) := hE
        refine lv_iload_n hx hb dX6_free_38 rfl (lv_at hl 0 rfl) ?_
        exact t_iret hB hr hT (Nat.le_of_ble_eq_true rfl) (Nat.le_of_ble_eq_true rfl) dX6_free_39 ⟨1, 1, rfl, hI, hE, hM, sF_eq, (by have q1 : (1 : Int32).toInt = 1 := (by decide); have q0 : (0 : Int32).toInt = 0 := (by decide); have q2 : (-2 : Int32).toInt = -2 := (by decide); omega)⟩
  · refine W.eq (g2 := F0 m 5 ls [.int 0]) rfl ?_
    refine lv_if_ne (tgt := 11) hx hb dX6_free_5 (by decide) (fun c_ => absurd (by decide) c_) (fun c_ => ?_)
    refine lv_bipush (v := (-2)) hx hb dX6_free_8 (by decide) ?_
    exact t_iret hB hr hT (Nat.le_of_ble_eq_true rfl) (Nat.le_of_ble_eq_true rfl) dX6_free_10 ⟨(-2), z, rfl, hI, hE, hM, kz, (by have q1 : (1 : Int32).toInt = 1 := (by decide); have q0 : (0 : Int32).toInt = 0 := (by decide); have q2 : (-2 : Int32).toInt = -2 := (by decide); omega)⟩
abbrev md_P_safe : Nat → Nat → Bool := mdf [(2, 6), (4, 0), (4, 2), (4, 3), (4, 4), (4, 5), (4, 10), (4, 11), (4, 14), (6, 1), (6, 2), (6, 4), (6, 5), (6, 6), (6, 7), (50, 99)]
theorem mdle_P_safe_s_beginAt {r k : Nat} (h : md_P_safe r k = false) : md_s_beginAt r k = false := mdf_le (by decide +kernel) h
theorem mdle_P_safe_s_runOnce {r k : Nat} (h : md_P_safe r k = false) : md_s_runOnce r k = false := mdf_le (by decide +kernel) h
theorem mdle_P_safe_s_runTwice {r k : Nat} (h : md_P_safe r k = false) : md_s_runTwice r k = false := mdf_le (by decide +kernel) h
set_option maxHeartbeats 4000000 in
set_option maxRecDepth 100000 in
theorem P_safe (l : Launch) (D : va_G) (cI cZ cS cR : ClassId) (N0 : NT) (g : GS) (hI : Inv g) (h : Nat) (n : Int32) (k : Int32) (j : Int32) (r_h : g.1 h = 7) : Ty l D cI cZ cS cR N0 yX6_safe cX6_safe 4 (some .int) 15 0 0 [.ref h, .int n, .int k, .int j] g (fun v g' => ∃ (r : Int32), v = some (.int r) ∧ Inv g' ∧ Ex g g' ∧ Sm md_P_safe g g') := by
  refine t_enter (by decide) (Nat.le_of_ble_eq_true rfl) ?_
  intro p e s m args below meth c ls H locs hB hr hin hl hT
  have hx := hB.1
  have hb := hB.2.1
  have hl : lv_has ls 4 [(0, .ref h), (1, .int n), (2, .int k), (3, .int j)] := hl
  have hE : Ex g g := Ex.rf
  have hM : Sm md_P_safe g g := Sm.rf
  refine lv_iload_n hx hb dX6_safe_0 rfl (lv_at hl 1 rfl) ?_
  refine lv_aload_n hx hb dX6_safe_1 rfl (lv_at hl 0 rfl) ?_
  obtain ⟨v_1, e_v_1, r_v_1⟩ := f_7_2 hI r_h
  refine t_get (ci := 6) (v := .ref v_1) hB hT (ro_ci r_h rfl) rfl 2 (by decide) k_310 e_v_1 dX6_safe_2 ?_
  obtain ⟨v_2, e_v_2, l_v_2, u_v_2⟩ := f_1_3 hI r_v_1
  refine t_get (ci := 0) (v := .int v_2) hB hT (ro_ci r_v_1 rfl) rfl 3 (by decide) k_256 e_v_2 dX6_safe_5 ?_
  refine lv_iconst (v := 1) hx hb dX6_safe_8 (by decide) ?_
  refine lv_isub hx hb dX6_safe_9 ?_
  refine lv_topi (fun z_3 ez_3 => ?_)
  have e_z_3 : z_3.toInt = v_2.toInt - 1 := i_sub ez_3 rfl (by decide) (by omega) (by omega)
  refine t_callS (n := 2) (As := [.int n, .int z_3]) (rest := []) hB hT hl.1 (s_within l D cI cZ cS cR N0 g hI n z_3 ) k_415 k_57 k_441 k_414 (by decide +kernel) ⟨(Nat.le_of_ble_eq_true rfl), (Nat.le_of_ble_eq_true rfl)⟩ rfl (Nat.le_of_ble_eq_true rfl) ⟨(Nat.le_of_ble_eq_true rfl), (Nat.le_of_ble_eq_true rfl)⟩ dX6_safe_10 (fun v g_4 H locs hp hT => ?_)
  obtain ⟨r_5, rfl, eg, f_6⟩ := hp
  rw [eg] at hT
  clear eg
  refine W.eq (g2 := F0 m 13 ls [.int r_5]) rfl ?_
  rcases f_6 with ⟨rfl, hw_9, hw_10⟩ | ⟨rfl, hw_11⟩
  · refine W.eq (g2 := F0 m 13 ls [.int 1]) rfl ?_
    refine lv_if_ne (tgt := 18) hx hb dX6_safe_13 (by decide) (fun c_ => ?_) (fun c_ => absurd c_ (by decide))
    refine lv_iload_n hx hb dX6_safe_18 rfl (lv_at hl 2 rfl) ?_
    refine lv_aload_n hx hb dX6_safe_19 rfl (lv_at hl 0 rfl) ?_
    refine t_get (ci := 6) (v := .ref v_1) hB hT (ro_ci r_h rfl) rfl 2 (by decide) k_310 e_v_1 dX6_safe_20 ?_
    refine t_get (ci := 0) (v := .int v_2) hB hT (ro_ci r_v_1 rfl) rfl 3 (by decide) k_256 e_v_2 dX6_safe_23 ?_
    refine lv_iconst (v := 1) hx hb dX6_safe_26 (by decide) ?_
    refine lv_isub hx hb dX6_safe_27 ?_
    refine lv_topi (fun z_12 ez_12 => ?_)
    have e_z_12 : z_12.toInt = v_2.toInt - 1 := i_sub ez_12 rfl (by decide) (by omega) (by omega)
    refine lv_iload_n hx hb dX6_safe_28 rfl (lv_at hl 1 rfl) ?_
    refine lv_isub hx hb dX6_safe_29 ?_
    refine lv_topi (fun z_13 ez_13 => ?_)
    have e_z_13 : z_13.toInt = z_12.toInt - n.toInt := i_sub ez_13 rfl rfl (by omega) (by omega)
    refine t_callS (n := 2) (As := [.int k, .int z_13]) (rest := []) hB hT hl.1 (s_within l D cI cZ cS cR N0 g hI k z_13 ) k_415 k_57 k_441 k_414 (by decide +kernel) ⟨(Nat.le_of_ble_eq_true rfl), (Nat.le_of_ble_eq_true rfl)⟩ rfl (Nat.le_of_ble_eq_true rfl) ⟨(Nat.le_of_ble_eq_true rfl), (Nat.le_of_ble_eq_true rfl)⟩ dX6_safe_30 (fun v g_14 H locs hp hT => ?_)
    obtain ⟨r_15, rfl, eg, f_16⟩ := hp
    rw [eg] at hT
    clear eg
    refine W.eq (g2 := F0 m 33 ls [.int r_15]) rfl ?_
    rcases f_16 with ⟨rfl, hw_19, hw_20⟩ | ⟨rfl, hw_21⟩
    · refine W.eq (g2 := F0 m 33 ls [.int 1]) rfl ?_
      refine lv_if_eq (tgt := 45) hx hb dX6_safe_33 (by decide) (fun c_ => absurd c_ (by decide)) (fun c_ => ?_)
      refine lv_iload_n hx hb dX6_safe_36 rfl (lv_at hl 3 rfl) ?_
      refine lv_bipush (v := 99) hx hb dX6_safe_37 (by decide) ?_
      refine t_callS (n := 2) (As := [.int j, .int 99]) (rest := []) hB hT hl.1 (s_within l D cI cZ cS cR N0 g hI j 99 ) k_415 k_57 k_441 k_414 (by decide +kernel) ⟨(Nat.le_of_ble_eq_true rfl), (Nat.le_of_ble_eq_true rfl)⟩ rfl (Nat.le_of_ble_eq_true rfl) ⟨(Nat.le_of_ble_eq_true rfl), (Nat.le_of_ble_eq_true rfl)⟩ dX6_safe_39 (fun v g_22 H locs hp hT => ?_)
      obtain ⟨r_23, rfl, eg, f_24⟩ := hp
      rw [eg] at hT
      clear eg
      refine W.eq (g2 := F0 m 42 ls [.int r_23]) rfl ?_
      have qc_27 : (99 : Int32).toInt = 99 := (by decide)
      rcases f_24 with ⟨rfl, hw_28, hw_29⟩ | ⟨rfl, hw_30⟩
      · refine W.eq (g2 := F0 m 42 ls [.int 1]) rfl ?_
        refine lv_if_ne (tgt := 48) hx hb dX6_safe_42 (by decide) (fun c_ => ?_) (fun c_ => absurd c_ (by decide))
        refine lv_aload_n hx hb dX6_safe_48 rfl (lv_at hl 0 rfl) ?_
        obtain ⟨v_31, e_v_31, r_v_31⟩ := f_7_4 hI r_h
        refine t_get (ci := 6) (v := .ref v_31) hB hT (ro_ci r_h rfl) rfl 4 (by decide) k_312 e_v_31 dX6_safe_49 ?_
        refine lv_aload_n hx hb dX6_safe_52 rfl (lv_at hl 0 rfl) ?_
        obtain ⟨v_32, e_v_32, r_v_32⟩ := f_7_1 hI r_h
        refine t_get (ci := 6) (v := .ref v_32) hB hT (ro_ci r_h rfl) rfl 1 (by decide) k_309 e_v_32 dX6_safe_53 ?_
        refine t_callV (n := 1) (As := [.ref v_32]) (rest := []) (ci := 1) hB hT hl.1 (s_beginAt l D cI cZ cS cR N0 g hI v_31 v_32 r_v_31 r_v_32) (ro_ci r_v_31 rfl) rfl k_581 k_64 k_578 k_579 k_580 (by decide +kernel) ⟨(Nat.le_of_ble_eq_true rfl), (Nat.le_of_ble_eq_true rfl)⟩ rfl (Nat.le_of_ble_eq_true rfl) ⟨(Nat.le_of_ble_eq_true rfl), (Nat.le_of_ble_eq_true rfl)⟩ dX6_safe_56 (fun v g_33 H locs hp hT => ?_)
        obtain ⟨rfl, hI, x_35, m_34⟩ := hp
        have hM : Sm md_P_safe g g_33 := hM.tr hE (m_34.mo (fun r k h => mdle_P_safe_s_beginAt h))
        have hE : Ex g g_33 := hE.tr x_35
        have r_36 : g_33.1 h = 7 := (Ex.r x_35 r_h (by decide))
        have r_37 : g_33.1 v_1 = 1 := (Ex.r x_35 r_v_1 (by decide))
        have r_38 : g_33.1 v_31 = 2 := (Ex.r x_35 r_v_31 (by decide))
        have r_39 : g_33.1 v_32 = 19 := (Ex.r x_35 r_v_32 (by decide))
        have kn_40 : g_33.2.1 h 2 = .ref v_1 := (Sm.v m_34 r_h (by decide) rfl e_v_1)
        have kn_41 : g_33.2.1 v_1 3 = .int v_2 := (Sm.v m_34 r_v_1 (by decide) rfl e_v_2)
        have kn_42 : g_33.2.1 h 4 = .ref v_31 := (Sm.v m_34 r_h (by decide) rfl e_v_31)
        have kn_43 : g_33.2.1 h 1 = .ref v_32 := (Sm.v m_34 r_h (by decide) rfl e_v_32)
        refine W.eq (g2 := F0 m 59 ls []) rfl ?_
        refine lv_aload_n hx hb dX6_safe_59 rfl (lv_at hl 0 rfl) ?_
        refine t_get (ci := 6) (v := .ref v_31) hB hT (ro_ci r_36 rfl) rfl 4 (by decide) k_312 kn_42 dX6_safe_60 ?_
        refine lv_aload_n hx hb dX6_safe_63 rfl (lv_at hl 0 rfl) ?_
        refine t_get (ci := 6) (v := .ref v_1) hB hT (ro_ci r_36 rfl) rfl 2 (by decide) k_310 kn_40 dX6_safe_64 ?_
        refine t_callV (n := 1) (As := [.ref v_1]) (rest := []) (ci := 1) hB hT hl.1 (s_runOnce l D cI cZ cS cR N0 g_33 hI v_31 v_1 r_38 r_37) (ro_ci r_38 rfl) rfl k_593 k_64 k_590 k_591 k_592 (by decide +kernel) ⟨(Nat.le_of_ble_eq_true rfl), (Nat.le_of_ble_eq_true rfl)⟩ rfl (Nat.le_of_ble_eq_true rfl) ⟨(Nat.le_of_ble_eq_true rfl), (Nat.le_of_ble_eq_true rfl)⟩ dX6_safe_67 (fun v g_44 H locs hp hT => ?_)
        obtain ⟨rfl, hI, x_46, m_45⟩ := hp
        have hM : Sm md_P_safe g g_44 := hM.tr hE (m_45.mo (fun r k h => mdle_P_safe_s_runOnce h))
        have hE : Ex g g_44 := hE.tr x_46
        have r_47 : g_44.1 h = 7 := (Ex.r x_46 r_36 (by decide))
        have r_48 : g_44.1 v_1 = 1 := (Ex.r x_46 r_37 (by decide))
        have r_49 : g_44.1 v_31 = 2 := (Ex.r x_46 r_38 (by decide))
        have r_50 : g_44.1 v_32 = 19 := (Ex.r x_46 r_39 (by decide))
        have kn_51 : g_44.2.1 h 2 = .ref v_1 := (Sm.v m_45 r_36 (by decide) rfl kn_40)
        have kn_52 : g_44.2.1 v_1 3 = .int v_2 := (Sm.v m_45 r_37 (by decide) rfl kn_41)
        have kn_53 : g_44.2.1 h 4 = .ref v_31 := (Sm.v m_45 r_36 (by decide) rfl kn_42)
        have kn_54 : g_44.2.1 h 1 = .ref v_32 := (Sm.v m_45 r_36 (by decide) rfl kn_43)
        refine W.eq (g2 := F0 m 70 ls []) rfl ?_
        refine lv_aload_n hx hb dX6_safe_70 rfl (lv_at hl 0 rfl) ?_
        refine t_get (ci := 6) (v := .ref v_31) hB hT (ro_ci r_47 rfl) rfl 4 (by decide) k_312 kn_53 dX6_safe_71 ?_
        refine lv_aload_n hx hb dX6_safe_74 rfl (lv_at hl 0 rfl) ?_
        refine t_get (ci := 6) (v := .ref v_1) hB hT (ro_ci r_47 rfl) rfl 2 (by decide) k_310 kn_51 dX6_safe_75 ?_
        refine lv_iload_n hx hb dX6_safe_78 rfl (lv_at hl 1 rfl) ?_
        refine lv_iload_n hx hb dX6_safe_79 rfl (lv_at hl 2 rfl) ?_
        refine lv_iload_n hx hb dX6_safe_80 rfl (lv_at hl 3 rfl) ?_
        refine t_callV (n := 4) (As := [.ref v_1, .int n, .int k, .int j]) (rest := []) (ci := 1) hB hT hl.1 (s_runTwice l D cI cZ cS cR N0 g_44 hI v_31 v_1 n k j r_49 r_48 (by omega) (by omega)) (ro_ci r_49 rfl) rfl k_598 k_64 k_595 k_596 k_597 (by decide +kernel) ⟨(Nat.le_of_ble_eq_true rfl), (Nat.le_of_ble_eq_true rfl)⟩ rfl (Nat.le_of_ble_eq_true rfl) ⟨(Nat.le_of_ble_eq_true rfl), (Nat.le_of_ble_eq_true rfl)⟩ dX6_safe_81 (fun v g_55 H locs hp hT => ?_)
        obtain ⟨rfl, hI, x_57, m_56⟩ := hp
        have hM : Sm md_P_safe g g_55 := hM.tr hE (m_56.mo (fun r k h => mdle_P_safe_s_runTwice h))
        have hE : Ex g g_55 := hE.tr x_57
        have r_58 : g_55.1 h = 7 := (Ex.r x_57 r_47 (by decide))
        have r_59 : g_55.1 v_1 = 1 := (Ex.r x_57 r_48 (by decide))
        have r_60 : g_55.1 v_31 = 2 := (Ex.r x_57 r_49 (by decide))
        have r_61 : g_55.1 v_32 = 19 := (Ex.r x_57 r_50 (by decide))
        have kn_62 : g_55.2.1 h 2 = .ref v_1 := (Sm.v m_56 r_47 (by decide) rfl kn_51)
        have kn_63 : g_55.2.1 v_1 3 = .int v_2 := (Sm.v m_56 r_48 (by decide) rfl kn_52)
        have kn_64 : g_55.2.1 h 4 = .ref v_31 := (Sm.v m_56 r_47 (by decide) rfl kn_53)
        have kn_65 : g_55.2.1 h 1 = .ref v_32 := (Sm.v m_56 r_47 (by decide) rfl kn_54)
        refine W.eq (g2 := F0 m 84 ls []) rfl ?_
        refine lv_aload_n hx hb dX6_safe_84 rfl (lv_at hl 0 rfl) ?_
        refine t_get (ci := 6) (v := .ref v_31) hB hT (ro_ci r_58 rfl) rfl 4 (by decide) k_312 kn_64 dX6_safe_85 ?_
        refine lv_aload_n hx hb dX6_safe_88 rfl (lv_at hl 0 rfl) ?_
        refine t_get (ci := 6) (v := .ref v_1) hB hT (ro_ci r_58 rfl) rfl 2 (by decide) k_310 kn_62 dX6_safe_89 ?_
        refine lv_iload_n hx hb dX6_safe_92 rfl (lv_at hl 1 rfl) ?_
        refine lv_aload_n hx hb dX6_safe_93 rfl (lv_at hl 0 rfl) ?_
        obtain ⟨v_66, e_v_66, l_v_66, u_v_66⟩ := f_7_6 hI r_58
        refine t_get (ci := 6) (v := .int v_66) hB hT (ro_ci r_58 rfl) rfl 6 (by decide) k_314 e_v_66 dX6_safe_94 ?_
        refine t_callV (n := 3) (As := [.ref v_1, .int n, .int v_66]) (rest := []) (ci := 1) hB hT hl.1 (s_isLike l D cI cZ cS cR N0 g_55 hI v_31 v_1 n v_66 r_60 r_59 (by omega) (by omega)) (ro_ci r_60 rfl) rfl k_602 k_64 k_599 k_600 k_601 (by decide +kernel) ⟨(Nat.le_of_ble_eq_true rfl), (Nat.le_of_ble_eq_true rfl)⟩ rfl (Nat.le_of_ble_eq_true rfl) ⟨(Nat.le_of_ble_eq_true rfl), (Nat.le_of_ble_eq_true rfl)⟩ dX6_safe_97 (fun v g_67 H locs hp hT => ?_)
        obtain ⟨r_68, rfl, eg, f_69⟩ := hp
        rw [eg] at hT
        clear eg
        refine W.eq (g2 := F0 m 100 ls [.int r_68]) rfl ?_
        rcases f_69 with rfl | rfl
        · refine W.eq (g2 := F0 m 100 ls [.int 1]) rfl ?_
          refine lv_if_eq (tgt := 107) hx hb dX6_safe_100 (by decide) (fun c_ => absurd c_ (by decide)) (fun c_ => ?_)
          refine lv_iconst (v := 1) hx hb dX6_safe_103 (by decide) ?_
          refine lv_goto (tgt := 108) hx hb dX6_safe_104 (by decide) ?_
          exact t_iret hB hr hT (Nat.le_of_ble_eq_true rfl) (Nat.le_of_ble_eq_true rfl) dX6_safe_108 ⟨1, rfl, hI, hE, hM⟩
        · refine W.eq (g2 := F0 m 100 ls [.int 0]) rfl ?_
          refine lv_if_eq (tgt := 107) hx hb dX6_safe_100 (by decide) (fun c_ => ?_) (fun c_ => absurd (by decide) c_)
          refine lv_iconst (v := 0) hx hb dX6_safe_107 (by decide) ?_
          exact t_iret hB hr hT (Nat.le_of_ble_eq_true rfl) (Nat.le_of_ble_eq_true rfl) dX6_safe_108 ⟨0, rfl, hI, hE, hM⟩
      · refine W.eq (g2 := F0 m 42 ls [.int 0]) rfl ?_
        refine lv_if_ne (tgt := 48) hx hb dX6_safe_42 (by decide) (fun c_ => absurd (by decide) c_) (fun c_ => ?_)
        refine lv_bipush (v := (-2)) hx hb dX6_safe_45 (by decide) ?_
        exact t_iret hB hr hT (Nat.le_of_ble_eq_true rfl) (Nat.le_of_ble_eq_true rfl) dX6_safe_47 ⟨(-2), rfl, hI, hE, hM⟩
    · refine W.eq (g2 := F0 m 33 ls [.int 0]) rfl ?_
      refine lv_if_eq (tgt := 45) hx hb dX6_safe_33 (by decide) (fun c_ => ?_) (fun c_ => absurd (by decide) c_)
      refine lv_bipush (v := (-2)) hx hb dX6_safe_45 (by decide) ?_
      exact t_iret hB hr hT (Nat.le_of_ble_eq_true rfl) (Nat.le_of_ble_eq_true rfl) dX6_safe_47 ⟨(-2), rfl, hI, hE, hM⟩
  · refine W.eq (g2 := F0 m 13 ls [.int 0]) rfl ?_
    refine lv_if_ne (tgt := 18) hx hb dX6_safe_13 (by decide) (fun c_ => absurd (by decide) c_) (fun c_ => ?_)
    refine lv_iconst (v := (-1)) hx hb dX6_safe_16 (by decide) ?_
    exact t_iret hB hr hT (Nat.le_of_ble_eq_true rfl) (Nat.le_of_ble_eq_true rfl) dX6_safe_17 ⟨(-1), rfl, hI, hE, hM⟩
abbrev md_P_worst : Nat → Nat → Bool := mdf [(2, 6), (4, 0), (4, 2), (4, 3), (4, 4), (4, 5), (4, 10), (4, 11), (4, 14), (6, 1), (6, 2), (6, 4), (6, 5), (6, 6), (6, 7), (50, 99)]
theorem mdle_P_worst_s_beginAt {r k : Nat} (h : md_P_worst r k = false) : md_s_beginAt r k = false := mdf_le (by decide +kernel) h
theorem mdle_P_worst_s_firstUnsafe {r k : Nat} (h : md_P_worst r k = false) : md_s_firstUnsafe r k = false := mdf_le (by decide +kernel) h
set_option maxHeartbeats 4000000 in
set_option maxRecDepth 100000 in
theorem P_worst (l : Launch) (D : va_G) (cI cZ cS cR : ClassId) (N0 : NT) (g : GS) (hI : Inv g) (h : Nat) (r_h : g.1 h = 7) : Ty l D cI cZ cS cR N0 yX6_worst cX6_worst 1 (some .int) 16 0 0 [.ref h] g (fun v g' => ∃ (r : Int32), v = some (.int r) ∧ Inv g' ∧ Ex g g' ∧ Sm md_P_worst g g') := by
  refine t_enter (by decide) (Nat.le_of_ble_eq_true rfl) ?_
  intro p e s m args below meth c ls H locs hB hr hin hl hT
  have hx := hB.1
  have hb := hB.2.1
  have hl : lv_has ls 1 [(0, .ref h)] := hl
  have hE : Ex g g := Ex.rf
  have hM : Sm md_P_worst g g := Sm.rf
  refine lv_aload_n hx hb dX6_worst_0 rfl (lv_at hl 0 rfl) ?_
  obtain ⟨v_1, e_v_1, r_v_1⟩ := f_7_4 hI r_h
  refine t_get (ci := 6) (v := .ref v_1) hB hT (ro_ci r_h rfl) rfl 4 (by decide) k_312 e_v_1 dX6_worst_1 ?_
  refine lv_aload_n hx hb dX6_worst_4 rfl (lv_at hl 0 rfl) ?_
  obtain ⟨v_2, e_v_2, r_v_2⟩ := f_7_1 hI r_h
  refine t_get (ci := 6) (v := .ref v_2) hB hT (ro_ci r_h rfl) rfl 1 (by decide) k_309 e_v_2 dX6_worst_5 ?_
  refine t_callV (n := 1) (As := [.ref v_2]) (rest := []) (ci := 1) hB hT hl.1 (s_beginAt l D cI cZ cS cR N0 g hI v_1 v_2 r_v_1 r_v_2) (ro_ci r_v_1 rfl) rfl k_581 k_64 k_578 k_579 k_580 (by decide +kernel) ⟨(Nat.le_of_ble_eq_true rfl), (Nat.le_of_ble_eq_true rfl)⟩ rfl (Nat.le_of_ble_eq_true rfl) ⟨(Nat.le_of_ble_eq_true rfl), (Nat.le_of_ble_eq_true rfl)⟩ dX6_worst_8 (fun v g_3 H locs hp hT => ?_)
  obtain ⟨rfl, hI, x_5, m_4⟩ := hp
  have hM : Sm md_P_worst g g_3 := hM.tr hE (m_4.mo (fun r k h => mdle_P_worst_s_beginAt h))
  have hE : Ex g g_3 := hE.tr x_5
  have r_6 : g_3.1 h = 7 := (Ex.r x_5 r_h (by decide))
  have r_7 : g_3.1 v_1 = 2 := (Ex.r x_5 r_v_1 (by decide))
  have r_8 : g_3.1 v_2 = 19 := (Ex.r x_5 r_v_2 (by decide))
  have kn_9 : g_3.2.1 h 4 = .ref v_1 := (Sm.v m_4 r_h (by decide) rfl e_v_1)
  have kn_10 : g_3.2.1 h 1 = .ref v_2 := (Sm.v m_4 r_h (by decide) rfl e_v_2)
  refine W.eq (g2 := F0 m 11 ls []) rfl ?_
  refine lv_aload_n hx hb dX6_worst_11 rfl (lv_at hl 0 rfl) ?_
  refine t_get (ci := 6) (v := .ref v_1) hB hT (ro_ci r_6 rfl) rfl 4 (by decide) k_312 kn_9 dX6_worst_12 ?_
  refine lv_aload_n hx hb dX6_worst_15 rfl (lv_at hl 0 rfl) ?_
  obtain ⟨v_11, e_v_11, r_v_11⟩ := f_7_2 hI r_6
  refine t_get (ci := 6) (v := .ref v_11) hB hT (ro_ci r_6 rfl) rfl 2 (by decide) k_310 e_v_11 dX6_worst_16 ?_
  refine lv_aload_n hx hb dX6_worst_19 rfl (lv_at hl 0 rfl) ?_
  obtain ⟨v_12, e_v_12, l_v_12, u_v_12⟩ := f_7_6 hI r_6
  refine t_get (ci := 6) (v := .int v_12) hB hT (ro_ci r_6 rfl) rfl 6 (by decide) k_314 e_v_12 dX6_worst_20 ?_
  refine t_callV (n := 2) (As := [.ref v_11, .int v_12]) (rest := []) (ci := 1) hB hT hl.1 (s_firstUnsafe l D cI cZ cS cR N0 g_3 hI v_1 v_11 v_12 r_7 r_v_11) (ro_ci r_7 rfl) rfl k_626 k_64 k_623 k_624 k_625 (by decide +kernel) ⟨(Nat.le_of_ble_eq_true rfl), (Nat.le_of_ble_eq_true rfl)⟩ rfl (Nat.le_of_ble_eq_true rfl) ⟨(Nat.le_of_ble_eq_true rfl), (Nat.le_of_ble_eq_true rfl)⟩ dX6_worst_23 (fun v g_13 H locs hp hT => ?_)
  obtain ⟨r_14, rfl, hI, x_16, m_15⟩ := hp
  have hM : Sm md_P_worst g g_13 := hM.tr hE (m_15.mo (fun r k h => mdle_P_worst_s_firstUnsafe h))
  have hE : Ex g g_13 := hE.tr x_16
  have r_17 : g_13.1 h = 7 := (Ex.r x_16 r_6 (by decide))
  have r_18 : g_13.1 v_1 = 2 := (Ex.r x_16 r_7 (by decide))
  have r_19 : g_13.1 v_2 = 19 := (Ex.r x_16 r_8 (by decide))
  have r_20 : g_13.1 v_11 = 1 := (Ex.r x_16 r_v_11 (by decide))
  have kn_21 : g_13.2.1 h 4 = .ref v_1 := (Sm.v m_15 r_6 (by decide) rfl kn_9)
  have kn_22 : g_13.2.1 h 1 = .ref v_2 := (Sm.v m_15 r_6 (by decide) rfl kn_10)
  have kn_23 : g_13.2.1 h 2 = .ref v_11 := (Sm.v m_15 r_6 (by decide) rfl e_v_11)
  have kn_24 : g_13.2.1 h 6 = .int v_12 := (Sm.v m_15 r_6 (by decide) rfl e_v_12)
  refine W.eq (g2 := F0 m 26 ls [.int r_14]) rfl ?_
  exact t_iret hB hr hT (Nat.le_of_ble_eq_true rfl) (Nat.le_of_ble_eq_true rfl) dX6_worst_26 ⟨r_14, rfl, hI, hE, hM⟩
abbrev md_P_orders : Nat → Nat → Bool := mdf [(4, 0), (4, 2), (4, 3), (4, 4), (4, 5), (4, 10), (4, 11), (4, 14), (6, 1), (6, 2), (6, 4), (6, 5), (6, 6), (6, 7), (50, 99), (52, 99)]
theorem mdle_P_orders_s_beginAt {r k : Nat} (h : md_P_orders r k = false) : md_s_beginAt r k = false := mdf_le (by decide +kernel) h
theorem mdle_P_orders_s_ordersOf {r k : Nat} (h : md_P_orders r k = false) : md_s_ordersOf r k = false := mdf_le (by decide +kernel) h
set_option maxHeartbeats 4000000 in
set_option maxRecDepth 100000 in
theorem P_orders (l : Launch) (D : va_G) (cI cZ cS cR : ClassId) (N0 : NT) (g : GS) (hI : Inv g) (h : Nat) (n : Int32) (k : Int32) (r_h : g.1 h = 7) : Ty l D cI cZ cS cR N0 yX6_orders cX6_orders 3 (some .int) 17 0 0 [.ref h, .int n, .int k] g (fun v g' => ∃ (r : Int32), v = some (.int r) ∧ Inv g' ∧ Ex g g' ∧ Sm md_P_orders g g') := by
  refine t_enter (by decide) (Nat.le_of_ble_eq_true rfl) ?_
  intro p e s m args below meth c ls H locs hB hr hin hl hT
  have hx := hB.1
  have hb := hB.2.1
  have hl : lv_has ls 3 [(0, .ref h), (1, .int n), (2, .int k)] := hl
  have hE : Ex g g := Ex.rf
  have hM : Sm md_P_orders g g := Sm.rf
  refine lv_iload_n hx hb dX6_orders_0 rfl (lv_at hl 1 rfl) ?_
  refine lv_aload_n hx hb dX6_orders_1 rfl (lv_at hl 0 rfl) ?_
  obtain ⟨v_1, e_v_1, r_v_1⟩ := f_7_2 hI r_h
  refine t_get (ci := 6) (v := .ref v_1) hB hT (ro_ci r_h rfl) rfl 2 (by decide) k_310 e_v_1 dX6_orders_2 ?_
  obtain ⟨v_2, e_v_2, l_v_2, u_v_2⟩ := f_1_3 hI r_v_1
  refine t_get (ci := 0) (v := .int v_2) hB hT (ro_ci r_v_1 rfl) rfl 3 (by decide) k_256 e_v_2 dX6_orders_5 ?_
  refine lv_iconst (v := 1) hx hb dX6_orders_8 (by decide) ?_
  refine lv_isub hx hb dX6_orders_9 ?_
  refine lv_topi (fun z_3 ez_3 => ?_)
  have e_z_3 : z_3.toInt = v_2.toInt - 1 := i_sub ez_3 rfl (by decide) (by omega) (by omega)
  refine t_callS (n := 2) (As := [.int n, .int z_3]) (rest := []) hB hT hl.1 (s_within l D cI cZ cS cR N0 g hI n z_3 ) k_415 k_57 k_441 k_414 (by decide +kernel) ⟨(Nat.le_of_ble_eq_true rfl), (Nat.le_of_ble_eq_true rfl)⟩ rfl (Nat.le_of_ble_eq_true rfl) ⟨(Nat.le_of_ble_eq_true rfl), (Nat.le_of_ble_eq_true rfl)⟩ dX6_orders_10 (fun v g_4 H locs hp hT => ?_)
  obtain ⟨r_5, rfl, eg, f_6⟩ := hp
  rw [eg] at hT
  clear eg
  refine W.eq (g2 := F0 m 13 ls [.int r_5]) rfl ?_
  rcases f_6 with ⟨rfl, hw_9, hw_10⟩ | ⟨rfl, hw_11⟩
  · refine W.eq (g2 := F0 m 13 ls [.int 1]) rfl ?_
    refine lv_if_eq (tgt := 24) hx hb dX6_orders_13 (by decide) (fun c_ => absurd c_ (by decide)) (fun c_ => ?_)
    refine lv_iload_n hx hb dX6_orders_16 rfl (lv_at hl 2 rfl) ?_
    refine lv_iconst (v := 1) hx hb dX6_orders_17 (by decide) ?_
    refine t_callS (n := 2) (As := [.int k, .int 1]) (rest := []) hB hT hl.1 (s_within l D cI cZ cS cR N0 g hI k 1 ) k_415 k_57 k_441 k_414 (by decide +kernel) ⟨(Nat.le_of_ble_eq_true rfl), (Nat.le_of_ble_eq_true rfl)⟩ rfl (Nat.le_of_ble_eq_true rfl) ⟨(Nat.le_of_ble_eq_true rfl), (Nat.le_of_ble_eq_true rfl)⟩ dX6_orders_18 (fun v g_12 H locs hp hT => ?_)
    obtain ⟨r_13, rfl, eg, f_14⟩ := hp
    rw [eg] at hT
    clear eg
    refine W.eq (g2 := F0 m 21 ls [.int r_13]) rfl ?_
    have qc_17 : (1 : Int32).toInt = 1 := (by decide)
    rcases f_14 with ⟨rfl, hw_18, hw_19⟩ | ⟨rfl, hw_20⟩
    · refine W.eq (g2 := F0 m 21 ls [.int 1]) rfl ?_
      refine lv_if_ne (tgt := 26) hx hb dX6_orders_21 (by decide) (fun c_ => ?_) (fun c_ => absurd c_ (by decide))
      refine lv_aload_n hx hb dX6_orders_26 rfl (lv_at hl 0 rfl) ?_
      refine t_get (ci := 6) (v := .ref v_1) hB hT (ro_ci r_h rfl) rfl 2 (by decide) k_310 e_v_1 dX6_orders_27 ?_
      refine t_get (ci := 0) (v := .int v_2) hB hT (ro_ci r_v_1 rfl) rfl 3 (by decide) k_256 e_v_2 dX6_orders_30 ?_
      refine lv_iconst (v := 2) hx hb dX6_orders_33 (by decide) ?_
      refine lv_icmp_lt (tgt := 48) hx hb dX6_orders_34 (by decide) (fun c_21 => ?_) (fun c_21 => ?_)
      · have c_21' : v_2.toInt < 2 := i_lt c_21 rfl (by decide)
        refine lv_bipush (v := (-3)) hx hb dX6_orders_48 (by decide) ?_
        exact t_iret hB hr hT (Nat.le_of_ble_eq_true rfl) (Nat.le_of_ble_eq_true rfl) dX6_orders_50 ⟨(-3), rfl, hI, hE, hM⟩
      · have c_21' : 2 ≤ v_2.toInt := i_nlt c_21 rfl (by decide)
        refine lv_aload_n hx hb dX6_orders_37 rfl (lv_at hl 0 rfl) ?_
        refine t_get (ci := 6) (v := .ref v_1) hB hT (ro_ci r_h rfl) rfl 2 (by decide) k_310 e_v_1 dX6_orders_38 ?_
        refine t_get (ci := 0) (v := .int v_2) hB hT (ro_ci r_v_1 rfl) rfl 3 (by decide) k_256 e_v_2 dX6_orders_41 ?_
        refine lv_iconst (v := 4) hx hb dX6_orders_44 (by decide) ?_
        refine lv_icmp_le (tgt := 51) hx hb dX6_orders_45 (by decide) (fun c_22 => ?_) (fun c_22 => ?_)
        · have c_22' : v_2.toInt ≤ 4 := i_le c_22 rfl (by decide)
          refine lv_aload_n hx hb dX6_orders_51 rfl (lv_at hl 0 rfl) ?_
          obtain ⟨v_23, e_v_23, r_v_23⟩ := f_7_4 hI r_h
          refine t_get (ci := 6) (v := .ref v_23) hB hT (ro_ci r_h rfl) rfl 4 (by decide) k_312 e_v_23 dX6_orders_52 ?_
          refine lv_aload_n hx hb dX6_orders_55 rfl (lv_at hl 0 rfl) ?_
          obtain ⟨v_24, e_v_24, r_v_24⟩ := f_7_1 hI r_h
          refine t_get (ci := 6) (v := .ref v_24) hB hT (ro_ci r_h rfl) rfl 1 (by decide) k_309 e_v_24 dX6_orders_56 ?_
          refine t_callV (n := 1) (As := [.ref v_24]) (rest := []) (ci := 1) hB hT hl.1 (s_beginAt l D cI cZ cS cR N0 g hI v_23 v_24 r_v_23 r_v_24) (ro_ci r_v_23 rfl) rfl k_581 k_64 k_578 k_579 k_580 (by decide +kernel) ⟨(Nat.le_of_ble_eq_true rfl), (Nat.le_of_ble_eq_true rfl)⟩ rfl (Nat.le_of_ble_eq_true rfl) ⟨(Nat.le_of_ble_eq_true rfl), (Nat.le_of_ble_eq_true rfl)⟩ dX6_orders_59 (fun v g_25 H locs hp hT => ?_)
          obtain ⟨rfl, hI, x_27, m_26⟩ := hp
          have hM : Sm md_P_orders g g_25 := hM.tr hE (m_26.mo (fun r k h => mdle_P_orders_s_beginAt h))
          have hE : Ex g g_25 := hE.tr x_27
          have r_28 : g_25.1 h = 7 := (Ex.r x_27 r_h (by decide))
          have r_29 : g_25.1 v_1 = 1 := (Ex.r x_27 r_v_1 (by decide))
          have r_30 : g_25.1 v_23 = 2 := (Ex.r x_27 r_v_23 (by decide))
          have r_31 : g_25.1 v_24 = 19 := (Ex.r x_27 r_v_24 (by decide))
          have kn_32 : g_25.2.1 h 2 = .ref v_1 := (Sm.v m_26 r_h (by decide) rfl e_v_1)
          have kn_33 : g_25.2.1 v_1 3 = .int v_2 := (Sm.v m_26 r_v_1 (by decide) rfl e_v_2)
          have kn_34 : g_25.2.1 h 4 = .ref v_23 := (Sm.v m_26 r_h (by decide) rfl e_v_23)
          have kn_35 : g_25.2.1 h 1 = .ref v_24 := (Sm.v m_26 r_h (by decide) rfl e_v_24)
          refine W.eq (g2 := F0 m 62 ls []) rfl ?_
          refine lv_aload_n hx hb dX6_orders_62 rfl (lv_at hl 0 rfl) ?_
          refine t_get (ci := 6) (v := .ref v_23) hB hT (ro_ci r_28 rfl) rfl 4 (by decide) k_312 kn_34 dX6_orders_63 ?_
          refine lv_aload_n hx hb dX6_orders_66 rfl (lv_at hl 0 rfl) ?_
          refine t_get (ci := 6) (v := .ref v_1) hB hT (ro_ci r_28 rfl) rfl 2 (by decide) k_310 kn_32 dX6_orders_67 ?_
          refine lv_iload_n hx hb dX6_orders_70 rfl (lv_at hl 1 rfl) ?_
          refine lv_iload_n hx hb dX6_orders_71 rfl (lv_at hl 2 rfl) ?_
          refine lv_iconst (v := 1) hx hb dX6_orders_72 (by decide) ?_
          refine lv_icmp_ne (tgt := 80) hx hb dX6_orders_73 (by decide) (fun c_36 => ?_) (fun c_36 => ?_)
          · have c_36' : k.toInt ≠ 1 := i_ne c_36 rfl (by decide)
            refine lv_iconst (v := 0) hx hb dX6_orders_80 (by decide) ?_
            refine t_callV (n := 3) (As := [.ref v_1, .int n, .int 0]) (rest := []) (ci := 1) hB hT hl.1 (s_ordersOf l D cI cZ cS cR N0 g_25 hI v_23 v_1 n 0 r_30 r_29) (ro_ci r_30 rfl) rfl k_638 k_64 k_635 k_636 k_637 (by decide +kernel) ⟨(Nat.le_of_ble_eq_true rfl), (Nat.le_of_ble_eq_true rfl)⟩ rfl (Nat.le_of_ble_eq_true rfl) ⟨(Nat.le_of_ble_eq_true rfl), (Nat.le_of_ble_eq_true rfl)⟩ dX6_orders_81 (fun v g_37 H locs hp hT => ?_)
            obtain ⟨r_38, rfl, hI, x_40, m_39⟩ := hp
            have hM : Sm md_P_orders g g_37 := hM.tr hE (m_39.mo (fun r k h => mdle_P_orders_s_ordersOf h))
            have hE : Ex g g_37 := hE.tr x_40
            have r_41 : g_37.1 h = 7 := (Ex.r x_40 r_28 (by decide))
            have r_42 : g_37.1 v_1 = 1 := (Ex.r x_40 r_29 (by decide))
            have r_43 : g_37.1 v_23 = 2 := (Ex.r x_40 r_30 (by decide))
            have r_44 : g_37.1 v_24 = 19 := (Ex.r x_40 r_31 (by decide))
            have kn_45 : g_37.2.1 h 2 = .ref v_1 := (Sm.v m_39 r_28 (by decide) rfl kn_32)
            have kn_46 : g_37.2.1 v_1 3 = .int v_2 := (Sm.v m_39 r_29 (by decide) rfl kn_33)
            have kn_47 : g_37.2.1 h 4 = .ref v_23 := (Sm.v m_39 r_28 (by decide) rfl kn_34)
            have kn_48 : g_37.2.1 h 1 = .ref v_24 := (Sm.v m_39 r_28 (by decide) rfl kn_35)
            refine W.eq (g2 := F0 m 84 ls [.int r_38]) rfl ?_
            exact t_iret hB hr hT (Nat.le_of_ble_eq_true rfl) (Nat.le_of_ble_eq_true rfl) dX6_orders_84 ⟨r_38, rfl, hI, hE, hM⟩
          · have c_36' : k.toInt = 1 := i_eq c_36 rfl (by decide)
            refine lv_iconst (v := 1) hx hb dX6_orders_76 (by decide) ?_
            refine lv_goto (tgt := 81) hx hb dX6_orders_77 (by decide) ?_
            refine t_callV (n := 3) (As := [.ref v_1, .int n, .int 1]) (rest := []) (ci := 1) hB hT hl.1 (s_ordersOf l D cI cZ cS cR N0 g_25 hI v_23 v_1 n 1 r_30 r_29) (ro_ci r_30 rfl) rfl k_638 k_64 k_635 k_636 k_637 (by decide +kernel) ⟨(Nat.le_of_ble_eq_true rfl), (Nat.le_of_ble_eq_true rfl)⟩ rfl (Nat.le_of_ble_eq_true rfl) ⟨(Nat.le_of_ble_eq_true rfl), (Nat.le_of_ble_eq_true rfl)⟩ dX6_orders_81 (fun v g_49 H locs hp hT => ?_)
            obtain ⟨r_50, rfl, hI, x_52, m_51⟩ := hp
            have hM : Sm md_P_orders g g_49 := hM.tr hE (m_51.mo (fun r k h => mdle_P_orders_s_ordersOf h))
            have hE : Ex g g_49 := hE.tr x_52
            have r_53 : g_49.1 h = 7 := (Ex.r x_52 r_28 (by decide))
            have r_54 : g_49.1 v_1 = 1 := (Ex.r x_52 r_29 (by decide))
            have r_55 : g_49.1 v_23 = 2 := (Ex.r x_52 r_30 (by decide))
            have r_56 : g_49.1 v_24 = 19 := (Ex.r x_52 r_31 (by decide))
            have kn_57 : g_49.2.1 h 2 = .ref v_1 := (Sm.v m_51 r_28 (by decide) rfl kn_32)
            have kn_58 : g_49.2.1 v_1 3 = .int v_2 := (Sm.v m_51 r_29 (by decide) rfl kn_33)
            have kn_59 : g_49.2.1 h 4 = .ref v_23 := (Sm.v m_51 r_28 (by decide) rfl kn_34)
            have kn_60 : g_49.2.1 h 1 = .ref v_24 := (Sm.v m_51 r_28 (by decide) rfl kn_35)
            refine W.eq (g2 := F0 m 84 ls [.int r_50]) rfl ?_
            exact t_iret hB hr hT (Nat.le_of_ble_eq_true rfl) (Nat.le_of_ble_eq_true rfl) dX6_orders_84 ⟨r_50, rfl, hI, hE, hM⟩
        · have c_22' : 4 < v_2.toInt := i_nle c_22 rfl (by decide)
          refine lv_bipush (v := (-3)) hx hb dX6_orders_48 (by decide) ?_
          exact t_iret hB hr hT (Nat.le_of_ble_eq_true rfl) (Nat.le_of_ble_eq_true rfl) dX6_orders_50 ⟨(-3), rfl, hI, hE, hM⟩
    · refine W.eq (g2 := F0 m 21 ls [.int 0]) rfl ?_
      refine lv_if_ne (tgt := 26) hx hb dX6_orders_21 (by decide) (fun c_ => absurd (by decide) c_) (fun c_ => ?_)
      refine lv_iconst (v := (-1)) hx hb dX6_orders_24 (by decide) ?_
      exact t_iret hB hr hT (Nat.le_of_ble_eq_true rfl) (Nat.le_of_ble_eq_true rfl) dX6_orders_25 ⟨(-1), rfl, hI, hE, hM⟩
  · refine W.eq (g2 := F0 m 13 ls [.int 0]) rfl ?_
    refine lv_if_eq (tgt := 24) hx hb dX6_orders_13 (by decide) (fun c_ => ?_) (fun c_ => absurd (by decide) c_)
    refine lv_iconst (v := (-1)) hx hb dX6_orders_24 (by decide) ?_
    exact t_iret hB hr hT (Nat.le_of_ble_eq_true rfl) (Nat.le_of_ble_eq_true rfl) dX6_orders_25 ⟨(-1), rfl, hI, hE, hM⟩
abbrev md_P_enough : Nat → Nat → Bool := mdf [(2, 6), (4, 0), (4, 2), (4, 3), (4, 4), (4, 5), (4, 10), (4, 11), (4, 14), (6, 1), (6, 2), (6, 4), (6, 5), (6, 6), (6, 7), (50, 99)]
theorem mdle_P_enough_s_beginAt {r k : Nat} (h : md_P_enough r k = false) : md_s_beginAt r k = false := mdf_le (by decide +kernel) h
theorem mdle_P_enough_s_firstUnsafe {r k : Nat} (h : md_P_enough r k = false) : md_s_firstUnsafe r k = false := mdf_le (by decide +kernel) h
theorem mdle_P_enough_s_holdAll {r k : Nat} (h : md_P_enough r k = false) : md_s_holdAll r k = false := mdf_le (by decide +kernel) h
set_option maxHeartbeats 4000000 in
set_option maxRecDepth 100000 in
theorem lt_P_enough_a (l : Launch) (D : va_G) (cI cZ cS cR : ClassId) (N0 : NT) (g : GS) (h : Nat) (r_h : g.1 h = 7) {p : Program} {e : Env} {s : State} {m : MethodId} {args : Array Value} {below : List Frame} {meth : Method} {c : Code} (hB : Tz p s m meth c args cX6_enough 2 RX6 D cI cZ cS cR N0) (hr : meth.sig.returnType = (some .int))    : ∀ (kf : Nat) (g1 : GS) (i : Int32)  (H : Heap) (locs : List Loc) (ls : Array Slot), Tv D cI cZ cS cR N0 s.heap H locs g1 → Inv g1 → Ex g g1 → Sm md_P_enough g g1 → 0 ≤ i.toInt → i.toInt ≤ 21 → (21 ≤ i.toInt + kf) → lv_has ls 2 [(1, .int i), (0, .ref h)] → W p l e (rmx 16 0 0) s m args below meth c H locs 0 0 (MQ below (tQ D cI cZ cS cR N0 (fun v g' => ∃ (r : Int32), v = some (.int r) ∧ Inv g' ∧ Ex g g' ∧ Sm md_P_enough g g')) args s 0 0 (fun q => N0.1 ≤ q)) (F0 m 2 ls []) := by
  have hx := hB.1
  have hb := hB.2.1
  intro kf
  induction kf using Nat.strongRecOn with
  | ind kf ih =>
    intro g1 i H locs ls hT hI hE hM l_i u_i hk hl
    have r_1 : g1.1 h = 7 := Ex.r hE r_h (by decide)
    refine lv_iload_n hx hb dX6_enough_2 rfl (lv_at hl 0 rfl) ?_
    refine lv_bipush (v := 20) hx hb dX6_enough_3 (by decide) ?_
    refine lv_icmp_gt (tgt := 57) hx hb dX6_enough_5 (by decide) (fun c_2 => ?_) (fun c_2 => ?_)
    · have c_2' : 20 < i.toInt := i_lt c_2 (by decide) rfl
      refine lv_iconst (v := (-1)) hx hb dX6_enough_57 (by decide) ?_
      exact t_iret hB hr hT (Nat.le_of_ble_eq_true rfl) (Nat.le_of_ble_eq_true rfl) dX6_enough_58 ⟨(-1), rfl, hI, hE, hM⟩
    · have c_2' : i.toInt ≤ 20 := i_nlt c_2 (by decide) rfl
      refine lv_aload_n hx hb dX6_enough_8 rfl (lv_at hl 1 rfl) ?_
      obtain ⟨v_3, e_v_3, r_v_3⟩ := f_7_4 hI r_1
      refine t_get (ci := 6) (v := .ref v_3) hB hT (ro_ci r_1 rfl) rfl 4 (by decide) k_312 e_v_3 dX6_enough_9 ?_
      refine lv_aload_n hx hb dX6_enough_12 rfl (lv_at hl 1 rfl) ?_
      obtain ⟨v_4, e_v_4, r_v_4⟩ := f_7_1 hI r_1
      refine t_get (ci := 6) (v := .ref v_4) hB hT (ro_ci r_1 rfl) rfl 1 (by decide) k_309 e_v_4 dX6_enough_13 ?_
      refine t_callV (n := 1) (As := [.ref v_4]) (rest := []) (ci := 1) hB hT hl.1 (s_beginAt l D cI cZ cS cR N0 g1 hI v_3 v_4 r_v_3 r_v_4) (ro_ci r_v_3 rfl) rfl k_581 k_64 k_578 k_579 k_580 (by decide +kernel) ⟨(Nat.le_of_ble_eq_true rfl), (Nat.le_of_ble_eq_true rfl)⟩ rfl (Nat.le_of_ble_eq_true rfl) ⟨(Nat.le_of_ble_eq_true rfl), (Nat.le_of_ble_eq_true rfl)⟩ dX6_enough_16 (fun v g_5 H locs hp hT => ?_)
      obtain ⟨rfl, hI, x_7, m_6⟩ := hp
      have hM : Sm md_P_enough g g_5 := hM.tr hE (m_6.mo (fun r k h => mdle_P_enough_s_beginAt h))
      have hE : Ex g g_5 := hE.tr x_7
      have r_8 : g_5.1 h = 7 := (Ex.r x_7 r_1 (by decide))
      have r_9 : g_5.1 v_3 = 2 := (Ex.r x_7 r_v_3 (by decide))
      have r_10 : g_5.1 v_4 = 19 := (Ex.r x_7 r_v_4 (by decide))
      have kn_11 : g_5.2.1 h 4 = .ref v_3 := (Sm.v m_6 r_1 (by decide) rfl e_v_3)
      have kn_12 : g_5.2.1 h 1 = .ref v_4 := (Sm.v m_6 r_1 (by decide) rfl e_v_4)
      refine W.eq (g2 := F0 m 19 ls []) rfl ?_
      refine lv_aload_n hx hb dX6_enough_19 rfl (lv_at hl 1 rfl) ?_
      refine t_get (ci := 6) (v := .ref v_3) hB hT (ro_ci r_8 rfl) rfl 4 (by decide) k_312 kn_11 dX6_enough_20 ?_
      obtain ⟨v_13, e_v_13, r_v_13⟩ := f_2_0 hI r_9
      refine t_get (ci := 1) (v := .ref v_13) hB hT (ro_ci r_9 rfl) rfl 0 (by decide) k_277 e_v_13 dX6_enough_23 ?_
      refine lv_iload_n hx hb dX6_enough_26 rfl (lv_at hl 0 rfl) ?_
      refine t_callV (n := 1) (As := [.int i]) (rest := []) (ci := 5) hB hT hl.1 (s_holdAll l D cI cZ cS cR N0 g_5 hI v_13 i r_v_13) (ro_ci r_v_13 rfl) rfl k_672 k_59 k_669 k_670 k_671 (by decide +kernel) ⟨(Nat.le_of_ble_eq_true rfl), (Nat.le_of_ble_eq_true rfl)⟩ rfl (Nat.le_of_ble_eq_true rfl) ⟨(Nat.le_of_ble_eq_true rfl), (Nat.le_of_ble_eq_true rfl)⟩ dX6_enough_27 (fun v g_14 H locs hp hT => ?_)
      obtain ⟨rfl, hI, x_16, m_15⟩ := hp
      have hM : Sm md_P_enough g g_14 := hM.tr hE (m_15.mo (fun r k h => mdle_P_enough_s_holdAll h))
      have hE : Ex g g_14 := hE.tr x_16
      have r_17 : g_14.1 h = 7 := (Ex.r x_16 r_8 (by decide))
      have r_18 : g_14.1 v_3 = 2 := (Ex.r x_16 r_9 (by decide))
      have r_19 : g_14.1 v_4 = 19 := (Ex.r x_16 r_10 (by decide))
      have r_20 : g_14.1 v_13 = 6 := (Ex.r x_16 r_v_13 (by decide))
      have kn_21 : g_14.2.1 h 4 = .ref v_3 := (Sm.v m_15 r_8 (by decide) rfl kn_11)
      have kn_22 : g_14.2.1 h 1 = .ref v_4 := (Sm.v m_15 r_8 (by decide) rfl kn_12)
      have kn_23 : g_14.2.1 v_3 0 = .ref v_13 := (Sm.v m_15 r_9 (by decide) rfl e_v_13)
      refine W.eq (g2 := F0 m 30 ls []) rfl ?_
      refine lv_aload_n hx hb dX6_enough_30 rfl (lv_at hl 1 rfl) ?_
      refine t_get (ci := 6) (v := .ref v_3) hB hT (ro_ci r_17 rfl) rfl 4 (by decide) k_312 kn_21 dX6_enough_31 ?_
      refine lv_aload_n hx hb dX6_enough_34 rfl (lv_at hl 1 rfl) ?_
      obtain ⟨v_24, e_v_24, r_v_24⟩ := f_7_2 hI r_17
      refine t_get (ci := 6) (v := .ref v_24) hB hT (ro_ci r_17 rfl) rfl 2 (by decide) k_310 e_v_24 dX6_enough_35 ?_
      refine lv_aload_n hx hb dX6_enough_38 rfl (lv_at hl 1 rfl) ?_
      obtain ⟨v_25, e_v_25, l_v_25, u_v_25⟩ := f_7_6 hI r_17
      refine t_get (ci := 6) (v := .int v_25) hB hT (ro_ci r_17 rfl) rfl 6 (by decide) k_314 e_v_25 dX6_enough_39 ?_
      refine t_callV (n := 2) (As := [.ref v_24, .int v_25]) (rest := []) (ci := 1) hB hT hl.1 (s_firstUnsafe l D cI cZ cS cR N0 g_14 hI v_3 v_24 v_25 r_18 r_v_24) (ro_ci r_18 rfl) rfl k_626 k_64 k_623 k_624 k_625 (by decide +kernel) ⟨(Nat.le_of_ble_eq_true rfl), (Nat.le_of_ble_eq_true rfl)⟩ rfl (Nat.le_of_ble_eq_true rfl) ⟨(Nat.le_of_ble_eq_true rfl), (Nat.le_of_ble_eq_true rfl)⟩ dX6_enough_42 (fun v g_26 H locs hp hT => ?_)
      obtain ⟨r_27, rfl, hI, x_29, m_28⟩ := hp
      have hM : Sm md_P_enough g g_26 := hM.tr hE (m_28.mo (fun r k h => mdle_P_enough_s_firstUnsafe h))
      have hE : Ex g g_26 := hE.tr x_29
      have r_30 : g_26.1 h = 7 := (Ex.r x_29 r_17 (by decide))
      have r_31 : g_26.1 v_3 = 2 := (Ex.r x_29 r_18 (by decide))
      have r_32 : g_26.1 v_4 = 19 := (Ex.r x_29 r_19 (by decide))
      have r_33 : g_26.1 v_13 = 6 := (Ex.r x_29 r_20 (by decide))
      have r_34 : g_26.1 v_24 = 1 := (Ex.r x_29 r_v_24 (by decide))
      have kn_35 : g_26.2.1 h 4 = .ref v_3 := (Sm.v m_28 r_17 (by decide) rfl kn_21)
      have kn_36 : g_26.2.1 h 1 = .ref v_4 := (Sm.v m_28 r_17 (by decide) rfl kn_22)
      have kn_37 : g_26.2.1 v_3 0 = .ref v_13 := (Sm.v m_28 r_18 (by decide) rfl kn_23)
      have kn_38 : g_26.2.1 h 2 = .ref v_24 := (Sm.v m_28 r_17 (by decide) rfl e_v_24)
      have kn_39 : g_26.2.1 h 6 = .int v_25 := (Sm.v m_28 r_17 (by decide) rfl e_v_25)
      refine W.eq (g2 := F0 m 45 ls [.int r_27]) rfl ?_
      refine lv_iconst (v := (-1)) hx hb dX6_enough_45 (by decide) ?_
      refine lv_icmp_ne (tgt := 51) hx hb dX6_enough_46 (by decide) (fun c_40 => ?_) (fun c_40 => ?_)
      · have c_40' : r_27.toInt ≠ (-1) := i_ne c_40 rfl (by decide)
        obtain ⟨z_41, ez_41⟩ : ∃ z : Int32, z = i + 1 := ⟨_, rfl⟩
        have e_z_41 : z_41.toInt = i.toInt + 1 := i_add ez_41 rfl (by decide) (by omega) (by omega)
        refine lv_iinc (v := z_41) (lv' := [(1, .int z_41), (0, .ref h)]) hx hb dX6_enough_51 hl (k := 0) rfl (by rw [ez_41]; rfl) (by decide) rfl (fun ls hl => ?_)
        refine lv_goto (tgt := 2) hx hb dX6_enough_54 (by decide) ?_
        exact ih (kf - 1) (by omega) g_26 z_41 H locs ls hT hI hE hM (by omega) (by omega) (by have e0_ : (0 : Int32).toInt = 0 := (by decide); omega) (lv_sub hl [0, 1] rfl)
      · have c_40' : r_27.toInt = (-1) := i_eq c_40 rfl (by decide)
        refine lv_iload_n hx hb dX6_enough_49 rfl (lv_at hl 0 rfl) ?_
        exact t_iret hB hr hT (Nat.le_of_ble_eq_true rfl) (Nat.le_of_ble_eq_true rfl) dX6_enough_50 ⟨i, rfl, hI, hE, hM⟩
set_option maxHeartbeats 4000000 in
set_option maxRecDepth 100000 in
theorem P_enough (l : Launch) (D : va_G) (cI cZ cS cR : ClassId) (N0 : NT) (g : GS) (hI : Inv g) (h : Nat) (r_h : g.1 h = 7) : Ty l D cI cZ cS cR N0 yX6_enough cX6_enough 2 (some .int) 16 0 0 [.ref h] g (fun v g' => ∃ (r : Int32), v = some (.int r) ∧ Inv g' ∧ Ex g g' ∧ Sm md_P_enough g g') := by
  refine t_enter (by decide) (Nat.le_of_ble_eq_true rfl) ?_
  intro p e s m args below meth c ls H locs hB hr hin hl hT
  have hx := hB.1
  have hb := hB.2.1
  have hl : lv_has ls 2 [(0, .ref h)] := hl
  have hE : Ex g g := Ex.rf
  have hM : Sm md_P_enough g g := Sm.rf
  refine lv_iconst (v := 0) hx hb dX6_enough_0 (by decide) ?_
  refine lv_istore_n (lv' := [(1, .int 0), (0, .ref h)]) hx hb dX6_enough_1 rfl hl (by decide) rfl (fun ls hl => ?_)
  exact lt_P_enough_a l D cI cZ cS cR N0 g h r_h hB hr   21 g (0 : Int32) H locs ls hT hI hE hM (by decide) (by decide) (by have e0_ : (0 : Int32).toInt = 0 := (by decide); omega) (lv_sub hl [0, 1] rfl)
abbrev md_P_price : Nat → Nat → Bool := mdf [(60, 99)]
set_option maxHeartbeats 4000000 in
set_option maxRecDepth 100000 in
theorem P_price (l : Launch) (D : va_G) (cI cZ cS cR : ClassId) (N0 : NT) (g : GS) (hI : Inv g) (h : Nat) (n : Int32) (k : Int32) (r_h : g.1 h = 7) : Ty l D cI cZ cS cR N0 yX6_price cX6_price 4 (some .int) 1 0 0 [.ref h, .int n, .int k] g (fun v g' => ∃ (r : Int32), v = some (.int r) ∧ Inv g' ∧ Ex g g' ∧ Sm md_P_price g g') := by
  refine t_enter (by decide) (Nat.le_of_ble_eq_true rfl) ?_
  intro p e s m args below meth c ls H locs hB hr hin hl hT
  have hx := hB.1
  have hb := hB.2.1
  have hl : lv_has ls 4 [(0, .ref h), (1, .int n), (2, .int k)] := hl
  have hE : Ex g g := Ex.rf
  have hM : Sm md_P_price g g := Sm.rf
  refine lv_iload_n hx hb dX6_price_0 rfl (lv_at hl 1 rfl) ?_
  refine lv_iconst (v := 3) hx hb dX6_price_1 (by decide) ?_
  refine t_callS (n := 2) (As := [.int n, .int 3]) (rest := []) hB hT hl.1 (s_within l D cI cZ cS cR N0 g hI n 3 ) k_415 k_57 k_441 k_414 (by decide +kernel) ⟨(Nat.le_of_ble_eq_true rfl), (Nat.le_of_ble_eq_true rfl)⟩ rfl (Nat.le_of_ble_eq_true rfl) ⟨(Nat.le_of_ble_eq_true rfl), (Nat.le_of_ble_eq_true rfl)⟩ dX6_price_2 (fun v g_1 H locs hp hT => ?_)
  obtain ⟨r_2, rfl, eg, f_3⟩ := hp
  rw [eg] at hT
  clear eg
  refine W.eq (g2 := F0 m 5 ls [.int r_2]) rfl ?_
  have qc_6 : (3 : Int32).toInt = 3 := (by decide)
  rcases f_3 with ⟨rfl, hw_7, hw_8⟩ | ⟨rfl, hw_9⟩
  · refine W.eq (g2 := F0 m 5 ls [.int 1]) rfl ?_
    refine lv_if_ne (tgt := 10) hx hb dX6_price_5 (by decide) (fun c_ => ?_) (fun c_ => absurd c_ (by decide))
    refine lv_iload_n hx hb dX6_price_10 rfl (lv_at hl 2 rfl) ?_
    refine lv_bipush (v := 99) hx hb dX6_price_11 (by decide) ?_
    refine t_callS (n := 2) (As := [.int k, .int 99]) (rest := []) hB hT hl.1 (s_within l D cI cZ cS cR N0 g hI k 99 ) k_415 k_57 k_441 k_414 (by decide +kernel) ⟨(Nat.le_of_ble_eq_true rfl), (Nat.le_of_ble_eq_true rfl)⟩ rfl (Nat.le_of_ble_eq_true rfl) ⟨(Nat.le_of_ble_eq_true rfl), (Nat.le_of_ble_eq_true rfl)⟩ dX6_price_13 (fun v g_10 H locs hp hT => ?_)
    obtain ⟨r_11, rfl, eg, f_12⟩ := hp
    rw [eg] at hT
    clear eg
    refine W.eq (g2 := F0 m 16 ls [.int r_11]) rfl ?_
    have qc_15 : (99 : Int32).toInt = 99 := (by decide)
    rcases f_12 with ⟨rfl, hw_16, hw_17⟩ | ⟨rfl, hw_18⟩
    · refine W.eq (g2 := F0 m 16 ls [.int 1]) rfl ?_
      refine lv_if_ne (tgt := 22) hx hb dX6_price_16 (by decide) (fun c_ => ?_) (fun c_ => absurd c_ (by decide))
      refine lv_aload_n hx hb dX6_price_22 rfl (lv_at hl 0 rfl) ?_
      obtain ⟨v_19, e_v_19, r_v_19, n_v_19⟩ := f_7_5 hI r_h
      refine t_get (ci := 6) (v := .ref v_19) hB hT (ro_ci r_h rfl) rfl 5 (by decide) k_313 e_v_19 dX6_price_23 ?_
      refine lv_iload_n hx hb dX6_price_26 rfl (lv_at hl 1 rfl) ?_
      have i_u_20 : vp_in n 4 := (i_in (n := 4) rfl (by omega) (by omega))
      refine t_iald hB hT (ro_in r_v_19 (by decide)) n_v_19 i_u_20 rfl dX6_price_27 ?_
      refine lv_topi (fun u_20 e_u_20 => ?_)
      refine lv_istore_n (lv' := [(3, .int u_20), (0, .ref h), (1, .int n), (2, .int k)]) hx hb dX6_price_28 rfl hl (by decide) rfl (fun ls hl => ?_)
      refine lv_aload_n hx hb dX6_price_29 rfl (lv_at hl 1 rfl) ?_
      refine t_get (ci := 6) (v := .ref v_19) hB hT (ro_ci r_h rfl) rfl 5 (by decide) k_313 e_v_19 dX6_price_30 ?_
      refine lv_iload_n hx hb dX6_price_33 rfl (lv_at hl 2 rfl) ?_
      refine lv_iload_n hx hb dX6_price_34 rfl (lv_at hl 3 rfl) ?_
      have i_21 : vp_in n 4 := (i_in (n := 4) rfl (by omega) (by omega))
      refine t_iast hB hT (ro_in r_v_19 (by decide)) n_v_19 i_21 dX6_price_35 (fun H locs hT => ?_)
      have hI : Inv (sC g v_19 n.toNatClampNeg k) := hI.sC (ck r_v_19 trivial)
      have hM : Sm md_P_price g (sC g v_19 n.toNatClampNeg k) := hM.tr hE (Sm_sC (by rw [r_v_19]; rfl))
      have hE : Ex g (sC g v_19 n.toNatClampNeg k) := hE
      refine lv_iload_n hx hb dX6_price_36 rfl (lv_at hl 0 rfl) ?_
      exact t_iret hB hr hT (Nat.le_of_ble_eq_true rfl) (Nat.le_of_ble_eq_true rfl) dX6_price_37 ⟨u_20, rfl, hI, hE, hM⟩
    · refine W.eq (g2 := F0 m 16 ls [.int 0]) rfl ?_
      refine lv_if_ne (tgt := 22) hx hb dX6_price_16 (by decide) (fun c_ => absurd (by decide) c_) (fun c_ => ?_)
      refine lv_bipush (v := (-2)) hx hb dX6_price_19 (by decide) ?_
      exact t_iret hB hr hT (Nat.le_of_ble_eq_true rfl) (Nat.le_of_ble_eq_true rfl) dX6_price_21 ⟨(-2), rfl, hI, hE, hM⟩
  · refine W.eq (g2 := F0 m 5 ls [.int 0]) rfl ?_
    refine lv_if_ne (tgt := 10) hx hb dX6_price_5 (by decide) (fun c_ => absurd (by decide) c_) (fun c_ => ?_)
    refine lv_iconst (v := (-1)) hx hb dX6_price_8 (by decide) ?_
    exact t_iret hB hr hT (Nat.le_of_ble_eq_true rfl) (Nat.le_of_ble_eq_true rfl) dX6_price_9 ⟨(-1), rfl, hI, hE, hM⟩
abbrev md_P_priceOf : Nat → Nat → Bool := mdf []
set_option maxHeartbeats 4000000 in
set_option maxRecDepth 100000 in
theorem lt_P_priceOf_a (l : Launch) (D : va_G) (cI cZ cS cR : ClassId) (N0 : NT) (g : GS) (h : Nat) (n : Int32) (r_h : g.1 h = 7) {p : Program} {e : Env} {s : State} {m : MethodId} {args : Array Value} {below : List Frame} {meth : Method} {c : Code} (hB : Tz p s m meth c args cX6_priceOf 4 RX6 D cI cZ cS cR N0) (hr : meth.sig.returnType = (some .int))    : ∀ (kf : Nat) (i : Int32) (v : Int32)  (H : Heap) (locs : List Loc) (ls : Array Slot), Tv D cI cZ cS cR N0 s.heap H locs g → Inv g → Ex g g → Sm md_P_priceOf g g → 0 ≤ i.toInt → i.toInt ≤ 24 → (24 ≤ i.toInt + kf) → lv_has ls 4 [(3, .int i), (2, .int v), (0, .ref h), (1, .int n)] → W p l e (rmx 0 0 0) s m args below meth c H locs 0 0 (MQ below (tQ D cI cZ cS cR N0 (fun v g' => ∃ (r : Int32), v = some (.int r) ∧ g' = g)) args s 0 0 (fun q => N0.1 ≤ q)) (F0 m 4 ls []) := by
  have hx := hB.1
  have hb := hB.2.1
  intro kf
  induction kf using Nat.strongRecOn with
  | ind kf ih =>
    intro i v H locs ls hT hI hE hM l_i u_i hk hl
    have r_1 : g.1 h = 7 := Ex.r hE r_h (by decide)
    refine lv_iload_n hx hb dX6_priceOf_4 rfl (lv_at hl 0 rfl) ?_
    refine lv_bipush (v := 24) hx hb dX6_priceOf_5 (by decide) ?_
    refine lv_icmp_ge (tgt := 36) hx hb dX6_priceOf_7 (by decide) (fun c_2 => ?_) (fun c_2 => ?_)
    · have c_2' : 24 ≤ i.toInt := i_le c_2 (by decide) rfl
      refine lv_iload_n hx hb dX6_priceOf_36 rfl (lv_at hl 1 rfl) ?_
      exact t_iret hB hr hT (Nat.le_of_ble_eq_true rfl) (Nat.le_of_ble_eq_true rfl) dX6_priceOf_37 ⟨v, rfl, rfl⟩
    · have c_2' : i.toInt < 24 := i_nle c_2 (by decide) rfl
      refine lv_iload_n hx hb dX6_priceOf_10 rfl (lv_at hl 3 rfl) ?_
      refine lv_iload_n hx hb dX6_priceOf_11 rfl (lv_at hl 0 rfl) ?_
      refine lv_ishr hx hb dX6_priceOf_12 ?_
      refine lv_topi (fun z_3 ez_3 => ?_)
      refine lv_iconst (v := 1) hx hb dX6_priceOf_13 (by decide) ?_
      refine lv_iand hx hb dX6_priceOf_14 ?_
      refine lv_topi (fun z_4 ez_4 => ?_)
      have e_z_4 := i_and 1 (b := 1) ez_4 (by decide) (by decide) (by decide)
      refine lv_iconst (v := 1) hx hb dX6_priceOf_15 (by decide) ?_
      refine lv_icmp_ne (tgt := 30) hx hb dX6_priceOf_16 (by decide) (fun c_5 => ?_) (fun c_5 => ?_)
      · have c_5' : z_4.toInt ≠ 1 := i_ne c_5 rfl (by decide)
        obtain ⟨z_6, ez_6⟩ : ∃ z : Int32, z = i + 1 := ⟨_, rfl⟩
        have e_z_6 : z_6.toInt = i.toInt + 1 := i_add ez_6 rfl (by decide) (by omega) (by omega)
        refine lv_iinc (v := z_6) (lv' := [(3, .int z_6), (2, .int v), (0, .ref h), (1, .int n)]) hx hb dX6_priceOf_30 hl (k := 0) rfl (by rw [ez_6]; rfl) (by decide) rfl (fun ls hl => ?_)
        refine lv_goto (tgt := 4) hx hb dX6_priceOf_33 (by decide) ?_
        exact ih (kf - 1) (by omega) z_6 v H locs ls hT hI hE hM (by omega) (by omega) (by have e0_ : (0 : Int32).toInt = 0 := (by decide); omega) (lv_sub hl [0, 1, 2, 3] rfl)
      · have c_5' : z_4.toInt = 1 := i_eq c_5 rfl (by decide)
        refine lv_iload_n hx hb dX6_priceOf_19 rfl (lv_at hl 1 rfl) ?_
        refine lv_aload_n hx hb dX6_priceOf_20 rfl (lv_at hl 2 rfl) ?_
        obtain ⟨v_7, e_v_7, r_v_7, n_v_7⟩ := f_7_5 hI r_1
        refine t_get (ci := 6) (v := .ref v_7) hB hT (ro_ci r_1 rfl) rfl 5 (by decide) k_313 e_v_7 dX6_priceOf_21 ?_
        refine lv_iload_n hx hb dX6_priceOf_24 rfl (lv_at hl 0 rfl) ?_
        refine lv_iconst (v := 4) hx hb dX6_priceOf_25 (by decide) ?_
        refine lv_irem hx hb dX6_priceOf_26 (by decide) ?_
        refine lv_topi (fun z_8 ez_8 => ?_)
        have e_z_8 := i_rem (a := i.toInt) (b := 4) ez_8 rfl (by decide) (by omega) (by omega)
        have i_u_9 : vp_in z_8 4 := (i_in (n := 4) rfl (by omega) (by omega))
        refine t_iald hB hT (ro_in r_v_7 (by decide)) n_v_7 i_u_9 rfl dX6_priceOf_27 ?_
        refine lv_topi (fun u_9 e_u_9 => ?_)
        refine lv_iadd hx hb dX6_priceOf_28 ?_
        refine lv_topi (fun z_10 ez_10 => ?_)
        refine lv_istore_n (lv' := [(2, .int z_10), (3, .int i), (0, .ref h), (1, .int n)]) hx hb dX6_priceOf_29 rfl hl (by decide) rfl (fun ls hl => ?_)
        obtain ⟨z_11, ez_11⟩ : ∃ z : Int32, z = i + 1 := ⟨_, rfl⟩
        have e_z_11 : z_11.toInt = i.toInt + 1 := i_add ez_11 rfl (by decide) (by omega) (by omega)
        refine lv_iinc (v := z_11) (lv' := [(3, .int z_11), (2, .int z_10), (0, .ref h), (1, .int n)]) hx hb dX6_priceOf_30 hl (k := 1) rfl (by rw [ez_11]; rfl) (by decide) rfl (fun ls hl => ?_)
        refine lv_goto (tgt := 4) hx hb dX6_priceOf_33 (by decide) ?_
        exact ih (kf - 1) (by omega) z_11 z_10 H locs ls hT hI hE hM (by omega) (by omega) (by have e0_ : (0 : Int32).toInt = 0 := (by decide); omega) (lv_sub hl [0, 1, 2, 3] rfl)
set_option maxHeartbeats 4000000 in
set_option maxRecDepth 100000 in
theorem P_priceOf (l : Launch) (D : va_G) (cI cZ cS cR : ClassId) (N0 : NT) (g : GS) (hI : Inv g) (h : Nat) (n : Int32) (r_h : g.1 h = 7) : Ty l D cI cZ cS cR N0 yX6_priceOf cX6_priceOf 4 (some .int) 0 0 0 [.ref h, .int n] g (fun v g' => ∃ (r : Int32), v = some (.int r) ∧ g' = g) := by
  refine t_enter (by decide) (Nat.le_of_ble_eq_true rfl) ?_
  intro p e s m args below meth c ls H locs hB hr hin hl hT
  have hx := hB.1
  have hb := hB.2.1
  have hl : lv_has ls 4 [(0, .ref h), (1, .int n)] := hl
  have hE : Ex g g := Ex.rf
  have hM : Sm md_P_priceOf g g := Sm.rf
  refine lv_iconst (v := 0) hx hb dX6_priceOf_0 (by decide) ?_
  refine lv_istore_n (lv' := [(2, .int 0), (0, .ref h), (1, .int n)]) hx hb dX6_priceOf_1 rfl hl (by decide) rfl (fun ls hl => ?_)
  refine lv_iconst (v := 0) hx hb dX6_priceOf_2 (by decide) ?_
  refine lv_istore_n (lv' := [(3, .int 0), (2, .int 0), (0, .ref h), (1, .int n)]) hx hb dX6_priceOf_3 rfl hl (by decide) rfl (fun ls hl => ?_)
  exact lt_P_priceOf_a l D cI cZ cS cR N0 g h n r_h hB hr   24 (0 : Int32) (0 : Int32) H locs ls hT hI hE hM (by decide) (by decide) (by have e0_ : (0 : Int32).toInt = 0 := (by decide); omega) (lv_sub hl [0, 1, 2, 3] rfl)
abbrev md_P_cheapAdd : Nat → Nat → Bool := mdf [(2, 6), (4, 0), (4, 2), (4, 3), (4, 4), (4, 5), (4, 10), (4, 11), (4, 14), (6, 1), (6, 2), (6, 4), (6, 5), (6, 6), (6, 7), (50, 99)]
theorem mdle_P_cheapAdd_s_addMends {r k : Nat} (h : md_P_cheapAdd r k = false) : md_s_addMends r k = false := mdf_le (by decide +kernel) h
theorem mdle_P_cheapAdd_s_beginAt {r k : Nat} (h : md_P_cheapAdd r k = false) : md_s_beginAt r k = false := mdf_le (by decide +kernel) h
theorem mdle_P_cheapAdd_s_firstUnsafe {r k : Nat} (h : md_P_cheapAdd r k = false) : md_s_firstUnsafe r k = false := mdf_le (by decide +kernel) h
set_option maxHeartbeats 4000000 in
set_option maxRecDepth 100000 in
theorem lt_P_cheapAdd_a (l : Launch) (D : va_G) (cI cZ cS cR : ClassId) (N0 : NT) (g : GS) (h : Nat) (n : Int32) (r_h : g.1 h = 7) {p : Program} {e : Env} {s : State} {m : MethodId} {args : Array Value} {below : List Frame} {meth : Method} {c : Code} (hB : Tz p s m meth c args cX6_cheapestAdditions 10 RX6 D cI cZ cS cR N0) (hr : meth.sig.returnType = (some .int))    : ∀ (kf : Nat) (g1 : GS) (i : Int32) (be : Int32) (st : Int32) (up : Int32) (lo : Int32)  (H : Heap) (locs : List Loc) (ls : Array Slot), Tv D cI cZ cS cR N0 s.heap H locs g1 → Inv g1 → Ex g g1 → Sm md_P_cheapAdd g g1 → 0 ≤ i.toInt → i.toInt ≤ 2147483647 → (2147483648 ≤ i.toInt + kf) → lv_has ls 10 [(6, .int i), (5, .int be), (4, .int st), (3, .int up), (2, .int lo), (0, .ref h), (1, .int n)] → W p l e (rmx 16 0 0) s m args below meth c H locs 0 0 (MQ below (tQ D cI cZ cS cR N0 (fun v g' => ∃ (r : Int32), v = some (.int r) ∧ Inv g' ∧ Ex g g' ∧ Sm md_P_cheapAdd g g')) args s 0 0 (fun q => N0.1 ≤ q)) (F0 m 37 ls []) := by
  have hx := hB.1
  have hb := hB.2.1
  intro kf
  induction kf using Nat.strongRecOn with
  | ind kf ih =>
    intro g1 i be st up lo H locs ls hT hI hE hM l_i u_i hk hl
    have r_1 : g1.1 h = 7 := Ex.r hE r_h (by decide)
    have rg := i_rng st
    refine lv_iload hx hb dX6_cheapestAdditions_37 (lv_at hl 0 rfl) ?_
    refine lv_iload hx hb dX6_cheapestAdditions_39 (lv_at hl 2 rfl) ?_
    refine lv_icmp_ge (tgt := 148) hx hb dX6_cheapestAdditions_41 (by decide) (fun c_2 => ?_) (fun c_2 => ?_)
    · have c_2' : st.toInt ≤ i.toInt := i_le c_2 rfl rfl
      refine lv_iload hx hb dX6_cheapestAdditions_148 (lv_at hl 1 rfl) ?_
      exact t_iret hB hr hT (Nat.le_of_ble_eq_true rfl) (Nat.le_of_ble_eq_true rfl) dX6_cheapestAdditions_150 ⟨be, rfl, hI, hE, hM⟩
    · have c_2' : i.toInt < st.toInt := i_nle c_2 rfl rfl
      refine lv_iload hx hb dX6_cheapestAdditions_44 (lv_at hl 0 rfl) ?_
      refine lv_bipush (v := 15) hx hb dX6_cheapestAdditions_46 (by decide) ?_
      refine lv_iand hx hb dX6_cheapestAdditions_48 ?_
      refine lv_topi (fun z_3 ez_3 => ?_)
      have e_z_3 := i_and 4 (b := 15) ez_3 (by decide) (by decide) (by decide)
      refine lv_istore (lv' := [(7, .int z_3), (6, .int i), (5, .int be), (4, .int st), (3, .int up), (2, .int lo), (0, .ref h), (1, .int n)]) hx hb dX6_cheapestAdditions_49 hl (by decide) rfl (fun ls hl => ?_)
      refine lv_iload hx hb dX6_cheapestAdditions_51 (lv_at hl 1 rfl) ?_
      refine lv_iconst (v := 4) hx hb dX6_cheapestAdditions_53 (by decide) ?_
      refine lv_ishr hx hb dX6_cheapestAdditions_54 ?_
      refine lv_topi (fun z_4 ez_4 => ?_)
      refine lv_istore (lv' := [(8, .int z_4), (7, .int z_3), (6, .int i), (5, .int be), (4, .int st), (3, .int up), (2, .int lo), (0, .ref h), (1, .int n)]) hx hb dX6_cheapestAdditions_55 hl (by decide) rfl (fun ls hl => ?_)
      refine lv_iload hx hb dX6_cheapestAdditions_57 (lv_at hl 1 rfl) ?_
      refine lv_iconst (v := 4) hx hb dX6_cheapestAdditions_59 (by decide) ?_
      refine lv_iload_n hx hb dX6_cheapestAdditions_60 rfl (lv_at hl 6 rfl) ?_
      refine lv_imul hx hb dX6_cheapestAdditions_61 ?_
      refine lv_topi (fun z_5 ez_5 => ?_)
      refine lv_ishl hx hb dX6_cheapestAdditions_62 ?_
      refine lv_topi (fun z_6 ez_6 => ?_)
      refine lv_iload hx hb dX6_cheapestAdditions_63 (lv_at hl 0 rfl) ?_
      refine lv_iconst (v := 4) hx hb dX6_cheapestAdditions_65 (by decide) ?_
      refine lv_iload_n hx hb dX6_cheapestAdditions_66 rfl (lv_at hl 5 rfl) ?_
      refine lv_imul hx hb dX6_cheapestAdditions_67 ?_
      refine lv_topi (fun z_7 ez_7 => ?_)
      refine lv_ishl hx hb dX6_cheapestAdditions_68 ?_
      refine lv_topi (fun z_8 ez_8 => ?_)
      refine lv_ior hx hb dX6_cheapestAdditions_69 ?_
      refine lv_topi (fun z_9 ez_9 => ?_)
      refine lv_istore (lv' := [(9, .int z_9), (8, .int z_4), (7, .int z_3), (6, .int i), (5, .int be), (4, .int st), (3, .int up), (2, .int lo), (0, .ref h), (1, .int n)]) hx hb dX6_cheapestAdditions_70 hl (by decide) rfl (fun ls hl => ?_)
      refine lv_iload hx hb dX6_cheapestAdditions_72 (lv_at hl 4 rfl) ?_
      refine lv_iconst (v := (-1)) hx hb dX6_cheapestAdditions_74 (by decide) ?_
      refine lv_icmp_eq (tgt := 96) hx hb dX6_cheapestAdditions_75 (by decide) (fun c_10 => ?_) (fun c_10 => ?_)
      · have c_10' : be.toInt = (-1) := i_eq c_10 rfl (by decide)
        refine lv_aload_n hx hb dX6_cheapestAdditions_96 rfl (lv_at hl 8 rfl) ?_
        obtain ⟨v_11, e_v_11, r_v_11⟩ := f_7_4 hI r_1
        refine t_get (ci := 6) (v := .ref v_11) hB hT (ro_ci r_1 rfl) rfl 4 (by decide) k_312 e_v_11 dX6_cheapestAdditions_97 ?_
        refine lv_aload_n hx hb dX6_cheapestAdditions_100 rfl (lv_at hl 8 rfl) ?_
        obtain ⟨v_12, e_v_12, r_v_12⟩ := f_7_1 hI r_1
        refine t_get (ci := 6) (v := .ref v_12) hB hT (ro_ci r_1 rfl) rfl 1 (by decide) k_309 e_v_12 dX6_cheapestAdditions_101 ?_
        refine t_callV (n := 1) (As := [.ref v_12]) (rest := []) (ci := 1) hB hT hl.1 (s_beginAt l D cI cZ cS cR N0 g1 hI v_11 v_12 r_v_11 r_v_12) (ro_ci r_v_11 rfl) rfl k_581 k_64 k_578 k_579 k_580 (by decide +kernel) ⟨(Nat.le_of_ble_eq_true rfl), (Nat.le_of_ble_eq_true rfl)⟩ rfl (Nat.le_of_ble_eq_true rfl) ⟨(Nat.le_of_ble_eq_true rfl), (Nat.le_of_ble_eq_true rfl)⟩ dX6_cheapestAdditions_104 (fun v g_13 H locs hp hT => ?_)
        obtain ⟨rfl, hI, x_15, m_14⟩ := hp
        have hM : Sm md_P_cheapAdd g g_13 := hM.tr hE (m_14.mo (fun r k h => mdle_P_cheapAdd_s_beginAt h))
        have hE : Ex g g_13 := hE.tr x_15
        have r_16 : g_13.1 h = 7 := (Ex.r x_15 r_1 (by decide))
        have r_17 : g_13.1 v_11 = 2 := (Ex.r x_15 r_v_11 (by decide))
        have r_18 : g_13.1 v_12 = 19 := (Ex.r x_15 r_v_12 (by decide))
        have kn_19 : g_13.2.1 h 4 = .ref v_11 := (Sm.v m_14 r_1 (by decide) rfl e_v_11)
        have kn_20 : g_13.2.1 h 1 = .ref v_12 := (Sm.v m_14 r_1 (by decide) rfl e_v_12)
        refine W.eq (g2 := F0 m 107 ls []) rfl ?_
        refine lv_aload_n hx hb dX6_cheapestAdditions_107 rfl (lv_at hl 8 rfl) ?_
        refine t_get (ci := 6) (v := .ref v_11) hB hT (ro_ci r_16 rfl) rfl 4 (by decide) k_312 kn_19 dX6_cheapestAdditions_108 ?_
        obtain ⟨v_21, e_v_21, r_v_21⟩ := f_2_0 hI r_17
        refine t_get (ci := 1) (v := .ref v_21) hB hT (ro_ci r_17 rfl) rfl 0 (by decide) k_277 e_v_21 dX6_cheapestAdditions_111 ?_
        refine lv_iload hx hb dX6_cheapestAdditions_114 (lv_at hl 0 rfl) ?_
        refine t_callV (n := 1) (As := [.int z_9]) (rest := []) (ci := 5) hB hT hl.1 (s_addMends l D cI cZ cS cR N0 g_13 hI v_21 z_9 r_v_21) (ro_ci r_v_21 rfl) rfl k_710 k_59 k_707 k_708 k_709 (by decide +kernel) ⟨(Nat.le_of_ble_eq_true rfl), (Nat.le_of_ble_eq_true rfl)⟩ rfl (Nat.le_of_ble_eq_true rfl) ⟨(Nat.le_of_ble_eq_true rfl), (Nat.le_of_ble_eq_true rfl)⟩ dX6_cheapestAdditions_116 (fun v g_22 H locs hp hT => ?_)
        obtain ⟨rfl, hI, x_24, m_23⟩ := hp
        have hM : Sm md_P_cheapAdd g g_22 := hM.tr hE (m_23.mo (fun r k h => mdle_P_cheapAdd_s_addMends h))
        have hE : Ex g g_22 := hE.tr x_24
        have r_25 : g_22.1 h = 7 := (Ex.r x_24 r_16 (by decide))
        have r_26 : g_22.1 v_11 = 2 := (Ex.r x_24 r_17 (by decide))
        have r_27 : g_22.1 v_12 = 19 := (Ex.r x_24 r_18 (by decide))
        have r_28 : g_22.1 v_21 = 6 := (Ex.r x_24 r_v_21 (by decide))
        have kn_29 : g_22.2.1 h 4 = .ref v_11 := (Sm.v m_23 r_16 (by decide) rfl kn_19)
        have kn_30 : g_22.2.1 h 1 = .ref v_12 := (Sm.v m_23 r_16 (by decide) rfl kn_20)
        have kn_31 : g_22.2.1 v_11 0 = .ref v_21 := (Sm.v m_23 r_17 (by decide) rfl e_v_21)
        refine W.eq (g2 := F0 m 119 ls []) rfl ?_
        refine lv_aload_n hx hb dX6_cheapestAdditions_119 rfl (lv_at hl 8 rfl) ?_
        refine t_get (ci := 6) (v := .ref v_11) hB hT (ro_ci r_25 rfl) rfl 4 (by decide) k_312 kn_29 dX6_cheapestAdditions_120 ?_
        refine lv_aload_n hx hb dX6_cheapestAdditions_123 rfl (lv_at hl 8 rfl) ?_
        obtain ⟨v_32, e_v_32, r_v_32⟩ := f_7_2 hI r_25
        refine t_get (ci := 6) (v := .ref v_32) hB hT (ro_ci r_25 rfl) rfl 2 (by decide) k_310 e_v_32 dX6_cheapestAdditions_124 ?_
        refine lv_aload_n hx hb dX6_cheapestAdditions_127 rfl (lv_at hl 8 rfl) ?_
        obtain ⟨v_33, e_v_33, l_v_33, u_v_33⟩ := f_7_6 hI r_25
        refine t_get (ci := 6) (v := .int v_33) hB hT (ro_ci r_25 rfl) rfl 6 (by decide) k_314 e_v_33 dX6_cheapestAdditions_128 ?_
        refine t_callV (n := 2) (As := [.ref v_32, .int v_33]) (rest := []) (ci := 1) hB hT hl.1 (s_firstUnsafe l D cI cZ cS cR N0 g_22 hI v_11 v_32 v_33 r_26 r_v_32) (ro_ci r_26 rfl) rfl k_626 k_64 k_623 k_624 k_625 (by decide +kernel) ⟨(Nat.le_of_ble_eq_true rfl), (Nat.le_of_ble_eq_true rfl)⟩ rfl (Nat.le_of_ble_eq_true rfl) ⟨(Nat.le_of_ble_eq_true rfl), (Nat.le_of_ble_eq_true rfl)⟩ dX6_cheapestAdditions_131 (fun v g_34 H locs hp hT => ?_)
        obtain ⟨r_35, rfl, hI, x_37, m_36⟩ := hp
        have hM : Sm md_P_cheapAdd g g_34 := hM.tr hE (m_36.mo (fun r k h => mdle_P_cheapAdd_s_firstUnsafe h))
        have hE : Ex g g_34 := hE.tr x_37
        have r_38 : g_34.1 h = 7 := (Ex.r x_37 r_25 (by decide))
        have r_39 : g_34.1 v_11 = 2 := (Ex.r x_37 r_26 (by decide))
        have r_40 : g_34.1 v_12 = 19 := (Ex.r x_37 r_27 (by decide))
        have r_41 : g_34.1 v_21 = 6 := (Ex.r x_37 r_28 (by decide))
        have r_42 : g_34.1 v_32 = 1 := (Ex.r x_37 r_v_32 (by decide))
        have kn_43 : g_34.2.1 h 4 = .ref v_11 := (Sm.v m_36 r_25 (by decide) rfl kn_29)
        have kn_44 : g_34.2.1 h 1 = .ref v_12 := (Sm.v m_36 r_25 (by decide) rfl kn_30)
        have kn_45 : g_34.2.1 v_11 0 = .ref v_21 := (Sm.v m_36 r_26 (by decide) rfl kn_31)
        have kn_46 : g_34.2.1 h 2 = .ref v_32 := (Sm.v m_36 r_25 (by decide) rfl e_v_32)
        have kn_47 : g_34.2.1 h 6 = .int v_33 := (Sm.v m_36 r_25 (by decide) rfl e_v_33)
        refine W.eq (g2 := F0 m 134 ls [.int r_35]) rfl ?_
        refine lv_iconst (v := (-1)) hx hb dX6_cheapestAdditions_134 (by decide) ?_
        refine lv_icmp_ne (tgt := 142) hx hb dX6_cheapestAdditions_135 (by decide) (fun c_48 => ?_) (fun c_48 => ?_)
        · have c_48' : r_35.toInt ≠ (-1) := i_ne c_48 rfl (by decide)
          obtain ⟨z_49, ez_49⟩ : ∃ z : Int32, z = i + 1 := ⟨_, rfl⟩
          have e_z_49 : z_49.toInt = i.toInt + 1 := i_add ez_49 rfl (by decide) (by omega) (by omega)
          refine lv_iinc (v := z_49) (lv' := [(6, .int z_49), (9, .int z_9), (8, .int z_4), (7, .int z_3), (5, .int be), (4, .int st), (3, .int up), (2, .int lo), (0, .ref h), (1, .int n)]) hx hb dX6_cheapestAdditions_142 hl (k := 3) rfl (by rw [ez_49]; rfl) (by decide) rfl (fun ls hl => ?_)
          refine lv_goto (tgt := 37) hx hb dX6_cheapestAdditions_145 (by decide) ?_
          exact ih (kf - 1) (by omega) g_34 z_49 be st up lo H locs ls hT hI hE hM (by omega) (by omega) (by have e0_ : (0 : Int32).toInt = 0 := (by decide); omega) (lv_sub hl [0, 4, 5, 6, 7, 8, 9] rfl)
        · have c_48' : r_35.toInt = (-1) := i_eq c_48 rfl (by decide)
          refine lv_iload hx hb dX6_cheapestAdditions_138 (lv_at hl 0 rfl) ?_
          refine lv_istore (lv' := [(5, .int z_9), (9, .int z_9), (8, .int z_4), (7, .int z_3), (6, .int i), (4, .int st), (3, .int up), (2, .int lo), (0, .ref h), (1, .int n)]) hx hb dX6_cheapestAdditions_140 hl (by decide) rfl (fun ls hl => ?_)
          obtain ⟨z_50, ez_50⟩ : ∃ z : Int32, z = i + 1 := ⟨_, rfl⟩
          have e_z_50 : z_50.toInt = i.toInt + 1 := i_add ez_50 rfl (by decide) (by omega) (by omega)
          refine lv_iinc (v := z_50) (lv' := [(6, .int z_50), (5, .int z_9), (9, .int z_9), (8, .int z_4), (7, .int z_3), (4, .int st), (3, .int up), (2, .int lo), (0, .ref h), (1, .int n)]) hx hb dX6_cheapestAdditions_142 hl (k := 4) rfl (by rw [ez_50]; rfl) (by decide) rfl (fun ls hl => ?_)
          refine lv_goto (tgt := 37) hx hb dX6_cheapestAdditions_145 (by decide) ?_
          exact ih (kf - 1) (by omega) g_34 z_50 z_9 st up lo H locs ls hT hI hE hM (by omega) (by omega) (by have e0_ : (0 : Int32).toInt = 0 := (by decide); omega) (lv_sub hl [0, 1, 5, 6, 7, 8, 9] rfl)
      · have c_10' : be.toInt ≠ (-1) := i_ne c_10 rfl (by decide)
        refine lv_aload_n hx hb dX6_cheapestAdditions_78 rfl (lv_at hl 8 rfl) ?_
        refine lv_iload hx hb dX6_cheapestAdditions_79 (lv_at hl 0 rfl) ?_
        refine t_callV (n := 1) (As := [.int z_9]) (rest := []) (ci := 6) hB hT hl.1 (P_priceOf l D cI cZ cS cR N0 g1 hI h z_9 r_1) (ro_ci r_1 rfl) rfl k_706 k_57 k_703 k_705 k_20 (by decide +kernel) ⟨(Nat.le_of_ble_eq_true rfl), (Nat.le_of_ble_eq_true rfl)⟩ rfl (Nat.le_of_ble_eq_true rfl) ⟨(Nat.le_of_ble_eq_true rfl), (Nat.le_of_ble_eq_true rfl)⟩ dX6_cheapestAdditions_81 (fun v g_51 H locs hp hT => ?_)
        obtain ⟨r_52, rfl, eg⟩ := hp
        rw [eg] at hT
        clear eg
        refine W.eq (g2 := F0 m 84 ls [.int r_52]) rfl ?_
        refine lv_aload_n hx hb dX6_cheapestAdditions_84 rfl (lv_at hl 8 rfl) ?_
        refine lv_iload hx hb dX6_cheapestAdditions_85 (lv_at hl 4 rfl) ?_
        refine t_callV (n := 1) (As := [.int be]) (rest := [.int r_52]) (ci := 6) hB hT hl.1 (P_priceOf l D cI cZ cS cR N0 g1 hI h be r_1) (ro_ci r_1 rfl) rfl k_706 k_57 k_703 k_705 k_20 (by decide +kernel) ⟨(Nat.le_of_ble_eq_true rfl), (Nat.le_of_ble_eq_true rfl)⟩ rfl (Nat.le_of_ble_eq_true rfl) ⟨(Nat.le_of_ble_eq_true rfl), (Nat.le_of_ble_eq_true rfl)⟩ dX6_cheapestAdditions_87 (fun v g_55 H locs hp hT => ?_)
        obtain ⟨r_56, rfl, eg⟩ := hp
        rw [eg] at hT
        clear eg
        refine W.eq (g2 := F0 m 90 ls [.int r_56, .int r_52]) rfl ?_
        refine lv_icmp_lt (tgt := 96) hx hb dX6_cheapestAdditions_90 (by decide) (fun c_59 => ?_) (fun c_59 => ?_)
        · have c_59' : r_52.toInt < r_56.toInt := i_lt c_59 rfl rfl
          refine lv_aload_n hx hb dX6_cheapestAdditions_96 rfl (lv_at hl 8 rfl) ?_
          obtain ⟨v_60, e_v_60, r_v_60⟩ := f_7_4 hI r_1
          refine t_get (ci := 6) (v := .ref v_60) hB hT (ro_ci r_1 rfl) rfl 4 (by decide) k_312 e_v_60 dX6_cheapestAdditions_97 ?_
          refine lv_aload_n hx hb dX6_cheapestAdditions_100 rfl (lv_at hl 8 rfl) ?_
          obtain ⟨v_61, e_v_61, r_v_61⟩ := f_7_1 hI r_1
          refine t_get (ci := 6) (v := .ref v_61) hB hT (ro_ci r_1 rfl) rfl 1 (by decide) k_309 e_v_61 dX6_cheapestAdditions_101 ?_
          refine t_callV (n := 1) (As := [.ref v_61]) (rest := []) (ci := 1) hB hT hl.1 (s_beginAt l D cI cZ cS cR N0 g1 hI v_60 v_61 r_v_60 r_v_61) (ro_ci r_v_60 rfl) rfl k_581 k_64 k_578 k_579 k_580 (by decide +kernel) ⟨(Nat.le_of_ble_eq_true rfl), (Nat.le_of_ble_eq_true rfl)⟩ rfl (Nat.le_of_ble_eq_true rfl) ⟨(Nat.le_of_ble_eq_true rfl), (Nat.le_of_ble_eq_true rfl)⟩ dX6_cheapestAdditions_104 (fun v g_62 H locs hp hT => ?_)
          obtain ⟨rfl, hI, x_64, m_63⟩ := hp
          have hM : Sm md_P_cheapAdd g g_62 := hM.tr hE (m_63.mo (fun r k h => mdle_P_cheapAdd_s_beginAt h))
          have hE : Ex g g_62 := hE.tr x_64
          have r_65 : g_62.1 h = 7 := (Ex.r x_64 r_1 (by decide))
          have r_66 : g_62.1 v_60 = 2 := (Ex.r x_64 r_v_60 (by decide))
          have r_67 : g_62.1 v_61 = 19 := (Ex.r x_64 r_v_61 (by decide))
          have kn_68 : g_62.2.1 h 4 = .ref v_60 := (Sm.v m_63 r_1 (by decide) rfl e_v_60)
          have kn_69 : g_62.2.1 h 1 = .ref v_61 := (Sm.v m_63 r_1 (by decide) rfl e_v_61)
          refine W.eq (g2 := F0 m 107 ls []) rfl ?_
          refine lv_aload_n hx hb dX6_cheapestAdditions_107 rfl (lv_at hl 8 rfl) ?_
          refine t_get (ci := 6) (v := .ref v_60) hB hT (ro_ci r_65 rfl) rfl 4 (by decide) k_312 kn_68 dX6_cheapestAdditions_108 ?_
          obtain ⟨v_70, e_v_70, r_v_70⟩ := f_2_0 hI r_66
          refine t_get (ci := 1) (v := .ref v_70) hB hT (ro_ci r_66 rfl) rfl 0 (by decide) k_277 e_v_70 dX6_cheapestAdditions_111 ?_
          refine lv_iload hx hb dX6_cheapestAdditions_114 (lv_at hl 0 rfl) ?_
          refine t_callV (n := 1) (As := [.int z_9]) (rest := []) (ci := 5) hB hT hl.1 (s_addMends l D cI cZ cS cR N0 g_62 hI v_70 z_9 r_v_70) (ro_ci r_v_70 rfl) rfl k_710 k_59 k_707 k_708 k_709 (by decide +kernel) ⟨(Nat.le_of_ble_eq_true rfl), (Nat.le_of_ble_eq_true rfl)⟩ rfl (Nat.le_of_ble_eq_true rfl) ⟨(Nat.le_of_ble_eq_true rfl), (Nat.le_of_ble_eq_true rfl)⟩ dX6_cheapestAdditions_116 (fun v g_71 H locs hp hT => ?_)
          obtain ⟨rfl, hI, x_73, m_72⟩ := hp
          have hM : Sm md_P_cheapAdd g g_71 := hM.tr hE (m_72.mo (fun r k h => mdle_P_cheapAdd_s_addMends h))
          have hE : Ex g g_71 := hE.tr x_73
          have r_74 : g_71.1 h = 7 := (Ex.r x_73 r_65 (by decide))
          have r_75 : g_71.1 v_60 = 2 := (Ex.r x_73 r_66 (by decide))
          have r_76 : g_71.1 v_61 = 19 := (Ex.r x_73 r_67 (by decide))
          have r_77 : g_71.1 v_70 = 6 := (Ex.r x_73 r_v_70 (by decide))
          have kn_78 : g_71.2.1 h 4 = .ref v_60 := (Sm.v m_72 r_65 (by decide) rfl kn_68)
          have kn_79 : g_71.2.1 h 1 = .ref v_61 := (Sm.v m_72 r_65 (by decide) rfl kn_69)
          have kn_80 : g_71.2.1 v_60 0 = .ref v_70 := (Sm.v m_72 r_66 (by decide) rfl e_v_70)
          refine W.eq (g2 := F0 m 119 ls []) rfl ?_
          refine lv_aload_n hx hb dX6_cheapestAdditions_119 rfl (lv_at hl 8 rfl) ?_
          refine t_get (ci := 6) (v := .ref v_60) hB hT (ro_ci r_74 rfl) rfl 4 (by decide) k_312 kn_78 dX6_cheapestAdditions_120 ?_
          refine lv_aload_n hx hb dX6_cheapestAdditions_123 rfl (lv_at hl 8 rfl) ?_
          obtain ⟨v_81, e_v_81, r_v_81⟩ := f_7_2 hI r_74
          refine t_get (ci := 6) (v := .ref v_81) hB hT (ro_ci r_74 rfl) rfl 2 (by decide) k_310 e_v_81 dX6_cheapestAdditions_124 ?_
          refine lv_aload_n hx hb dX6_cheapestAdditions_127 rfl (lv_at hl 8 rfl) ?_
          obtain ⟨v_82, e_v_82, l_v_82, u_v_82⟩ := f_7_6 hI r_74
          refine t_get (ci := 6) (v := .int v_82) hB hT (ro_ci r_74 rfl) rfl 6 (by decide) k_314 e_v_82 dX6_cheapestAdditions_128 ?_
          refine t_callV (n := 2) (As := [.ref v_81, .int v_82]) (rest := []) (ci := 1) hB hT hl.1 (s_firstUnsafe l D cI cZ cS cR N0 g_71 hI v_60 v_81 v_82 r_75 r_v_81) (ro_ci r_75 rfl) rfl k_626 k_64 k_623 k_624 k_625 (by decide +kernel) ⟨(Nat.le_of_ble_eq_true rfl), (Nat.le_of_ble_eq_true rfl)⟩ rfl (Nat.le_of_ble_eq_true rfl) ⟨(Nat.le_of_ble_eq_true rfl), (Nat.le_of_ble_eq_true rfl)⟩ dX6_cheapestAdditions_131 (fun v g_83 H locs hp hT => ?_)
          obtain ⟨r_84, rfl, hI, x_86, m_85⟩ := hp
          have hM : Sm md_P_cheapAdd g g_83 := hM.tr hE (m_85.mo (fun r k h => mdle_P_cheapAdd_s_firstUnsafe h))
          have hE : Ex g g_83 := hE.tr x_86
          have r_87 : g_83.1 h = 7 := (Ex.r x_86 r_74 (by decide))
          have r_88 : g_83.1 v_60 = 2 := (Ex.r x_86 r_75 (by decide))
          have r_89 : g_83.1 v_61 = 19 := (Ex.r x_86 r_76 (by decide))
          have r_90 : g_83.1 v_70 = 6 := (Ex.r x_86 r_77 (by decide))
          have r_91 : g_83.1 v_81 = 1 := (Ex.r x_86 r_v_81 (by decide))
          have kn_92 : g_83.2.1 h 4 = .ref v_60 := (Sm.v m_85 r_74 (by decide) rfl kn_78)
          have kn_93 : g_83.2.1 h 1 = .ref v_61 := (Sm.v m_85 r_74 (by decide) rfl kn_79)
          have kn_94 : g_83.2.1 v_60 0 = .ref v_70 := (Sm.v m_85 r_75 (by decide) rfl kn_80)
          have kn_95 : g_83.2.1 h 2 = .ref v_81 := (Sm.v m_85 r_74 (by decide) rfl e_v_81)
          have kn_96 : g_83.2.1 h 6 = .int v_82 := (Sm.v m_85 r_74 (by decide) rfl e_v_82)
          refine W.eq (g2 := F0 m 134 ls [.int r_84]) rfl ?_
          refine lv_iconst (v := (-1)) hx hb dX6_cheapestAdditions_134 (by decide) ?_
          refine lv_icmp_ne (tgt := 142) hx hb dX6_cheapestAdditions_135 (by decide) (fun c_97 => ?_) (fun c_97 => ?_)
          · have c_97' : r_84.toInt ≠ (-1) := i_ne c_97 rfl (by decide)
            obtain ⟨z_98, ez_98⟩ : ∃ z : Int32, z = i + 1 := ⟨_, rfl⟩
            have e_z_98 : z_98.toInt = i.toInt + 1 := i_add ez_98 rfl (by decide) (by omega) (by omega)
            refine lv_iinc (v := z_98) (lv' := [(6, .int z_98), (9, .int z_9), (8, .int z_4), (7, .int z_3), (5, .int be), (4, .int st), (3, .int up), (2, .int lo), (0, .ref h), (1, .int n)]) hx hb dX6_cheapestAdditions_142 hl (k := 3) rfl (by rw [ez_98]; rfl) (by decide) rfl (fun ls hl => ?_)
            refine lv_goto (tgt := 37) hx hb dX6_cheapestAdditions_145 (by decide) ?_
            exact ih (kf - 1) (by omega) g_83 z_98 be st up lo H locs ls hT hI hE hM (by omega) (by omega) (by have e0_ : (0 : Int32).toInt = 0 := (by decide); omega) (lv_sub hl [0, 4, 5, 6, 7, 8, 9] rfl)
          · have c_97' : r_84.toInt = (-1) := i_eq c_97 rfl (by decide)
            refine lv_iload hx hb dX6_cheapestAdditions_138 (lv_at hl 0 rfl) ?_
            refine lv_istore (lv' := [(5, .int z_9), (9, .int z_9), (8, .int z_4), (7, .int z_3), (6, .int i), (4, .int st), (3, .int up), (2, .int lo), (0, .ref h), (1, .int n)]) hx hb dX6_cheapestAdditions_140 hl (by decide) rfl (fun ls hl => ?_)
            obtain ⟨z_99, ez_99⟩ : ∃ z : Int32, z = i + 1 := ⟨_, rfl⟩
            have e_z_99 : z_99.toInt = i.toInt + 1 := i_add ez_99 rfl (by decide) (by omega) (by omega)
            refine lv_iinc (v := z_99) (lv' := [(6, .int z_99), (5, .int z_9), (9, .int z_9), (8, .int z_4), (7, .int z_3), (4, .int st), (3, .int up), (2, .int lo), (0, .ref h), (1, .int n)]) hx hb dX6_cheapestAdditions_142 hl (k := 4) rfl (by rw [ez_99]; rfl) (by decide) rfl (fun ls hl => ?_)
            refine lv_goto (tgt := 37) hx hb dX6_cheapestAdditions_145 (by decide) ?_
            exact ih (kf - 1) (by omega) g_83 z_99 z_9 st up lo H locs ls hT hI hE hM (by omega) (by omega) (by have e0_ : (0 : Int32).toInt = 0 := (by decide); omega) (lv_sub hl [0, 1, 5, 6, 7, 8, 9] rfl)
        · have c_59' : r_56.toInt ≤ r_52.toInt := i_nlt c_59 rfl rfl
          refine lv_goto (tgt := 142) hx hb dX6_cheapestAdditions_93 (by decide) ?_
          obtain ⟨z_100, ez_100⟩ : ∃ z : Int32, z = i + 1 := ⟨_, rfl⟩
          have e_z_100 : z_100.toInt = i.toInt + 1 := i_add ez_100 rfl (by decide) (by omega) (by omega)
          refine lv_iinc (v := z_100) (lv' := [(6, .int z_100), (9, .int z_9), (8, .int z_4), (7, .int z_3), (5, .int be), (4, .int st), (3, .int up), (2, .int lo), (0, .ref h), (1, .int n)]) hx hb dX6_cheapestAdditions_142 hl (k := 3) rfl (by rw [ez_100]; rfl) (by decide) rfl (fun ls hl => ?_)
          refine lv_goto (tgt := 37) hx hb dX6_cheapestAdditions_145 (by decide) ?_
          exact ih (kf - 1) (by omega) g1 z_100 be st up lo H locs ls hT hI hE hM (by omega) (by omega) (by have e0_ : (0 : Int32).toInt = 0 := (by decide); omega) (lv_sub hl [0, 4, 5, 6, 7, 8, 9] rfl)
set_option maxHeartbeats 4000000 in
set_option maxRecDepth 100000 in
theorem P_cheapAdd (l : Launch) (D : va_G) (cI cZ cS cR : ClassId) (N0 : NT) (g : GS) (hI : Inv g) (h : Nat) (n : Int32) (r_h : g.1 h = 7) : Ty l D cI cZ cS cR N0 yX6_cheapestAdditions cX6_cheapestAdditions 10 (some .int) 16 0 0 [.ref h, .int n] g (fun v g' => ∃ (r : Int32), v = some (.int r) ∧ Inv g' ∧ Ex g g' ∧ Sm md_P_cheapAdd g g') := by
  refine t_enter (by decide) (Nat.le_of_ble_eq_true rfl) ?_
  intro p e s m args below meth c ls H locs hB hr hin hl hT
  have hx := hB.1
  have hb := hB.2.1
  have hl : lv_has ls 10 [(0, .ref h), (1, .int n)] := hl
  have hE : Ex g g := Ex.rf
  have hM : Sm md_P_cheapAdd g g := Sm.rf
  refine lv_iload_n hx hb dX6_cheapestAdditions_0 rfl (lv_at hl 1 rfl) ?_
  refine t_callS (n := 1) (As := [.int n]) (rest := []) hB hT hl.1 (i_numberOfTrailingZeros l D cI cZ cS cR N0 g hI n ) k_697 k_71 k_695 k_696 (by decide +kernel) ⟨(Nat.le_of_ble_eq_true rfl), (Nat.le_of_ble_eq_true rfl)⟩ rfl (Nat.le_of_ble_eq_true rfl) ⟨(Nat.le_of_ble_eq_true rfl), (Nat.le_of_ble_eq_true rfl)⟩ dX6_cheapestAdditions_1 (fun v g_1 H locs hp hT => ?_)
  obtain ⟨r_2, rfl, eg⟩ := hp
  rw [eg] at hT
  clear eg
  refine W.eq (g2 := F0 m 4 ls [.int r_2]) rfl ?_
  refine lv_iconst (v := 5) hx hb dX6_cheapestAdditions_4 (by decide) ?_
  refine t_min hB k_559 k_560 k_63 k_561 hl.1 (Nat.le_of_ble_eq_true rfl) (Nat.le_of_ble_eq_true rfl) (Nat.le_of_ble_eq_true rfl) (Nat.le_of_ble_eq_true rfl) rfl dX6_cheapestAdditions_5 ?_
  refine lv_topi (fun z_5 ez_5 => ?_)
  have e_z_5 := i_min (a := r_2.toInt) (b := 5) ez_5 rfl (by decide)
  refine lv_istore_n (lv' := [(2, .int z_5), (0, .ref h), (1, .int n)]) hx hb dX6_cheapestAdditions_8 rfl hl (by decide) rfl (fun ls hl => ?_)
  refine lv_bipush (v := 31) hx hb dX6_cheapestAdditions_9 (by decide) ?_
  refine lv_iload_n hx hb dX6_cheapestAdditions_11 rfl (lv_at hl 2 rfl) ?_
  refine t_callS (n := 1) (As := [.int n]) (rest := [.int 31]) hB hT hl.1 (i_numberOfLeadingZeros l D cI cZ cS cR N0 g hI n ) k_701 k_71 k_699 k_700 (by decide +kernel) ⟨(Nat.le_of_ble_eq_true rfl), (Nat.le_of_ble_eq_true rfl)⟩ rfl (Nat.le_of_ble_eq_true rfl) ⟨(Nat.le_of_ble_eq_true rfl), (Nat.le_of_ble_eq_true rfl)⟩ dX6_cheapestAdditions_12 (fun v g_6 H locs hp hT => ?_)
  obtain ⟨r_7, rfl, eg⟩ := hp
  rw [eg] at hT
  clear eg
  refine W.eq (g2 := F0 m 15 ls [.int r_7, .int 31]) rfl ?_
  refine lv_isub hx hb dX6_cheapestAdditions_15 ?_
  refine lv_topi (fun z_10 ez_10 => ?_)
  refine lv_iconst (v := 0) hx hb dX6_cheapestAdditions_16 (by decide) ?_
  refine t_max hB k_702 k_241 k_63 k_242 hl.1 (Nat.le_of_ble_eq_true rfl) (Nat.le_of_ble_eq_true rfl) (Nat.le_of_ble_eq_true rfl) (Nat.le_of_ble_eq_true rfl) rfl dX6_cheapestAdditions_17 ?_
  refine lv_topi (fun z_11 ez_11 => ?_)
  have e_z_11 := i_max (a := z_10.toInt) (b := 0) ez_11 rfl (by decide)
  refine lv_istore_n (lv' := [(3, .int z_11), (2, .int z_5), (0, .ref h), (1, .int n)]) hx hb dX6_cheapestAdditions_20 rfl hl (by decide) rfl (fun ls hl => ?_)
  refine lv_iconst (v := 1) hx hb dX6_cheapestAdditions_21 (by decide) ?_
  refine lv_iconst (v := 4) hx hb dX6_cheapestAdditions_22 (by decide) ?_
  refine lv_iload_n hx hb dX6_cheapestAdditions_23 rfl (lv_at hl 3 rfl) ?_
  refine t_callS (n := 1) (As := [.int n]) (rest := [.int 4, .int 1]) hB hT hl.1 (i_bitCount l D cI cZ cS cR N0 g hI n ) k_687 k_71 k_685 k_686 (by decide +kernel) ⟨(Nat.le_of_ble_eq_true rfl), (Nat.le_of_ble_eq_true rfl)⟩ rfl (Nat.le_of_ble_eq_true rfl) ⟨(Nat.le_of_ble_eq_true rfl), (Nat.le_of_ble_eq_true rfl)⟩ dX6_cheapestAdditions_24 (fun v g_12 H locs hp hT => ?_)
  obtain ⟨r_13, rfl, eg⟩ := hp
  rw [eg] at hT
  clear eg
  refine W.eq (g2 := F0 m 27 ls [.int r_13, .int 4, .int 1]) rfl ?_
  refine lv_imul hx hb dX6_cheapestAdditions_27 ?_
  refine lv_topi (fun z_16 ez_16 => ?_)
  refine lv_ishl hx hb dX6_cheapestAdditions_28 ?_
  refine lv_topi (fun z_17 ez_17 => ?_)
  refine lv_istore (lv' := [(4, .int z_17), (3, .int z_11), (2, .int z_5), (0, .ref h), (1, .int n)]) hx hb dX6_cheapestAdditions_29 hl (by decide) rfl (fun ls hl => ?_)
  refine lv_iconst (v := (-1)) hx hb dX6_cheapestAdditions_31 (by decide) ?_
  refine lv_istore (lv' := [(5, .int (-1)), (4, .int z_17), (3, .int z_11), (2, .int z_5), (0, .ref h), (1, .int n)]) hx hb dX6_cheapestAdditions_32 hl (by decide) rfl (fun ls hl => ?_)
  refine lv_iconst (v := 0) hx hb dX6_cheapestAdditions_34 (by decide) ?_
  refine lv_istore (lv' := [(6, .int 0), (5, .int (-1)), (4, .int z_17), (3, .int z_11), (2, .int z_5), (0, .ref h), (1, .int n)]) hx hb dX6_cheapestAdditions_35 hl (by decide) rfl (fun ls hl => ?_)
  exact lt_P_cheapAdd_a l D cI cZ cS cR N0 g h n r_h hB hr   2147483648 g (0 : Int32) ((-1) : Int32) z_17 z_11 z_5 H locs ls hT hI hE hM (by decide) (by decide) (by have e0_ : ((-1) : Int32).toInt = (-1) := (by decide); have e1_ : (0 : Int32).toInt = 0 := (by decide); omega) (lv_sub hl [0, 1, 2, 3, 4, 5, 6] rfl)
abbrev md_P_cheapest : Nat → Nat → Bool := mdf [(2, 6), (4, 0), (4, 2), (4, 3), (4, 4), (4, 5), (4, 10), (4, 11), (4, 14), (6, 1), (6, 2), (6, 4), (6, 5), (6, 6), (6, 7), (50, 99)]
theorem mdle_P_cheapest_P_cheapAdd {r k : Nat} (h : md_P_cheapest r k = false) : md_P_cheapAdd r k = false := mdf_le (by decide +kernel) h
set_option maxHeartbeats 4000000 in
set_option maxRecDepth 100000 in
theorem P_cheapest (l : Launch) (D : va_G) (cI cZ cS cR : ClassId) (N0 : NT) (g : GS) (hI : Inv g) (h : Nat) (n : Int32) (r_h : g.1 h = 7) : Ty l D cI cZ cS cR N0 yX6_cheapest cX6_cheapest 4 (some .int) 17 0 0 [.ref h, .int n] g (fun v g' => ∃ (r : Int32), v = some (.int r) ∧ Inv g' ∧ Ex g g' ∧ Sm md_P_cheapest g g') := by
  refine t_enter (by decide) (Nat.le_of_ble_eq_true rfl) ?_
  intro p e s m args below meth c ls H locs hB hr hin hl hT
  have hx := hB.1
  have hb := hB.2.1
  have hl : lv_has ls 4 [(0, .ref h), (1, .int n)] := hl
  have hE : Ex g g := Ex.rf
  have hM : Sm md_P_cheapest g g := Sm.rf
  refine lv_iload_n hx hb dX6_cheapest_0 rfl (lv_at hl 1 rfl) ?_
  refine lv_iconst (v := 1) hx hb dX6_cheapest_1 (by decide) ?_
  refine t_callS (n := 2) (As := [.int n, .int 1]) (rest := []) hB hT hl.1 (s_within l D cI cZ cS cR N0 g hI n 1 ) k_415 k_57 k_441 k_414 (by decide +kernel) ⟨(Nat.le_of_ble_eq_true rfl), (Nat.le_of_ble_eq_true rfl)⟩ rfl (Nat.le_of_ble_eq_true rfl) ⟨(Nat.le_of_ble_eq_true rfl), (Nat.le_of_ble_eq_true rfl)⟩ dX6_cheapest_2 (fun v g_1 H locs hp hT => ?_)
  obtain ⟨r_2, rfl, eg, f_3⟩ := hp
  rw [eg] at hT
  clear eg
  refine W.eq (g2 := F0 m 5 ls [.int r_2]) rfl ?_
  have qc_6 : (1 : Int32).toInt = 1 := (by decide)
  rcases f_3 with ⟨rfl, hw_7, hw_8⟩ | ⟨rfl, hw_9⟩
  · refine W.eq (g2 := F0 m 5 ls [.int 1]) rfl ?_
    refine lv_if_ne (tgt := 10) hx hb dX6_cheapest_5 (by decide) (fun c_ => ?_) (fun c_ => absurd c_ (by decide))
    refine lv_aload_n hx hb dX6_cheapest_10 rfl (lv_at hl 0 rfl) ?_
    obtain ⟨v_10, e_v_10, r_v_10⟩ := f_7_2 hI r_h
    refine t_get (ci := 6) (v := .ref v_10) hB hT (ro_ci r_h rfl) rfl 2 (by decide) k_310 e_v_10 dX6_cheapest_11 ?_
    obtain ⟨v_11, e_v_11, l_v_11, u_v_11⟩ := f_1_3 hI r_v_10
    refine t_get (ci := 0) (v := .int v_11) hB hT (ro_ci r_v_10 rfl) rfl 3 (by decide) k_256 e_v_11 dX6_cheapest_14 ?_
    refine lv_iconst (v := 3) hx hb dX6_cheapest_17 (by decide) ?_
    refine lv_icmp_le (tgt := 24) hx hb dX6_cheapest_18 (by decide) (fun c_12 => ?_) (fun c_12 => ?_)
    · have c_12' : v_11.toInt ≤ 3 := i_le c_12 rfl (by decide)
      refine lv_aload_n hx hb dX6_cheapest_24 rfl (lv_at hl 0 rfl) ?_
      obtain ⟨v_13, e_v_13, r_v_13⟩ := f_7_1 hI r_h
      refine t_get (ci := 6) (v := .ref v_13) hB hT (ro_ci r_h rfl) rfl 1 (by decide) k_309 e_v_13 dX6_cheapest_25 ?_
      refine lv_aload_n hx hb dX6_cheapest_28 rfl (lv_at hl 0 rfl) ?_
      refine t_get (ci := 6) (v := .ref v_10) hB hT (ro_ci r_h rfl) rfl 2 (by decide) k_310 e_v_10 dX6_cheapest_29 ?_
      refine t_callV (n := 1) (As := [.ref v_10]) (rest := []) (ci := 5) hB hT hl.1 (n_reachOf l D cI cZ cS cR N0 g hI v_13 v_10 r_v_13 r_v_10) (ro_ci r_v_13 rfl) rfl k_684 k_59 k_681 k_682 k_683 (by decide +kernel) ⟨(Nat.le_of_ble_eq_true rfl), (Nat.le_of_ble_eq_true rfl)⟩ rfl (Nat.le_of_ble_eq_true rfl) ⟨(Nat.le_of_ble_eq_true rfl), (Nat.le_of_ble_eq_true rfl)⟩ dX6_cheapest_32 (fun v g_14 H locs hp hT => ?_)
      obtain ⟨r_15, rfl, eg⟩ := hp
      rw [eg] at hT
      clear eg
      refine W.eq (g2 := F0 m 35 ls [.int r_15]) rfl ?_
      refine lv_istore_n (lv' := [(2, .int r_15), (0, .ref h), (1, .int n)]) hx hb dX6_cheapest_35 rfl hl (by decide) rfl (fun ls hl => ?_)
      refine lv_iload_n hx hb dX6_cheapest_36 rfl (lv_at hl 0 rfl) ?_
      refine t_callS (n := 1) (As := [.int r_15]) (rest := []) hB hT hl.1 (i_bitCount l D cI cZ cS cR N0 g hI r_15 ) k_687 k_71 k_685 k_686 (by decide +kernel) ⟨(Nat.le_of_ble_eq_true rfl), (Nat.le_of_ble_eq_true rfl)⟩ rfl (Nat.le_of_ble_eq_true rfl) ⟨(Nat.le_of_ble_eq_true rfl), (Nat.le_of_ble_eq_true rfl)⟩ dX6_cheapest_37 (fun v g_18 H locs hp hT => ?_)
      obtain ⟨r_19, rfl, eg⟩ := hp
      rw [eg] at hT
      clear eg
      refine W.eq (g2 := F0 m 40 ls [.int r_19]) rfl ?_
      refine lv_iconst (v := 2) hx hb dX6_cheapest_40 (by decide) ?_
      refine lv_icmp_le (tgt := 47) hx hb dX6_cheapest_41 (by decide) (fun c_22 => ?_) (fun c_22 => ?_)
      · have c_22' : r_19.toInt ≤ 2 := i_le c_22 rfl (by decide)
        refine lv_aload_n hx hb dX6_cheapest_47 rfl (lv_at hl 1 rfl) ?_
        refine lv_iload_n hx hb dX6_cheapest_48 rfl (lv_at hl 0 rfl) ?_
        refine t_callV (n := 1) (As := [.int r_15]) (rest := []) (ci := 6) hB hT hl.1 (P_cheapAdd l D cI cZ cS cR N0 g hI h r_15 r_h) (ro_ci r_h rfl) rfl k_694 k_57 k_691 k_693 k_19 (by decide +kernel) ⟨(Nat.le_of_ble_eq_true rfl), (Nat.le_of_ble_eq_true rfl)⟩ rfl (Nat.le_of_ble_eq_true rfl) ⟨(Nat.le_of_ble_eq_true rfl), (Nat.le_of_ble_eq_true rfl)⟩ dX6_cheapest_49 (fun v g_23 H locs hp hT => ?_)
        obtain ⟨r_24, rfl, hI, x_26, m_25⟩ := hp
        have hM : Sm md_P_cheapest g g_23 := hM.tr hE (m_25.mo (fun r k h => mdle_P_cheapest_P_cheapAdd h))
        have hE : Ex g g_23 := hE.tr x_26
        have r_27 : g_23.1 h = 7 := (Ex.r x_26 r_h (by decide))
        have r_28 : g_23.1 v_10 = 1 := (Ex.r x_26 r_v_10 (by decide))
        have r_29 : g_23.1 v_13 = 19 := (Ex.r x_26 r_v_13 (by decide))
        have kn_30 : g_23.2.1 h 2 = .ref v_10 := (Sm.v m_25 r_h (by decide) rfl e_v_10)
        have kn_31 : g_23.2.1 v_10 3 = .int v_11 := (Sm.v m_25 r_v_10 (by decide) rfl e_v_11)
        have kn_32 : g_23.2.1 h 1 = .ref v_13 := (Sm.v m_25 r_h (by decide) rfl e_v_13)
        refine W.eq (g2 := F0 m 52 ls [.int r_24]) rfl ?_
        refine lv_istore_n (lv' := [(3, .int r_24), (2, .int r_15), (0, .ref h), (1, .int n)]) hx hb dX6_cheapest_52 rfl hl (by decide) rfl (fun ls hl => ?_)
        refine lv_iload_n hx hb dX6_cheapest_53 rfl (lv_at hl 0 rfl) ?_
        refine lv_iconst (v := (-1)) hx hb dX6_cheapest_54 (by decide) ?_
        refine lv_icmp_eq (tgt := 63) hx hb dX6_cheapest_55 (by decide) (fun c_33 => ?_) (fun c_33 => ?_)
        · have c_33' : r_24.toInt = (-1) := i_eq c_33 rfl (by decide)
          refine lv_iload_n hx hb dX6_cheapest_63 rfl (lv_at hl 0 rfl) ?_
          refine lv_goto (tgt := 72) hx hb dX6_cheapest_64 (by decide) ?_
          exact t_iret hB hr hT (Nat.le_of_ble_eq_true rfl) (Nat.le_of_ble_eq_true rfl) dX6_cheapest_72 ⟨r_24, rfl, hI, hE, hM⟩
        · have c_33' : r_24.toInt ≠ (-1) := i_ne c_33 rfl (by decide)
          refine lv_iload_n hx hb dX6_cheapest_58 rfl (lv_at hl 3 rfl) ?_
          refine lv_iconst (v := 1) hx hb dX6_cheapest_59 (by decide) ?_
          refine lv_icmp_ne (tgt := 67) hx hb dX6_cheapest_60 (by decide) (fun c_34 => ?_) (fun c_34 => ?_)
          · have c_34' : n.toInt ≠ 1 := i_ne c_34 rfl (by decide)
            refine lv_aload_n hx hb dX6_cheapest_67 rfl (lv_at hl 2 rfl) ?_
            refine lv_iload_n hx hb dX6_cheapest_68 rfl (lv_at hl 0 rfl) ?_
            refine t_callV (n := 1) (As := [.int r_24]) (rest := []) (ci := 6) hB hT hl.1 (P_priceOf l D cI cZ cS cR N0 g_23 hI h r_24 r_27) (ro_ci r_27 rfl) rfl k_706 k_57 k_703 k_705 k_20 (by decide +kernel) ⟨(Nat.le_of_ble_eq_true rfl), (Nat.le_of_ble_eq_true rfl)⟩ rfl (Nat.le_of_ble_eq_true rfl) ⟨(Nat.le_of_ble_eq_true rfl), (Nat.le_of_ble_eq_true rfl)⟩ dX6_cheapest_69 (fun v g_35 H locs hp hT => ?_)
            obtain ⟨r_36, rfl, eg⟩ := hp
            rw [eg] at hT
            clear eg
            refine W.eq (g2 := F0 m 72 ls [.int r_36]) rfl ?_
            exact t_iret hB hr hT (Nat.le_of_ble_eq_true rfl) (Nat.le_of_ble_eq_true rfl) dX6_cheapest_72 ⟨r_36, rfl, hI, hE, hM⟩
          · have c_34' : n.toInt = 1 := i_eq c_34 rfl (by decide)
            refine lv_iload_n hx hb dX6_cheapest_63 rfl (lv_at hl 0 rfl) ?_
            refine lv_goto (tgt := 72) hx hb dX6_cheapest_64 (by decide) ?_
            exact t_iret hB hr hT (Nat.le_of_ble_eq_true rfl) (Nat.le_of_ble_eq_true rfl) dX6_cheapest_72 ⟨r_24, rfl, hI, hE, hM⟩
      · have c_22' : 2 < r_19.toInt := i_nle c_22 rfl (by decide)
        refine lv_bipush (v := (-5)) hx hb dX6_cheapest_44 (by decide) ?_
        exact t_iret hB hr hT (Nat.le_of_ble_eq_true rfl) (Nat.le_of_ble_eq_true rfl) dX6_cheapest_46 ⟨(-5), rfl, hI, hE, hM⟩
    · have c_12' : 3 < v_11.toInt := i_nle c_12 rfl (by decide)
      refine lv_bipush (v := (-3)) hx hb dX6_cheapest_21 (by decide) ?_
      exact t_iret hB hr hT (Nat.le_of_ble_eq_true rfl) (Nat.le_of_ble_eq_true rfl) dX6_cheapest_23 ⟨(-3), rfl, hI, hE, hM⟩
  · refine W.eq (g2 := F0 m 5 ls [.int 0]) rfl ?_
    refine lv_if_ne (tgt := 10) hx hb dX6_cheapest_5 (by decide) (fun c_ => absurd (by decide) c_) (fun c_ => ?_)
    refine lv_iconst (v := (-1)) hx hb dX6_cheapest_8 (by decide) ?_
    exact t_iret hB hr hT (Nat.le_of_ble_eq_true rfl) (Nat.le_of_ble_eq_true rfl) dX6_cheapest_9 ⟨(-1), rfl, hI, hE, hM⟩
abbrev md_P_again : Nat → Nat → Bool := mdf [(4, 0), (4, 2), (4, 3), (4, 4), (4, 5), (4, 10), (4, 11), (4, 14), (6, 1), (6, 2), (6, 4), (6, 5), (6, 6), (6, 7), (50, 99)]
theorem mdle_P_again_s_beginAt {r k : Nat} (h : md_P_again r k = false) : md_s_beginAt r k = false := mdf_le (by decide +kernel) h
theorem mdle_P_again_s_isStill {r k : Nat} (h : md_P_again r k = false) : md_s_isStill r k = false := mdf_le (by decide +kernel) h
set_option maxHeartbeats 4000000 in
set_option maxRecDepth 100000 in
theorem P_again (l : Launch) (D : va_G) (cI cZ cS cR : ClassId) (N0 : NT) (g : GS) (hI : Inv g) (h : Nat) (r_h : g.1 h = 7) : Ty l D cI cZ cS cR N0 yX6_again cX6_again 1 (some .int) 15 0 0 [.ref h] g (fun v g' => ∃ (r : Int32), v = some (.int r) ∧ Inv g' ∧ Ex g g' ∧ Sm md_P_again g g') := by
  refine t_enter (by decide) (Nat.le_of_ble_eq_true rfl) ?_
  intro p e s m args below meth c ls H locs hB hr hin hl hT
  have hx := hB.1
  have hb := hB.2.1
  have hl : lv_has ls 1 [(0, .ref h)] := hl
  have hE : Ex g g := Ex.rf
  have hM : Sm md_P_again g g := Sm.rf
  refine lv_aload_n hx hb dX6_again_0 rfl (lv_at hl 0 rfl) ?_
  obtain ⟨v_1, e_v_1, r_v_1⟩ := f_7_4 hI r_h
  refine t_get (ci := 6) (v := .ref v_1) hB hT (ro_ci r_h rfl) rfl 4 (by decide) k_312 e_v_1 dX6_again_1 ?_
  refine lv_aload_n hx hb dX6_again_4 rfl (lv_at hl 0 rfl) ?_
  obtain ⟨v_2, e_v_2, r_v_2⟩ := f_7_1 hI r_h
  refine t_get (ci := 6) (v := .ref v_2) hB hT (ro_ci r_h rfl) rfl 1 (by decide) k_309 e_v_2 dX6_again_5 ?_
  refine t_callV (n := 1) (As := [.ref v_2]) (rest := []) (ci := 1) hB hT hl.1 (s_beginAt l D cI cZ cS cR N0 g hI v_1 v_2 r_v_1 r_v_2) (ro_ci r_v_1 rfl) rfl k_581 k_64 k_578 k_579 k_580 (by decide +kernel) ⟨(Nat.le_of_ble_eq_true rfl), (Nat.le_of_ble_eq_true rfl)⟩ rfl (Nat.le_of_ble_eq_true rfl) ⟨(Nat.le_of_ble_eq_true rfl), (Nat.le_of_ble_eq_true rfl)⟩ dX6_again_8 (fun v g_3 H locs hp hT => ?_)
  obtain ⟨rfl, hI, x_5, m_4⟩ := hp
  have hM : Sm md_P_again g g_3 := hM.tr hE (m_4.mo (fun r k h => mdle_P_again_s_beginAt h))
  have hE : Ex g g_3 := hE.tr x_5
  have r_6 : g_3.1 h = 7 := (Ex.r x_5 r_h (by decide))
  have r_7 : g_3.1 v_1 = 2 := (Ex.r x_5 r_v_1 (by decide))
  have r_8 : g_3.1 v_2 = 19 := (Ex.r x_5 r_v_2 (by decide))
  have kn_9 : g_3.2.1 h 4 = .ref v_1 := (Sm.v m_4 r_h (by decide) rfl e_v_1)
  have kn_10 : g_3.2.1 h 1 = .ref v_2 := (Sm.v m_4 r_h (by decide) rfl e_v_2)
  refine W.eq (g2 := F0 m 11 ls []) rfl ?_
  refine lv_aload_n hx hb dX6_again_11 rfl (lv_at hl 0 rfl) ?_
  refine t_get (ci := 6) (v := .ref v_1) hB hT (ro_ci r_6 rfl) rfl 4 (by decide) k_312 kn_9 dX6_again_12 ?_
  refine lv_aload_n hx hb dX6_again_15 rfl (lv_at hl 0 rfl) ?_
  obtain ⟨v_11, e_v_11, r_v_11⟩ := f_7_3 hI r_6
  refine t_get (ci := 6) (v := .ref v_11) hB hT (ro_ci r_6 rfl) rfl 3 (by decide) k_311 e_v_11 dX6_again_16 ?_
  refine t_callV (n := 1) (As := [.ref v_11]) (rest := []) (ci := 1) hB hT hl.1 (s_isStill l D cI cZ cS cR N0 g_3 hI v_1 v_11 r_7 r_v_11) (ro_ci r_7 rfl) rfl k_718 k_64 k_715 k_716 k_717 (by decide +kernel) ⟨(Nat.le_of_ble_eq_true rfl), (Nat.le_of_ble_eq_true rfl)⟩ rfl (Nat.le_of_ble_eq_true rfl) ⟨(Nat.le_of_ble_eq_true rfl), (Nat.le_of_ble_eq_true rfl)⟩ dX6_again_19 (fun v g_12 H locs hp hT => ?_)
  obtain ⟨r_13, rfl, hI, x_16, m_15, f_14⟩ := hp
  have hM : Sm md_P_again g g_12 := hM.tr hE (m_15.mo (fun r k h => mdle_P_again_s_isStill h))
  have hE : Ex g g_12 := hE.tr x_16
  have r_17 : g_12.1 h = 7 := (Ex.r x_16 r_6 (by decide))
  have r_18 : g_12.1 v_1 = 2 := (Ex.r x_16 r_7 (by decide))
  have r_19 : g_12.1 v_2 = 19 := (Ex.r x_16 r_8 (by decide))
  have r_20 : g_12.1 v_11 = 9 := (Ex.r x_16 r_v_11 (by decide))
  have kn_21 : g_12.2.1 h 4 = .ref v_1 := (Sm.v m_15 r_6 (by decide) rfl kn_9)
  have kn_22 : g_12.2.1 h 1 = .ref v_2 := (Sm.v m_15 r_6 (by decide) rfl kn_10)
  have kn_23 : g_12.2.1 h 3 = .ref v_11 := (Sm.v m_15 r_6 (by decide) rfl e_v_11)
  refine W.eq (g2 := F0 m 22 ls [.int r_13]) rfl ?_
  rcases f_14 with rfl | rfl
  · refine W.eq (g2 := F0 m 22 ls [.int 1]) rfl ?_
    refine lv_if_eq (tgt := 29) hx hb dX6_again_22 (by decide) (fun c_ => absurd c_ (by decide)) (fun c_ => ?_)
    refine lv_iconst (v := 1) hx hb dX6_again_25 (by decide) ?_
    refine lv_goto (tgt := 30) hx hb dX6_again_26 (by decide) ?_
    exact t_iret hB hr hT (Nat.le_of_ble_eq_true rfl) (Nat.le_of_ble_eq_true rfl) dX6_again_30 ⟨1, rfl, hI, hE, hM⟩
  · refine W.eq (g2 := F0 m 22 ls [.int 0]) rfl ?_
    refine lv_if_eq (tgt := 29) hx hb dX6_again_22 (by decide) (fun c_ => ?_) (fun c_ => absurd (by decide) c_)
    refine lv_iconst (v := 0) hx hb dX6_again_29 (by decide) ?_
    exact t_iret hB hr hT (Nat.le_of_ble_eq_true rfl) (Nat.le_of_ble_eq_true rfl) dX6_again_30 ⟨0, rfl, hI, hE, hM⟩
abbrev md_P_log : Nat → Nat → Bool := mdf []
set_option maxHeartbeats 4000000 in
set_option maxRecDepth 100000 in
theorem P_log (l : Launch) (D : va_G) (cI cZ cS cR : ClassId) (N0 : NT) (g : GS) (hI : Inv g) (h : Nat) (n : Int32) (k : Int32) (r_h : g.1 h = 7) : Ty l D cI cZ cS cR N0 yX6_log cX6_log 3 (some .int) 1 0 0 [.ref h, .int n, .int k] g (fun v g' => ∃ (r : Int32), v = some (.int r) ∧ Inv g' ∧ Ex g g' ∧ Sm md_P_log g g') := by
  refine t_enter (by decide) (Nat.le_of_ble_eq_true rfl) ?_
  intro p e s m args below meth c ls H locs hB hr hin hl hT
  have hx := hB.1
  have hb := hB.2.1
  have hl : lv_has ls 3 [(0, .ref h), (1, .int n), (2, .int k)] := hl
  have hE : Ex g g := Ex.rf
  have hM : Sm md_P_log g g := Sm.rf
  refine lv_iload_n hx hb dX6_log_0 rfl (lv_at hl 1 rfl) ?_
  refine lv_aload_n hx hb dX6_log_1 rfl (lv_at hl 0 rfl) ?_
  obtain ⟨v_1, e_v_1, r_v_1⟩ := f_7_3 hI r_h
  refine t_get (ci := 6) (v := .ref v_1) hB hT (ro_ci r_h rfl) rfl 3 (by decide) k_311 e_v_1 dX6_log_2 ?_
  obtain ⟨v_2, e_v_2, l_v_2, u_v_2⟩ := f_9_3 hI r_v_1
  refine t_get (ci := 0) (v := .int v_2) hB hT (ro_ci r_v_1 rfl) rfl 3 (by decide) k_256 e_v_2 dX6_log_5 ?_
  refine lv_iconst (v := 1) hx hb dX6_log_8 (by decide) ?_
  refine lv_isub hx hb dX6_log_9 ?_
  refine lv_topi (fun z_3 ez_3 => ?_)
  have e_z_3 : z_3.toInt = v_2.toInt - 1 := i_sub ez_3 rfl (by decide) (by omega) (by omega)
  refine t_callS (n := 2) (As := [.int n, .int z_3]) (rest := []) hB hT hl.1 (s_within l D cI cZ cS cR N0 g hI n z_3 ) k_415 k_57 k_441 k_414 (by decide +kernel) ⟨(Nat.le_of_ble_eq_true rfl), (Nat.le_of_ble_eq_true rfl)⟩ rfl (Nat.le_of_ble_eq_true rfl) ⟨(Nat.le_of_ble_eq_true rfl), (Nat.le_of_ble_eq_true rfl)⟩ dX6_log_10 (fun v g_4 H locs hp hT => ?_)
  obtain ⟨r_5, rfl, eg, f_6⟩ := hp
  rw [eg] at hT
  clear eg
  refine W.eq (g2 := F0 m 13 ls [.int r_5]) rfl ?_
  rcases f_6 with ⟨rfl, hw_9, hw_10⟩ | ⟨rfl, hw_11⟩
  · refine W.eq (g2 := F0 m 13 ls [.int 1]) rfl ?_
    refine lv_if_ne (tgt := 18) hx hb dX6_log_13 (by decide) (fun c_ => ?_) (fun c_ => absurd c_ (by decide))
    refine lv_iload_n hx hb dX6_log_18 rfl (lv_at hl 2 rfl) ?_
    by_cases ht_12 : (k < 0 ∨ 2 < k)
    · refine lv_tableOut (tgt := 74) hx hb dX6_log_19 (sw_out ht_12) (by decide) ?_
      refine lv_iconst (v := (-1)) hx hb dX6_log_74 (by decide) ?_
      exact t_iret hB hr hT (Nat.le_of_ble_eq_true rfl) (Nat.le_of_ble_eq_true rfl) dX6_log_75 ⟨(-1), rfl, hI, hE, hM⟩
    · obtain ⟨j_13, hj_13, ej_13⟩ := sw_in (n := 3) rfl ht_12
      rcases (show j_13 = 0 ∨ j_13 = 1 ∨ j_13 = 2 by omega) with rfl | rfl | rfl
      · refine x_ev (y := 0) ej_13 ?_
        refine lv_tableIn (off := 25) (tgt := 44) hx hb dX6_log_19 (by decide) (by decide) rfl (by decide) ?_
        refine lv_aload_n hx hb dX6_log_44 rfl (lv_at hl 0 rfl) ?_
        refine t_get (ci := 6) (v := .ref v_1) hB hT (ro_ci r_h rfl) rfl 3 (by decide) k_311 e_v_1 dX6_log_45 ?_
        obtain ⟨v_14, e_v_14, r_v_14, n_v_14⟩ := f_9_0 hI r_v_1
        refine t_get (ci := 0) (v := .ref v_14) hB hT (ro_ci r_v_1 rfl) rfl 0 (by decide) k_246 e_v_14 dX6_log_48 ?_
        refine lv_iload_n hx hb dX6_log_51 rfl (lv_at hl 1 rfl) ?_
        have i_u_15 : vp_in n 20 := (i_in (n := 20) rfl (by omega) (by omega))
        refine t_iald hB hT (ro_in r_v_14 (by decide)) n_v_14 i_u_15 rfl dX6_log_52 ?_
        have c_u_15 := hI.c r_v_14 n_v_14 (i_cl i_u_15)
        refine lv_topi (fun u_15 e_u_15 => ?_)
        obtain ⟨l_u_15, u_u_15⟩ := c_u_15
        rw [← e_u_15] at l_u_15 u_u_15
        exact t_iret hB hr hT (Nat.le_of_ble_eq_true rfl) (Nat.le_of_ble_eq_true rfl) dX6_log_53 ⟨u_15, rfl, hI, hE, hM⟩
      · refine x_ev (y := 1) ej_13 ?_
        refine lv_tableIn (off := 35) (tgt := 54) hx hb dX6_log_19 (by decide) (by decide) rfl (by decide) ?_
        refine lv_aload_n hx hb dX6_log_54 rfl (lv_at hl 0 rfl) ?_
        refine t_get (ci := 6) (v := .ref v_1) hB hT (ro_ci r_h rfl) rfl 3 (by decide) k_311 e_v_1 dX6_log_55 ?_
        obtain ⟨v_16, e_v_16, r_v_16, n_v_16⟩ := f_9_1 hI r_v_1
        refine t_get (ci := 0) (v := .ref v_16) hB hT (ro_ci r_v_1 rfl) rfl 1 (by decide) k_249 e_v_16 dX6_log_58 ?_
        refine lv_iload_n hx hb dX6_log_61 rfl (lv_at hl 1 rfl) ?_
        have i_u_17 : vp_in n 20 := (i_in (n := 20) rfl (by omega) (by omega))
        refine t_iald hB hT (ro_in r_v_16 (by decide)) n_v_16 i_u_17 rfl dX6_log_62 ?_
        refine lv_topi (fun u_17 e_u_17 => ?_)
        exact t_iret hB hr hT (Nat.le_of_ble_eq_true rfl) (Nat.le_of_ble_eq_true rfl) dX6_log_63 ⟨u_17, rfl, hI, hE, hM⟩
      · refine x_ev (y := 2) ej_13 ?_
        refine lv_tableIn (off := 45) (tgt := 64) hx hb dX6_log_19 (by decide) (by decide) rfl (by decide) ?_
        refine lv_aload_n hx hb dX6_log_64 rfl (lv_at hl 0 rfl) ?_
        refine t_get (ci := 6) (v := .ref v_1) hB hT (ro_ci r_h rfl) rfl 3 (by decide) k_311 e_v_1 dX6_log_65 ?_
        obtain ⟨v_18, e_v_18, r_v_18, n_v_18⟩ := f_9_2 hI r_v_1
        refine t_get (ci := 0) (v := .ref v_18) hB hT (ro_ci r_v_1 rfl) rfl 2 (by decide) k_252 e_v_18 dX6_log_68 ?_
        refine lv_iload_n hx hb dX6_log_71 rfl (lv_at hl 1 rfl) ?_
        have i_u_19 : vp_in n 20 := (i_in (n := 20) rfl (by omega) (by omega))
        refine t_iald hB hT (ro_in r_v_18 (by decide)) n_v_18 i_u_19 rfl dX6_log_72 ?_
        refine lv_topi (fun u_19 e_u_19 => ?_)
        exact t_iret hB hr hT (Nat.le_of_ble_eq_true rfl) (Nat.le_of_ble_eq_true rfl) dX6_log_73 ⟨u_19, rfl, hI, hE, hM⟩
  · refine W.eq (g2 := F0 m 13 ls [.int 0]) rfl ?_
    refine lv_if_ne (tgt := 18) hx hb dX6_log_13 (by decide) (fun c_ => absurd (by decide) c_) (fun c_ => ?_)
    refine lv_iconst (v := (-1)) hx hb dX6_log_16 (by decide) ?_
    exact t_iret hB hr hT (Nat.le_of_ble_eq_true rfl) (Nat.le_of_ble_eq_true rfl) dX6_log_17 ⟨(-1), rfl, hI, hE, hM⟩
abbrev md_P_reset : Nat → Nat → Bool := mdf [(9, 3), (10, 2), (10, 5), (19, 2), (19, 4), (50, 99)]
theorem mdle_P_reset_n_wfresh {r k : Nat} (h : md_P_reset r k = false) : md_n_wfresh r k = false := mdf_le (by decide +kernel) h
set_option maxHeartbeats 4000000 in
set_option maxRecDepth 100000 in
theorem P_reset (l : Launch) (D : va_G) (cI cZ cS cR : ClassId) (N0 : NT) (g : GS) (hI : Inv g) (h : Nat) (r_h : g.1 h = 7) : Ty l D cI cZ cS cR N0 yX6_reset cX6_reset 2 (some .int) 2 0 0 [.ref h] g (fun v g' => ∃ (r : Int32), v = some (.int r) ∧ Inv g' ∧ Ex g g' ∧ Sm md_P_reset g g') := by
  refine t_enter (by decide) (Nat.le_of_ble_eq_true rfl) ?_
  intro p e s m args below meth c ls H locs hB hr hin hl hT
  have hx := hB.1
  have hb := hB.2.1
  have hl : lv_has ls 2 [(0, .ref h)] := hl
  have hE : Ex g g := Ex.rf
  have hM : Sm md_P_reset g g := Sm.rf
  refine lv_aload_n hx hb dX6_reset_0 rfl (lv_at hl 0 rfl) ?_
  obtain ⟨v_1, e_v_1, r_v_1⟩ := f_7_3 hI r_h
  refine t_get (ci := 6) (v := .ref v_1) hB hT (ro_ci r_h rfl) rfl 3 (by decide) k_311 e_v_1 dX6_reset_1 ?_
  obtain ⟨v_2, e_v_2, l_v_2, u_v_2⟩ := f_9_3 hI r_v_1
  refine t_get (ci := 0) (v := .int v_2) hB hT (ro_ci r_v_1 rfl) rfl 3 (by decide) k_256 e_v_2 dX6_reset_4 ?_
  refine lv_istore_n (lv' := [(1, .int v_2), (0, .ref h)]) hx hb dX6_reset_7 rfl hl (by decide) rfl (fun ls hl => ?_)
  refine lv_aload_n hx hb dX6_reset_8 rfl (lv_at hl 1 rfl) ?_
  refine t_get (ci := 6) (v := .ref v_1) hB hT (ro_ci r_h rfl) rfl 3 (by decide) k_311 e_v_1 dX6_reset_9 ?_
  refine lv_iconst (v := 0) hx hb dX6_reset_12 (by decide) ?_
  refine t_put0 (ci := 0) (v := .int 0) hB hT (ro_ci r_v_1 rfl) (ro_n0 r_v_1 (by decide)) rfl 3 (by decide) k_256 (Or.inl rfl) rfl rfl dX6_reset_13 (fun H locs hT => ?_)
  have hI : Inv (sF g v_1 3 (.int 0)) := hI.sF (p_9_3 r_v_1 (⟨_, rfl, by decide, by decide⟩))
  have hM : Sm md_P_reset g (sF g v_1 3 (.int 0)) := hM.tr hE (Sm_sF (by rw [r_v_1]; rfl))
  have hE : Ex g (sF g v_1 3 (.int 0)) := hE
  refine lv_aload_n hx hb dX6_reset_16 rfl (lv_at hl 1 rfl) ?_
  obtain ⟨v_3, e_v_3, r_v_3⟩ := f_7_1 hI r_h
  refine t_get (ci := 6) (v := .ref v_3) hB hT (ro_ci r_h rfl) rfl 1 (by decide) k_309 e_v_3 dX6_reset_17 ?_
  refine t_callV (n := 0) (As := []) (rest := []) (ci := 5) hB hT hl.1 (n_wfresh l D cI cZ cS cR N0 (sF g v_1 3 (.int 0)) hI v_3 r_v_3) (ro_ci r_v_3 rfl) rfl k_730 k_59 k_727 k_728 k_729 (by decide +kernel) ⟨(Nat.le_of_ble_eq_true rfl), (Nat.le_of_ble_eq_true rfl)⟩ rfl (Nat.le_of_ble_eq_true rfl) ⟨(Nat.le_of_ble_eq_true rfl), (Nat.le_of_ble_eq_true rfl)⟩ dX6_reset_20 (fun v g_4 H locs hp hT => ?_)
  obtain ⟨rfl, hI, x_6, m_5⟩ := hp
  have hM : Sm md_P_reset g g_4 := hM.tr hE (m_5.mo (fun r k h => mdle_P_reset_n_wfresh h))
  have hE : Ex g g_4 := hE.tr x_6
  have r_7 : g_4.1 h = 7 := (Ex.r x_6 r_h (by decide))
  have r_8 : g_4.1 v_1 = 9 := (Ex.r x_6 r_v_1 (by decide))
  have r_9 : g_4.1 v_3 = 19 := (Ex.r x_6 r_v_3 (by decide))
  have kn_10 : g_4.2.1 h 3 = .ref v_1 := (Sm.v m_5 r_h (by decide) rfl (sF_a e_v_1 (ro_ne r_h r_v_1 (by decide))))
  have kn_11 : g_4.2.1 v_1 3 = .int 0 := (Sm.v m_5 r_v_1 (by decide) rfl sF_eq)
  have kn_12 : g_4.2.1 h 1 = .ref v_3 := (Sm.v m_5 r_h (by decide) rfl e_v_3)
  refine W.eq (g2 := F0 m 23 ls []) rfl ?_
  refine lv_iload_n hx hb dX6_reset_23 rfl (lv_at hl 0 rfl) ?_
  exact t_iret hB hr hT (Nat.le_of_ble_eq_true rfl) (Nat.le_of_ble_eq_true rfl) dX6_reset_24 ⟨v_2, rfl, hI, hE, hM⟩
abbrev md_P_count : Nat → Nat → Bool := mdf []
set_option maxHeartbeats 4000000 in
set_option maxRecDepth 100000 in
theorem P_count (l : Launch) (D : va_G) (cI cZ cS cR : ClassId) (N0 : NT) (g : GS) (hI : Inv g) (h : Nat) (n : Int32) (r_h : g.1 h = 7) : Ty l D cI cZ cS cR N0 yX6_count cX6_count 2 (some .int) 0 0 0 [.ref h, .int n] g (fun v g' => ∃ (r : Int32), v = some (.int r) ∧ Inv g' ∧ Ex g g' ∧ Sm md_P_count g g') := by
  refine t_enter (by decide) (Nat.le_of_ble_eq_true rfl) ?_
  intro p e s m args below meth c ls H locs hB hr hin hl hT
  have hx := hB.1
  have hb := hB.2.1
  have hl : lv_has ls 2 [(0, .ref h), (1, .int n)] := hl
  have hE : Ex g g := Ex.rf
  have hM : Sm md_P_count g g := Sm.rf
  refine lv_iload_n hx hb dX6_count_0 rfl (lv_at hl 1 rfl) ?_
  by_cases ht_1 : (n < 0 ∨ 5 < n)
  · refine lv_tableOut (tgt := 88) hx hb dX6_count_1 (sw_out ht_1) (by decide) ?_
    refine lv_iconst (v := (-1)) hx hb dX6_count_88 (by decide) ?_
    exact t_iret hB hr hT (Nat.le_of_ble_eq_true rfl) (Nat.le_of_ble_eq_true rfl) dX6_count_89 ⟨(-1), rfl, hI, hE, hM⟩
  · obtain ⟨j_2, hj_2, ej_2⟩ := sw_in (n := 6) rfl ht_1
    rcases (show j_2 = 0 ∨ j_2 = 1 ∨ j_2 = 2 ∨ j_2 = 3 ∨ j_2 = 4 ∨ j_2 = 5 by omega) with rfl | rfl | rfl | rfl | rfl | rfl
    · refine x_ev (y := 0) ej_2 ?_
      refine lv_tableIn (off := 39) (tgt := 40) hx hb dX6_count_1 (by decide) (by decide) rfl (by decide) ?_
      refine lv_aload_n hx hb dX6_count_40 rfl (lv_at hl 0 rfl) ?_
      obtain ⟨v_3, e_v_3, r_v_3⟩ := f_7_1 hI r_h
      refine t_get (ci := 6) (v := .ref v_3) hB hT (ro_ci r_h rfl) rfl 1 (by decide) k_309 e_v_3 dX6_count_41 ?_
      obtain ⟨v_4, e_v_4, l_v_4, u_v_4⟩ := f_19_1 hI r_v_3
      refine t_get (ci := 5) (v := .int v_4) hB hT (ro_ci r_v_3 rfl) rfl 1 (by decide) k_203 e_v_4 dX6_count_44 ?_
      exact t_iret hB hr hT (Nat.le_of_ble_eq_true rfl) (Nat.le_of_ble_eq_true rfl) dX6_count_47 ⟨v_4, rfl, hI, hE, hM⟩
    · refine x_ev (y := 1) ej_2 ?_
      refine lv_tableIn (off := 47) (tgt := 48) hx hb dX6_count_1 (by decide) (by decide) rfl (by decide) ?_
      refine lv_aload_n hx hb dX6_count_48 rfl (lv_at hl 0 rfl) ?_
      obtain ⟨v_5, e_v_5, r_v_5⟩ := f_7_2 hI r_h
      refine t_get (ci := 6) (v := .ref v_5) hB hT (ro_ci r_h rfl) rfl 2 (by decide) k_310 e_v_5 dX6_count_49 ?_
      obtain ⟨v_6, e_v_6, l_v_6, u_v_6⟩ := f_1_3 hI r_v_5
      refine t_get (ci := 0) (v := .int v_6) hB hT (ro_ci r_v_5 rfl) rfl 3 (by decide) k_256 e_v_6 dX6_count_52 ?_
      exact t_iret hB hr hT (Nat.le_of_ble_eq_true rfl) (Nat.le_of_ble_eq_true rfl) dX6_count_55 ⟨v_6, rfl, hI, hE, hM⟩
    · refine x_ev (y := 2) ej_2 ?_
      refine lv_tableIn (off := 55) (tgt := 56) hx hb dX6_count_1 (by decide) (by decide) rfl (by decide) ?_
      refine lv_aload_n hx hb dX6_count_56 rfl (lv_at hl 0 rfl) ?_
      obtain ⟨v_7, e_v_7, r_v_7⟩ := f_7_1 hI r_h
      refine t_get (ci := 6) (v := .ref v_7) hB hT (ro_ci r_h rfl) rfl 1 (by decide) k_309 e_v_7 dX6_count_57 ?_
      obtain ⟨v_8, e_v_8⟩ := f_19_4 hI r_v_7
      refine t_get (ci := 5) (v := .int v_8) hB hT (ro_ci r_v_7 rfl) rfl 4 (by decide) k_211 e_v_8 dX6_count_60 ?_
      exact t_iret hB hr hT (Nat.le_of_ble_eq_true rfl) (Nat.le_of_ble_eq_true rfl) dX6_count_63 ⟨v_8, rfl, hI, hE, hM⟩
    · refine x_ev (y := 3) ej_2 ?_
      refine lv_tableIn (off := 63) (tgt := 64) hx hb dX6_count_1 (by decide) (by decide) rfl (by decide) ?_
      refine lv_aload_n hx hb dX6_count_64 rfl (lv_at hl 0 rfl) ?_
      obtain ⟨v_9, e_v_9, r_v_9⟩ := f_7_1 hI r_h
      refine t_get (ci := 6) (v := .ref v_9) hB hT (ro_ci r_h rfl) rfl 1 (by decide) k_309 e_v_9 dX6_count_65 ?_
      obtain ⟨v_10, e_v_10⟩ := f_19_2 hI r_v_9
      refine t_get (ci := 5) (v := .int v_10) hB hT (ro_ci r_v_9 rfl) rfl 2 (by decide) k_206 e_v_10 dX6_count_68 ?_
      exact t_iret hB hr hT (Nat.le_of_ble_eq_true rfl) (Nat.le_of_ble_eq_true rfl) dX6_count_71 ⟨v_10, rfl, hI, hE, hM⟩
    · refine x_ev (y := 4) ej_2 ?_
      refine lv_tableIn (off := 71) (tgt := 72) hx hb dX6_count_1 (by decide) (by decide) rfl (by decide) ?_
      refine lv_aload_n hx hb dX6_count_72 rfl (lv_at hl 0 rfl) ?_
      obtain ⟨v_11, e_v_11, r_v_11⟩ := f_7_3 hI r_h
      refine t_get (ci := 6) (v := .ref v_11) hB hT (ro_ci r_h rfl) rfl 3 (by decide) k_311 e_v_11 dX6_count_73 ?_
      obtain ⟨v_12, e_v_12, l_v_12, u_v_12⟩ := f_9_3 hI r_v_11
      refine t_get (ci := 0) (v := .int v_12) hB hT (ro_ci r_v_11 rfl) rfl 3 (by decide) k_256 e_v_12 dX6_count_76 ?_
      exact t_iret hB hr hT (Nat.le_of_ble_eq_true rfl) (Nat.le_of_ble_eq_true rfl) dX6_count_79 ⟨v_12, rfl, hI, hE, hM⟩
    · refine x_ev (y := 5) ej_2 ?_
      refine lv_tableIn (off := 79) (tgt := 80) hx hb dX6_count_1 (by decide) (by decide) rfl (by decide) ?_
      refine lv_aload_n hx hb dX6_count_80 rfl (lv_at hl 0 rfl) ?_
      obtain ⟨v_13, e_v_13, r_v_13⟩ := f_7_0 hI r_h
      refine t_get (ci := 6) (v := .ref v_13) hB hT (ro_ci r_h rfl) rfl 0 (by decide) k_308 e_v_13 dX6_count_81 ?_
      obtain ⟨v_14, e_v_14, l_v_14, u_v_14⟩ := f_5_1 hI r_v_13
      refine t_get (ci := 4) (v := .int v_14) hB hT (ro_ci r_v_13 rfl) rfl 1 (by decide) k_88 e_v_14 dX6_count_84 ?_
      exact t_iret hB hr hT (Nat.le_of_ble_eq_true rfl) (Nat.le_of_ble_eq_true rfl) dX6_count_87 ⟨v_14, rfl, hI, hE, hM⟩
