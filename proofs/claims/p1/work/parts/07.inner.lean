theorem k_212 : Cond.fieldLink RX1 125 "TwiceOnce$World" "doneInAll" "I" ∈ tb := mt 212 (by decide +kernel) rfl
theorem k_254 : Cond.fieldLink RX1 53 "TwiceOnce$CallList" "size" "I" ∈ tb := mt 254 (by decide +kernel) rfl
theorem k_255 : Cond.fieldLink RX5 55 "TwiceOnce$CallList" "size" "I" ∈ tb := mt 255 (by decide +kernel) rfl
theorem k_582 : Cond.methodLink RX1 49 yX5_copyFrom ∈ tb := mt 582 (by decide +kernel) rfl
theorem k_583 : Cond.instanceMethod yX5_copyFrom ∈ tb := mt 583 (by decide +kernel) rfl
theorem k_584 : Cond.selects RX5 yX5_copyFrom yX5_copyFrom ∈ tb := mt 584 (by decide +kernel) rfl
set_option maxRecDepth 20000 in
theorem k_585 : Cond.code yX5_copyFrom cX5_copyFrom 3 none ∈ tb := mt 585 rfl rfl
theorem k_591 : Cond.instanceMethod yX1_runOnce ∈ tb := mt 591 (by decide +kernel) rfl
theorem k_592 : Cond.selects RX1 yX1_runOnce yX1_runOnce ∈ tb := mt 592 (by decide +kernel) rfl
set_option maxRecDepth 20000 in
theorem k_593 : Cond.code yX1_runOnce cX1_runOnce 3 none ∈ tb := mt 593 rfl rfl
theorem k_603 : Cond.methodLink RX1 74 yX5_hasSameStores ∈ tb := mt 603 (by decide +kernel) rfl
theorem k_604 : Cond.instanceMethod yX5_hasSameStores ∈ tb := mt 604 (by decide +kernel) rfl
theorem k_605 : Cond.selects RX5 yX5_hasSameStores yX5_hasSameStores ∈ tb := mt 605 (by decide +kernel) rfl
set_option maxRecDepth 20000 in
theorem k_606 : Cond.code yX5_hasSameStores cX5_hasSameStores 3 (some .boolean) ∈ tb := mt 606 rfl rfl
theorem k_611 : Cond.methodLink RX1 78 yX5_hasSameCounts ∈ tb := mt 611 (by decide +kernel) rfl
theorem k_612 : Cond.instanceMethod yX5_hasSameCounts ∈ tb := mt 612 (by decide +kernel) rfl
theorem k_613 : Cond.selects RX5 yX5_hasSameCounts yX5_hasSameCounts ∈ tb := mt 613 (by decide +kernel) rfl
set_option maxRecDepth 20000 in
theorem k_614 : Cond.code yX5_hasSameCounts cX5_hasSameCounts 3 (some .boolean) ∈ tb := mt 614 rfl rfl
theorem k_627 : Cond.methodLink RX1 84 yX1_runOnce ∈ tb := mt 627 (by decide +kernel) rfl
theorem k_688 : Cond.constant RJ6 265 1431655765 ∈ tb := mt 688 (by decide +kernel) rfl
theorem k_689 : Cond.constant RJ6 266 858993459 ∈ tb := mt 689 (by decide +kernel) rfl
theorem k_690 : Cond.constant RJ6 267 252645135 ∈ tb := mt 690 (by decide +kernel) rfl
theorem dX6_within_0 : decode cX6_within 0 = .ok (.iload_n 0, 1) := by decide +kernel
theorem dX6_within_1 : decode cX6_within 1 = .ok (.ifCond .lt 12, 3) := by decide +kernel
theorem dX6_within_13 : decode cX6_within 13 = .ok (.iconst 0, 1) := by decide +kernel
theorem dX6_within_14 : decode cX6_within 14 = .ok (.ireturn, 1) := by decide +kernel
theorem dX6_within_4 : decode cX6_within 4 = .ok (.iload_n 0, 1) := by decide +kernel
theorem dX6_within_5 : decode cX6_within 5 = .ok (.iload_n 1, 1) := by decide +kernel
theorem dX6_within_6 : decode cX6_within 6 = .ok (.if_icmp .gt 7, 3) := by decide +kernel
theorem dX6_within_9 : decode cX6_within 9 = .ok (.iconst 1, 1) := by decide +kernel
theorem dX6_within_10 : decode cX6_within 10 = .ok (.goto 4, 3) := by decide +kernel
theorem dX5_has_0 : decode cX5_has 0 = .ok (.iload_n 1, 1) := by decide +kernel
theorem dX5_has_1 : decode cX5_has 1 = .ok (.ifCond .lt 15, 3) := by decide +kernel
theorem dX5_has_16 : decode cX5_has 16 = .ok (.iconst 0, 1) := by decide +kernel
theorem dX5_has_17 : decode cX5_has 17 = .ok (.ireturn, 1) := by decide +kernel
theorem dX5_has_4 : decode cX5_has 4 = .ok (.iload_n 1, 1) := by decide +kernel
theorem dX5_has_5 : decode cX5_has 5 = .ok (.aload_n 0, 1) := by decide +kernel
theorem dX5_has_6 : decode cX5_has 6 = .ok (.getfield 17, 3) := by decide +kernel
theorem dX5_has_9 : decode cX5_has 9 = .ok (.if_icmp .ge 7, 3) := by decide +kernel
theorem dX5_copyFrom_0 : decode cX5_copyFrom 0 = .ok (.aload_n 0, 1) := by decide +kernel
theorem dX5_copyFrom_1 : decode cX5_copyFrom 1 = .ok (.aload_n 1, 1) := by decide +kernel
theorem dX5_copyFrom_2 : decode cX5_copyFrom 2 = .ok (.getfield 17, 3) := by decide +kernel
theorem dX5_copyFrom_5 : decode cX5_copyFrom 5 = .ok (.putfield 17, 3) := by decide +kernel
theorem dX5_copyFrom_8 : decode cX5_copyFrom 8 = .ok (.aload_n 0, 1) := by decide +kernel
theorem dX5_copyFrom_9 : decode cX5_copyFrom 9 = .ok (.aload_n 1, 1) := by decide +kernel
theorem dX5_copyFrom_10 : decode cX5_copyFrom 10 = .ok (.getfield 21, 3) := by decide +kernel
theorem dX5_copyFrom_13 : decode cX5_copyFrom 13 = .ok (.putfield 21, 3) := by decide +kernel
theorem dX5_copyFrom_16 : decode cX5_copyFrom 16 = .ok (.aload_n 0, 1) := by decide +kernel
theorem dX5_copyFrom_17 : decode cX5_copyFrom 17 = .ok (.iconst 0, 1) := by decide +kernel
theorem dX5_copyFrom_18 : decode cX5_copyFrom 18 = .ok (.putfield 28, 3) := by decide +kernel
theorem dX5_copyFrom_21 : decode cX5_copyFrom 21 = .ok (.iconst 0, 1) := by decide +kernel
theorem dX5_copyFrom_22 : decode cX5_copyFrom 22 = .ok (.istore_n 2, 1) := by decide +kernel
theorem dX5_copyFrom_23 : decode cX5_copyFrom 23 = .ok (.iload_n 2, 1) := by decide +kernel
theorem dX5_copyFrom_24 : decode cX5_copyFrom 24 = .ok (.aload_n 0, 1) := by decide +kernel
theorem dX5_copyFrom_25 : decode cX5_copyFrom 25 = .ok (.getfield 17, 3) := by decide +kernel
theorem dX5_copyFrom_28 : decode cX5_copyFrom 28 = .ok (.if_icmp .ge 24, 3) := by decide +kernel
theorem dX5_copyFrom_52 : decode cX5_copyFrom 52 = .ok (.return_, 1) := by decide +kernel
theorem dX5_makeFresh_0 : decode cX5_makeFresh 0 = .ok (.aload_n 0, 1) := by decide +kernel
theorem dX5_makeFresh_1 : decode cX5_makeFresh 1 = .ok (.iconst 0, 1) := by decide +kernel
theorem dX5_makeFresh_2 : decode cX5_makeFresh 2 = .ok (.putfield 21, 3) := by decide +kernel
theorem dX5_makeFresh_5 : decode cX5_makeFresh 5 = .ok (.aload_n 0, 1) := by decide +kernel
theorem dX5_makeFresh_6 : decode cX5_makeFresh 6 = .ok (.iconst 0, 1) := by decide +kernel
theorem dX5_makeFresh_7 : decode cX5_makeFresh 7 = .ok (.putfield 28, 3) := by decide +kernel
theorem dX5_makeFresh_10 : decode cX5_makeFresh 10 = .ok (.iconst 0, 1) := by decide +kernel
theorem dX5_makeFresh_11 : decode cX5_makeFresh 11 = .ok (.istore_n 1, 1) := by decide +kernel
theorem dX5_makeFresh_12 : decode cX5_makeFresh 12 = .ok (.iload_n 1, 1) := by decide +kernel
theorem dX5_makeFresh_13 : decode cX5_makeFresh 13 = .ok (.aload_n 0, 1) := by decide +kernel
theorem dX5_makeFresh_14 : decode cX5_makeFresh 14 = .ok (.getfield 17, 3) := by decide +kernel
theorem dX5_makeFresh_17 : decode cX5_makeFresh 17 = .ok (.if_icmp .ge 18, 3) := by decide +kernel
theorem dX5_makeFresh_35 : decode cX5_makeFresh 35 = .ok (.return_, 1) := by decide +kernel
theorem dX5_holdAll_0 : decode cX5_holdAll 0 = .ok (.iconst 0, 1) := by decide +kernel
theorem dX5_holdAll_1 : decode cX5_holdAll 1 = .ok (.istore_n 2, 1) := by decide +kernel
theorem dX5_holdAll_2 : decode cX5_holdAll 2 = .ok (.iload_n 2, 1) := by decide +kernel
theorem dX5_holdAll_3 : decode cX5_holdAll 3 = .ok (.aload_n 0, 1) := by decide +kernel
theorem dX5_holdAll_4 : decode cX5_holdAll 4 = .ok (.getfield 17, 3) := by decide +kernel
theorem dX5_holdAll_7 : decode cX5_holdAll 7 = .ok (.if_icmp .ge 19, 3) := by decide +kernel
theorem dX5_holdAll_26 : decode cX5_holdAll 26 = .ok (.return_, 1) := by decide +kernel
theorem dX5_addMends_0 : decode cX5_addMends 0 = .ok (.iconst 0, 1) := by decide +kernel
theorem dX5_addMends_1 : decode cX5_addMends 1 = .ok (.istore_n 2, 1) := by decide +kernel
theorem dX5_addMends_2 : decode cX5_addMends 2 = .ok (.iload_n 2, 1) := by decide +kernel
theorem dX5_addMends_3 : decode cX5_addMends 3 = .ok (.aload_n 0, 1) := by decide +kernel
theorem dX5_addMends_4 : decode cX5_addMends 4 = .ok (.getfield 17, 3) := by decide +kernel
theorem dX5_addMends_7 : decode cX5_addMends 7 = .ok (.if_icmp .ge 31, 3) := by decide +kernel
theorem dX5_addMends_38 : decode cX5_addMends 38 = .ok (.return_, 1) := by decide +kernel
theorem dX5_reachOf_0 : decode cX5_reachOf 0 = .ok (.iconst 0, 1) := by decide +kernel
theorem dX5_reachOf_1 : decode cX5_reachOf 1 = .ok (.istore_n 2, 1) := by decide +kernel
theorem dX5_reachOf_2 : decode cX5_reachOf 2 = .ok (.iconst 0, 1) := by decide +kernel
theorem dX5_reachOf_3 : decode cX5_reachOf 3 = .ok (.istore_n 3, 1) := by decide +kernel
theorem dX5_reachOf_4 : decode cX5_reachOf 4 = .ok (.iload_n 3, 1) := by decide +kernel
theorem dX5_reachOf_5 : decode cX5_reachOf 5 = .ok (.aload_n 1, 1) := by decide +kernel
theorem dX5_reachOf_6 : decode cX5_reachOf 6 = .ok (.getfield 55, 3) := by decide +kernel
theorem dX5_reachOf_9 : decode cX5_reachOf 9 = .ok (.if_icmp .ge 20, 3) := by decide +kernel
theorem dX5_reachOf_29 : decode cX5_reachOf 29 = .ok (.iconst 0, 1) := by decide +kernel
theorem dX5_reachOf_30 : decode cX5_reachOf 30 = .ok (.istore_n 3, 1) := by decide +kernel
theorem dX5_reachOf_31 : decode cX5_reachOf 31 = .ok (.iload_n 3, 1) := by decide +kernel
theorem dX5_reachOf_32 : decode cX5_reachOf 32 = .ok (.aload_n 0, 1) := by decide +kernel
theorem dX5_reachOf_33 : decode cX5_reachOf 33 = .ok (.getfield 17, 3) := by decide +kernel
theorem dX5_reachOf_36 : decode cX5_reachOf 36 = .ok (.if_icmp .ge 26, 3) := by decide +kernel
theorem dX5_reachOf_62 : decode cX5_reachOf 62 = .ok (.iload_n 2, 1) := by decide +kernel
theorem dX5_reachOf_63 : decode cX5_reachOf 63 = .ok (.ireturn, 1) := by decide +kernel
theorem dX5_hasSameStores_0 : decode cX5_hasSameStores 0 = .ok (.iconst 0, 1) := by decide +kernel
theorem dX5_hasSameStores_1 : decode cX5_hasSameStores 1 = .ok (.istore_n 2, 1) := by decide +kernel
theorem dX5_hasSameStores_2 : decode cX5_hasSameStores 2 = .ok (.iload_n 2, 1) := by decide +kernel
theorem dX5_hasSameStores_3 : decode cX5_hasSameStores 3 = .ok (.aload_n 0, 1) := by decide +kernel
theorem dX5_hasSameStores_4 : decode cX5_hasSameStores 4 = .ok (.getfield 17, 3) := by decide +kernel
theorem dX5_hasSameStores_7 : decode cX5_hasSameStores 7 = .ok (.if_icmp .ge 29, 3) := by decide +kernel
theorem dX5_hasSameStores_36 : decode cX5_hasSameStores 36 = .ok (.iconst 1, 1) := by decide +kernel
theorem dX5_hasSameStores_37 : decode cX5_hasSameStores 37 = .ok (.ireturn, 1) := by decide +kernel
theorem dX5_hasSameCounts_0 : decode cX5_hasSameCounts 0 = .ok (.iconst 0, 1) := by decide +kernel
theorem dX5_hasSameCounts_1 : decode cX5_hasSameCounts 1 = .ok (.istore_n 2, 1) := by decide +kernel
theorem dX5_hasSameCounts_2 : decode cX5_hasSameCounts 2 = .ok (.iload_n 2, 1) := by decide +kernel
theorem dX5_hasSameCounts_3 : decode cX5_hasSameCounts 3 = .ok (.aload_n 0, 1) := by decide +kernel
theorem dX5_hasSameCounts_4 : decode cX5_hasSameCounts 4 = .ok (.getfield 17, 3) := by decide +kernel
theorem dX5_hasSameCounts_7 : decode cX5_hasSameCounts 7 = .ok (.if_icmp .ge 32, 3) := by decide +kernel
theorem dX5_hasSameCounts_39 : decode cX5_hasSameCounts 39 = .ok (.iconst 1, 1) := by decide +kernel
theorem dX5_hasSameCounts_40 : decode cX5_hasSameCounts 40 = .ok (.ireturn, 1) := by decide +kernel
theorem dX1_beginAt_0 : decode cX1_beginAt 0 = .ok (.aload_n 0, 1) := by decide +kernel
theorem dX1_beginAt_1 : decode cX1_beginAt 1 = .ok (.getfield 12, 3) := by decide +kernel
theorem dX1_beginAt_4 : decode cX1_beginAt 4 = .ok (.aload_n 1, 1) := by decide +kernel
theorem dX1_beginAt_5 : decode cX1_beginAt 5 = .ok (.invokevirtual 49, 3) := by decide +kernel
theorem dX1_beginAt_8 : decode cX1_beginAt 8 = .ok (.return_, 1) := by decide +kernel
theorem dX1_runOnce_0 : decode cX1_runOnce 0 = .ok (.aload_n 0, 1) := by decide +kernel
theorem dX1_runOnce_1 : decode cX1_runOnce 1 = .ok (.getfield 18, 3) := by decide +kernel
theorem dX1_runOnce_4 : decode cX1_runOnce 4 = .ok (.aload_n 0, 1) := by decide +kernel
theorem dX1_runOnce_5 : decode cX1_runOnce 5 = .ok (.getfield 12, 3) := by decide +kernel
theorem dX1_runOnce_8 : decode cX1_runOnce 8 = .ok (.invokevirtual 49, 3) := by decide +kernel
theorem dX1_runOnce_11 : decode cX1_runOnce 11 = .ok (.iconst 0, 1) := by decide +kernel
theorem dX1_runOnce_12 : decode cX1_runOnce 12 = .ok (.istore_n 2, 1) := by decide +kernel
theorem dX1_runOnce_13 : decode cX1_runOnce 13 = .ok (.iload_n 2, 1) := by decide +kernel
theorem dX1_runOnce_14 : decode cX1_runOnce 14 = .ok (.aload_n 1, 1) := by decide +kernel
theorem dX1_runOnce_15 : decode cX1_runOnce 15 = .ok (.getfield 53, 3) := by decide +kernel
theorem dX1_runOnce_18 : decode cX1_runOnce 18 = .ok (.if_icmp .ge 54, 3) := by decide +kernel
theorem dX1_runOnce_72 : decode cX1_runOnce 72 = .ok (.return_, 1) := by decide +kernel
theorem dX1_firstUnsafe_0 : decode cX1_firstUnsafe 0 = .ok (.aload_n 0, 1) := by decide +kernel
theorem dX1_firstUnsafe_1 : decode cX1_firstUnsafe 1 = .ok (.aload_n 1, 1) := by decide +kernel
theorem dX1_firstUnsafe_2 : decode cX1_firstUnsafe 2 = .ok (.invokevirtual 84, 3) := by decide +kernel
theorem dX1_firstUnsafe_5 : decode cX1_firstUnsafe 5 = .ok (.iconst 0, 1) := by decide +kernel
theorem dX1_firstUnsafe_6 : decode cX1_firstUnsafe 6 = .ok (.istore_n 3, 1) := by decide +kernel
theorem dX1_firstUnsafe_7 : decode cX1_firstUnsafe 7 = .ok (.iload_n 3, 1) := by decide +kernel
theorem dX1_firstUnsafe_8 : decode cX1_firstUnsafe 8 = .ok (.aload_n 1, 1) := by decide +kernel
theorem dX1_firstUnsafe_9 : decode cX1_firstUnsafe 9 = .ok (.getfield 53, 3) := by decide +kernel
theorem dX1_firstUnsafe_12 : decode cX1_firstUnsafe 12 = .ok (.if_icmp .ge 92, 3) := by decide +kernel
theorem dX1_firstUnsafe_104 : decode cX1_firstUnsafe 104 = .ok (.iconst (-1), 1) := by decide +kernel
theorem dX1_firstUnsafe_105 : decode cX1_firstUnsafe 105 = .ok (.ireturn, 1) := by decide +kernel
theorem dX1_isStill_0 : decode cX1_isStill 0 = .ok (.aload_n 0, 1) := by decide +kernel
theorem dX1_isStill_1 : decode cX1_isStill 1 = .ok (.getfield 21, 3) := by decide +kernel
theorem dX1_isStill_4 : decode cX1_isStill 4 = .ok (.aload_n 0, 1) := by decide +kernel
theorem dX1_isStill_5 : decode cX1_isStill 5 = .ok (.getfield 12, 3) := by decide +kernel
theorem dX1_isStill_8 : decode cX1_isStill 8 = .ok (.invokevirtual 49, 3) := by decide +kernel
theorem dX1_isStill_11 : decode cX1_isStill 11 = .ok (.iconst 0, 1) := by decide +kernel
theorem dX1_isStill_12 : decode cX1_isStill 12 = .ok (.istore_n 2, 1) := by decide +kernel
theorem dX1_isStill_13 : decode cX1_isStill 13 = .ok (.iload_n 2, 1) := by decide +kernel
theorem dX1_isStill_14 : decode cX1_isStill 14 = .ok (.aload_n 1, 1) := by decide +kernel
theorem dX1_isStill_15 : decode cX1_isStill 15 = .ok (.getfield 53, 3) := by decide +kernel
theorem dX1_isStill_18 : decode cX1_isStill 18 = .ok (.if_icmp .ge 36, 3) := by decide +kernel
theorem dX1_isStill_54 : decode cX1_isStill 54 = .ok (.aload_n 0, 1) := by decide +kernel
theorem dX1_isStill_55 : decode cX1_isStill 55 = .ok (.getfield 21, 3) := by decide +kernel
theorem dX1_isStill_58 : decode cX1_isStill 58 = .ok (.getfield 125, 3) := by decide +kernel
theorem dX1_isStill_61 : decode cX1_isStill 61 = .ok (.ifCond .ne 35, 3) := by decide +kernel
theorem dX1_isStill_64 : decode cX1_isStill 64 = .ok (.aload_n 0, 1) := by decide +kernel
theorem dX1_isStill_65 : decode cX1_isStill 65 = .ok (.getfield 21, 3) := by decide +kernel
theorem dX1_isStill_68 : decode cX1_isStill 68 = .ok (.aload_n 0, 1) := by decide +kernel
theorem dX1_isStill_69 : decode cX1_isStill 69 = .ok (.getfield 12, 3) := by decide +kernel
theorem dX1_isStill_72 : decode cX1_isStill 72 = .ok (.invokevirtual 74, 3) := by decide +kernel
theorem dX1_isStill_75 : decode cX1_isStill 75 = .ok (.ifCond .eq 21, 3) := by decide +kernel
theorem dX1_isStill_78 : decode cX1_isStill 78 = .ok (.aload_n 0, 1) := by decide +kernel
theorem dX1_isStill_79 : decode cX1_isStill 79 = .ok (.getfield 21, 3) := by decide +kernel
theorem dX1_isStill_82 : decode cX1_isStill 82 = .ok (.aload_n 0, 1) := by decide +kernel
theorem dX1_isStill_83 : decode cX1_isStill 83 = .ok (.getfield 12, 3) := by decide +kernel
theorem dX1_isStill_86 : decode cX1_isStill 86 = .ok (.invokevirtual 78, 3) := by decide +kernel
theorem dX1_isStill_89 : decode cX1_isStill 89 = .ok (.ifCond .eq 7, 3) := by decide +kernel
theorem dX1_isStill_92 : decode cX1_isStill 92 = .ok (.iconst 1, 1) := by decide +kernel
theorem dX1_isStill_93 : decode cX1_isStill 93 = .ok (.goto 4, 3) := by decide +kernel
theorem dX1_isStill_97 : decode cX1_isStill 97 = .ok (.ireturn, 1) := by decide +kernel
theorem dJ6_bitCount_0f7a4_0 : decode cJ6_bitCount_0f7a4 0 = .ok (.iload_n 0, 1) := by decide +kernel
theorem dJ6_bitCount_0f7a4_1 : decode cJ6_bitCount_0f7a4 1 = .ok (.iload_n 0, 1) := by decide +kernel
theorem dJ6_bitCount_0f7a4_2 : decode cJ6_bitCount_0f7a4 2 = .ok (.iconst 1, 1) := by decide +kernel
theorem dJ6_bitCount_0f7a4_3 : decode cJ6_bitCount_0f7a4 3 = .ok (.iushr, 1) := by decide +kernel
theorem dJ6_bitCount_0f7a4_4 : decode cJ6_bitCount_0f7a4 4 = .ok (.ldc_w 265, 3) := by decide +kernel
theorem dJ6_bitCount_0f7a4_7 : decode cJ6_bitCount_0f7a4 7 = .ok (.iand, 1) := by decide +kernel
theorem dJ6_bitCount_0f7a4_8 : decode cJ6_bitCount_0f7a4 8 = .ok (.isub, 1) := by decide +kernel
theorem dJ6_bitCount_0f7a4_9 : decode cJ6_bitCount_0f7a4 9 = .ok (.istore_n 0, 1) := by decide +kernel
theorem dJ6_bitCount_0f7a4_10 : decode cJ6_bitCount_0f7a4 10 = .ok (.iload_n 0, 1) := by decide +kernel
theorem dJ6_bitCount_0f7a4_11 : decode cJ6_bitCount_0f7a4 11 = .ok (.ldc_w 266, 3) := by decide +kernel
theorem dJ6_bitCount_0f7a4_14 : decode cJ6_bitCount_0f7a4 14 = .ok (.iand, 1) := by decide +kernel
theorem dJ6_bitCount_0f7a4_15 : decode cJ6_bitCount_0f7a4 15 = .ok (.iload_n 0, 1) := by decide +kernel
theorem dJ6_bitCount_0f7a4_16 : decode cJ6_bitCount_0f7a4 16 = .ok (.iconst 2, 1) := by decide +kernel
theorem dJ6_bitCount_0f7a4_17 : decode cJ6_bitCount_0f7a4 17 = .ok (.iushr, 1) := by decide +kernel
theorem dJ6_bitCount_0f7a4_18 : decode cJ6_bitCount_0f7a4 18 = .ok (.ldc_w 266, 3) := by decide +kernel
theorem dJ6_bitCount_0f7a4_21 : decode cJ6_bitCount_0f7a4 21 = .ok (.iand, 1) := by decide +kernel
theorem dJ6_bitCount_0f7a4_22 : decode cJ6_bitCount_0f7a4 22 = .ok (.iadd, 1) := by decide +kernel
theorem dJ6_bitCount_0f7a4_23 : decode cJ6_bitCount_0f7a4 23 = .ok (.istore_n 0, 1) := by decide +kernel
theorem dJ6_bitCount_0f7a4_24 : decode cJ6_bitCount_0f7a4 24 = .ok (.iload_n 0, 1) := by decide +kernel
theorem dJ6_bitCount_0f7a4_25 : decode cJ6_bitCount_0f7a4 25 = .ok (.iload_n 0, 1) := by decide +kernel
theorem dJ6_bitCount_0f7a4_26 : decode cJ6_bitCount_0f7a4 26 = .ok (.iconst 4, 1) := by decide +kernel
theorem dJ6_bitCount_0f7a4_27 : decode cJ6_bitCount_0f7a4 27 = .ok (.iushr, 1) := by decide +kernel
theorem dJ6_bitCount_0f7a4_28 : decode cJ6_bitCount_0f7a4 28 = .ok (.iadd, 1) := by decide +kernel
theorem dJ6_bitCount_0f7a4_29 : decode cJ6_bitCount_0f7a4 29 = .ok (.ldc_w 267, 3) := by decide +kernel
theorem dJ6_bitCount_0f7a4_32 : decode cJ6_bitCount_0f7a4 32 = .ok (.iand, 1) := by decide +kernel
theorem dJ6_bitCount_0f7a4_33 : decode cJ6_bitCount_0f7a4 33 = .ok (.istore_n 0, 1) := by decide +kernel
theorem dJ6_bitCount_0f7a4_34 : decode cJ6_bitCount_0f7a4 34 = .ok (.iload_n 0, 1) := by decide +kernel
theorem dJ6_bitCount_0f7a4_35 : decode cJ6_bitCount_0f7a4 35 = .ok (.iload_n 0, 1) := by decide +kernel
theorem dJ6_bitCount_0f7a4_36 : decode cJ6_bitCount_0f7a4 36 = .ok (.bipush 8, 2) := by decide +kernel
theorem dJ6_bitCount_0f7a4_38 : decode cJ6_bitCount_0f7a4 38 = .ok (.iushr, 1) := by decide +kernel
theorem dJ6_bitCount_0f7a4_39 : decode cJ6_bitCount_0f7a4 39 = .ok (.iadd, 1) := by decide +kernel
theorem dJ6_bitCount_0f7a4_40 : decode cJ6_bitCount_0f7a4 40 = .ok (.istore_n 0, 1) := by decide +kernel
theorem dJ6_bitCount_0f7a4_41 : decode cJ6_bitCount_0f7a4 41 = .ok (.iload_n 0, 1) := by decide +kernel
theorem dJ6_bitCount_0f7a4_42 : decode cJ6_bitCount_0f7a4 42 = .ok (.iload_n 0, 1) := by decide +kernel
theorem dJ6_bitCount_0f7a4_43 : decode cJ6_bitCount_0f7a4 43 = .ok (.bipush 16, 2) := by decide +kernel
theorem dJ6_bitCount_0f7a4_45 : decode cJ6_bitCount_0f7a4 45 = .ok (.iushr, 1) := by decide +kernel
theorem dJ6_bitCount_0f7a4_46 : decode cJ6_bitCount_0f7a4 46 = .ok (.iadd, 1) := by decide +kernel
theorem dJ6_bitCount_0f7a4_47 : decode cJ6_bitCount_0f7a4 47 = .ok (.istore_n 0, 1) := by decide +kernel
theorem dJ6_bitCount_0f7a4_48 : decode cJ6_bitCount_0f7a4 48 = .ok (.iload_n 0, 1) := by decide +kernel
theorem dJ6_bitCount_0f7a4_49 : decode cJ6_bitCount_0f7a4 49 = .ok (.bipush 63, 2) := by decide +kernel
theorem dJ6_bitCount_0f7a4_51 : decode cJ6_bitCount_0f7a4 51 = .ok (.iand, 1) := by decide +kernel
theorem dJ6_bitCount_0f7a4_52 : decode cJ6_bitCount_0f7a4 52 = .ok (.ireturn, 1) := by decide +kernel
theorem dJ6_numberOfTrailingZeros_0f7a4_0 : decode cJ6_numberOfTrailingZeros_0f7a4 0 = .ok (.iload_n 0, 1) := by decide +kernel
theorem dJ6_numberOfTrailingZeros_0f7a4_1 : decode cJ6_numberOfTrailingZeros_0f7a4 1 = .ok (.iconst (-1), 1) := by decide +kernel
theorem dJ6_numberOfTrailingZeros_0f7a4_2 : decode cJ6_numberOfTrailingZeros_0f7a4 2 = .ok (.ixor, 1) := by decide +kernel
theorem dJ6_numberOfTrailingZeros_0f7a4_3 : decode cJ6_numberOfTrailingZeros_0f7a4 3 = .ok (.iload_n 0, 1) := by decide +kernel
theorem dJ6_numberOfTrailingZeros_0f7a4_4 : decode cJ6_numberOfTrailingZeros_0f7a4 4 = .ok (.iconst 1, 1) := by decide +kernel
theorem dJ6_numberOfTrailingZeros_0f7a4_5 : decode cJ6_numberOfTrailingZeros_0f7a4 5 = .ok (.isub, 1) := by decide +kernel
theorem dJ6_numberOfTrailingZeros_0f7a4_6 : decode cJ6_numberOfTrailingZeros_0f7a4 6 = .ok (.iand, 1) := by decide +kernel
theorem dJ6_numberOfTrailingZeros_0f7a4_7 : decode cJ6_numberOfTrailingZeros_0f7a4 7 = .ok (.istore_n 0, 1) := by decide +kernel
theorem dJ6_numberOfTrailingZeros_0f7a4_8 : decode cJ6_numberOfTrailingZeros_0f7a4 8 = .ok (.iload_n 0, 1) := by decide +kernel
theorem dJ6_numberOfTrailingZeros_0f7a4_9 : decode cJ6_numberOfTrailingZeros_0f7a4 9 = .ok (.ifCond .gt 8, 3) := by decide +kernel
theorem dJ6_numberOfTrailingZeros_0f7a4_12 : decode cJ6_numberOfTrailingZeros_0f7a4 12 = .ok (.iload_n 0, 1) := by decide +kernel
theorem dJ6_numberOfTrailingZeros_0f7a4_13 : decode cJ6_numberOfTrailingZeros_0f7a4 13 = .ok (.bipush 32, 2) := by decide +kernel
theorem dJ6_numberOfTrailingZeros_0f7a4_15 : decode cJ6_numberOfTrailingZeros_0f7a4 15 = .ok (.iand, 1) := by decide +kernel
theorem dJ6_numberOfTrailingZeros_0f7a4_16 : decode cJ6_numberOfTrailingZeros_0f7a4 16 = .ok (.ireturn, 1) := by decide +kernel
theorem dJ6_numberOfLeadingZeros_0f7a4_0 : decode cJ6_numberOfLeadingZeros_0f7a4 0 = .ok (.iload_n 0, 1) := by decide +kernel
theorem dJ6_numberOfLeadingZeros_0f7a4_1 : decode cJ6_numberOfLeadingZeros_0f7a4 1 = .ok (.ifCond .gt 14, 3) := by decide +kernel
theorem dJ6_numberOfLeadingZeros_0f7a4_4 : decode cJ6_numberOfLeadingZeros_0f7a4 4 = .ok (.iload_n 0, 1) := by decide +kernel
theorem dJ6_numberOfLeadingZeros_0f7a4_5 : decode cJ6_numberOfLeadingZeros_0f7a4 5 = .ok (.ifCond .ne 8, 3) := by decide +kernel
theorem dJ6_numberOfLeadingZeros_0f7a4_8 : decode cJ6_numberOfLeadingZeros_0f7a4 8 = .ok (.bipush 32, 2) := by decide +kernel
theorem dJ6_numberOfLeadingZeros_0f7a4_10 : decode cJ6_numberOfLeadingZeros_0f7a4 10 = .ok (.goto 4, 3) := by decide +kernel
theorem dJ6_numberOfLeadingZeros_0f7a4_14 : decode cJ6_numberOfLeadingZeros_0f7a4 14 = .ok (.ireturn, 1) := by decide +kernel
theorem gt_m1 {n : Int32} (h : ¬ n < 0) : (-1 : Int32) < n := by
  rw [Int32.lt_iff_toInt_lt] at h ⊢
  have h0 : (0 : Int32).toInt = 0 := by decide
  have h1 : (-1 : Int32).toInt = -1 := by decide
  omega
theorem ge_0 {n : Int32} (h : ¬ n < 0) : (0 : Int32) ≤ n := Int32.not_lt.mp h
theorem sw_out {x M : Int32} {lo hi : Int} (h : x < 0 ∨ M < x) (hl : (0 : Int32).toInt = lo := by decide) (hh : M.toInt = hi := by decide) : x.toInt < lo ∨ hi < x.toInt := by
  rcases h with h | h
  · exact Or.inl (by rw [← hl]; exact Int32.lt_iff_toInt_lt.mp h)
  · exact Or.inr (by rw [← hh]; exact Int32.lt_iff_toInt_lt.mp h)
theorem sw_in {x M : Int32} {n : Nat} (hM : M.toInt + 1 = n) (h : ¬ (x < 0 ∨ M < x)) : ∃ j : Nat, j < n ∧ x = nI j := by
  have h1 : ¬ x < 0 := fun q => h (Or.inl q)
  have h2 : x ≤ M := Int32.not_lt.mp (fun q => h (Or.inr q))
  obtain ⟨j, hj, rfl⟩ := nI_of h1
  rw [Int32.le_iff_toInt_le, nI_toInt hj] at h2
  exact ⟨j, by omega, rfl⟩
def dn : Nat → Int32
  | 0 => -1
  | k + 1 => nI k
theorem dn_dec (k : Nat) : nI k + Int32.ofInt (-1) = dn k := by
  cases k with
  | zero => decide
  | succ k => exact pk_m1 k
theorem pr_one {j : Nat} (h : j < 4) : ((upd (upd (upd (upd (fun _ => 0) 0 1) 1 1) 2 1) 3 1) : Nat → Int32) (nI j).toNatClampNeg = 1 := by
  rw [nI_clamp (by omega)]
  rcases (show j = 0 ∨ j = 1 ∨ j = 2 ∨ j = 3 by omega) with rfl | rfl | rfl | rfl <;> rfl
set_option maxHeartbeats 4000000 in
set_option maxRecDepth 100000 in
theorem c_within (l : Launch) (D : va_G) (cI cZ cS : ClassId) (N0 : NT) (n : Int32) (b : Int32)  : Mx l D cI cZ cS N0 yX6_within cX6_within 2 (some .boolean) 0 0 0 [.int n, .int b] [] (fun v w => ∃ (r : Int32), v = some (.int r) ∧ w = ([] : va_W) ∧ ((r = 1 ∧ ¬ (n < 0 ∨ b < n)) ∨ (r = 0 ∧ (n < 0 ∨ b < n)))) := by
  refine x_enter (by decide) (Nat.le_of_ble_eq_true rfl) ?_
  intro p e s m args below meth c A ls H locs hB hr hin hl hV hA
  have hx := hB.1
  have hb := hB.2.1
  have hl : lv_has ls 2 [(0, .int n), (1, .int b)] := hl
  refine lv_iload_n hx hb dX6_within_0 rfl (lv_at hl 0 rfl) ?_
  refine lv_if_lt (tgt := 13) hx hb dX6_within_1 (by decide) (fun c1 => ?_) (fun c1 => ?_)
  · refine lv_iconst (v := 0) hx hb dX6_within_13 (by decide) ?_
    exact x_zret (w := []) hB hr rfl hV hA (Nat.le_of_ble_eq_true rfl) (Nat.le_of_ble_eq_true rfl) [] rfl rfl (by decide) dX6_within_14 ⟨0, rfl, rfl, (Or.inr ⟨rfl, Or.inl c1⟩)⟩
  · refine lv_iload_n hx hb dX6_within_4 rfl (lv_at hl 0 rfl) ?_
    refine lv_iload_n hx hb dX6_within_5 rfl (lv_at hl 1 rfl) ?_
    refine lv_icmp_gt (tgt := 13) hx hb dX6_within_6 (by decide) (fun c2 => ?_) (fun c2 => ?_)
    · refine lv_iconst (v := 0) hx hb dX6_within_13 (by decide) ?_
      exact x_zret (w := []) hB hr rfl hV hA (Nat.le_of_ble_eq_true rfl) (Nat.le_of_ble_eq_true rfl) [] rfl rfl (by decide) dX6_within_14 ⟨0, rfl, rfl, (Or.inr ⟨rfl, Or.inr c2⟩)⟩
    · refine lv_iconst (v := 1) hx hb dX6_within_9 (by decide) ?_
      refine lv_goto (tgt := 14) hx hb dX6_within_10 (by decide) ?_
      exact x_zret (w := []) hB hr rfl hV hA (Nat.le_of_ble_eq_true rfl) (Nat.le_of_ble_eq_true rfl) [] rfl rfl (by decide) dX6_within_14 ⟨1, rfl, rfl, (Or.inl ⟨rfl, fun q => q.elim c1 c2⟩)⟩
set_option maxHeartbeats 4000000 in
set_option maxRecDepth 100000 in
theorem c_within_m1 (l : Launch) (D : va_G) (cI cZ cS : ClassId) (N0 : NT) (n : Int32)  : Mx l D cI cZ cS N0 yX6_within cX6_within 2 (some .boolean) 0 0 0 [.int n, .int (-1)] [] (fun v w => v = some (.int 0) ∧ w = ([] : va_W)) := by
  refine x_enter (by decide) (Nat.le_of_ble_eq_true rfl) ?_
  intro p e s m args below meth c A ls H locs hB hr hin hl hV hA
  have hx := hB.1
  have hb := hB.2.1
  have hl : lv_has ls 2 [(0, .int n), (1, .int (-1))] := hl
  refine lv_iload_n hx hb dX6_within_0 rfl (lv_at hl 0 rfl) ?_
  refine lv_if_lt (tgt := 13) hx hb dX6_within_1 (by decide) (fun c1 => ?_) (fun c1 => ?_)
  · refine lv_iconst (v := 0) hx hb dX6_within_13 (by decide) ?_
    exact x_zret (w := []) hB hr rfl hV hA (Nat.le_of_ble_eq_true rfl) (Nat.le_of_ble_eq_true rfl) [] rfl rfl (by decide) dX6_within_14 ⟨rfl, rfl⟩
  · refine lv_iload_n hx hb dX6_within_4 rfl (lv_at hl 0 rfl) ?_
    refine lv_iload_n hx hb dX6_within_5 rfl (lv_at hl 1 rfl) ?_
    refine lv_icmp_gt (tgt := 13) hx hb dX6_within_6 (by decide) (fun c_ => ?_) (fun c_ => absurd (gt_m1 c1) c_)
    refine lv_iconst (v := 0) hx hb dX6_within_13 (by decide) ?_
    exact x_zret (w := []) hB hr rfl hV hA (Nat.le_of_ble_eq_true rfl) (Nat.le_of_ble_eq_true rfl) [] rfl rfl (by decide) dX6_within_14 ⟨rfl, rfl⟩
set_option maxHeartbeats 4000000 in
set_option maxRecDepth 100000 in
theorem c_has (l : Launch) (D : va_G) (cI cZ cS : ClassId) (N0 : NT) (h : Nat) (n1 : Nat) (n2 : Nat) (n : Int32)  : Mx l D cI cZ cS N0 yX5_has cX5_has 2 (some .boolean) 0 0 0 [.ref h, .int n] [(h, .inr (5, [.ref n1, .int 0, .int 0, .ref n2, .int 0, .int 0, .int 0, .int 0]))] (fun v w => v = some (.int 0) ∧ w = ([(h, .inr (5, [.ref n1, .int 0, .int 0, .ref n2, .int 0, .int 0, .int 0, .int 0]))] : va_W)) := by
  refine x_enter (by decide) (Nat.le_of_ble_eq_true rfl) ?_
  intro p e s m args below meth c A ls H locs hB hr hin hl hV hA
  have hx := hB.1
  have hb := hB.2.1
  have hl : lv_has ls 2 [(0, .ref h), (1, .int n)] := hl
  refine lv_iload_n hx hb dX5_has_0 rfl (lv_at hl 1 rfl) ?_
  refine lv_if_lt (tgt := 16) hx hb dX5_has_1 (by decide) (fun c1 => ?_) (fun c1 => ?_)
  · refine lv_iconst (v := 0) hx hb dX5_has_16 (by decide) ?_
    exact x_zret (w := [(h, .inr (5, [.ref n1, .int 0, .int 0, .ref n2, .int 0, .int 0, .int 0, .int 0]))]) hB hr rfl hV hA (Nat.le_of_ble_eq_true rfl) (Nat.le_of_ble_eq_true rfl) [0] rfl rfl (by decide) dX5_has_17 ⟨rfl, rfl⟩
  · refine lv_iload_n hx hb dX5_has_4 rfl (lv_at hl 1 rfl) ?_
    refine lv_aload_n hx hb dX5_has_5 rfl (lv_at hl 0 rfl) ?_
    refine x_get (v := .int 0) hB hV 0 rfl rfl 1 (by decide) k_202 rfl dX5_has_6 ?_
    refine lv_icmp_ge (tgt := 16) hx hb dX5_has_9 (by decide) (fun c_ => ?_) (fun c_ => absurd (ge_0 c1) c_)
    refine lv_iconst (v := 0) hx hb dX5_has_16 (by decide) ?_
    exact x_zret (w := [(h, .inr (5, [.ref n1, .int 0, .int 0, .ref n2, .int 0, .int 0, .int 0, .int 0]))]) hB hr rfl hV hA (Nat.le_of_ble_eq_true rfl) (Nat.le_of_ble_eq_true rfl) [0] rfl rfl (by decide) dX5_has_17 ⟨rfl, rfl⟩
set_option maxHeartbeats 4000000 in
set_option maxRecDepth 100000 in
theorem c_copyFrom (l : Launch) (D : va_G) (cI cZ cS : ClassId) (N0 : NT) (h : Nat) (n1 : Nat) (n2 : Nat) (o : Nat) (o1 : Nat) (o2 : Nat)  : Mx l D cI cZ cS N0 yX5_copyFrom cX5_copyFrom 3 none 1 0 0 [.ref h, .ref o] [(h, .inr (5, [.ref n1, .int 0, .int 0, .ref n2, .int 0, .int 0, .int 0, .int 0])), (o, .inr (5, [.ref o1, .int 0, .int 0, .ref o2, .int 0, .int 0, .int 0, .int 0]))] (fun v w => v = none ∧ w = ([(h, .inr (5, [.ref n1, .int 0, .int 0, .ref n2, .int 0, .int 0, .int 0, .int 0])), (o, .inr (5, [.ref o1, .int 0, .int 0, .ref o2, .int 0, .int 0, .int 0, .int 0]))] : va_W)) := by
  refine x_enter (by decide) (Nat.le_of_ble_eq_true rfl) ?_
  intro p e s m args below meth c A ls H locs hB hr hin hl hV hA
  have hx := hB.1
  have hb := hB.2.1
  have hl : lv_has ls 3 [(0, .ref h), (1, .ref o)] := hl
  refine lv_aload_n hx hb dX5_copyFrom_0 rfl (lv_at hl 0 rfl) ?_
  refine lv_aload_n hx hb dX5_copyFrom_1 rfl (lv_at hl 1 rfl) ?_
  refine x_get (v := .int 0) hB hV 1 rfl rfl 1 (by decide) k_202 rfl dX5_copyFrom_2 ?_
  refine x_put (v := .int 0) hB hV 0 rfl rfl 1 (by decide) k_202 rfl rfl rfl (Nat.le_of_ble_eq_true rfl) dX5_copyFrom_5 (fun H locs hV => ?_)
  have hV : Vx D A s.heap H locs [(h, .inr (5, [.ref n1, .int 0, .int 0, .ref n2, .int 0, .int 0, .int 0, .int 0])), (o, .inr (5, [.ref o1, .int 0, .int 0, .ref o2, .int 0, .int 0, .int 0, .int 0]))] := hV
  refine lv_aload_n hx hb dX5_copyFrom_8 rfl (lv_at hl 0 rfl) ?_
  refine lv_aload_n hx hb dX5_copyFrom_9 rfl (lv_at hl 1 rfl) ?_
  refine x_get (v := .int 0) hB hV 1 rfl rfl 2 (by decide) k_205 rfl dX5_copyFrom_10 ?_
  refine x_put (v := .int 0) hB hV 0 rfl rfl 2 (by decide) k_205 rfl rfl rfl (Nat.le_of_ble_eq_true rfl) dX5_copyFrom_13 (fun H locs hV => ?_)
  have hV : Vx D A s.heap H locs [(h, .inr (5, [.ref n1, .int 0, .int 0, .ref n2, .int 0, .int 0, .int 0, .int 0])), (o, .inr (5, [.ref o1, .int 0, .int 0, .ref o2, .int 0, .int 0, .int 0, .int 0]))] := hV
  refine lv_aload_n hx hb dX5_copyFrom_16 rfl (lv_at hl 0 rfl) ?_
  refine lv_iconst (v := 0) hx hb dX5_copyFrom_17 (by decide) ?_
  refine x_put (v := .int 0) hB hV 0 rfl rfl 4 (by decide) k_210 rfl rfl rfl (Nat.le_of_ble_eq_true rfl) dX5_copyFrom_18 (fun H locs hV => ?_)
  have hV : Vx D A s.heap H locs [(h, .inr (5, [.ref n1, .int 0, .int 0, .ref n2, .int 0, .int 0, .int 0, .int 0])), (o, .inr (5, [.ref o1, .int 0, .int 0, .ref o2, .int 0, .int 0, .int 0, .int 0]))] := hV
  refine lv_iconst (v := 0) hx hb dX5_copyFrom_21 (by decide) ?_
  refine lv_istore_n (lv' := [(2, .int 0), (0, .ref h), (1, .ref o)]) hx hb dX5_copyFrom_22 rfl hl (by decide) rfl (fun ls hl => ?_)
  refine lv_iload_n hx hb dX5_copyFrom_23 rfl (lv_at hl 0 rfl) ?_
  refine lv_aload_n hx hb dX5_copyFrom_24 rfl (lv_at hl 1 rfl) ?_
  refine x_get (v := .int 0) hB hV 0 rfl rfl 1 (by decide) k_202 rfl dX5_copyFrom_25 ?_
  refine lv_icmp_ge (tgt := 52) hx hb dX5_copyFrom_28 (by decide) (fun c_ => ?_) (fun c_ => absurd (by decide) c_)
  exact x_vret (w := [(h, .inr (5, [.ref n1, .int 0, .int 0, .ref n2, .int 0, .int 0, .int 0, .int 0])), (o, .inr (5, [.ref o1, .int 0, .int 0, .ref o2, .int 0, .int 0, .int 0, .int 0]))]) hB hr hV hA (Nat.le_of_ble_eq_true rfl) (Nat.le_of_ble_eq_true rfl) [0, 1] rfl rfl (by decide) dX5_copyFrom_52 ⟨rfl, rfl⟩
set_option maxHeartbeats 4000000 in
set_option maxRecDepth 100000 in
theorem c_makeFresh (l : Launch) (D : va_G) (cI cZ cS : ClassId) (N0 : NT) (h : Nat) (n1 : Nat) (n2 : Nat)  : Mx l D cI cZ cS N0 yX5_makeFresh cX5_makeFresh 2 none 1 0 0 [.ref h] [(h, .inr (5, [.ref n1, .int 0, .int 0, .ref n2, .int 0, .int 0, .int 0, .int 0]))] (fun v w => v = none ∧ w = ([(h, .inr (5, [.ref n1, .int 0, .int 0, .ref n2, .int 0, .int 0, .int 0, .int 0]))] : va_W)) := by
  refine x_enter (by decide) (Nat.le_of_ble_eq_true rfl) ?_
  intro p e s m args below meth c A ls H locs hB hr hin hl hV hA
  have hx := hB.1
  have hb := hB.2.1
  have hl : lv_has ls 2 [(0, .ref h)] := hl
  refine lv_aload_n hx hb dX5_makeFresh_0 rfl (lv_at hl 0 rfl) ?_
  refine lv_iconst (v := 0) hx hb dX5_makeFresh_1 (by decide) ?_
  refine x_put (v := .int 0) hB hV 0 rfl rfl 2 (by decide) k_205 rfl rfl rfl (Nat.le_of_ble_eq_true rfl) dX5_makeFresh_2 (fun H locs hV => ?_)
  have hV : Vx D A s.heap H locs [(h, .inr (5, [.ref n1, .int 0, .int 0, .ref n2, .int 0, .int 0, .int 0, .int 0]))] := hV
  refine lv_aload_n hx hb dX5_makeFresh_5 rfl (lv_at hl 0 rfl) ?_
  refine lv_iconst (v := 0) hx hb dX5_makeFresh_6 (by decide) ?_
  refine x_put (v := .int 0) hB hV 0 rfl rfl 4 (by decide) k_210 rfl rfl rfl (Nat.le_of_ble_eq_true rfl) dX5_makeFresh_7 (fun H locs hV => ?_)
  have hV : Vx D A s.heap H locs [(h, .inr (5, [.ref n1, .int 0, .int 0, .ref n2, .int 0, .int 0, .int 0, .int 0]))] := hV
  refine lv_iconst (v := 0) hx hb dX5_makeFresh_10 (by decide) ?_
  refine lv_istore_n (lv' := [(1, .int 0), (0, .ref h)]) hx hb dX5_makeFresh_11 rfl hl (by decide) rfl (fun ls hl => ?_)
  refine lv_iload_n hx hb dX5_makeFresh_12 rfl (lv_at hl 0 rfl) ?_
  refine lv_aload_n hx hb dX5_makeFresh_13 rfl (lv_at hl 1 rfl) ?_
  refine x_get (v := .int 0) hB hV 0 rfl rfl 1 (by decide) k_202 rfl dX5_makeFresh_14 ?_
  refine lv_icmp_ge (tgt := 35) hx hb dX5_makeFresh_17 (by decide) (fun c_ => ?_) (fun c_ => absurd (by decide) c_)
  exact x_vret (w := [(h, .inr (5, [.ref n1, .int 0, .int 0, .ref n2, .int 0, .int 0, .int 0, .int 0]))]) hB hr hV hA (Nat.le_of_ble_eq_true rfl) (Nat.le_of_ble_eq_true rfl) [0] rfl rfl (by decide) dX5_makeFresh_35 ⟨rfl, rfl⟩
set_option maxHeartbeats 4000000 in
set_option maxRecDepth 100000 in
theorem c_holdAll (l : Launch) (D : va_G) (cI cZ cS : ClassId) (N0 : NT) (h : Nat) (n1 : Nat) (n2 : Nat) (t : Int32)  : Mx l D cI cZ cS N0 yX5_holdAll cX5_holdAll 3 none 1 0 0 [.ref h, .int t] [(h, .inr (5, [.ref n1, .int 0, .int 0, .ref n2, .int 0, .int 0, .int 0, .int 0]))] (fun v w => v = none ∧ w = ([(h, .inr (5, [.ref n1, .int 0, .int 0, .ref n2, .int 0, .int 0, .int 0, .int 0]))] : va_W)) := by
  refine x_enter (by decide) (Nat.le_of_ble_eq_true rfl) ?_
  intro p e s m args below meth c A ls H locs hB hr hin hl hV hA
  have hx := hB.1
  have hb := hB.2.1
  have hl : lv_has ls 3 [(0, .ref h), (1, .int t)] := hl
  refine lv_iconst (v := 0) hx hb dX5_holdAll_0 (by decide) ?_
  refine lv_istore_n (lv' := [(2, .int 0), (0, .ref h), (1, .int t)]) hx hb dX5_holdAll_1 rfl hl (by decide) rfl (fun ls hl => ?_)
  refine lv_iload_n hx hb dX5_holdAll_2 rfl (lv_at hl 0 rfl) ?_
  refine lv_aload_n hx hb dX5_holdAll_3 rfl (lv_at hl 1 rfl) ?_
  refine x_get (v := .int 0) hB hV 0 rfl rfl 1 (by decide) k_202 rfl dX5_holdAll_4 ?_
  refine lv_icmp_ge (tgt := 26) hx hb dX5_holdAll_7 (by decide) (fun c_ => ?_) (fun c_ => absurd (by decide) c_)
  exact x_vret (w := [(h, .inr (5, [.ref n1, .int 0, .int 0, .ref n2, .int 0, .int 0, .int 0, .int 0]))]) hB hr hV hA (Nat.le_of_ble_eq_true rfl) (Nat.le_of_ble_eq_true rfl) [0] rfl rfl (by decide) dX5_holdAll_26 ⟨rfl, rfl⟩
set_option maxHeartbeats 4000000 in
set_option maxRecDepth 100000 in
theorem c_addMends (l : Launch) (D : va_G) (cI cZ cS : ClassId) (N0 : NT) (h : Nat) (n1 : Nat) (n2 : Nat) (t : Int32)  : Mx l D cI cZ cS N0 yX5_addMends cX5_addMends 3 none 1 0 0 [.ref h, .int t] [(h, .inr (5, [.ref n1, .int 0, .int 0, .ref n2, .int 0, .int 0, .int 0, .int 0]))] (fun v w => v = none ∧ w = ([(h, .inr (5, [.ref n1, .int 0, .int 0, .ref n2, .int 0, .int 0, .int 0, .int 0]))] : va_W)) := by
  refine x_enter (by decide) (Nat.le_of_ble_eq_true rfl) ?_
  intro p e s m args below meth c A ls H locs hB hr hin hl hV hA
  have hx := hB.1
  have hb := hB.2.1
  have hl : lv_has ls 3 [(0, .ref h), (1, .int t)] := hl
  refine lv_iconst (v := 0) hx hb dX5_addMends_0 (by decide) ?_
  refine lv_istore_n (lv' := [(2, .int 0), (0, .ref h), (1, .int t)]) hx hb dX5_addMends_1 rfl hl (by decide) rfl (fun ls hl => ?_)
  refine lv_iload_n hx hb dX5_addMends_2 rfl (lv_at hl 0 rfl) ?_
  refine lv_aload_n hx hb dX5_addMends_3 rfl (lv_at hl 1 rfl) ?_
  refine x_get (v := .int 0) hB hV 0 rfl rfl 1 (by decide) k_202 rfl dX5_addMends_4 ?_
  refine lv_icmp_ge (tgt := 38) hx hb dX5_addMends_7 (by decide) (fun c_ => ?_) (fun c_ => absurd (by decide) c_)
  exact x_vret (w := [(h, .inr (5, [.ref n1, .int 0, .int 0, .ref n2, .int 0, .int 0, .int 0, .int 0]))]) hB hr hV hA (Nat.le_of_ble_eq_true rfl) (Nat.le_of_ble_eq_true rfl) [0] rfl rfl (by decide) dX5_addMends_38 ⟨rfl, rfl⟩
set_option maxHeartbeats 4000000 in
set_option maxRecDepth 100000 in
theorem c_reachOf (l : Launch) (D : va_G) (cI cZ cS : ClassId) (N0 : NT) (h : Nat) (n1 : Nat) (n2 : Nat) (r : Nat) (r1 : Nat) (r2 : Nat) (r3 : Nat)  : Mx l D cI cZ cS N0 yX5_reachOf cX5_reachOf 4 (some .int) 1 0 0 [.ref h, .ref r] [(h, .inr (5, [.ref n1, .int 0, .int 0, .ref n2, .int 0, .int 0, .int 0, .int 0])), (r, .inr (0, [.ref r1, .ref r2, .ref r3, .int 0]))] (fun v w => v = some (.int 0) ∧ w = ([(h, .inr (5, [.ref n1, .int 0, .int 0, .ref n2, .int 0, .int 0, .int 0, .int 0])), (r, .inr (0, [.ref r1, .ref r2, .ref r3, .int 0]))] : va_W)) := by
  refine x_enter (by decide) (Nat.le_of_ble_eq_true rfl) ?_
  intro p e s m args below meth c A ls H locs hB hr hin hl hV hA
  have hx := hB.1
  have hb := hB.2.1
  have hl : lv_has ls 4 [(0, .ref h), (1, .ref r)] := hl
  refine lv_iconst (v := 0) hx hb dX5_reachOf_0 (by decide) ?_
  refine lv_istore_n (lv' := [(2, .int 0), (0, .ref h), (1, .ref r)]) hx hb dX5_reachOf_1 rfl hl (by decide) rfl (fun ls hl => ?_)
  refine lv_iconst (v := 0) hx hb dX5_reachOf_2 (by decide) ?_
  refine lv_istore_n (lv' := [(3, .int 0), (2, .int 0), (0, .ref h), (1, .ref r)]) hx hb dX5_reachOf_3 rfl hl (by decide) rfl (fun ls hl => ?_)
  refine lv_iload_n hx hb dX5_reachOf_4 rfl (lv_at hl 0 rfl) ?_
  refine lv_aload_n hx hb dX5_reachOf_5 rfl (lv_at hl 3 rfl) ?_
  refine x_get (v := .int 0) hB hV 1 rfl rfl 3 (by decide) k_255 rfl dX5_reachOf_6 ?_
  refine lv_icmp_ge (tgt := 29) hx hb dX5_reachOf_9 (by decide) (fun c_ => ?_) (fun c_ => absurd (by decide) c_)
  refine lv_iconst (v := 0) hx hb dX5_reachOf_29 (by decide) ?_
  refine lv_istore_n (lv' := [(3, .int 0), (2, .int 0), (0, .ref h), (1, .ref r)]) hx hb dX5_reachOf_30 rfl hl (by decide) rfl (fun ls hl => ?_)
  refine lv_iload_n hx hb dX5_reachOf_31 rfl (lv_at hl 0 rfl) ?_
  refine lv_aload_n hx hb dX5_reachOf_32 rfl (lv_at hl 2 rfl) ?_
  refine x_get (v := .int 0) hB hV 0 rfl rfl 1 (by decide) k_202 rfl dX5_reachOf_33 ?_
  refine lv_icmp_ge (tgt := 62) hx hb dX5_reachOf_36 (by decide) (fun c_ => ?_) (fun c_ => absurd (by decide) c_)
  refine lv_iload_n hx hb dX5_reachOf_62 rfl (lv_at hl 1 rfl) ?_
  exact x_iret (w := [(h, .inr (5, [.ref n1, .int 0, .int 0, .ref n2, .int 0, .int 0, .int 0, .int 0])), (r, .inr (0, [.ref r1, .ref r2, .ref r3, .int 0]))]) hB hr hV hA (Nat.le_of_ble_eq_true rfl) (Nat.le_of_ble_eq_true rfl) [0, 1] rfl rfl (by decide) dX5_reachOf_63 ⟨rfl, rfl⟩
set_option maxHeartbeats 4000000 in
set_option maxRecDepth 100000 in
theorem c_sameStores (l : Launch) (D : va_G) (cI cZ cS : ClassId) (N0 : NT) (h : Nat) (n1 : Nat) (n2 : Nat) (o : Nat) (o1 : Nat) (o2 : Nat)  : Mx l D cI cZ cS N0 yX5_hasSameStores cX5_hasSameStores 3 (some .boolean) 1 0 0 [.ref h, .ref o] [(h, .inr (5, [.ref n1, .int 0, .int 0, .ref n2, .int 0, .int 0, .int 0, .int 0])), (o, .inr (5, [.ref o1, .int 0, .int 0, .ref o2, .int 0, .int 0, .int 0, .int 0]))] (fun v w => v = some (.int 1) ∧ w = ([(h, .inr (5, [.ref n1, .int 0, .int 0, .ref n2, .int 0, .int 0, .int 0, .int 0])), (o, .inr (5, [.ref o1, .int 0, .int 0, .ref o2, .int 0, .int 0, .int 0, .int 0]))] : va_W)) := by
  refine x_enter (by decide) (Nat.le_of_ble_eq_true rfl) ?_
  intro p e s m args below meth c A ls H locs hB hr hin hl hV hA
  have hx := hB.1
  have hb := hB.2.1
  have hl : lv_has ls 3 [(0, .ref h), (1, .ref o)] := hl
  refine lv_iconst (v := 0) hx hb dX5_hasSameStores_0 (by decide) ?_
  refine lv_istore_n (lv' := [(2, .int 0), (0, .ref h), (1, .ref o)]) hx hb dX5_hasSameStores_1 rfl hl (by decide) rfl (fun ls hl => ?_)
  refine lv_iload_n hx hb dX5_hasSameStores_2 rfl (lv_at hl 0 rfl) ?_
  refine lv_aload_n hx hb dX5_hasSameStores_3 rfl (lv_at hl 1 rfl) ?_
  refine x_get (v := .int 0) hB hV 0 rfl rfl 1 (by decide) k_202 rfl dX5_hasSameStores_4 ?_
  refine lv_icmp_ge (tgt := 36) hx hb dX5_hasSameStores_7 (by decide) (fun c_ => ?_) (fun c_ => absurd (by decide) c_)
  refine lv_iconst (v := 1) hx hb dX5_hasSameStores_36 (by decide) ?_
  exact x_zret (w := [(h, .inr (5, [.ref n1, .int 0, .int 0, .ref n2, .int 0, .int 0, .int 0, .int 0])), (o, .inr (5, [.ref o1, .int 0, .int 0, .ref o2, .int 0, .int 0, .int 0, .int 0]))]) hB hr rfl hV hA (Nat.le_of_ble_eq_true rfl) (Nat.le_of_ble_eq_true rfl) [0, 1] rfl rfl (by decide) dX5_hasSameStores_37 ⟨rfl, rfl⟩
set_option maxHeartbeats 4000000 in
set_option maxRecDepth 100000 in
theorem c_sameCounts (l : Launch) (D : va_G) (cI cZ cS : ClassId) (N0 : NT) (h : Nat) (n1 : Nat) (n2 : Nat) (o : Nat) (o1 : Nat) (o2 : Nat)  : Mx l D cI cZ cS N0 yX5_hasSameCounts cX5_hasSameCounts 3 (some .boolean) 1 0 0 [.ref h, .ref o] [(h, .inr (5, [.ref n1, .int 0, .int 0, .ref n2, .int 0, .int 0, .int 0, .int 0])), (o, .inr (5, [.ref o1, .int 0, .int 0, .ref o2, .int 0, .int 0, .int 0, .int 0]))] (fun v w => v = some (.int 1) ∧ w = ([(h, .inr (5, [.ref n1, .int 0, .int 0, .ref n2, .int 0, .int 0, .int 0, .int 0])), (o, .inr (5, [.ref o1, .int 0, .int 0, .ref o2, .int 0, .int 0, .int 0, .int 0]))] : va_W)) := by
  refine x_enter (by decide) (Nat.le_of_ble_eq_true rfl) ?_
  intro p e s m args below meth c A ls H locs hB hr hin hl hV hA
  have hx := hB.1
  have hb := hB.2.1
  have hl : lv_has ls 3 [(0, .ref h), (1, .ref o)] := hl
  refine lv_iconst (v := 0) hx hb dX5_hasSameCounts_0 (by decide) ?_
  refine lv_istore_n (lv' := [(2, .int 0), (0, .ref h), (1, .ref o)]) hx hb dX5_hasSameCounts_1 rfl hl (by decide) rfl (fun ls hl => ?_)
  refine lv_iload_n hx hb dX5_hasSameCounts_2 rfl (lv_at hl 0 rfl) ?_
  refine lv_aload_n hx hb dX5_hasSameCounts_3 rfl (lv_at hl 1 rfl) ?_
  refine x_get (v := .int 0) hB hV 0 rfl rfl 1 (by decide) k_202 rfl dX5_hasSameCounts_4 ?_
  refine lv_icmp_ge (tgt := 39) hx hb dX5_hasSameCounts_7 (by decide) (fun c_ => ?_) (fun c_ => absurd (by decide) c_)
  refine lv_iconst (v := 1) hx hb dX5_hasSameCounts_39 (by decide) ?_
  exact x_zret (w := [(h, .inr (5, [.ref n1, .int 0, .int 0, .ref n2, .int 0, .int 0, .int 0, .int 0])), (o, .inr (5, [.ref o1, .int 0, .int 0, .ref o2, .int 0, .int 0, .int 0, .int 0]))]) hB hr rfl hV hA (Nat.le_of_ble_eq_true rfl) (Nat.le_of_ble_eq_true rfl) [0, 1] rfl rfl (by decide) dX5_hasSameCounts_40 ⟨rfl, rfl⟩
set_option maxHeartbeats 4000000 in
set_option maxRecDepth 100000 in
theorem c_beginAt (l : Launch) (D : va_G) (cI cZ cS : ClassId) (N0 : NT) (j : Nat) (s1 : Nat) (s2 : Nat) (s3 : Nat) (s4 : Nat) (s5 : Nat) (s6 : Nat) (s7 : Nat) (s8 : Nat) (s9 : Nat) (b1 : Nat) (b2 : Nat) (b3 : Nat) (b4 : Nat) (b5 : Nat) (b6 : Nat) (nw : Nat) (n1 : Nat) (n2 : Nat)  : Mx l D cI cZ cS N0 yX1_beginAt cX1_beginAt 2 none 2 0 0 [.ref j, .ref nw] [(j, .inr (1, [.ref s1, .ref s2, .ref s3, .ref b1, .ref b2, .ref b3, .int 0, .ref b4, .ref b5, .ref b6])), (s1, .inr (5, [.ref s4, .int 0, .int 0, .ref s5, .int 0, .int 0, .int 0, .int 0])), (nw, .inr (5, [.ref n1, .int 0, .int 0, .ref n2, .int 0, .int 0, .int 0, .int 0]))] (fun v w => v = none ∧ w = ([(j, .inr (1, [.ref s1, .ref s2, .ref s3, .ref b1, .ref b2, .ref b3, .int 0, .ref b4, .ref b5, .ref b6])), (s1, .inr (5, [.ref s4, .int 0, .int 0, .ref s5, .int 0, .int 0, .int 0, .int 0])), (nw, .inr (5, [.ref n1, .int 0, .int 0, .ref n2, .int 0, .int 0, .int 0, .int 0]))] : va_W)) := by
  refine x_enter (by decide) (Nat.le_of_ble_eq_true rfl) ?_
  intro p e s m args below meth c A ls H locs hB hr hin hl hV hA
  have hx := hB.1
  have hb := hB.2.1
  have hl : lv_has ls 2 [(0, .ref j), (1, .ref nw)] := hl
  refine lv_aload_n hx hb dX1_beginAt_0 rfl (lv_at hl 0 rfl) ?_
  refine x_get (v := .ref s1) hB hV 0 rfl rfl 0 (by decide) k_276 rfl dX1_beginAt_1 ?_
  refine lv_aload_n hx hb dX1_beginAt_4 rfl (lv_at hl 1 rfl) ?_
  refine x_callV (n := 1) (wr := [(j, .inr (1, [.ref s1, .ref s2, .ref s3, .ref b1, .ref b2, .ref b3, .int 0, .ref b4, .ref b5, .ref b6]))]) (q0 := 1) (As := [.ref nw]) (rest := []) hB hV (x_N hB) hl.1 (c_copyFrom l D cI cZ cS N0 s1 s4 s5 nw n1 n2 ) rfl rfl k_585 k_59 k_582 k_583 k_584 (by decide +kernel) ⟨(Nat.le_of_ble_eq_true rfl), (Nat.le_of_ble_eq_true rfl)⟩ rfl (Nat.le_of_ble_eq_true rfl) ⟨(Nat.le_of_ble_eq_true rfl), (Nat.le_of_ble_eq_true rfl)⟩ [1, 2] [0] rfl rfl rfl ⟨by decide, by decide, by decide⟩ dX1_beginAt_5 (fun v w H locs hp hV => ?_)
  obtain ⟨rfl, rfl⟩ := hp
  have hV : Vx D A s.heap H locs [(j, .inr (1, [.ref s1, .ref s2, .ref s3, .ref b1, .ref b2, .ref b3, .int 0, .ref b4, .ref b5, .ref b6])), (s1, .inr (5, [.ref s4, .int 0, .int 0, .ref s5, .int 0, .int 0, .int 0, .int 0])), (nw, .inr (5, [.ref n1, .int 0, .int 0, .ref n2, .int 0, .int 0, .int 0, .int 0]))] := hV
  refine W.eq (g2 := F0 m 8 ls []) rfl ?_
  exact x_vret (w := [(j, .inr (1, [.ref s1, .ref s2, .ref s3, .ref b1, .ref b2, .ref b3, .int 0, .ref b4, .ref b5, .ref b6])), (s1, .inr (5, [.ref s4, .int 0, .int 0, .ref s5, .int 0, .int 0, .int 0, .int 0])), (nw, .inr (5, [.ref n1, .int 0, .int 0, .ref n2, .int 0, .int 0, .int 0, .int 0]))]) hB hr hV hA (Nat.le_of_ble_eq_true rfl) (Nat.le_of_ble_eq_true rfl) [0, 1, 2] rfl rfl (by decide) dX1_beginAt_8 ⟨rfl, rfl⟩
set_option maxHeartbeats 4000000 in
set_option maxRecDepth 100000 in
theorem c_runOnce (l : Launch) (D : va_G) (cI cZ cS : ClassId) (N0 : NT) (j : Nat) (s1 : Nat) (s2 : Nat) (s3 : Nat) (s4 : Nat) (s5 : Nat) (s6 : Nat) (s7 : Nat) (s8 : Nat) (s9 : Nat) (b1 : Nat) (b2 : Nat) (b3 : Nat) (b4 : Nat) (b5 : Nat) (b6 : Nat) (r : Nat) (r1 : Nat) (r2 : Nat) (r3 : Nat)  : Mx l D cI cZ cS N0 yX1_runOnce cX1_runOnce 3 none 2 0 0 [.ref j, .ref r] [(j, .inr (1, [.ref s1, .ref s2, .ref s3, .ref b1, .ref b2, .ref b3, .int 0, .ref b4, .ref b5, .ref b6])), (s1, .inr (5, [.ref s4, .int 0, .int 0, .ref s5, .int 0, .int 0, .int 0, .int 0])), (s2, .inr (5, [.ref s6, .int 0, .int 0, .ref s7, .int 0, .int 0, .int 0, .int 0])), (s3, .inr (5, [.ref s8, .int 0, .int 0, .ref s9, .int 0, .int 0, .int 0, .int 0])), (r, .inr (0, [.ref r1, .ref r2, .ref r3, .int 0]))] (fun v w => v = none ∧ w = ([(j, .inr (1, [.ref s1, .ref s2, .ref s3, .ref b1, .ref b2, .ref b3, .int 0, .ref b4, .ref b5, .ref b6])), (s1, .inr (5, [.ref s4, .int 0, .int 0, .ref s5, .int 0, .int 0, .int 0, .int 0])), (s2, .inr (5, [.ref s6, .int 0, .int 0, .ref s7, .int 0, .int 0, .int 0, .int 0])), (s3, .inr (5, [.ref s8, .int 0, .int 0, .ref s9, .int 0, .int 0, .int 0, .int 0])), (r, .inr (0, [.ref r1, .ref r2, .ref r3, .int 0]))] : va_W)) := by
  refine x_enter (by decide) (Nat.le_of_ble_eq_true rfl) ?_
  intro p e s m args below meth c A ls H locs hB hr hin hl hV hA
  have hx := hB.1
  have hb := hB.2.1
  have hl : lv_has ls 3 [(0, .ref j), (1, .ref r)] := hl
  refine lv_aload_n hx hb dX1_runOnce_0 rfl (lv_at hl 0 rfl) ?_
  refine x_get (v := .ref s2) hB hV 0 rfl rfl 1 (by decide) k_278 rfl dX1_runOnce_1 ?_
  refine lv_aload_n hx hb dX1_runOnce_4 rfl (lv_at hl 0 rfl) ?_
  refine x_get (v := .ref s1) hB hV 0 rfl rfl 0 (by decide) k_276 rfl dX1_runOnce_5 ?_
  refine x_callV (n := 1) (wr := [(j, .inr (1, [.ref s1, .ref s2, .ref s3, .ref b1, .ref b2, .ref b3, .int 0, .ref b4, .ref b5, .ref b6])), (s3, .inr (5, [.ref s8, .int 0, .int 0, .ref s9, .int 0, .int 0, .int 0, .int 0])), (r, .inr (0, [.ref r1, .ref r2, .ref r3, .int 0]))]) (q0 := 2) (As := [.ref s1]) (rest := []) hB hV (x_N hB) hl.1 (c_copyFrom l D cI cZ cS N0 s2 s6 s7 s1 s4 s5 ) rfl rfl k_585 k_59 k_582 k_583 k_584 (by decide +kernel) ⟨(Nat.le_of_ble_eq_true rfl), (Nat.le_of_ble_eq_true rfl)⟩ rfl (Nat.le_of_ble_eq_true rfl) ⟨(Nat.le_of_ble_eq_true rfl), (Nat.le_of_ble_eq_true rfl)⟩ [2, 1] [0, 3, 4] rfl rfl rfl ⟨by decide, by decide, by decide⟩ dX1_runOnce_8 (fun v w H locs hp hV => ?_)
  obtain ⟨rfl, rfl⟩ := hp
  have hV : Vx D A s.heap H locs [(j, .inr (1, [.ref s1, .ref s2, .ref s3, .ref b1, .ref b2, .ref b3, .int 0, .ref b4, .ref b5, .ref b6])), (s3, .inr (5, [.ref s8, .int 0, .int 0, .ref s9, .int 0, .int 0, .int 0, .int 0])), (r, .inr (0, [.ref r1, .ref r2, .ref r3, .int 0])), (s2, .inr (5, [.ref s6, .int 0, .int 0, .ref s7, .int 0, .int 0, .int 0, .int 0])), (s1, .inr (5, [.ref s4, .int 0, .int 0, .ref s5, .int 0, .int 0, .int 0, .int 0]))] := hV
  refine W.eq (g2 := F0 m 11 ls []) rfl ?_
  refine lv_iconst (v := 0) hx hb dX1_runOnce_11 (by decide) ?_
  refine lv_istore_n (lv' := [(2, .int 0), (0, .ref j), (1, .ref r)]) hx hb dX1_runOnce_12 rfl hl (by decide) rfl (fun ls hl => ?_)
  refine lv_iload_n hx hb dX1_runOnce_13 rfl (lv_at hl 0 rfl) ?_
  refine lv_aload_n hx hb dX1_runOnce_14 rfl (lv_at hl 2 rfl) ?_
  refine x_get (v := .int 0) hB hV 2 rfl rfl 3 (by decide) k_254 rfl dX1_runOnce_15 ?_
  refine lv_icmp_ge (tgt := 72) hx hb dX1_runOnce_18 (by decide) (fun c_ => ?_) (fun c_ => absurd (by decide) c_)
  exact x_vret (w := [(j, .inr (1, [.ref s1, .ref s2, .ref s3, .ref b1, .ref b2, .ref b3, .int 0, .ref b4, .ref b5, .ref b6])), (s1, .inr (5, [.ref s4, .int 0, .int 0, .ref s5, .int 0, .int 0, .int 0, .int 0])), (s2, .inr (5, [.ref s6, .int 0, .int 0, .ref s7, .int 0, .int 0, .int 0, .int 0])), (s3, .inr (5, [.ref s8, .int 0, .int 0, .ref s9, .int 0, .int 0, .int 0, .int 0])), (r, .inr (0, [.ref r1, .ref r2, .ref r3, .int 0]))]) hB hr hV hA (Nat.le_of_ble_eq_true rfl) (Nat.le_of_ble_eq_true rfl) [0, 4, 3, 1, 2] rfl rfl (by decide) dX1_runOnce_72 ⟨rfl, rfl⟩
set_option maxHeartbeats 4000000 in
set_option maxRecDepth 100000 in
theorem c_firstUnsafe (l : Launch) (D : va_G) (cI cZ cS : ClassId) (N0 : NT) (j : Nat) (s1 : Nat) (s2 : Nat) (s3 : Nat) (s4 : Nat) (s5 : Nat) (s6 : Nat) (s7 : Nat) (s8 : Nat) (s9 : Nat) (b1 : Nat) (b2 : Nat) (b3 : Nat) (b4 : Nat) (b5 : Nat) (b6 : Nat) (r : Nat) (r1 : Nat) (r2 : Nat) (r3 : Nat)  : Mx l D cI cZ cS N0 yX1_firstUnsafe cX1_firstUnsafe 7 (some .int) 3 0 0 [.ref j, .ref r, .int 0] [(j, .inr (1, [.ref s1, .ref s2, .ref s3, .ref b1, .ref b2, .ref b3, .int 0, .ref b4, .ref b5, .ref b6])), (s1, .inr (5, [.ref s4, .int 0, .int 0, .ref s5, .int 0, .int 0, .int 0, .int 0])), (s2, .inr (5, [.ref s6, .int 0, .int 0, .ref s7, .int 0, .int 0, .int 0, .int 0])), (s3, .inr (5, [.ref s8, .int 0, .int 0, .ref s9, .int 0, .int 0, .int 0, .int 0])), (r, .inr (0, [.ref r1, .ref r2, .ref r3, .int 0]))] (fun v w => v = some (.int (-1)) ∧ w = ([(j, .inr (1, [.ref s1, .ref s2, .ref s3, .ref b1, .ref b2, .ref b3, .int 0, .ref b4, .ref b5, .ref b6])), (s1, .inr (5, [.ref s4, .int 0, .int 0, .ref s5, .int 0, .int 0, .int 0, .int 0])), (s2, .inr (5, [.ref s6, .int 0, .int 0, .ref s7, .int 0, .int 0, .int 0, .int 0])), (s3, .inr (5, [.ref s8, .int 0, .int 0, .ref s9, .int 0, .int 0, .int 0, .int 0])), (r, .inr (0, [.ref r1, .ref r2, .ref r3, .int 0]))] : va_W)) := by
  refine x_enter (by decide) (Nat.le_of_ble_eq_true rfl) ?_
  intro p e s m args below meth c A ls H locs hB hr hin hl hV hA
  have hx := hB.1
  have hb := hB.2.1
  have hl : lv_has ls 7 [(0, .ref j), (1, .ref r), (2, .int 0)] := hl
  refine lv_aload_n hx hb dX1_firstUnsafe_0 rfl (lv_at hl 0 rfl) ?_
  refine lv_aload_n hx hb dX1_firstUnsafe_1 rfl (lv_at hl 1 rfl) ?_
  refine x_callV (n := 1) (wr := []) (q0 := 0) (As := [.ref r]) (rest := []) hB hV (x_N hB) hl.1 (c_runOnce l D cI cZ cS N0 j s1 s2 s3 s4 s5 s6 s7 s8 s9 b1 b2 b3 b4 b5 b6 r r1 r2 r3 ) rfl rfl k_593 k_64 k_627 k_591 k_592 (by decide +kernel) ⟨(Nat.le_of_ble_eq_true rfl), (Nat.le_of_ble_eq_true rfl)⟩ rfl (Nat.le_of_ble_eq_true rfl) ⟨(Nat.le_of_ble_eq_true rfl), (Nat.le_of_ble_eq_true rfl)⟩ [0, 1, 2, 3, 4] [] rfl rfl rfl ⟨by decide, by decide, by decide⟩ dX1_firstUnsafe_2 (fun v w H locs hp hV => ?_)
  obtain ⟨rfl, rfl⟩ := hp
  have hV : Vx D A s.heap H locs [(j, .inr (1, [.ref s1, .ref s2, .ref s3, .ref b1, .ref b2, .ref b3, .int 0, .ref b4, .ref b5, .ref b6])), (s1, .inr (5, [.ref s4, .int 0, .int 0, .ref s5, .int 0, .int 0, .int 0, .int 0])), (s2, .inr (5, [.ref s6, .int 0, .int 0, .ref s7, .int 0, .int 0, .int 0, .int 0])), (s3, .inr (5, [.ref s8, .int 0, .int 0, .ref s9, .int 0, .int 0, .int 0, .int 0])), (r, .inr (0, [.ref r1, .ref r2, .ref r3, .int 0]))] := hV
  refine W.eq (g2 := F0 m 5 ls []) rfl ?_
  refine lv_iconst (v := 0) hx hb dX1_firstUnsafe_5 (by decide) ?_
  refine lv_istore_n (lv' := [(3, .int 0), (0, .ref j), (1, .ref r), (2, .int 0)]) hx hb dX1_firstUnsafe_6 rfl hl (by decide) rfl (fun ls hl => ?_)
  refine lv_iload_n hx hb dX1_firstUnsafe_7 rfl (lv_at hl 0 rfl) ?_
  refine lv_aload_n hx hb dX1_firstUnsafe_8 rfl (lv_at hl 2 rfl) ?_
  refine x_get (v := .int 0) hB hV 4 rfl rfl 3 (by decide) k_254 rfl dX1_firstUnsafe_9 ?_
  refine lv_icmp_ge (tgt := 104) hx hb dX1_firstUnsafe_12 (by decide) (fun c_ => ?_) (fun c_ => absurd (by decide) c_)
  refine lv_iconst (v := (-1)) hx hb dX1_firstUnsafe_104 (by decide) ?_
  exact x_iret (w := [(j, .inr (1, [.ref s1, .ref s2, .ref s3, .ref b1, .ref b2, .ref b3, .int 0, .ref b4, .ref b5, .ref b6])), (s1, .inr (5, [.ref s4, .int 0, .int 0, .ref s5, .int 0, .int 0, .int 0, .int 0])), (s2, .inr (5, [.ref s6, .int 0, .int 0, .ref s7, .int 0, .int 0, .int 0, .int 0])), (s3, .inr (5, [.ref s8, .int 0, .int 0, .ref s9, .int 0, .int 0, .int 0, .int 0])), (r, .inr (0, [.ref r1, .ref r2, .ref r3, .int 0]))]) hB hr hV hA (Nat.le_of_ble_eq_true rfl) (Nat.le_of_ble_eq_true rfl) [0, 1, 2, 3, 4] rfl rfl (by decide) dX1_firstUnsafe_105 ⟨rfl, rfl⟩
set_option maxHeartbeats 4000000 in
set_option maxRecDepth 100000 in
theorem c_isStill (l : Launch) (D : va_G) (cI cZ cS : ClassId) (N0 : NT) (j : Nat) (s1 : Nat) (s2 : Nat) (s3 : Nat) (s4 : Nat) (s5 : Nat) (s6 : Nat) (s7 : Nat) (s8 : Nat) (s9 : Nat) (b1 : Nat) (b2 : Nat) (b3 : Nat) (b4 : Nat) (b5 : Nat) (b6 : Nat) (r : Nat) (r1 : Nat) (r2 : Nat) (r3 : Nat)  : Mx l D cI cZ cS N0 yX1_isStill cX1_isStill 3 (some .boolean) 3 0 0 [.ref j, .ref r] [(j, .inr (1, [.ref s1, .ref s2, .ref s3, .ref b1, .ref b2, .ref b3, .int 0, .ref b4, .ref b5, .ref b6])), (s1, .inr (5, [.ref s4, .int 0, .int 0, .ref s5, .int 0, .int 0, .int 0, .int 0])), (s2, .inr (5, [.ref s6, .int 0, .int 0, .ref s7, .int 0, .int 0, .int 0, .int 0])), (s3, .inr (5, [.ref s8, .int 0, .int 0, .ref s9, .int 0, .int 0, .int 0, .int 0])), (r, .inr (0, [.ref r1, .ref r2, .ref r3, .int 0]))] (fun v w => v = some (.int 1) ∧ w = ([(j, .inr (1, [.ref s1, .ref s2, .ref s3, .ref b1, .ref b2, .ref b3, .int 0, .ref b4, .ref b5, .ref b6])), (s1, .inr (5, [.ref s4, .int 0, .int 0, .ref s5, .int 0, .int 0, .int 0, .int 0])), (s2, .inr (5, [.ref s6, .int 0, .int 0, .ref s7, .int 0, .int 0, .int 0, .int 0])), (s3, .inr (5, [.ref s8, .int 0, .int 0, .ref s9, .int 0, .int 0, .int 0, .int 0])), (r, .inr (0, [.ref r1, .ref r2, .ref r3, .int 0]))] : va_W)) := by
  refine x_enter (by decide) (Nat.le_of_ble_eq_true rfl) ?_
  intro p e s m args below meth c A ls H locs hB hr hin hl hV hA
  have hx := hB.1
  have hb := hB.2.1
  have hl : lv_has ls 3 [(0, .ref j), (1, .ref r)] := hl
  refine lv_aload_n hx hb dX1_isStill_0 rfl (lv_at hl 0 rfl) ?_
  refine x_get (v := .ref s3) hB hV 0 rfl rfl 2 (by decide) k_279 rfl dX1_isStill_1 ?_
  refine lv_aload_n hx hb dX1_isStill_4 rfl (lv_at hl 0 rfl) ?_
  refine x_get (v := .ref s1) hB hV 0 rfl rfl 0 (by decide) k_276 rfl dX1_isStill_5 ?_
  refine x_callV (n := 1) (wr := [(j, .inr (1, [.ref s1, .ref s2, .ref s3, .ref b1, .ref b2, .ref b3, .int 0, .ref b4, .ref b5, .ref b6])), (s2, .inr (5, [.ref s6, .int 0, .int 0, .ref s7, .int 0, .int 0, .int 0, .int 0])), (r, .inr (0, [.ref r1, .ref r2, .ref r3, .int 0]))]) (q0 := 3) (As := [.ref s1]) (rest := []) hB hV (x_N hB) hl.1 (c_copyFrom l D cI cZ cS N0 s3 s8 s9 s1 s4 s5 ) rfl rfl k_585 k_59 k_582 k_583 k_584 (by decide +kernel) ⟨(Nat.le_of_ble_eq_true rfl), (Nat.le_of_ble_eq_true rfl)⟩ rfl (Nat.le_of_ble_eq_true rfl) ⟨(Nat.le_of_ble_eq_true rfl), (Nat.le_of_ble_eq_true rfl)⟩ [3, 1] [0, 2, 4] rfl rfl rfl ⟨by decide, by decide, by decide⟩ dX1_isStill_8 (fun v w H locs hp hV => ?_)
  obtain ⟨rfl, rfl⟩ := hp
  have hV : Vx D A s.heap H locs [(j, .inr (1, [.ref s1, .ref s2, .ref s3, .ref b1, .ref b2, .ref b3, .int 0, .ref b4, .ref b5, .ref b6])), (s2, .inr (5, [.ref s6, .int 0, .int 0, .ref s7, .int 0, .int 0, .int 0, .int 0])), (r, .inr (0, [.ref r1, .ref r2, .ref r3, .int 0])), (s3, .inr (5, [.ref s8, .int 0, .int 0, .ref s9, .int 0, .int 0, .int 0, .int 0])), (s1, .inr (5, [.ref s4, .int 0, .int 0, .ref s5, .int 0, .int 0, .int 0, .int 0]))] := hV
  refine W.eq (g2 := F0 m 11 ls []) rfl ?_
  refine lv_iconst (v := 0) hx hb dX1_isStill_11 (by decide) ?_
  refine lv_istore_n (lv' := [(2, .int 0), (0, .ref j), (1, .ref r)]) hx hb dX1_isStill_12 rfl hl (by decide) rfl (fun ls hl => ?_)
  refine lv_iload_n hx hb dX1_isStill_13 rfl (lv_at hl 0 rfl) ?_
  refine lv_aload_n hx hb dX1_isStill_14 rfl (lv_at hl 2 rfl) ?_
  refine x_get (v := .int 0) hB hV 2 rfl rfl 3 (by decide) k_254 rfl dX1_isStill_15 ?_
  refine lv_icmp_ge (tgt := 54) hx hb dX1_isStill_18 (by decide) (fun c_ => ?_) (fun c_ => absurd (by decide) c_)
  refine lv_aload_n hx hb dX1_isStill_54 rfl (lv_at hl 1 rfl) ?_
  refine x_get (v := .ref s3) hB hV 0 rfl rfl 2 (by decide) k_279 rfl dX1_isStill_55 ?_
  refine x_get (v := .int 0) hB hV 3 rfl rfl 4 (by decide) k_212 rfl dX1_isStill_58 ?_
  refine lv_if_ne (tgt := 96) hx hb dX1_isStill_61 (by decide) (fun c_ => absurd (by decide) c_) (fun c_ => ?_)
  refine lv_aload_n hx hb dX1_isStill_64 rfl (lv_at hl 1 rfl) ?_
  refine x_get (v := .ref s3) hB hV 0 rfl rfl 2 (by decide) k_279 rfl dX1_isStill_65 ?_
  refine lv_aload_n hx hb dX1_isStill_68 rfl (lv_at hl 1 rfl) ?_
  refine x_get (v := .ref s1) hB hV 0 rfl rfl 0 (by decide) k_276 rfl dX1_isStill_69 ?_
  refine x_callV (n := 1) (wr := [(j, .inr (1, [.ref s1, .ref s2, .ref s3, .ref b1, .ref b2, .ref b3, .int 0, .ref b4, .ref b5, .ref b6])), (s2, .inr (5, [.ref s6, .int 0, .int 0, .ref s7, .int 0, .int 0, .int 0, .int 0])), (r, .inr (0, [.ref r1, .ref r2, .ref r3, .int 0]))]) (q0 := 3) (As := [.ref s1]) (rest := []) hB hV (x_N hB) hl.1 (c_sameStores l D cI cZ cS N0 s3 s8 s9 s1 s4 s5 ) rfl rfl k_606 k_59 k_603 k_604 k_605 (by decide +kernel) ⟨(Nat.le_of_ble_eq_true rfl), (Nat.le_of_ble_eq_true rfl)⟩ rfl (Nat.le_of_ble_eq_true rfl) ⟨(Nat.le_of_ble_eq_true rfl), (Nat.le_of_ble_eq_true rfl)⟩ [3, 4] [0, 1, 2] rfl rfl rfl ⟨by decide, by decide, by decide⟩ dX1_isStill_72 (fun v w H locs hp hV => ?_)
  obtain ⟨rfl, rfl⟩ := hp
  have hV : Vx D A s.heap H locs [(j, .inr (1, [.ref s1, .ref s2, .ref s3, .ref b1, .ref b2, .ref b3, .int 0, .ref b4, .ref b5, .ref b6])), (s2, .inr (5, [.ref s6, .int 0, .int 0, .ref s7, .int 0, .int 0, .int 0, .int 0])), (r, .inr (0, [.ref r1, .ref r2, .ref r3, .int 0])), (s3, .inr (5, [.ref s8, .int 0, .int 0, .ref s9, .int 0, .int 0, .int 0, .int 0])), (s1, .inr (5, [.ref s4, .int 0, .int 0, .ref s5, .int 0, .int 0, .int 0, .int 0]))] := hV
  refine W.eq (g2 := F0 m 75 ls [.int 1]) rfl ?_
  refine lv_if_eq (tgt := 96) hx hb dX1_isStill_75 (by decide) (fun c_ => absurd c_ (by decide)) (fun c_ => ?_)
  refine lv_aload_n hx hb dX1_isStill_78 rfl (lv_at hl 1 rfl) ?_
  refine x_get (v := .ref s3) hB hV 0 rfl rfl 2 (by decide) k_279 rfl dX1_isStill_79 ?_
  refine lv_aload_n hx hb dX1_isStill_82 rfl (lv_at hl 1 rfl) ?_
  refine x_get (v := .ref s1) hB hV 0 rfl rfl 0 (by decide) k_276 rfl dX1_isStill_83 ?_
  refine x_callV (n := 1) (wr := [(j, .inr (1, [.ref s1, .ref s2, .ref s3, .ref b1, .ref b2, .ref b3, .int 0, .ref b4, .ref b5, .ref b6])), (s2, .inr (5, [.ref s6, .int 0, .int 0, .ref s7, .int 0, .int 0, .int 0, .int 0])), (r, .inr (0, [.ref r1, .ref r2, .ref r3, .int 0]))]) (q0 := 3) (As := [.ref s1]) (rest := []) hB hV (x_N hB) hl.1 (c_sameCounts l D cI cZ cS N0 s3 s8 s9 s1 s4 s5 ) rfl rfl k_614 k_59 k_611 k_612 k_613 (by decide +kernel) ⟨(Nat.le_of_ble_eq_true rfl), (Nat.le_of_ble_eq_true rfl)⟩ rfl (Nat.le_of_ble_eq_true rfl) ⟨(Nat.le_of_ble_eq_true rfl), (Nat.le_of_ble_eq_true rfl)⟩ [3, 4] [0, 1, 2] rfl rfl rfl ⟨by decide, by decide, by decide⟩ dX1_isStill_86 (fun v w H locs hp hV => ?_)
  obtain ⟨rfl, rfl⟩ := hp
  have hV : Vx D A s.heap H locs [(j, .inr (1, [.ref s1, .ref s2, .ref s3, .ref b1, .ref b2, .ref b3, .int 0, .ref b4, .ref b5, .ref b6])), (s2, .inr (5, [.ref s6, .int 0, .int 0, .ref s7, .int 0, .int 0, .int 0, .int 0])), (r, .inr (0, [.ref r1, .ref r2, .ref r3, .int 0])), (s3, .inr (5, [.ref s8, .int 0, .int 0, .ref s9, .int 0, .int 0, .int 0, .int 0])), (s1, .inr (5, [.ref s4, .int 0, .int 0, .ref s5, .int 0, .int 0, .int 0, .int 0]))] := hV
  refine W.eq (g2 := F0 m 89 ls [.int 1]) rfl ?_
  refine lv_if_eq (tgt := 96) hx hb dX1_isStill_89 (by decide) (fun c_ => absurd c_ (by decide)) (fun c_ => ?_)
  refine lv_iconst (v := 1) hx hb dX1_isStill_92 (by decide) ?_
  refine lv_goto (tgt := 97) hx hb dX1_isStill_93 (by decide) ?_
  exact x_zret (w := [(j, .inr (1, [.ref s1, .ref s2, .ref s3, .ref b1, .ref b2, .ref b3, .int 0, .ref b4, .ref b5, .ref b6])), (s1, .inr (5, [.ref s4, .int 0, .int 0, .ref s5, .int 0, .int 0, .int 0, .int 0])), (s2, .inr (5, [.ref s6, .int 0, .int 0, .ref s7, .int 0, .int 0, .int 0, .int 0])), (s3, .inr (5, [.ref s8, .int 0, .int 0, .ref s9, .int 0, .int 0, .int 0, .int 0])), (r, .inr (0, [.ref r1, .ref r2, .ref r3, .int 0]))]) hB hr rfl hV hA (Nat.le_of_ble_eq_true rfl) (Nat.le_of_ble_eq_true rfl) [0, 4, 1, 3, 2] rfl rfl (by decide) dX1_isStill_97 ⟨rfl, rfl⟩
set_option maxHeartbeats 4000000 in
set_option maxRecDepth 100000 in
theorem c_bitCount (l : Launch) (D : va_G) (cI cZ cS : ClassId) (N0 : NT)   : Mx l D cI cZ cS N0 yJ6_bitCount_0f7a4 cJ6_bitCount_0f7a4 1 (some .int) 0 0 0 [.int 0] [] (fun v w => v = some (.int 0) ∧ w = ([] : va_W)) := by
  refine x_enter (by decide) (Nat.le_of_ble_eq_true rfl) ?_
  intro p e s m args below meth c A ls H locs hB hr hin hl hV hA
  have hx := hB.1
  have hb := hB.2.1
  have hl : lv_has ls 1 [(0, .int 0)] := hl
  refine lv_iload_n hx hb dJ6_bitCount_0f7a4_0 rfl (lv_at hl 0 rfl) ?_
  refine lv_iload_n hx hb dJ6_bitCount_0f7a4_1 rfl (lv_at hl 0 rfl) ?_
  refine lv_iconst (v := 1) hx hb dJ6_bitCount_0f7a4_2 (by decide) ?_
  refine lv_iushr (v := 0) hx hb dJ6_bitCount_0f7a4_3 (by decide) ?_
  refine lv_ldcw (v := 1431655765) hx hb hB.2.2.2.1 (hB.2.2.2.2.1 _ k_688) dJ6_bitCount_0f7a4_4 ?_
  refine lv_iand hx hb dJ6_bitCount_0f7a4_7 ?_
  refine x_ev (y := 0) (by decide) ?_
  refine lv_isub hx hb dJ6_bitCount_0f7a4_8 ?_
  refine x_ev (y := 0) (by decide) ?_
  refine lv_istore_n (lv' := [(0, .int 0)]) hx hb dJ6_bitCount_0f7a4_9 rfl hl (by decide) rfl (fun ls hl => ?_)
  refine lv_iload_n hx hb dJ6_bitCount_0f7a4_10 rfl (lv_at hl 0 rfl) ?_
  refine lv_ldcw (v := 858993459) hx hb hB.2.2.2.1 (hB.2.2.2.2.1 _ k_689) dJ6_bitCount_0f7a4_11 ?_
  refine lv_iand hx hb dJ6_bitCount_0f7a4_14 ?_
  refine x_ev (y := 0) (by decide) ?_
  refine lv_iload_n hx hb dJ6_bitCount_0f7a4_15 rfl (lv_at hl 0 rfl) ?_
  refine lv_iconst (v := 2) hx hb dJ6_bitCount_0f7a4_16 (by decide) ?_
  refine lv_iushr (v := 0) hx hb dJ6_bitCount_0f7a4_17 (by decide) ?_
  refine lv_ldcw (v := 858993459) hx hb hB.2.2.2.1 (hB.2.2.2.2.1 _ k_689) dJ6_bitCount_0f7a4_18 ?_
  refine lv_iand hx hb dJ6_bitCount_0f7a4_21 ?_
  refine x_ev (y := 0) (by decide) ?_
  refine lv_iadd hx hb dJ6_bitCount_0f7a4_22 ?_
  refine x_ev (y := 0) (by decide) ?_
  refine lv_istore_n (lv' := [(0, .int 0)]) hx hb dJ6_bitCount_0f7a4_23 rfl hl (by decide) rfl (fun ls hl => ?_)
  refine lv_iload_n hx hb dJ6_bitCount_0f7a4_24 rfl (lv_at hl 0 rfl) ?_
  refine lv_iload_n hx hb dJ6_bitCount_0f7a4_25 rfl (lv_at hl 0 rfl) ?_
  refine lv_iconst (v := 4) hx hb dJ6_bitCount_0f7a4_26 (by decide) ?_
  refine lv_iushr (v := 0) hx hb dJ6_bitCount_0f7a4_27 (by decide) ?_
  refine lv_iadd hx hb dJ6_bitCount_0f7a4_28 ?_
  refine x_ev (y := 0) (by decide) ?_
  refine lv_ldcw (v := 252645135) hx hb hB.2.2.2.1 (hB.2.2.2.2.1 _ k_690) dJ6_bitCount_0f7a4_29 ?_
  refine lv_iand hx hb dJ6_bitCount_0f7a4_32 ?_
  refine x_ev (y := 0) (by decide) ?_
  refine lv_istore_n (lv' := [(0, .int 0)]) hx hb dJ6_bitCount_0f7a4_33 rfl hl (by decide) rfl (fun ls hl => ?_)
  refine lv_iload_n hx hb dJ6_bitCount_0f7a4_34 rfl (lv_at hl 0 rfl) ?_
  refine lv_iload_n hx hb dJ6_bitCount_0f7a4_35 rfl (lv_at hl 0 rfl) ?_
  refine lv_bipush (v := 8) hx hb dJ6_bitCount_0f7a4_36 (by decide) ?_
  refine lv_iushr (v := 0) hx hb dJ6_bitCount_0f7a4_38 (by decide) ?_
  refine lv_iadd hx hb dJ6_bitCount_0f7a4_39 ?_
  refine x_ev (y := 0) (by decide) ?_
  refine lv_istore_n (lv' := [(0, .int 0)]) hx hb dJ6_bitCount_0f7a4_40 rfl hl (by decide) rfl (fun ls hl => ?_)
  refine lv_iload_n hx hb dJ6_bitCount_0f7a4_41 rfl (lv_at hl 0 rfl) ?_
  refine lv_iload_n hx hb dJ6_bitCount_0f7a4_42 rfl (lv_at hl 0 rfl) ?_
  refine lv_bipush (v := 16) hx hb dJ6_bitCount_0f7a4_43 (by decide) ?_
  refine lv_iushr (v := 0) hx hb dJ6_bitCount_0f7a4_45 (by decide) ?_
  refine lv_iadd hx hb dJ6_bitCount_0f7a4_46 ?_
  refine x_ev (y := 0) (by decide) ?_
  refine lv_istore_n (lv' := [(0, .int 0)]) hx hb dJ6_bitCount_0f7a4_47 rfl hl (by decide) rfl (fun ls hl => ?_)
  refine lv_iload_n hx hb dJ6_bitCount_0f7a4_48 rfl (lv_at hl 0 rfl) ?_
  refine lv_bipush (v := 63) hx hb dJ6_bitCount_0f7a4_49 (by decide) ?_
  refine lv_iand hx hb dJ6_bitCount_0f7a4_51 ?_
  refine x_ev (y := 0) (by decide) ?_
  exact x_iret (w := []) hB hr hV hA (Nat.le_of_ble_eq_true rfl) (Nat.le_of_ble_eq_true rfl) [] rfl rfl (by decide) dJ6_bitCount_0f7a4_52 ⟨rfl, rfl⟩
set_option maxHeartbeats 4000000 in
set_option maxRecDepth 100000 in
theorem c_numberOfTrailingZeros (l : Launch) (D : va_G) (cI cZ cS : ClassId) (N0 : NT)   : Mx l D cI cZ cS N0 yJ6_numberOfTrailingZeros_0f7a4 cJ6_numberOfTrailingZeros_0f7a4 2 (some .int) 0 0 0 [.int 0] [] (fun v w => v = some (.int 32) ∧ w = ([] : va_W)) := by
  refine x_enter (by decide) (Nat.le_of_ble_eq_true rfl) ?_
  intro p e s m args below meth c A ls H locs hB hr hin hl hV hA
  have hx := hB.1
  have hb := hB.2.1
  have hl : lv_has ls 2 [(0, .int 0)] := hl
  refine lv_iload_n hx hb dJ6_numberOfTrailingZeros_0f7a4_0 rfl (lv_at hl 0 rfl) ?_
  refine lv_iconst (v := (-1)) hx hb dJ6_numberOfTrailingZeros_0f7a4_1 (by decide) ?_
  refine lv_ixor hx hb dJ6_numberOfTrailingZeros_0f7a4_2 ?_
  refine x_ev (y := (-1)) (by decide) ?_
  refine lv_iload_n hx hb dJ6_numberOfTrailingZeros_0f7a4_3 rfl (lv_at hl 0 rfl) ?_
  refine lv_iconst (v := 1) hx hb dJ6_numberOfTrailingZeros_0f7a4_4 (by decide) ?_
  refine lv_isub hx hb dJ6_numberOfTrailingZeros_0f7a4_5 ?_
  refine x_ev (y := (-1)) (by decide) ?_
  refine lv_iand hx hb dJ6_numberOfTrailingZeros_0f7a4_6 ?_
  refine x_ev (y := (-1)) (by decide) ?_
  refine lv_istore_n (lv' := [(0, .int (-1))]) hx hb dJ6_numberOfTrailingZeros_0f7a4_7 rfl hl (by decide) rfl (fun ls hl => ?_)
  refine lv_iload_n hx hb dJ6_numberOfTrailingZeros_0f7a4_8 rfl (lv_at hl 0 rfl) ?_
  refine lv_if_gt (tgt := 17) hx hb dJ6_numberOfTrailingZeros_0f7a4_9 (by decide) (fun c_ => absurd c_ (by decide)) (fun c_ => ?_)
  refine lv_iload_n hx hb dJ6_numberOfTrailingZeros_0f7a4_12 rfl (lv_at hl 0 rfl) ?_
  refine lv_bipush (v := 32) hx hb dJ6_numberOfTrailingZeros_0f7a4_13 (by decide) ?_
  refine lv_iand hx hb dJ6_numberOfTrailingZeros_0f7a4_15 ?_
  refine x_ev (y := 32) (by decide) ?_
  exact x_iret (w := []) hB hr hV hA (Nat.le_of_ble_eq_true rfl) (Nat.le_of_ble_eq_true rfl) [] rfl rfl (by decide) dJ6_numberOfTrailingZeros_0f7a4_16 ⟨rfl, rfl⟩
set_option maxHeartbeats 4000000 in
set_option maxRecDepth 100000 in
theorem c_numberOfLeadingZeros (l : Launch) (D : va_G) (cI cZ cS : ClassId) (N0 : NT)   : Mx l D cI cZ cS N0 yJ6_numberOfLeadingZeros_0f7a4 cJ6_numberOfLeadingZeros_0f7a4 2 (some .int) 0 0 0 [.int 0] [] (fun v w => v = some (.int 32) ∧ w = ([] : va_W)) := by
  refine x_enter (by decide) (Nat.le_of_ble_eq_true rfl) ?_
  intro p e s m args below meth c A ls H locs hB hr hin hl hV hA
  have hx := hB.1
  have hb := hB.2.1
  have hl : lv_has ls 2 [(0, .int 0)] := hl
  refine lv_iload_n hx hb dJ6_numberOfLeadingZeros_0f7a4_0 rfl (lv_at hl 0 rfl) ?_
  refine lv_if_gt (tgt := 15) hx hb dJ6_numberOfLeadingZeros_0f7a4_1 (by decide) (fun c_ => absurd c_ (by decide)) (fun c_ => ?_)
  refine lv_iload_n hx hb dJ6_numberOfLeadingZeros_0f7a4_4 rfl (lv_at hl 0 rfl) ?_
  refine lv_if_ne (tgt := 13) hx hb dJ6_numberOfLeadingZeros_0f7a4_5 (by decide) (fun c_ => absurd (by decide) c_) (fun c_ => ?_)
  refine lv_bipush (v := 32) hx hb dJ6_numberOfLeadingZeros_0f7a4_8 (by decide) ?_
  refine lv_goto (tgt := 14) hx hb dJ6_numberOfLeadingZeros_0f7a4_10 (by decide) ?_
  exact x_iret (w := []) hB hr hV hA (Nat.le_of_ble_eq_true rfl) (Nat.le_of_ble_eq_true rfl) [] rfl rfl (by decide) dJ6_numberOfLeadingZeros_0f7a4_14 ⟨rfl, rfl⟩
