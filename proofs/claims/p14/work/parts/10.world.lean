theorem k_151 : Cond.fieldLink RX5 133 "TwiceOnce$Service" "counter" "I" ∈ tb := mt 151 (by decide +kernel) rfl
theorem k_154 : Cond.fieldLink RX5 52 "TwiceOnce$Service" "mends" "I" ∈ tb := mt 154 (by decide +kernel) rfl
theorem k_156 : Cond.fieldLink RX5 49 "TwiceOnce$Service" "holdTicks" "I" ∈ tb := mt 156 (by decide +kernel) rfl
theorem k_199 : Cond.fieldLink RX5 11 "TwiceOnce$World" "services" "[LTwiceOnce$Service;" ∈ tb := mt 199 (by decide +kernel) rfl
theorem k_205 : Cond.fieldLink RX5 21 "TwiceOnce$World" "ticks" "I" ∈ tb := mt 205 (by decide +kernel) rfl
theorem k_207 : Cond.fieldLink RX5 24 "TwiceOnce$World" "done" "[I" ∈ tb := mt 207 (by decide +kernel) rfl
theorem k_210 : Cond.fieldLink RX5 28 "TwiceOnce$World" "doneInAll" "I" ∈ tb := mt 210 (by decide +kernel) rfl
theorem k_586 : Cond.methodLink RX5 42 yX3_copyFrom ∈ tb := mt 586 (by decide +kernel) rfl
theorem k_587 : Cond.instanceMethod yX3_copyFrom ∈ tb := mt 587 (by decide +kernel) rfl
theorem k_588 : Cond.selects RX3 yX3_copyFrom yX3_copyFrom ∈ tb := mt 588 (by decide +kernel) rfl
set_option maxRecDepth 20000 in
theorem k_589 : Cond.code yX3_copyFrom cX3_copyFrom 2 none ∈ tb := mt 589 rfl rfl
theorem k_607 : Cond.methodLink RX5 129 yX3_hasSameStore ∈ tb := mt 607 (by decide +kernel) rfl
theorem k_608 : Cond.instanceMethod yX3_hasSameStore ∈ tb := mt 608 (by decide +kernel) rfl
theorem k_609 : Cond.selects RX3 yX3_hasSameStore yX3_hasSameStore ∈ tb := mt 609 (by decide +kernel) rfl
set_option maxRecDepth 20000 in
theorem k_610 : Cond.code yX3_hasSameStore cX3_hasSameStore 3 (some .boolean) ∈ tb := mt 610 rfl rfl
theorem k_731 : Cond.methodLink RX5 46 yX3_makeFresh ∈ tb := mt 731 (by decide +kernel) rfl
theorem k_732 : Cond.instanceMethod yX3_makeFresh ∈ tb := mt 732 (by decide +kernel) rfl
theorem k_733 : Cond.selects RX3 yX3_makeFresh yX3_makeFresh ∈ tb := mt 733 (by decide +kernel) rfl
set_option maxRecDepth 20000 in
theorem k_734 : Cond.code yX3_makeFresh cX3_makeFresh 2 none ∈ tb := mt 734 rfl rfl
theorem dX5_copyFrom_23 : decode cX5_copyFrom 23 = .ok (.iload_n 2, 1) := by decide +kernel
theorem dX5_copyFrom_24 : decode cX5_copyFrom 24 = .ok (.aload_n 0, 1) := by decide +kernel
theorem dX5_copyFrom_25 : decode cX5_copyFrom 25 = .ok (.getfield 17, 3) := by decide +kernel
theorem dX5_copyFrom_28 : decode cX5_copyFrom 28 = .ok (.if_icmp .ge 24, 3) := by decide +kernel
theorem dX5_copyFrom_52 : decode cX5_copyFrom 52 = .ok (.return_, 1) := by decide +kernel
theorem dX5_copyFrom_31 : decode cX5_copyFrom 31 = .ok (.aload_n 0, 1) := by decide +kernel
theorem dX5_copyFrom_32 : decode cX5_copyFrom 32 = .ok (.getfield 11, 3) := by decide +kernel
theorem dX5_copyFrom_35 : decode cX5_copyFrom 35 = .ok (.iload_n 2, 1) := by decide +kernel
theorem dX5_copyFrom_36 : decode cX5_copyFrom 36 = .ok (.aaload, 1) := by decide +kernel
theorem dX5_copyFrom_37 : decode cX5_copyFrom 37 = .ok (.aload_n 1, 1) := by decide +kernel
theorem dX5_copyFrom_38 : decode cX5_copyFrom 38 = .ok (.getfield 11, 3) := by decide +kernel
theorem dX5_copyFrom_41 : decode cX5_copyFrom 41 = .ok (.iload_n 2, 1) := by decide +kernel
theorem dX5_copyFrom_42 : decode cX5_copyFrom 42 = .ok (.aaload, 1) := by decide +kernel
theorem dX5_copyFrom_43 : decode cX5_copyFrom 43 = .ok (.invokevirtual 42, 3) := by decide +kernel
theorem dX5_copyFrom_46 : decode cX5_copyFrom 46 = .ok (.iinc 2 1, 3) := by decide +kernel
theorem dX5_copyFrom_49 : decode cX5_copyFrom 49 = .ok (.goto (-26), 3) := by decide +kernel
theorem dX5_copyFrom_0 : decode cX5_copyFrom 0 = .ok (.aload_n 0, 1) := by decide +kernel
theorem dX5_copyFrom_1 : decode cX5_copyFrom 1 = .ok (.aload_n 1, 1) := by decide +kernel
theorem dX5_copyFrom_2 : decode cX5_copyFrom 2 = .ok (.getfield 17, 3) := by decide +kernel
theorem dX5_copyFrom_5 : decode cX5_copyFrom 5 = .ok (.putfield 17, 3) := by decide +kernel
theorem dX5_copyFrom_8 : decode cX5_copyFrom 8 = .ok (.aload_n 0, 1) := by decide +kernel
theorem dX5_copyFrom_9 : decode cX5_copyFrom 9 = .ok (.aload_n 1, 1) := by decide +kernel
theorem dX5_copyFrom_10 : decode cX5_copyFrom 10 = .ok (.getfield 21, 3) := by decide +kernel
theorem dX5_copyFrom_13 : decode cX5_copyFrom 13 = .ok (.putfield 21, 3) := by decide +kernel
theorem dX5_copyFrom_16 : decode cX5_copyFrom 16 = .ok (.aload_n 0, 1) := by decide +kernel
theorem dX5_copyFrom_17 : decode cX5_copyFrom 17 = .ok (.iconst 0, 1) := by decide +kernel
theorem dX5_copyFrom_18 : decode cX5_copyFrom 18 = .ok (.putfield 28, 3) := by decide +kernel
theorem dX5_copyFrom_21 : decode cX5_copyFrom 21 = .ok (.iconst 0, 1) := by decide +kernel
theorem dX5_copyFrom_22 : decode cX5_copyFrom 22 = .ok (.istore_n 2, 1) := by decide +kernel
theorem dX5_makeFresh_12 : decode cX5_makeFresh 12 = .ok (.iload_n 1, 1) := by decide +kernel
theorem dX5_makeFresh_13 : decode cX5_makeFresh 13 = .ok (.aload_n 0, 1) := by decide +kernel
theorem dX5_makeFresh_14 : decode cX5_makeFresh 14 = .ok (.getfield 17, 3) := by decide +kernel
theorem dX5_makeFresh_17 : decode cX5_makeFresh 17 = .ok (.if_icmp .ge 18, 3) := by decide +kernel
theorem dX5_makeFresh_35 : decode cX5_makeFresh 35 = .ok (.return_, 1) := by decide +kernel
theorem dX5_makeFresh_20 : decode cX5_makeFresh 20 = .ok (.aload_n 0, 1) := by decide +kernel
theorem dX5_makeFresh_21 : decode cX5_makeFresh 21 = .ok (.getfield 11, 3) := by decide +kernel
theorem dX5_makeFresh_24 : decode cX5_makeFresh 24 = .ok (.iload_n 1, 1) := by decide +kernel
theorem dX5_makeFresh_25 : decode cX5_makeFresh 25 = .ok (.aaload, 1) := by decide +kernel
theorem dX5_makeFresh_26 : decode cX5_makeFresh 26 = .ok (.invokevirtual 46, 3) := by decide +kernel
theorem dX5_makeFresh_29 : decode cX5_makeFresh 29 = .ok (.iinc 1 1, 3) := by decide +kernel
theorem dX5_makeFresh_32 : decode cX5_makeFresh 32 = .ok (.goto (-20), 3) := by decide +kernel
theorem dX5_makeFresh_0 : decode cX5_makeFresh 0 = .ok (.aload_n 0, 1) := by decide +kernel
theorem dX5_makeFresh_1 : decode cX5_makeFresh 1 = .ok (.iconst 0, 1) := by decide +kernel
theorem dX5_makeFresh_2 : decode cX5_makeFresh 2 = .ok (.putfield 21, 3) := by decide +kernel
theorem dX5_makeFresh_5 : decode cX5_makeFresh 5 = .ok (.aload_n 0, 1) := by decide +kernel
theorem dX5_makeFresh_6 : decode cX5_makeFresh 6 = .ok (.iconst 0, 1) := by decide +kernel
theorem dX5_makeFresh_7 : decode cX5_makeFresh 7 = .ok (.putfield 28, 3) := by decide +kernel
theorem dX5_makeFresh_10 : decode cX5_makeFresh 10 = .ok (.iconst 0, 1) := by decide +kernel
theorem dX5_makeFresh_11 : decode cX5_makeFresh 11 = .ok (.istore_n 1, 1) := by decide +kernel
theorem dX5_holdAll_2 : decode cX5_holdAll 2 = .ok (.iload_n 2, 1) := by decide +kernel
theorem dX5_holdAll_3 : decode cX5_holdAll 3 = .ok (.aload_n 0, 1) := by decide +kernel
theorem dX5_holdAll_4 : decode cX5_holdAll 4 = .ok (.getfield 17, 3) := by decide +kernel
theorem dX5_holdAll_7 : decode cX5_holdAll 7 = .ok (.if_icmp .ge 19, 3) := by decide +kernel
theorem dX5_holdAll_26 : decode cX5_holdAll 26 = .ok (.return_, 1) := by decide +kernel
theorem dX5_holdAll_10 : decode cX5_holdAll 10 = .ok (.aload_n 0, 1) := by decide +kernel
theorem dX5_holdAll_11 : decode cX5_holdAll 11 = .ok (.getfield 11, 3) := by decide +kernel
theorem dX5_holdAll_14 : decode cX5_holdAll 14 = .ok (.iload_n 2, 1) := by decide +kernel
theorem dX5_holdAll_15 : decode cX5_holdAll 15 = .ok (.aaload, 1) := by decide +kernel
theorem dX5_holdAll_16 : decode cX5_holdAll 16 = .ok (.iload_n 1, 1) := by decide +kernel
theorem dX5_holdAll_17 : decode cX5_holdAll 17 = .ok (.putfield 49, 3) := by decide +kernel
theorem dX5_holdAll_20 : decode cX5_holdAll 20 = .ok (.iinc 2 1, 3) := by decide +kernel
theorem dX5_holdAll_23 : decode cX5_holdAll 23 = .ok (.goto (-21), 3) := by decide +kernel
theorem dX5_holdAll_0 : decode cX5_holdAll 0 = .ok (.iconst 0, 1) := by decide +kernel
theorem dX5_holdAll_1 : decode cX5_holdAll 1 = .ok (.istore_n 2, 1) := by decide +kernel
theorem dX5_addMends_2 : decode cX5_addMends 2 = .ok (.iload_n 2, 1) := by decide +kernel
theorem dX5_addMends_3 : decode cX5_addMends 3 = .ok (.aload_n 0, 1) := by decide +kernel
theorem dX5_addMends_4 : decode cX5_addMends 4 = .ok (.getfield 17, 3) := by decide +kernel
theorem dX5_addMends_7 : decode cX5_addMends 7 = .ok (.if_icmp .ge 31, 3) := by decide +kernel
theorem dX5_addMends_38 : decode cX5_addMends 38 = .ok (.return_, 1) := by decide +kernel
theorem dX5_addMends_10 : decode cX5_addMends 10 = .ok (.aload_n 0, 1) := by decide +kernel
theorem dX5_addMends_11 : decode cX5_addMends 11 = .ok (.getfield 11, 3) := by decide +kernel
theorem dX5_addMends_14 : decode cX5_addMends 14 = .ok (.iload_n 2, 1) := by decide +kernel
theorem dX5_addMends_15 : decode cX5_addMends 15 = .ok (.aaload, 1) := by decide +kernel
theorem dX5_addMends_16 : decode cX5_addMends 16 = .ok (.dup, 1) := by decide +kernel
theorem dX5_addMends_17 : decode cX5_addMends 17 = .ok (.getfield 52, 3) := by decide +kernel
theorem dX5_addMends_20 : decode cX5_addMends 20 = .ok (.iload_n 1, 1) := by decide +kernel
theorem dX5_addMends_21 : decode cX5_addMends 21 = .ok (.iconst 4, 1) := by decide +kernel
theorem dX5_addMends_22 : decode cX5_addMends 22 = .ok (.iload_n 2, 1) := by decide +kernel
theorem dX5_addMends_23 : decode cX5_addMends 23 = .ok (.imul, 1) := by decide +kernel
theorem dX5_addMends_24 : decode cX5_addMends 24 = .ok (.ishr, 1) := by decide +kernel
theorem dX5_addMends_25 : decode cX5_addMends 25 = .ok (.bipush 15, 2) := by decide +kernel
theorem dX5_addMends_27 : decode cX5_addMends 27 = .ok (.iand, 1) := by decide +kernel
theorem dX5_addMends_28 : decode cX5_addMends 28 = .ok (.ior, 1) := by decide +kernel
theorem dX5_addMends_29 : decode cX5_addMends 29 = .ok (.putfield 52, 3) := by decide +kernel
theorem dX5_addMends_32 : decode cX5_addMends 32 = .ok (.iinc 2 1, 3) := by decide +kernel
theorem dX5_addMends_35 : decode cX5_addMends 35 = .ok (.goto (-33), 3) := by decide +kernel
theorem dX5_addMends_0 : decode cX5_addMends 0 = .ok (.iconst 0, 1) := by decide +kernel
theorem dX5_addMends_1 : decode cX5_addMends 1 = .ok (.istore_n 2, 1) := by decide +kernel
theorem dX5_hasSameStores_2 : decode cX5_hasSameStores 2 = .ok (.iload_n 2, 1) := by decide +kernel
theorem dX5_hasSameStores_3 : decode cX5_hasSameStores 3 = .ok (.aload_n 0, 1) := by decide +kernel
theorem dX5_hasSameStores_4 : decode cX5_hasSameStores 4 = .ok (.getfield 17, 3) := by decide +kernel
theorem dX5_hasSameStores_7 : decode cX5_hasSameStores 7 = .ok (.if_icmp .ge 29, 3) := by decide +kernel
theorem dX5_hasSameStores_36 : decode cX5_hasSameStores 36 = .ok (.iconst 1, 1) := by decide +kernel
theorem dX5_hasSameStores_37 : decode cX5_hasSameStores 37 = .ok (.ireturn, 1) := by decide +kernel
theorem dX5_hasSameStores_10 : decode cX5_hasSameStores 10 = .ok (.aload_n 0, 1) := by decide +kernel
theorem dX5_hasSameStores_11 : decode cX5_hasSameStores 11 = .ok (.getfield 11, 3) := by decide +kernel
theorem dX5_hasSameStores_14 : decode cX5_hasSameStores 14 = .ok (.iload_n 2, 1) := by decide +kernel
theorem dX5_hasSameStores_15 : decode cX5_hasSameStores 15 = .ok (.aaload, 1) := by decide +kernel
theorem dX5_hasSameStores_16 : decode cX5_hasSameStores 16 = .ok (.aload_n 1, 1) := by decide +kernel
theorem dX5_hasSameStores_17 : decode cX5_hasSameStores 17 = .ok (.getfield 11, 3) := by decide +kernel
theorem dX5_hasSameStores_20 : decode cX5_hasSameStores 20 = .ok (.iload_n 2, 1) := by decide +kernel
theorem dX5_hasSameStores_21 : decode cX5_hasSameStores 21 = .ok (.aaload, 1) := by decide +kernel
theorem dX5_hasSameStores_22 : decode cX5_hasSameStores 22 = .ok (.invokevirtual 129, 3) := by decide +kernel
theorem dX5_hasSameStores_25 : decode cX5_hasSameStores 25 = .ok (.ifCond .ne 5, 3) := by decide +kernel
theorem dX5_hasSameStores_30 : decode cX5_hasSameStores 30 = .ok (.iinc 2 1, 3) := by decide +kernel
theorem dX5_hasSameStores_33 : decode cX5_hasSameStores 33 = .ok (.goto (-31), 3) := by decide +kernel
theorem dX5_hasSameStores_28 : decode cX5_hasSameStores 28 = .ok (.iconst 0, 1) := by decide +kernel
theorem dX5_hasSameStores_29 : decode cX5_hasSameStores 29 = .ok (.ireturn, 1) := by decide +kernel
theorem dX5_hasSameStores_0 : decode cX5_hasSameStores 0 = .ok (.iconst 0, 1) := by decide +kernel
theorem dX5_hasSameStores_1 : decode cX5_hasSameStores 1 = .ok (.istore_n 2, 1) := by decide +kernel
theorem dX5_hasSameCounts_2 : decode cX5_hasSameCounts 2 = .ok (.iload_n 2, 1) := by decide +kernel
theorem dX5_hasSameCounts_3 : decode cX5_hasSameCounts 3 = .ok (.aload_n 0, 1) := by decide +kernel
theorem dX5_hasSameCounts_4 : decode cX5_hasSameCounts 4 = .ok (.getfield 17, 3) := by decide +kernel
theorem dX5_hasSameCounts_7 : decode cX5_hasSameCounts 7 = .ok (.if_icmp .ge 32, 3) := by decide +kernel
theorem dX5_hasSameCounts_39 : decode cX5_hasSameCounts 39 = .ok (.iconst 1, 1) := by decide +kernel
theorem dX5_hasSameCounts_40 : decode cX5_hasSameCounts 40 = .ok (.ireturn, 1) := by decide +kernel
theorem dX5_hasSameCounts_10 : decode cX5_hasSameCounts 10 = .ok (.aload_n 0, 1) := by decide +kernel
theorem dX5_hasSameCounts_11 : decode cX5_hasSameCounts 11 = .ok (.getfield 11, 3) := by decide +kernel
theorem dX5_hasSameCounts_14 : decode cX5_hasSameCounts 14 = .ok (.iload_n 2, 1) := by decide +kernel
theorem dX5_hasSameCounts_15 : decode cX5_hasSameCounts 15 = .ok (.aaload, 1) := by decide +kernel
theorem dX5_hasSameCounts_16 : decode cX5_hasSameCounts 16 = .ok (.getfield 133, 3) := by decide +kernel
theorem dX5_hasSameCounts_19 : decode cX5_hasSameCounts 19 = .ok (.aload_n 1, 1) := by decide +kernel
theorem dX5_hasSameCounts_20 : decode cX5_hasSameCounts 20 = .ok (.getfield 11, 3) := by decide +kernel
theorem dX5_hasSameCounts_23 : decode cX5_hasSameCounts 23 = .ok (.iload_n 2, 1) := by decide +kernel
theorem dX5_hasSameCounts_24 : decode cX5_hasSameCounts 24 = .ok (.aaload, 1) := by decide +kernel
theorem dX5_hasSameCounts_25 : decode cX5_hasSameCounts 25 = .ok (.getfield 133, 3) := by decide +kernel
theorem dX5_hasSameCounts_28 : decode cX5_hasSameCounts 28 = .ok (.if_icmp .eq 5, 3) := by decide +kernel
theorem dX5_hasSameCounts_33 : decode cX5_hasSameCounts 33 = .ok (.iinc 2 1, 3) := by decide +kernel
theorem dX5_hasSameCounts_36 : decode cX5_hasSameCounts 36 = .ok (.goto (-34), 3) := by decide +kernel
theorem dX5_hasSameCounts_31 : decode cX5_hasSameCounts 31 = .ok (.iconst 0, 1) := by decide +kernel
theorem dX5_hasSameCounts_32 : decode cX5_hasSameCounts 32 = .ok (.ireturn, 1) := by decide +kernel
theorem dX5_hasSameCounts_0 : decode cX5_hasSameCounts 0 = .ok (.iconst 0, 1) := by decide +kernel
theorem dX5_hasSameCounts_1 : decode cX5_hasSameCounts 1 = .ok (.istore_n 2, 1) := by decide +kernel
theorem dX5_didTheSame_15 : decode cX5_didTheSame 15 = .ok (.iload_n 2, 1) := by decide +kernel
theorem dX5_didTheSame_16 : decode cX5_didTheSame 16 = .ok (.aload_n 0, 1) := by decide +kernel
theorem dX5_didTheSame_17 : decode cX5_didTheSame 17 = .ok (.getfield 28, 3) := by decide +kernel
theorem dX5_didTheSame_20 : decode cX5_didTheSame 20 = .ok (.if_icmp .ge 33, 3) := by decide +kernel
theorem dX5_didTheSame_53 : decode cX5_didTheSame 53 = .ok (.iconst 1, 1) := by decide +kernel
theorem dX5_didTheSame_54 : decode cX5_didTheSame 54 = .ok (.ireturn, 1) := by decide +kernel
theorem dX5_didTheSame_23 : decode cX5_didTheSame 23 = .ok (.iload_n 2, 1) := by decide +kernel
theorem dX5_didTheSame_24 : decode cX5_didTheSame 24 = .ok (.sipush 512, 3) := by decide +kernel
theorem dX5_didTheSame_27 : decode cX5_didTheSame 27 = .ok (.if_icmp .ge 26, 3) := by decide +kernel
theorem dX5_didTheSame_30 : decode cX5_didTheSame 30 = .ok (.aload_n 0, 1) := by decide +kernel
theorem dX5_didTheSame_31 : decode cX5_didTheSame 31 = .ok (.getfield 24, 3) := by decide +kernel
theorem dX5_didTheSame_34 : decode cX5_didTheSame 34 = .ok (.iload_n 2, 1) := by decide +kernel
theorem dX5_didTheSame_35 : decode cX5_didTheSame 35 = .ok (.iaload, 1) := by decide +kernel
theorem dX5_didTheSame_36 : decode cX5_didTheSame 36 = .ok (.aload_n 1, 1) := by decide +kernel
theorem dX5_didTheSame_37 : decode cX5_didTheSame 37 = .ok (.getfield 24, 3) := by decide +kernel
theorem dX5_didTheSame_40 : decode cX5_didTheSame 40 = .ok (.iload_n 2, 1) := by decide +kernel
theorem dX5_didTheSame_41 : decode cX5_didTheSame 41 = .ok (.iaload, 1) := by decide +kernel
theorem dX5_didTheSame_42 : decode cX5_didTheSame 42 = .ok (.if_icmp .eq 5, 3) := by decide +kernel
theorem dX5_didTheSame_47 : decode cX5_didTheSame 47 = .ok (.iinc 2 1, 3) := by decide +kernel
theorem dX5_didTheSame_50 : decode cX5_didTheSame 50 = .ok (.goto (-35), 3) := by decide +kernel
theorem dX5_didTheSame_45 : decode cX5_didTheSame 45 = .ok (.iconst 0, 1) := by decide +kernel
theorem dX5_didTheSame_46 : decode cX5_didTheSame 46 = .ok (.ireturn, 1) := by decide +kernel
theorem dX5_didTheSame_0 : decode cX5_didTheSame 0 = .ok (.aload_n 0, 1) := by decide +kernel
theorem dX5_didTheSame_1 : decode cX5_didTheSame 1 = .ok (.getfield 28, 3) := by decide +kernel
theorem dX5_didTheSame_4 : decode cX5_didTheSame 4 = .ok (.aload_n 1, 1) := by decide +kernel
theorem dX5_didTheSame_5 : decode cX5_didTheSame 5 = .ok (.getfield 28, 3) := by decide +kernel
theorem dX5_didTheSame_8 : decode cX5_didTheSame 8 = .ok (.if_icmp .eq 5, 3) := by decide +kernel
theorem dX5_didTheSame_13 : decode cX5_didTheSame 13 = .ok (.iconst 0, 1) := by decide +kernel
theorem dX5_didTheSame_14 : decode cX5_didTheSame 14 = .ok (.istore_n 2, 1) := by decide +kernel
theorem dX5_didTheSame_11 : decode cX5_didTheSame 11 = .ok (.iconst 0, 1) := by decide +kernel
theorem dX5_didTheSame_12 : decode cX5_didTheSame 12 = .ok (.ireturn, 1) := by decide +kernel
def md_s_wcopy : Nat → Nat → Bool := fun r k => (r == 4 && k == 0) || (r == 4 && k == 2) || (r == 4 && k == 3) || (r == 4 && k == 4) || (r == 4 && k == 5) || (r == 4 && k == 10) || (r == 4 && k == 11) || (r == 4 && k == 14) || (r == 6 && k == 1) || (r == 6 && k == 2) || (r == 6 && k == 4)
theorem mdle_s_wcopy_s_copyFrom {r k : Nat} (h : md_s_wcopy r k = false) : md_s_copyFrom r k = false := by
  first | rfl | (simp only [md_s_wcopy, md_s_copyFrom, Bool.or_eq_false_iff, Bool.and_eq_false_iff, beq_eq_false_iff_ne] at h ⊢; omega)
set_option maxHeartbeats 4000000 in
set_option maxRecDepth 100000 in
theorem lt_s_wcopy_a (l : Launch) (D : va_G) (cI cZ cS cR : ClassId) (N0 : NT) (fr : Int32) (g : GS) (h : Nat) (o : Nat) (r_h : g.1 h = 6) (r_o : g.1 o = 6) {p : Program} {e : Env} {s : State} {m : MethodId} {args : Array Value} {below : List Frame} {meth : Method} {c : Code} (hB : Tz p s m meth c args cX5_copyFrom 3 RX5 D cI cZ cS cR N0) (hr : meth.sig.returnType = none)  : ∀ (kf : Nat) (g1 : GS) (i : Int32)  (H : Heap) (locs : List Loc) (ls : Array Slot), Tv D cI cZ cS cR N0 s.heap H locs g1 → Inv fr g1 → Ex g g1 → Sm md_s_wcopy g g1 → 0 ≤ i.toInt → i.toInt ≤ 6 → 6 ≤ i.toInt + kf → lv_has ls 3 [(2, .int i), (0, .ref h), (1, .ref o)] → W p l e (rmx 1 0 0) s m args below meth c H locs 0 0 (MQ below (tQ D cI cZ cS cR N0 (fun v g' => v = none ∧ Inv fr g' ∧ Ex g g' ∧ Sm md_s_wcopy g g')) args s 0 0 (fun q => N0.1 ≤ q)) (F0 m 23 ls []) := by
  have hx := hB.1
  have hb := hB.2.1
  intro kf
  induction kf using Nat.strongRecOn with
  | ind kf ih =>
    intro g1 i H locs ls hT hI hE hM l_i u_i hk hl
    have r1_h : g1.1 h = 6 := Ex.r hE r_h (by decide)
    have r1_o : g1.1 o = 6 := Ex.r hE r_o (by decide)
    refine lv_iload_n hx hb dX5_copyFrom_23 rfl (lv_at hl 0 rfl) ?_
    refine lv_aload_n hx hb dX5_copyFrom_24 rfl (lv_at hl 1 rfl) ?_
    obtain ⟨v_1, e_v_1, l_v_1, u_v_1⟩ := hI.f r1_h 1
    refine t_get (ci := 5) (v := .int v_1) hB hT (ro_ci r1_h rfl) rfl 1 (by decide) k_202 e_v_1 dX5_copyFrom_25 ?_
    refine lv_icmp_ge (tgt := 52) hx hb dX5_copyFrom_28 (by decide) (fun c_2 => ?_) (fun c_2 => ?_)
    · have c_2' : v_1.toInt ≤ i.toInt := i_le c_2 rfl rfl
      exact t_vret hB hr hT (Nat.le_of_ble_eq_true rfl) (Nat.le_of_ble_eq_true rfl) dX5_copyFrom_52 ⟨rfl, hI, hE, hM⟩
    · have c_2' : i.toInt < v_1.toInt := i_nle c_2 rfl rfl
      refine lv_aload_n hx hb dX5_copyFrom_31 rfl (lv_at hl 1 rfl) ?_
      obtain ⟨v_3, e_v_3, r_v_3, n_v_3⟩ := hI.f r1_h 0
      refine t_get (ci := 5) (v := .ref v_3) hB hT (ro_ci r1_h rfl) rfl 0 (by decide) k_199 e_v_3 dX5_copyFrom_32 ?_
      refine lv_iload_n hx hb dX5_copyFrom_35 rfl (lv_at hl 0 rfl) ?_
      have i_q_4 : vp_in i 6 := (i_in (n := 6) rfl (by omega) (by omega))
      obtain ⟨q_4, e_q_4, r_q_4⟩ := hI.q r_v_3 n_v_3 (i_cl i_q_4)
      refine t_aald hB hT (Or.inl r_v_3) n_v_3 i_q_4 e_q_4 dX5_copyFrom_36 ?_
      refine lv_aload_n hx hb dX5_copyFrom_37 rfl (lv_at hl 2 rfl) ?_
      obtain ⟨v_5, e_v_5, r_v_5, n_v_5⟩ := hI.f r1_o 0
      refine t_get (ci := 5) (v := .ref v_5) hB hT (ro_ci r1_o rfl) rfl 0 (by decide) k_199 e_v_5 dX5_copyFrom_38 ?_
      refine lv_iload_n hx hb dX5_copyFrom_41 rfl (lv_at hl 0 rfl) ?_
      have i_q_6 : vp_in i 6 := (i_in (n := 6) rfl (by omega) (by omega))
      obtain ⟨q_6, e_q_6, r_q_6⟩ := hI.q r_v_5 n_v_5 (i_cl i_q_6)
      refine t_aald hB hT (Or.inl r_v_5) n_v_5 i_q_6 e_q_6 dX5_copyFrom_42 ?_
      refine t_callV (n := 1) (ci := 3) (As := [.ref q_6]) (rest := []) hB hT hl.1 (s_copyFrom l D cI cZ cS cR N0 fr g1 hI q_4 q_6 r_q_4 r_q_6) (ro_ci r_q_4 rfl) rfl k_589 k_60 k_586 k_587 k_588 (by decide +kernel) ⟨(Nat.le_of_ble_eq_true rfl), (Nat.le_of_ble_eq_true rfl)⟩ rfl (Nat.le_of_ble_eq_true rfl) ⟨(Nat.le_of_ble_eq_true rfl), (Nat.le_of_ble_eq_true rfl)⟩ dX5_copyFrom_43 (fun v g_7 H locs hp hT => ?_)
      obtain ⟨rfl, hI, x_9, m_8⟩ := hp
      have r_10 : g_7.1 h = 6 := (Ex.r x_9 r1_h (by decide))
      have r_11 : g_7.1 o = 6 := (Ex.r x_9 r1_o (by decide))
      have r_12 : g_7.1 v_3 = 41 := (Ex.r x_9 r_v_3 (by decide))
      have r_13 : g_7.1 q_4 = 4 := (Ex.r x_9 r_q_4 (by decide))
      have r_14 : g_7.1 v_5 = 41 := (Ex.r x_9 r_v_5 (by decide))
      have r_15 : g_7.1 q_6 = 4 := (Ex.r x_9 r_q_6 (by decide))
      have n_16 : g_7.2.2.1 v_3 = 6 := (Ex.n x_9 r_v_3 (by decide) n_v_3)
      have n_17 : g_7.2.2.1 v_5 = 6 := (Ex.n x_9 r_v_5 (by decide) n_v_5)
      have e_18 : g_7.2.1 h 1 = .int v_1 := (Sm.v m_8 r1_h (by decide) rfl e_v_1)
      have e_19 : g_7.2.1 h 0 = .ref v_3 := (Sm.v m_8 r1_h (by decide) rfl e_v_3)
      have e_20 : g_7.2.1 o 0 = .ref v_5 := (Sm.v m_8 r1_o (by decide) rfl e_v_5)
      have hM : Sm md_s_wcopy g g_7 := hM.tr hE (m_8.mo (fun r k h => mdle_s_wcopy_s_copyFrom h))
      have hE : Ex g g_7 := hE.tr x_9
      refine W.eq (g2 := F0 m 46 ls []) rfl ?_
      obtain ⟨z_21, ez_21⟩ : ∃ z : Int32, z = i + 1 := ⟨_, rfl⟩
      have e_z_21 : z_21.toInt = i.toInt + 1 := i_add ez_21 rfl (by decide) (by omega) (by omega)
      refine lv_iinc (v := z_21) (lv' := [(2, .int z_21), (0, .ref h), (1, .ref o)]) hx hb dX5_copyFrom_46 hl (k := 0) rfl (by rw [ez_21]; rfl) (by decide) rfl (fun ls hl => ?_)
      refine lv_goto (tgt := 23) hx hb dX5_copyFrom_49 (by decide) ?_
      exact ih (kf - 1) (by omega) g_7 z_21 H locs ls hT hI hE hM (by omega) (by omega) (by have e0 := z0; omega) (lv_sub hl [0, 1, 2] rfl)
set_option maxHeartbeats 4000000 in
set_option maxRecDepth 100000 in
theorem s_wcopy (l : Launch) (D : va_G) (cI cZ cS cR : ClassId) (N0 : NT) (fr : Int32) (g : GS) (hI : Inv fr g) (h : Nat) (o : Nat) (r_h : g.1 h = 6) (r_o : g.1 o = 6) : Ty l D cI cZ cS cR N0 yX5_copyFrom cX5_copyFrom 3 none 1 0 0 [.ref h, .ref o] g (fun v g' => v = none ∧ Inv fr g' ∧ Ex g g' ∧ Sm md_s_wcopy g g') := by
  refine t_enter (by decide) (Nat.le_of_ble_eq_true rfl) ?_
  intro p e s m args below meth c ls H locs hB hr hin hl hT
  have hx := hB.1
  have hb := hB.2.1
  have hl : lv_has ls 3 [(0, .ref h), (1, .ref o)] := hl
  have hE : Ex g g := Ex.rf
  have hM : Sm md_s_wcopy g g := Sm.rf
  refine lv_aload_n hx hb dX5_copyFrom_0 rfl (lv_at hl 0 rfl) ?_
  refine lv_aload_n hx hb dX5_copyFrom_1 rfl (lv_at hl 1 rfl) ?_
  obtain ⟨v_1, e_v_1, l_v_1, u_v_1⟩ := hI.f r_o 1
  refine t_get (ci := 5) (v := .int v_1) hB hT (ro_ci r_o rfl) rfl 1 (by decide) k_202 e_v_1 dX5_copyFrom_2 ?_
  refine t_put0 (ci := 5) (v := .int v_1) hB hT (ro_ci r_h rfl) (ro_n0 r_h (by decide)) rfl 1 (by decide) k_202 (Or.inl rfl) rfl rfl dX5_copyFrom_5 (fun H locs hT => ?_)
  have hI : Inv fr (sF g h 1 (.int v_1)) := hI.sF (fk r_h (⟨_, rfl, by omega, by omega⟩))
  have hM : Sm md_s_wcopy g (sF g h 1 (.int v_1)) := hM.tr hE (Sm_sF (by rw [r_h]; rfl))
  have hE : Ex g (sF g h 1 (.int v_1)) := hE
  refine lv_aload_n hx hb dX5_copyFrom_8 rfl (lv_at hl 0 rfl) ?_
  refine lv_aload_n hx hb dX5_copyFrom_9 rfl (lv_at hl 1 rfl) ?_
  obtain ⟨v_2, e_v_2⟩ := hI.f r_o 2
  refine t_get (ci := 5) (v := .int v_2) hB hT (ro_ci r_o rfl) rfl 2 (by decide) k_205 e_v_2 dX5_copyFrom_10 ?_
  refine t_put0 (ci := 5) (v := .int v_2) hB hT (ro_ci r_h rfl) (ro_n0 r_h (by decide)) rfl 2 (by decide) k_205 (Or.inl rfl) rfl rfl dX5_copyFrom_13 (fun H locs hT => ?_)
  have hI : Inv fr (sF (sF g h 1 (.int v_1)) h 2 (.int v_2)) := hI.sF (fk r_h (⟨_, rfl⟩))
  have hM : Sm md_s_wcopy g (sF (sF g h 1 (.int v_1)) h 2 (.int v_2)) := hM.tr hE (Sm_sF (by rw [r_h]; rfl))
  have hE : Ex g (sF (sF g h 1 (.int v_1)) h 2 (.int v_2)) := hE
  refine lv_aload_n hx hb dX5_copyFrom_16 rfl (lv_at hl 0 rfl) ?_
  refine lv_iconst (v := 0) hx hb dX5_copyFrom_17 (by decide) ?_
  refine t_put0 (ci := 5) (v := .int 0) hB hT (ro_ci r_h rfl) (ro_n0 r_h (by decide)) rfl 4 (by decide) k_210 (Or.inl rfl) rfl rfl dX5_copyFrom_18 (fun H locs hT => ?_)
  have hI : Inv fr (sF (sF (sF g h 1 (.int v_1)) h 2 (.int v_2)) h 4 (.int 0)) := hI.sF (fk r_h (⟨_, rfl⟩))
  have hM : Sm md_s_wcopy g (sF (sF (sF g h 1 (.int v_1)) h 2 (.int v_2)) h 4 (.int 0)) := hM.tr hE (Sm_sF (by rw [r_h]; rfl))
  have hE : Ex g (sF (sF (sF g h 1 (.int v_1)) h 2 (.int v_2)) h 4 (.int 0)) := hE
  refine lv_iconst (v := 0) hx hb dX5_copyFrom_21 (by decide) ?_
  refine lv_istore_n (lv' := [(2, .int 0), (0, .ref h), (1, .ref o)]) hx hb dX5_copyFrom_22 rfl hl (by decide) rfl (fun ls hl => ?_)
  exact lt_s_wcopy_a l D cI cZ cS cR N0 fr g h o r_h r_o hB hr 6 (sF (sF (sF g h 1 (.int v_1)) h 2 (.int v_2)) h 4 (.int 0)) (0 : Int32) H locs ls hT hI hE hM (by decide) (by decide) (by have e0 := z0; omega) (lv_sub hl [0, 1, 2] rfl)
def md_s_wfresh : Nat → Nat → Bool := fun r k => (r == 4 && k == 0) || (r == 4 && k == 2) || (r == 4 && k == 3) || (r == 4 && k == 4) || (r == 4 && k == 5) || (r == 4 && k == 10) || (r == 4 && k == 11) || (r == 4 && k == 14) || (r == 6 && k == 2) || (r == 6 && k == 4)
theorem mdle_s_wfresh_s_mfresh {r k : Nat} (h : md_s_wfresh r k = false) : md_s_mfresh r k = false := by
  first | rfl | (simp only [md_s_wfresh, md_s_mfresh, Bool.or_eq_false_iff, Bool.and_eq_false_iff, beq_eq_false_iff_ne] at h ⊢; omega)
set_option maxHeartbeats 4000000 in
set_option maxRecDepth 100000 in
theorem lt_s_wfresh_a (l : Launch) (D : va_G) (cI cZ cS cR : ClassId) (N0 : NT) (fr : Int32) (g : GS) (h : Nat) (r_h : g.1 h = 6) {p : Program} {e : Env} {s : State} {m : MethodId} {args : Array Value} {below : List Frame} {meth : Method} {c : Code} (hB : Tz p s m meth c args cX5_makeFresh 2 RX5 D cI cZ cS cR N0) (hr : meth.sig.returnType = none)  : ∀ (kf : Nat) (g1 : GS) (i : Int32)  (H : Heap) (locs : List Loc) (ls : Array Slot), Tv D cI cZ cS cR N0 s.heap H locs g1 → Inv fr g1 → Ex g g1 → Sm md_s_wfresh g g1 → 0 ≤ i.toInt → i.toInt ≤ 6 → 6 ≤ i.toInt + kf → lv_has ls 2 [(1, .int i), (0, .ref h)] → W p l e (rmx 1 0 0) s m args below meth c H locs 0 0 (MQ below (tQ D cI cZ cS cR N0 (fun v g' => v = none ∧ Inv fr g' ∧ Ex g g' ∧ Sm md_s_wfresh g g')) args s 0 0 (fun q => N0.1 ≤ q)) (F0 m 12 ls []) := by
  have hx := hB.1
  have hb := hB.2.1
  intro kf
  induction kf using Nat.strongRecOn with
  | ind kf ih =>
    intro g1 i H locs ls hT hI hE hM l_i u_i hk hl
    have r1_h : g1.1 h = 6 := Ex.r hE r_h (by decide)
    refine lv_iload_n hx hb dX5_makeFresh_12 rfl (lv_at hl 0 rfl) ?_
    refine lv_aload_n hx hb dX5_makeFresh_13 rfl (lv_at hl 1 rfl) ?_
    obtain ⟨v_1, e_v_1, l_v_1, u_v_1⟩ := hI.f r1_h 1
    refine t_get (ci := 5) (v := .int v_1) hB hT (ro_ci r1_h rfl) rfl 1 (by decide) k_202 e_v_1 dX5_makeFresh_14 ?_
    refine lv_icmp_ge (tgt := 35) hx hb dX5_makeFresh_17 (by decide) (fun c_2 => ?_) (fun c_2 => ?_)
    · have c_2' : v_1.toInt ≤ i.toInt := i_le c_2 rfl rfl
      exact t_vret hB hr hT (Nat.le_of_ble_eq_true rfl) (Nat.le_of_ble_eq_true rfl) dX5_makeFresh_35 ⟨rfl, hI, hE, hM⟩
    · have c_2' : i.toInt < v_1.toInt := i_nle c_2 rfl rfl
      refine lv_aload_n hx hb dX5_makeFresh_20 rfl (lv_at hl 1 rfl) ?_
      obtain ⟨v_3, e_v_3, r_v_3, n_v_3⟩ := hI.f r1_h 0
      refine t_get (ci := 5) (v := .ref v_3) hB hT (ro_ci r1_h rfl) rfl 0 (by decide) k_199 e_v_3 dX5_makeFresh_21 ?_
      refine lv_iload_n hx hb dX5_makeFresh_24 rfl (lv_at hl 0 rfl) ?_
      have i_q_4 : vp_in i 6 := (i_in (n := 6) rfl (by omega) (by omega))
      obtain ⟨q_4, e_q_4, r_q_4⟩ := hI.q r_v_3 n_v_3 (i_cl i_q_4)
      refine t_aald hB hT (Or.inl r_v_3) n_v_3 i_q_4 e_q_4 dX5_makeFresh_25 ?_
      refine t_callV (n := 0) (ci := 3) (As := []) (rest := []) hB hT hl.1 (s_mfresh l D cI cZ cS cR N0 fr g1 hI q_4 r_q_4) (ro_ci r_q_4 rfl) rfl k_734 k_60 k_731 k_732 k_733 (by decide +kernel) ⟨(Nat.le_of_ble_eq_true rfl), (Nat.le_of_ble_eq_true rfl)⟩ rfl (Nat.le_of_ble_eq_true rfl) ⟨(Nat.le_of_ble_eq_true rfl), (Nat.le_of_ble_eq_true rfl)⟩ dX5_makeFresh_26 (fun v g_5 H locs hp hT => ?_)
      obtain ⟨rfl, hI, x_7, m_6⟩ := hp
      have r_8 : g_5.1 h = 6 := (Ex.r x_7 r1_h (by decide))
      have r_9 : g_5.1 v_3 = 41 := (Ex.r x_7 r_v_3 (by decide))
      have r_10 : g_5.1 q_4 = 4 := (Ex.r x_7 r_q_4 (by decide))
      have n_11 : g_5.2.2.1 v_3 = 6 := (Ex.n x_7 r_v_3 (by decide) n_v_3)
      have e_12 : g_5.2.1 h 1 = .int v_1 := (Sm.v m_6 r1_h (by decide) rfl e_v_1)
      have e_13 : g_5.2.1 h 0 = .ref v_3 := (Sm.v m_6 r1_h (by decide) rfl e_v_3)
      have hM : Sm md_s_wfresh g g_5 := hM.tr hE (m_6.mo (fun r k h => mdle_s_wfresh_s_mfresh h))
      have hE : Ex g g_5 := hE.tr x_7
      refine W.eq (g2 := F0 m 29 ls []) rfl ?_
      obtain ⟨z_14, ez_14⟩ : ∃ z : Int32, z = i + 1 := ⟨_, rfl⟩
      have e_z_14 : z_14.toInt = i.toInt + 1 := i_add ez_14 rfl (by decide) (by omega) (by omega)
      refine lv_iinc (v := z_14) (lv' := [(1, .int z_14), (0, .ref h)]) hx hb dX5_makeFresh_29 hl (k := 0) rfl (by rw [ez_14]; rfl) (by decide) rfl (fun ls hl => ?_)
      refine lv_goto (tgt := 12) hx hb dX5_makeFresh_32 (by decide) ?_
      exact ih (kf - 1) (by omega) g_5 z_14 H locs ls hT hI hE hM (by omega) (by omega) (by have e0 := z0; omega) (lv_sub hl [0, 1] rfl)
set_option maxHeartbeats 4000000 in
set_option maxRecDepth 100000 in
theorem s_wfresh (l : Launch) (D : va_G) (cI cZ cS cR : ClassId) (N0 : NT) (fr : Int32) (g : GS) (hI : Inv fr g) (h : Nat) (r_h : g.1 h = 6) : Ty l D cI cZ cS cR N0 yX5_makeFresh cX5_makeFresh 2 none 1 0 0 [.ref h] g (fun v g' => v = none ∧ Inv fr g' ∧ Ex g g' ∧ Sm md_s_wfresh g g') := by
  refine t_enter (by decide) (Nat.le_of_ble_eq_true rfl) ?_
  intro p e s m args below meth c ls H locs hB hr hin hl hT
  have hx := hB.1
  have hb := hB.2.1
  have hl : lv_has ls 2 [(0, .ref h)] := hl
  have hE : Ex g g := Ex.rf
  have hM : Sm md_s_wfresh g g := Sm.rf
  refine lv_aload_n hx hb dX5_makeFresh_0 rfl (lv_at hl 0 rfl) ?_
  refine lv_iconst (v := 0) hx hb dX5_makeFresh_1 (by decide) ?_
  refine t_put0 (ci := 5) (v := .int 0) hB hT (ro_ci r_h rfl) (ro_n0 r_h (by decide)) rfl 2 (by decide) k_205 (Or.inl rfl) rfl rfl dX5_makeFresh_2 (fun H locs hT => ?_)
  have hI : Inv fr (sF g h 2 (.int 0)) := hI.sF (fk r_h (⟨_, rfl⟩))
  have hM : Sm md_s_wfresh g (sF g h 2 (.int 0)) := hM.tr hE (Sm_sF (by rw [r_h]; rfl))
  have hE : Ex g (sF g h 2 (.int 0)) := hE
  refine lv_aload_n hx hb dX5_makeFresh_5 rfl (lv_at hl 0 rfl) ?_
  refine lv_iconst (v := 0) hx hb dX5_makeFresh_6 (by decide) ?_
  refine t_put0 (ci := 5) (v := .int 0) hB hT (ro_ci r_h rfl) (ro_n0 r_h (by decide)) rfl 4 (by decide) k_210 (Or.inl rfl) rfl rfl dX5_makeFresh_7 (fun H locs hT => ?_)
  have hI : Inv fr (sF (sF g h 2 (.int 0)) h 4 (.int 0)) := hI.sF (fk r_h (⟨_, rfl⟩))
  have hM : Sm md_s_wfresh g (sF (sF g h 2 (.int 0)) h 4 (.int 0)) := hM.tr hE (Sm_sF (by rw [r_h]; rfl))
  have hE : Ex g (sF (sF g h 2 (.int 0)) h 4 (.int 0)) := hE
  refine lv_iconst (v := 0) hx hb dX5_makeFresh_10 (by decide) ?_
  refine lv_istore_n (lv' := [(1, .int 0), (0, .ref h)]) hx hb dX5_makeFresh_11 rfl hl (by decide) rfl (fun ls hl => ?_)
  exact lt_s_wfresh_a l D cI cZ cS cR N0 fr g h r_h hB hr 6 (sF (sF g h 2 (.int 0)) h 4 (.int 0)) (0 : Int32) H locs ls hT hI hE hM (by decide) (by decide) (by have e0 := z0; omega) (lv_sub hl [0, 1] rfl)
def md_s_holdAll : Nat → Nat → Bool := fun r k => (r == 4 && k == 0) || (r == 4 && k == 2) || (r == 4 && k == 3) || (r == 4 && k == 4) || (r == 4 && k == 5) || (r == 4 && k == 10) || (r == 4 && k == 11) || (r == 4 && k == 14)
set_option maxHeartbeats 4000000 in
set_option maxRecDepth 100000 in
theorem lt_s_holdAll_a (l : Launch) (D : va_G) (cI cZ cS cR : ClassId) (N0 : NT) (fr : Int32) (g : GS) (h : Nat) (n : Int32) (r_h : g.1 h = 6) {p : Program} {e : Env} {s : State} {m : MethodId} {args : Array Value} {below : List Frame} {meth : Method} {c : Code} (hB : Tz p s m meth c args cX5_holdAll 3 RX5 D cI cZ cS cR N0) (hr : meth.sig.returnType = none)  : ∀ (kf : Nat) (g1 : GS) (i : Int32)  (H : Heap) (locs : List Loc) (ls : Array Slot), Tv D cI cZ cS cR N0 s.heap H locs g1 → Inv fr g1 → Ex g g1 → Sm md_s_holdAll g g1 → 0 ≤ i.toInt → i.toInt ≤ 6 → 6 ≤ i.toInt + kf → lv_has ls 3 [(2, .int i), (0, .ref h), (1, .int n)] → W p l e (rmx 1 0 0) s m args below meth c H locs 0 0 (MQ below (tQ D cI cZ cS cR N0 (fun v g' => v = none ∧ Inv fr g' ∧ Ex g g' ∧ Sm md_s_holdAll g g')) args s 0 0 (fun q => N0.1 ≤ q)) (F0 m 2 ls []) := by
  have hx := hB.1
  have hb := hB.2.1
  intro kf
  induction kf using Nat.strongRecOn with
  | ind kf ih =>
    intro g1 i H locs ls hT hI hE hM l_i u_i hk hl
    have r1_h : g1.1 h = 6 := Ex.r hE r_h (by decide)
    refine lv_iload_n hx hb dX5_holdAll_2 rfl (lv_at hl 0 rfl) ?_
    refine lv_aload_n hx hb dX5_holdAll_3 rfl (lv_at hl 1 rfl) ?_
    obtain ⟨v_1, e_v_1, l_v_1, u_v_1⟩ := hI.f r1_h 1
    refine t_get (ci := 5) (v := .int v_1) hB hT (ro_ci r1_h rfl) rfl 1 (by decide) k_202 e_v_1 dX5_holdAll_4 ?_
    refine lv_icmp_ge (tgt := 26) hx hb dX5_holdAll_7 (by decide) (fun c_2 => ?_) (fun c_2 => ?_)
    · have c_2' : v_1.toInt ≤ i.toInt := i_le c_2 rfl rfl
      exact t_vret hB hr hT (Nat.le_of_ble_eq_true rfl) (Nat.le_of_ble_eq_true rfl) dX5_holdAll_26 ⟨rfl, hI, hE, hM⟩
    · have c_2' : i.toInt < v_1.toInt := i_nle c_2 rfl rfl
      refine lv_aload_n hx hb dX5_holdAll_10 rfl (lv_at hl 1 rfl) ?_
      obtain ⟨v_3, e_v_3, r_v_3, n_v_3⟩ := hI.f r1_h 0
      refine t_get (ci := 5) (v := .ref v_3) hB hT (ro_ci r1_h rfl) rfl 0 (by decide) k_199 e_v_3 dX5_holdAll_11 ?_
      refine lv_iload_n hx hb dX5_holdAll_14 rfl (lv_at hl 0 rfl) ?_
      have i_q_4 : vp_in i 6 := (i_in (n := 6) rfl (by omega) (by omega))
      obtain ⟨q_4, e_q_4, r_q_4⟩ := hI.q r_v_3 n_v_3 (i_cl i_q_4)
      refine t_aald hB hT (Or.inl r_v_3) n_v_3 i_q_4 e_q_4 dX5_holdAll_15 ?_
      refine lv_iload_n hx hb dX5_holdAll_16 rfl (lv_at hl 2 rfl) ?_
      refine t_put0 (ci := 3) (v := .int n) hB hT (ro_ci r_q_4 rfl) (ro_n0 r_q_4 (by decide)) rfl 4 (by decide) k_156 (Or.inl rfl) rfl rfl dX5_holdAll_17 (fun H locs hT => ?_)
      have hI : Inv fr (sF g1 q_4 4 (.int n)) := hI.sF (fk r_q_4 (⟨_, rfl⟩))
      have hM : Sm md_s_holdAll g (sF g1 q_4 4 (.int n)) := hM.tr hE (Sm_sF (by rw [r_q_4]; rfl))
      have hE : Ex g (sF g1 q_4 4 (.int n)) := hE
      obtain ⟨z_5, ez_5⟩ : ∃ z : Int32, z = i + 1 := ⟨_, rfl⟩
      have e_z_5 : z_5.toInt = i.toInt + 1 := i_add ez_5 rfl (by decide) (by omega) (by omega)
      refine lv_iinc (v := z_5) (lv' := [(2, .int z_5), (0, .ref h), (1, .int n)]) hx hb dX5_holdAll_20 hl (k := 0) rfl (by rw [ez_5]; rfl) (by decide) rfl (fun ls hl => ?_)
      refine lv_goto (tgt := 2) hx hb dX5_holdAll_23 (by decide) ?_
      exact ih (kf - 1) (by omega) (sF g1 q_4 4 (.int n)) z_5 H locs ls hT hI hE hM (by omega) (by omega) (by have e0 := z0; omega) (lv_sub hl [0, 1, 2] rfl)
set_option maxHeartbeats 4000000 in
set_option maxRecDepth 100000 in
theorem s_holdAll (l : Launch) (D : va_G) (cI cZ cS cR : ClassId) (N0 : NT) (fr : Int32) (g : GS) (hI : Inv fr g) (h : Nat) (n : Int32) (r_h : g.1 h = 6) : Ty l D cI cZ cS cR N0 yX5_holdAll cX5_holdAll 3 none 1 0 0 [.ref h, .int n] g (fun v g' => v = none ∧ Inv fr g' ∧ Ex g g' ∧ Sm md_s_holdAll g g') := by
  refine t_enter (by decide) (Nat.le_of_ble_eq_true rfl) ?_
  intro p e s m args below meth c ls H locs hB hr hin hl hT
  have hx := hB.1
  have hb := hB.2.1
  have hl : lv_has ls 3 [(0, .ref h), (1, .int n)] := hl
  have hE : Ex g g := Ex.rf
  have hM : Sm md_s_holdAll g g := Sm.rf
  refine lv_iconst (v := 0) hx hb dX5_holdAll_0 (by decide) ?_
  refine lv_istore_n (lv' := [(2, .int 0), (0, .ref h), (1, .int n)]) hx hb dX5_holdAll_1 rfl hl (by decide) rfl (fun ls hl => ?_)
  exact lt_s_holdAll_a l D cI cZ cS cR N0 fr g h n r_h hB hr 6 g (0 : Int32) H locs ls hT hI hE hM (by decide) (by decide) (by have e0 := z0; omega) (lv_sub hl [0, 1, 2] rfl)
def md_s_addMends : Nat → Nat → Bool := fun r k => (r == 4 && k == 0) || (r == 4 && k == 2) || (r == 4 && k == 3) || (r == 4 && k == 4) || (r == 4 && k == 5) || (r == 4 && k == 10) || (r == 4 && k == 11) || (r == 4 && k == 14)
set_option maxHeartbeats 4000000 in
set_option maxRecDepth 100000 in
theorem lt_s_addMends_a (l : Launch) (D : va_G) (cI cZ cS cR : ClassId) (N0 : NT) (fr : Int32) (g : GS) (h : Nat) (n : Int32) (r_h : g.1 h = 6) {p : Program} {e : Env} {s : State} {m : MethodId} {args : Array Value} {below : List Frame} {meth : Method} {c : Code} (hB : Tz p s m meth c args cX5_addMends 3 RX5 D cI cZ cS cR N0) (hr : meth.sig.returnType = none)  : ∀ (kf : Nat) (g1 : GS) (i : Int32)  (H : Heap) (locs : List Loc) (ls : Array Slot), Tv D cI cZ cS cR N0 s.heap H locs g1 → Inv fr g1 → Ex g g1 → Sm md_s_addMends g g1 → 0 ≤ i.toInt → i.toInt ≤ 6 → 6 ≤ i.toInt + kf → lv_has ls 3 [(2, .int i), (0, .ref h), (1, .int n)] → W p l e (rmx 1 0 0) s m args below meth c H locs 0 0 (MQ below (tQ D cI cZ cS cR N0 (fun v g' => v = none ∧ Inv fr g' ∧ Ex g g' ∧ Sm md_s_addMends g g')) args s 0 0 (fun q => N0.1 ≤ q)) (F0 m 2 ls []) := by
  have hx := hB.1
  have hb := hB.2.1
  intro kf
  induction kf using Nat.strongRecOn with
  | ind kf ih =>
    intro g1 i H locs ls hT hI hE hM l_i u_i hk hl
    have r1_h : g1.1 h = 6 := Ex.r hE r_h (by decide)
    refine lv_iload_n hx hb dX5_addMends_2 rfl (lv_at hl 0 rfl) ?_
    refine lv_aload_n hx hb dX5_addMends_3 rfl (lv_at hl 1 rfl) ?_
    obtain ⟨v_1, e_v_1, l_v_1, u_v_1⟩ := hI.f r1_h 1
    refine t_get (ci := 5) (v := .int v_1) hB hT (ro_ci r1_h rfl) rfl 1 (by decide) k_202 e_v_1 dX5_addMends_4 ?_
    refine lv_icmp_ge (tgt := 38) hx hb dX5_addMends_7 (by decide) (fun c_2 => ?_) (fun c_2 => ?_)
    · have c_2' : v_1.toInt ≤ i.toInt := i_le c_2 rfl rfl
      exact t_vret hB hr hT (Nat.le_of_ble_eq_true rfl) (Nat.le_of_ble_eq_true rfl) dX5_addMends_38 ⟨rfl, hI, hE, hM⟩
    · have c_2' : i.toInt < v_1.toInt := i_nle c_2 rfl rfl
      refine lv_aload_n hx hb dX5_addMends_10 rfl (lv_at hl 1 rfl) ?_
      obtain ⟨v_3, e_v_3, r_v_3, n_v_3⟩ := hI.f r1_h 0
      refine t_get (ci := 5) (v := .ref v_3) hB hT (ro_ci r1_h rfl) rfl 0 (by decide) k_199 e_v_3 dX5_addMends_11 ?_
      refine lv_iload_n hx hb dX5_addMends_14 rfl (lv_at hl 0 rfl) ?_
      have i_q_4 : vp_in i 6 := (i_in (n := 6) rfl (by omega) (by omega))
      obtain ⟨q_4, e_q_4, r_q_4⟩ := hI.q r_v_3 n_v_3 (i_cl i_q_4)
      refine t_aald hB hT (Or.inl r_v_3) n_v_3 i_q_4 e_q_4 dX5_addMends_15 ?_
      refine lv_dup hx hb dX5_addMends_16 rfl ?_
      obtain ⟨v_5, e_v_5⟩ := hI.f r_q_4 3
      refine t_get (ci := 3) (v := .int v_5) hB hT (ro_ci r_q_4 rfl) rfl 3 (by decide) k_154 e_v_5 dX5_addMends_17 ?_
      refine lv_iload_n hx hb dX5_addMends_20 rfl (lv_at hl 2 rfl) ?_
      refine lv_iconst (v := 4) hx hb dX5_addMends_21 (by decide) ?_
      refine lv_iload_n hx hb dX5_addMends_22 rfl (lv_at hl 0 rfl) ?_
      refine lv_imul hx hb dX5_addMends_23 ?_
      refine lv_topi (fun z_6 ez_6 => ?_)
      have e_z_6 : z_6.toInt = 4 * i.toInt := i_mul ez_6 (by decide) rfl (by omega) (by omega)
      refine lv_ishr hx hb dX5_addMends_24 ?_
      refine lv_topi (fun z_7 ez_7 => ?_)
      refine lv_bipush (v := 15) hx hb dX5_addMends_25 (by decide) ?_
      refine lv_iand hx hb dX5_addMends_27 ?_
      refine lv_topi (fun z_8 ez_8 => ?_)
      have e_z_8 := i_and 4 (b := 15) ez_8 (by decide) (by decide) (by decide)
      refine lv_ior hx hb dX5_addMends_28 ?_
      refine lv_topi (fun z_9 ez_9 => ?_)
      refine t_put0 (ci := 3) (v := .int z_9) hB hT (ro_ci r_q_4 rfl) (ro_n0 r_q_4 (by decide)) rfl 3 (by decide) k_154 (Or.inl rfl) rfl rfl dX5_addMends_29 (fun H locs hT => ?_)
      have hI : Inv fr (sF g1 q_4 3 (.int z_9)) := hI.sF (fk r_q_4 (⟨_, rfl⟩))
      have hM : Sm md_s_addMends g (sF g1 q_4 3 (.int z_9)) := hM.tr hE (Sm_sF (by rw [r_q_4]; rfl))
      have hE : Ex g (sF g1 q_4 3 (.int z_9)) := hE
      obtain ⟨z_10, ez_10⟩ : ∃ z : Int32, z = i + 1 := ⟨_, rfl⟩
      have e_z_10 : z_10.toInt = i.toInt + 1 := i_add ez_10 rfl (by decide) (by omega) (by omega)
      refine lv_iinc (v := z_10) (lv' := [(2, .int z_10), (0, .ref h), (1, .int n)]) hx hb dX5_addMends_32 hl (k := 0) rfl (by rw [ez_10]; rfl) (by decide) rfl (fun ls hl => ?_)
      refine lv_goto (tgt := 2) hx hb dX5_addMends_35 (by decide) ?_
      exact ih (kf - 1) (by omega) (sF g1 q_4 3 (.int z_9)) z_10 H locs ls hT hI hE hM (by omega) (by omega) (by have e0 := z0; omega) (lv_sub hl [0, 1, 2] rfl)
set_option maxHeartbeats 4000000 in
set_option maxRecDepth 100000 in
theorem s_addMends (l : Launch) (D : va_G) (cI cZ cS cR : ClassId) (N0 : NT) (fr : Int32) (g : GS) (hI : Inv fr g) (h : Nat) (n : Int32) (r_h : g.1 h = 6) : Ty l D cI cZ cS cR N0 yX5_addMends cX5_addMends 3 none 1 0 0 [.ref h, .int n] g (fun v g' => v = none ∧ Inv fr g' ∧ Ex g g' ∧ Sm md_s_addMends g g') := by
  refine t_enter (by decide) (Nat.le_of_ble_eq_true rfl) ?_
  intro p e s m args below meth c ls H locs hB hr hin hl hT
  have hx := hB.1
  have hb := hB.2.1
  have hl : lv_has ls 3 [(0, .ref h), (1, .int n)] := hl
  have hE : Ex g g := Ex.rf
  have hM : Sm md_s_addMends g g := Sm.rf
  refine lv_iconst (v := 0) hx hb dX5_addMends_0 (by decide) ?_
  refine lv_istore_n (lv' := [(2, .int 0), (0, .ref h), (1, .int n)]) hx hb dX5_addMends_1 rfl hl (by decide) rfl (fun ls hl => ?_)
  exact lt_s_addMends_a l D cI cZ cS cR N0 fr g h n r_h hB hr 6 g (0 : Int32) H locs ls hT hI hE hM (by decide) (by decide) (by have e0 := z0; omega) (lv_sub hl [0, 1, 2] rfl)
def md_s_wstores : Nat → Nat → Bool := fun _ _ => false
theorem mdle_s_wstores_s_sameStore {r k : Nat} (h : md_s_wstores r k = false) : md_s_sameStore r k = false := by
  first | rfl | (simp only [md_s_wstores, md_s_sameStore, Bool.or_eq_false_iff, Bool.and_eq_false_iff, beq_eq_false_iff_ne] at h ⊢; omega)
set_option maxHeartbeats 4000000 in
set_option maxRecDepth 100000 in
theorem lt_s_wstores_a (l : Launch) (D : va_G) (cI cZ cS cR : ClassId) (N0 : NT) (fr : Int32) (g : GS) (h : Nat) (o : Nat) (r_h : g.1 h = 6) (r_o : g.1 o = 6) {p : Program} {e : Env} {s : State} {m : MethodId} {args : Array Value} {below : List Frame} {meth : Method} {c : Code} (hB : Tz p s m meth c args cX5_hasSameStores 3 RX5 D cI cZ cS cR N0) (hr : meth.sig.returnType = (some .boolean))  : ∀ (kf : Nat) (g1 : GS) (i : Int32)  (H : Heap) (locs : List Loc) (ls : Array Slot), Tv D cI cZ cS cR N0 s.heap H locs g1 → Inv fr g1 → Ex g g1 → Sm md_s_wstores g g1 → 0 ≤ i.toInt → i.toInt ≤ 6 → 6 ≤ i.toInt + kf → lv_has ls 3 [(2, .int i), (0, .ref h), (1, .ref o)] → W p l e (rmx 1 0 0) s m args below meth c H locs 0 0 (MQ below (tQ D cI cZ cS cR N0 (fun v g' => ∃ (r : Int32), v = some (.int r) ∧ Inv fr g' ∧ Ex g g' ∧ Sm md_s_wstores g g' ∧ (r = 1 ∨ r = 0))) args s 0 0 (fun q => N0.1 ≤ q)) (F0 m 2 ls []) := by
  have hx := hB.1
  have hb := hB.2.1
  intro kf
  induction kf using Nat.strongRecOn with
  | ind kf ih =>
    intro g1 i H locs ls hT hI hE hM l_i u_i hk hl
    have r1_h : g1.1 h = 6 := Ex.r hE r_h (by decide)
    have r1_o : g1.1 o = 6 := Ex.r hE r_o (by decide)
    refine lv_iload_n hx hb dX5_hasSameStores_2 rfl (lv_at hl 0 rfl) ?_
    refine lv_aload_n hx hb dX5_hasSameStores_3 rfl (lv_at hl 1 rfl) ?_
    obtain ⟨v_1, e_v_1, l_v_1, u_v_1⟩ := hI.f r1_h 1
    refine t_get (ci := 5) (v := .int v_1) hB hT (ro_ci r1_h rfl) rfl 1 (by decide) k_202 e_v_1 dX5_hasSameStores_4 ?_
    refine lv_icmp_ge (tgt := 36) hx hb dX5_hasSameStores_7 (by decide) (fun c_2 => ?_) (fun c_2 => ?_)
    · have c_2' : v_1.toInt ≤ i.toInt := i_le c_2 rfl rfl
      refine lv_iconst (v := 1) hx hb dX5_hasSameStores_36 (by decide) ?_
      exact t_zret hB hr rfl hT (Nat.le_of_ble_eq_true rfl) (Nat.le_of_ble_eq_true rfl) dX5_hasSameStores_37 ⟨1, rfl, hI, hE, hM, (Or.inl rfl)⟩
    · have c_2' : i.toInt < v_1.toInt := i_nle c_2 rfl rfl
      refine lv_aload_n hx hb dX5_hasSameStores_10 rfl (lv_at hl 1 rfl) ?_
      obtain ⟨v_3, e_v_3, r_v_3, n_v_3⟩ := hI.f r1_h 0
      refine t_get (ci := 5) (v := .ref v_3) hB hT (ro_ci r1_h rfl) rfl 0 (by decide) k_199 e_v_3 dX5_hasSameStores_11 ?_
      refine lv_iload_n hx hb dX5_hasSameStores_14 rfl (lv_at hl 0 rfl) ?_
      have i_q_4 : vp_in i 6 := (i_in (n := 6) rfl (by omega) (by omega))
      obtain ⟨q_4, e_q_4, r_q_4⟩ := hI.q r_v_3 n_v_3 (i_cl i_q_4)
      refine t_aald hB hT (Or.inl r_v_3) n_v_3 i_q_4 e_q_4 dX5_hasSameStores_15 ?_
      refine lv_aload_n hx hb dX5_hasSameStores_16 rfl (lv_at hl 2 rfl) ?_
      obtain ⟨v_5, e_v_5, r_v_5, n_v_5⟩ := hI.f r1_o 0
      refine t_get (ci := 5) (v := .ref v_5) hB hT (ro_ci r1_o rfl) rfl 0 (by decide) k_199 e_v_5 dX5_hasSameStores_17 ?_
      refine lv_iload_n hx hb dX5_hasSameStores_20 rfl (lv_at hl 0 rfl) ?_
      have i_q_6 : vp_in i 6 := (i_in (n := 6) rfl (by omega) (by omega))
      obtain ⟨q_6, e_q_6, r_q_6⟩ := hI.q r_v_5 n_v_5 (i_cl i_q_6)
      refine t_aald hB hT (Or.inl r_v_5) n_v_5 i_q_6 e_q_6 dX5_hasSameStores_21 ?_
      refine t_callV (n := 1) (ci := 3) (As := [.ref q_6]) (rest := []) hB hT hl.1 (s_sameStore l D cI cZ cS cR N0 fr g1 hI q_4 q_6 r_q_4 r_q_6) (ro_ci r_q_4 rfl) rfl k_610 k_60 k_607 k_608 k_609 (by decide +kernel) ⟨(Nat.le_of_ble_eq_true rfl), (Nat.le_of_ble_eq_true rfl)⟩ rfl (Nat.le_of_ble_eq_true rfl) ⟨(Nat.le_of_ble_eq_true rfl), (Nat.le_of_ble_eq_true rfl)⟩ dX5_hasSameStores_22 (fun v g_7 H locs hp hT => ?_)
      obtain ⟨r_8, rfl, hI, x_11, m_10, f_9⟩ := hp
      have r_12 : g_7.1 h = 6 := (Ex.r x_11 r1_h (by decide))
      have r_13 : g_7.1 o = 6 := (Ex.r x_11 r1_o (by decide))
      have r_14 : g_7.1 v_3 = 41 := (Ex.r x_11 r_v_3 (by decide))
      have r_15 : g_7.1 q_4 = 4 := (Ex.r x_11 r_q_4 (by decide))
      have r_16 : g_7.1 v_5 = 41 := (Ex.r x_11 r_v_5 (by decide))
      have r_17 : g_7.1 q_6 = 4 := (Ex.r x_11 r_q_6 (by decide))
      have n_18 : g_7.2.2.1 v_3 = 6 := (Ex.n x_11 r_v_3 (by decide) n_v_3)
      have n_19 : g_7.2.2.1 v_5 = 6 := (Ex.n x_11 r_v_5 (by decide) n_v_5)
      have e_20 : g_7.2.1 h 1 = .int v_1 := (Sm.v m_10 r1_h (by decide) rfl e_v_1)
      have e_21 : g_7.2.1 h 0 = .ref v_3 := (Sm.v m_10 r1_h (by decide) rfl e_v_3)
      have e_22 : g_7.2.1 o 0 = .ref v_5 := (Sm.v m_10 r1_o (by decide) rfl e_v_5)
      have hM : Sm md_s_wstores g g_7 := hM.tr hE (m_10.mo (fun r k h => mdle_s_wstores_s_sameStore h))
      have hE : Ex g g_7 := hE.tr x_11
      refine W.eq (g2 := F0 m 25 ls [.int r_8]) rfl ?_
      rcases f_9 with rfl | rfl
      · refine W.eq (g2 := F0 m 25 ls [.int 1]) rfl ?_
        refine lv_if_ne (tgt := 30) hx hb dX5_hasSameStores_25 (by decide) (fun c_ => ?_) (fun c_ => absurd c_ (by decide))
        obtain ⟨z_23, ez_23⟩ : ∃ z : Int32, z = i + 1 := ⟨_, rfl⟩
        have e_z_23 : z_23.toInt = i.toInt + 1 := i_add ez_23 rfl (by decide) (by omega) (by omega)
        refine lv_iinc (v := z_23) (lv' := [(2, .int z_23), (0, .ref h), (1, .ref o)]) hx hb dX5_hasSameStores_30 hl (k := 0) rfl (by rw [ez_23]; rfl) (by decide) rfl (fun ls hl => ?_)
        refine lv_goto (tgt := 2) hx hb dX5_hasSameStores_33 (by decide) ?_
        exact ih (kf - 1) (by omega) g_7 z_23 H locs ls hT hI hE hM (by omega) (by omega) (by have e0 := z0; omega) (lv_sub hl [0, 1, 2] rfl)
      · refine W.eq (g2 := F0 m 25 ls [.int 0]) rfl ?_
        refine lv_if_ne (tgt := 30) hx hb dX5_hasSameStores_25 (by decide) (fun c_ => absurd (by decide) c_) (fun c_ => ?_)
        refine lv_iconst (v := 0) hx hb dX5_hasSameStores_28 (by decide) ?_
        exact t_zret hB hr rfl hT (Nat.le_of_ble_eq_true rfl) (Nat.le_of_ble_eq_true rfl) dX5_hasSameStores_29 ⟨0, rfl, hI, hE, hM, (Or.inr rfl)⟩
set_option maxHeartbeats 4000000 in
set_option maxRecDepth 100000 in
theorem s_wstores (l : Launch) (D : va_G) (cI cZ cS cR : ClassId) (N0 : NT) (fr : Int32) (g : GS) (hI : Inv fr g) (h : Nat) (o : Nat) (r_h : g.1 h = 6) (r_o : g.1 o = 6) : Ty l D cI cZ cS cR N0 yX5_hasSameStores cX5_hasSameStores 3 (some .boolean) 1 0 0 [.ref h, .ref o] g (fun v g' => ∃ (r : Int32), v = some (.int r) ∧ Inv fr g' ∧ Ex g g' ∧ Sm md_s_wstores g g' ∧ (r = 1 ∨ r = 0)) := by
  refine t_enter (by decide) (Nat.le_of_ble_eq_true rfl) ?_
  intro p e s m args below meth c ls H locs hB hr hin hl hT
  have hx := hB.1
  have hb := hB.2.1
  have hl : lv_has ls 3 [(0, .ref h), (1, .ref o)] := hl
  have hE : Ex g g := Ex.rf
  have hM : Sm md_s_wstores g g := Sm.rf
  refine lv_iconst (v := 0) hx hb dX5_hasSameStores_0 (by decide) ?_
  refine lv_istore_n (lv' := [(2, .int 0), (0, .ref h), (1, .ref o)]) hx hb dX5_hasSameStores_1 rfl hl (by decide) rfl (fun ls hl => ?_)
  exact lt_s_wstores_a l D cI cZ cS cR N0 fr g h o r_h r_o hB hr 6 g (0 : Int32) H locs ls hT hI hE hM (by decide) (by decide) (by have e0 := z0; omega) (lv_sub hl [0, 1, 2] rfl)
def md_s_wcounts : Nat → Nat → Bool := fun _ _ => false
set_option maxHeartbeats 4000000 in
set_option maxRecDepth 100000 in
theorem lt_s_wcounts_a (l : Launch) (D : va_G) (cI cZ cS cR : ClassId) (N0 : NT) (fr : Int32) (g : GS) (h : Nat) (o : Nat) (r_h : g.1 h = 6) (r_o : g.1 o = 6) {p : Program} {e : Env} {s : State} {m : MethodId} {args : Array Value} {below : List Frame} {meth : Method} {c : Code} (hB : Tz p s m meth c args cX5_hasSameCounts 3 RX5 D cI cZ cS cR N0) (hr : meth.sig.returnType = (some .boolean))  : ∀ (kf : Nat) (g1 : GS) (i : Int32)  (H : Heap) (locs : List Loc) (ls : Array Slot), Tv D cI cZ cS cR N0 s.heap H locs g1 → Inv fr g1 → Ex g g1 → Sm md_s_wcounts g g1 → 0 ≤ i.toInt → i.toInt ≤ 6 → 6 ≤ i.toInt + kf → lv_has ls 3 [(2, .int i), (0, .ref h), (1, .ref o)] → W p l e (rmx 1 0 0) s m args below meth c H locs 0 0 (MQ below (tQ D cI cZ cS cR N0 (fun v g' => ∃ (r : Int32), v = some (.int r) ∧ Inv fr g' ∧ Ex g g' ∧ Sm md_s_wcounts g g' ∧ (r = 1 ∨ r = 0))) args s 0 0 (fun q => N0.1 ≤ q)) (F0 m 2 ls []) := by
  have hx := hB.1
  have hb := hB.2.1
  intro kf
  induction kf using Nat.strongRecOn with
  | ind kf ih =>
    intro g1 i H locs ls hT hI hE hM l_i u_i hk hl
    have r1_h : g1.1 h = 6 := Ex.r hE r_h (by decide)
    have r1_o : g1.1 o = 6 := Ex.r hE r_o (by decide)
    refine lv_iload_n hx hb dX5_hasSameCounts_2 rfl (lv_at hl 0 rfl) ?_
    refine lv_aload_n hx hb dX5_hasSameCounts_3 rfl (lv_at hl 1 rfl) ?_
    obtain ⟨v_1, e_v_1, l_v_1, u_v_1⟩ := hI.f r1_h 1
    refine t_get (ci := 5) (v := .int v_1) hB hT (ro_ci r1_h rfl) rfl 1 (by decide) k_202 e_v_1 dX5_hasSameCounts_4 ?_
    refine lv_icmp_ge (tgt := 39) hx hb dX5_hasSameCounts_7 (by decide) (fun c_2 => ?_) (fun c_2 => ?_)
    · have c_2' : v_1.toInt ≤ i.toInt := i_le c_2 rfl rfl
      refine lv_iconst (v := 1) hx hb dX5_hasSameCounts_39 (by decide) ?_
      exact t_zret hB hr rfl hT (Nat.le_of_ble_eq_true rfl) (Nat.le_of_ble_eq_true rfl) dX5_hasSameCounts_40 ⟨1, rfl, hI, hE, hM, (Or.inl rfl)⟩
    · have c_2' : i.toInt < v_1.toInt := i_nle c_2 rfl rfl
      refine lv_aload_n hx hb dX5_hasSameCounts_10 rfl (lv_at hl 1 rfl) ?_
      obtain ⟨v_3, e_v_3, r_v_3, n_v_3⟩ := hI.f r1_h 0
      refine t_get (ci := 5) (v := .ref v_3) hB hT (ro_ci r1_h rfl) rfl 0 (by decide) k_199 e_v_3 dX5_hasSameCounts_11 ?_
      refine lv_iload_n hx hb dX5_hasSameCounts_14 rfl (lv_at hl 0 rfl) ?_
      have i_q_4 : vp_in i 6 := (i_in (n := 6) rfl (by omega) (by omega))
      obtain ⟨q_4, e_q_4, r_q_4⟩ := hI.q r_v_3 n_v_3 (i_cl i_q_4)
      refine t_aald hB hT (Or.inl r_v_3) n_v_3 i_q_4 e_q_4 dX5_hasSameCounts_15 ?_
      obtain ⟨v_5, e_v_5⟩ := hI.f r_q_4 2
      refine t_get (ci := 3) (v := .int v_5) hB hT (ro_ci r_q_4 rfl) rfl 2 (by decide) k_151 e_v_5 dX5_hasSameCounts_16 ?_
      refine lv_aload_n hx hb dX5_hasSameCounts_19 rfl (lv_at hl 2 rfl) ?_
      obtain ⟨v_6, e_v_6, r_v_6, n_v_6⟩ := hI.f r1_o 0
      refine t_get (ci := 5) (v := .ref v_6) hB hT (ro_ci r1_o rfl) rfl 0 (by decide) k_199 e_v_6 dX5_hasSameCounts_20 ?_
      refine lv_iload_n hx hb dX5_hasSameCounts_23 rfl (lv_at hl 0 rfl) ?_
      have i_q_7 : vp_in i 6 := (i_in (n := 6) rfl (by omega) (by omega))
      obtain ⟨q_7, e_q_7, r_q_7⟩ := hI.q r_v_6 n_v_6 (i_cl i_q_7)
      refine t_aald hB hT (Or.inl r_v_6) n_v_6 i_q_7 e_q_7 dX5_hasSameCounts_24 ?_
      obtain ⟨v_8, e_v_8⟩ := hI.f r_q_7 2
      refine t_get (ci := 3) (v := .int v_8) hB hT (ro_ci r_q_7 rfl) rfl 2 (by decide) k_151 e_v_8 dX5_hasSameCounts_25 ?_
      refine lv_icmp_eq (tgt := 33) hx hb dX5_hasSameCounts_28 (by decide) (fun c_9 => ?_) (fun c_9 => ?_)
      · have c_9' : v_5.toInt = v_8.toInt := i_eq c_9 rfl rfl
        obtain ⟨z_10, ez_10⟩ : ∃ z : Int32, z = i + 1 := ⟨_, rfl⟩
        have e_z_10 : z_10.toInt = i.toInt + 1 := i_add ez_10 rfl (by decide) (by omega) (by omega)
        refine lv_iinc (v := z_10) (lv' := [(2, .int z_10), (0, .ref h), (1, .ref o)]) hx hb dX5_hasSameCounts_33 hl (k := 0) rfl (by rw [ez_10]; rfl) (by decide) rfl (fun ls hl => ?_)
        refine lv_goto (tgt := 2) hx hb dX5_hasSameCounts_36 (by decide) ?_
        exact ih (kf - 1) (by omega) g1 z_10 H locs ls hT hI hE hM (by omega) (by omega) (by have e0 := z0; omega) (lv_sub hl [0, 1, 2] rfl)
      · have c_9' : v_5.toInt ≠ v_8.toInt := i_ne c_9 rfl rfl
        refine lv_iconst (v := 0) hx hb dX5_hasSameCounts_31 (by decide) ?_
        exact t_zret hB hr rfl hT (Nat.le_of_ble_eq_true rfl) (Nat.le_of_ble_eq_true rfl) dX5_hasSameCounts_32 ⟨0, rfl, hI, hE, hM, (Or.inr rfl)⟩
set_option maxHeartbeats 4000000 in
set_option maxRecDepth 100000 in
theorem s_wcounts (l : Launch) (D : va_G) (cI cZ cS cR : ClassId) (N0 : NT) (fr : Int32) (g : GS) (hI : Inv fr g) (h : Nat) (o : Nat) (r_h : g.1 h = 6) (r_o : g.1 o = 6) : Ty l D cI cZ cS cR N0 yX5_hasSameCounts cX5_hasSameCounts 3 (some .boolean) 1 0 0 [.ref h, .ref o] g (fun v g' => ∃ (r : Int32), v = some (.int r) ∧ Inv fr g' ∧ Ex g g' ∧ Sm md_s_wcounts g g' ∧ (r = 1 ∨ r = 0)) := by
  refine t_enter (by decide) (Nat.le_of_ble_eq_true rfl) ?_
  intro p e s m args below meth c ls H locs hB hr hin hl hT
  have hx := hB.1
  have hb := hB.2.1
  have hl : lv_has ls 3 [(0, .ref h), (1, .ref o)] := hl
  have hE : Ex g g := Ex.rf
  have hM : Sm md_s_wcounts g g := Sm.rf
  refine lv_iconst (v := 0) hx hb dX5_hasSameCounts_0 (by decide) ?_
  refine lv_istore_n (lv' := [(2, .int 0), (0, .ref h), (1, .ref o)]) hx hb dX5_hasSameCounts_1 rfl hl (by decide) rfl (fun ls hl => ?_)
  exact lt_s_wcounts_a l D cI cZ cS cR N0 fr g h o r_h r_o hB hr 6 g (0 : Int32) H locs ls hT hI hE hM (by decide) (by decide) (by have e0 := z0; omega) (lv_sub hl [0, 1, 2] rfl)
def md_s_didTheSame : Nat → Nat → Bool := fun _ _ => false
set_option maxHeartbeats 4000000 in
set_option maxRecDepth 100000 in
theorem lt_s_didTheSame_a (l : Launch) (D : va_G) (cI cZ cS cR : ClassId) (N0 : NT) (fr : Int32) (g : GS) (h : Nat) (o : Nat) (r_h : g.1 h = 6) (r_o : g.1 o = 6) {p : Program} {e : Env} {s : State} {m : MethodId} {args : Array Value} {below : List Frame} {meth : Method} {c : Code} (hB : Tz p s m meth c args cX5_didTheSame 3 RX5 D cI cZ cS cR N0) (hr : meth.sig.returnType = (some .boolean))  : ∀ (kf : Nat) (g1 : GS) (i : Int32)  (H : Heap) (locs : List Loc) (ls : Array Slot), Tv D cI cZ cS cR N0 s.heap H locs g1 → Inv fr g1 → Ex g g1 → Sm md_s_didTheSame g g1 → 0 ≤ i.toInt → i.toInt ≤ 512 → 512 ≤ i.toInt + kf → lv_has ls 3 [(2, .int i), (0, .ref h), (1, .ref o)] → W p l e (rmx 0 0 0) s m args below meth c H locs 0 0 (MQ below (tQ D cI cZ cS cR N0 (fun v g' => ∃ (r : Int32), v = some (.int r) ∧ Inv fr g' ∧ Ex g g' ∧ Sm md_s_didTheSame g g' ∧ (r = 1 ∨ r = 0))) args s 0 0 (fun q => N0.1 ≤ q)) (F0 m 15 ls []) := by
  have hx := hB.1
  have hb := hB.2.1
  intro kf
  induction kf using Nat.strongRecOn with
  | ind kf ih =>
    intro g1 i H locs ls hT hI hE hM l_i u_i hk hl
    have r1_h : g1.1 h = 6 := Ex.r hE r_h (by decide)
    have r1_o : g1.1 o = 6 := Ex.r hE r_o (by decide)
    refine lv_iload_n hx hb dX5_didTheSame_15 rfl (lv_at hl 0 rfl) ?_
    refine lv_aload_n hx hb dX5_didTheSame_16 rfl (lv_at hl 1 rfl) ?_
    obtain ⟨v_1, e_v_1⟩ := hI.f r1_h 4
    refine t_get (ci := 5) (v := .int v_1) hB hT (ro_ci r1_h rfl) rfl 4 (by decide) k_210 e_v_1 dX5_didTheSame_17 ?_
    refine lv_icmp_ge (tgt := 53) hx hb dX5_didTheSame_20 (by decide) (fun c_2 => ?_) (fun c_2 => ?_)
    · have c_2' : v_1.toInt ≤ i.toInt := i_le c_2 rfl rfl
      refine lv_iconst (v := 1) hx hb dX5_didTheSame_53 (by decide) ?_
      exact t_zret hB hr rfl hT (Nat.le_of_ble_eq_true rfl) (Nat.le_of_ble_eq_true rfl) dX5_didTheSame_54 ⟨1, rfl, hI, hE, hM, (Or.inl rfl)⟩
    · have c_2' : i.toInt < v_1.toInt := i_nle c_2 rfl rfl
      refine lv_iload_n hx hb dX5_didTheSame_23 rfl (lv_at hl 0 rfl) ?_
      refine lv_sipush (v := 512) hx hb dX5_didTheSame_24 (by decide) ?_
      refine lv_icmp_ge (tgt := 53) hx hb dX5_didTheSame_27 (by decide) (fun c_3 => ?_) (fun c_3 => ?_)
      · have c_3' : 512 ≤ i.toInt := i_le c_3 (by decide) rfl
        refine lv_iconst (v := 1) hx hb dX5_didTheSame_53 (by decide) ?_
        exact t_zret hB hr rfl hT (Nat.le_of_ble_eq_true rfl) (Nat.le_of_ble_eq_true rfl) dX5_didTheSame_54 ⟨1, rfl, hI, hE, hM, (Or.inl rfl)⟩
      · have c_3' : i.toInt < 512 := i_nle c_3 (by decide) rfl
        refine lv_aload_n hx hb dX5_didTheSame_30 rfl (lv_at hl 1 rfl) ?_
        obtain ⟨v_4, e_v_4, r_v_4, n_v_4⟩ := hI.f r1_h 3
        refine t_get (ci := 5) (v := .ref v_4) hB hT (ro_ci r1_h rfl) rfl 3 (by decide) k_207 e_v_4 dX5_didTheSame_31 ?_
        refine lv_iload_n hx hb dX5_didTheSame_34 rfl (lv_at hl 0 rfl) ?_
        have i_u_5 : vp_in i 512 := (i_in (n := 512) rfl (by omega) (by omega))
        refine t_iald hB hT (ro_in r_v_4 (by decide)) n_v_4 i_u_5 rfl dX5_didTheSame_35 ?_
        refine lv_topi (fun u_5 e_u_5 => ?_)
        refine lv_aload_n hx hb dX5_didTheSame_36 rfl (lv_at hl 2 rfl) ?_
        obtain ⟨v_6, e_v_6, r_v_6, n_v_6⟩ := hI.f r1_o 3
        refine t_get (ci := 5) (v := .ref v_6) hB hT (ro_ci r1_o rfl) rfl 3 (by decide) k_207 e_v_6 dX5_didTheSame_37 ?_
        refine lv_iload_n hx hb dX5_didTheSame_40 rfl (lv_at hl 0 rfl) ?_
        have i_u_7 : vp_in i 512 := (i_in (n := 512) rfl (by omega) (by omega))
        refine t_iald hB hT (ro_in r_v_6 (by decide)) n_v_6 i_u_7 rfl dX5_didTheSame_41 ?_
        refine lv_topi (fun u_7 e_u_7 => ?_)
        refine lv_icmp_eq (tgt := 47) hx hb dX5_didTheSame_42 (by decide) (fun c_8 => ?_) (fun c_8 => ?_)
        · have c_8' : u_5.toInt = u_7.toInt := i_eq c_8 rfl rfl
          obtain ⟨z_9, ez_9⟩ : ∃ z : Int32, z = i + 1 := ⟨_, rfl⟩
          have e_z_9 : z_9.toInt = i.toInt + 1 := i_add ez_9 rfl (by decide) (by omega) (by omega)
          refine lv_iinc (v := z_9) (lv' := [(2, .int z_9), (0, .ref h), (1, .ref o)]) hx hb dX5_didTheSame_47 hl (k := 0) rfl (by rw [ez_9]; rfl) (by decide) rfl (fun ls hl => ?_)
          refine lv_goto (tgt := 15) hx hb dX5_didTheSame_50 (by decide) ?_
          exact ih (kf - 1) (by omega) g1 z_9 H locs ls hT hI hE hM (by omega) (by omega) (by have e0 := z0; omega) (lv_sub hl [0, 1, 2] rfl)
        · have c_8' : u_5.toInt ≠ u_7.toInt := i_ne c_8 rfl rfl
          refine lv_iconst (v := 0) hx hb dX5_didTheSame_45 (by decide) ?_
          exact t_zret hB hr rfl hT (Nat.le_of_ble_eq_true rfl) (Nat.le_of_ble_eq_true rfl) dX5_didTheSame_46 ⟨0, rfl, hI, hE, hM, (Or.inr rfl)⟩
set_option maxHeartbeats 4000000 in
set_option maxRecDepth 100000 in
theorem s_didTheSame (l : Launch) (D : va_G) (cI cZ cS cR : ClassId) (N0 : NT) (fr : Int32) (g : GS) (hI : Inv fr g) (h : Nat) (o : Nat) (r_h : g.1 h = 6) (r_o : g.1 o = 6) : Ty l D cI cZ cS cR N0 yX5_didTheSame cX5_didTheSame 3 (some .boolean) 0 0 0 [.ref h, .ref o] g (fun v g' => ∃ (r : Int32), v = some (.int r) ∧ Inv fr g' ∧ Ex g g' ∧ Sm md_s_didTheSame g g' ∧ (r = 1 ∨ r = 0)) := by
  refine t_enter (by decide) (Nat.le_of_ble_eq_true rfl) ?_
  intro p e s m args below meth c ls H locs hB hr hin hl hT
  have hx := hB.1
  have hb := hB.2.1
  have hl : lv_has ls 3 [(0, .ref h), (1, .ref o)] := hl
  have hE : Ex g g := Ex.rf
  have hM : Sm md_s_didTheSame g g := Sm.rf
  refine lv_aload_n hx hb dX5_didTheSame_0 rfl (lv_at hl 0 rfl) ?_
  obtain ⟨v_1, e_v_1⟩ := hI.f r_h 4
  refine t_get (ci := 5) (v := .int v_1) hB hT (ro_ci r_h rfl) rfl 4 (by decide) k_210 e_v_1 dX5_didTheSame_1 ?_
  refine lv_aload_n hx hb dX5_didTheSame_4 rfl (lv_at hl 1 rfl) ?_
  obtain ⟨v_2, e_v_2⟩ := hI.f r_o 4
  refine t_get (ci := 5) (v := .int v_2) hB hT (ro_ci r_o rfl) rfl 4 (by decide) k_210 e_v_2 dX5_didTheSame_5 ?_
  refine lv_icmp_eq (tgt := 13) hx hb dX5_didTheSame_8 (by decide) (fun c_3 => ?_) (fun c_3 => ?_)
  · have c_3' : v_1.toInt = v_2.toInt := i_eq c_3 rfl rfl
    refine lv_iconst (v := 0) hx hb dX5_didTheSame_13 (by decide) ?_
    refine lv_istore_n (lv' := [(2, .int 0), (0, .ref h), (1, .ref o)]) hx hb dX5_didTheSame_14 rfl hl (by decide) rfl (fun ls hl => ?_)
    exact lt_s_didTheSame_a l D cI cZ cS cR N0 fr g h o r_h r_o hB hr 512 g (0 : Int32) H locs ls hT hI hE hM (by decide) (by decide) (by have e0 := z0; omega) (lv_sub hl [0, 1, 2] rfl)
  · have c_3' : v_1.toInt ≠ v_2.toInt := i_ne c_3 rfl rfl
    refine lv_iconst (v := 0) hx hb dX5_didTheSame_11 (by decide) ?_
    exact t_zret hB hr rfl hT (Nat.le_of_ble_eq_true rfl) (Nat.le_of_ble_eq_true rfl) dX5_didTheSame_12 ⟨0, rfl, hI, hE, hM, (Or.inr rfl)⟩
