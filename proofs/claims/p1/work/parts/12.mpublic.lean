theorem k_27 : Cond.selects RX7 yX7_isService yX7_isService ∈ tb := mt 27 (by decide +kernel) rfl
theorem k_65 : Cond.initialized RX7 ∈ tb := mt 65 (by decide +kernel) rfl
theorem k_745 : Cond.fieldLink RX7 167 "TwiceOnceModel" "services" "I" ∈ tb := mt 745 (by decide +kernel) rfl
theorem k_767 : Cond.fieldLink RX7 256 "TwiceOnceModel" "outs" "I" ∈ tb := mt 767 (by decide +kernel) rfl
theorem k_769 : Cond.fieldLink RX7 283 "TwiceOnceModel" "logged" "I" ∈ tb := mt 769 (by decide +kernel) rfl
theorem k_774 : Cond.fieldLink RX7 175 "TwiceOnceModel" "taped" "I" ∈ tb := mt 774 (by decide +kernel) rfl
theorem k_775 : Cond.fieldLink RX7 290 "TwiceOnceModel" "rows" "I" ∈ tb := mt 775 (by decide +kernel) rfl
theorem k_779 : Cond.fieldLink RX7 293 "TwiceOnceModel" "isFree" "Z" ∈ tb := mt 779 (by decide +kernel) rfl
theorem k_952 : Cond.methodLink RX7 171 yX7_in ∈ tb := mt 952 (by decide +kernel) rfl
theorem k_953 : Cond.static yX7_in ∈ tb := mt 953 (by decide +kernel) rfl
set_option maxRecDepth 20000 in
theorem k_954 : Cond.code yX7_in cX7_in 3 (some .boolean) ∈ tb := mt 954 rfl rfl
theorem k_988 : Cond.methodLink RX7 212 yX7_isService ∈ tb := mt 988 (by decide +kernel) rfl
theorem k_990 : Cond.instanceMethod yX7_isService ∈ tb := mt 990 (by decide +kernel) rfl
set_option maxRecDepth 20000 in
theorem k_991 : Cond.code yX7_isService cX7_isService 2 (some .boolean) ∈ tb := mt 991 rfl rfl
theorem dX7_in_0 : decode cX7_in 0 = .ok (.iload_n 0, 1) := by decide +kernel
theorem dX7_in_1 : decode cX7_in 1 = .ok (.iload_n 1, 1) := by decide +kernel
theorem dX7_in_2 : decode cX7_in 2 = .ok (.if_icmp .lt 12, 3) := by decide +kernel
theorem dX7_in_14 : decode cX7_in 14 = .ok (.iconst 0, 1) := by decide +kernel
theorem dX7_in_15 : decode cX7_in 15 = .ok (.ireturn, 1) := by decide +kernel
theorem dX7_in_5 : decode cX7_in 5 = .ok (.iload_n 0, 1) := by decide +kernel
theorem dX7_in_6 : decode cX7_in 6 = .ok (.iload_n 2, 1) := by decide +kernel
theorem dX7_in_7 : decode cX7_in 7 = .ok (.if_icmp .gt 7, 3) := by decide +kernel
theorem dX7_in_10 : decode cX7_in 10 = .ok (.iconst 1, 1) := by decide +kernel
theorem dX7_in_11 : decode cX7_in 11 = .ok (.goto 4, 3) := by decide +kernel
theorem dX7_isService_0 : decode cX7_isService 0 = .ok (.iload_n 1, 1) := by decide +kernel
theorem dX7_isService_1 : decode cX7_isService 1 = .ok (.iconst 0, 1) := by decide +kernel
theorem dX7_isService_2 : decode cX7_isService 2 = .ok (.aload_n 0, 1) := by decide +kernel
theorem dX7_isService_3 : decode cX7_isService 3 = .ok (.getfield 167, 3) := by decide +kernel
theorem dX7_isService_6 : decode cX7_isService 6 = .ok (.iconst 1, 1) := by decide +kernel
theorem dX7_isService_7 : decode cX7_isService 7 = .ok (.isub, 1) := by decide +kernel
theorem dX7_isService_8 : decode cX7_isService 8 = .ok (.invokestatic 171, 3) := by decide +kernel
theorem dX7_isService_11 : decode cX7_isService 11 = .ok (.ireturn, 1) := by decide +kernel
theorem dX7_change_0 : decode cX7_change 0 = .ok (.aload_n 0, 1) := by decide +kernel
theorem dX7_change_1 : decode cX7_change 1 = .ok (.iload_n 1, 1) := by decide +kernel
theorem dX7_change_2 : decode cX7_change 2 = .ok (.invokevirtual 212, 3) := by decide +kernel
theorem dX7_change_5 : decode cX7_change 5 = .ok (.ifCond .ne 5, 3) := by decide +kernel
theorem dX7_change_8 : decode cX7_change 8 = .ok (.iconst (-1), 1) := by decide +kernel
theorem dX7_change_9 : decode cX7_change 9 = .ok (.ireturn, 1) := by decide +kernel
theorem dX7_mend_0 : decode cX7_mend 0 = .ok (.aload_n 0, 1) := by decide +kernel
theorem dX7_mend_1 : decode cX7_mend 1 = .ok (.iload_n 1, 1) := by decide +kernel
theorem dX7_mend_2 : decode cX7_mend 2 = .ok (.invokevirtual 212, 3) := by decide +kernel
theorem dX7_mend_5 : decode cX7_mend 5 = .ok (.ifCond .eq 12, 3) := by decide +kernel
theorem dX7_mend_17 : decode cX7_mend 17 = .ok (.iconst (-1), 1) := by decide +kernel
theorem dX7_mend_18 : decode cX7_mend 18 = .ok (.ireturn, 1) := by decide +kernel
theorem dX7_hold_0 : decode cX7_hold 0 = .ok (.aload_n 0, 1) := by decide +kernel
theorem dX7_hold_1 : decode cX7_hold 1 = .ok (.iload_n 1, 1) := by decide +kernel
theorem dX7_hold_2 : decode cX7_hold 2 = .ok (.invokevirtual 212, 3) := by decide +kernel
theorem dX7_hold_5 : decode cX7_hold 5 = .ok (.ifCond .ne 5, 3) := by decide +kernel
theorem dX7_hold_8 : decode cX7_hold 8 = .ok (.iconst (-1), 1) := by decide +kernel
theorem dX7_hold_9 : decode cX7_hold 9 = .ok (.ireturn, 1) := by decide +kernel
theorem dX7_set_0 : decode cX7_set 0 = .ok (.aload_n 0, 1) := by decide +kernel
theorem dX7_set_1 : decode cX7_set 1 = .ok (.iload_n 1, 1) := by decide +kernel
theorem dX7_set_2 : decode cX7_set 2 = .ok (.invokevirtual 212, 3) := by decide +kernel
theorem dX7_set_5 : decode cX7_set 5 = .ok (.ifCond .eq 12, 3) := by decide +kernel
theorem dX7_set_17 : decode cX7_set 17 = .ok (.iconst (-1), 1) := by decide +kernel
theorem dX7_set_18 : decode cX7_set 18 = .ok (.ireturn, 1) := by decide +kernel
theorem dX7_about_0 : decode cX7_about 0 = .ok (.aload_n 0, 1) := by decide +kernel
theorem dX7_about_1 : decode cX7_about 1 = .ok (.iload_n 1, 1) := by decide +kernel
theorem dX7_about_2 : decode cX7_about 2 = .ok (.invokevirtual 212, 3) := by decide +kernel
theorem dX7_about_5 : decode cX7_about 5 = .ok (.ifCond .eq 13, 3) := by decide +kernel
theorem dX7_about_18 : decode cX7_about 18 = .ok (.iconst (-1), 1) := by decide +kernel
theorem dX7_about_19 : decode cX7_about 19 = .ok (.ireturn, 1) := by decide +kernel
theorem dX7_act_0 : decode cX7_act 0 = .ok (.aload_n 0, 1) := by decide +kernel
theorem dX7_act_1 : decode cX7_act 1 = .ok (.iload_n 1, 1) := by decide +kernel
theorem dX7_act_2 : decode cX7_act 2 = .ok (.invokevirtual 212, 3) := by decide +kernel
theorem dX7_act_5 : decode cX7_act 5 = .ok (.ifCond .eq 19, 3) := by decide +kernel
theorem dX7_act_24 : decode cX7_act 24 = .ok (.iconst (-1), 1) := by decide +kernel
theorem dX7_act_25 : decode cX7_act 25 = .ok (.ireturn, 1) := by decide +kernel
theorem dX7_call_0 : decode cX7_call 0 = .ok (.aload_n 0, 1) := by decide +kernel
theorem dX7_call_1 : decode cX7_call 1 = .ok (.iload_n 1, 1) := by decide +kernel
theorem dX7_call_2 : decode cX7_call 2 = .ok (.invokevirtual 212, 3) := by decide +kernel
theorem dX7_call_5 : decode cX7_call 5 = .ok (.ifCond .ne 6, 3) := by decide +kernel
theorem dX7_call_8 : decode cX7_call 8 = .ok (.bipush (-3), 2) := by decide +kernel
theorem dX7_call_10 : decode cX7_call 10 = .ok (.ireturn, 1) := by decide +kernel
theorem dX7_row_0 : decode cX7_row 0 = .ok (.aload_n 0, 1) := by decide +kernel
theorem dX7_row_1 : decode cX7_row 1 = .ok (.iload_n 1, 1) := by decide +kernel
theorem dX7_row_2 : decode cX7_row 2 = .ok (.invokevirtual 212, 3) := by decide +kernel
theorem dX7_row_5 : decode cX7_row 5 = .ok (.ifCond .ne 5, 3) := by decide +kernel
theorem dX7_row_8 : decode cX7_row 8 = .ok (.iconst (-1), 1) := by decide +kernel
theorem dX7_row_9 : decode cX7_row 9 = .ok (.ireturn, 1) := by decide +kernel
theorem dX7_outside_0 : decode cX7_outside 0 = .ok (.iload_n 1, 1) := by decide +kernel
theorem dX7_outside_1 : decode cX7_outside 1 = .ok (.iconst 0, 1) := by decide +kernel
theorem dX7_outside_2 : decode cX7_outside 2 = .ok (.aload_n 0, 1) := by decide +kernel
theorem dX7_outside_3 : decode cX7_outside 3 = .ok (.getfield 256, 3) := by decide +kernel
theorem dX7_outside_6 : decode cX7_outside 6 = .ok (.bipush 40, 2) := by decide +kernel
theorem dX7_outside_8 : decode cX7_outside 8 = .ok (.if_icmp .ge 10, 3) := by decide +kernel
theorem dX7_outside_11 : decode cX7_outside 11 = .ok (.aload_n 0, 1) := by decide +kernel
theorem dX7_outside_12 : decode cX7_outside 12 = .ok (.getfield 256, 3) := by decide +kernel
theorem dX7_outside_15 : decode cX7_outside 15 = .ok (.goto 5, 3) := by decide +kernel
theorem dX7_outside_20 : decode cX7_outside 20 = .ok (.iconst 1, 1) := by decide +kernel
theorem dX7_outside_21 : decode cX7_outside 21 = .ok (.isub, 1) := by decide +kernel
theorem dX7_outside_22 : decode cX7_outside 22 = .ok (.invokestatic 171, 3) := by decide +kernel
theorem dX7_outside_25 : decode cX7_outside 25 = .ok (.ifCond .eq 12, 3) := by decide +kernel
theorem dX7_outside_37 : decode cX7_outside 37 = .ok (.iconst (-1), 1) := by decide +kernel
theorem dX7_outside_38 : decode cX7_outside 38 = .ok (.ireturn, 1) := by decide +kernel
theorem dX7_clear_0 : decode cX7_clear 0 = .ok (.aload_n 0, 1) := by decide +kernel
theorem dX7_clear_1 : decode cX7_clear 1 = .ok (.getfield 290, 3) := by decide +kernel
theorem dX7_clear_4 : decode cX7_clear 4 = .ok (.istore_n 1, 1) := by decide +kernel
theorem dX7_clear_5 : decode cX7_clear 5 = .ok (.aload_n 0, 1) := by decide +kernel
theorem dX7_clear_6 : decode cX7_clear 6 = .ok (.iconst 0, 1) := by decide +kernel
theorem dX7_clear_7 : decode cX7_clear 7 = .ok (.putfield 290, 3) := by decide +kernel
theorem dX7_clear_10 : decode cX7_clear 10 = .ok (.iload_n 1, 1) := by decide +kernel
theorem dX7_clear_11 : decode cX7_clear 11 = .ok (.ireturn, 1) := by decide +kernel
theorem dX7_free_0 : decode cX7_free 0 = .ok (.iload_n 1, 1) := by decide +kernel
theorem dX7_free_1 : decode cX7_free 1 = .ok (.iconst 0, 1) := by decide +kernel
theorem dX7_free_2 : decode cX7_free 2 = .ok (.iconst 1, 1) := by decide +kernel
theorem dX7_free_3 : decode cX7_free 3 = .ok (.invokestatic 171, 3) := by decide +kernel
theorem dX7_free_6 : decode cX7_free 6 = .ok (.ifCond .ne 6, 3) := by decide +kernel
theorem dX7_free_12 : decode cX7_free 12 = .ok (.aload_n 0, 1) := by decide +kernel
theorem dX7_free_13 : decode cX7_free 13 = .ok (.getfield 293, 3) := by decide +kernel
theorem dX7_free_16 : decode cX7_free 16 = .ok (.ifCond .eq 7, 3) := by decide +kernel
theorem dX7_free_23 : decode cX7_free 23 = .ok (.iconst 0, 1) := by decide +kernel
theorem dX7_free_24 : decode cX7_free 24 = .ok (.istore_n 2, 1) := by decide +kernel
theorem dX7_free_25 : decode cX7_free 25 = .ok (.aload_n 0, 1) := by decide +kernel
theorem dX7_free_26 : decode cX7_free 26 = .ok (.iload_n 1, 1) := by decide +kernel
theorem dX7_free_27 : decode cX7_free 27 = .ok (.iconst 1, 1) := by decide +kernel
theorem dX7_free_28 : decode cX7_free 28 = .ok (.if_icmp .ne 7, 3) := by decide +kernel
theorem dX7_free_35 : decode cX7_free 35 = .ok (.iconst 0, 1) := by decide +kernel
theorem dX7_free_36 : decode cX7_free 36 = .ok (.putfield 293, 3) := by decide +kernel
theorem dX7_free_39 : decode cX7_free 39 = .ok (.iload_n 2, 1) := by decide +kernel
theorem dX7_free_40 : decode cX7_free 40 = .ok (.ireturn, 1) := by decide +kernel
theorem dX7_free_31 : decode cX7_free 31 = .ok (.iconst 1, 1) := by decide +kernel
theorem dX7_free_32 : decode cX7_free 32 = .ok (.goto 4, 3) := by decide +kernel
theorem dX7_free_9 : decode cX7_free 9 = .ok (.bipush (-2), 2) := by decide +kernel
theorem dX7_free_11 : decode cX7_free 11 = .ok (.ireturn, 1) := by decide +kernel
theorem dX7_safe_0 : decode cX7_safe 0 = .ok (.iload_n 1, 1) := by decide +kernel
theorem dX7_safe_1 : decode cX7_safe 1 = .ok (.iconst 0, 1) := by decide +kernel
theorem dX7_safe_2 : decode cX7_safe 2 = .ok (.aload_n 0, 1) := by decide +kernel
theorem dX7_safe_3 : decode cX7_safe 3 = .ok (.getfield 290, 3) := by decide +kernel
theorem dX7_safe_6 : decode cX7_safe 6 = .ok (.iconst 1, 1) := by decide +kernel
theorem dX7_safe_7 : decode cX7_safe 7 = .ok (.isub, 1) := by decide +kernel
theorem dX7_safe_8 : decode cX7_safe 8 = .ok (.invokestatic 171, 3) := by decide +kernel
theorem dX7_safe_11 : decode cX7_safe 11 = .ok (.ifCond .ne 5, 3) := by decide +kernel
theorem dX7_safe_14 : decode cX7_safe 14 = .ok (.iconst (-1), 1) := by decide +kernel
theorem dX7_safe_15 : decode cX7_safe 15 = .ok (.ireturn, 1) := by decide +kernel
theorem dX7_orders_0 : decode cX7_orders 0 = .ok (.iload_n 1, 1) := by decide +kernel
theorem dX7_orders_1 : decode cX7_orders 1 = .ok (.iconst 0, 1) := by decide +kernel
theorem dX7_orders_2 : decode cX7_orders 2 = .ok (.aload_n 0, 1) := by decide +kernel
theorem dX7_orders_3 : decode cX7_orders 3 = .ok (.getfield 290, 3) := by decide +kernel
theorem dX7_orders_6 : decode cX7_orders 6 = .ok (.iconst 1, 1) := by decide +kernel
theorem dX7_orders_7 : decode cX7_orders 7 = .ok (.isub, 1) := by decide +kernel
theorem dX7_orders_8 : decode cX7_orders 8 = .ok (.invokestatic 171, 3) := by decide +kernel
theorem dX7_orders_11 : decode cX7_orders 11 = .ok (.ifCond .eq 12, 3) := by decide +kernel
theorem dX7_orders_23 : decode cX7_orders 23 = .ok (.iconst (-1), 1) := by decide +kernel
theorem dX7_orders_24 : decode cX7_orders 24 = .ok (.ireturn, 1) := by decide +kernel
theorem dX7_log_0 : decode cX7_log 0 = .ok (.iload_n 1, 1) := by decide +kernel
theorem dX7_log_1 : decode cX7_log 1 = .ok (.iconst 0, 1) := by decide +kernel
theorem dX7_log_2 : decode cX7_log 2 = .ok (.aload_n 0, 1) := by decide +kernel
theorem dX7_log_3 : decode cX7_log 3 = .ok (.getfield 283, 3) := by decide +kernel
theorem dX7_log_6 : decode cX7_log 6 = .ok (.iconst 1, 1) := by decide +kernel
theorem dX7_log_7 : decode cX7_log 7 = .ok (.isub, 1) := by decide +kernel
theorem dX7_log_8 : decode cX7_log 8 = .ok (.invokestatic 171, 3) := by decide +kernel
theorem dX7_log_11 : decode cX7_log 11 = .ok (.ifCond .ne 5, 3) := by decide +kernel
theorem dX7_log_14 : decode cX7_log 14 = .ok (.iconst (-1), 1) := by decide +kernel
theorem dX7_log_15 : decode cX7_log 15 = .ok (.ireturn, 1) := by decide +kernel
theorem dX7_price_0 : decode cX7_price 0 = .ok (.iload_n 1, 1) := by decide +kernel
theorem dX7_price_1 : decode cX7_price 1 = .ok (.iconst 0, 1) := by decide +kernel
theorem dX7_price_2 : decode cX7_price 2 = .ok (.iconst 3, 1) := by decide +kernel
theorem dX7_price_3 : decode cX7_price 3 = .ok (.invokestatic 171, 3) := by decide +kernel
theorem dX7_price_6 : decode cX7_price 6 = .ok (.ifCond .ne 5, 3) := by decide +kernel
theorem dX7_price_11 : decode cX7_price 11 = .ok (.iload_n 2, 1) := by decide +kernel
theorem dX7_price_12 : decode cX7_price 12 = .ok (.iconst 0, 1) := by decide +kernel
theorem dX7_price_13 : decode cX7_price 13 = .ok (.bipush 99, 2) := by decide +kernel
theorem dX7_price_15 : decode cX7_price 15 = .ok (.invokestatic 171, 3) := by decide +kernel
theorem dX7_price_18 : decode cX7_price 18 = .ok (.ifCond .ne 6, 3) := by decide +kernel
theorem dX7_price_24 : decode cX7_price 24 = .ok (.aload_n 0, 1) := by decide +kernel
theorem dX7_price_25 : decode cX7_price 25 = .ok (.getfield 95, 3) := by decide +kernel
theorem dX7_price_28 : decode cX7_price 28 = .ok (.iload_n 1, 1) := by decide +kernel
theorem dX7_price_29 : decode cX7_price 29 = .ok (.iaload, 1) := by decide +kernel
theorem dX7_price_30 : decode cX7_price 30 = .ok (.istore_n 3, 1) := by decide +kernel
theorem dX7_price_31 : decode cX7_price 31 = .ok (.aload_n 0, 1) := by decide +kernel
theorem dX7_price_32 : decode cX7_price 32 = .ok (.getfield 95, 3) := by decide +kernel
theorem dX7_price_35 : decode cX7_price 35 = .ok (.iload_n 1, 1) := by decide +kernel
theorem dX7_price_36 : decode cX7_price 36 = .ok (.iload_n 2, 1) := by decide +kernel
theorem dX7_price_37 : decode cX7_price 37 = .ok (.iastore, 1) := by decide +kernel
theorem dX7_price_38 : decode cX7_price 38 = .ok (.iload_n 3, 1) := by decide +kernel
theorem dX7_price_39 : decode cX7_price 39 = .ok (.ireturn, 1) := by decide +kernel
theorem dX7_price_21 : decode cX7_price 21 = .ok (.bipush (-2), 2) := by decide +kernel
theorem dX7_price_23 : decode cX7_price 23 = .ok (.ireturn, 1) := by decide +kernel
theorem dX7_price_9 : decode cX7_price 9 = .ok (.iconst (-1), 1) := by decide +kernel
theorem dX7_price_10 : decode cX7_price 10 = .ok (.ireturn, 1) := by decide +kernel
theorem dX7_count_0 : decode cX7_count 0 = .ok (.iload_n 1, 1) := by decide +kernel
theorem dX7_count_1 : decode cX7_count 1 = .ok (.tableswitch 71 0 5 #[39, 44, 49, 54, 61, 66], 39) := by decide +kernel
theorem dX7_count_72 : decode cX7_count 72 = .ok (.iconst (-1), 1) := by decide +kernel
theorem dX7_count_73 : decode cX7_count 73 = .ok (.ireturn, 1) := by decide +kernel
theorem dX7_count_40 : decode cX7_count 40 = .ok (.aload_n 0, 1) := by decide +kernel
theorem dX7_count_41 : decode cX7_count 41 = .ok (.getfield 167, 3) := by decide +kernel
theorem dX7_count_44 : decode cX7_count 44 = .ok (.ireturn, 1) := by decide +kernel
theorem dX7_count_45 : decode cX7_count 45 = .ok (.aload_n 0, 1) := by decide +kernel
theorem dX7_count_46 : decode cX7_count 46 = .ok (.getfield 290, 3) := by decide +kernel
theorem dX7_count_49 : decode cX7_count 49 = .ok (.ireturn, 1) := by decide +kernel
theorem dX7_count_50 : decode cX7_count 50 = .ok (.aload_n 0, 1) := by decide +kernel
theorem dX7_count_51 : decode cX7_count 51 = .ok (.getfield 256, 3) := by decide +kernel
theorem dX7_count_54 : decode cX7_count 54 = .ok (.ireturn, 1) := by decide +kernel
theorem dX7_count_55 : decode cX7_count 55 = .ok (.aload_n 0, 1) := by decide +kernel
theorem dX7_count_56 : decode cX7_count 56 = .ok (.getfield 49, 3) := by decide +kernel
theorem dX7_count_59 : decode cX7_count 59 = .ok (.iconst 0, 1) := by decide +kernel
theorem dX7_count_60 : decode cX7_count 60 = .ok (.iaload, 1) := by decide +kernel
theorem dX7_count_61 : decode cX7_count 61 = .ok (.ireturn, 1) := by decide +kernel
theorem dX7_count_62 : decode cX7_count 62 = .ok (.aload_n 0, 1) := by decide +kernel
theorem dX7_count_63 : decode cX7_count 63 = .ok (.getfield 283, 3) := by decide +kernel
theorem dX7_count_66 : decode cX7_count 66 = .ok (.ireturn, 1) := by decide +kernel
theorem dX7_count_67 : decode cX7_count 67 = .ok (.aload_n 0, 1) := by decide +kernel
theorem dX7_count_68 : decode cX7_count 68 = .ok (.getfield 175, 3) := by decide +kernel
theorem dX7_count_71 : decode cX7_count 71 = .ok (.ireturn, 1) := by decide +kernel
set_option maxHeartbeats 4000000 in
set_option maxRecDepth 100000 in
theorem c_in (l : Launch) (D : va_G) (cI cZ cS : ClassId) (N0 : NT) (n : Int32) (lo : Int32) (b : Int32)  : Mx l D cI cZ cS N0 yX7_in cX7_in 3 (some .boolean) 0 0 0 [.int n, .int lo, .int b] [] (fun v w => ∃ (r : Int32), v = some (.int r) ∧ w = ([] : va_W) ∧ ((r = 1 ∧ ¬ (n < lo ∨ b < n)) ∨ (r = 0 ∧ (n < lo ∨ b < n)))) := by
  refine x_enter (by decide) (Nat.le_of_ble_eq_true rfl) ?_
  intro p e s m args below meth c A ls H locs hB hr hin hl hV hA
  have hx := hB.1
  have hb := hB.2.1
  have hl : lv_has ls 3 [(0, .int n), (1, .int lo), (2, .int b)] := hl
  refine lv_iload_n hx hb dX7_in_0 rfl (lv_at hl 0 rfl) ?_
  refine lv_iload_n hx hb dX7_in_1 rfl (lv_at hl 1 rfl) ?_
  refine lv_icmp_lt (tgt := 14) hx hb dX7_in_2 (by decide) (fun c1 => ?_) (fun c1 => ?_)
  · refine lv_iconst (v := 0) hx hb dX7_in_14 (by decide) ?_
    exact x_zret (w := []) hB hr rfl hV hA (Nat.le_of_ble_eq_true rfl) (Nat.le_of_ble_eq_true rfl) [] rfl rfl (by decide) dX7_in_15 ⟨0, rfl, rfl, (Or.inr ⟨rfl, Or.inl c1⟩)⟩
  · refine lv_iload_n hx hb dX7_in_5 rfl (lv_at hl 0 rfl) ?_
    refine lv_iload_n hx hb dX7_in_6 rfl (lv_at hl 2 rfl) ?_
    refine lv_icmp_gt (tgt := 14) hx hb dX7_in_7 (by decide) (fun c2 => ?_) (fun c2 => ?_)
    · refine lv_iconst (v := 0) hx hb dX7_in_14 (by decide) ?_
      exact x_zret (w := []) hB hr rfl hV hA (Nat.le_of_ble_eq_true rfl) (Nat.le_of_ble_eq_true rfl) [] rfl rfl (by decide) dX7_in_15 ⟨0, rfl, rfl, (Or.inr ⟨rfl, Or.inr c2⟩)⟩
    · refine lv_iconst (v := 1) hx hb dX7_in_10 (by decide) ?_
      refine lv_goto (tgt := 15) hx hb dX7_in_11 (by decide) ?_
      exact x_zret (w := []) hB hr rfl hV hA (Nat.le_of_ble_eq_true rfl) (Nat.le_of_ble_eq_true rfl) [] rfl rfl (by decide) dX7_in_15 ⟨1, rfl, rfl, (Or.inl ⟨rfl, fun q => q.elim c1 c2⟩)⟩
set_option maxHeartbeats 4000000 in
set_option maxRecDepth 100000 in
theorem c_in_m1 (l : Launch) (D : va_G) (cI cZ cS : ClassId) (N0 : NT) (n : Int32)  : Mx l D cI cZ cS N0 yX7_in cX7_in 3 (some .boolean) 0 0 0 [.int n, .int 0, .int (-1)] [] (fun v w => v = some (.int 0) ∧ w = ([] : va_W)) := by
  refine x_enter (by decide) (Nat.le_of_ble_eq_true rfl) ?_
  intro p e s m args below meth c A ls H locs hB hr hin hl hV hA
  have hx := hB.1
  have hb := hB.2.1
  have hl : lv_has ls 3 [(0, .int n), (1, .int 0), (2, .int (-1))] := hl
  refine lv_iload_n hx hb dX7_in_0 rfl (lv_at hl 0 rfl) ?_
  refine lv_iload_n hx hb dX7_in_1 rfl (lv_at hl 1 rfl) ?_
  refine lv_icmp_lt (tgt := 14) hx hb dX7_in_2 (by decide) (fun c1 => ?_) (fun c1 => ?_)
  · refine lv_iconst (v := 0) hx hb dX7_in_14 (by decide) ?_
    exact x_zret (w := []) hB hr rfl hV hA (Nat.le_of_ble_eq_true rfl) (Nat.le_of_ble_eq_true rfl) [] rfl rfl (by decide) dX7_in_15 ⟨rfl, rfl⟩
  · refine lv_iload_n hx hb dX7_in_5 rfl (lv_at hl 0 rfl) ?_
    refine lv_iload_n hx hb dX7_in_6 rfl (lv_at hl 2 rfl) ?_
    refine lv_icmp_gt (tgt := 14) hx hb dX7_in_7 (by decide) (fun c_ => ?_) (fun c_ => absurd (gt_m1 c1) c_)
    refine lv_iconst (v := 0) hx hb dX7_in_14 (by decide) ?_
    exact x_zret (w := []) hB hr rfl hV hA (Nat.le_of_ble_eq_true rfl) (Nat.le_of_ble_eq_true rfl) [] rfl rfl (by decide) dX7_in_15 ⟨rfl, rfl⟩
set_option maxHeartbeats 4000000 in
set_option maxRecDepth 100000 in
theorem c_in_low (l : Launch) (D : va_G) (cI cZ cS : ClassId) (N0 : NT) (b : Int32)  : Mx l D cI cZ cS N0 yX7_in cX7_in 3 (some .boolean) 0 0 0 [.int (-1), .int 48, .int b] [] (fun v w => v = some (.int 0) ∧ w = ([] : va_W)) := by
  refine x_enter (by decide) (Nat.le_of_ble_eq_true rfl) ?_
  intro p e s m args below meth c A ls H locs hB hr hin hl hV hA
  have hx := hB.1
  have hb := hB.2.1
  have hl : lv_has ls 3 [(0, .int (-1)), (1, .int 48), (2, .int b)] := hl
  refine lv_iload_n hx hb dX7_in_0 rfl (lv_at hl 0 rfl) ?_
  refine lv_iload_n hx hb dX7_in_1 rfl (lv_at hl 1 rfl) ?_
  refine lv_icmp_lt (tgt := 14) hx hb dX7_in_2 (by decide) (fun c_ => ?_) (fun c_ => absurd (by decide) c_)
  refine lv_iconst (v := 0) hx hb dX7_in_14 (by decide) ?_
  exact x_zret (w := []) hB hr rfl hV hA (Nat.le_of_ble_eq_true rfl) (Nat.le_of_ble_eq_true rfl) [] rfl rfl (by decide) dX7_in_15 ⟨rfl, rfl⟩
set_option maxHeartbeats 4000000 in
set_option maxRecDepth 100000 in
theorem c_isService (l : Launch) (D : va_G) (cI cZ cS : ClassId) (N0 : NT) (h : Nat) (fs : List Value) (x1 : Int32) (h0 : fs[0]? = some (.int 0)) : Mx l D cI cZ cS N0 yX7_isService cX7_isService 2 (some .boolean) 1 0 0 [.ref h, .int x1] [(h, .inr (7, fs))] (fun v w => v = some (.int 0) ∧ w = ([(h, .inr (7, fs))] : va_W)) := by
  refine x_enter (by decide) (Nat.le_of_ble_eq_true rfl) ?_
  intro p e s m args below meth c A ls H locs hB hr hin hl hV hA
  have hx := hB.1
  have hb := hB.2.1
  have hl : lv_has ls 2 [(0, .ref h), (1, .int x1)] := hl
  refine lv_iload_n hx hb dX7_isService_0 rfl (lv_at hl 1 rfl) ?_
  refine lv_iconst (v := 0) hx hb dX7_isService_1 (by decide) ?_
  refine lv_aload_n hx hb dX7_isService_2 rfl (lv_at hl 0 rfl) ?_
  refine x_get (v := .int 0) hB hV 0 rfl rfl 0 (by decide) k_745 h0 dX7_isService_3 ?_
  refine lv_iconst (v := 1) hx hb dX7_isService_6 (by decide) ?_
  refine lv_isub hx hb dX7_isService_7 ?_
  refine x_ev (y := (-1)) (by decide) ?_
  refine x_callS (n := 3) (wr := [(h, .inr (7, fs))]) (As := [.int x1, .int 0, .int (-1)]) (rest := []) hB hV (x_N hB) hl.1 (c_in_m1 l D cI cZ cS N0 x1 ) k_954 k_65 k_952 k_953 (by decide +kernel) ⟨(Nat.le_of_ble_eq_true rfl), (Nat.le_of_ble_eq_true rfl)⟩ rfl (Nat.le_of_ble_eq_true rfl) ⟨(Nat.le_of_ble_eq_true rfl), (Nat.le_of_ble_eq_true rfl)⟩ [] [0] rfl rfl rfl ⟨by decide, by decide, by decide⟩ dX7_isService_8 (fun v w H locs hp hV => ?_)
  obtain ⟨rfl, rfl⟩ := hp
  have hV : Vx D A s.heap H locs [(h, .inr (7, fs))] := hV
  refine W.eq (g2 := F0 m 11 ls [.int 0]) rfl ?_
  exact x_zret (w := [(h, .inr (7, fs))]) hB hr rfl hV hA (Nat.le_of_ble_eq_true rfl) (Nat.le_of_ble_eq_true rfl) [0] rfl rfl (by decide) dX7_isService_11 ⟨rfl, rfl⟩
set_option maxHeartbeats 4000000 in
set_option maxRecDepth 100000 in
theorem m_change (l : Launch) (D : va_G) (cI cZ cS : ClassId) (N0 : NT) (h : Nat) (fs : List Value) (x1 : Int32) (h0 : fs[0]? = some (.int 0)) : Mx l D cI cZ cS N0 yX7_change cX7_change 2 (some .int) 2 0 0 [.ref h, .int x1] [(h, .inr (7, fs))] (fun v w => v = some (.int (-1)) ∧ w = ([] : va_W)) := by
  refine x_enter (by decide) (Nat.le_of_ble_eq_true rfl) ?_
  intro p e s m args below meth c A ls H locs hB hr hin hl hV hA
  have hx := hB.1
  have hb := hB.2.1
  have hl : lv_has ls 2 [(0, .ref h), (1, .int x1)] := hl
  refine lv_aload_n hx hb dX7_change_0 rfl (lv_at hl 0 rfl) ?_
  refine lv_iload_n hx hb dX7_change_1 rfl (lv_at hl 1 rfl) ?_
  refine x_callV (n := 1) (wr := []) (q0 := 0) (As := [.int x1]) (rest := []) hB hV (x_N hB) hl.1 (c_isService l D cI cZ cS N0 h fs x1 h0) rfl rfl k_991 k_65 k_988 k_990 k_27 (by decide +kernel) ⟨(Nat.le_of_ble_eq_true rfl), (Nat.le_of_ble_eq_true rfl)⟩ rfl (Nat.le_of_ble_eq_true rfl) ⟨(Nat.le_of_ble_eq_true rfl), (Nat.le_of_ble_eq_true rfl)⟩ [0] [] rfl rfl rfl ⟨by decide, by decide, by decide⟩ dX7_change_2 (fun v w H locs hp hV => ?_)
  obtain ⟨rfl, rfl⟩ := hp
  have hV : Vx D A s.heap H locs [(h, .inr (7, fs))] := hV
  refine W.eq (g2 := F0 m 5 ls [.int 0]) rfl ?_
  refine lv_if_ne (tgt := 10) hx hb dX7_change_5 (by decide) (fun c_ => absurd (by decide) c_) (fun c_ => ?_)
  refine lv_iconst (v := (-1)) hx hb dX7_change_8 (by decide) ?_
  exact x_iret (w := []) hB hr hV hA (Nat.le_of_ble_eq_true rfl) (Nat.le_of_ble_eq_true rfl) [] rfl rfl (by decide) dX7_change_9 ⟨rfl, rfl⟩
set_option maxHeartbeats 4000000 in
set_option maxRecDepth 100000 in
theorem m_mend (l : Launch) (D : va_G) (cI cZ cS : ClassId) (N0 : NT) (h : Nat) (fs : List Value) (x1 : Int32) (x2 : Int32) (x3 : Int32) (h0 : fs[0]? = some (.int 0)) : Mx l D cI cZ cS N0 yX7_mend cX7_mend 5 (some .int) 2 0 0 [.ref h, .int x1, .int x2, .int x3] [(h, .inr (7, fs))] (fun v w => v = some (.int (-1)) ∧ w = ([] : va_W)) := by
  refine x_enter (by decide) (Nat.le_of_ble_eq_true rfl) ?_
  intro p e s m args below meth c A ls H locs hB hr hin hl hV hA
  have hx := hB.1
  have hb := hB.2.1
  have hl : lv_has ls 5 [(0, .ref h), (1, .int x1), (2, .int x2), (3, .int x3)] := hl
  refine lv_aload_n hx hb dX7_mend_0 rfl (lv_at hl 0 rfl) ?_
  refine lv_iload_n hx hb dX7_mend_1 rfl (lv_at hl 1 rfl) ?_
  refine x_callV (n := 1) (wr := []) (q0 := 0) (As := [.int x1]) (rest := []) hB hV (x_N hB) hl.1 (c_isService l D cI cZ cS N0 h fs x1 h0) rfl rfl k_991 k_65 k_988 k_990 k_27 (by decide +kernel) ⟨(Nat.le_of_ble_eq_true rfl), (Nat.le_of_ble_eq_true rfl)⟩ rfl (Nat.le_of_ble_eq_true rfl) ⟨(Nat.le_of_ble_eq_true rfl), (Nat.le_of_ble_eq_true rfl)⟩ [0] [] rfl rfl rfl ⟨by decide, by decide, by decide⟩ dX7_mend_2 (fun v w H locs hp hV => ?_)
  obtain ⟨rfl, rfl⟩ := hp
  have hV : Vx D A s.heap H locs [(h, .inr (7, fs))] := hV
  refine W.eq (g2 := F0 m 5 ls [.int 0]) rfl ?_
  refine lv_if_eq (tgt := 17) hx hb dX7_mend_5 (by decide) (fun c_ => ?_) (fun c_ => absurd (by decide) c_)
  refine lv_iconst (v := (-1)) hx hb dX7_mend_17 (by decide) ?_
  exact x_iret (w := []) hB hr hV hA (Nat.le_of_ble_eq_true rfl) (Nat.le_of_ble_eq_true rfl) [] rfl rfl (by decide) dX7_mend_18 ⟨rfl, rfl⟩
set_option maxHeartbeats 4000000 in
set_option maxRecDepth 100000 in
theorem m_hold (l : Launch) (D : va_G) (cI cZ cS : ClassId) (N0 : NT) (h : Nat) (fs : List Value) (x1 : Int32) (x2 : Int32) (h0 : fs[0]? = some (.int 0)) : Mx l D cI cZ cS N0 yX7_hold cX7_hold 4 (some .int) 2 0 0 [.ref h, .int x1, .int x2] [(h, .inr (7, fs))] (fun v w => v = some (.int (-1)) ∧ w = ([] : va_W)) := by
  refine x_enter (by decide) (Nat.le_of_ble_eq_true rfl) ?_
  intro p e s m args below meth c A ls H locs hB hr hin hl hV hA
  have hx := hB.1
  have hb := hB.2.1
  have hl : lv_has ls 4 [(0, .ref h), (1, .int x1), (2, .int x2)] := hl
  refine lv_aload_n hx hb dX7_hold_0 rfl (lv_at hl 0 rfl) ?_
  refine lv_iload_n hx hb dX7_hold_1 rfl (lv_at hl 1 rfl) ?_
  refine x_callV (n := 1) (wr := []) (q0 := 0) (As := [.int x1]) (rest := []) hB hV (x_N hB) hl.1 (c_isService l D cI cZ cS N0 h fs x1 h0) rfl rfl k_991 k_65 k_988 k_990 k_27 (by decide +kernel) ⟨(Nat.le_of_ble_eq_true rfl), (Nat.le_of_ble_eq_true rfl)⟩ rfl (Nat.le_of_ble_eq_true rfl) ⟨(Nat.le_of_ble_eq_true rfl), (Nat.le_of_ble_eq_true rfl)⟩ [0] [] rfl rfl rfl ⟨by decide, by decide, by decide⟩ dX7_hold_2 (fun v w H locs hp hV => ?_)
  obtain ⟨rfl, rfl⟩ := hp
  have hV : Vx D A s.heap H locs [(h, .inr (7, fs))] := hV
  refine W.eq (g2 := F0 m 5 ls [.int 0]) rfl ?_
  refine lv_if_ne (tgt := 10) hx hb dX7_hold_5 (by decide) (fun c_ => absurd (by decide) c_) (fun c_ => ?_)
  refine lv_iconst (v := (-1)) hx hb dX7_hold_8 (by decide) ?_
  exact x_iret (w := []) hB hr hV hA (Nat.le_of_ble_eq_true rfl) (Nat.le_of_ble_eq_true rfl) [] rfl rfl (by decide) dX7_hold_9 ⟨rfl, rfl⟩
set_option maxHeartbeats 4000000 in
set_option maxRecDepth 100000 in
theorem m_set (l : Launch) (D : va_G) (cI cZ cS : ClassId) (N0 : NT) (h : Nat) (fs : List Value) (x1 : Int32) (x2 : Int32) (x3 : Int32) (h0 : fs[0]? = some (.int 0)) : Mx l D cI cZ cS N0 yX7_set cX7_set 5 (some .int) 2 0 0 [.ref h, .int x1, .int x2, .int x3] [(h, .inr (7, fs))] (fun v w => v = some (.int (-1)) ∧ w = ([] : va_W)) := by
  refine x_enter (by decide) (Nat.le_of_ble_eq_true rfl) ?_
  intro p e s m args below meth c A ls H locs hB hr hin hl hV hA
  have hx := hB.1
  have hb := hB.2.1
  have hl : lv_has ls 5 [(0, .ref h), (1, .int x1), (2, .int x2), (3, .int x3)] := hl
  refine lv_aload_n hx hb dX7_set_0 rfl (lv_at hl 0 rfl) ?_
  refine lv_iload_n hx hb dX7_set_1 rfl (lv_at hl 1 rfl) ?_
  refine x_callV (n := 1) (wr := []) (q0 := 0) (As := [.int x1]) (rest := []) hB hV (x_N hB) hl.1 (c_isService l D cI cZ cS N0 h fs x1 h0) rfl rfl k_991 k_65 k_988 k_990 k_27 (by decide +kernel) ⟨(Nat.le_of_ble_eq_true rfl), (Nat.le_of_ble_eq_true rfl)⟩ rfl (Nat.le_of_ble_eq_true rfl) ⟨(Nat.le_of_ble_eq_true rfl), (Nat.le_of_ble_eq_true rfl)⟩ [0] [] rfl rfl rfl ⟨by decide, by decide, by decide⟩ dX7_set_2 (fun v w H locs hp hV => ?_)
  obtain ⟨rfl, rfl⟩ := hp
  have hV : Vx D A s.heap H locs [(h, .inr (7, fs))] := hV
  refine W.eq (g2 := F0 m 5 ls [.int 0]) rfl ?_
  refine lv_if_eq (tgt := 17) hx hb dX7_set_5 (by decide) (fun c_ => ?_) (fun c_ => absurd (by decide) c_)
  refine lv_iconst (v := (-1)) hx hb dX7_set_17 (by decide) ?_
  exact x_iret (w := []) hB hr hV hA (Nat.le_of_ble_eq_true rfl) (Nat.le_of_ble_eq_true rfl) [] rfl rfl (by decide) dX7_set_18 ⟨rfl, rfl⟩
set_option maxHeartbeats 4000000 in
set_option maxRecDepth 100000 in
theorem m_about (l : Launch) (D : va_G) (cI cZ cS : ClassId) (N0 : NT) (h : Nat) (fs : List Value) (x1 : Int32) (x2 : Int32) (h0 : fs[0]? = some (.int 0)) : Mx l D cI cZ cS N0 yX7_about cX7_about 5 (some .int) 2 0 0 [.ref h, .int x1, .int x2] [(h, .inr (7, fs))] (fun v w => v = some (.int (-1)) ∧ w = ([] : va_W)) := by
  refine x_enter (by decide) (Nat.le_of_ble_eq_true rfl) ?_
  intro p e s m args below meth c A ls H locs hB hr hin hl hV hA
  have hx := hB.1
  have hb := hB.2.1
  have hl : lv_has ls 5 [(0, .ref h), (1, .int x1), (2, .int x2)] := hl
  refine lv_aload_n hx hb dX7_about_0 rfl (lv_at hl 0 rfl) ?_
  refine lv_iload_n hx hb dX7_about_1 rfl (lv_at hl 1 rfl) ?_
  refine x_callV (n := 1) (wr := []) (q0 := 0) (As := [.int x1]) (rest := []) hB hV (x_N hB) hl.1 (c_isService l D cI cZ cS N0 h fs x1 h0) rfl rfl k_991 k_65 k_988 k_990 k_27 (by decide +kernel) ⟨(Nat.le_of_ble_eq_true rfl), (Nat.le_of_ble_eq_true rfl)⟩ rfl (Nat.le_of_ble_eq_true rfl) ⟨(Nat.le_of_ble_eq_true rfl), (Nat.le_of_ble_eq_true rfl)⟩ [0] [] rfl rfl rfl ⟨by decide, by decide, by decide⟩ dX7_about_2 (fun v w H locs hp hV => ?_)
  obtain ⟨rfl, rfl⟩ := hp
  have hV : Vx D A s.heap H locs [(h, .inr (7, fs))] := hV
  refine W.eq (g2 := F0 m 5 ls [.int 0]) rfl ?_
  refine lv_if_eq (tgt := 18) hx hb dX7_about_5 (by decide) (fun c_ => ?_) (fun c_ => absurd (by decide) c_)
  refine lv_iconst (v := (-1)) hx hb dX7_about_18 (by decide) ?_
  exact x_iret (w := []) hB hr hV hA (Nat.le_of_ble_eq_true rfl) (Nat.le_of_ble_eq_true rfl) [] rfl rfl (by decide) dX7_about_19 ⟨rfl, rfl⟩
set_option maxHeartbeats 4000000 in
set_option maxRecDepth 100000 in
theorem m_act (l : Launch) (D : va_G) (cI cZ cS : ClassId) (N0 : NT) (h : Nat) (fs : List Value) (x1 : Int32) (x2 : Int32) (x3 : Int32) (h0 : fs[0]? = some (.int 0)) : Mx l D cI cZ cS N0 yX7_act cX7_act 5 (some .int) 2 0 0 [.ref h, .int x1, .int x2, .int x3] [(h, .inr (7, fs))] (fun v w => v = some (.int (-1)) ∧ w = ([] : va_W)) := by
  refine x_enter (by decide) (Nat.le_of_ble_eq_true rfl) ?_
  intro p e s m args below meth c A ls H locs hB hr hin hl hV hA
  have hx := hB.1
  have hb := hB.2.1
  have hl : lv_has ls 5 [(0, .ref h), (1, .int x1), (2, .int x2), (3, .int x3)] := hl
  refine lv_aload_n hx hb dX7_act_0 rfl (lv_at hl 0 rfl) ?_
  refine lv_iload_n hx hb dX7_act_1 rfl (lv_at hl 1 rfl) ?_
  refine x_callV (n := 1) (wr := []) (q0 := 0) (As := [.int x1]) (rest := []) hB hV (x_N hB) hl.1 (c_isService l D cI cZ cS N0 h fs x1 h0) rfl rfl k_991 k_65 k_988 k_990 k_27 (by decide +kernel) ⟨(Nat.le_of_ble_eq_true rfl), (Nat.le_of_ble_eq_true rfl)⟩ rfl (Nat.le_of_ble_eq_true rfl) ⟨(Nat.le_of_ble_eq_true rfl), (Nat.le_of_ble_eq_true rfl)⟩ [0] [] rfl rfl rfl ⟨by decide, by decide, by decide⟩ dX7_act_2 (fun v w H locs hp hV => ?_)
  obtain ⟨rfl, rfl⟩ := hp
  have hV : Vx D A s.heap H locs [(h, .inr (7, fs))] := hV
  refine W.eq (g2 := F0 m 5 ls [.int 0]) rfl ?_
  refine lv_if_eq (tgt := 24) hx hb dX7_act_5 (by decide) (fun c_ => ?_) (fun c_ => absurd (by decide) c_)
  refine lv_iconst (v := (-1)) hx hb dX7_act_24 (by decide) ?_
  exact x_iret (w := []) hB hr hV hA (Nat.le_of_ble_eq_true rfl) (Nat.le_of_ble_eq_true rfl) [] rfl rfl (by decide) dX7_act_25 ⟨rfl, rfl⟩
set_option maxHeartbeats 4000000 in
set_option maxRecDepth 100000 in
theorem m_call (l : Launch) (D : va_G) (cI cZ cS : ClassId) (N0 : NT) (h : Nat) (fs : List Value) (x1 : Int32) (x2 : Int32) (x3 : Int32) (x4 : Int32) (h0 : fs[0]? = some (.int 0)) : Mx l D cI cZ cS N0 yX7_call cX7_call 6 (some .int) 2 0 0 [.ref h, .int x1, .int x2, .int x3, .int x4] [(h, .inr (7, fs))] (fun v w => v = some (.int (-3)) ∧ w = ([] : va_W)) := by
  refine x_enter (by decide) (Nat.le_of_ble_eq_true rfl) ?_
  intro p e s m args below meth c A ls H locs hB hr hin hl hV hA
  have hx := hB.1
  have hb := hB.2.1
  have hl : lv_has ls 6 [(0, .ref h), (1, .int x1), (2, .int x2), (3, .int x3), (4, .int x4)] := hl
  refine lv_aload_n hx hb dX7_call_0 rfl (lv_at hl 0 rfl) ?_
  refine lv_iload_n hx hb dX7_call_1 rfl (lv_at hl 1 rfl) ?_
  refine x_callV (n := 1) (wr := []) (q0 := 0) (As := [.int x1]) (rest := []) hB hV (x_N hB) hl.1 (c_isService l D cI cZ cS N0 h fs x1 h0) rfl rfl k_991 k_65 k_988 k_990 k_27 (by decide +kernel) ⟨(Nat.le_of_ble_eq_true rfl), (Nat.le_of_ble_eq_true rfl)⟩ rfl (Nat.le_of_ble_eq_true rfl) ⟨(Nat.le_of_ble_eq_true rfl), (Nat.le_of_ble_eq_true rfl)⟩ [0] [] rfl rfl rfl ⟨by decide, by decide, by decide⟩ dX7_call_2 (fun v w H locs hp hV => ?_)
  obtain ⟨rfl, rfl⟩ := hp
  have hV : Vx D A s.heap H locs [(h, .inr (7, fs))] := hV
  refine W.eq (g2 := F0 m 5 ls [.int 0]) rfl ?_
  refine lv_if_ne (tgt := 11) hx hb dX7_call_5 (by decide) (fun c_ => absurd (by decide) c_) (fun c_ => ?_)
  refine lv_bipush (v := (-3)) hx hb dX7_call_8 (by decide) ?_
  exact x_iret (w := []) hB hr hV hA (Nat.le_of_ble_eq_true rfl) (Nat.le_of_ble_eq_true rfl) [] rfl rfl (by decide) dX7_call_10 ⟨rfl, rfl⟩
set_option maxHeartbeats 4000000 in
set_option maxRecDepth 100000 in
theorem m_row (l : Launch) (D : va_G) (cI cZ cS : ClassId) (N0 : NT) (h : Nat) (fs : List Value) (x1 : Int32) (x2 : Int32) (x3 : Int32) (h0 : fs[0]? = some (.int 0)) : Mx l D cI cZ cS N0 yX7_row cX7_row 4 (some .int) 2 0 0 [.ref h, .int x1, .int x2, .int x3] [(h, .inr (7, fs))] (fun v w => v = some (.int (-1)) ∧ w = ([] : va_W)) := by
  refine x_enter (by decide) (Nat.le_of_ble_eq_true rfl) ?_
  intro p e s m args below meth c A ls H locs hB hr hin hl hV hA
  have hx := hB.1
  have hb := hB.2.1
  have hl : lv_has ls 4 [(0, .ref h), (1, .int x1), (2, .int x2), (3, .int x3)] := hl
  refine lv_aload_n hx hb dX7_row_0 rfl (lv_at hl 0 rfl) ?_
  refine lv_iload_n hx hb dX7_row_1 rfl (lv_at hl 1 rfl) ?_
  refine x_callV (n := 1) (wr := []) (q0 := 0) (As := [.int x1]) (rest := []) hB hV (x_N hB) hl.1 (c_isService l D cI cZ cS N0 h fs x1 h0) rfl rfl k_991 k_65 k_988 k_990 k_27 (by decide +kernel) ⟨(Nat.le_of_ble_eq_true rfl), (Nat.le_of_ble_eq_true rfl)⟩ rfl (Nat.le_of_ble_eq_true rfl) ⟨(Nat.le_of_ble_eq_true rfl), (Nat.le_of_ble_eq_true rfl)⟩ [0] [] rfl rfl rfl ⟨by decide, by decide, by decide⟩ dX7_row_2 (fun v w H locs hp hV => ?_)
  obtain ⟨rfl, rfl⟩ := hp
  have hV : Vx D A s.heap H locs [(h, .inr (7, fs))] := hV
  refine W.eq (g2 := F0 m 5 ls [.int 0]) rfl ?_
  refine lv_if_ne (tgt := 10) hx hb dX7_row_5 (by decide) (fun c_ => absurd (by decide) c_) (fun c_ => ?_)
  refine lv_iconst (v := (-1)) hx hb dX7_row_8 (by decide) ?_
  exact x_iret (w := []) hB hr hV hA (Nat.le_of_ble_eq_true rfl) (Nat.le_of_ble_eq_true rfl) [] rfl rfl (by decide) dX7_row_9 ⟨rfl, rfl⟩
set_option maxHeartbeats 4000000 in
set_option maxRecDepth 100000 in
theorem m_outside (l : Launch) (D : va_G) (cI cZ cS : ClassId) (N0 : NT) (h : Nat) (fs : List Value) (x1 : Int32) (h22 : fs[22]? = some (.int 0)) : Mx l D cI cZ cS N0 yX7_outside cX7_outside 2 (some .int) 1 0 0 [.ref h, .int x1] [(h, .inr (7, fs))] (fun v w => v = some (.int (-1)) ∧ w = ([] : va_W)) := by
  refine x_enter (by decide) (Nat.le_of_ble_eq_true rfl) ?_
  intro p e s m args below meth c A ls H locs hB hr hin hl hV hA
  have hx := hB.1
  have hb := hB.2.1
  have hl : lv_has ls 2 [(0, .ref h), (1, .int x1)] := hl
  refine lv_iload_n hx hb dX7_outside_0 rfl (lv_at hl 1 rfl) ?_
  refine lv_iconst (v := 0) hx hb dX7_outside_1 (by decide) ?_
  refine lv_aload_n hx hb dX7_outside_2 rfl (lv_at hl 0 rfl) ?_
  refine x_get (v := .int 0) hB hV 0 rfl rfl 22 (by decide) k_767 h22 dX7_outside_3 ?_
  refine lv_bipush (v := 40) hx hb dX7_outside_6 (by decide) ?_
  refine lv_icmp_ge (tgt := 18) hx hb dX7_outside_8 (by decide) (fun c_ => absurd c_ (by decide)) (fun c_ => ?_)
  refine lv_aload_n hx hb dX7_outside_11 rfl (lv_at hl 0 rfl) ?_
  refine x_get (v := .int 0) hB hV 0 rfl rfl 22 (by decide) k_767 h22 dX7_outside_12 ?_
  refine lv_goto (tgt := 20) hx hb dX7_outside_15 (by decide) ?_
  refine lv_iconst (v := 1) hx hb dX7_outside_20 (by decide) ?_
  refine lv_isub hx hb dX7_outside_21 ?_
  refine x_ev (y := (-1)) (by decide) ?_
  refine x_callS (n := 3) (wr := [(h, .inr (7, fs))]) (As := [.int x1, .int 0, .int (-1)]) (rest := []) hB hV (x_N hB) hl.1 (c_in_m1 l D cI cZ cS N0 x1 ) k_954 k_65 k_952 k_953 (by decide +kernel) ⟨(Nat.le_of_ble_eq_true rfl), (Nat.le_of_ble_eq_true rfl)⟩ rfl (Nat.le_of_ble_eq_true rfl) ⟨(Nat.le_of_ble_eq_true rfl), (Nat.le_of_ble_eq_true rfl)⟩ [] [0] rfl rfl rfl ⟨by decide, by decide, by decide⟩ dX7_outside_22 (fun v w H locs hp hV => ?_)
  obtain ⟨rfl, rfl⟩ := hp
  have hV : Vx D A s.heap H locs [(h, .inr (7, fs))] := hV
  refine W.eq (g2 := F0 m 25 ls [.int 0]) rfl ?_
  refine lv_if_eq (tgt := 37) hx hb dX7_outside_25 (by decide) (fun c_ => ?_) (fun c_ => absurd (by decide) c_)
  refine lv_iconst (v := (-1)) hx hb dX7_outside_37 (by decide) ?_
  exact x_iret (w := []) hB hr hV hA (Nat.le_of_ble_eq_true rfl) (Nat.le_of_ble_eq_true rfl) [] rfl rfl (by decide) dX7_outside_38 ⟨rfl, rfl⟩
set_option maxHeartbeats 4000000 in
set_option maxRecDepth 100000 in
theorem m_clear (l : Launch) (D : va_G) (cI cZ cS : ClassId) (N0 : NT) (h : Nat) (fs : List Value) (h30 : fs[30]? = some (.int 0)) : Mx l D cI cZ cS N0 yX7_clear cX7_clear 2 (some .int) 1 0 0 [.ref h] [(h, .inr (7, fs))] (fun v w => v = some (.int 0) ∧ w = ([] : va_W)) := by
  refine x_enter (by decide) (Nat.le_of_ble_eq_true rfl) ?_
  intro p e s m args below meth c A ls H locs hB hr hin hl hV hA
  have hx := hB.1
  have hb := hB.2.1
  have hl : lv_has ls 2 [(0, .ref h)] := hl
  refine lv_aload_n hx hb dX7_clear_0 rfl (lv_at hl 0 rfl) ?_
  refine x_get (v := .int 0) hB hV 0 rfl rfl 30 (by decide) k_775 h30 dX7_clear_1 ?_
  refine lv_istore_n (lv' := [(1, .int 0), (0, .ref h)]) hx hb dX7_clear_4 rfl hl (by decide) rfl (fun ls hl => ?_)
  refine lv_aload_n hx hb dX7_clear_5 rfl (lv_at hl 1 rfl) ?_
  refine lv_iconst (v := 0) hx hb dX7_clear_6 (by decide) ?_
  refine x_put (v := .int 0) hB hV 0 rfl rfl 30 (by decide) k_775 rfl rfl rfl (fs_lt h30) dX7_clear_7 (fun H locs hV => ?_)
  have hV : Vx D A s.heap H locs [(h, .inr (7, (fs.set 30 (.int 0))))] := hV
  refine lv_iload_n hx hb dX7_clear_10 rfl (lv_at hl 0 rfl) ?_
  exact x_iret (w := []) hB hr hV hA (Nat.le_of_ble_eq_true rfl) (Nat.le_of_ble_eq_true rfl) [] rfl rfl (by decide) dX7_clear_11 ⟨rfl, rfl⟩
set_option maxHeartbeats 4000000 in
set_option maxRecDepth 100000 in
theorem m_free (l : Launch) (D : va_G) (cI cZ cS : ClassId) (N0 : NT) (h : Nat) (fs : List Value) (x1 : Int32) (h34 : fs[34]? = some (.int 0)) : Mx l D cI cZ cS N0 yX7_free cX7_free 3 (some .int) 1 0 0 [.ref h, .int x1] [(h, .inr (7, fs))] (fun v w => ∃ (r : Int32), v = some (.int r) ∧ w = ([] : va_W) ∧ (r = sp_free x1)) := by
  refine x_enter (by decide) (Nat.le_of_ble_eq_true rfl) ?_
  intro p e s m args below meth c A ls H locs hB hr hin hl hV hA
  have hx := hB.1
  have hb := hB.2.1
  have hl : lv_has ls 3 [(0, .ref h), (1, .int x1)] := hl
  refine lv_iload_n hx hb dX7_free_0 rfl (lv_at hl 1 rfl) ?_
  refine lv_iconst (v := 0) hx hb dX7_free_1 (by decide) ?_
  refine lv_iconst (v := 1) hx hb dX7_free_2 (by decide) ?_
  refine x_callS (n := 3) (wr := [(h, .inr (7, fs))]) (As := [.int x1, .int 0, .int 1]) (rest := []) hB hV (x_N hB) hl.1 (c_in l D cI cZ cS N0 x1 0 1 ) k_954 k_65 k_952 k_953 (by decide +kernel) ⟨(Nat.le_of_ble_eq_true rfl), (Nat.le_of_ble_eq_true rfl)⟩ rfl (Nat.le_of_ble_eq_true rfl) ⟨(Nat.le_of_ble_eq_true rfl), (Nat.le_of_ble_eq_true rfl)⟩ [] [0] rfl rfl rfl ⟨by decide, by decide, by decide⟩ dX7_free_3 (fun v w H locs hp hV => ?_)
  obtain ⟨r_1, rfl, rfl, f_2⟩ := hp
  have hV : Vx D A s.heap H locs [(h, .inr (7, fs))] := hV
  refine W.eq (g2 := F0 m 6 ls [.int r_1]) rfl ?_
  rcases f_2 with ⟨rfl, hw_3⟩ | ⟨rfl, hw_3⟩
  · refine W.eq (g2 := F0 m 6 ls [.int 1]) rfl ?_
    refine lv_if_ne (tgt := 12) hx hb dX7_free_6 (by decide) (fun c_ => ?_) (fun c_ => absurd c_ (by decide))
    refine lv_aload_n hx hb dX7_free_12 rfl (lv_at hl 0 rfl) ?_
    refine x_get (v := .int 0) hB hV 0 rfl rfl 34 (by decide) k_779 h34 dX7_free_13 ?_
    refine lv_if_eq (tgt := 23) hx hb dX7_free_16 (by decide) (fun c_ => ?_) (fun c_ => absurd (by decide) c_)
    refine lv_iconst (v := 0) hx hb dX7_free_23 (by decide) ?_
    refine lv_istore_n (lv' := [(2, .int 0), (0, .ref h), (1, .int x1)]) hx hb dX7_free_24 rfl hl (by decide) rfl (fun ls hl => ?_)
    refine lv_aload_n hx hb dX7_free_25 rfl (lv_at hl 1 rfl) ?_
    refine lv_iload_n hx hb dX7_free_26 rfl (lv_at hl 2 rfl) ?_
    refine lv_iconst (v := 1) hx hb dX7_free_27 (by decide) ?_
    refine lv_icmp_ne (tgt := 35) hx hb dX7_free_28 (by decide) (fun c5 => ?_) (fun c5 => ?_)
    · refine lv_iconst (v := 0) hx hb dX7_free_35 (by decide) ?_
      refine x_put (v := .int 0) hB hV 0 rfl rfl 34 (by decide) k_779 rfl rfl rfl (fs_lt h34) dX7_free_36 (fun H locs hV => ?_)
      have hV : Vx D A s.heap H locs [(h, .inr (7, (fs.set 34 (.int 0))))] := hV
      refine lv_iload_n hx hb dX7_free_39 rfl (lv_at hl 0 rfl) ?_
      exact x_iret (w := []) hB hr hV hA (Nat.le_of_ble_eq_true rfl) (Nat.le_of_ble_eq_true rfl) [] rfl rfl (by decide) dX7_free_40 ⟨0, rfl, rfl, (if_neg hw_3).symm⟩
    · refine lv_iconst (v := 1) hx hb dX7_free_31 (by decide) ?_
      refine lv_goto (tgt := 36) hx hb dX7_free_32 (by decide) ?_
      refine x_put (v := .int 1) hB hV 0 rfl rfl 34 (by decide) k_779 rfl rfl rfl (fs_lt h34) dX7_free_36 (fun H locs hV => ?_)
      have hV : Vx D A s.heap H locs [(h, .inr (7, (fs.set 34 (.int 1))))] := hV
      refine lv_iload_n hx hb dX7_free_39 rfl (lv_at hl 0 rfl) ?_
      exact x_iret (w := []) hB hr hV hA (Nat.le_of_ble_eq_true rfl) (Nat.le_of_ble_eq_true rfl) [] rfl rfl (by decide) dX7_free_40 ⟨0, rfl, rfl, (if_neg hw_3).symm⟩
  · refine W.eq (g2 := F0 m 6 ls [.int 0]) rfl ?_
    refine lv_if_ne (tgt := 12) hx hb dX7_free_6 (by decide) (fun c_ => absurd (by decide) c_) (fun c_ => ?_)
    refine lv_bipush (v := (-2)) hx hb dX7_free_9 (by decide) ?_
    exact x_iret (w := []) hB hr hV hA (Nat.le_of_ble_eq_true rfl) (Nat.le_of_ble_eq_true rfl) [] rfl rfl (by decide) dX7_free_11 ⟨(-2), rfl, rfl, (if_pos hw_3).symm⟩
set_option maxHeartbeats 4000000 in
set_option maxRecDepth 100000 in
theorem m_safe (l : Launch) (D : va_G) (cI cZ cS : ClassId) (N0 : NT) (h : Nat) (fs : List Value) (x1 : Int32) (x2 : Int32) (x3 : Int32) (h30 : fs[30]? = some (.int 0)) : Mx l D cI cZ cS N0 yX7_safe cX7_safe 4 (some .int) 1 0 0 [.ref h, .int x1, .int x2, .int x3] [(h, .inr (7, fs))] (fun v w => v = some (.int (-1)) ∧ w = ([] : va_W)) := by
  refine x_enter (by decide) (Nat.le_of_ble_eq_true rfl) ?_
  intro p e s m args below meth c A ls H locs hB hr hin hl hV hA
  have hx := hB.1
  have hb := hB.2.1
  have hl : lv_has ls 4 [(0, .ref h), (1, .int x1), (2, .int x2), (3, .int x3)] := hl
  refine lv_iload_n hx hb dX7_safe_0 rfl (lv_at hl 1 rfl) ?_
  refine lv_iconst (v := 0) hx hb dX7_safe_1 (by decide) ?_
  refine lv_aload_n hx hb dX7_safe_2 rfl (lv_at hl 0 rfl) ?_
  refine x_get (v := .int 0) hB hV 0 rfl rfl 30 (by decide) k_775 h30 dX7_safe_3 ?_
  refine lv_iconst (v := 1) hx hb dX7_safe_6 (by decide) ?_
  refine lv_isub hx hb dX7_safe_7 ?_
  refine x_ev (y := (-1)) (by decide) ?_
  refine x_callS (n := 3) (wr := [(h, .inr (7, fs))]) (As := [.int x1, .int 0, .int (-1)]) (rest := []) hB hV (x_N hB) hl.1 (c_in_m1 l D cI cZ cS N0 x1 ) k_954 k_65 k_952 k_953 (by decide +kernel) ⟨(Nat.le_of_ble_eq_true rfl), (Nat.le_of_ble_eq_true rfl)⟩ rfl (Nat.le_of_ble_eq_true rfl) ⟨(Nat.le_of_ble_eq_true rfl), (Nat.le_of_ble_eq_true rfl)⟩ [] [0] rfl rfl rfl ⟨by decide, by decide, by decide⟩ dX7_safe_8 (fun v w H locs hp hV => ?_)
  obtain ⟨rfl, rfl⟩ := hp
  have hV : Vx D A s.heap H locs [(h, .inr (7, fs))] := hV
  refine W.eq (g2 := F0 m 11 ls [.int 0]) rfl ?_
  refine lv_if_ne (tgt := 16) hx hb dX7_safe_11 (by decide) (fun c_ => absurd (by decide) c_) (fun c_ => ?_)
  refine lv_iconst (v := (-1)) hx hb dX7_safe_14 (by decide) ?_
  exact x_iret (w := []) hB hr hV hA (Nat.le_of_ble_eq_true rfl) (Nat.le_of_ble_eq_true rfl) [] rfl rfl (by decide) dX7_safe_15 ⟨rfl, rfl⟩
set_option maxHeartbeats 4000000 in
set_option maxRecDepth 100000 in
theorem m_orders (l : Launch) (D : va_G) (cI cZ cS : ClassId) (N0 : NT) (h : Nat) (fs : List Value) (x1 : Int32) (x2 : Int32) (h30 : fs[30]? = some (.int 0)) : Mx l D cI cZ cS N0 yX7_orders cX7_orders 7 (some .int) 1 0 0 [.ref h, .int x1, .int x2] [(h, .inr (7, fs))] (fun v w => v = some (.int (-1)) ∧ w = ([] : va_W)) := by
  refine x_enter (by decide) (Nat.le_of_ble_eq_true rfl) ?_
  intro p e s m args below meth c A ls H locs hB hr hin hl hV hA
  have hx := hB.1
  have hb := hB.2.1
  have hl : lv_has ls 7 [(0, .ref h), (1, .int x1), (2, .int x2)] := hl
  refine lv_iload_n hx hb dX7_orders_0 rfl (lv_at hl 1 rfl) ?_
  refine lv_iconst (v := 0) hx hb dX7_orders_1 (by decide) ?_
  refine lv_aload_n hx hb dX7_orders_2 rfl (lv_at hl 0 rfl) ?_
  refine x_get (v := .int 0) hB hV 0 rfl rfl 30 (by decide) k_775 h30 dX7_orders_3 ?_
  refine lv_iconst (v := 1) hx hb dX7_orders_6 (by decide) ?_
  refine lv_isub hx hb dX7_orders_7 ?_
  refine x_ev (y := (-1)) (by decide) ?_
  refine x_callS (n := 3) (wr := [(h, .inr (7, fs))]) (As := [.int x1, .int 0, .int (-1)]) (rest := []) hB hV (x_N hB) hl.1 (c_in_m1 l D cI cZ cS N0 x1 ) k_954 k_65 k_952 k_953 (by decide +kernel) ⟨(Nat.le_of_ble_eq_true rfl), (Nat.le_of_ble_eq_true rfl)⟩ rfl (Nat.le_of_ble_eq_true rfl) ⟨(Nat.le_of_ble_eq_true rfl), (Nat.le_of_ble_eq_true rfl)⟩ [] [0] rfl rfl rfl ⟨by decide, by decide, by decide⟩ dX7_orders_8 (fun v w H locs hp hV => ?_)
  obtain ⟨rfl, rfl⟩ := hp
  have hV : Vx D A s.heap H locs [(h, .inr (7, fs))] := hV
  refine W.eq (g2 := F0 m 11 ls [.int 0]) rfl ?_
  refine lv_if_eq (tgt := 23) hx hb dX7_orders_11 (by decide) (fun c_ => ?_) (fun c_ => absurd (by decide) c_)
  refine lv_iconst (v := (-1)) hx hb dX7_orders_23 (by decide) ?_
  exact x_iret (w := []) hB hr hV hA (Nat.le_of_ble_eq_true rfl) (Nat.le_of_ble_eq_true rfl) [] rfl rfl (by decide) dX7_orders_24 ⟨rfl, rfl⟩
set_option maxHeartbeats 4000000 in
set_option maxRecDepth 100000 in
theorem m_log (l : Launch) (D : va_G) (cI cZ cS : ClassId) (N0 : NT) (h : Nat) (fs : List Value) (x1 : Int32) (x2 : Int32) (h24 : fs[24]? = some (.int 0)) : Mx l D cI cZ cS N0 yX7_log cX7_log 3 (some .int) 1 0 0 [.ref h, .int x1, .int x2] [(h, .inr (7, fs))] (fun v w => v = some (.int (-1)) ∧ w = ([] : va_W)) := by
  refine x_enter (by decide) (Nat.le_of_ble_eq_true rfl) ?_
  intro p e s m args below meth c A ls H locs hB hr hin hl hV hA
  have hx := hB.1
  have hb := hB.2.1
  have hl : lv_has ls 3 [(0, .ref h), (1, .int x1), (2, .int x2)] := hl
  refine lv_iload_n hx hb dX7_log_0 rfl (lv_at hl 1 rfl) ?_
  refine lv_iconst (v := 0) hx hb dX7_log_1 (by decide) ?_
  refine lv_aload_n hx hb dX7_log_2 rfl (lv_at hl 0 rfl) ?_
  refine x_get (v := .int 0) hB hV 0 rfl rfl 24 (by decide) k_769 h24 dX7_log_3 ?_
  refine lv_iconst (v := 1) hx hb dX7_log_6 (by decide) ?_
  refine lv_isub hx hb dX7_log_7 ?_
  refine x_ev (y := (-1)) (by decide) ?_
  refine x_callS (n := 3) (wr := [(h, .inr (7, fs))]) (As := [.int x1, .int 0, .int (-1)]) (rest := []) hB hV (x_N hB) hl.1 (c_in_m1 l D cI cZ cS N0 x1 ) k_954 k_65 k_952 k_953 (by decide +kernel) ⟨(Nat.le_of_ble_eq_true rfl), (Nat.le_of_ble_eq_true rfl)⟩ rfl (Nat.le_of_ble_eq_true rfl) ⟨(Nat.le_of_ble_eq_true rfl), (Nat.le_of_ble_eq_true rfl)⟩ [] [0] rfl rfl rfl ⟨by decide, by decide, by decide⟩ dX7_log_8 (fun v w H locs hp hV => ?_)
  obtain ⟨rfl, rfl⟩ := hp
  have hV : Vx D A s.heap H locs [(h, .inr (7, fs))] := hV
  refine W.eq (g2 := F0 m 11 ls [.int 0]) rfl ?_
  refine lv_if_ne (tgt := 16) hx hb dX7_log_11 (by decide) (fun c_ => absurd (by decide) c_) (fun c_ => ?_)
  refine lv_iconst (v := (-1)) hx hb dX7_log_14 (by decide) ?_
  exact x_iret (w := []) hB hr hV hA (Nat.le_of_ble_eq_true rfl) (Nat.le_of_ble_eq_true rfl) [] rfl rfl (by decide) dX7_log_15 ⟨rfl, rfl⟩
set_option maxHeartbeats 4000000 in
set_option maxRecDepth 100000 in
theorem m_price (l : Launch) (D : va_G) (cI cZ cS : ClassId) (N0 : NT) (h : Nat) (fs : List Value) (q_price : Nat) (x1 : Int32) (x2 : Int32) (h35 : fs[35]? = some (.ref q_price)) : Mx l D cI cZ cS N0 yX7_price cX7_price 4 (some .int) 1 0 0 [.ref h, .int x1, .int x2] [(h, .inr (7, fs)), (q_price, .inl (cI, 4, .inl (upd (upd (upd (upd (fun _ => 0) 0 1) 1 1) 2 1) 3 1)))] (fun v w => ∃ (r : Int32), v = some (.int r) ∧ w = ([] : va_W) ∧ (r = sp_price x1 x2)) := by
  refine x_enter (by decide) (Nat.le_of_ble_eq_true rfl) ?_
  intro p e s m args below meth c A ls H locs hB hr hin hl hV hA
  have hx := hB.1
  have hb := hB.2.1
  have hl : lv_has ls 4 [(0, .ref h), (1, .int x1), (2, .int x2)] := hl
  refine lv_iload_n hx hb dX7_price_0 rfl (lv_at hl 1 rfl) ?_
  refine lv_iconst (v := 0) hx hb dX7_price_1 (by decide) ?_
  refine lv_iconst (v := 3) hx hb dX7_price_2 (by decide) ?_
  refine x_callS (n := 3) (wr := [(h, .inr (7, fs)), (q_price, .inl (cI, 4, .inl (upd (upd (upd (upd (fun _ => 0) 0 1) 1 1) 2 1) 3 1)))]) (As := [.int x1, .int 0, .int 3]) (rest := []) hB hV (x_N hB) hl.1 (c_in l D cI cZ cS N0 x1 0 3 ) k_954 k_65 k_952 k_953 (by decide +kernel) ⟨(Nat.le_of_ble_eq_true rfl), (Nat.le_of_ble_eq_true rfl)⟩ rfl (Nat.le_of_ble_eq_true rfl) ⟨(Nat.le_of_ble_eq_true rfl), (Nat.le_of_ble_eq_true rfl)⟩ [] [0, 1] rfl rfl rfl ⟨by decide, by decide, by decide⟩ dX7_price_3 (fun v w H locs hp hV => ?_)
  obtain ⟨r_1, rfl, rfl, f_2⟩ := hp
  have hV : Vx D A s.heap H locs [(h, .inr (7, fs)), (q_price, .inl (cI, 4, .inl (upd (upd (upd (upd (fun _ => 0) 0 1) 1 1) 2 1) 3 1)))] := hV
  refine W.eq (g2 := F0 m 6 ls [.int r_1]) rfl ?_
  rcases f_2 with ⟨rfl, hw_3⟩ | ⟨rfl, hw_3⟩
  · refine W.eq (g2 := F0 m 6 ls [.int 1]) rfl ?_
    refine lv_if_ne (tgt := 11) hx hb dX7_price_6 (by decide) (fun c_ => ?_) (fun c_ => absurd c_ (by decide))
    refine lv_iload_n hx hb dX7_price_11 rfl (lv_at hl 2 rfl) ?_
    refine lv_iconst (v := 0) hx hb dX7_price_12 (by decide) ?_
    refine lv_bipush (v := 99) hx hb dX7_price_13 (by decide) ?_
    refine x_callS (n := 3) (wr := [(h, .inr (7, fs)), (q_price, .inl (cI, 4, .inl (upd (upd (upd (upd (fun _ => 0) 0 1) 1 1) 2 1) 3 1)))]) (As := [.int x2, .int 0, .int 99]) (rest := []) hB hV (x_N hB) hl.1 (c_in l D cI cZ cS N0 x2 0 99 ) k_954 k_65 k_952 k_953 (by decide +kernel) ⟨(Nat.le_of_ble_eq_true rfl), (Nat.le_of_ble_eq_true rfl)⟩ rfl (Nat.le_of_ble_eq_true rfl) ⟨(Nat.le_of_ble_eq_true rfl), (Nat.le_of_ble_eq_true rfl)⟩ [] [0, 1] rfl rfl rfl ⟨by decide, by decide, by decide⟩ dX7_price_15 (fun v w H locs hp hV => ?_)
    obtain ⟨r_4, rfl, rfl, f_5⟩ := hp
    have hV : Vx D A s.heap H locs [(h, .inr (7, fs)), (q_price, .inl (cI, 4, .inl (upd (upd (upd (upd (fun _ => 0) 0 1) 1 1) 2 1) 3 1)))] := hV
    refine W.eq (g2 := F0 m 18 ls [.int r_4]) rfl ?_
    rcases f_5 with ⟨rfl, hw_6⟩ | ⟨rfl, hw_6⟩
    · refine W.eq (g2 := F0 m 18 ls [.int 1]) rfl ?_
      refine lv_if_ne (tgt := 24) hx hb dX7_price_18 (by decide) (fun c_ => ?_) (fun c_ => absurd c_ (by decide))
      obtain ⟨j, hj, rfl⟩ := sw_in (n := 4) rfl hw_3
      refine lv_aload_n hx hb dX7_price_24 rfl (lv_at hl 0 rfl) ?_
      refine x_get (v := .ref q_price) hB hV 0 rfl rfl 35 (by decide) k_780 h35 dX7_price_25 ?_
      refine lv_iload_n hx hb dX7_price_28 rfl (lv_at hl 1 rfl) ?_
      refine x_iald (v := 1) hB hV 1 rfl (vp_in_nI (by omega) (by decide)) (pr_one hj) dX7_price_29 ?_
      refine lv_istore_n (lv' := [(3, .int 1), (0, .ref h), (1, .int (nI j)), (2, .int x2)]) hx hb dX7_price_30 rfl hl (by decide) rfl (fun ls hl => ?_)
      refine lv_aload_n hx hb dX7_price_31 rfl (lv_at hl 1 rfl) ?_
      refine x_get (v := .ref q_price) hB hV 0 rfl rfl 35 (by decide) k_780 h35 dX7_price_32 ?_
      refine lv_iload_n hx hb dX7_price_35 rfl (lv_at hl 2 rfl) ?_
      refine lv_iload_n hx hb dX7_price_36 rfl (lv_at hl 3 rfl) ?_
      refine x_iast (g := (upd (upd (upd (upd (upd (fun _ => 0) 0 1) 1 1) 2 1) 3 1) (nI j).toNatClampNeg x2)) hB hV 1 rfl (vp_in_nI (by omega) (by decide)) rfl dX7_price_37 (fun H locs hV => ?_)
      have hV : Vx D A s.heap H locs [(h, .inr (7, fs)), (q_price, .inl (cI, 4, .inl (upd (upd (upd (upd (upd (fun _ => 0) 0 1) 1 1) 2 1) 3 1) (nI j).toNatClampNeg x2)))] := hV
      refine lv_iload_n hx hb dX7_price_38 rfl (lv_at hl 0 rfl) ?_
      exact x_iret (w := []) hB hr hV hA (Nat.le_of_ble_eq_true rfl) (Nat.le_of_ble_eq_true rfl) [] rfl rfl (by decide) dX7_price_39 ⟨1, rfl, rfl, ((if_neg hw_3).trans (if_neg hw_6)).symm⟩
    · refine W.eq (g2 := F0 m 18 ls [.int 0]) rfl ?_
      refine lv_if_ne (tgt := 24) hx hb dX7_price_18 (by decide) (fun c_ => absurd (by decide) c_) (fun c_ => ?_)
      refine lv_bipush (v := (-2)) hx hb dX7_price_21 (by decide) ?_
      exact x_iret (w := []) hB hr hV hA (Nat.le_of_ble_eq_true rfl) (Nat.le_of_ble_eq_true rfl) [] rfl rfl (by decide) dX7_price_23 ⟨(-2), rfl, rfl, ((if_neg hw_3).trans (if_pos hw_6)).symm⟩
  · refine W.eq (g2 := F0 m 6 ls [.int 0]) rfl ?_
    refine lv_if_ne (tgt := 11) hx hb dX7_price_6 (by decide) (fun c_ => absurd (by decide) c_) (fun c_ => ?_)
    refine lv_iconst (v := (-1)) hx hb dX7_price_9 (by decide) ?_
    exact x_iret (w := []) hB hr hV hA (Nat.le_of_ble_eq_true rfl) (Nat.le_of_ble_eq_true rfl) [] rfl rfl (by decide) dX7_price_10 ⟨(-1), rfl, rfl, (if_pos hw_3).symm⟩
set_option maxHeartbeats 4000000 in
set_option maxRecDepth 100000 in
theorem m_count (l : Launch) (D : va_G) (cI cZ cS : ClassId) (N0 : NT) (h : Nat) (fs : List Value) (q_tick : Nat) (x1 : Int32) (h0 : fs[0]? = some (.int 0)) (h30 : fs[30]? = some (.int 0)) (h22 : fs[22]? = some (.int 0)) (h24 : fs[24]? = some (.int 0)) (h29 : fs[29]? = some (.int 0)) (h14 : fs[14]? = some (.ref q_tick)) : Mx l D cI cZ cS N0 yX7_count cX7_count 2 (some .int) 1 0 0 [.ref h, .int x1] [(h, .inr (7, fs)), (q_tick, .inl (cI, 2, .inl (fun _ => 0)))] (fun v w => ∃ (r : Int32), v = some (.int r) ∧ w = ([] : va_W) ∧ (r = sp_count x1)) := by
  refine x_enter (by decide) (Nat.le_of_ble_eq_true rfl) ?_
  intro p e s m args below meth c A ls H locs hB hr hin hl hV hA
  have hx := hB.1
  have hb := hB.2.1
  have hl : lv_has ls 2 [(0, .ref h), (1, .int x1)] := hl
  refine lv_iload_n hx hb dX7_count_0 rfl (lv_at hl 1 rfl) ?_
  by_cases ht_1 : (x1 < 0 ∨ 5 < x1)
  · refine lv_tableOut (tgt := 72) hx hb dX7_count_1 (sw_out ht_1) (by decide) ?_
    refine lv_iconst (v := (-1)) hx hb dX7_count_72 (by decide) ?_
    exact x_iret (w := []) hB hr hV hA (Nat.le_of_ble_eq_true rfl) (Nat.le_of_ble_eq_true rfl) [] rfl rfl (by decide) dX7_count_73 ⟨(-1), rfl, rfl, (if_pos ht_1).symm⟩
  · obtain ⟨j_2, hj_2, ej_2⟩ := sw_in (n := 6) rfl ht_1
    rcases (show j_2 = 0 ∨ j_2 = 1 ∨ j_2 = 2 ∨ j_2 = 3 ∨ j_2 = 4 ∨ j_2 = 5 by omega) with rfl | rfl | rfl | rfl | rfl | rfl
    · refine x_ev (y := 0) ej_2 ?_
      refine lv_tableIn (off := 39) (tgt := 40) hx hb dX7_count_1 (by decide) (by decide) rfl (by decide) ?_
      refine lv_aload_n hx hb dX7_count_40 rfl (lv_at hl 0 rfl) ?_
      refine x_get (v := .int 0) hB hV 0 rfl rfl 0 (by decide) k_745 h0 dX7_count_41 ?_
      exact x_iret (w := []) hB hr hV hA (Nat.le_of_ble_eq_true rfl) (Nat.le_of_ble_eq_true rfl) [] rfl rfl (by decide) dX7_count_44 ⟨0, rfl, rfl, (if_neg ht_1).symm⟩
    · refine x_ev (y := 1) ej_2 ?_
      refine lv_tableIn (off := 44) (tgt := 45) hx hb dX7_count_1 (by decide) (by decide) rfl (by decide) ?_
      refine lv_aload_n hx hb dX7_count_45 rfl (lv_at hl 0 rfl) ?_
      refine x_get (v := .int 0) hB hV 0 rfl rfl 30 (by decide) k_775 h30 dX7_count_46 ?_
      exact x_iret (w := []) hB hr hV hA (Nat.le_of_ble_eq_true rfl) (Nat.le_of_ble_eq_true rfl) [] rfl rfl (by decide) dX7_count_49 ⟨0, rfl, rfl, (if_neg ht_1).symm⟩
    · refine x_ev (y := 2) ej_2 ?_
      refine lv_tableIn (off := 49) (tgt := 50) hx hb dX7_count_1 (by decide) (by decide) rfl (by decide) ?_
      refine lv_aload_n hx hb dX7_count_50 rfl (lv_at hl 0 rfl) ?_
      refine x_get (v := .int 0) hB hV 0 rfl rfl 22 (by decide) k_767 h22 dX7_count_51 ?_
      exact x_iret (w := []) hB hr hV hA (Nat.le_of_ble_eq_true rfl) (Nat.le_of_ble_eq_true rfl) [] rfl rfl (by decide) dX7_count_54 ⟨0, rfl, rfl, (if_neg ht_1).symm⟩
    · refine x_ev (y := 3) ej_2 ?_
      refine lv_tableIn (off := 54) (tgt := 55) hx hb dX7_count_1 (by decide) (by decide) rfl (by decide) ?_
      refine lv_aload_n hx hb dX7_count_55 rfl (lv_at hl 0 rfl) ?_
      refine x_get (v := .ref q_tick) hB hV 0 rfl rfl 14 (by decide) k_759 h14 dX7_count_56 ?_
      refine lv_iconst (v := 0) hx hb dX7_count_59 (by decide) ?_
      refine x_iald (v := 0) hB hV 1 rfl (by unfold vp_in; decide) rfl dX7_count_60 ?_
      exact x_iret (w := []) hB hr hV hA (Nat.le_of_ble_eq_true rfl) (Nat.le_of_ble_eq_true rfl) [] rfl rfl (by decide) dX7_count_61 ⟨0, rfl, rfl, (if_neg ht_1).symm⟩
    · refine x_ev (y := 4) ej_2 ?_
      refine lv_tableIn (off := 61) (tgt := 62) hx hb dX7_count_1 (by decide) (by decide) rfl (by decide) ?_
      refine lv_aload_n hx hb dX7_count_62 rfl (lv_at hl 0 rfl) ?_
      refine x_get (v := .int 0) hB hV 0 rfl rfl 24 (by decide) k_769 h24 dX7_count_63 ?_
      exact x_iret (w := []) hB hr hV hA (Nat.le_of_ble_eq_true rfl) (Nat.le_of_ble_eq_true rfl) [] rfl rfl (by decide) dX7_count_66 ⟨0, rfl, rfl, (if_neg ht_1).symm⟩
    · refine x_ev (y := 5) ej_2 ?_
      refine lv_tableIn (off := 66) (tgt := 67) hx hb dX7_count_1 (by decide) (by decide) rfl (by decide) ?_
      refine lv_aload_n hx hb dX7_count_67 rfl (lv_at hl 0 rfl) ?_
      refine x_get (v := .int 0) hB hV 0 rfl rfl 29 (by decide) k_774 h29 dX7_count_68 ?_
      exact x_iret (w := []) hB hr hV hA (Nat.le_of_ble_eq_true rfl) (Nat.le_of_ble_eq_true rfl) [] rfl rfl (by decide) dX7_count_71 ⟨0, rfl, rfl, (if_neg ht_1).symm⟩
