theorem k_7 : Cond.selects RX3 yX3_isOver yX3_isOver ∈ tb := mt 7 (by decide +kernel) rfl
theorem k_60 : Cond.initialized RX3 ∈ tb := mt 60 (by decide +kernel) rfl
theorem k_149 : Cond.fieldLink RX3 22 "TwiceOnce$Service" "counter" "I" ∈ tb := mt 149 (by decide +kernel) rfl
theorem k_163 : Cond.fieldLink RX3 47 "TwiceOnce$Service" "knownX" "I" ∈ tb := mt 163 (by decide +kernel) rfl
theorem k_164 : Cond.fieldLink RX3 50 "TwiceOnce$Service" "knownKey" "I" ∈ tb := mt 164 (by decide +kernel) rfl
theorem k_458 : Cond.methodLink RX3 69 yX3_isOver ∈ tb := mt 458 (by decide +kernel) rfl
theorem k_460 : Cond.instanceMethod yX3_isOver ∈ tb := mt 460 (by decide +kernel) rfl
set_option maxRecDepth 20000 in
theorem k_461 : Cond.code yX3_isOver cX3_isOver 3 (some .boolean) ∈ tb := mt 461 rfl rfl
theorem k_510 : Cond.instanceMethod yX3_isMended ∈ tb := mt 510 (by decide +kernel) rfl
theorem k_511 : Cond.selects RX3 yX3_isMended yX3_isMended ∈ tb := mt 511 (by decide +kernel) rfl
set_option maxRecDepth 20000 in
theorem k_512 : Cond.code yX3_isMended cX3_isMended 2 (some .boolean) ∈ tb := mt 512 rfl rfl
theorem k_530 : Cond.methodLink RX3 73 yX3_isMended ∈ tb := mt 530 (by decide +kernel) rfl
theorem dX3_hasSameStore_2 : decode cX3_hasSameStore 2 = .ok (.iload_n 2, 1) := by decide +kernel
theorem dX3_hasSameStore_3 : decode cX3_hasSameStore 3 = .ok (.iconst 4, 1) := by decide +kernel
theorem dX3_hasSameStore_4 : decode cX3_hasSameStore 4 = .ok (.if_icmp .ge 26, 3) := by decide +kernel
theorem dX3_hasSameStore_30 : decode cX3_hasSameStore 30 = .ok (.iconst 1, 1) := by decide +kernel
theorem dX3_hasSameStore_31 : decode cX3_hasSameStore 31 = .ok (.ireturn, 1) := by decide +kernel
theorem dX3_hasSameStore_7 : decode cX3_hasSameStore 7 = .ok (.aload_n 0, 1) := by decide +kernel
theorem dX3_hasSameStore_8 : decode cX3_hasSameStore 8 = .ok (.getfield 18, 3) := by decide +kernel
theorem dX3_hasSameStore_11 : decode cX3_hasSameStore 11 = .ok (.iload_n 2, 1) := by decide +kernel
theorem dX3_hasSameStore_12 : decode cX3_hasSameStore 12 = .ok (.iaload, 1) := by decide +kernel
theorem dX3_hasSameStore_13 : decode cX3_hasSameStore 13 = .ok (.aload_n 1, 1) := by decide +kernel
theorem dX3_hasSameStore_14 : decode cX3_hasSameStore 14 = .ok (.getfield 18, 3) := by decide +kernel
theorem dX3_hasSameStore_17 : decode cX3_hasSameStore 17 = .ok (.iload_n 2, 1) := by decide +kernel
theorem dX3_hasSameStore_18 : decode cX3_hasSameStore 18 = .ok (.iaload, 1) := by decide +kernel
theorem dX3_hasSameStore_19 : decode cX3_hasSameStore 19 = .ok (.if_icmp .eq 5, 3) := by decide +kernel
theorem dX3_hasSameStore_24 : decode cX3_hasSameStore 24 = .ok (.iinc 2 1, 3) := by decide +kernel
theorem dX3_hasSameStore_27 : decode cX3_hasSameStore 27 = .ok (.goto (-25), 3) := by decide +kernel
theorem dX3_hasSameStore_22 : decode cX3_hasSameStore 22 = .ok (.iconst 0, 1) := by decide +kernel
theorem dX3_hasSameStore_23 : decode cX3_hasSameStore 23 = .ok (.ireturn, 1) := by decide +kernel
theorem dX3_hasSameStore_0 : decode cX3_hasSameStore 0 = .ok (.iconst 0, 1) := by decide +kernel
theorem dX3_hasSameStore_1 : decode cX3_hasSameStore 1 = .ok (.istore_n 2, 1) := by decide +kernel
theorem dX3_makeFresh_2 : decode cX3_makeFresh 2 = .ok (.iload_n 1, 1) := by decide +kernel
theorem dX3_makeFresh_3 : decode cX3_makeFresh 3 = .ok (.iconst 4, 1) := by decide +kernel
theorem dX3_makeFresh_4 : decode cX3_makeFresh 4 = .ok (.if_icmp .ge 16, 3) := by decide +kernel
theorem dX3_makeFresh_20 : decode cX3_makeFresh 20 = .ok (.aload_n 0, 1) := by decide +kernel
theorem dX3_makeFresh_21 : decode cX3_makeFresh 21 = .ok (.iconst 0, 1) := by decide +kernel
theorem dX3_makeFresh_22 : decode cX3_makeFresh 22 = .ok (.putfield 22, 3) := by decide +kernel
theorem dX3_makeFresh_25 : decode cX3_makeFresh 25 = .ok (.aload_n 0, 1) := by decide +kernel
theorem dX3_makeFresh_26 : decode cX3_makeFresh 26 = .ok (.iconst 0, 1) := by decide +kernel
theorem dX3_makeFresh_27 : decode cX3_makeFresh 27 = .ok (.putfield 32, 3) := by decide +kernel
theorem dX3_makeFresh_30 : decode cX3_makeFresh 30 = .ok (.return_, 1) := by decide +kernel
theorem dX3_makeFresh_7 : decode cX3_makeFresh 7 = .ok (.aload_n 0, 1) := by decide +kernel
theorem dX3_makeFresh_8 : decode cX3_makeFresh 8 = .ok (.getfield 18, 3) := by decide +kernel
theorem dX3_makeFresh_11 : decode cX3_makeFresh 11 = .ok (.iload_n 1, 1) := by decide +kernel
theorem dX3_makeFresh_12 : decode cX3_makeFresh 12 = .ok (.iconst 0, 1) := by decide +kernel
theorem dX3_makeFresh_13 : decode cX3_makeFresh 13 = .ok (.iastore, 1) := by decide +kernel
theorem dX3_makeFresh_14 : decode cX3_makeFresh 14 = .ok (.iinc 1 1, 3) := by decide +kernel
theorem dX3_makeFresh_17 : decode cX3_makeFresh 17 = .ok (.goto (-15), 3) := by decide +kernel
theorem dX3_makeFresh_0 : decode cX3_makeFresh 0 = .ok (.iconst 0, 1) := by decide +kernel
theorem dX3_makeFresh_1 : decode cX3_makeFresh 1 = .ok (.istore_n 1, 1) := by decide +kernel
theorem dX3_keysNotOver_4 : decode cX3_keysNotOver 4 = .ok (.iload_n 3, 1) := by decide +kernel
theorem dX3_keysNotOver_5 : decode cX3_keysNotOver 5 = .ok (.aload_n 0, 1) := by decide +kernel
theorem dX3_keysNotOver_6 : decode cX3_keysNotOver 6 = .ok (.getfield 32, 3) := by decide +kernel
theorem dX3_keysNotOver_9 : decode cX3_keysNotOver 9 = .ok (.if_icmp .ge 26, 3) := by decide +kernel
theorem dX3_keysNotOver_35 : decode cX3_keysNotOver 35 = .ok (.iload_n 2, 1) := by decide +kernel
theorem dX3_keysNotOver_36 : decode cX3_keysNotOver 36 = .ok (.ireturn, 1) := by decide +kernel
theorem dX3_keysNotOver_12 : decode cX3_keysNotOver 12 = .ok (.iload_n 2, 1) := by decide +kernel
theorem dX3_keysNotOver_13 : decode cX3_keysNotOver 13 = .ok (.aload_n 0, 1) := by decide +kernel
theorem dX3_keysNotOver_14 : decode cX3_keysNotOver 14 = .ok (.iload_n 3, 1) := by decide +kernel
theorem dX3_keysNotOver_15 : decode cX3_keysNotOver 15 = .ok (.iload_n 1, 1) := by decide +kernel
theorem dX3_keysNotOver_16 : decode cX3_keysNotOver 16 = .ok (.invokevirtual 69, 3) := by decide +kernel
theorem dX3_keysNotOver_19 : decode cX3_keysNotOver 19 = .ok (.ifCond .eq 7, 3) := by decide +kernel
theorem dX3_keysNotOver_22 : decode cX3_keysNotOver 22 = .ok (.iconst 0, 1) := by decide +kernel
theorem dX3_keysNotOver_23 : decode cX3_keysNotOver 23 = .ok (.goto 4, 3) := by decide +kernel
theorem dX3_keysNotOver_27 : decode cX3_keysNotOver 27 = .ok (.iadd, 1) := by decide +kernel
theorem dX3_keysNotOver_28 : decode cX3_keysNotOver 28 = .ok (.istore_n 2, 1) := by decide +kernel
theorem dX3_keysNotOver_29 : decode cX3_keysNotOver 29 = .ok (.iinc 3 1, 3) := by decide +kernel
theorem dX3_keysNotOver_32 : decode cX3_keysNotOver 32 = .ok (.goto (-28), 3) := by decide +kernel
theorem dX3_keysNotOver_26 : decode cX3_keysNotOver 26 = .ok (.iconst 1, 1) := by decide +kernel
theorem dX3_keysNotOver_0 : decode cX3_keysNotOver 0 = .ok (.iconst 0, 1) := by decide +kernel
theorem dX3_keysNotOver_1 : decode cX3_keysNotOver 1 = .ok (.istore_n 2, 1) := by decide +kernel
theorem dX3_keysNotOver_2 : decode cX3_keysNotOver 2 = .ok (.iconst 0, 1) := by decide +kernel
theorem dX3_keysNotOver_3 : decode cX3_keysNotOver 3 = .ok (.istore_n 3, 1) := by decide +kernel
theorem dX3_dropOver_4 : decode cX3_dropOver 4 = .ok (.iload_n 3, 1) := by decide +kernel
theorem dX3_dropOver_5 : decode cX3_dropOver 5 = .ok (.aload_n 0, 1) := by decide +kernel
theorem dX3_dropOver_6 : decode cX3_dropOver 6 = .ok (.getfield 32, 3) := by decide +kernel
theorem dX3_dropOver_9 : decode cX3_dropOver 9 = .ok (.if_icmp .ge 69, 3) := by decide +kernel
theorem dX3_dropOver_78 : decode cX3_dropOver 78 = .ok (.aload_n 0, 1) := by decide +kernel
theorem dX3_dropOver_79 : decode cX3_dropOver 79 = .ok (.iload_n 2, 1) := by decide +kernel
theorem dX3_dropOver_80 : decode cX3_dropOver 80 = .ok (.putfield 32, 3) := by decide +kernel
theorem dX3_dropOver_83 : decode cX3_dropOver 83 = .ok (.return_, 1) := by decide +kernel
theorem dX3_dropOver_12 : decode cX3_dropOver 12 = .ok (.aload_n 0, 1) := by decide +kernel
theorem dX3_dropOver_13 : decode cX3_dropOver 13 = .ok (.iload_n 3, 1) := by decide +kernel
theorem dX3_dropOver_14 : decode cX3_dropOver 14 = .ok (.iload_n 1, 1) := by decide +kernel
theorem dX3_dropOver_15 : decode cX3_dropOver 15 = .ok (.invokevirtual 69, 3) := by decide +kernel
theorem dX3_dropOver_18 : decode cX3_dropOver 18 = .ok (.ifCond .ne 54, 3) := by decide +kernel
theorem dX3_dropOver_72 : decode cX3_dropOver 72 = .ok (.iinc 3 1, 3) := by decide +kernel
theorem dX3_dropOver_75 : decode cX3_dropOver 75 = .ok (.goto (-71), 3) := by decide +kernel
theorem dX3_dropOver_21 : decode cX3_dropOver 21 = .ok (.aload_n 0, 1) := by decide +kernel
theorem dX3_dropOver_22 : decode cX3_dropOver 22 = .ok (.getfield 35, 3) := by decide +kernel
theorem dX3_dropOver_25 : decode cX3_dropOver 25 = .ok (.iload_n 2, 1) := by decide +kernel
theorem dX3_dropOver_26 : decode cX3_dropOver 26 = .ok (.aload_n 0, 1) := by decide +kernel
theorem dX3_dropOver_27 : decode cX3_dropOver 27 = .ok (.getfield 35, 3) := by decide +kernel
theorem dX3_dropOver_30 : decode cX3_dropOver 30 = .ok (.iload_n 3, 1) := by decide +kernel
theorem dX3_dropOver_31 : decode cX3_dropOver 31 = .ok (.iaload, 1) := by decide +kernel
theorem dX3_dropOver_32 : decode cX3_dropOver 32 = .ok (.iastore, 1) := by decide +kernel
theorem dX3_dropOver_33 : decode cX3_dropOver 33 = .ok (.aload_n 0, 1) := by decide +kernel
theorem dX3_dropOver_34 : decode cX3_dropOver 34 = .ok (.getfield 38, 3) := by decide +kernel
theorem dX3_dropOver_37 : decode cX3_dropOver 37 = .ok (.iload_n 2, 1) := by decide +kernel
theorem dX3_dropOver_38 : decode cX3_dropOver 38 = .ok (.aload_n 0, 1) := by decide +kernel
theorem dX3_dropOver_39 : decode cX3_dropOver 39 = .ok (.getfield 38, 3) := by decide +kernel
theorem dX3_dropOver_42 : decode cX3_dropOver 42 = .ok (.iload_n 3, 1) := by decide +kernel
theorem dX3_dropOver_43 : decode cX3_dropOver 43 = .ok (.iaload, 1) := by decide +kernel
theorem dX3_dropOver_44 : decode cX3_dropOver 44 = .ok (.iastore, 1) := by decide +kernel
theorem dX3_dropOver_45 : decode cX3_dropOver 45 = .ok (.aload_n 0, 1) := by decide +kernel
theorem dX3_dropOver_46 : decode cX3_dropOver 46 = .ok (.getfield 41, 3) := by decide +kernel
theorem dX3_dropOver_49 : decode cX3_dropOver 49 = .ok (.iload_n 2, 1) := by decide +kernel
theorem dX3_dropOver_50 : decode cX3_dropOver 50 = .ok (.aload_n 0, 1) := by decide +kernel
theorem dX3_dropOver_51 : decode cX3_dropOver 51 = .ok (.getfield 41, 3) := by decide +kernel
theorem dX3_dropOver_54 : decode cX3_dropOver 54 = .ok (.iload_n 3, 1) := by decide +kernel
theorem dX3_dropOver_55 : decode cX3_dropOver 55 = .ok (.iaload, 1) := by decide +kernel
theorem dX3_dropOver_56 : decode cX3_dropOver 56 = .ok (.iastore, 1) := by decide +kernel
theorem dX3_dropOver_57 : decode cX3_dropOver 57 = .ok (.aload_n 0, 1) := by decide +kernel
theorem dX3_dropOver_58 : decode cX3_dropOver 58 = .ok (.getfield 44, 3) := by decide +kernel
theorem dX3_dropOver_61 : decode cX3_dropOver 61 = .ok (.iload_n 2, 1) := by decide +kernel
theorem dX3_dropOver_62 : decode cX3_dropOver 62 = .ok (.aload_n 0, 1) := by decide +kernel
theorem dX3_dropOver_63 : decode cX3_dropOver 63 = .ok (.getfield 44, 3) := by decide +kernel
theorem dX3_dropOver_66 : decode cX3_dropOver 66 = .ok (.iload_n 3, 1) := by decide +kernel
theorem dX3_dropOver_67 : decode cX3_dropOver 67 = .ok (.iaload, 1) := by decide +kernel
theorem dX3_dropOver_68 : decode cX3_dropOver 68 = .ok (.iastore, 1) := by decide +kernel
theorem dX3_dropOver_69 : decode cX3_dropOver 69 = .ok (.iinc 2 1, 3) := by decide +kernel
theorem dX3_dropOver_0 : decode cX3_dropOver 0 = .ok (.iconst 0, 1) := by decide +kernel
theorem dX3_dropOver_1 : decode cX3_dropOver 1 = .ok (.istore_n 2, 1) := by decide +kernel
theorem dX3_dropOver_2 : decode cX3_dropOver 2 = .ok (.iconst 0, 1) := by decide +kernel
theorem dX3_dropOver_3 : decode cX3_dropOver 3 = .ok (.istore_n 3, 1) := by decide +kernel
theorem dX3_placeOfKey_2 : decode cX3_placeOfKey 2 = .ok (.iload_n 2, 1) := by decide +kernel
theorem dX3_placeOfKey_3 : decode cX3_placeOfKey 3 = .ok (.aload_n 0, 1) := by decide +kernel
theorem dX3_placeOfKey_4 : decode cX3_placeOfKey 4 = .ok (.getfield 32, 3) := by decide +kernel
theorem dX3_placeOfKey_7 : decode cX3_placeOfKey 7 = .ok (.if_icmp .ge 21, 3) := by decide +kernel
theorem dX3_placeOfKey_28 : decode cX3_placeOfKey 28 = .ok (.iconst (-1), 1) := by decide +kernel
theorem dX3_placeOfKey_29 : decode cX3_placeOfKey 29 = .ok (.ireturn, 1) := by decide +kernel
theorem dX3_placeOfKey_10 : decode cX3_placeOfKey 10 = .ok (.aload_n 0, 1) := by decide +kernel
theorem dX3_placeOfKey_11 : decode cX3_placeOfKey 11 = .ok (.getfield 35, 3) := by decide +kernel
theorem dX3_placeOfKey_14 : decode cX3_placeOfKey 14 = .ok (.iload_n 2, 1) := by decide +kernel
theorem dX3_placeOfKey_15 : decode cX3_placeOfKey 15 = .ok (.iaload, 1) := by decide +kernel
theorem dX3_placeOfKey_16 : decode cX3_placeOfKey 16 = .ok (.iload_n 1, 1) := by decide +kernel
theorem dX3_placeOfKey_17 : decode cX3_placeOfKey 17 = .ok (.if_icmp .ne 5, 3) := by decide +kernel
theorem dX3_placeOfKey_22 : decode cX3_placeOfKey 22 = .ok (.iinc 2 1, 3) := by decide +kernel
theorem dX3_placeOfKey_25 : decode cX3_placeOfKey 25 = .ok (.goto (-23), 3) := by decide +kernel
theorem dX3_placeOfKey_20 : decode cX3_placeOfKey 20 = .ok (.iload_n 2, 1) := by decide +kernel
theorem dX3_placeOfKey_21 : decode cX3_placeOfKey 21 = .ok (.ireturn, 1) := by decide +kernel
theorem dX3_placeOfKey_0 : decode cX3_placeOfKey 0 = .ok (.iconst 0, 1) := by decide +kernel
theorem dX3_placeOfKey_1 : decode cX3_placeOfKey 1 = .ok (.istore_n 2, 1) := by decide +kernel
theorem dX3_beginKnown_45 : decode cX3_beginKnown 45 = .ok (.iload_n 3, 1) := by decide +kernel
theorem dX3_beginKnown_46 : decode cX3_beginKnown 46 = .ok (.bipush 8, 2) := by decide +kernel
theorem dX3_beginKnown_48 : decode cX3_beginKnown 48 = .ok (.if_icmp .ge 28, 3) := by decide +kernel
theorem dX3_beginKnown_76 : decode cX3_beginKnown 76 = .ok (.return_, 1) := by decide +kernel
theorem dX3_beginKnown_51 : decode cX3_beginKnown 51 = .ok (.aload_n 0, 1) := by decide +kernel
theorem dX3_beginKnown_52 : decode cX3_beginKnown 52 = .ok (.getfield 56, 3) := by decide +kernel
theorem dX3_beginKnown_55 : decode cX3_beginKnown 55 = .ok (.iload_n 3, 1) := by decide +kernel
theorem dX3_beginKnown_56 : decode cX3_beginKnown 56 = .ok (.aload_n 0, 1) := by decide +kernel
theorem dX3_beginKnown_57 : decode cX3_beginKnown 57 = .ok (.getfield 53, 3) := by decide +kernel
theorem dX3_beginKnown_60 : decode cX3_beginKnown 60 = .ok (.iload_n 3, 1) := by decide +kernel
theorem dX3_beginKnown_61 : decode cX3_beginKnown 61 = .ok (.iaload, 1) := by decide +kernel
theorem dX3_beginKnown_62 : decode cX3_beginKnown 62 = .ok (.iastore, 1) := by decide +kernel
theorem dX3_beginKnown_63 : decode cX3_beginKnown 63 = .ok (.aload_n 0, 1) := by decide +kernel
theorem dX3_beginKnown_64 : decode cX3_beginKnown 64 = .ok (.getfield 53, 3) := by decide +kernel
theorem dX3_beginKnown_67 : decode cX3_beginKnown 67 = .ok (.iload_n 3, 1) := by decide +kernel
theorem dX3_beginKnown_68 : decode cX3_beginKnown 68 = .ok (.iconst (-1), 1) := by decide +kernel
theorem dX3_beginKnown_69 : decode cX3_beginKnown 69 = .ok (.iastore, 1) := by decide +kernel
theorem dX3_beginKnown_70 : decode cX3_beginKnown 70 = .ok (.iinc 3 1, 3) := by decide +kernel
theorem dX3_beginKnown_73 : decode cX3_beginKnown 73 = .ok (.goto (-28), 3) := by decide +kernel
theorem dX3_beginKnown_0 : decode cX3_beginKnown 0 = .ok (.aload_n 0, 1) := by decide +kernel
theorem dX3_beginKnown_1 : decode cX3_beginKnown 1 = .ok (.aload_n 0, 1) := by decide +kernel
theorem dX3_beginKnown_2 : decode cX3_beginKnown 2 = .ok (.iconst 3, 1) := by decide +kernel
theorem dX3_beginKnown_3 : decode cX3_beginKnown 3 = .ok (.invokevirtual 73, 3) := by decide +kernel
theorem dX3_beginKnown_6 : decode cX3_beginKnown 6 = .ok (.ifCond .eq 23, 3) := by decide +kernel
theorem dX3_beginKnown_9 : decode cX3_beginKnown 9 = .ok (.aload_n 0, 1) := by decide +kernel
theorem dX3_beginKnown_10 : decode cX3_beginKnown 10 = .ok (.getfield 47, 3) := by decide +kernel
theorem dX3_beginKnown_13 : decode cX3_beginKnown 13 = .ok (.iload_n 1, 1) := by decide +kernel
theorem dX3_beginKnown_14 : decode cX3_beginKnown 14 = .ok (.if_icmp .ne 15, 3) := by decide +kernel
theorem dX3_beginKnown_29 : decode cX3_beginKnown 29 = .ok (.iconst 0, 1) := by decide +kernel
theorem dX3_beginKnown_30 : decode cX3_beginKnown 30 = .ok (.putfield 59, 3) := by decide +kernel
theorem dX3_beginKnown_33 : decode cX3_beginKnown 33 = .ok (.aload_n 0, 1) := by decide +kernel
theorem dX3_beginKnown_34 : decode cX3_beginKnown 34 = .ok (.iload_n 1, 1) := by decide +kernel
theorem dX3_beginKnown_35 : decode cX3_beginKnown 35 = .ok (.putfield 47, 3) := by decide +kernel
theorem dX3_beginKnown_38 : decode cX3_beginKnown 38 = .ok (.aload_n 0, 1) := by decide +kernel
theorem dX3_beginKnown_39 : decode cX3_beginKnown 39 = .ok (.iload_n 2, 1) := by decide +kernel
theorem dX3_beginKnown_40 : decode cX3_beginKnown 40 = .ok (.putfield 50, 3) := by decide +kernel
theorem dX3_beginKnown_43 : decode cX3_beginKnown 43 = .ok (.iconst 0, 1) := by decide +kernel
theorem dX3_beginKnown_44 : decode cX3_beginKnown 44 = .ok (.istore_n 3, 1) := by decide +kernel
theorem dX3_beginKnown_17 : decode cX3_beginKnown 17 = .ok (.aload_n 0, 1) := by decide +kernel
theorem dX3_beginKnown_18 : decode cX3_beginKnown 18 = .ok (.getfield 50, 3) := by decide +kernel
theorem dX3_beginKnown_21 : decode cX3_beginKnown 21 = .ok (.iload_n 2, 1) := by decide +kernel
theorem dX3_beginKnown_22 : decode cX3_beginKnown 22 = .ok (.if_icmp .ne 7, 3) := by decide +kernel
theorem dX3_beginKnown_25 : decode cX3_beginKnown 25 = .ok (.iconst 1, 1) := by decide +kernel
theorem dX3_beginKnown_26 : decode cX3_beginKnown 26 = .ok (.goto 4, 3) := by decide +kernel
def md_s_sameStore : Nat → Nat → Bool := fun _ _ => false
set_option maxHeartbeats 4000000 in
set_option maxRecDepth 100000 in
theorem lt_s_sameStore_a (l : Launch) (D : va_G) (cI cZ cS cR : ClassId) (N0 : NT) (fr : Int32) (g : GS) (h : Nat) (o : Nat) (r_h : g.1 h = 4) (r_o : g.1 o = 4) {p : Program} {e : Env} {s : State} {m : MethodId} {args : Array Value} {below : List Frame} {meth : Method} {c : Code} (hB : Tz p s m meth c args cX3_hasSameStore 3 RX3 D cI cZ cS cR N0) (hr : meth.sig.returnType = (some .boolean))  : ∀ (kf : Nat) (g1 : GS) (i : Int32)  (H : Heap) (locs : List Loc) (ls : Array Slot), Tv D cI cZ cS cR N0 s.heap H locs g1 → Inv fr g1 → Ex g g1 → Sm md_s_sameStore g g1 → 0 ≤ i.toInt → i.toInt ≤ 4 → 4 ≤ i.toInt + kf → lv_has ls 3 [(2, .int i), (0, .ref h), (1, .ref o)] → W p l e (rmx 0 0 0) s m args below meth c H locs 0 0 (MQ below (tQ D cI cZ cS cR N0 (fun v g' => ∃ (r : Int32), v = some (.int r) ∧ Inv fr g' ∧ Ex g g' ∧ Sm md_s_sameStore g g' ∧ (r = 1 ∨ r = 0))) args s 0 0 (fun q => N0.1 ≤ q)) (F0 m 2 ls []) := by
  have hx := hB.1
  have hb := hB.2.1
  intro kf
  induction kf using Nat.strongRecOn with
  | ind kf ih =>
    intro g1 i H locs ls hT hI hE hM l_i u_i hk hl
    have r1_h : g1.1 h = 4 := Ex.r hE r_h (by decide)
    have r1_o : g1.1 o = 4 := Ex.r hE r_o (by decide)
    refine lv_iload_n hx hb dX3_hasSameStore_2 rfl (lv_at hl 0 rfl) ?_
    refine lv_iconst (v := 4) hx hb dX3_hasSameStore_3 (by decide) ?_
    refine lv_icmp_ge (tgt := 30) hx hb dX3_hasSameStore_4 (by decide) (fun c_1 => ?_) (fun c_1 => ?_)
    · have c_1' : 4 ≤ i.toInt := i_le c_1 (by decide) rfl
      refine lv_iconst (v := 1) hx hb dX3_hasSameStore_30 (by decide) ?_
      exact t_zret hB hr rfl hT (Nat.le_of_ble_eq_true rfl) (Nat.le_of_ble_eq_true rfl) dX3_hasSameStore_31 ⟨1, rfl, hI, hE, hM, (Or.inl rfl)⟩
    · have c_1' : i.toInt < 4 := i_nle c_1 (by decide) rfl
      refine lv_aload_n hx hb dX3_hasSameStore_7 rfl (lv_at hl 1 rfl) ?_
      obtain ⟨v_2, e_v_2, r_v_2, n_v_2⟩ := hI.f r1_h 1
      refine t_get (ci := 3) (v := .ref v_2) hB hT (ro_ci r1_h rfl) rfl 1 (by decide) k_146 e_v_2 dX3_hasSameStore_8 ?_
      refine lv_iload_n hx hb dX3_hasSameStore_11 rfl (lv_at hl 0 rfl) ?_
      have i_u_3 : vp_in i 4 := (i_in (n := 4) rfl (by omega) (by omega))
      refine t_iald hB hT (ro_in r_v_2 (by decide)) n_v_2 i_u_3 rfl dX3_hasSameStore_12 ?_
      refine lv_topi (fun u_3 e_u_3 => ?_)
      refine lv_aload_n hx hb dX3_hasSameStore_13 rfl (lv_at hl 2 rfl) ?_
      obtain ⟨v_4, e_v_4, r_v_4, n_v_4⟩ := hI.f r1_o 1
      refine t_get (ci := 3) (v := .ref v_4) hB hT (ro_ci r1_o rfl) rfl 1 (by decide) k_146 e_v_4 dX3_hasSameStore_14 ?_
      refine lv_iload_n hx hb dX3_hasSameStore_17 rfl (lv_at hl 0 rfl) ?_
      have i_u_5 : vp_in i 4 := (i_in (n := 4) rfl (by omega) (by omega))
      refine t_iald hB hT (ro_in r_v_4 (by decide)) n_v_4 i_u_5 rfl dX3_hasSameStore_18 ?_
      refine lv_topi (fun u_5 e_u_5 => ?_)
      refine lv_icmp_eq (tgt := 24) hx hb dX3_hasSameStore_19 (by decide) (fun c_6 => ?_) (fun c_6 => ?_)
      · have c_6' : u_3.toInt = u_5.toInt := i_eq c_6 rfl rfl
        obtain ⟨z_7, ez_7⟩ : ∃ z : Int32, z = i + 1 := ⟨_, rfl⟩
        have e_z_7 : z_7.toInt = i.toInt + 1 := i_add ez_7 rfl (by decide) (by omega) (by omega)
        refine lv_iinc (v := z_7) (lv' := [(2, .int z_7), (0, .ref h), (1, .ref o)]) hx hb dX3_hasSameStore_24 hl (k := 0) rfl (by rw [ez_7]; rfl) (by decide) rfl (fun ls hl => ?_)
        refine lv_goto (tgt := 2) hx hb dX3_hasSameStore_27 (by decide) ?_
        exact ih (kf - 1) (by omega) g1 z_7 H locs ls hT hI hE hM (by omega) (by omega) (by have e0 := z0; omega) (lv_sub hl [0, 1, 2] rfl)
      · have c_6' : u_3.toInt ≠ u_5.toInt := i_ne c_6 rfl rfl
        refine lv_iconst (v := 0) hx hb dX3_hasSameStore_22 (by decide) ?_
        exact t_zret hB hr rfl hT (Nat.le_of_ble_eq_true rfl) (Nat.le_of_ble_eq_true rfl) dX3_hasSameStore_23 ⟨0, rfl, hI, hE, hM, (Or.inr rfl)⟩
set_option maxHeartbeats 4000000 in
set_option maxRecDepth 100000 in
theorem s_sameStore (l : Launch) (D : va_G) (cI cZ cS cR : ClassId) (N0 : NT) (fr : Int32) (g : GS) (hI : Inv fr g) (h : Nat) (o : Nat) (r_h : g.1 h = 4) (r_o : g.1 o = 4) : Ty l D cI cZ cS cR N0 yX3_hasSameStore cX3_hasSameStore 3 (some .boolean) 0 0 0 [.ref h, .ref o] g (fun v g' => ∃ (r : Int32), v = some (.int r) ∧ Inv fr g' ∧ Ex g g' ∧ Sm md_s_sameStore g g' ∧ (r = 1 ∨ r = 0)) := by
  refine t_enter (by decide) (Nat.le_of_ble_eq_true rfl) ?_
  intro p e s m args below meth c ls H locs hB hr hin hl hT
  have hx := hB.1
  have hb := hB.2.1
  have hl : lv_has ls 3 [(0, .ref h), (1, .ref o)] := hl
  have hE : Ex g g := Ex.rf
  have hM : Sm md_s_sameStore g g := Sm.rf
  refine lv_iconst (v := 0) hx hb dX3_hasSameStore_0 (by decide) ?_
  refine lv_istore_n (lv' := [(2, .int 0), (0, .ref h), (1, .ref o)]) hx hb dX3_hasSameStore_1 rfl hl (by decide) rfl (fun ls hl => ?_)
  exact lt_s_sameStore_a l D cI cZ cS cR N0 fr g h o r_h r_o hB hr 4 g (0 : Int32) H locs ls hT hI hE hM (by decide) (by decide) (by have e0 := z0; omega) (lv_sub hl [0, 1, 2] rfl)
def md_s_mfresh : Nat → Nat → Bool := fun r k => (r == 4 && k == 2) || (r == 4 && k == 5)
set_option maxHeartbeats 4000000 in
set_option maxRecDepth 100000 in
theorem lt_s_mfresh_a (l : Launch) (D : va_G) (cI cZ cS cR : ClassId) (N0 : NT) (fr : Int32) (g : GS) (h : Nat) (r_h : g.1 h = 4) {p : Program} {e : Env} {s : State} {m : MethodId} {args : Array Value} {below : List Frame} {meth : Method} {c : Code} (hB : Tz p s m meth c args cX3_makeFresh 2 RX3 D cI cZ cS cR N0) (hr : meth.sig.returnType = none)  : ∀ (kf : Nat) (g1 : GS) (i : Int32)  (H : Heap) (locs : List Loc) (ls : Array Slot), Tv D cI cZ cS cR N0 s.heap H locs g1 → Inv fr g1 → Ex g g1 → Sm md_s_mfresh g g1 → 0 ≤ i.toInt → i.toInt ≤ 4 → 4 ≤ i.toInt + kf → lv_has ls 2 [(1, .int i), (0, .ref h)] → W p l e (rmx 0 0 0) s m args below meth c H locs 0 0 (MQ below (tQ D cI cZ cS cR N0 (fun v g' => v = none ∧ Inv fr g' ∧ Ex g g' ∧ Sm md_s_mfresh g g')) args s 0 0 (fun q => N0.1 ≤ q)) (F0 m 2 ls []) := by
  have hx := hB.1
  have hb := hB.2.1
  intro kf
  induction kf using Nat.strongRecOn with
  | ind kf ih =>
    intro g1 i H locs ls hT hI hE hM l_i u_i hk hl
    have r1_h : g1.1 h = 4 := Ex.r hE r_h (by decide)
    refine lv_iload_n hx hb dX3_makeFresh_2 rfl (lv_at hl 0 rfl) ?_
    refine lv_iconst (v := 4) hx hb dX3_makeFresh_3 (by decide) ?_
    refine lv_icmp_ge (tgt := 20) hx hb dX3_makeFresh_4 (by decide) (fun c_1 => ?_) (fun c_1 => ?_)
    · have c_1' : 4 ≤ i.toInt := i_le c_1 (by decide) rfl
      refine lv_aload_n hx hb dX3_makeFresh_20 rfl (lv_at hl 1 rfl) ?_
      refine lv_iconst (v := 0) hx hb dX3_makeFresh_21 (by decide) ?_
      refine t_put0 (ci := 3) (v := .int 0) hB hT (ro_ci r1_h rfl) (ro_n0 r1_h (by decide)) rfl 2 (by decide) k_149 (Or.inl rfl) rfl rfl dX3_makeFresh_22 (fun H locs hT => ?_)
      have hI : Inv fr (sF g1 h 2 (.int 0)) := hI.sF (fk r1_h (⟨_, rfl⟩))
      have hM : Sm md_s_mfresh g (sF g1 h 2 (.int 0)) := hM.tr hE (Sm_sF (by rw [r1_h]; rfl))
      have hE : Ex g (sF g1 h 2 (.int 0)) := hE
      refine lv_aload_n hx hb dX3_makeFresh_25 rfl (lv_at hl 1 rfl) ?_
      refine lv_iconst (v := 0) hx hb dX3_makeFresh_26 (by decide) ?_
      refine t_put0 (ci := 3) (v := .int 0) hB hT (ro_ci r1_h rfl) (ro_n0 r1_h (by decide)) rfl 5 (by decide) k_158 (Or.inl rfl) rfl rfl dX3_makeFresh_27 (fun H locs hT => ?_)
      have hI : Inv fr (sF (sF g1 h 2 (.int 0)) h 5 (.int 0)) := hI.sF (fk r1_h (⟨_, rfl, by decide, by decide⟩))
      have hM : Sm md_s_mfresh g (sF (sF g1 h 2 (.int 0)) h 5 (.int 0)) := hM.tr hE (Sm_sF (by rw [r1_h]; rfl))
      have hE : Ex g (sF (sF g1 h 2 (.int 0)) h 5 (.int 0)) := hE
      exact t_vret hB hr hT (Nat.le_of_ble_eq_true rfl) (Nat.le_of_ble_eq_true rfl) dX3_makeFresh_30 ⟨rfl, hI, hE, hM⟩
    · have c_1' : i.toInt < 4 := i_nle c_1 (by decide) rfl
      refine lv_aload_n hx hb dX3_makeFresh_7 rfl (lv_at hl 1 rfl) ?_
      obtain ⟨v_2, e_v_2, r_v_2, n_v_2⟩ := hI.f r1_h 1
      refine t_get (ci := 3) (v := .ref v_2) hB hT (ro_ci r1_h rfl) rfl 1 (by decide) k_146 e_v_2 dX3_makeFresh_8 ?_
      refine lv_iload_n hx hb dX3_makeFresh_11 rfl (lv_at hl 0 rfl) ?_
      refine lv_iconst (v := 0) hx hb dX3_makeFresh_12 (by decide) ?_
      have i_3 : vp_in i 4 := (i_in (n := 4) rfl (by omega) (by omega))
      refine t_iast hB hT (ro_in r_v_2 (by decide)) n_v_2 i_3 dX3_makeFresh_13 (fun H locs hT => ?_)
      have hI : Inv fr (sC g1 v_2 i.toNatClampNeg (0 : Int32)) := hI.sC (ck r_v_2 trivial)
      have hM : Sm md_s_mfresh g (sC g1 v_2 i.toNatClampNeg (0 : Int32)) := hM
      have hE : Ex g (sC g1 v_2 i.toNatClampNeg (0 : Int32)) := hE
      obtain ⟨z_4, ez_4⟩ : ∃ z : Int32, z = i + 1 := ⟨_, rfl⟩
      have e_z_4 : z_4.toInt = i.toInt + 1 := i_add ez_4 rfl (by decide) (by omega) (by omega)
      refine lv_iinc (v := z_4) (lv' := [(1, .int z_4), (0, .ref h)]) hx hb dX3_makeFresh_14 hl (k := 0) rfl (by rw [ez_4]; rfl) (by decide) rfl (fun ls hl => ?_)
      refine lv_goto (tgt := 2) hx hb dX3_makeFresh_17 (by decide) ?_
      exact ih (kf - 1) (by omega) (sC g1 v_2 i.toNatClampNeg (0 : Int32)) z_4 H locs ls hT hI hE hM (by omega) (by omega) (by have e0 := z0; omega) (lv_sub hl [0, 1] rfl)
set_option maxHeartbeats 4000000 in
set_option maxRecDepth 100000 in
theorem s_mfresh (l : Launch) (D : va_G) (cI cZ cS cR : ClassId) (N0 : NT) (fr : Int32) (g : GS) (hI : Inv fr g) (h : Nat) (r_h : g.1 h = 4) : Ty l D cI cZ cS cR N0 yX3_makeFresh cX3_makeFresh 2 none 0 0 0 [.ref h] g (fun v g' => v = none ∧ Inv fr g' ∧ Ex g g' ∧ Sm md_s_mfresh g g') := by
  refine t_enter (by decide) (Nat.le_of_ble_eq_true rfl) ?_
  intro p e s m args below meth c ls H locs hB hr hin hl hT
  have hx := hB.1
  have hb := hB.2.1
  have hl : lv_has ls 2 [(0, .ref h)] := hl
  have hE : Ex g g := Ex.rf
  have hM : Sm md_s_mfresh g g := Sm.rf
  refine lv_iconst (v := 0) hx hb dX3_makeFresh_0 (by decide) ?_
  refine lv_istore_n (lv' := [(1, .int 0), (0, .ref h)]) hx hb dX3_makeFresh_1 rfl hl (by decide) rfl (fun ls hl => ?_)
  exact lt_s_mfresh_a l D cI cZ cS cR N0 fr g h r_h hB hr 4 g (0 : Int32) H locs ls hT hI hE hM (by decide) (by decide) (by have e0 := z0; omega) (lv_sub hl [0, 1] rfl)
def md_s_keysNotOver : Nat → Nat → Bool := fun _ _ => false
theorem mdle_s_keysNotOver_s_isOver {r k : Nat} (h : md_s_keysNotOver r k = false) : md_s_isOver r k = false := by
  first | rfl | (simp only [md_s_keysNotOver, md_s_isOver, Bool.or_eq_false_iff, Bool.and_eq_false_iff, beq_eq_false_iff_ne] at h ⊢; omega)
set_option maxHeartbeats 4000000 in
set_option maxRecDepth 100000 in
theorem lt_s_keysNotOver_a (l : Launch) (D : va_G) (cI cZ cS cR : ClassId) (N0 : NT) (fr : Int32) (g : GS) (h : Nat) (n : Int32) (r_h : g.1 h = 4) {p : Program} {e : Env} {s : State} {m : MethodId} {args : Array Value} {below : List Frame} {meth : Method} {c : Code} (hB : Tz p s m meth c args cX3_keysNotOver 4 RX3 D cI cZ cS cR N0) (hr : meth.sig.returnType = (some .int))  : ∀ (kf : Nat) (g1 : GS) (i : Int32) (j : Int32)  (H : Heap) (locs : List Loc) (ls : Array Slot), Tv D cI cZ cS cR N0 s.heap H locs g1 → Inv fr g1 → Ex g g1 → Sm md_s_keysNotOver g g1 → 0 ≤ i.toInt → i.toInt ≤ 16 → 16 ≤ i.toInt + kf → lv_has ls 4 [(3, .int i), (2, .int j), (0, .ref h), (1, .int n)] → W p l e (rmx 1 0 0) s m args below meth c H locs 0 0 (MQ below (tQ D cI cZ cS cR N0 (fun v g' => ∃ (r : Int32), v = some (.int r) ∧ Inv fr g' ∧ Ex g g' ∧ Sm md_s_keysNotOver g g')) args s 0 0 (fun q => N0.1 ≤ q)) (F0 m 4 ls []) := by
  have hx := hB.1
  have hb := hB.2.1
  intro kf
  induction kf using Nat.strongRecOn with
  | ind kf ih =>
    intro g1 i j H locs ls hT hI hE hM l_i u_i hk hl
    have r1_h : g1.1 h = 4 := Ex.r hE r_h (by decide)
    refine lv_iload_n hx hb dX3_keysNotOver_4 rfl (lv_at hl 0 rfl) ?_
    refine lv_aload_n hx hb dX3_keysNotOver_5 rfl (lv_at hl 2 rfl) ?_
    obtain ⟨v_1, e_v_1, l_v_1, u_v_1⟩ := hI.f r1_h 5
    refine t_get (ci := 3) (v := .int v_1) hB hT (ro_ci r1_h rfl) rfl 5 (by decide) k_158 e_v_1 dX3_keysNotOver_6 ?_
    refine lv_icmp_ge (tgt := 35) hx hb dX3_keysNotOver_9 (by decide) (fun c_2 => ?_) (fun c_2 => ?_)
    · have c_2' : v_1.toInt ≤ i.toInt := i_le c_2 rfl rfl
      refine lv_iload_n hx hb dX3_keysNotOver_35 rfl (lv_at hl 1 rfl) ?_
      exact t_iret hB hr hT (Nat.le_of_ble_eq_true rfl) (Nat.le_of_ble_eq_true rfl) dX3_keysNotOver_36 ⟨j, rfl, hI, hE, hM⟩
    · have c_2' : i.toInt < v_1.toInt := i_nle c_2 rfl rfl
      refine lv_iload_n hx hb dX3_keysNotOver_12 rfl (lv_at hl 1 rfl) ?_
      refine lv_aload_n hx hb dX3_keysNotOver_13 rfl (lv_at hl 2 rfl) ?_
      refine lv_iload_n hx hb dX3_keysNotOver_14 rfl (lv_at hl 0 rfl) ?_
      refine lv_iload_n hx hb dX3_keysNotOver_15 rfl (lv_at hl 3 rfl) ?_
      refine t_callV (n := 2) (ci := 3) (As := [.int i, .int n]) (rest := [.int j]) hB hT hl.1 (s_isOver l D cI cZ cS cR N0 fr g1 hI h i n r1_h (by omega) (by omega)) (ro_ci r1_h rfl) rfl k_461 k_60 k_458 k_460 k_7 (by decide +kernel) ⟨(Nat.le_of_ble_eq_true rfl), (Nat.le_of_ble_eq_true rfl)⟩ rfl (Nat.le_of_ble_eq_true rfl) ⟨(Nat.le_of_ble_eq_true rfl), (Nat.le_of_ble_eq_true rfl)⟩ dX3_keysNotOver_16 (fun v g_3 H locs hp hT => ?_)
      obtain ⟨r_4, rfl, hI, x_7, m_6, f_5⟩ := hp
      have r_8 : g_3.1 h = 4 := (Ex.r x_7 r1_h (by decide))
      have e_9 : g_3.2.1 h 5 = .int v_1 := (Sm.v m_6 r1_h (by decide) rfl e_v_1)
      have hM : Sm md_s_keysNotOver g g_3 := hM.tr hE (m_6.mo (fun r k h => mdle_s_keysNotOver_s_isOver h))
      have hE : Ex g g_3 := hE.tr x_7
      refine W.eq (g2 := F0 m 19 ls [.int r_4, .int j]) rfl ?_
      rcases f_5 with rfl | rfl
      · refine W.eq (g2 := F0 m 19 ls [.int 1, .int j]) rfl ?_
        refine lv_if_eq (tgt := 26) hx hb dX3_keysNotOver_19 (by decide) (fun c_ => absurd c_ (by decide)) (fun c_ => ?_)
        refine lv_iconst (v := 0) hx hb dX3_keysNotOver_22 (by decide) ?_
        refine lv_goto (tgt := 27) hx hb dX3_keysNotOver_23 (by decide) ?_
        refine lv_iadd hx hb dX3_keysNotOver_27 ?_
        refine lv_topi (fun z_10 ez_10 => ?_)
        refine lv_istore_n (lv' := [(2, .int z_10), (3, .int i), (0, .ref h), (1, .int n)]) hx hb dX3_keysNotOver_28 rfl hl (by decide) rfl (fun ls hl => ?_)
        obtain ⟨z_11, ez_11⟩ : ∃ z : Int32, z = i + 1 := ⟨_, rfl⟩
        have e_z_11 : z_11.toInt = i.toInt + 1 := i_add ez_11 rfl (by decide) (by omega) (by omega)
        refine lv_iinc (v := z_11) (lv' := [(3, .int z_11), (2, .int z_10), (0, .ref h), (1, .int n)]) hx hb dX3_keysNotOver_29 hl (k := 1) rfl (by rw [ez_11]; rfl) (by decide) rfl (fun ls hl => ?_)
        refine lv_goto (tgt := 4) hx hb dX3_keysNotOver_32 (by decide) ?_
        exact ih (kf - 1) (by omega) g_3 z_11 z_10 H locs ls hT hI hE hM (by omega) (by omega) (by have e0 := z0; omega) (lv_sub hl [0, 1, 2, 3] rfl)
      · refine W.eq (g2 := F0 m 19 ls [.int 0, .int j]) rfl ?_
        refine lv_if_eq (tgt := 26) hx hb dX3_keysNotOver_19 (by decide) (fun c_ => ?_) (fun c_ => absurd (by decide) c_)
        refine lv_iconst (v := 1) hx hb dX3_keysNotOver_26 (by decide) ?_
        refine lv_iadd hx hb dX3_keysNotOver_27 ?_
        refine lv_topi (fun z_12 ez_12 => ?_)
        refine lv_istore_n (lv' := [(2, .int z_12), (3, .int i), (0, .ref h), (1, .int n)]) hx hb dX3_keysNotOver_28 rfl hl (by decide) rfl (fun ls hl => ?_)
        obtain ⟨z_13, ez_13⟩ : ∃ z : Int32, z = i + 1 := ⟨_, rfl⟩
        have e_z_13 : z_13.toInt = i.toInt + 1 := i_add ez_13 rfl (by decide) (by omega) (by omega)
        refine lv_iinc (v := z_13) (lv' := [(3, .int z_13), (2, .int z_12), (0, .ref h), (1, .int n)]) hx hb dX3_keysNotOver_29 hl (k := 1) rfl (by rw [ez_13]; rfl) (by decide) rfl (fun ls hl => ?_)
        refine lv_goto (tgt := 4) hx hb dX3_keysNotOver_32 (by decide) ?_
        exact ih (kf - 1) (by omega) g_3 z_13 z_12 H locs ls hT hI hE hM (by omega) (by omega) (by have e0 := z0; omega) (lv_sub hl [0, 1, 2, 3] rfl)
set_option maxHeartbeats 4000000 in
set_option maxRecDepth 100000 in
theorem s_keysNotOver (l : Launch) (D : va_G) (cI cZ cS cR : ClassId) (N0 : NT) (fr : Int32) (g : GS) (hI : Inv fr g) (h : Nat) (n : Int32) (r_h : g.1 h = 4) : Ty l D cI cZ cS cR N0 yX3_keysNotOver cX3_keysNotOver 4 (some .int) 1 0 0 [.ref h, .int n] g (fun v g' => ∃ (r : Int32), v = some (.int r) ∧ Inv fr g' ∧ Ex g g' ∧ Sm md_s_keysNotOver g g') := by
  refine t_enter (by decide) (Nat.le_of_ble_eq_true rfl) ?_
  intro p e s m args below meth c ls H locs hB hr hin hl hT
  have hx := hB.1
  have hb := hB.2.1
  have hl : lv_has ls 4 [(0, .ref h), (1, .int n)] := hl
  have hE : Ex g g := Ex.rf
  have hM : Sm md_s_keysNotOver g g := Sm.rf
  refine lv_iconst (v := 0) hx hb dX3_keysNotOver_0 (by decide) ?_
  refine lv_istore_n (lv' := [(2, .int 0), (0, .ref h), (1, .int n)]) hx hb dX3_keysNotOver_1 rfl hl (by decide) rfl (fun ls hl => ?_)
  refine lv_iconst (v := 0) hx hb dX3_keysNotOver_2 (by decide) ?_
  refine lv_istore_n (lv' := [(3, .int 0), (2, .int 0), (0, .ref h), (1, .int n)]) hx hb dX3_keysNotOver_3 rfl hl (by decide) rfl (fun ls hl => ?_)
  exact lt_s_keysNotOver_a l D cI cZ cS cR N0 fr g h n r_h hB hr 16 g (0 : Int32) (0 : Int32) H locs ls hT hI hE hM (by decide) (by decide) (by have e0 := z0; omega) (lv_sub hl [0, 1, 2, 3] rfl)
def md_s_dropOver : Nat → Nat → Bool := fun r k => (r == 4 && k == 5)
theorem mdle_s_dropOver_s_isOver {r k : Nat} (h : md_s_dropOver r k = false) : md_s_isOver r k = false := by
  first | rfl | (simp only [md_s_dropOver, md_s_isOver, Bool.or_eq_false_iff, Bool.and_eq_false_iff, beq_eq_false_iff_ne] at h ⊢; omega)
set_option maxHeartbeats 4000000 in
set_option maxRecDepth 100000 in
theorem lt_s_dropOver_a (l : Launch) (D : va_G) (cI cZ cS cR : ClassId) (N0 : NT) (fr : Int32) (g : GS) (h : Nat) (n : Int32) (r_h : g.1 h = 4) {p : Program} {e : Env} {s : State} {m : MethodId} {args : Array Value} {below : List Frame} {meth : Method} {c : Code} (hB : Tz p s m meth c args cX3_dropOver 4 RX3 D cI cZ cS cR N0) (hr : meth.sig.returnType = none)  : ∀ (kf : Nat) (g1 : GS) (i : Int32) (j : Int32)  (H : Heap) (locs : List Loc) (ls : Array Slot), Tv D cI cZ cS cR N0 s.heap H locs g1 → Inv fr g1 → Ex g g1 → Sm md_s_dropOver g g1 → 0 ≤ i.toInt → i.toInt ≤ 16 → 0 ≤ j.toInt → j.toInt ≤ 16 → 16 ≤ i.toInt + kf ∧ j.toInt ≤ i.toInt → lv_has ls 4 [(3, .int i), (2, .int j), (0, .ref h), (1, .int n)] → W p l e (rmx 1 0 0) s m args below meth c H locs 0 0 (MQ below (tQ D cI cZ cS cR N0 (fun v g' => v = none ∧ Inv fr g' ∧ Ex g g' ∧ Sm md_s_dropOver g g')) args s 0 0 (fun q => N0.1 ≤ q)) (F0 m 4 ls []) := by
  have hx := hB.1
  have hb := hB.2.1
  intro kf
  induction kf using Nat.strongRecOn with
  | ind kf ih =>
    intro g1 i j H locs ls hT hI hE hM l_i u_i l_j u_j hk hl
    have r1_h : g1.1 h = 4 := Ex.r hE r_h (by decide)
    refine lv_iload_n hx hb dX3_dropOver_4 rfl (lv_at hl 0 rfl) ?_
    refine lv_aload_n hx hb dX3_dropOver_5 rfl (lv_at hl 2 rfl) ?_
    obtain ⟨v_1, e_v_1, l_v_1, u_v_1⟩ := hI.f r1_h 5
    refine t_get (ci := 3) (v := .int v_1) hB hT (ro_ci r1_h rfl) rfl 5 (by decide) k_158 e_v_1 dX3_dropOver_6 ?_
    refine lv_icmp_ge (tgt := 78) hx hb dX3_dropOver_9 (by decide) (fun c_2 => ?_) (fun c_2 => ?_)
    · have c_2' : v_1.toInt ≤ i.toInt := i_le c_2 rfl rfl
      refine lv_aload_n hx hb dX3_dropOver_78 rfl (lv_at hl 2 rfl) ?_
      refine lv_iload_n hx hb dX3_dropOver_79 rfl (lv_at hl 1 rfl) ?_
      refine t_put0 (ci := 3) (v := .int j) hB hT (ro_ci r1_h rfl) (ro_n0 r1_h (by decide)) rfl 5 (by decide) k_158 (Or.inl rfl) rfl rfl dX3_dropOver_80 (fun H locs hT => ?_)
      have hI : Inv fr (sF g1 h 5 (.int j)) := hI.sF (fk r1_h (⟨_, rfl, by omega, by omega⟩))
      have hM : Sm md_s_dropOver g (sF g1 h 5 (.int j)) := hM.tr hE (Sm_sF (by rw [r1_h]; rfl))
      have hE : Ex g (sF g1 h 5 (.int j)) := hE
      exact t_vret hB hr hT (Nat.le_of_ble_eq_true rfl) (Nat.le_of_ble_eq_true rfl) dX3_dropOver_83 ⟨rfl, hI, hE, hM⟩
    · have c_2' : i.toInt < v_1.toInt := i_nle c_2 rfl rfl
      refine lv_aload_n hx hb dX3_dropOver_12 rfl (lv_at hl 2 rfl) ?_
      refine lv_iload_n hx hb dX3_dropOver_13 rfl (lv_at hl 0 rfl) ?_
      refine lv_iload_n hx hb dX3_dropOver_14 rfl (lv_at hl 3 rfl) ?_
      refine t_callV (n := 2) (ci := 3) (As := [.int i, .int n]) (rest := []) hB hT hl.1 (s_isOver l D cI cZ cS cR N0 fr g1 hI h i n r1_h (by omega) (by omega)) (ro_ci r1_h rfl) rfl k_461 k_60 k_458 k_460 k_7 (by decide +kernel) ⟨(Nat.le_of_ble_eq_true rfl), (Nat.le_of_ble_eq_true rfl)⟩ rfl (Nat.le_of_ble_eq_true rfl) ⟨(Nat.le_of_ble_eq_true rfl), (Nat.le_of_ble_eq_true rfl)⟩ dX3_dropOver_15 (fun v g_3 H locs hp hT => ?_)
      obtain ⟨r_4, rfl, hI, x_7, m_6, f_5⟩ := hp
      have r_8 : g_3.1 h = 4 := (Ex.r x_7 r1_h (by decide))
      have e_9 : g_3.2.1 h 5 = .int v_1 := (Sm.v m_6 r1_h (by decide) rfl e_v_1)
      have hM : Sm md_s_dropOver g g_3 := hM.tr hE (m_6.mo (fun r k h => mdle_s_dropOver_s_isOver h))
      have hE : Ex g g_3 := hE.tr x_7
      refine W.eq (g2 := F0 m 18 ls [.int r_4]) rfl ?_
      rcases f_5 with rfl | rfl
      · refine W.eq (g2 := F0 m 18 ls [.int 1]) rfl ?_
        refine lv_if_ne (tgt := 72) hx hb dX3_dropOver_18 (by decide) (fun c_ => ?_) (fun c_ => absurd c_ (by decide))
        obtain ⟨z_10, ez_10⟩ : ∃ z : Int32, z = i + 1 := ⟨_, rfl⟩
        have e_z_10 : z_10.toInt = i.toInt + 1 := i_add ez_10 rfl (by decide) (by omega) (by omega)
        refine lv_iinc (v := z_10) (lv' := [(3, .int z_10), (2, .int j), (0, .ref h), (1, .int n)]) hx hb dX3_dropOver_72 hl (k := 0) rfl (by rw [ez_10]; rfl) (by decide) rfl (fun ls hl => ?_)
        refine lv_goto (tgt := 4) hx hb dX3_dropOver_75 (by decide) ?_
        exact ih (kf - 1) (by omega) g_3 z_10 j H locs ls hT hI hE hM (by omega) (by omega) (by omega) (by omega) (by have e0 := z0; omega) (lv_sub hl [0, 1, 2, 3] rfl)
      · refine W.eq (g2 := F0 m 18 ls [.int 0]) rfl ?_
        refine lv_if_ne (tgt := 72) hx hb dX3_dropOver_18 (by decide) (fun c_ => absurd (by decide) c_) (fun c_ => ?_)
        refine lv_aload_n hx hb dX3_dropOver_21 rfl (lv_at hl 2 rfl) ?_
        obtain ⟨v_11, e_v_11, r_v_11, n_v_11⟩ := hI.f r_8 6
        refine t_get (ci := 3) (v := .ref v_11) hB hT (ro_ci r_8 rfl) rfl 6 (by decide) k_159 e_v_11 dX3_dropOver_22 ?_
        refine lv_iload_n hx hb dX3_dropOver_25 rfl (lv_at hl 1 rfl) ?_
        refine lv_aload_n hx hb dX3_dropOver_26 rfl (lv_at hl 2 rfl) ?_
        refine t_get (ci := 3) (v := .ref v_11) hB hT (ro_ci r_8 rfl) rfl 6 (by decide) k_159 e_v_11 dX3_dropOver_27 ?_
        refine lv_iload_n hx hb dX3_dropOver_30 rfl (lv_at hl 0 rfl) ?_
        have i_u_12 : vp_in i 16 := (i_in (n := 16) rfl (by omega) (by omega))
        refine t_iald hB hT (ro_in r_v_11 (by decide)) n_v_11 i_u_12 rfl dX3_dropOver_31 ?_
        refine lv_topi (fun u_12 e_u_12 => ?_)
        have i_13 : vp_in j 16 := (i_in (n := 16) rfl (by omega) (by omega))
        refine t_iast hB hT (ro_in r_v_11 (by decide)) n_v_11 i_13 dX3_dropOver_32 (fun H locs hT => ?_)
        have hI : Inv fr (sC g_3 v_11 j.toNatClampNeg u_12) := hI.sC (ck r_v_11 trivial)
        have hM : Sm md_s_dropOver g (sC g_3 v_11 j.toNatClampNeg u_12) := hM
        have hE : Ex g (sC g_3 v_11 j.toNatClampNeg u_12) := hE
        refine lv_aload_n hx hb dX3_dropOver_33 rfl (lv_at hl 2 rfl) ?_
        obtain ⟨v_14, e_v_14, r_v_14, n_v_14⟩ := hI.f r_8 7
        refine t_get (ci := 3) (v := .ref v_14) hB hT (ro_ci r_8 rfl) rfl 7 (by decide) k_160 e_v_14 dX3_dropOver_34 ?_
        refine lv_iload_n hx hb dX3_dropOver_37 rfl (lv_at hl 1 rfl) ?_
        refine lv_aload_n hx hb dX3_dropOver_38 rfl (lv_at hl 2 rfl) ?_
        refine t_get (ci := 3) (v := .ref v_14) hB hT (ro_ci r_8 rfl) rfl 7 (by decide) k_160 e_v_14 dX3_dropOver_39 ?_
        refine lv_iload_n hx hb dX3_dropOver_42 rfl (lv_at hl 0 rfl) ?_
        have i_u_15 : vp_in i 16 := (i_in (n := 16) rfl (by omega) (by omega))
        refine t_iald hB hT (ro_in r_v_14 (by decide)) n_v_14 i_u_15 rfl dX3_dropOver_43 ?_
        refine lv_topi (fun u_15 e_u_15 => ?_)
        have i_16 : vp_in j 16 := (i_in (n := 16) rfl (by omega) (by omega))
        refine t_iast hB hT (ro_in r_v_14 (by decide)) n_v_14 i_16 dX3_dropOver_44 (fun H locs hT => ?_)
        have hI : Inv fr (sC (sC g_3 v_11 j.toNatClampNeg u_12) v_14 j.toNatClampNeg u_15) := hI.sC (ck r_v_14 trivial)
        have hM : Sm md_s_dropOver g (sC (sC g_3 v_11 j.toNatClampNeg u_12) v_14 j.toNatClampNeg u_15) := hM
        have hE : Ex g (sC (sC g_3 v_11 j.toNatClampNeg u_12) v_14 j.toNatClampNeg u_15) := hE
        refine lv_aload_n hx hb dX3_dropOver_45 rfl (lv_at hl 2 rfl) ?_
        obtain ⟨v_17, e_v_17, r_v_17, n_v_17⟩ := hI.f r_8 8
        refine t_get (ci := 3) (v := .ref v_17) hB hT (ro_ci r_8 rfl) rfl 8 (by decide) k_161 e_v_17 dX3_dropOver_46 ?_
        refine lv_iload_n hx hb dX3_dropOver_49 rfl (lv_at hl 1 rfl) ?_
        refine lv_aload_n hx hb dX3_dropOver_50 rfl (lv_at hl 2 rfl) ?_
        refine t_get (ci := 3) (v := .ref v_17) hB hT (ro_ci r_8 rfl) rfl 8 (by decide) k_161 e_v_17 dX3_dropOver_51 ?_
        refine lv_iload_n hx hb dX3_dropOver_54 rfl (lv_at hl 0 rfl) ?_
        have i_u_18 : vp_in i 16 := (i_in (n := 16) rfl (by omega) (by omega))
        refine t_iald hB hT (ro_in r_v_17 (by decide)) n_v_17 i_u_18 rfl dX3_dropOver_55 ?_
        refine lv_topi (fun u_18 e_u_18 => ?_)
        have i_19 : vp_in j 16 := (i_in (n := 16) rfl (by omega) (by omega))
        refine t_iast hB hT (ro_in r_v_17 (by decide)) n_v_17 i_19 dX3_dropOver_56 (fun H locs hT => ?_)
        have hI : Inv fr (sC (sC (sC g_3 v_11 j.toNatClampNeg u_12) v_14 j.toNatClampNeg u_15) v_17 j.toNatClampNeg u_18) := hI.sC (ck r_v_17 trivial)
        have hM : Sm md_s_dropOver g (sC (sC (sC g_3 v_11 j.toNatClampNeg u_12) v_14 j.toNatClampNeg u_15) v_17 j.toNatClampNeg u_18) := hM
        have hE : Ex g (sC (sC (sC g_3 v_11 j.toNatClampNeg u_12) v_14 j.toNatClampNeg u_15) v_17 j.toNatClampNeg u_18) := hE
        refine lv_aload_n hx hb dX3_dropOver_57 rfl (lv_at hl 2 rfl) ?_
        obtain ⟨v_20, e_v_20, r_v_20, n_v_20⟩ := hI.f r_8 9
        refine t_get (ci := 3) (v := .ref v_20) hB hT (ro_ci r_8 rfl) rfl 9 (by decide) k_162 e_v_20 dX3_dropOver_58 ?_
        refine lv_iload_n hx hb dX3_dropOver_61 rfl (lv_at hl 1 rfl) ?_
        refine lv_aload_n hx hb dX3_dropOver_62 rfl (lv_at hl 2 rfl) ?_
        refine t_get (ci := 3) (v := .ref v_20) hB hT (ro_ci r_8 rfl) rfl 9 (by decide) k_162 e_v_20 dX3_dropOver_63 ?_
        refine lv_iload_n hx hb dX3_dropOver_66 rfl (lv_at hl 0 rfl) ?_
        have i_u_21 : vp_in i 16 := (i_in (n := 16) rfl (by omega) (by omega))
        refine t_iald hB hT (ro_in r_v_20 (by decide)) n_v_20 i_u_21 rfl dX3_dropOver_67 ?_
        refine lv_topi (fun u_21 e_u_21 => ?_)
        have i_22 : vp_in j 16 := (i_in (n := 16) rfl (by omega) (by omega))
        refine t_iast hB hT (ro_in r_v_20 (by decide)) n_v_20 i_22 dX3_dropOver_68 (fun H locs hT => ?_)
        have hI : Inv fr (sC (sC (sC (sC g_3 v_11 j.toNatClampNeg u_12) v_14 j.toNatClampNeg u_15) v_17 j.toNatClampNeg u_18) v_20 j.toNatClampNeg u_21) := hI.sC (ck r_v_20 trivial)
        have hM : Sm md_s_dropOver g (sC (sC (sC (sC g_3 v_11 j.toNatClampNeg u_12) v_14 j.toNatClampNeg u_15) v_17 j.toNatClampNeg u_18) v_20 j.toNatClampNeg u_21) := hM
        have hE : Ex g (sC (sC (sC (sC g_3 v_11 j.toNatClampNeg u_12) v_14 j.toNatClampNeg u_15) v_17 j.toNatClampNeg u_18) v_20 j.toNatClampNeg u_21) := hE
        obtain ⟨z_23, ez_23⟩ : ∃ z : Int32, z = j + 1 := ⟨_, rfl⟩
        have e_z_23 : z_23.toInt = j.toInt + 1 := i_add ez_23 rfl (by decide) (by omega) (by omega)
        refine lv_iinc (v := z_23) (lv' := [(2, .int z_23), (3, .int i), (0, .ref h), (1, .int n)]) hx hb dX3_dropOver_69 hl (k := 1) rfl (by rw [ez_23]; rfl) (by decide) rfl (fun ls hl => ?_)
        obtain ⟨z_24, ez_24⟩ : ∃ z : Int32, z = i + 1 := ⟨_, rfl⟩
        have e_z_24 : z_24.toInt = i.toInt + 1 := i_add ez_24 rfl (by decide) (by omega) (by omega)
        refine lv_iinc (v := z_24) (lv' := [(3, .int z_24), (2, .int z_23), (0, .ref h), (1, .int n)]) hx hb dX3_dropOver_72 hl (k := 1) rfl (by rw [ez_24]; rfl) (by decide) rfl (fun ls hl => ?_)
        refine lv_goto (tgt := 4) hx hb dX3_dropOver_75 (by decide) ?_
        exact ih (kf - 1) (by omega) (sC (sC (sC (sC g_3 v_11 j.toNatClampNeg u_12) v_14 j.toNatClampNeg u_15) v_17 j.toNatClampNeg u_18) v_20 j.toNatClampNeg u_21) z_24 z_23 H locs ls hT hI hE hM (by omega) (by omega) (by omega) (by omega) (by have e0 := z0; omega) (lv_sub hl [0, 1, 2, 3] rfl)
set_option maxHeartbeats 4000000 in
set_option maxRecDepth 100000 in
theorem s_dropOver (l : Launch) (D : va_G) (cI cZ cS cR : ClassId) (N0 : NT) (fr : Int32) (g : GS) (hI : Inv fr g) (h : Nat) (n : Int32) (r_h : g.1 h = 4) : Ty l D cI cZ cS cR N0 yX3_dropOver cX3_dropOver 4 none 1 0 0 [.ref h, .int n] g (fun v g' => v = none ∧ Inv fr g' ∧ Ex g g' ∧ Sm md_s_dropOver g g') := by
  refine t_enter (by decide) (Nat.le_of_ble_eq_true rfl) ?_
  intro p e s m args below meth c ls H locs hB hr hin hl hT
  have hx := hB.1
  have hb := hB.2.1
  have hl : lv_has ls 4 [(0, .ref h), (1, .int n)] := hl
  have hE : Ex g g := Ex.rf
  have hM : Sm md_s_dropOver g g := Sm.rf
  refine lv_iconst (v := 0) hx hb dX3_dropOver_0 (by decide) ?_
  refine lv_istore_n (lv' := [(2, .int 0), (0, .ref h), (1, .int n)]) hx hb dX3_dropOver_1 rfl hl (by decide) rfl (fun ls hl => ?_)
  refine lv_iconst (v := 0) hx hb dX3_dropOver_2 (by decide) ?_
  refine lv_istore_n (lv' := [(3, .int 0), (2, .int 0), (0, .ref h), (1, .int n)]) hx hb dX3_dropOver_3 rfl hl (by decide) rfl (fun ls hl => ?_)
  exact lt_s_dropOver_a l D cI cZ cS cR N0 fr g h n r_h hB hr 16 g (0 : Int32) (0 : Int32) H locs ls hT hI hE hM (by decide) (by decide) (by decide) (by decide) (by have e0 := z0; omega) (lv_sub hl [0, 1, 2, 3] rfl)
def md_s_placeOfKey : Nat → Nat → Bool := fun _ _ => false
set_option maxHeartbeats 4000000 in
set_option maxRecDepth 100000 in
theorem lt_s_placeOfKey_a (l : Launch) (D : va_G) (cI cZ cS cR : ClassId) (N0 : NT) (fr : Int32) (g : GS) (h : Nat) (n : Int32) (r_h : g.1 h = 4) {p : Program} {e : Env} {s : State} {m : MethodId} {args : Array Value} {below : List Frame} {meth : Method} {c : Code} (hB : Tz p s m meth c args cX3_placeOfKey 3 RX3 D cI cZ cS cR N0) (hr : meth.sig.returnType = (some .int))  : ∀ (kf : Nat) (g1 : GS) (i : Int32)  (H : Heap) (locs : List Loc) (ls : Array Slot), Tv D cI cZ cS cR N0 s.heap H locs g1 → Inv fr g1 → Ex g g1 → Sm md_s_placeOfKey g g1 → 0 ≤ i.toInt → i.toInt ≤ 16 → 16 ≤ i.toInt + kf → lv_has ls 3 [(2, .int i), (0, .ref h), (1, .int n)] → W p l e (rmx 0 0 0) s m args below meth c H locs 0 0 (MQ below (tQ D cI cZ cS cR N0 (fun v g' => ∃ (r : Int32), v = some (.int r) ∧ Inv fr g' ∧ Ex g g' ∧ Sm md_s_placeOfKey g g' ∧ (r = -1 ∨ (0 ≤ r.toInt ∧ r.toInt ≤ 15)))) args s 0 0 (fun q => N0.1 ≤ q)) (F0 m 2 ls []) := by
  have hx := hB.1
  have hb := hB.2.1
  intro kf
  induction kf using Nat.strongRecOn with
  | ind kf ih =>
    intro g1 i H locs ls hT hI hE hM l_i u_i hk hl
    have r1_h : g1.1 h = 4 := Ex.r hE r_h (by decide)
    refine lv_iload_n hx hb dX3_placeOfKey_2 rfl (lv_at hl 0 rfl) ?_
    refine lv_aload_n hx hb dX3_placeOfKey_3 rfl (lv_at hl 1 rfl) ?_
    obtain ⟨v_1, e_v_1, l_v_1, u_v_1⟩ := hI.f r1_h 5
    refine t_get (ci := 3) (v := .int v_1) hB hT (ro_ci r1_h rfl) rfl 5 (by decide) k_158 e_v_1 dX3_placeOfKey_4 ?_
    refine lv_icmp_ge (tgt := 28) hx hb dX3_placeOfKey_7 (by decide) (fun c_2 => ?_) (fun c_2 => ?_)
    · have c_2' : v_1.toInt ≤ i.toInt := i_le c_2 rfl rfl
      refine lv_iconst (v := (-1)) hx hb dX3_placeOfKey_28 (by decide) ?_
      exact t_iret hB hr hT (Nat.le_of_ble_eq_true rfl) (Nat.le_of_ble_eq_true rfl) dX3_placeOfKey_29 ⟨(-1), rfl, hI, hE, hM, (Or.inl rfl)⟩
    · have c_2' : i.toInt < v_1.toInt := i_nle c_2 rfl rfl
      refine lv_aload_n hx hb dX3_placeOfKey_10 rfl (lv_at hl 1 rfl) ?_
      obtain ⟨v_3, e_v_3, r_v_3, n_v_3⟩ := hI.f r1_h 6
      refine t_get (ci := 3) (v := .ref v_3) hB hT (ro_ci r1_h rfl) rfl 6 (by decide) k_159 e_v_3 dX3_placeOfKey_11 ?_
      refine lv_iload_n hx hb dX3_placeOfKey_14 rfl (lv_at hl 0 rfl) ?_
      have i_u_4 : vp_in i 16 := (i_in (n := 16) rfl (by omega) (by omega))
      refine t_iald hB hT (ro_in r_v_3 (by decide)) n_v_3 i_u_4 rfl dX3_placeOfKey_15 ?_
      refine lv_topi (fun u_4 e_u_4 => ?_)
      refine lv_iload_n hx hb dX3_placeOfKey_16 rfl (lv_at hl 2 rfl) ?_
      refine lv_icmp_ne (tgt := 22) hx hb dX3_placeOfKey_17 (by decide) (fun c_5 => ?_) (fun c_5 => ?_)
      · have c_5' : u_4.toInt ≠ n.toInt := i_ne c_5 rfl rfl
        obtain ⟨z_6, ez_6⟩ : ∃ z : Int32, z = i + 1 := ⟨_, rfl⟩
        have e_z_6 : z_6.toInt = i.toInt + 1 := i_add ez_6 rfl (by decide) (by omega) (by omega)
        refine lv_iinc (v := z_6) (lv' := [(2, .int z_6), (0, .ref h), (1, .int n)]) hx hb dX3_placeOfKey_22 hl (k := 0) rfl (by rw [ez_6]; rfl) (by decide) rfl (fun ls hl => ?_)
        refine lv_goto (tgt := 2) hx hb dX3_placeOfKey_25 (by decide) ?_
        exact ih (kf - 1) (by omega) g1 z_6 H locs ls hT hI hE hM (by omega) (by omega) (by have e0 := z0; omega) (lv_sub hl [0, 1, 2] rfl)
      · have c_5' : u_4.toInt = n.toInt := i_eq c_5 rfl rfl
        refine lv_iload_n hx hb dX3_placeOfKey_20 rfl (lv_at hl 0 rfl) ?_
        exact t_iret hB hr hT (Nat.le_of_ble_eq_true rfl) (Nat.le_of_ble_eq_true rfl) dX3_placeOfKey_21 ⟨i, rfl, hI, hE, hM, (Or.inr ⟨by omega, by omega⟩)⟩
set_option maxHeartbeats 4000000 in
set_option maxRecDepth 100000 in
theorem s_placeOfKey (l : Launch) (D : va_G) (cI cZ cS cR : ClassId) (N0 : NT) (fr : Int32) (g : GS) (hI : Inv fr g) (h : Nat) (n : Int32) (r_h : g.1 h = 4) : Ty l D cI cZ cS cR N0 yX3_placeOfKey cX3_placeOfKey 3 (some .int) 0 0 0 [.ref h, .int n] g (fun v g' => ∃ (r : Int32), v = some (.int r) ∧ Inv fr g' ∧ Ex g g' ∧ Sm md_s_placeOfKey g g' ∧ (r = -1 ∨ (0 ≤ r.toInt ∧ r.toInt ≤ 15))) := by
  refine t_enter (by decide) (Nat.le_of_ble_eq_true rfl) ?_
  intro p e s m args below meth c ls H locs hB hr hin hl hT
  have hx := hB.1
  have hb := hB.2.1
  have hl : lv_has ls 3 [(0, .ref h), (1, .int n)] := hl
  have hE : Ex g g := Ex.rf
  have hM : Sm md_s_placeOfKey g g := Sm.rf
  refine lv_iconst (v := 0) hx hb dX3_placeOfKey_0 (by decide) ?_
  refine lv_istore_n (lv' := [(2, .int 0), (0, .ref h), (1, .int n)]) hx hb dX3_placeOfKey_1 rfl hl (by decide) rfl (fun ls hl => ?_)
  exact lt_s_placeOfKey_a l D cI cZ cS cR N0 fr g h n r_h hB hr 16 g (0 : Int32) H locs ls hT hI hE hM (by decide) (by decide) (by have e0 := z0; omega) (lv_sub hl [0, 1, 2] rfl)
def md_s_beginKnown : Nat → Nat → Bool := fun r k => (r == 4 && k == 10) || (r == 4 && k == 11) || (r == 4 && k == 14)
set_option maxHeartbeats 4000000 in
set_option maxRecDepth 100000 in
theorem lt_s_beginKnown_a (l : Launch) (D : va_G) (cI cZ cS cR : ClassId) (N0 : NT) (fr : Int32) (g : GS) (h : Nat) (n : Int32) (k : Int32) (r_h : g.1 h = 4) {p : Program} {e : Env} {s : State} {m : MethodId} {args : Array Value} {below : List Frame} {meth : Method} {c : Code} (hB : Tz p s m meth c args cX3_beginKnown 4 RX3 D cI cZ cS cR N0) (hr : meth.sig.returnType = none)  : ∀ (kf : Nat) (g1 : GS) (i : Int32)  (H : Heap) (locs : List Loc) (ls : Array Slot), Tv D cI cZ cS cR N0 s.heap H locs g1 → Inv fr g1 → Ex g g1 → Sm md_s_beginKnown g g1 → 0 ≤ i.toInt → i.toInt ≤ 8 → 8 ≤ i.toInt + kf → lv_has ls 4 [(3, .int i), (0, .ref h), (1, .int n), (2, .int k)] → W p l e (rmx 1 0 0) s m args below meth c H locs 0 0 (MQ below (tQ D cI cZ cS cR N0 (fun v g' => v = none ∧ Inv fr g' ∧ Ex g g' ∧ Sm md_s_beginKnown g g')) args s 0 0 (fun q => N0.1 ≤ q)) (F0 m 45 ls []) := by
  have hx := hB.1
  have hb := hB.2.1
  intro kf
  induction kf using Nat.strongRecOn with
  | ind kf ih =>
    intro g1 i H locs ls hT hI hE hM l_i u_i hk hl
    have r1_h : g1.1 h = 4 := Ex.r hE r_h (by decide)
    refine lv_iload_n hx hb dX3_beginKnown_45 rfl (lv_at hl 0 rfl) ?_
    refine lv_bipush (v := 8) hx hb dX3_beginKnown_46 (by decide) ?_
    refine lv_icmp_ge (tgt := 76) hx hb dX3_beginKnown_48 (by decide) (fun c_1 => ?_) (fun c_1 => ?_)
    · have c_1' : 8 ≤ i.toInt := i_le c_1 (by decide) rfl
      exact t_vret hB hr hT (Nat.le_of_ble_eq_true rfl) (Nat.le_of_ble_eq_true rfl) dX3_beginKnown_76 ⟨rfl, hI, hE, hM⟩
    · have c_1' : i.toInt < 8 := i_nle c_1 (by decide) rfl
      refine lv_aload_n hx hb dX3_beginKnown_51 rfl (lv_at hl 1 rfl) ?_
      obtain ⟨v_2, e_v_2, r_v_2, n_v_2⟩ := hI.f r1_h 13
      refine t_get (ci := 3) (v := .ref v_2) hB hT (ro_ci r1_h rfl) rfl 13 (by decide) k_166 e_v_2 dX3_beginKnown_52 ?_
      refine lv_iload_n hx hb dX3_beginKnown_55 rfl (lv_at hl 0 rfl) ?_
      refine lv_aload_n hx hb dX3_beginKnown_56 rfl (lv_at hl 1 rfl) ?_
      obtain ⟨v_3, e_v_3, r_v_3, n_v_3⟩ := hI.f r1_h 12
      refine t_get (ci := 3) (v := .ref v_3) hB hT (ro_ci r1_h rfl) rfl 12 (by decide) k_165 e_v_3 dX3_beginKnown_57 ?_
      refine lv_iload_n hx hb dX3_beginKnown_60 rfl (lv_at hl 0 rfl) ?_
      have i_u_4 : vp_in i 8 := (i_in (n := 8) rfl (by omega) (by omega))
      refine t_iald hB hT (ro_in r_v_3 (by decide)) n_v_3 i_u_4 rfl dX3_beginKnown_61 ?_
      refine lv_topi (fun u_4 e_u_4 => ?_)
      have i_5 : vp_in i 8 := (i_in (n := 8) rfl (by omega) (by omega))
      refine t_iast hB hT (ro_in r_v_2 (by decide)) n_v_2 i_5 dX3_beginKnown_62 (fun H locs hT => ?_)
      have hI : Inv fr (sC g1 v_2 i.toNatClampNeg u_4) := hI.sC (ck r_v_2 trivial)
      have hM : Sm md_s_beginKnown g (sC g1 v_2 i.toNatClampNeg u_4) := hM
      have hE : Ex g (sC g1 v_2 i.toNatClampNeg u_4) := hE
      refine lv_aload_n hx hb dX3_beginKnown_63 rfl (lv_at hl 1 rfl) ?_
      refine t_get (ci := 3) (v := .ref v_3) hB hT (ro_ci r1_h rfl) rfl 12 (by decide) k_165 e_v_3 dX3_beginKnown_64 ?_
      refine lv_iload_n hx hb dX3_beginKnown_67 rfl (lv_at hl 0 rfl) ?_
      refine lv_iconst (v := (-1)) hx hb dX3_beginKnown_68 (by decide) ?_
      have i_6 : vp_in i 8 := (i_in (n := 8) rfl (by omega) (by omega))
      refine t_iast hB hT (ro_in r_v_3 (by decide)) n_v_3 i_6 dX3_beginKnown_69 (fun H locs hT => ?_)
      have hI : Inv fr (sC (sC g1 v_2 i.toNatClampNeg u_4) v_3 i.toNatClampNeg ((-1) : Int32)) := hI.sC (ck r_v_3 trivial)
      have hM : Sm md_s_beginKnown g (sC (sC g1 v_2 i.toNatClampNeg u_4) v_3 i.toNatClampNeg ((-1) : Int32)) := hM
      have hE : Ex g (sC (sC g1 v_2 i.toNatClampNeg u_4) v_3 i.toNatClampNeg ((-1) : Int32)) := hE
      obtain ⟨z_7, ez_7⟩ : ∃ z : Int32, z = i + 1 := ⟨_, rfl⟩
      have e_z_7 : z_7.toInt = i.toInt + 1 := i_add ez_7 rfl (by decide) (by omega) (by omega)
      refine lv_iinc (v := z_7) (lv' := [(3, .int z_7), (0, .ref h), (1, .int n), (2, .int k)]) hx hb dX3_beginKnown_70 hl (k := 0) rfl (by rw [ez_7]; rfl) (by decide) rfl (fun ls hl => ?_)
      refine lv_goto (tgt := 45) hx hb dX3_beginKnown_73 (by decide) ?_
      exact ih (kf - 1) (by omega) (sC (sC g1 v_2 i.toNatClampNeg u_4) v_3 i.toNatClampNeg ((-1) : Int32)) z_7 H locs ls hT hI hE hM (by omega) (by omega) (by have e0 := z0; omega) (lv_sub hl [0, 1, 2, 3] rfl)
theorem mdle_s_beginKnown_s_isMended {r k : Nat} (h : md_s_beginKnown r k = false) : md_s_isMended r k = false := by
  first | rfl | (simp only [md_s_beginKnown, md_s_isMended, Bool.or_eq_false_iff, Bool.and_eq_false_iff, beq_eq_false_iff_ne] at h ⊢; omega)
set_option maxHeartbeats 4000000 in
set_option maxRecDepth 100000 in
theorem s_beginKnown (l : Launch) (D : va_G) (cI cZ cS cR : ClassId) (N0 : NT) (fr : Int32) (g : GS) (hI : Inv fr g) (h : Nat) (n : Int32) (k : Int32) (r_h : g.1 h = 4) : Ty l D cI cZ cS cR N0 yX3_beginKnown cX3_beginKnown 4 none 1 0 0 [.ref h, .int n, .int k] g (fun v g' => v = none ∧ Inv fr g' ∧ Ex g g' ∧ Sm md_s_beginKnown g g') := by
  refine t_enter (by decide) (Nat.le_of_ble_eq_true rfl) ?_
  intro p e s m args below meth c ls H locs hB hr hin hl hT
  have hx := hB.1
  have hb := hB.2.1
  have hl : lv_has ls 4 [(0, .ref h), (1, .int n), (2, .int k)] := hl
  have hE : Ex g g := Ex.rf
  have hM : Sm md_s_beginKnown g g := Sm.rf
  refine lv_aload_n hx hb dX3_beginKnown_0 rfl (lv_at hl 0 rfl) ?_
  refine lv_aload_n hx hb dX3_beginKnown_1 rfl (lv_at hl 0 rfl) ?_
  refine lv_iconst (v := 3) hx hb dX3_beginKnown_2 (by decide) ?_
  refine t_callV (n := 1) (ci := 3) (As := [.int 3]) (rest := [.ref h]) hB hT hl.1 (s_isMended l D cI cZ cS cR N0 fr g hI h 3 r_h) (ro_ci r_h rfl) rfl k_512 k_60 k_530 k_510 k_511 (by decide +kernel) ⟨(Nat.le_of_ble_eq_true rfl), (Nat.le_of_ble_eq_true rfl)⟩ rfl (Nat.le_of_ble_eq_true rfl) ⟨(Nat.le_of_ble_eq_true rfl), (Nat.le_of_ble_eq_true rfl)⟩ dX3_beginKnown_3 (fun v g_1 H locs hp hT => ?_)
  obtain ⟨r_2, rfl, hI, x_5, m_4, f_3⟩ := hp
  have r_6 : g_1.1 h = 4 := (Ex.r x_5 r_h (by decide))
  have hM : Sm md_s_beginKnown g g_1 := hM.tr hE (m_4.mo (fun r k h => mdle_s_beginKnown_s_isMended h))
  have hE : Ex g g_1 := hE.tr x_5
  refine W.eq (g2 := F0 m 6 ls [.int r_2, .ref h]) rfl ?_
  rcases f_3 with rfl | rfl
  · refine W.eq (g2 := F0 m 6 ls [.int 1, .ref h]) rfl ?_
    refine lv_if_eq (tgt := 29) hx hb dX3_beginKnown_6 (by decide) (fun c_ => absurd c_ (by decide)) (fun c_ => ?_)
    refine lv_aload_n hx hb dX3_beginKnown_9 rfl (lv_at hl 0 rfl) ?_
    obtain ⟨v_7, e_v_7⟩ := hI.f r_6 10
    refine t_get (ci := 3) (v := .int v_7) hB hT (ro_ci r_6 rfl) rfl 10 (by decide) k_163 e_v_7 dX3_beginKnown_10 ?_
    refine lv_iload_n hx hb dX3_beginKnown_13 rfl (lv_at hl 1 rfl) ?_
    refine lv_icmp_ne (tgt := 29) hx hb dX3_beginKnown_14 (by decide) (fun c_8 => ?_) (fun c_8 => ?_)
    · have c_8' : v_7.toInt ≠ n.toInt := i_ne c_8 rfl rfl
      refine lv_iconst (v := 0) hx hb dX3_beginKnown_29 (by decide) ?_
      refine t_put0 (ci := 3) (v := .int 0) hB hT (ro_ci r_6 rfl) (ro_n0 r_6 (by decide)) rfl 14 (by decide) k_167 (Or.inl rfl) rfl rfl dX3_beginKnown_30 (fun H locs hT => ?_)
      have hI : Inv fr (sF g_1 h 14 (.int 0)) := hI.sF (fk r_6 (⟨_, rfl, by decide, by decide⟩))
      have hM : Sm md_s_beginKnown g (sF g_1 h 14 (.int 0)) := hM.tr hE (Sm_sF (by rw [r_6]; rfl))
      have hE : Ex g (sF g_1 h 14 (.int 0)) := hE
      refine lv_aload_n hx hb dX3_beginKnown_33 rfl (lv_at hl 0 rfl) ?_
      refine lv_iload_n hx hb dX3_beginKnown_34 rfl (lv_at hl 1 rfl) ?_
      refine t_put0 (ci := 3) (v := .int n) hB hT (ro_ci r_6 rfl) (ro_n0 r_6 (by decide)) rfl 10 (by decide) k_163 (Or.inl rfl) rfl rfl dX3_beginKnown_35 (fun H locs hT => ?_)
      have hI : Inv fr (sF (sF g_1 h 14 (.int 0)) h 10 (.int n)) := hI.sF (fk r_6 (⟨_, rfl⟩))
      have hM : Sm md_s_beginKnown g (sF (sF g_1 h 14 (.int 0)) h 10 (.int n)) := hM.tr hE (Sm_sF (by rw [r_6]; rfl))
      have hE : Ex g (sF (sF g_1 h 14 (.int 0)) h 10 (.int n)) := hE
      refine lv_aload_n hx hb dX3_beginKnown_38 rfl (lv_at hl 0 rfl) ?_
      refine lv_iload_n hx hb dX3_beginKnown_39 rfl (lv_at hl 2 rfl) ?_
      refine t_put0 (ci := 3) (v := .int k) hB hT (ro_ci r_6 rfl) (ro_n0 r_6 (by decide)) rfl 11 (by decide) k_164 (Or.inl rfl) rfl rfl dX3_beginKnown_40 (fun H locs hT => ?_)
      have hI : Inv fr (sF (sF (sF g_1 h 14 (.int 0)) h 10 (.int n)) h 11 (.int k)) := hI.sF (fk r_6 (⟨_, rfl⟩))
      have hM : Sm md_s_beginKnown g (sF (sF (sF g_1 h 14 (.int 0)) h 10 (.int n)) h 11 (.int k)) := hM.tr hE (Sm_sF (by rw [r_6]; rfl))
      have hE : Ex g (sF (sF (sF g_1 h 14 (.int 0)) h 10 (.int n)) h 11 (.int k)) := hE
      refine lv_iconst (v := 0) hx hb dX3_beginKnown_43 (by decide) ?_
      refine lv_istore_n (lv' := [(3, .int 0), (0, .ref h), (1, .int n), (2, .int k)]) hx hb dX3_beginKnown_44 rfl hl (by decide) rfl (fun ls hl => ?_)
      exact lt_s_beginKnown_a l D cI cZ cS cR N0 fr g h n k r_h hB hr 8 (sF (sF (sF g_1 h 14 (.int 0)) h 10 (.int n)) h 11 (.int k)) (0 : Int32) H locs ls hT hI hE hM (by decide) (by decide) (by have e0 := z0; omega) (lv_sub hl [0, 1, 2, 3] rfl)
    · have c_8' : v_7.toInt = n.toInt := i_eq c_8 rfl rfl
      refine lv_aload_n hx hb dX3_beginKnown_17 rfl (lv_at hl 0 rfl) ?_
      obtain ⟨v_9, e_v_9⟩ := hI.f r_6 11
      refine t_get (ci := 3) (v := .int v_9) hB hT (ro_ci r_6 rfl) rfl 11 (by decide) k_164 e_v_9 dX3_beginKnown_18 ?_
      refine lv_iload_n hx hb dX3_beginKnown_21 rfl (lv_at hl 2 rfl) ?_
      refine lv_icmp_ne (tgt := 29) hx hb dX3_beginKnown_22 (by decide) (fun c_10 => ?_) (fun c_10 => ?_)
      · have c_10' : v_9.toInt ≠ k.toInt := i_ne c_10 rfl rfl
        refine lv_iconst (v := 0) hx hb dX3_beginKnown_29 (by decide) ?_
        refine t_put0 (ci := 3) (v := .int 0) hB hT (ro_ci r_6 rfl) (ro_n0 r_6 (by decide)) rfl 14 (by decide) k_167 (Or.inl rfl) rfl rfl dX3_beginKnown_30 (fun H locs hT => ?_)
        have hI : Inv fr (sF g_1 h 14 (.int 0)) := hI.sF (fk r_6 (⟨_, rfl, by decide, by decide⟩))
        have hM : Sm md_s_beginKnown g (sF g_1 h 14 (.int 0)) := hM.tr hE (Sm_sF (by rw [r_6]; rfl))
        have hE : Ex g (sF g_1 h 14 (.int 0)) := hE
        refine lv_aload_n hx hb dX3_beginKnown_33 rfl (lv_at hl 0 rfl) ?_
        refine lv_iload_n hx hb dX3_beginKnown_34 rfl (lv_at hl 1 rfl) ?_
        refine t_put0 (ci := 3) (v := .int n) hB hT (ro_ci r_6 rfl) (ro_n0 r_6 (by decide)) rfl 10 (by decide) k_163 (Or.inl rfl) rfl rfl dX3_beginKnown_35 (fun H locs hT => ?_)
        have hI : Inv fr (sF (sF g_1 h 14 (.int 0)) h 10 (.int n)) := hI.sF (fk r_6 (⟨_, rfl⟩))
        have hM : Sm md_s_beginKnown g (sF (sF g_1 h 14 (.int 0)) h 10 (.int n)) := hM.tr hE (Sm_sF (by rw [r_6]; rfl))
        have hE : Ex g (sF (sF g_1 h 14 (.int 0)) h 10 (.int n)) := hE
        refine lv_aload_n hx hb dX3_beginKnown_38 rfl (lv_at hl 0 rfl) ?_
        refine lv_iload_n hx hb dX3_beginKnown_39 rfl (lv_at hl 2 rfl) ?_
        refine t_put0 (ci := 3) (v := .int k) hB hT (ro_ci r_6 rfl) (ro_n0 r_6 (by decide)) rfl 11 (by decide) k_164 (Or.inl rfl) rfl rfl dX3_beginKnown_40 (fun H locs hT => ?_)
        have hI : Inv fr (sF (sF (sF g_1 h 14 (.int 0)) h 10 (.int n)) h 11 (.int k)) := hI.sF (fk r_6 (⟨_, rfl⟩))
        have hM : Sm md_s_beginKnown g (sF (sF (sF g_1 h 14 (.int 0)) h 10 (.int n)) h 11 (.int k)) := hM.tr hE (Sm_sF (by rw [r_6]; rfl))
        have hE : Ex g (sF (sF (sF g_1 h 14 (.int 0)) h 10 (.int n)) h 11 (.int k)) := hE
        refine lv_iconst (v := 0) hx hb dX3_beginKnown_43 (by decide) ?_
        refine lv_istore_n (lv' := [(3, .int 0), (0, .ref h), (1, .int n), (2, .int k)]) hx hb dX3_beginKnown_44 rfl hl (by decide) rfl (fun ls hl => ?_)
        exact lt_s_beginKnown_a l D cI cZ cS cR N0 fr g h n k r_h hB hr 8 (sF (sF (sF g_1 h 14 (.int 0)) h 10 (.int n)) h 11 (.int k)) (0 : Int32) H locs ls hT hI hE hM (by decide) (by decide) (by have e0 := z0; omega) (lv_sub hl [0, 1, 2, 3] rfl)
      · have c_10' : v_9.toInt = k.toInt := i_eq c_10 rfl rfl
        refine lv_iconst (v := 1) hx hb dX3_beginKnown_25 (by decide) ?_
        refine lv_goto (tgt := 30) hx hb dX3_beginKnown_26 (by decide) ?_
        refine t_put0 (ci := 3) (v := .int 1) hB hT (ro_ci r_6 rfl) (ro_n0 r_6 (by decide)) rfl 14 (by decide) k_167 (Or.inl rfl) rfl rfl dX3_beginKnown_30 (fun H locs hT => ?_)
        have hI : Inv fr (sF g_1 h 14 (.int 1)) := hI.sF (fk r_6 (⟨_, rfl, by decide, by decide⟩))
        have hM : Sm md_s_beginKnown g (sF g_1 h 14 (.int 1)) := hM.tr hE (Sm_sF (by rw [r_6]; rfl))
        have hE : Ex g (sF g_1 h 14 (.int 1)) := hE
        refine lv_aload_n hx hb dX3_beginKnown_33 rfl (lv_at hl 0 rfl) ?_
        refine lv_iload_n hx hb dX3_beginKnown_34 rfl (lv_at hl 1 rfl) ?_
        refine t_put0 (ci := 3) (v := .int n) hB hT (ro_ci r_6 rfl) (ro_n0 r_6 (by decide)) rfl 10 (by decide) k_163 (Or.inl rfl) rfl rfl dX3_beginKnown_35 (fun H locs hT => ?_)
        have hI : Inv fr (sF (sF g_1 h 14 (.int 1)) h 10 (.int n)) := hI.sF (fk r_6 (⟨_, rfl⟩))
        have hM : Sm md_s_beginKnown g (sF (sF g_1 h 14 (.int 1)) h 10 (.int n)) := hM.tr hE (Sm_sF (by rw [r_6]; rfl))
        have hE : Ex g (sF (sF g_1 h 14 (.int 1)) h 10 (.int n)) := hE
        refine lv_aload_n hx hb dX3_beginKnown_38 rfl (lv_at hl 0 rfl) ?_
        refine lv_iload_n hx hb dX3_beginKnown_39 rfl (lv_at hl 2 rfl) ?_
        refine t_put0 (ci := 3) (v := .int k) hB hT (ro_ci r_6 rfl) (ro_n0 r_6 (by decide)) rfl 11 (by decide) k_164 (Or.inl rfl) rfl rfl dX3_beginKnown_40 (fun H locs hT => ?_)
        have hI : Inv fr (sF (sF (sF g_1 h 14 (.int 1)) h 10 (.int n)) h 11 (.int k)) := hI.sF (fk r_6 (⟨_, rfl⟩))
        have hM : Sm md_s_beginKnown g (sF (sF (sF g_1 h 14 (.int 1)) h 10 (.int n)) h 11 (.int k)) := hM.tr hE (Sm_sF (by rw [r_6]; rfl))
        have hE : Ex g (sF (sF (sF g_1 h 14 (.int 1)) h 10 (.int n)) h 11 (.int k)) := hE
        refine lv_iconst (v := 0) hx hb dX3_beginKnown_43 (by decide) ?_
        refine lv_istore_n (lv' := [(3, .int 0), (0, .ref h), (1, .int n), (2, .int k)]) hx hb dX3_beginKnown_44 rfl hl (by decide) rfl (fun ls hl => ?_)
        exact lt_s_beginKnown_a l D cI cZ cS cR N0 fr g h n k r_h hB hr 8 (sF (sF (sF g_1 h 14 (.int 1)) h 10 (.int n)) h 11 (.int k)) (0 : Int32) H locs ls hT hI hE hM (by decide) (by decide) (by have e0 := z0; omega) (lv_sub hl [0, 1, 2, 3] rfl)
  · refine W.eq (g2 := F0 m 6 ls [.int 0, .ref h]) rfl ?_
    refine lv_if_eq (tgt := 29) hx hb dX3_beginKnown_6 (by decide) (fun c_ => ?_) (fun c_ => absurd (by decide) c_)
    refine lv_iconst (v := 0) hx hb dX3_beginKnown_29 (by decide) ?_
    refine t_put0 (ci := 3) (v := .int 0) hB hT (ro_ci r_6 rfl) (ro_n0 r_6 (by decide)) rfl 14 (by decide) k_167 (Or.inl rfl) rfl rfl dX3_beginKnown_30 (fun H locs hT => ?_)
    have hI : Inv fr (sF g_1 h 14 (.int 0)) := hI.sF (fk r_6 (⟨_, rfl, by decide, by decide⟩))
    have hM : Sm md_s_beginKnown g (sF g_1 h 14 (.int 0)) := hM.tr hE (Sm_sF (by rw [r_6]; rfl))
    have hE : Ex g (sF g_1 h 14 (.int 0)) := hE
    refine lv_aload_n hx hb dX3_beginKnown_33 rfl (lv_at hl 0 rfl) ?_
    refine lv_iload_n hx hb dX3_beginKnown_34 rfl (lv_at hl 1 rfl) ?_
    refine t_put0 (ci := 3) (v := .int n) hB hT (ro_ci r_6 rfl) (ro_n0 r_6 (by decide)) rfl 10 (by decide) k_163 (Or.inl rfl) rfl rfl dX3_beginKnown_35 (fun H locs hT => ?_)
    have hI : Inv fr (sF (sF g_1 h 14 (.int 0)) h 10 (.int n)) := hI.sF (fk r_6 (⟨_, rfl⟩))
    have hM : Sm md_s_beginKnown g (sF (sF g_1 h 14 (.int 0)) h 10 (.int n)) := hM.tr hE (Sm_sF (by rw [r_6]; rfl))
    have hE : Ex g (sF (sF g_1 h 14 (.int 0)) h 10 (.int n)) := hE
    refine lv_aload_n hx hb dX3_beginKnown_38 rfl (lv_at hl 0 rfl) ?_
    refine lv_iload_n hx hb dX3_beginKnown_39 rfl (lv_at hl 2 rfl) ?_
    refine t_put0 (ci := 3) (v := .int k) hB hT (ro_ci r_6 rfl) (ro_n0 r_6 (by decide)) rfl 11 (by decide) k_164 (Or.inl rfl) rfl rfl dX3_beginKnown_40 (fun H locs hT => ?_)
    have hI : Inv fr (sF (sF (sF g_1 h 14 (.int 0)) h 10 (.int n)) h 11 (.int k)) := hI.sF (fk r_6 (⟨_, rfl⟩))
    have hM : Sm md_s_beginKnown g (sF (sF (sF g_1 h 14 (.int 0)) h 10 (.int n)) h 11 (.int k)) := hM.tr hE (Sm_sF (by rw [r_6]; rfl))
    have hE : Ex g (sF (sF (sF g_1 h 14 (.int 0)) h 10 (.int n)) h 11 (.int k)) := hE
    refine lv_iconst (v := 0) hx hb dX3_beginKnown_43 (by decide) ?_
    refine lv_istore_n (lv' := [(3, .int 0), (0, .ref h), (1, .int n), (2, .int k)]) hx hb dX3_beginKnown_44 rfl hl (by decide) rfl (fun ls hl => ?_)
    exact lt_s_beginKnown_a l D cI cZ cS cR N0 fr g h n k r_h hB hr 8 (sF (sF (sF g_1 h 14 (.int 0)) h 10 (.int n)) h 11 (.int k)) (0 : Int32) H locs ls hT hI hE hM (by decide) (by decide) (by have e0 := z0; omega) (lv_sub hl [0, 1, 2, 3] rfl)
