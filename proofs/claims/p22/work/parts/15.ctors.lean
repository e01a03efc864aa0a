theorem k_78 : Cond.instanceMethod Lib.objectInit ∈ tb := mt 78 (by decide +kernel) rfl
set_option maxRecDepth 20000 in
theorem k_79 : Cond.code Lib.objectInit ⟨#[0xb1]⟩ 1 none ∈ tb := mt 79 rfl rfl
theorem k_85 : Cond.methodLink RX4 3 Lib.objectInit ∈ tb := mt 85 (by decide +kernel) rfl
theorem k_89 : Cond.fieldLink RX4 19 "TwiceOnce$Tape" "fault" "I" ∈ tb := mt 89 (by decide +kernel) rfl
theorem k_101 : Cond.arrayClass .int ∈ tb := mt 101 (by decide +kernel) rfl
theorem k_107 : Cond.methodLink RX5 3 Lib.objectInit ∈ tb := mt 107 (by decide +kernel) rfl
theorem k_108 : Cond.classLink RX5 9 "TwiceOnce$Service" ∈ tb := mt 108 (by decide +kernel) rfl
theorem k_110 : Cond.instantiable RX3 15 ∈ tb := mt 110 (by decide +kernel) rfl
theorem k_112 : Cond.instanceMethod yX3_init ∈ tb := mt 112 (by decide +kernel) rfl
set_option maxRecDepth 20000 in
theorem k_113 : Cond.code yX3_init cX3_init 1 none ∈ tb := mt 113 rfl rfl
theorem k_114 : Cond.methodLink RX3 3 Lib.objectInit ∈ tb := mt 114 (by decide +kernel) rfl
theorem k_115 : Cond.classLink RX3 9 RX2 ∈ tb := mt 115 (by decide +kernel) rfl
theorem k_116 : Cond.instantiable RX2 4 ∈ tb := mt 116 (by decide +kernel) rfl
theorem k_118 : Cond.instanceMethod yX2_init ∈ tb := mt 118 (by decide +kernel) rfl
set_option maxRecDepth 20000 in
theorem k_119 : Cond.code yX2_init cX2_init 1 none ∈ tb := mt 119 rfl rfl
theorem k_120 : Cond.methodLink RX2 3 Lib.objectInit ∈ tb := mt 120 (by decide +kernel) rfl
theorem k_239 : Cond.methodLink RX0 1 Lib.objectInit ∈ tb := mt 239 (by decide +kernel) rfl
theorem k_240 : Cond.methodLink RX0 13 Lib.Math.max.name ∈ tb := mt 240 (by decide +kernel) rfl
theorem dX2_init_0 : decode cX2_init 0 = .ok (.aload_n 0, 1) := by decide +kernel
theorem dX2_init_1 : decode cX2_init 1 = .ok (.invokespecial 3, 3) := by decide +kernel
theorem dX2_init_4 : decode cX2_init 4 = .ok (.aload_n 0, 1) := by decide +kernel
theorem dX2_init_5 : decode cX2_init 5 = .ok (.bipush 8, 2) := by decide +kernel
theorem dX2_init_7 : decode cX2_init 7 = .ok (.newarray .int, 2) := by decide +kernel
theorem dX2_init_9 : decode cX2_init 9 = .ok (.putfield 9, 3) := by decide +kernel
theorem dX2_init_12 : decode cX2_init 12 = .ok (.aload_n 0, 1) := by decide +kernel
theorem dX2_init_13 : decode cX2_init 13 = .ok (.bipush 8, 2) := by decide +kernel
theorem dX2_init_15 : decode cX2_init 15 = .ok (.newarray .int, 2) := by decide +kernel
theorem dX2_init_17 : decode cX2_init 17 = .ok (.putfield 15, 3) := by decide +kernel
theorem dX2_init_20 : decode cX2_init 20 = .ok (.aload_n 0, 1) := by decide +kernel
theorem dX2_init_21 : decode cX2_init 21 = .ok (.bipush 8, 2) := by decide +kernel
theorem dX2_init_23 : decode cX2_init 23 = .ok (.newarray .int, 2) := by decide +kernel
theorem dX2_init_25 : decode cX2_init 25 = .ok (.putfield 18, 3) := by decide +kernel
theorem dX2_init_28 : decode cX2_init 28 = .ok (.aload_n 0, 1) := by decide +kernel
theorem dX2_init_29 : decode cX2_init 29 = .ok (.iconst 0, 1) := by decide +kernel
theorem dX2_init_30 : decode cX2_init 30 = .ok (.putfield 21, 3) := by decide +kernel
theorem dX2_init_33 : decode cX2_init 33 = .ok (.return_, 1) := by decide +kernel
theorem dX3_init_0 : decode cX3_init 0 = .ok (.aload_n 0, 1) := by decide +kernel
theorem dX3_init_1 : decode cX3_init 1 = .ok (.invokespecial 3, 3) := by decide +kernel
theorem dX3_init_4 : decode cX3_init 4 = .ok (.aload_n 0, 1) := by decide +kernel
theorem dX3_init_5 : decode cX3_init 5 = .ok (.new 9, 3) := by decide +kernel
theorem dX3_init_8 : decode cX3_init 8 = .ok (.dup, 1) := by decide +kernel
theorem dX3_init_9 : decode cX3_init 9 = .ok (.invokespecial 11, 3) := by decide +kernel
theorem dX3_init_12 : decode cX3_init 12 = .ok (.putfield 12, 3) := by decide +kernel
theorem dX3_init_15 : decode cX3_init 15 = .ok (.aload_n 0, 1) := by decide +kernel
theorem dX3_init_16 : decode cX3_init 16 = .ok (.iconst 4, 1) := by decide +kernel
theorem dX3_init_17 : decode cX3_init 17 = .ok (.newarray .int, 2) := by decide +kernel
theorem dX3_init_19 : decode cX3_init 19 = .ok (.putfield 18, 3) := by decide +kernel
theorem dX3_init_22 : decode cX3_init 22 = .ok (.aload_n 0, 1) := by decide +kernel
theorem dX3_init_23 : decode cX3_init 23 = .ok (.iconst 0, 1) := by decide +kernel
theorem dX3_init_24 : decode cX3_init 24 = .ok (.putfield 22, 3) := by decide +kernel
theorem dX3_init_27 : decode cX3_init 27 = .ok (.aload_n 0, 1) := by decide +kernel
theorem dX3_init_28 : decode cX3_init 28 = .ok (.iconst 0, 1) := by decide +kernel
theorem dX3_init_29 : decode cX3_init 29 = .ok (.putfield 26, 3) := by decide +kernel
theorem dX3_init_32 : decode cX3_init 32 = .ok (.aload_n 0, 1) := by decide +kernel
theorem dX3_init_33 : decode cX3_init 33 = .ok (.bipush 10, 2) := by decide +kernel
theorem dX3_init_35 : decode cX3_init 35 = .ok (.putfield 29, 3) := by decide +kernel
theorem dX3_init_38 : decode cX3_init 38 = .ok (.aload_n 0, 1) := by decide +kernel
theorem dX3_init_39 : decode cX3_init 39 = .ok (.iconst 0, 1) := by decide +kernel
theorem dX3_init_40 : decode cX3_init 40 = .ok (.putfield 32, 3) := by decide +kernel
theorem dX3_init_43 : decode cX3_init 43 = .ok (.aload_n 0, 1) := by decide +kernel
theorem dX3_init_44 : decode cX3_init 44 = .ok (.bipush 16, 2) := by decide +kernel
theorem dX3_init_46 : decode cX3_init 46 = .ok (.newarray .int, 2) := by decide +kernel
theorem dX3_init_48 : decode cX3_init 48 = .ok (.putfield 35, 3) := by decide +kernel
theorem dX3_init_51 : decode cX3_init 51 = .ok (.aload_n 0, 1) := by decide +kernel
theorem dX3_init_52 : decode cX3_init 52 = .ok (.bipush 16, 2) := by decide +kernel
theorem dX3_init_54 : decode cX3_init 54 = .ok (.newarray .int, 2) := by decide +kernel
theorem dX3_init_56 : decode cX3_init 56 = .ok (.putfield 38, 3) := by decide +kernel
theorem dX3_init_59 : decode cX3_init 59 = .ok (.aload_n 0, 1) := by decide +kernel
theorem dX3_init_60 : decode cX3_init 60 = .ok (.bipush 16, 2) := by decide +kernel
theorem dX3_init_62 : decode cX3_init 62 = .ok (.newarray .int, 2) := by decide +kernel
theorem dX3_init_64 : decode cX3_init 64 = .ok (.putfield 41, 3) := by decide +kernel
theorem dX3_init_67 : decode cX3_init 67 = .ok (.aload_n 0, 1) := by decide +kernel
theorem dX3_init_68 : decode cX3_init 68 = .ok (.bipush 16, 2) := by decide +kernel
theorem dX3_init_70 : decode cX3_init 70 = .ok (.newarray .int, 2) := by decide +kernel
theorem dX3_init_72 : decode cX3_init 72 = .ok (.putfield 44, 3) := by decide +kernel
theorem dX3_init_75 : decode cX3_init 75 = .ok (.aload_n 0, 1) := by decide +kernel
theorem dX3_init_76 : decode cX3_init 76 = .ok (.iconst (-1), 1) := by decide +kernel
theorem dX3_init_77 : decode cX3_init 77 = .ok (.putfield 47, 3) := by decide +kernel
theorem dX3_init_80 : decode cX3_init 80 = .ok (.aload_n 0, 1) := by decide +kernel
theorem dX3_init_81 : decode cX3_init 81 = .ok (.iconst (-1), 1) := by decide +kernel
theorem dX3_init_82 : decode cX3_init 82 = .ok (.putfield 50, 3) := by decide +kernel
theorem dX3_init_85 : decode cX3_init 85 = .ok (.aload_n 0, 1) := by decide +kernel
theorem dX3_init_86 : decode cX3_init 86 = .ok (.bipush 8, 2) := by decide +kernel
theorem dX3_init_88 : decode cX3_init 88 = .ok (.newarray .int, 2) := by decide +kernel
theorem dX3_init_90 : decode cX3_init 90 = .ok (.putfield 53, 3) := by decide +kernel
theorem dX3_init_93 : decode cX3_init 93 = .ok (.aload_n 0, 1) := by decide +kernel
theorem dX3_init_94 : decode cX3_init 94 = .ok (.bipush 8, 2) := by decide +kernel
theorem dX3_init_96 : decode cX3_init 96 = .ok (.newarray .int, 2) := by decide +kernel
theorem dX3_init_98 : decode cX3_init 98 = .ok (.putfield 56, 3) := by decide +kernel
theorem dX3_init_101 : decode cX3_init 101 = .ok (.aload_n 0, 1) := by decide +kernel
theorem dX3_init_102 : decode cX3_init 102 = .ok (.iconst 0, 1) := by decide +kernel
theorem dX3_init_103 : decode cX3_init 103 = .ok (.putfield 59, 3) := by decide +kernel
theorem dX3_init_106 : decode cX3_init 106 = .ok (.return_, 1) := by decide +kernel
theorem dX5_init_0 : decode cX5_init 0 = .ok (.aload_n 0, 1) := by decide +kernel
theorem dX5_init_1 : decode cX5_init 1 = .ok (.invokespecial 3, 3) := by decide +kernel
theorem dX5_init_4 : decode cX5_init 4 = .ok (.aload_n 0, 1) := by decide +kernel
theorem dX5_init_5 : decode cX5_init 5 = .ok (.bipush 6, 2) := by decide +kernel
theorem dX5_init_7 : decode cX5_init 7 = .ok (.anewarray 9, 3) := by decide +kernel
theorem dX5_init_10 : decode cX5_init 10 = .ok (.putfield 11, 3) := by decide +kernel
theorem dX5_init_13 : decode cX5_init 13 = .ok (.aload_n 0, 1) := by decide +kernel
theorem dX5_init_14 : decode cX5_init 14 = .ok (.iconst 0, 1) := by decide +kernel
theorem dX5_init_15 : decode cX5_init 15 = .ok (.putfield 17, 3) := by decide +kernel
theorem dX5_init_18 : decode cX5_init 18 = .ok (.aload_n 0, 1) := by decide +kernel
theorem dX5_init_19 : decode cX5_init 19 = .ok (.iconst 0, 1) := by decide +kernel
theorem dX5_init_20 : decode cX5_init 20 = .ok (.putfield 21, 3) := by decide +kernel
theorem dX5_init_23 : decode cX5_init 23 = .ok (.aload_n 0, 1) := by decide +kernel
theorem dX5_init_24 : decode cX5_init 24 = .ok (.sipush 512, 3) := by decide +kernel
theorem dX5_init_27 : decode cX5_init 27 = .ok (.newarray .int, 2) := by decide +kernel
theorem dX5_init_29 : decode cX5_init 29 = .ok (.putfield 24, 3) := by decide +kernel
theorem dX5_init_32 : decode cX5_init 32 = .ok (.aload_n 0, 1) := by decide +kernel
theorem dX5_init_33 : decode cX5_init 33 = .ok (.iconst 0, 1) := by decide +kernel
theorem dX5_init_34 : decode cX5_init 34 = .ok (.putfield 28, 3) := by decide +kernel
theorem dX5_init_37 : decode cX5_init 37 = .ok (.aload_n 0, 1) := by decide +kernel
theorem dX5_init_38 : decode cX5_init 38 = .ok (.iconst 0, 1) := by decide +kernel
theorem dX5_init_39 : decode cX5_init 39 = .ok (.putfield 31, 3) := by decide +kernel
theorem dX5_init_42 : decode cX5_init 42 = .ok (.aload_n 0, 1) := by decide +kernel
theorem dX5_init_43 : decode cX5_init 43 = .ok (.iconst 0, 1) := by decide +kernel
theorem dX5_init_44 : decode cX5_init 44 = .ok (.putfield 34, 3) := by decide +kernel
theorem dX5_init_47 : decode cX5_init 47 = .ok (.aload_n 0, 1) := by decide +kernel
theorem dX5_init_48 : decode cX5_init 48 = .ok (.iconst 0, 1) := by decide +kernel
theorem dX5_init_49 : decode cX5_init 49 = .ok (.putfield 37, 3) := by decide +kernel
theorem dX5_init_52 : decode cX5_init 52 = .ok (.iconst 0, 1) := by decide +kernel
theorem dX5_init_53 : decode cX5_init 53 = .ok (.istore_n 1, 1) := by decide +kernel
theorem dX5_init_54 : decode cX5_init 54 = .ok (.iload_n 1, 1) := by decide +kernel
theorem dX5_init_55 : decode cX5_init 55 = .ok (.bipush 6, 2) := by decide +kernel
theorem dX5_init_57 : decode cX5_init 57 = .ok (.if_icmp .ge 22, 3) := by decide +kernel
theorem dX5_init_60 : decode cX5_init 60 = .ok (.aload_n 0, 1) := by decide +kernel
theorem dX5_init_61 : decode cX5_init 61 = .ok (.getfield 11, 3) := by decide +kernel
theorem dX5_init_64 : decode cX5_init 64 = .ok (.iload_n 1, 1) := by decide +kernel
theorem dX5_init_65 : decode cX5_init 65 = .ok (.new 9, 3) := by decide +kernel
theorem dX5_init_68 : decode cX5_init 68 = .ok (.dup, 1) := by decide +kernel
theorem dX5_init_69 : decode cX5_init 69 = .ok (.invokespecial 41, 3) := by decide +kernel
theorem dX5_init_72 : decode cX5_init 72 = .ok (.aastore, 1) := by decide +kernel
theorem dX5_init_73 : decode cX5_init 73 = .ok (.iinc 1 1, 3) := by decide +kernel
theorem dX5_init_76 : decode cX5_init 76 = .ok (.goto (-22), 3) := by decide +kernel
theorem dX5_init_79 : decode cX5_init 79 = .ok (.return_, 1) := by decide +kernel
theorem dX0_init_0 : decode cX0_init 0 = .ok (.aload_n 0, 1) := by decide +kernel
theorem dX0_init_1 : decode cX0_init 1 = .ok (.invokespecial 1, 3) := by decide +kernel
theorem dX0_init_4 : decode cX0_init 4 = .ok (.aload_n 0, 1) := by decide +kernel
theorem dX0_init_5 : decode cX0_init 5 = .ok (.iconst 0, 1) := by decide +kernel
theorem dX0_init_6 : decode cX0_init 6 = .ok (.putfield 7, 3) := by decide +kernel
theorem dX0_init_9 : decode cX0_init 9 = .ok (.iload_n 1, 1) := by decide +kernel
theorem dX0_init_10 : decode cX0_init 10 = .ok (.iconst 1, 1) := by decide +kernel
theorem dX0_init_11 : decode cX0_init 11 = .ok (.invokestatic 13, 3) := by decide +kernel
theorem dX0_init_14 : decode cX0_init 14 = .ok (.istore_n 2, 1) := by decide +kernel
theorem dX0_init_15 : decode cX0_init 15 = .ok (.aload_n 0, 1) := by decide +kernel
theorem dX0_init_16 : decode cX0_init 16 = .ok (.iload_n 2, 1) := by decide +kernel
theorem dX0_init_17 : decode cX0_init 17 = .ok (.newarray .int, 2) := by decide +kernel
theorem dX0_init_19 : decode cX0_init 19 = .ok (.putfield 19, 3) := by decide +kernel
theorem dX0_init_22 : decode cX0_init 22 = .ok (.aload_n 0, 1) := by decide +kernel
theorem dX0_init_23 : decode cX0_init 23 = .ok (.iload_n 2, 1) := by decide +kernel
theorem dX0_init_24 : decode cX0_init 24 = .ok (.newarray .int, 2) := by decide +kernel
theorem dX0_init_26 : decode cX0_init 26 = .ok (.putfield 23, 3) := by decide +kernel
theorem dX0_init_29 : decode cX0_init 29 = .ok (.aload_n 0, 1) := by decide +kernel
theorem dX0_init_30 : decode cX0_init 30 = .ok (.iload_n 2, 1) := by decide +kernel
theorem dX0_init_31 : decode cX0_init 31 = .ok (.newarray .int, 2) := by decide +kernel
theorem dX0_init_33 : decode cX0_init 33 = .ok (.putfield 26, 3) := by decide +kernel
theorem dX0_init_36 : decode cX0_init 36 = .ok (.return_, 1) := by decide +kernel
theorem dX4_init_0 : decode cX4_init 0 = .ok (.aload_n 0, 1) := by decide +kernel
theorem dX4_init_1 : decode cX4_init 1 = .ok (.invokespecial 3, 3) := by decide +kernel
theorem dX4_init_4 : decode cX4_init 4 = .ok (.aload_n 0, 1) := by decide +kernel
theorem dX4_init_5 : decode cX4_init 5 = .ok (.bipush 100, 2) := by decide +kernel
theorem dX4_init_7 : decode cX4_init 7 = .ok (.newarray .int, 2) := by decide +kernel
theorem dX4_init_9 : decode cX4_init 9 = .ok (.putfield 9, 3) := by decide +kernel
theorem dX4_init_12 : decode cX4_init 12 = .ok (.aload_n 0, 1) := by decide +kernel
theorem dX4_init_13 : decode cX4_init 13 = .ok (.iconst 0, 1) := by decide +kernel
theorem dX4_init_14 : decode cX4_init 14 = .ok (.putfield 15, 3) := by decide +kernel
theorem dX4_init_17 : decode cX4_init 17 = .ok (.aload_n 0, 1) := by decide +kernel
theorem dX4_init_18 : decode cX4_init 18 = .ok (.iconst 0, 1) := by decide +kernel
theorem dX4_init_19 : decode cX4_init 19 = .ok (.putfield 19, 3) := by decide +kernel
theorem dX4_init_22 : decode cX4_init 22 = .ok (.aload_n 0, 1) := by decide +kernel
theorem dX4_init_23 : decode cX4_init 23 = .ok (.iconst 0, 1) := by decide +kernel
theorem dX4_init_24 : decode cX4_init 24 = .ok (.putfield 22, 3) := by decide +kernel
theorem dX4_init_27 : decode cX4_init 27 = .ok (.return_, 1) := by decide +kernel
theorem fnew_0 : ∀ j, j < 4 → defaultValue (clty 0 j) = vp_V [.null, .null, .null, .int 0] j := by
  intro j hj
  match j, hj with
  | 0, _ => rfl
  | 1, _ => rfl
  | 2, _ => rfl
  | 3, _ => rfl
  | k + 4, h => omega
theorem fnew_1 : ∀ j, j < 10 → defaultValue (clty 1 j) = vp_V [.null, .null, .null, .null, .null, .null, .int 0, .null, .null, .null] j := by
  intro j hj
  match j, hj with
  | 0, _ => rfl
  | 1, _ => rfl
  | 2, _ => rfl
  | 3, _ => rfl
  | 4, _ => rfl
  | 5, _ => rfl
  | 6, _ => rfl
  | 7, _ => rfl
  | 8, _ => rfl
  | 9, _ => rfl
  | k + 10, h => omega
theorem fnew_2 : ∀ j, j < 4 → defaultValue (clty 2 j) = vp_V [.null, .null, .null, .int 0] j := by
  intro j hj
  match j, hj with
  | 0, _ => rfl
  | 1, _ => rfl
  | 2, _ => rfl
  | 3, _ => rfl
  | k + 4, h => omega
theorem fnew_3 : ∀ j, j < 15 → defaultValue (clty 3 j) = vp_V [.null, .null, .int 0, .int 0, .int 0, .int 0, .null, .null, .null, .null, .int 0, .int 0, .null, .null, .int 0] j := by
  intro j hj
  match j, hj with
  | 0, _ => rfl
  | 1, _ => rfl
  | 2, _ => rfl
  | 3, _ => rfl
  | 4, _ => rfl
  | 5, _ => rfl
  | 6, _ => rfl
  | 7, _ => rfl
  | 8, _ => rfl
  | 9, _ => rfl
  | 10, _ => rfl
  | 11, _ => rfl
  | 12, _ => rfl
  | 13, _ => rfl
  | 14, _ => rfl
  | k + 15, h => omega
theorem fnew_4 : ∀ j, j < 4 → defaultValue (clty 4 j) = vp_V [.null, .int 0, .int 0, .int 0] j := by
  intro j hj
  match j, hj with
  | 0, _ => rfl
  | 1, _ => rfl
  | 2, _ => rfl
  | 3, _ => rfl
  | k + 4, h => omega
theorem fnew_5 : ∀ j, j < 8 → defaultValue (clty 5 j) = vp_V [.null, .int 0, .int 0, .null, .int 0, .int 0, .int 0, .int 0] j := by
  intro j hj
  match j, hj with
  | 0, _ => rfl
  | 1, _ => rfl
  | 2, _ => rfl
  | 3, _ => rfl
  | 4, _ => rfl
  | 5, _ => rfl
  | 6, _ => rfl
  | 7, _ => rfl
  | k + 8, h => omega
theorem fnew_6 : ∀ j, j < 7 → defaultValue (clty 6 j) = vp_V [.null, .null, .null, .null, .null, .null, .int 0] j := by
  intro j hj
  match j, hj with
  | 0, _ => rfl
  | 1, _ => rfl
  | 2, _ => rfl
  | 3, _ => rfl
  | 4, _ => rfl
  | 5, _ => rfl
  | 6, _ => rfl
  | k + 7, h => omega
theorem fnew_7 : ∀ j, j < 67 → defaultValue (clty 7 j) = vp_V [.int 0, .null, .null, .null, .null, .null, .null, .null, .null, .null, .null, .null, .null, .null, .null, .null, .null, .null, .null, .null, .null, .int 0, .int 0, .null, .int 0, .null, .null, .null, .null, .int 0, .int 0, .null, .null, .null, .int 0, .null, .int 0, .int 0, .int 0, .null, .null, .null, .null, .null, .null, .null, .null, .null, .null, .int 0, .int 0, .int 0, .int 0, .null, .null, .null, .null, .null, .null, .null, .int 0, .null, .null, .null, .null, .null, .null] j := by
  intro j hj
  match j, hj with
  | 0, _ => rfl
  | 1, _ => rfl
  | 2, _ => rfl
  | 3, _ => rfl
  | 4, _ => rfl
  | 5, _ => rfl
  | 6, _ => rfl
  | 7, _ => rfl
  | 8, _ => rfl
  | 9, _ => rfl
  | 10, _ => rfl
  | 11, _ => rfl
  | 12, _ => rfl
  | 13, _ => rfl
  | 14, _ => rfl
  | 15, _ => rfl
  | 16, _ => rfl
  | 17, _ => rfl
  | 18, _ => rfl
  | 19, _ => rfl
  | 20, _ => rfl
  | 21, _ => rfl
  | 22, _ => rfl
  | 23, _ => rfl
  | 24, _ => rfl
  | 25, _ => rfl
  | 26, _ => rfl
  | 27, _ => rfl
  | 28, _ => rfl
  | 29, _ => rfl
  | 30, _ => rfl
  | 31, _ => rfl
  | 32, _ => rfl
  | 33, _ => rfl
  | 34, _ => rfl
  | 35, _ => rfl
  | 36, _ => rfl
  | 37, _ => rfl
  | 38, _ => rfl
  | 39, _ => rfl
  | 40, _ => rfl
  | 41, _ => rfl
  | 42, _ => rfl
  | 43, _ => rfl
  | 44, _ => rfl
  | 45, _ => rfl
  | 46, _ => rfl
  | 47, _ => rfl
  | 48, _ => rfl
  | 49, _ => rfl
  | 50, _ => rfl
  | 51, _ => rfl
  | 52, _ => rfl
  | 53, _ => rfl
  | 54, _ => rfl
  | 55, _ => rfl
  | 56, _ => rfl
  | 57, _ => rfl
  | 58, _ => rfl
  | 59, _ => rfl
  | 60, _ => rfl
  | 61, _ => rfl
  | 62, _ => rfl
  | 63, _ => rfl
  | 64, _ => rfl
  | 65, _ => rfl
  | 66, _ => rfl
  | k + 67, h => omega
/-- the class's object behind its constructor -/
def TS (g : GS) (h : Nat) : Prop := ∃ tp nw rl lg : Nat, g.2.1 h 0 = .ref tp ∧ g.2.1 h 1 = .ref nw ∧ g.2.1 h 2 = .ref rl ∧ g.2.1 h 3 = .ref lg ∧ g.1 tp = 5 ∧ g.1 nw = 19 ∧ g.1 rl = 1 ∧ g.1 lg = 9 ∧ g.2.1 tp 1 = .int 0 ∧ g.2.1 nw 1 = .int 0 ∧ g.2.1 rl 3 = .int 0 ∧ g.2.1 lg 3 = .int 0

abbrev md_k_Program : Nat → Nat → Bool := mdf [(13, 0), (13, 1), (13, 2), (13, 3)]
set_option maxHeartbeats 4000000 in
set_option maxRecDepth 100000 in
theorem k_Program (l : Launch) (D : va_G) (cI cZ cS cR : ClassId) (N0 : NT) (g : GS) (hI : Inv g) (h : Nat) (r_h : g.1 h = 13) : Ty l D cI cZ cS cR N0 yX2_init cX2_init 1 none 0 3 24 [.ref h] g (fun v g' => v = none ∧ Inv g' ∧ Exx h g g' ∧ Sm md_k_Program g g' ∧ g'.1 h = 3 ∧ (g'.2.1 h 3 = .int 0)) := by
  refine t_enter (by decide) (Nat.le_of_ble_eq_true rfl) ?_
  intro p e s m args below meth c ls H locs hB hr hin hl hT
  have hx := hB.1
  have hb := hB.2.1
  have hl : lv_has ls 1 [(0, .ref h)] := hl
  replace hE : Ex g g := Ex.rf
  replace hM : Sm md_k_Program g g := Sm.rf
  refine lv_aload_n hx hb dX2_init_0 rfl (lv_at hl 0 rfl) ?_
  refine t_oinit hB k_120 k_78 k_79 hl.1 dX2_init_1 (Nat.le_of_ble_eq_true rfl) (Nat.le_of_ble_eq_true rfl) ?_
  refine lv_aload_n hx hb dX2_init_4 rfl (lv_at hl 0 rfl) ?_
  refine lv_bipush (v := 8) hx hb dX2_init_5 (by decide) ?_
  refine t_newi (N' := 8) hB hT 68 (by decide) k_101 (by decide) (by decide) (by decide) (Nat.le_of_ble_eq_true rfl) (Nat.le_of_ble_eq_true rfl) dX2_init_7 (fun q_1 H o_q_1 hT => ?_)
  have z_q_1 : g.1 q_1 = 0 := hE.z0 o_q_1
  replace hI : Inv (sA g q_1 68 8) := hI.newi o_q_1 (by decide) (fun _ => rfl) trivial (fun _ => trivial)
  replace hM : Sm md_k_Program g (sA g q_1 68 8) := hM.tr hE (Sm.push o_q_1 sA_g)
  replace hE : Ex g (sA g q_1 68 8) := hE.tr (Ex.push o_q_1 sA_g)
  have r_2 : (sA g q_1 68 8).1 h = 13 := ((sA_g h (ne0 r_h o_q_1 (by decide))).1.trans r_h)
  have r_3 : (sA g q_1 68 8).1 q_1 = 68 := sA_r
  have n_4 : (sA g q_1 68 8).2.2.1 q_1 = 8 := sA_n
  generalize (sA g q_1 68 8) = g_5 at hT hI hM hE r_2 r_3 n_4
  refine W.widen (k := 1) (n := 8) (Nat.le_of_ble_eq_true rfl) (Nat.le_of_ble_eq_true rfl) ?_
  refine t_put0 (ci := 2) (v := .ref q_1) hB hT (ro_ci r_2 rfl) (ro_n0 r_2 (by decide)) rfl 0 (by decide) k_121 (Or.inr ⟨hin, rfl⟩) rfl rfl dX2_init_9 (fun H locs hT => ?_)
  replace hI : Inv (sF g_5 h 0 (.ref q_1)) := hI.sF (fk r_2 (show fsm _ _ ft from trivial))
  replace hM : Sm md_k_Program g (sF g_5 h 0 (.ref q_1)) := hM.tr hE (Sm_sF (by rw [r_2]; rfl))
  replace hE : Ex g (sF g_5 h 0 (.ref q_1)) := hE
  refine lv_aload_n hx hb dX2_init_12 rfl (lv_at hl 0 rfl) ?_
  refine lv_bipush (v := 8) hx hb dX2_init_13 (by decide) ?_
  refine t_newi (N' := 8) hB hT 69 (by decide) k_101 (by decide) (by decide) (by decide) (Nat.le_of_ble_eq_true rfl) (Nat.le_of_ble_eq_true rfl) dX2_init_15 (fun q_6 H o_q_6 hT => ?_)
  have z_q_6 : g.1 q_6 = 0 := hE.z0 o_q_6
  replace hI : Inv (sA (sF g_5 h 0 (.ref q_1)) q_6 69 8) := hI.newi o_q_6 (by decide) (fun _ => rfl) ⟨by decide, by decide⟩ (fun _ => trivial)
  replace hM : Sm md_k_Program g (sA (sF g_5 h 0 (.ref q_1)) q_6 69 8) := hM.tr hE (Sm.push o_q_6 sA_g)
  replace hE : Ex g (sA (sF g_5 h 0 (.ref q_1)) q_6 69 8) := hE.tr (Ex.push o_q_6 sA_g)
  have r_7 : (sA (sF g_5 h 0 (.ref q_1)) q_6 69 8).1 h = 13 := ((sA_g h (ne0 r_2 o_q_6 (by decide))).1.trans r_2)
  have r_8 : (sA (sF g_5 h 0 (.ref q_1)) q_6 69 8).1 q_1 = 68 := ((sA_g q_1 (ne0 r_3 o_q_6 (by decide))).1.trans r_3)
  have r_9 : (sA (sF g_5 h 0 (.ref q_1)) q_6 69 8).1 q_6 = 69 := sA_r
  have n_10 : (sA (sF g_5 h 0 (.ref q_1)) q_6 69 8).2.2.1 q_1 = 8 := ((sA_g q_1 (ne0 r_3 o_q_6 (by decide))).2.2.1.trans n_4)
  have n_11 : (sA (sF g_5 h 0 (.ref q_1)) q_6 69 8).2.2.1 q_6 = 8 := sA_n
  have kn_12 : (sA (sF g_5 h 0 (.ref q_1)) q_6 69 8).2.1 h 0 = .ref q_1 := ((congrFun (sA_g h (ne0 r_2 o_q_6 (by decide))).2.1 0).trans sF_eq)
  generalize (sA (sF g_5 h 0 (.ref q_1)) q_6 69 8) = g_13 at hT hI hM hE r_7 r_8 r_9 n_10 n_11 kn_12
  clear n_4 r_2 r_3
  refine W.widen (k := 2) (n := 16) (Nat.le_of_ble_eq_true rfl) (Nat.le_of_ble_eq_true rfl) ?_
  refine t_put0 (ci := 2) (v := .ref q_6) hB hT (ro_ci r_7 rfl) (ro_n0 r_7 (by decide)) rfl 1 (by decide) k_125 (Or.inr ⟨hin, rfl⟩) rfl rfl dX2_init_17 (fun H locs hT => ?_)
  replace hI : Inv (sF g_13 h 1 (.ref q_6)) := hI.sF (fk r_7 (show fsm _ _ ft from trivial))
  replace hM : Sm md_k_Program g (sF g_13 h 1 (.ref q_6)) := hM.tr hE (Sm_sF (by rw [r_7]; rfl))
  replace hE : Ex g (sF g_13 h 1 (.ref q_6)) := hE
  refine lv_aload_n hx hb dX2_init_20 rfl (lv_at hl 0 rfl) ?_
  refine lv_bipush (v := 8) hx hb dX2_init_21 (by decide) ?_
  refine t_newi (N' := 8) hB hT 70 (by decide) k_101 (by decide) (by decide) (by decide) (Nat.le_of_ble_eq_true rfl) (Nat.le_of_ble_eq_true rfl) dX2_init_23 (fun q_14 H o_q_14 hT => ?_)
  have z_q_14 : g.1 q_14 = 0 := hE.z0 o_q_14
  replace hI : Inv (sA (sF g_13 h 1 (.ref q_6)) q_14 70 8) := hI.newi o_q_14 (by decide) (fun _ => rfl) trivial (fun _ => trivial)
  replace hM : Sm md_k_Program g (sA (sF g_13 h 1 (.ref q_6)) q_14 70 8) := hM.tr hE (Sm.push o_q_14 sA_g)
  replace hE : Ex g (sA (sF g_13 h 1 (.ref q_6)) q_14 70 8) := hE.tr (Ex.push o_q_14 sA_g)
  have r_15 : (sA (sF g_13 h 1 (.ref q_6)) q_14 70 8).1 h = 13 := ((sA_g h (ne0 r_7 o_q_14 (by decide))).1.trans r_7)
  have r_16 : (sA (sF g_13 h 1 (.ref q_6)) q_14 70 8).1 q_1 = 68 := ((sA_g q_1 (ne0 r_8 o_q_14 (by decide))).1.trans r_8)
  have r_17 : (sA (sF g_13 h 1 (.ref q_6)) q_14 70 8).1 q_6 = 69 := ((sA_g q_6 (ne0 r_9 o_q_14 (by decide))).1.trans r_9)
  have r_18 : (sA (sF g_13 h 1 (.ref q_6)) q_14 70 8).1 q_14 = 70 := sA_r
  have n_19 : (sA (sF g_13 h 1 (.ref q_6)) q_14 70 8).2.2.1 q_1 = 8 := ((sA_g q_1 (ne0 r_8 o_q_14 (by decide))).2.2.1.trans n_10)
  have n_20 : (sA (sF g_13 h 1 (.ref q_6)) q_14 70 8).2.2.1 q_6 = 8 := ((sA_g q_6 (ne0 r_9 o_q_14 (by decide))).2.2.1.trans n_11)
  have n_21 : (sA (sF g_13 h 1 (.ref q_6)) q_14 70 8).2.2.1 q_14 = 8 := sA_n
  have kn_22 : (sA (sF g_13 h 1 (.ref q_6)) q_14 70 8).2.1 h 0 = .ref q_1 := ((congrFun (sA_g h (ne0 r_7 o_q_14 (by decide))).2.1 0).trans (sF_k kn_12 (by decide)))
  have kn_23 : (sA (sF g_13 h 1 (.ref q_6)) q_14 70 8).2.1 h 1 = .ref q_6 := ((congrFun (sA_g h (ne0 r_7 o_q_14 (by decide))).2.1 1).trans sF_eq)
  generalize (sA (sF g_13 h 1 (.ref q_6)) q_14 70 8) = g_24 at hT hI hM hE r_15 r_16 r_17 r_18 n_19 n_20 n_21 kn_22 kn_23
  clear kn_12 n_10 n_11 r_7 r_8 r_9
  refine W.widen (k := 3) (n := 24) (Nat.le_of_ble_eq_true rfl) (Nat.le_of_ble_eq_true rfl) ?_
  refine t_put0 (ci := 2) (v := .ref q_14) hB hT (ro_ci r_15 rfl) (ro_n0 r_15 (by decide)) rfl 2 (by decide) k_129 (Or.inr ⟨hin, rfl⟩) rfl rfl dX2_init_25 (fun H locs hT => ?_)
  replace hI : Inv (sF g_24 h 2 (.ref q_14)) := hI.sF (fk r_15 (show fsm _ _ ft from trivial))
  replace hM : Sm md_k_Program g (sF g_24 h 2 (.ref q_14)) := hM.tr hE (Sm_sF (by rw [r_15]; rfl))
  replace hE : Ex g (sF g_24 h 2 (.ref q_14)) := hE
  refine lv_aload_n hx hb dX2_init_28 rfl (lv_at hl 0 rfl) ?_
  refine lv_iconst (v := 0) hx hb dX2_init_29 (by decide) ?_
  refine t_put0 (ci := 2) (v := .int 0) hB hT (ro_ci r_15 rfl) (ro_n0 r_15 (by decide)) rfl 3 (by decide) k_131 (Or.inl rfl) rfl rfl dX2_init_30 (fun H locs hT => ?_)
  replace hI : Inv (sF (sF g_24 h 2 (.ref q_14)) h 3 (.int 0)) := hI.sF (fk r_15 (show fsm _ _ ft from trivial))
  replace hM : Sm md_k_Program g (sF (sF g_24 h 2 (.ref q_14)) h 3 (.int 0)) := hM.tr hE (Sm_sF (by rw [r_15]; rfl))
  replace hE : Ex g (sF (sF g_24 h 2 (.ref q_14)) h 3 (.int 0)) := hE
  have hF : ∀ k, Fok (sR (sF (sF g_24 h 2 (.ref q_14)) h 3 (.int 0)) h 3) 3 k ((sF (sF g_24 h 2 (.ref q_14)) h 3 (.int 0)).2.1 h k) := fun k => match k with
    | 0 => (by rw [(sF_k (sF_k kn_22 (by decide)) (by decide))]; exact q_3_0 ⟨_, rfl, sR_r r_16 (ro_ne r_16 r_15 (by decide)), n_19⟩)
    | 1 => (by rw [(sF_k (sF_k kn_23 (by decide)) (by decide))]; exact q_3_1 ⟨_, rfl, sR_r r_17 (ro_ne r_17 r_15 (by decide)), n_20⟩)
    | 2 => (by rw [(sF_k sF_eq (by decide))]; exact q_3_2 ⟨_, rfl, sR_r r_18 (ro_ne r_18 r_15 (by decide)), n_21⟩)
    | 3 => (by rw [sF_eq]; exact q_3_3 ⟨_, rfl, by decide, by decide⟩)
    | k + 4 => (show fsm _ _ ft from trivial)
  have hT : Tv D cI cZ cS cR N0 s.heap H locs (sR (sF (sF g_24 h 2 (.ref q_14)) h 3 (.int 0)) h 3) := ⟨hT.1.promo (by rw [r_15]; decide) (by rw [r_15]; rfl) (Or.inl (by decide)), hT.2⟩
  replace hI : Inv (sR (sF (sF g_24 h 2 (.ref q_14)) h 3 (.int 0)) h 3) := hI.promo (by rw [r_15]; decide) hF (fun _ _ => trivial) (fun _ _ => trivial)
  replace hM : Sm md_k_Program g (sR (sF (sF g_24 h 2 (.ref q_14)) h 3 (.int 0)) h 3) := hM
  have hX : Exx h g (sR (sF (sF g_24 h 2 (.ref q_14)) h 3 (.int 0)) h 3) := Exx.promo hE
  exact t_vret hB hr hT (Nat.le_of_ble_eq_true rfl) (Nat.le_of_ble_eq_true rfl) dX2_init_33 ⟨rfl, hI, hX, hM, if_pos rfl, sF_eq⟩
abbrev md_s_Service : Nat → Nat → Bool := mdf [(13, 0), (13, 1), (13, 2), (13, 3), (14, 0), (14, 1), (14, 2), (14, 3), (14, 4), (14, 5), (14, 6), (14, 7), (14, 8), (14, 9), (14, 10), (14, 11), (14, 12), (14, 13), (14, 14)]
theorem mdle_s_Service_k_Program {r k : Nat} (h : md_s_Service r k = false) : md_k_Program r k = false := mdf_le (by decide +kernel) h
set_option maxHeartbeats 4000000 in
set_option maxRecDepth 100000 in
theorem s_Service (l : Launch) (D : va_G) (cI cZ cS cR : ClassId) (N0 : NT) (g : GS) (hI : Inv g) (h : Nat) (r_h : g.1 h = 14) : Ty l D cI cZ cS cR N0 yX3_init cX3_init 1 none 1 11 112 [.ref h] g (fun v g' => v = none ∧ Inv g' ∧ Exx h g g' ∧ Sm md_s_Service g g' ∧ g'.1 h = 4) := by
  refine t_enter (by decide) (Nat.le_of_ble_eq_true rfl) ?_
  intro p e s m args below meth c ls H locs hB hr hin hl hT
  have hx := hB.1
  have hb := hB.2.1
  have hl : lv_has ls 1 [(0, .ref h)] := hl
  replace hE : Ex g g := Ex.rf
  replace hM : Sm md_s_Service g g := Sm.rf
  refine lv_aload_n hx hb dX3_init_0 rfl (lv_at hl 0 rfl) ?_
  refine t_oinit hB k_114 k_78 k_79 hl.1 dX3_init_1 (Nat.le_of_ble_eq_true rfl) (Nat.le_of_ble_eq_true rfl) ?_
  refine lv_aload_n hx hb dX3_init_4 rfl (lv_at hl 0 rfl) ?_
  refine t_new (ci := 2) (fs := [.null, .null, .null, .int 0]) hB hT rfl (by decide) k_115 k_116 k_61 (fnew_2) (Nat.le_of_ble_eq_true rfl) (Nat.le_of_ble_eq_true rfl) dX3_init_5 (fun q_1 H o_q_1 hT => ?_)
  have z_q_1 : g.1 q_1 = 0 := hE.z0 o_q_1
  replace hI : Inv (sN g q_1 13 (vp_V [.null, .null, .null, .int 0])) := hI.newo o_q_1 (fun _ => rfl) (fun _ => trivial) (fun _ _ => trivial)
  replace hM : Sm md_s_Service g (sN g q_1 13 (vp_V [.null, .null, .null, .int 0])) := hM.tr hE (Sm.push o_q_1 sN_g)
  replace hE : Ex g (sN g q_1 13 (vp_V [.null, .null, .null, .int 0])) := hE.tr (Ex.push o_q_1 sN_g)
  have r_2 : (sN g q_1 13 (vp_V [.null, .null, .null, .int 0])).1 h = 14 := ((sN_g h (ne0 r_h o_q_1 (by decide))).1.trans r_h)
  have r_3 : (sN g q_1 13 (vp_V [.null, .null, .null, .int 0])).1 q_1 = 13 := sN_r
  have kn_4 : (sN g q_1 13 (vp_V [.null, .null, .null, .int 0])).2.1 q_1 0 = .null := sN_f
  have kn_5 : (sN g q_1 13 (vp_V [.null, .null, .null, .int 0])).2.1 q_1 1 = .null := sN_f
  have kn_6 : (sN g q_1 13 (vp_V [.null, .null, .null, .int 0])).2.1 q_1 2 = .null := sN_f
  have kn_7 : (sN g q_1 13 (vp_V [.null, .null, .null, .int 0])).2.1 q_1 3 = .int 0 := sN_f
  generalize (sN g q_1 13 (vp_V [.null, .null, .null, .int 0])) = g_8 at hT hI hM hE r_2 r_3 kn_4 kn_5 kn_6 kn_7
  refine W.widen (k := 1) (n := 4) (Nat.le_of_ble_eq_true rfl) (Nat.le_of_ble_eq_true rfl) ?_
  refine lv_dup hx hb dX3_init_8 rfl ?_
  refine t_callIN (n := 0) (As := []) (rest := [.ref q_1, .ref h]) hB hT hl.1 (k_Program l D cI cZ cS cR N0 g_8 hI q_1 r_3) k_119 k_61 hB.2.2.2.2.2.2.2.1.2.2.1 k_118 rfl (by decide +kernel) ⟨(Nat.le_of_ble_eq_true rfl), (Nat.le_of_ble_eq_true rfl)⟩ rfl (Nat.le_of_ble_eq_true rfl) ⟨(Nat.le_of_ble_eq_true rfl), (Nat.le_of_ble_eq_true rfl)⟩ dX3_init_9 (fun v g_9 H locs hp hT => ?_)
  obtain ⟨rfl, hI, x_12, m_11, r_13, f_10⟩ := hp
  replace hM : Sm md_s_Service g g_9 := hM.tr hE (m_11.mo (fun r k h => mdle_s_Service_k_Program h))
  replace hE : Ex g g_9 := hE.trx z_q_1 x_12
  have r_14 : g_9.1 h = 14 := (Exx.r x_12 r_2 (by decide) (ro_ne r_2 r_3 (by decide)))
  have r_15 : g_9.1 q_1 = 3 := r_13
  refine W.eq (g2 := F0 m 12 ls [.ref q_1, .ref h]) rfl ?_
  refine t_put0 (ci := 3) (v := .ref q_1) hB hT (ro_ci r_14 rfl) (ro_n0 r_14 (by decide)) rfl 0 (by decide) k_143 (Or.inl rfl) rfl rfl dX3_init_12 (fun H locs hT => ?_)
  replace hI : Inv (sF g_9 h 0 (.ref q_1)) := hI.sF (fk r_14 (show fsm _ _ ft from trivial))
  replace hM : Sm md_s_Service g (sF g_9 h 0 (.ref q_1)) := hM.tr hE (Sm_sF (by rw [r_14]; rfl))
  replace hE : Ex g (sF g_9 h 0 (.ref q_1)) := hE
  refine lv_aload_n hx hb dX3_init_15 rfl (lv_at hl 0 rfl) ?_
  refine lv_iconst (v := 4) hx hb dX3_init_16 (by decide) ?_
  refine t_newi (N' := 4) hB hT 50 (by decide) k_101 (by decide) (by decide) (by decide) (Nat.le_of_ble_eq_true rfl) (Nat.le_of_ble_eq_true rfl) dX3_init_17 (fun q_16 H o_q_16 hT => ?_)
  have z_q_16 : g.1 q_16 = 0 := hE.z0 o_q_16
  replace hI : Inv (sA (sF g_9 h 0 (.ref q_1)) q_16 50 4) := hI.newi o_q_16 (by decide) (fun _ => rfl) trivial (fun _ => trivial)
  replace hM : Sm md_s_Service g (sA (sF g_9 h 0 (.ref q_1)) q_16 50 4) := hM.tr hE (Sm.push o_q_16 sA_g)
  replace hE : Ex g (sA (sF g_9 h 0 (.ref q_1)) q_16 50 4) := hE.tr (Ex.push o_q_16 sA_g)
  have r_17 : (sA (sF g_9 h 0 (.ref q_1)) q_16 50 4).1 h = 14 := ((sA_g h (ne0 r_14 o_q_16 (by decide))).1.trans r_14)
  have r_18 : (sA (sF g_9 h 0 (.ref q_1)) q_16 50 4).1 q_1 = 3 := ((sA_g q_1 (ne0 r_15 o_q_16 (by decide))).1.trans r_15)
  have r_19 : (sA (sF g_9 h 0 (.ref q_1)) q_16 50 4).1 q_16 = 50 := sA_r
  have n_20 : (sA (sF g_9 h 0 (.ref q_1)) q_16 50 4).2.2.1 q_16 = 4 := sA_n
  have kn_21 : (sA (sF g_9 h 0 (.ref q_1)) q_16 50 4).2.1 q_1 3 = .int 0 := ((congrFun (sA_g q_1 (ne0 r_15 o_q_16 (by decide))).2.1 3).trans (sF_k f_10 (by decide)))
  have kn_22 : (sA (sF g_9 h 0 (.ref q_1)) q_16 50 4).2.1 h 0 = .ref q_1 := ((congrFun (sA_g h (ne0 r_14 o_q_16 (by decide))).2.1 0).trans sF_eq)
  generalize (sA (sF g_9 h 0 (.ref q_1)) q_16 50 4) = g_23 at hT hI hM hE r_17 r_18 r_19 n_20 kn_21 kn_22
  clear r_14 r_15
  refine W.widen (k := 5) (n := 32) (Nat.le_of_ble_eq_true rfl) (Nat.le_of_ble_eq_true rfl) ?_
  refine t_put0 (ci := 3) (v := .ref q_16) hB hT (ro_ci r_17 rfl) (ro_n0 r_17 (by decide)) rfl 1 (by decide) k_146 (Or.inr ⟨hin, rfl⟩) rfl rfl dX3_init_19 (fun H locs hT => ?_)
  replace hI : Inv (sF g_23 h 1 (.ref q_16)) := hI.sF (fk r_17 (show fsm _ _ ft from trivial))
  replace hM : Sm md_s_Service g (sF g_23 h 1 (.ref q_16)) := hM.tr hE (Sm_sF (by rw [r_17]; rfl))
  replace hE : Ex g (sF g_23 h 1 (.ref q_16)) := hE
  refine lv_aload_n hx hb dX3_init_22 rfl (lv_at hl 0 rfl) ?_
  refine lv_iconst (v := 0) hx hb dX3_init_23 (by decide) ?_
  refine t_put0 (ci := 3) (v := .int 0) hB hT (ro_ci r_17 rfl) (ro_n0 r_17 (by decide)) rfl 2 (by decide) k_149 (Or.inl rfl) rfl rfl dX3_init_24 (fun H locs hT => ?_)
  replace hI : Inv (sF (sF g_23 h 1 (.ref q_16)) h 2 (.int 0)) := hI.sF (fk r_17 (show fsm _ _ ft from trivial))
  replace hM : Sm md_s_Service g (sF (sF g_23 h 1 (.ref q_16)) h 2 (.int 0)) := hM.tr hE (Sm_sF (by rw [r_17]; rfl))
  replace hE : Ex g (sF (sF g_23 h 1 (.ref q_16)) h 2 (.int 0)) := hE
  refine lv_aload_n hx hb dX3_init_27 rfl (lv_at hl 0 rfl) ?_
  refine lv_iconst (v := 0) hx hb dX3_init_28 (by decide) ?_
  refine t_put0 (ci := 3) (v := .int 0) hB hT (ro_ci r_17 rfl) (ro_n0 r_17 (by decide)) rfl 3 (by decide) k_152 (Or.inl rfl) rfl rfl dX3_init_29 (fun H locs hT => ?_)
  replace hI : Inv (sF (sF (sF g_23 h 1 (.ref q_16)) h 2 (.int 0)) h 3 (.int 0)) := hI.sF (fk r_17 (show fsm _ _ ft from trivial))
  replace hM : Sm md_s_Service g (sF (sF (sF g_23 h 1 (.ref q_16)) h 2 (.int 0)) h 3 (.int 0)) := hM.tr hE (Sm_sF (by rw [r_17]; rfl))
  replace hE : Ex g (sF (sF (sF g_23 h 1 (.ref q_16)) h 2 (.int 0)) h 3 (.int 0)) := hE
  refine lv_aload_n hx hb dX3_init_32 rfl (lv_at hl 0 rfl) ?_
  refine lv_bipush (v := 10) hx hb dX3_init_33 (by decide) ?_
  refine t_put0 (ci := 3) (v := .int 10) hB hT (ro_ci r_17 rfl) (ro_n0 r_17 (by decide)) rfl 4 (by decide) k_155 (Or.inl rfl) rfl rfl dX3_init_35 (fun H locs hT => ?_)
  replace hI : Inv (sF (sF (sF (sF g_23 h 1 (.ref q_16)) h 2 (.int 0)) h 3 (.int 0)) h 4 (.int 10)) := hI.sF (fk r_17 (show fsm _ _ ft from trivial))
  replace hM : Sm md_s_Service g (sF (sF (sF (sF g_23 h 1 (.ref q_16)) h 2 (.int 0)) h 3 (.int 0)) h 4 (.int 10)) := hM.tr hE (Sm_sF (by rw [r_17]; rfl))
  replace hE : Ex g (sF (sF (sF (sF g_23 h 1 (.ref q_16)) h 2 (.int 0)) h 3 (.int 0)) h 4 (.int 10)) := hE
  refine lv_aload_n hx hb dX3_init_38 rfl (lv_at hl 0 rfl) ?_
  refine lv_iconst (v := 0) hx hb dX3_init_39 (by decide) ?_
  refine t_put0 (ci := 3) (v := .int 0) hB hT (ro_ci r_17 rfl) (ro_n0 r_17 (by decide)) rfl 5 (by decide) k_158 (Or.inl rfl) rfl rfl dX3_init_40 (fun H locs hT => ?_)
  replace hI : Inv (sF (sF (sF (sF (sF g_23 h 1 (.ref q_16)) h 2 (.int 0)) h 3 (.int 0)) h 4 (.int 10)) h 5 (.int 0)) := hI.sF (fk r_17 (show fsm _ _ ft from trivial))
  replace hM : Sm md_s_Service g (sF (sF (sF (sF (sF g_23 h 1 (.ref q_16)) h 2 (.int 0)) h 3 (.int 0)) h 4 (.int 10)) h 5 (.int 0)) := hM.tr hE (Sm_sF (by rw [r_17]; rfl))
  replace hE : Ex g (sF (sF (sF (sF (sF g_23 h 1 (.ref q_16)) h 2 (.int 0)) h 3 (.int 0)) h 4 (.int 10)) h 5 (.int 0)) := hE
  refine lv_aload_n hx hb dX3_init_43 rfl (lv_at hl 0 rfl) ?_
  refine lv_bipush (v := 16) hx hb dX3_init_44 (by decide) ?_
  refine t_newi (N' := 16) hB hT 50 (by decide) k_101 (by decide) (by decide) (by decide) (Nat.le_of_ble_eq_true rfl) (Nat.le_of_ble_eq_true rfl) dX3_init_46 (fun q_24 H o_q_24 hT => ?_)
  have z_q_24 : g.1 q_24 = 0 := hE.z0 o_q_24
  replace hI : Inv (sA (sF (sF (sF (sF (sF g_23 h 1 (.ref q_16)) h 2 (.int 0)) h 3 (.int 0)) h 4 (.int 10)) h 5 (.int 0)) q_24 50 16) := hI.newi o_q_24 (by decide) (fun _ => rfl) trivial (fun _ => trivial)
  replace hM : Sm md_s_Service g (sA (sF (sF (sF (sF (sF g_23 h 1 (.ref q_16)) h 2 (.int 0)) h 3 (.int 0)) h 4 (.int 10)) h 5 (.int 0)) q_24 50 16) := hM.tr hE (Sm.push o_q_24 sA_g)
  replace hE : Ex g (sA (sF (sF (sF (sF (sF g_23 h 1 (.ref q_16)) h 2 (.int 0)) h 3 (.int 0)) h 4 (.int 10)) h 5 (.int 0)) q_24 50 16) := hE.tr (Ex.push o_q_24 sA_g)
  have r_25 : (sA (sF (sF (sF (sF (sF g_23 h 1 (.ref q_16)) h 2 (.int 0)) h 3 (.int 0)) h 4 (.int 10)) h 5 (.int 0)) q_24 50 16).1 h = 14 := ((sA_g h (ne0 r_17 o_q_24 (by decide))).1.trans r_17)
  have r_26 : (sA (sF (sF (sF (sF (sF g_23 h 1 (.ref q_16)) h 2 (.int 0)) h 3 (.int 0)) h 4 (.int 10)) h 5 (.int 0)) q_24 50 16).1 q_1 = 3 := ((sA_g q_1 (ne0 r_18 o_q_24 (by decide))).1.trans r_18)
  have r_27 : (sA (sF (sF (sF (sF (sF g_23 h 1 (.ref q_16)) h 2 (.int 0)) h 3 (.int 0)) h 4 (.int 10)) h 5 (.int 0)) q_24 50 16).1 q_16 = 50 := ((sA_g q_16 (ne0 r_19 o_q_24 (by decide))).1.trans r_19)
  have r_28 : (sA (sF (sF (sF (sF (sF g_23 h 1 (.ref q_16)) h 2 (.int 0)) h 3 (.int 0)) h 4 (.int 10)) h 5 (.int 0)) q_24 50 16).1 q_24 = 50 := sA_r
  have n_29 : (sA (sF (sF (sF (sF (sF g_23 h 1 (.ref q_16)) h 2 (.int 0)) h 3 (.int 0)) h 4 (.int 10)) h 5 (.int 0)) q_24 50 16).2.2.1 q_16 = 4 := ((sA_g q_16 (ne0 r_19 o_q_24 (by decide))).2.2.1.trans n_20)
  have n_30 : (sA (sF (sF (sF (sF (sF g_23 h 1 (.ref q_16)) h 2 (.int 0)) h 3 (.int 0)) h 4 (.int 10)) h 5 (.int 0)) q_24 50 16).2.2.1 q_24 = 16 := sA_n
  have kn_31 : (sA (sF (sF (sF (sF (sF g_23 h 1 (.ref q_16)) h 2 (.int 0)) h 3 (.int 0)) h 4 (.int 10)) h 5 (.int 0)) q_24 50 16).2.1 q_1 3 = .int 0 := ((congrFun (sA_g q_1 (ne0 r_18 o_q_24 (by decide))).2.1 3).trans (sF_k (sF_k (sF_a (sF_k (sF_k kn_21 (by decide)) (by decide)) (ro_ne r_18 r_17 (by decide))) (by decide)) (by decide)))
  have kn_32 : (sA (sF (sF (sF (sF (sF g_23 h 1 (.ref q_16)) h 2 (.int 0)) h 3 (.int 0)) h 4 (.int 10)) h 5 (.int 0)) q_24 50 16).2.1 h 0 = .ref q_1 := ((congrFun (sA_g h (ne0 r_17 o_q_24 (by decide))).2.1 0).trans (sF_k (sF_k (sF_k (sF_k (sF_k kn_22 (by decide)) (by decide)) (by decide)) (by decide)) (by decide)))
  have kn_33 : (sA (sF (sF (sF (sF (sF g_23 h 1 (.ref q_16)) h 2 (.int 0)) h 3 (.int 0)) h 4 (.int 10)) h 5 (.int 0)) q_24 50 16).2.1 h 1 = .ref q_16 := ((congrFun (sA_g h (ne0 r_17 o_q_24 (by decide))).2.1 1).trans (sF_k (sF_k (sF_k (sF_k sF_eq (by decide)) (by decide)) (by decide)) (by decide)))
  have kn_34 : (sA (sF (sF (sF (sF (sF g_23 h 1 (.ref q_16)) h 2 (.int 0)) h 3 (.int 0)) h 4 (.int 10)) h 5 (.int 0)) q_24 50 16).2.1 h 2 = .int 0 := ((congrFun (sA_g h (ne0 r_17 o_q_24 (by decide))).2.1 2).trans (sF_k (sF_k (sF_k sF_eq (by decide)) (by decide)) (by decide)))
  have kn_35 : (sA (sF (sF (sF (sF (sF g_23 h 1 (.ref q_16)) h 2 (.int 0)) h 3 (.int 0)) h 4 (.int 10)) h 5 (.int 0)) q_24 50 16).2.1 h 3 = .int 0 := ((congrFun (sA_g h (ne0 r_17 o_q_24 (by decide))).2.1 3).trans (sF_k (sF_k sF_eq (by decide)) (by decide)))
  have kn_36 : (sA (sF (sF (sF (sF (sF g_23 h 1 (.ref q_16)) h 2 (.int 0)) h 3 (.int 0)) h 4 (.int 10)) h 5 (.int 0)) q_24 50 16).2.1 h 4 = .int 10 := ((congrFun (sA_g h (ne0 r_17 o_q_24 (by decide))).2.1 4).trans (sF_k sF_eq (by decide)))
  have kn_37 : (sA (sF (sF (sF (sF (sF g_23 h 1 (.ref q_16)) h 2 (.int 0)) h 3 (.int 0)) h 4 (.int 10)) h 5 (.int 0)) q_24 50 16).2.1 h 5 = .int 0 := ((congrFun (sA_g h (ne0 r_17 o_q_24 (by decide))).2.1 5).trans sF_eq)
  generalize (sA (sF (sF (sF (sF (sF g_23 h 1 (.ref q_16)) h 2 (.int 0)) h 3 (.int 0)) h 4 (.int 10)) h 5 (.int 0)) q_24 50 16) = g_38 at hT hI hM hE r_25 r_26 r_27 r_28 n_29 n_30 kn_31 kn_32 kn_33 kn_34 kn_35 kn_36 kn_37
  clear kn_21 kn_22 n_20 r_17 r_18 r_19
  refine W.widen (k := 6) (n := 48) (Nat.le_of_ble_eq_true rfl) (Nat.le_of_ble_eq_true rfl) ?_
  refine t_put0 (ci := 3) (v := .ref q_24) hB hT (ro_ci r_25 rfl) (ro_n0 r_25 (by decide)) rfl 6 (by decide) k_159 (Or.inr ⟨hin, rfl⟩) rfl rfl dX3_init_48 (fun H locs hT => ?_)
  replace hI : Inv (sF g_38 h 6 (.ref q_24)) := hI.sF (fk r_25 (show fsm _ _ ft from trivial))
  replace hM : Sm md_s_Service g (sF g_38 h 6 (.ref q_24)) := hM.tr hE (Sm_sF (by rw [r_25]; rfl))
  replace hE : Ex g (sF g_38 h 6 (.ref q_24)) := hE
  refine lv_aload_n hx hb dX3_init_51 rfl (lv_at hl 0 rfl) ?_
  refine lv_bipush (v := 16) hx hb dX3_init_52 (by decide) ?_
  refine t_newi (N' := 16) hB hT 50 (by decide) k_101 (by decide) (by decide) (by decide) (Nat.le_of_ble_eq_true rfl) (Nat.le_of_ble_eq_true rfl) dX3_init_54 (fun q_39 H o_q_39 hT => ?_)
  have z_q_39 : g.1 q_39 = 0 := hE.z0 o_q_39
  replace hI : Inv (sA (sF g_38 h 6 (.ref q_24)) q_39 50 16) := hI.newi o_q_39 (by decide) (fun _ => rfl) trivial (fun _ => trivial)
  replace hM : Sm md_s_Service g (sA (sF g_38 h 6 (.ref q_24)) q_39 50 16) := hM.tr hE (Sm.push o_q_39 sA_g)
  replace hE : Ex g (sA (sF g_38 h 6 (.ref q_24)) q_39 50 16) := hE.tr (Ex.push o_q_39 sA_g)
  have r_40 : (sA (sF g_38 h 6 (.ref q_24)) q_39 50 16).1 h = 14 := ((sA_g h (ne0 r_25 o_q_39 (by decide))).1.trans r_25)
  have r_41 : (sA (sF g_38 h 6 (.ref q_24)) q_39 50 16).1 q_1 = 3 := ((sA_g q_1 (ne0 r_26 o_q_39 (by decide))).1.trans r_26)
  have r_42 : (sA (sF g_38 h 6 (.ref q_24)) q_39 50 16).1 q_16 = 50 := ((sA_g q_16 (ne0 r_27 o_q_39 (by decide))).1.trans r_27)
  have r_43 : (sA (sF g_38 h 6 (.ref q_24)) q_39 50 16).1 q_24 = 50 := ((sA_g q_24 (ne0 r_28 o_q_39 (by decide))).1.trans r_28)
  have r_44 : (sA (sF g_38 h 6 (.ref q_24)) q_39 50 16).1 q_39 = 50 := sA_r
  have n_45 : (sA (sF g_38 h 6 (.ref q_24)) q_39 50 16).2.2.1 q_16 = 4 := ((sA_g q_16 (ne0 r_27 o_q_39 (by decide))).2.2.1.trans n_29)
  have n_46 : (sA (sF g_38 h 6 (.ref q_24)) q_39 50 16).2.2.1 q_24 = 16 := ((sA_g q_24 (ne0 r_28 o_q_39 (by decide))).2.2.1.trans n_30)
  have n_47 : (sA (sF g_38 h 6 (.ref q_24)) q_39 50 16).2.2.1 q_39 = 16 := sA_n
  have kn_48 : (sA (sF g_38 h 6 (.ref q_24)) q_39 50 16).2.1 q_1 3 = .int 0 := ((congrFun (sA_g q_1 (ne0 r_26 o_q_39 (by decide))).2.1 3).trans (sF_k kn_31 (by decide)))
  have kn_49 : (sA (sF g_38 h 6 (.ref q_24)) q_39 50 16).2.1 h 0 = .ref q_1 := ((congrFun (sA_g h (ne0 r_25 o_q_39 (by decide))).2.1 0).trans (sF_k kn_32 (by decide)))
  have kn_50 : (sA (sF g_38 h 6 (.ref q_24)) q_39 50 16).2.1 h 1 = .ref q_16 := ((congrFun (sA_g h (ne0 r_25 o_q_39 (by decide))).2.1 1).trans (sF_k kn_33 (by decide)))
  have kn_51 : (sA (sF g_38 h 6 (.ref q_24)) q_39 50 16).2.1 h 2 = .int 0 := ((congrFun (sA_g h (ne0 r_25 o_q_39 (by decide))).2.1 2).trans (sF_k kn_34 (by decide)))
  have kn_52 : (sA (sF g_38 h 6 (.ref q_24)) q_39 50 16).2.1 h 3 = .int 0 := ((congrFun (sA_g h (ne0 r_25 o_q_39 (by decide))).2.1 3).trans (sF_k kn_35 (by decide)))
  have kn_53 : (sA (sF g_38 h 6 (.ref q_24)) q_39 50 16).2.1 h 4 = .int 10 := ((congrFun (sA_g h (ne0 r_25 o_q_39 (by decide))).2.1 4).trans (sF_k kn_36 (by decide)))
  have kn_54 : (sA (sF g_38 h 6 (.ref q_24)) q_39 50 16).2.1 h 5 = .int 0 := ((congrFun (sA_g h (ne0 r_25 o_q_39 (by decide))).2.1 5).trans (sF_k kn_37 (by decide)))
  have kn_55 : (sA (sF g_38 h 6 (.ref q_24)) q_39 50 16).2.1 h 6 = .ref q_24 := ((congrFun (sA_g h (ne0 r_25 o_q_39 (by decide))).2.1 6).trans sF_eq)
  generalize (sA (sF g_38 h 6 (.ref q_24)) q_39 50 16) = g_56 at hT hI hM hE r_40 r_41 r_42 r_43 r_44 n_45 n_46 n_47 kn_48 kn_49 kn_50 kn_51 kn_52 kn_53 kn_54 kn_55
  clear kn_31 kn_32 kn_33 kn_34 kn_35 kn_36 kn_37 n_29 n_30 r_25 r_26 r_27 r_28
  refine W.widen (k := 7) (n := 64) (Nat.le_of_ble_eq_true rfl) (Nat.le_of_ble_eq_true rfl) ?_
  refine t_put0 (ci := 3) (v := .ref q_39) hB hT (ro_ci r_40 rfl) (ro_n0 r_40 (by decide)) rfl 7 (by decide) k_160 (Or.inr ⟨hin, rfl⟩) rfl rfl dX3_init_56 (fun H locs hT => ?_)
  replace hI : Inv (sF g_56 h 7 (.ref q_39)) := hI.sF (fk r_40 (show fsm _ _ ft from trivial))
  replace hM : Sm md_s_Service g (sF g_56 h 7 (.ref q_39)) := hM.tr hE (Sm_sF (by rw [r_40]; rfl))
  replace hE : Ex g (sF g_56 h 7 (.ref q_39)) := hE
  refine lv_aload_n hx hb dX3_init_59 rfl (lv_at hl 0 rfl) ?_
  refine lv_bipush (v := 16) hx hb dX3_init_60 (by decide) ?_
  refine t_newi (N' := 16) hB hT 50 (by decide) k_101 (by decide) (by decide) (by decide) (Nat.le_of_ble_eq_true rfl) (Nat.le_of_ble_eq_true rfl) dX3_init_62 (fun q_57 H o_q_57 hT => ?_)
  have z_q_57 : g.1 q_57 = 0 := hE.z0 o_q_57
  replace hI : Inv (sA (sF g_56 h 7 (.ref q_39)) q_57 50 16) := hI.newi o_q_57 (by decide) (fun _ => rfl) trivial (fun _ => trivial)
  replace hM : Sm md_s_Service g (sA (sF g_56 h 7 (.ref q_39)) q_57 50 16) := hM.tr hE (Sm.push o_q_57 sA_g)
  replace hE : Ex g (sA (sF g_56 h 7 (.ref q_39)) q_57 50 16) := hE.tr (Ex.push o_q_57 sA_g)
  have r_58 : (sA (sF g_56 h 7 (.ref q_39)) q_57 50 16).1 h = 14 := ((sA_g h (ne0 r_40 o_q_57 (by decide))).1.trans r_40)
  have r_59 : (sA (sF g_56 h 7 (.ref q_39)) q_57 50 16).1 q_1 = 3 := ((sA_g q_1 (ne0 r_41 o_q_57 (by decide))).1.trans r_41)
  have r_60 : (sA (sF g_56 h 7 (.ref q_39)) q_57 50 16).1 q_16 = 50 := ((sA_g q_16 (ne0 r_42 o_q_57 (by decide))).1.trans r_42)
  have r_61 : (sA (sF g_56 h 7 (.ref q_39)) q_57 50 16).1 q_24 = 50 := ((sA_g q_24 (ne0 r_43 o_q_57 (by decide))).1.trans r_43)
  have r_62 : (sA (sF g_56 h 7 (.ref q_39)) q_57 50 16).1 q_39 = 50 := ((sA_g q_39 (ne0 r_44 o_q_57 (by decide))).1.trans r_44)
  have r_63 : (sA (sF g_56 h 7 (.ref q_39)) q_57 50 16).1 q_57 = 50 := sA_r
  have n_64 : (sA (sF g_56 h 7 (.ref q_39)) q_57 50 16).2.2.1 q_16 = 4 := ((sA_g q_16 (ne0 r_42 o_q_57 (by decide))).2.2.1.trans n_45)
  have n_65 : (sA (sF g_56 h 7 (.ref q_39)) q_57 50 16).2.2.1 q_24 = 16 := ((sA_g q_24 (ne0 r_43 o_q_57 (by decide))).2.2.1.trans n_46)
  have n_66 : (sA (sF g_56 h 7 (.ref q_39)) q_57 50 16).2.2.1 q_39 = 16 := ((sA_g q_39 (ne0 r_44 o_q_57 (by decide))).2.2.1.trans n_47)
  have n_67 : (sA (sF g_56 h 7 (.ref q_39)) q_57 50 16).2.2.1 q_57 = 16 := sA_n
  have kn_68 : (sA (sF g_56 h 7 (.ref q_39)) q_57 50 16).2.1 q_1 3 = .int 0 := ((congrFun (sA_g q_1 (ne0 r_41 o_q_57 (by decide))).2.1 3).trans (sF_k kn_48 (by decide)))
  have kn_69 : (sA (sF g_56 h 7 (.ref q_39)) q_57 50 16).2.1 h 0 = .ref q_1 := ((congrFun (sA_g h (ne0 r_40 o_q_57 (by decide))).2.1 0).trans (sF_k kn_49 (by decide)))
  have kn_70 : (sA (sF g_56 h 7 (.ref q_39)) q_57 50 16).2.1 h 1 = .ref q_16 := ((congrFun (sA_g h (ne0 r_40 o_q_57 (by decide))).2.1 1).trans (sF_k kn_50 (by decide)))
  have kn_71 : (sA (sF g_56 h 7 (.ref q_39)) q_57 50 16).2.1 h 2 = .int 0 := ((congrFun (sA_g h (ne0 r_40 o_q_57 (by decide))).2.1 2).trans (sF_k kn_51 (by decide)))
  have kn_72 : (sA (sF g_56 h 7 (.ref q_39)) q_57 50 16).2.1 h 3 = .int 0 := ((congrFun (sA_g h (ne0 r_40 o_q_57 (by decide))).2.1 3).trans (sF_k kn_52 (by decide)))
  have kn_73 : (sA (sF g_56 h 7 (.ref q_39)) q_57 50 16).2.1 h 4 = .int 10 := ((congrFun (sA_g h (ne0 r_40 o_q_57 (by decide))).2.1 4).trans (sF_k kn_53 (by decide)))
  have kn_74 : (sA (sF g_56 h 7 (.ref q_39)) q_57 50 16).2.1 h 5 = .int 0 := ((congrFun (sA_g h (ne0 r_40 o_q_57 (by decide))).2.1 5).trans (sF_k kn_54 (by decide)))
  have kn_75 : (sA (sF g_56 h 7 (.ref q_39)) q_57 50 16).2.1 h 6 = .ref q_24 := ((congrFun (sA_g h (ne0 r_40 o_q_57 (by decide))).2.1 6).trans (sF_k kn_55 (by decide)))
  have kn_76 : (sA (sF g_56 h 7 (.ref q_39)) q_57 50 16).2.1 h 7 = .ref q_39 := ((congrFun (sA_g h (ne0 r_40 o_q_57 (by decide))).2.1 7).trans sF_eq)
  generalize (sA (sF g_56 h 7 (.ref q_39)) q_57 50 16) = g_77 at hT hI hM hE r_58 r_59 r_60 r_61 r_62 r_63 n_64 n_65 n_66 n_67 kn_68 kn_69 kn_70 kn_71 kn_72 kn_73 kn_74 kn_75 kn_76
  clear kn_48 kn_49 kn_50 kn_51 kn_52 kn_53 kn_54 kn_55 n_45 n_46 n_47 r_40 r_41 r_42 r_43 r_44
  refine W.widen (k := 8) (n := 80) (Nat.le_of_ble_eq_true rfl) (Nat.le_of_ble_eq_true rfl) ?_
  refine t_put0 (ci := 3) (v := .ref q_57) hB hT (ro_ci r_58 rfl) (ro_n0 r_58 (by decide)) rfl 8 (by decide) k_161 (Or.inr ⟨hin, rfl⟩) rfl rfl dX3_init_64 (fun H locs hT => ?_)
  replace hI : Inv (sF g_77 h 8 (.ref q_57)) := hI.sF (fk r_58 (show fsm _ _ ft from trivial))
  replace hM : Sm md_s_Service g (sF g_77 h 8 (.ref q_57)) := hM.tr hE (Sm_sF (by rw [r_58]; rfl))
  replace hE : Ex g (sF g_77 h 8 (.ref q_57)) := hE
  refine lv_aload_n hx hb dX3_init_67 rfl (lv_at hl 0 rfl) ?_
  refine lv_bipush (v := 16) hx hb dX3_init_68 (by decide) ?_
  refine t_newi (N' := 16) hB hT 50 (by decide) k_101 (by decide) (by decide) (by decide) (Nat.le_of_ble_eq_true rfl) (Nat.le_of_ble_eq_true rfl) dX3_init_70 (fun q_78 H o_q_78 hT => ?_)
  have z_q_78 : g.1 q_78 = 0 := hE.z0 o_q_78
  replace hI : Inv (sA (sF g_77 h 8 (.ref q_57)) q_78 50 16) := hI.newi o_q_78 (by decide) (fun _ => rfl) trivial (fun _ => trivial)
  replace hM : Sm md_s_Service g (sA (sF g_77 h 8 (.ref q_57)) q_78 50 16) := hM.tr hE (Sm.push o_q_78 sA_g)
  replace hE : Ex g (sA (sF g_77 h 8 (.ref q_57)) q_78 50 16) := hE.tr (Ex.push o_q_78 sA_g)
  have r_79 : (sA (sF g_77 h 8 (.ref q_57)) q_78 50 16).1 h = 14 := ((sA_g h (ne0 r_58 o_q_78 (by decide))).1.trans r_58)
  have r_80 : (sA (sF g_77 h 8 (.ref q_57)) q_78 50 16).1 q_1 = 3 := ((sA_g q_1 (ne0 r_59 o_q_78 (by decide))).1.trans r_59)
  have r_81 : (sA (sF g_77 h 8 (.ref q_57)) q_78 50 16).1 q_16 = 50 := ((sA_g q_16 (ne0 r_60 o_q_78 (by decide))).1.trans r_60)
  have r_82 : (sA (sF g_77 h 8 (.ref q_57)) q_78 50 16).1 q_24 = 50 := ((sA_g q_24 (ne0 r_61 o_q_78 (by decide))).1.trans r_61)
  have r_83 : (sA (sF g_77 h 8 (.ref q_57)) q_78 50 16).1 q_39 = 50 := ((sA_g q_39 (ne0 r_62 o_q_78 (by decide))).1.trans r_62)
  have r_84 : (sA (sF g_77 h 8 (.ref q_57)) q_78 50 16).1 q_57 = 50 := ((sA_g q_57 (ne0 r_63 o_q_78 (by decide))).1.trans r_63)
  have r_85 : (sA (sF g_77 h 8 (.ref q_57)) q_78 50 16).1 q_78 = 50 := sA_r
  have n_86 : (sA (sF g_77 h 8 (.ref q_57)) q_78 50 16).2.2.1 q_16 = 4 := ((sA_g q_16 (ne0 r_60 o_q_78 (by decide))).2.2.1.trans n_64)
  have n_87 : (sA (sF g_77 h 8 (.ref q_57)) q_78 50 16).2.2.1 q_24 = 16 := ((sA_g q_24 (ne0 r_61 o_q_78 (by decide))).2.2.1.trans n_65)
  have n_88 : (sA (sF g_77 h 8 (.ref q_57)) q_78 50 16).2.2.1 q_39 = 16 := ((sA_g q_39 (ne0 r_62 o_q_78 (by decide))).2.2.1.trans n_66)
  have n_89 : (sA (sF g_77 h 8 (.ref q_57)) q_78 50 16).2.2.1 q_57 = 16 := ((sA_g q_57 (ne0 r_63 o_q_78 (by decide))).2.2.1.trans n_67)
  have n_90 : (sA (sF g_77 h 8 (.ref q_57)) q_78 50 16).2.2.1 q_78 = 16 := sA_n
  have kn_91 : (sA (sF g_77 h 8 (.ref q_57)) q_78 50 16).2.1 q_1 3 = .int 0 := ((congrFun (sA_g q_1 (ne0 r_59 o_q_78 (by decide))).2.1 3).trans (sF_k kn_68 (by decide)))
  have kn_92 : (sA (sF g_77 h 8 (.ref q_57)) q_78 50 16).2.1 h 0 = .ref q_1 := ((congrFun (sA_g h (ne0 r_58 o_q_78 (by decide))).2.1 0).trans (sF_k kn_69 (by decide)))
  have kn_93 : (sA (sF g_77 h 8 (.ref q_57)) q_78 50 16).2.1 h 1 = .ref q_16 := ((congrFun (sA_g h (ne0 r_58 o_q_78 (by decide))).2.1 1).trans (sF_k kn_70 (by decide)))
  have kn_94 : (sA (sF g_77 h 8 (.ref q_57)) q_78 50 16).2.1 h 2 = .int 0 := ((congrFun (sA_g h (ne0 r_58 o_q_78 (by decide))).2.1 2).trans (sF_k kn_71 (by decide)))
  have kn_95 : (sA (sF g_77 h 8 (.ref q_57)) q_78 50 16).2.1 h 3 = .int 0 := ((congrFun (sA_g h (ne0 r_58 o_q_78 (by decide))).2.1 3).trans (sF_k kn_72 (by decide)))
  have kn_96 : (sA (sF g_77 h 8 (.ref q_57)) q_78 50 16).2.1 h 4 = .int 10 := ((congrFun (sA_g h (ne0 r_58 o_q_78 (by decide))).2.1 4).trans (sF_k kn_73 (by decide)))
  have kn_97 : (sA (sF g_77 h 8 (.ref q_57)) q_78 50 16).2.1 h 5 = .int 0 := ((congrFun (sA_g h (ne0 r_58 o_q_78 (by decide))).2.1 5).trans (sF_k kn_74 (by decide)))
  have kn_98 : (sA (sF g_77 h 8 (.ref q_57)) q_78 50 16).2.1 h 6 = .ref q_24 := ((congrFun (sA_g h (ne0 r_58 o_q_78 (by decide))).2.1 6).trans (sF_k kn_75 (by decide)))
  have kn_99 : (sA (sF g_77 h 8 (.ref q_57)) q_78 50 16).2.1 h 7 = .ref q_39 := ((congrFun (sA_g h (ne0 r_58 o_q_78 (by decide))).2.1 7).trans (sF_k kn_76 (by decide)))
  have kn_100 : (sA (sF g_77 h 8 (.ref q_57)) q_78 50 16).2.1 h 8 = .ref q_57 := ((congrFun (sA_g h (ne0 r_58 o_q_78 (by decide))).2.1 8).trans sF_eq)
  generalize (sA (sF g_77 h 8 (.ref q_57)) q_78 50 16) = g_101 at hT hI hM hE r_79 r_80 r_81 r_82 r_83 r_84 r_85 n_86 n_87 n_88 n_89 n_90 kn_91 kn_92 kn_93 kn_94 kn_95 kn_96 kn_97 kn_98 kn_99 kn_100
  clear kn_68 kn_69 kn_70 kn_71 kn_72 kn_73 kn_74 kn_75 kn_76 n_64 n_65 n_66 n_67 r_58 r_59 r_60 r_61 r_62 r_63
  refine W.widen (k := 9) (n := 96) (Nat.le_of_ble_eq_true rfl) (Nat.le_of_ble_eq_true rfl) ?_
  refine t_put0 (ci := 3) (v := .ref q_78) hB hT (ro_ci r_79 rfl) (ro_n0 r_79 (by decide)) rfl 9 (by decide) k_162 (Or.inr ⟨hin, rfl⟩) rfl rfl dX3_init_72 (fun H locs hT => ?_)
  replace hI : Inv (sF g_101 h 9 (.ref q_78)) := hI.sF (fk r_79 (show fsm _ _ ft from trivial))
  replace hM : Sm md_s_Service g (sF g_101 h 9 (.ref q_78)) := hM.tr hE (Sm_sF (by rw [r_79]; rfl))
  replace hE : Ex g (sF g_101 h 9 (.ref q_78)) := hE
  refine lv_aload_n hx hb dX3_init_75 rfl (lv_at hl 0 rfl) ?_
  refine lv_iconst (v := (-1)) hx hb dX3_init_76 (by decide) ?_
  refine t_put0 (ci := 3) (v := .int (-1)) hB hT (ro_ci r_79 rfl) (ro_n0 r_79 (by decide)) rfl 10 (by decide) k_163 (Or.inl rfl) rfl rfl dX3_init_77 (fun H locs hT => ?_)
  replace hI : Inv (sF (sF g_101 h 9 (.ref q_78)) h 10 (.int (-1))) := hI.sF (fk r_79 (show fsm _ _ ft from trivial))
  replace hM : Sm md_s_Service g (sF (sF g_101 h 9 (.ref q_78)) h 10 (.int (-1))) := hM.tr hE (Sm_sF (by rw [r_79]; rfl))
  replace hE : Ex g (sF (sF g_101 h 9 (.ref q_78)) h 10 (.int (-1))) := hE
  refine lv_aload_n hx hb dX3_init_80 rfl (lv_at hl 0 rfl) ?_
  refine lv_iconst (v := (-1)) hx hb dX3_init_81 (by decide) ?_
  refine t_put0 (ci := 3) (v := .int (-1)) hB hT (ro_ci r_79 rfl) (ro_n0 r_79 (by decide)) rfl 11 (by decide) k_164 (Or.inl rfl) rfl rfl dX3_init_82 (fun H locs hT => ?_)
  replace hI : Inv (sF (sF (sF g_101 h 9 (.ref q_78)) h 10 (.int (-1))) h 11 (.int (-1))) := hI.sF (fk r_79 (show fsm _ _ ft from trivial))
  replace hM : Sm md_s_Service g (sF (sF (sF g_101 h 9 (.ref q_78)) h 10 (.int (-1))) h 11 (.int (-1))) := hM.tr hE (Sm_sF (by rw [r_79]; rfl))
  replace hE : Ex g (sF (sF (sF g_101 h 9 (.ref q_78)) h 10 (.int (-1))) h 11 (.int (-1))) := hE
  refine lv_aload_n hx hb dX3_init_85 rfl (lv_at hl 0 rfl) ?_
  refine lv_bipush (v := 8) hx hb dX3_init_86 (by decide) ?_
  refine t_newi (N' := 8) hB hT 50 (by decide) k_101 (by decide) (by decide) (by decide) (Nat.le_of_ble_eq_true rfl) (Nat.le_of_ble_eq_true rfl) dX3_init_88 (fun q_102 H o_q_102 hT => ?_)
  have z_q_102 : g.1 q_102 = 0 := hE.z0 o_q_102
  replace hI : Inv (sA (sF (sF (sF g_101 h 9 (.ref q_78)) h 10 (.int (-1))) h 11 (.int (-1))) q_102 50 8) := hI.newi o_q_102 (by decide) (fun _ => rfl) trivial (fun _ => trivial)
  replace hM : Sm md_s_Service g (sA (sF (sF (sF g_101 h 9 (.ref q_78)) h 10 (.int (-1))) h 11 (.int (-1))) q_102 50 8) := hM.tr hE (Sm.push o_q_102 sA_g)
  replace hE : Ex g (sA (sF (sF (sF g_101 h 9 (.ref q_78)) h 10 (.int (-1))) h 11 (.int (-1))) q_102 50 8) := hE.tr (Ex.push o_q_102 sA_g)
  have r_103 : (sA (sF (sF (sF g_101 h 9 (.ref q_78)) h 10 (.int (-1))) h 11 (.int (-1))) q_102 50 8).1 h = 14 := ((sA_g h (ne0 r_79 o_q_102 (by decide))).1.trans r_79)
  have r_104 : (sA (sF (sF (sF g_101 h 9 (.ref q_78)) h 10 (.int (-1))) h 11 (.int (-1))) q_102 50 8).1 q_1 = 3 := ((sA_g q_1 (ne0 r_80 o_q_102 (by decide))).1.trans r_80)
  have r_105 : (sA (sF (sF (sF g_101 h 9 (.ref q_78)) h 10 (.int (-1))) h 11 (.int (-1))) q_102 50 8).1 q_16 = 50 := ((sA_g q_16 (ne0 r_81 o_q_102 (by decide))).1.trans r_81)
  have r_106 : (sA (sF (sF (sF g_101 h 9 (.ref q_78)) h 10 (.int (-1))) h 11 (.int (-1))) q_102 50 8).1 q_24 = 50 := ((sA_g q_24 (ne0 r_82 o_q_102 (by decide))).1.trans r_82)
  have r_107 : (sA (sF (sF (sF g_101 h 9 (.ref q_78)) h 10 (.int (-1))) h 11 (.int (-1))) q_102 50 8).1 q_39 = 50 := ((sA_g q_39 (ne0 r_83 o_q_102 (by decide))).1.trans r_83)
  have r_108 : (sA (sF (sF (sF g_101 h 9 (.ref q_78)) h 10 (.int (-1))) h 11 (.int (-1))) q_102 50 8).1 q_57 = 50 := ((sA_g q_57 (ne0 r_84 o_q_102 (by decide))).1.trans r_84)
  have r_109 : (sA (sF (sF (sF g_101 h 9 (.ref q_78)) h 10 (.int (-1))) h 11 (.int (-1))) q_102 50 8).1 q_78 = 50 := ((sA_g q_78 (ne0 r_85 o_q_102 (by decide))).1.trans r_85)
  have r_110 : (sA (sF (sF (sF g_101 h 9 (.ref q_78)) h 10 (.int (-1))) h 11 (.int (-1))) q_102 50 8).1 q_102 = 50 := sA_r
  have n_111 : (sA (sF (sF (sF g_101 h 9 (.ref q_78)) h 10 (.int (-1))) h 11 (.int (-1))) q_102 50 8).2.2.1 q_16 = 4 := ((sA_g q_16 (ne0 r_81 o_q_102 (by decide))).2.2.1.trans n_86)
  have n_112 : (sA (sF (sF (sF g_101 h 9 (.ref q_78)) h 10 (.int (-1))) h 11 (.int (-1))) q_102 50 8).2.2.1 q_24 = 16 := ((sA_g q_24 (ne0 r_82 o_q_102 (by decide))).2.2.1.trans n_87)
  have n_113 : (sA (sF (sF (sF g_101 h 9 (.ref q_78)) h 10 (.int (-1))) h 11 (.int (-1))) q_102 50 8).2.2.1 q_39 = 16 := ((sA_g q_39 (ne0 r_83 o_q_102 (by decide))).2.2.1.trans n_88)
  have n_114 : (sA (sF (sF (sF g_101 h 9 (.ref q_78)) h 10 (.int (-1))) h 11 (.int (-1))) q_102 50 8).2.2.1 q_57 = 16 := ((sA_g q_57 (ne0 r_84 o_q_102 (by decide))).2.2.1.trans n_89)
  have n_115 : (sA (sF (sF (sF g_101 h 9 (.ref q_78)) h 10 (.int (-1))) h 11 (.int (-1))) q_102 50 8).2.2.1 q_78 = 16 := ((sA_g q_78 (ne0 r_85 o_q_102 (by decide))).2.2.1.trans n_90)
  have n_116 : (sA (sF (sF (sF g_101 h 9 (.ref q_78)) h 10 (.int (-1))) h 11 (.int (-1))) q_102 50 8).2.2.1 q_102 = 8 := sA_n
  have kn_117 : (sA (sF (sF (sF g_101 h 9 (.ref q_78)) h 10 (.int (-1))) h 11 (.int (-1))) q_102 50 8).2.1 q_1 3 = .int 0 := ((congrFun (sA_g q_1 (ne0 r_80 o_q_102 (by decide))).2.1 3).trans (sF_k (sF_k (sF_k kn_91 (by decide)) (by decide)) (by decide)))
  have kn_118 : (sA (sF (sF (sF g_101 h 9 (.ref q_78)) h 10 (.int (-1))) h 11 (.int (-1))) q_102 50 8).2.1 h 0 = .ref q_1 := ((congrFun (sA_g h (ne0 r_79 o_q_102 (by decide))).2.1 0).trans (sF_k (sF_k (sF_k kn_92 (by decide)) (by decide)) (by decide)))
  have kn_119 : (sA (sF (sF (sF g_101 h 9 (.ref q_78)) h 10 (.int (-1))) h 11 (.int (-1))) q_102 50 8).2.1 h 1 = .ref q_16 := ((congrFun (sA_g h (ne0 r_79 o_q_102 (by decide))).2.1 1).trans (sF_k (sF_k (sF_k kn_93 (by decide)) (by decide)) (by decide)))
  have kn_120 : (sA (sF (sF (sF g_101 h 9 (.ref q_78)) h 10 (.int (-1))) h 11 (.int (-1))) q_102 50 8).2.1 h 2 = .int 0 := ((congrFun (sA_g h (ne0 r_79 o_q_102 (by decide))).2.1 2).trans (sF_k (sF_k (sF_k kn_94 (by decide)) (by decide)) (by decide)))
  have kn_121 : (sA (sF (sF (sF g_101 h 9 (.ref q_78)) h 10 (.int (-1))) h 11 (.int (-1))) q_102 50 8).2.1 h 3 = .int 0 := ((congrFun (sA_g h (ne0 r_79 o_q_102 (by decide))).2.1 3).trans (sF_k (sF_k (sF_k kn_95 (by decide)) (by decide)) (by decide)))
  have kn_122 : (sA (sF (sF (sF g_101 h 9 (.ref q_78)) h 10 (.int (-1))) h 11 (.int (-1))) q_102 50 8).2.1 h 4 = .int 10 := ((congrFun (sA_g h (ne0 r_79 o_q_102 (by decide))).2.1 4).trans (sF_k (sF_k (sF_k kn_96 (by decide)) (by decide)) (by decide)))
  have kn_123 : (sA (sF (sF (sF g_101 h 9 (.ref q_78)) h 10 (.int (-1))) h 11 (.int (-1))) q_102 50 8).2.1 h 5 = .int 0 := ((congrFun (sA_g h (ne0 r_79 o_q_102 (by decide))).2.1 5).trans (sF_k (sF_k (sF_k kn_97 (by decide)) (by decide)) (by decide)))
  have kn_124 : (sA (sF (sF (sF g_101 h 9 (.ref q_78)) h 10 (.int (-1))) h 11 (.int (-1))) q_102 50 8).2.1 h 6 = .ref q_24 := ((congrFun (sA_g h (ne0 r_79 o_q_102 (by decide))).2.1 6).trans (sF_k (sF_k (sF_k kn_98 (by decide)) (by decide)) (by decide)))
  have kn_125 : (sA (sF (sF (sF g_101 h 9 (.ref q_78)) h 10 (.int (-1))) h 11 (.int (-1))) q_102 50 8).2.1 h 7 = .ref q_39 := ((congrFun (sA_g h (ne0 r_79 o_q_102 (by decide))).2.1 7).trans (sF_k (sF_k (sF_k kn_99 (by decide)) (by decide)) (by decide)))
  have kn_126 : (sA (sF (sF (sF g_101 h 9 (.ref q_78)) h 10 (.int (-1))) h 11 (.int (-1))) q_102 50 8).2.1 h 8 = .ref q_57 := ((congrFun (sA_g h (ne0 r_79 o_q_102 (by decide))).2.1 8).trans (sF_k (sF_k (sF_k kn_100 (by decide)) (by decide)) (by decide)))
  have kn_127 : (sA (sF (sF (sF g_101 h 9 (.ref q_78)) h 10 (.int (-1))) h 11 (.int (-1))) q_102 50 8).2.1 h 9 = .ref q_78 := ((congrFun (sA_g h (ne0 r_79 o_q_102 (by decide))).2.1 9).trans (sF_k (sF_k sF_eq (by decide)) (by decide)))
  have kn_128 : (sA (sF (sF (sF g_101 h 9 (.ref q_78)) h 10 (.int (-1))) h 11 (.int (-1))) q_102 50 8).2.1 h 10 = .int (-1) := ((congrFun (sA_g h (ne0 r_79 o_q_102 (by decide))).2.1 10).trans (sF_k sF_eq (by decide)))
  have kn_129 : (sA (sF (sF (sF g_101 h 9 (.ref q_78)) h 10 (.int (-1))) h 11 (.int (-1))) q_102 50 8).2.1 h 11 = .int (-1) := ((congrFun (sA_g h (ne0 r_79 o_q_102 (by decide))).2.1 11).trans sF_eq)
  generalize (sA (sF (sF (sF g_101 h 9 (.ref q_78)) h 10 (.int (-1))) h 11 (.int (-1))) q_102 50 8) = g_130 at hT hI hM hE r_103 r_104 r_105 r_106 r_107 r_108 r_109 r_110 n_111 n_112 n_113 n_114 n_115 n_116 kn_117 kn_118 kn_119 kn_120 kn_121 kn_122 kn_123 kn_124 kn_125 kn_126 kn_127 kn_128 kn_129
  clear kn_100 kn_91 kn_92 kn_93 kn_94 kn_95 kn_96 kn_97 kn_98 kn_99 n_86 n_87 n_88 n_89 n_90 r_79 r_80 r_81 r_82 r_83 r_84 r_85
  refine W.widen (k := 10) (n := 104) (Nat.le_of_ble_eq_true rfl) (Nat.le_of_ble_eq_true rfl) ?_
  refine t_put0 (ci := 3) (v := .ref q_102) hB hT (ro_ci r_103 rfl) (ro_n0 r_103 (by decide)) rfl 12 (by decide) k_165 (Or.inr ⟨hin, rfl⟩) rfl rfl dX3_init_90 (fun H locs hT => ?_)
  replace hI : Inv (sF g_130 h 12 (.ref q_102)) := hI.sF (fk r_103 (show fsm _ _ ft from trivial))
  replace hM : Sm md_s_Service g (sF g_130 h 12 (.ref q_102)) := hM.tr hE (Sm_sF (by rw [r_103]; rfl))
  replace hE : Ex g (sF g_130 h 12 (.ref q_102)) := hE
  refine lv_aload_n hx hb dX3_init_93 rfl (lv_at hl 0 rfl) ?_
  refine lv_bipush (v := 8) hx hb dX3_init_94 (by decide) ?_
  refine t_newi (N' := 8) hB hT 50 (by decide) k_101 (by decide) (by decide) (by decide) (Nat.le_of_ble_eq_true rfl) (Nat.le_of_ble_eq_true rfl) dX3_init_96 (fun q_131 H o_q_131 hT => ?_)
  have z_q_131 : g.1 q_131 = 0 := hE.z0 o_q_131
  replace hI : Inv (sA (sF g_130 h 12 (.ref q_102)) q_131 50 8) := hI.newi o_q_131 (by decide) (fun _ => rfl) trivial (fun _ => trivial)
  replace hM : Sm md_s_Service g (sA (sF g_130 h 12 (.ref q_102)) q_131 50 8) := hM.tr hE (Sm.push o_q_131 sA_g)
  replace hE : Ex g (sA (sF g_130 h 12 (.ref q_102)) q_131 50 8) := hE.tr (Ex.push o_q_131 sA_g)
  have r_132 : (sA (sF g_130 h 12 (.ref q_102)) q_131 50 8).1 h = 14 := ((sA_g h (ne0 r_103 o_q_131 (by decide))).1.trans r_103)
  have r_133 : (sA (sF g_130 h 12 (.ref q_102)) q_131 50 8).1 q_1 = 3 := ((sA_g q_1 (ne0 r_104 o_q_131 (by decide))).1.trans r_104)
  have r_134 : (sA (sF g_130 h 12 (.ref q_102)) q_131 50 8).1 q_16 = 50 := ((sA_g q_16 (ne0 r_105 o_q_131 (by decide))).1.trans r_105)
  have r_135 : (sA (sF g_130 h 12 (.ref q_102)) q_131 50 8).1 q_24 = 50 := ((sA_g q_24 (ne0 r_106 o_q_131 (by decide))).1.trans r_106)
  have r_136 : (sA (sF g_130 h 12 (.ref q_102)) q_131 50 8).1 q_39 = 50 := ((sA_g q_39 (ne0 r_107 o_q_131 (by decide))).1.trans r_107)
  have r_137 : (sA (sF g_130 h 12 (.ref q_102)) q_131 50 8).1 q_57 = 50 := ((sA_g q_57 (ne0 r_108 o_q_131 (by decide))).1.trans r_108)
  have r_138 : (sA (sF g_130 h 12 (.ref q_102)) q_131 50 8).1 q_78 = 50 := ((sA_g q_78 (ne0 r_109 o_q_131 (by decide))).1.trans r_109)
  have r_139 : (sA (sF g_130 h 12 (.ref q_102)) q_131 50 8).1 q_102 = 50 := ((sA_g q_102 (ne0 r_110 o_q_131 (by decide))).1.trans r_110)
  have r_140 : (sA (sF g_130 h 12 (.ref q_102)) q_131 50 8).1 q_131 = 50 := sA_r
  have n_141 : (sA (sF g_130 h 12 (.ref q_102)) q_131 50 8).2.2.1 q_16 = 4 := ((sA_g q_16 (ne0 r_105 o_q_131 (by decide))).2.2.1.trans n_111)
  have n_142 : (sA (sF g_130 h 12 (.ref q_102)) q_131 50 8).2.2.1 q_24 = 16 := ((sA_g q_24 (ne0 r_106 o_q_131 (by decide))).2.2.1.trans n_112)
  have n_143 : (sA (sF g_130 h 12 (.ref q_102)) q_131 50 8).2.2.1 q_39 = 16 := ((sA_g q_39 (ne0 r_107 o_q_131 (by decide))).2.2.1.trans n_113)
  have n_144 : (sA (sF g_130 h 12 (.ref q_102)) q_131 50 8).2.2.1 q_57 = 16 := ((sA_g q_57 (ne0 r_108 o_q_131 (by decide))).2.2.1.trans n_114)
  have n_145 : (sA (sF g_130 h 12 (.ref q_102)) q_131 50 8).2.2.1 q_78 = 16 := ((sA_g q_78 (ne0 r_109 o_q_131 (by decide))).2.2.1.trans n_115)
  have n_146 : (sA (sF g_130 h 12 (.ref q_102)) q_131 50 8).2.2.1 q_102 = 8 := ((sA_g q_102 (ne0 r_110 o_q_131 (by decide))).2.2.1.trans n_116)
  have n_147 : (sA (sF g_130 h 12 (.ref q_102)) q_131 50 8).2.2.1 q_131 = 8 := sA_n
  have kn_148 : (sA (sF g_130 h 12 (.ref q_102)) q_131 50 8).2.1 q_1 3 = .int 0 := ((congrFun (sA_g q_1 (ne0 r_104 o_q_131 (by decide))).2.1 3).trans (sF_k kn_117 (by decide)))
  have kn_149 : (sA (sF g_130 h 12 (.ref q_102)) q_131 50 8).2.1 h 0 = .ref q_1 := ((congrFun (sA_g h (ne0 r_103 o_q_131 (by decide))).2.1 0).trans (sF_k kn_118 (by decide)))
  have kn_150 : (sA (sF g_130 h 12 (.ref q_102)) q_131 50 8).2.1 h 1 = .ref q_16 := ((congrFun (sA_g h (ne0 r_103 o_q_131 (by decide))).2.1 1).trans (sF_k kn_119 (by decide)))
  have kn_151 : (sA (sF g_130 h 12 (.ref q_102)) q_131 50 8).2.1 h 2 = .int 0 := ((congrFun (sA_g h (ne0 r_103 o_q_131 (by decide))).2.1 2).trans (sF_k kn_120 (by decide)))
  have kn_152 : (sA (sF g_130 h 12 (.ref q_102)) q_131 50 8).2.1 h 3 = .int 0 := ((congrFun (sA_g h (ne0 r_103 o_q_131 (by decide))).2.1 3).trans (sF_k kn_121 (by decide)))
  have kn_153 : (sA (sF g_130 h 12 (.ref q_102)) q_131 50 8).2.1 h 4 = .int 10 := ((congrFun (sA_g h (ne0 r_103 o_q_131 (by decide))).2.1 4).trans (sF_k kn_122 (by decide)))
  have kn_154 : (sA (sF g_130 h 12 (.ref q_102)) q_131 50 8).2.1 h 5 = .int 0 := ((congrFun (sA_g h (ne0 r_103 o_q_131 (by decide))).2.1 5).trans (sF_k kn_123 (by decide)))
  have kn_155 : (sA (sF g_130 h 12 (.ref q_102)) q_131 50 8).2.1 h 6 = .ref q_24 := ((congrFun (sA_g h (ne0 r_103 o_q_131 (by decide))).2.1 6).trans (sF_k kn_124 (by decide)))
  have kn_156 : (sA (sF g_130 h 12 (.ref q_102)) q_131 50 8).2.1 h 7 = .ref q_39 := ((congrFun (sA_g h (ne0 r_103 o_q_131 (by decide))).2.1 7).trans (sF_k kn_125 (by decide)))
  have kn_157 : (sA (sF g_130 h 12 (.ref q_102)) q_131 50 8).2.1 h 8 = .ref q_57 := ((congrFun (sA_g h (ne0 r_103 o_q_131 (by decide))).2.1 8).trans (sF_k kn_126 (by decide)))
  have kn_158 : (sA (sF g_130 h 12 (.ref q_102)) q_131 50 8).2.1 h 9 = .ref q_78 := ((congrFun (sA_g h (ne0 r_103 o_q_131 (by decide))).2.1 9).trans (sF_k kn_127 (by decide)))
  have kn_159 : (sA (sF g_130 h 12 (.ref q_102)) q_131 50 8).2.1 h 10 = .int (-1) := ((congrFun (sA_g h (ne0 r_103 o_q_131 (by decide))).2.1 10).trans (sF_k kn_128 (by decide)))
  have kn_160 : (sA (sF g_130 h 12 (.ref q_102)) q_131 50 8).2.1 h 11 = .int (-1) := ((congrFun (sA_g h (ne0 r_103 o_q_131 (by decide))).2.1 11).trans (sF_k kn_129 (by decide)))
  have kn_161 : (sA (sF g_130 h 12 (.ref q_102)) q_131 50 8).2.1 h 12 = .ref q_102 := ((congrFun (sA_g h (ne0 r_103 o_q_131 (by decide))).2.1 12).trans sF_eq)
  generalize (sA (sF g_130 h 12 (.ref q_102)) q_131 50 8) = g_162 at hT hI hM hE r_132 r_133 r_134 r_135 r_136 r_137 r_138 r_139 r_140 n_141 n_142 n_143 n_144 n_145 n_146 n_147 kn_148 kn_149 kn_150 kn_151 kn_152 kn_153 kn_154 kn_155 kn_156 kn_157 kn_158 kn_159 kn_160 kn_161
  clear kn_117 kn_118 kn_119 kn_120 kn_121 kn_122 kn_123 kn_124 kn_125 kn_126 kn_127 kn_128 kn_129 n_111 n_112 n_113 n_114 n_115 n_116 r_103 r_104 r_105 r_106 r_107 r_108 r_109 r_110
  refine W.widen (k := 11) (n := 112) (Nat.le_of_ble_eq_true rfl) (Nat.le_of_ble_eq_true rfl) ?_
  refine t_put0 (ci := 3) (v := .ref q_131) hB hT (ro_ci r_132 rfl) (ro_n0 r_132 (by decide)) rfl 13 (by decide) k_166 (Or.inr ⟨hin, rfl⟩) rfl rfl dX3_init_98 (fun H locs hT => ?_)
  replace hI : Inv (sF g_162 h 13 (.ref q_131)) := hI.sF (fk r_132 (show fsm _ _ ft from trivial))
  replace hM : Sm md_s_Service g (sF g_162 h 13 (.ref q_131)) := hM.tr hE (Sm_sF (by rw [r_132]; rfl))
  replace hE : Ex g (sF g_162 h 13 (.ref q_131)) := hE
  refine lv_aload_n hx hb dX3_init_101 rfl (lv_at hl 0 rfl) ?_
  refine lv_iconst (v := 0) hx hb dX3_init_102 (by decide) ?_
  refine t_put0 (ci := 3) (v := .int 0) hB hT (ro_ci r_132 rfl) (ro_n0 r_132 (by decide)) rfl 14 (by decide) k_167 (Or.inl rfl) rfl rfl dX3_init_103 (fun H locs hT => ?_)
  replace hI : Inv (sF (sF g_162 h 13 (.ref q_131)) h 14 (.int 0)) := hI.sF (fk r_132 (show fsm _ _ ft from trivial))
  replace hM : Sm md_s_Service g (sF (sF g_162 h 13 (.ref q_131)) h 14 (.int 0)) := hM.tr hE (Sm_sF (by rw [r_132]; rfl))
  replace hE : Ex g (sF (sF g_162 h 13 (.ref q_131)) h 14 (.int 0)) := hE
  have hF : ∀ k, Fok (sR (sF (sF g_162 h 13 (.ref q_131)) h 14 (.int 0)) h 4) 4 k ((sF (sF g_162 h 13 (.ref q_131)) h 14 (.int 0)).2.1 h k) := fun k => match k with
    | 0 => (by rw [(sF_k (sF_k kn_149 (by decide)) (by decide))]; exact q_4_0 ⟨_, rfl, sR_r r_133 (ro_ne r_133 r_132 (by decide))⟩)
    | 1 => (by rw [(sF_k (sF_k kn_150 (by decide)) (by decide))]; exact q_4_1 ⟨_, rfl, sR_r r_134 (ro_ne r_134 r_132 (by decide)), n_141⟩)
    | 2 => (by rw [(sF_k (sF_k kn_151 (by decide)) (by decide))]; exact q_4_2 ⟨_, rfl⟩)
    | 3 => (by rw [(sF_k (sF_k kn_152 (by decide)) (by decide))]; exact q_4_3 ⟨_, rfl⟩)
    | 4 => (by rw [(sF_k (sF_k kn_153 (by decide)) (by decide))]; exact q_4_4 ⟨_, rfl⟩)
    | 5 => (by rw [(sF_k (sF_k kn_154 (by decide)) (by decide))]; exact q_4_5 ⟨_, rfl, by decide, by decide⟩)
    | 6 => (by rw [(sF_k (sF_k kn_155 (by decide)) (by decide))]; exact q_4_6 ⟨_, rfl, sR_r r_135 (ro_ne r_135 r_132 (by decide)), n_142⟩)
    | 7 => (by rw [(sF_k (sF_k kn_156 (by decide)) (by decide))]; exact q_4_7 ⟨_, rfl, sR_r r_136 (ro_ne r_136 r_132 (by decide)), n_143⟩)
    | 8 => (by rw [(sF_k (sF_k kn_157 (by decide)) (by decide))]; exact q_4_8 ⟨_, rfl, sR_r r_137 (ro_ne r_137 r_132 (by decide)), n_144⟩)
    | 9 => (by rw [(sF_k (sF_k kn_158 (by decide)) (by decide))]; exact q_4_9 ⟨_, rfl, sR_r r_138 (ro_ne r_138 r_132 (by decide)), n_145⟩)
    | 10 => (by rw [(sF_k (sF_k kn_159 (by decide)) (by decide))]; exact q_4_10 ⟨_, rfl⟩)
    | 11 => (by rw [(sF_k (sF_k kn_160 (by decide)) (by decide))]; exact q_4_11 ⟨_, rfl⟩)
    | 12 => (by rw [(sF_k (sF_k kn_161 (by decide)) (by decide))]; exact q_4_12 ⟨_, rfl, sR_r r_139 (ro_ne r_139 r_132 (by decide)), n_146⟩)
    | 13 => (by rw [(sF_k sF_eq (by decide))]; exact q_4_13 ⟨_, rfl, sR_r r_140 (ro_ne r_140 r_132 (by decide)), n_147⟩)
    | 14 => (by rw [sF_eq]; exact q_4_14 ⟨_, rfl, by decide, by decide⟩)
    | k + 15 => (show fsm _ _ ft from trivial)
  have hT : Tv D cI cZ cS cR N0 s.heap H locs (sR (sF (sF g_162 h 13 (.ref q_131)) h 14 (.int 0)) h 4) := ⟨hT.1.promo (by rw [r_132]; decide) (by rw [r_132]; rfl) (Or.inl (by decide)), hT.2⟩
  replace hI : Inv (sR (sF (sF g_162 h 13 (.ref q_131)) h 14 (.int 0)) h 4) := hI.promo (by rw [r_132]; decide) hF (fun _ _ => trivial) (fun _ _ => trivial)
  replace hM : Sm md_s_Service g (sR (sF (sF g_162 h 13 (.ref q_131)) h 14 (.int 0)) h 4) := hM
  have hX : Exx h g (sR (sF (sF g_162 h 13 (.ref q_131)) h 14 (.int 0)) h 4) := Exx.promo hE
  exact t_vret hB hr hT (Nat.le_of_ble_eq_true rfl) (Nat.le_of_ble_eq_true rfl) dX3_init_106 ⟨rfl, hI, hX, hM, if_pos rfl⟩
abbrev md_n_Service : Nat → Nat → Bool := mdf [(13, 0), (13, 1), (13, 2), (13, 3), (14, 0), (14, 1), (14, 2), (14, 3), (14, 4), (14, 5), (14, 6), (14, 7), (14, 8), (14, 9), (14, 10), (14, 11), (14, 12), (14, 13), (14, 14)]
theorem mdle_n_Service_k_Program {r k : Nat} (h : md_n_Service r k = false) : md_k_Program r k = false := mdf_le (by decide +kernel) h
set_option maxHeartbeats 4000000 in
set_option maxRecDepth 100000 in
theorem n_Service (l : Launch) (D : va_G) (cI cZ cS cR : ClassId) (N0 : NT) (g : GS) (hI : Inv g) (h : Nat) (r_h : g.1 h = 14) : Ty l D cI cZ cS cR N0 yX3_init cX3_init 1 none 1 11 112 [.ref h] g (fun v g' => v = none ∧ Inv g' ∧ Exx h g g' ∧ Sm md_n_Service g g' ∧ g'.1 h = 10) := by
  refine t_enter (by decide) (Nat.le_of_ble_eq_true rfl) ?_
  intro p e s m args below meth c ls H locs hB hr hin hl hT
  have hx := hB.1
  have hb := hB.2.1
  have hl : lv_has ls 1 [(0, .ref h)] := hl
  replace hE : Ex g g := Ex.rf
  replace hM : Sm md_n_Service g g := Sm.rf
  refine lv_aload_n hx hb dX3_init_0 rfl (lv_at hl 0 rfl) ?_
  refine t_oinit hB k_114 k_78 k_79 hl.1 dX3_init_1 (Nat.le_of_ble_eq_true rfl) (Nat.le_of_ble_eq_true rfl) ?_
  refine lv_aload_n hx hb dX3_init_4 rfl (lv_at hl 0 rfl) ?_
  refine t_new (ci := 2) (fs := [.null, .null, .null, .int 0]) hB hT rfl (by decide) k_115 k_116 k_61 (fnew_2) (Nat.le_of_ble_eq_true rfl) (Nat.le_of_ble_eq_true rfl) dX3_init_5 (fun q_1 H o_q_1 hT => ?_)
  have z_q_1 : g.1 q_1 = 0 := hE.z0 o_q_1
  replace hI : Inv (sN g q_1 13 (vp_V [.null, .null, .null, .int 0])) := hI.newo o_q_1 (fun _ => rfl) (fun _ => trivial) (fun _ _ => trivial)
  replace hM : Sm md_n_Service g (sN g q_1 13 (vp_V [.null, .null, .null, .int 0])) := hM.tr hE (Sm.push o_q_1 sN_g)
  replace hE : Ex g (sN g q_1 13 (vp_V [.null, .null, .null, .int 0])) := hE.tr (Ex.push o_q_1 sN_g)
  have r_2 : (sN g q_1 13 (vp_V [.null, .null, .null, .int 0])).1 h = 14 := ((sN_g h (ne0 r_h o_q_1 (by decide))).1.trans r_h)
  have r_3 : (sN g q_1 13 (vp_V [.null, .null, .null, .int 0])).1 q_1 = 13 := sN_r
  have kn_4 : (sN g q_1 13 (vp_V [.null, .null, .null, .int 0])).2.1 q_1 0 = .null := sN_f
  have kn_5 : (sN g q_1 13 (vp_V [.null, .null, .null, .int 0])).2.1 q_1 1 = .null := sN_f
  have kn_6 : (sN g q_1 13 (vp_V [.null, .null, .null, .int 0])).2.1 q_1 2 = .null := sN_f
  have kn_7 : (sN g q_1 13 (vp_V [.null, .null, .null, .int 0])).2.1 q_1 3 = .int 0 := sN_f
  generalize (sN g q_1 13 (vp_V [.null, .null, .null, .int 0])) = g_8 at hT hI hM hE r_2 r_3 kn_4 kn_5 kn_6 kn_7
  refine W.widen (k := 1) (n := 4) (Nat.le_of_ble_eq_true rfl) (Nat.le_of_ble_eq_true rfl) ?_
  refine lv_dup hx hb dX3_init_8 rfl ?_
  refine t_callIN (n := 0) (As := []) (rest := [.ref q_1, .ref h]) hB hT hl.1 (k_Program l D cI cZ cS cR N0 g_8 hI q_1 r_3) k_119 k_61 hB.2.2.2.2.2.2.2.1.2.2.1 k_118 rfl (by decide +kernel) ⟨(Nat.le_of_ble_eq_true rfl), (Nat.le_of_ble_eq_true rfl)⟩ rfl (Nat.le_of_ble_eq_true rfl) ⟨(Nat.le_of_ble_eq_true rfl), (Nat.le_of_ble_eq_true rfl)⟩ dX3_init_9 (fun v g_9 H locs hp hT => ?_)
  obtain ⟨rfl, hI, x_12, m_11, r_13, f_10⟩ := hp
  replace hM : Sm md_n_Service g g_9 := hM.tr hE (m_11.mo (fun r k h => mdle_n_Service_k_Program h))
  replace hE : Ex g g_9 := hE.trx z_q_1 x_12
  have r_14 : g_9.1 h = 14 := (Exx.r x_12 r_2 (by decide) (ro_ne r_2 r_3 (by decide)))
  have r_15 : g_9.1 q_1 = 3 := r_13
  refine W.eq (g2 := F0 m 12 ls [.ref q_1, .ref h]) rfl ?_
  refine t_put0 (ci := 3) (v := .ref q_1) hB hT (ro_ci r_14 rfl) (ro_n0 r_14 (by decide)) rfl 0 (by decide) k_143 (Or.inl rfl) rfl rfl dX3_init_12 (fun H locs hT => ?_)
  replace hI : Inv (sF g_9 h 0 (.ref q_1)) := hI.sF (fk r_14 (show fsm _ _ ft from trivial))
  replace hM : Sm md_n_Service g (sF g_9 h 0 (.ref q_1)) := hM.tr hE (Sm_sF (by rw [r_14]; rfl))
  replace hE : Ex g (sF g_9 h 0 (.ref q_1)) := hE
  refine lv_aload_n hx hb dX3_init_15 rfl (lv_at hl 0 rfl) ?_
  refine lv_iconst (v := 4) hx hb dX3_init_16 (by decide) ?_
  refine t_newi (N' := 4) hB hT 50 (by decide) k_101 (by decide) (by decide) (by decide) (Nat.le_of_ble_eq_true rfl) (Nat.le_of_ble_eq_true rfl) dX3_init_17 (fun q_16 H o_q_16 hT => ?_)
  have z_q_16 : g.1 q_16 = 0 := hE.z0 o_q_16
  replace hI : Inv (sA (sF g_9 h 0 (.ref q_1)) q_16 50 4) := hI.newi o_q_16 (by decide) (fun _ => rfl) trivial (fun _ => trivial)
  replace hM : Sm md_n_Service g (sA (sF g_9 h 0 (.ref q_1)) q_16 50 4) := hM.tr hE (Sm.push o_q_16 sA_g)
  replace hE : Ex g (sA (sF g_9 h 0 (.ref q_1)) q_16 50 4) := hE.tr (Ex.push o_q_16 sA_g)
  have r_17 : (sA (sF g_9 h 0 (.ref q_1)) q_16 50 4).1 h = 14 := ((sA_g h (ne0 r_14 o_q_16 (by decide))).1.trans r_14)
  have r_18 : (sA (sF g_9 h 0 (.ref q_1)) q_16 50 4).1 q_1 = 3 := ((sA_g q_1 (ne0 r_15 o_q_16 (by decide))).1.trans r_15)
  have r_19 : (sA (sF g_9 h 0 (.ref q_1)) q_16 50 4).1 q_16 = 50 := sA_r
  have n_20 : (sA (sF g_9 h 0 (.ref q_1)) q_16 50 4).2.2.1 q_16 = 4 := sA_n
  have kn_21 : (sA (sF g_9 h 0 (.ref q_1)) q_16 50 4).2.1 q_1 3 = .int 0 := ((congrFun (sA_g q_1 (ne0 r_15 o_q_16 (by decide))).2.1 3).trans (sF_k f_10 (by decide)))
  have kn_22 : (sA (sF g_9 h 0 (.ref q_1)) q_16 50 4).2.1 h 0 = .ref q_1 := ((congrFun (sA_g h (ne0 r_14 o_q_16 (by decide))).2.1 0).trans sF_eq)
  generalize (sA (sF g_9 h 0 (.ref q_1)) q_16 50 4) = g_23 at hT hI hM hE r_17 r_18 r_19 n_20 kn_21 kn_22
  clear r_14 r_15
  refine W.widen (k := 5) (n := 32) (Nat.le_of_ble_eq_true rfl) (Nat.le_of_ble_eq_true rfl) ?_
  refine t_put0 (ci := 3) (v := .ref q_16) hB hT (ro_ci r_17 rfl) (ro_n0 r_17 (by decide)) rfl 1 (by decide) k_146 (Or.inr ⟨hin, rfl⟩) rfl rfl dX3_init_19 (fun H locs hT => ?_)
  replace hI : Inv (sF g_23 h 1 (.ref q_16)) := hI.sF (fk r_17 (show fsm _ _ ft from trivial))
  replace hM : Sm md_n_Service g (sF g_23 h 1 (.ref q_16)) := hM.tr hE (Sm_sF (by rw [r_17]; rfl))
  replace hE : Ex g (sF g_23 h 1 (.ref q_16)) := hE
  refine lv_aload_n hx hb dX3_init_22 rfl (lv_at hl 0 rfl) ?_
  refine lv_iconst (v := 0) hx hb dX3_init_23 (by decide) ?_
  refine t_put0 (ci := 3) (v := .int 0) hB hT (ro_ci r_17 rfl) (ro_n0 r_17 (by decide)) rfl 2 (by decide) k_149 (Or.inl rfl) rfl rfl dX3_init_24 (fun H locs hT => ?_)
  replace hI : Inv (sF (sF g_23 h 1 (.ref q_16)) h 2 (.int 0)) := hI.sF (fk r_17 (show fsm _ _ ft from trivial))
  replace hM : Sm md_n_Service g (sF (sF g_23 h 1 (.ref q_16)) h 2 (.int 0)) := hM.tr hE (Sm_sF (by rw [r_17]; rfl))
  replace hE : Ex g (sF (sF g_23 h 1 (.ref q_16)) h 2 (.int 0)) := hE
  refine lv_aload_n hx hb dX3_init_27 rfl (lv_at hl 0 rfl) ?_
  refine lv_iconst (v := 0) hx hb dX3_init_28 (by decide) ?_
  refine t_put0 (ci := 3) (v := .int 0) hB hT (ro_ci r_17 rfl) (ro_n0 r_17 (by decide)) rfl 3 (by decide) k_152 (Or.inl rfl) rfl rfl dX3_init_29 (fun H locs hT => ?_)
  replace hI : Inv (sF (sF (sF g_23 h 1 (.ref q_16)) h 2 (.int 0)) h 3 (.int 0)) := hI.sF (fk r_17 (show fsm _ _ ft from trivial))
  replace hM : Sm md_n_Service g (sF (sF (sF g_23 h 1 (.ref q_16)) h 2 (.int 0)) h 3 (.int 0)) := hM.tr hE (Sm_sF (by rw [r_17]; rfl))
  replace hE : Ex g (sF (sF (sF g_23 h 1 (.ref q_16)) h 2 (.int 0)) h 3 (.int 0)) := hE
  refine lv_aload_n hx hb dX3_init_32 rfl (lv_at hl 0 rfl) ?_
  refine lv_bipush (v := 10) hx hb dX3_init_33 (by decide) ?_
  refine t_put0 (ci := 3) (v := .int 10) hB hT (ro_ci r_17 rfl) (ro_n0 r_17 (by decide)) rfl 4 (by decide) k_155 (Or.inl rfl) rfl rfl dX3_init_35 (fun H locs hT => ?_)
  replace hI : Inv (sF (sF (sF (sF g_23 h 1 (.ref q_16)) h 2 (.int 0)) h 3 (.int 0)) h 4 (.int 10)) := hI.sF (fk r_17 (show fsm _ _ ft from trivial))
  replace hM : Sm md_n_Service g (sF (sF (sF (sF g_23 h 1 (.ref q_16)) h 2 (.int 0)) h 3 (.int 0)) h 4 (.int 10)) := hM.tr hE (Sm_sF (by rw [r_17]; rfl))
  replace hE : Ex g (sF (sF (sF (sF g_23 h 1 (.ref q_16)) h 2 (.int 0)) h 3 (.int 0)) h 4 (.int 10)) := hE
  refine lv_aload_n hx hb dX3_init_38 rfl (lv_at hl 0 rfl) ?_
  refine lv_iconst (v := 0) hx hb dX3_init_39 (by decide) ?_
  refine t_put0 (ci := 3) (v := .int 0) hB hT (ro_ci r_17 rfl) (ro_n0 r_17 (by decide)) rfl 5 (by decide) k_158 (Or.inl rfl) rfl rfl dX3_init_40 (fun H locs hT => ?_)
  replace hI : Inv (sF (sF (sF (sF (sF g_23 h 1 (.ref q_16)) h 2 (.int 0)) h 3 (.int 0)) h 4 (.int 10)) h 5 (.int 0)) := hI.sF (fk r_17 (show fsm _ _ ft from trivial))
  replace hM : Sm md_n_Service g (sF (sF (sF (sF (sF g_23 h 1 (.ref q_16)) h 2 (.int 0)) h 3 (.int 0)) h 4 (.int 10)) h 5 (.int 0)) := hM.tr hE (Sm_sF (by rw [r_17]; rfl))
  replace hE : Ex g (sF (sF (sF (sF (sF g_23 h 1 (.ref q_16)) h 2 (.int 0)) h 3 (.int 0)) h 4 (.int 10)) h 5 (.int 0)) := hE
  refine lv_aload_n hx hb dX3_init_43 rfl (lv_at hl 0 rfl) ?_
  refine lv_bipush (v := 16) hx hb dX3_init_44 (by decide) ?_
  refine t_newi (N' := 16) hB hT 50 (by decide) k_101 (by decide) (by decide) (by decide) (Nat.le_of_ble_eq_true rfl) (Nat.le_of_ble_eq_true rfl) dX3_init_46 (fun q_24 H o_q_24 hT => ?_)
  have z_q_24 : g.1 q_24 = 0 := hE.z0 o_q_24
  replace hI : Inv (sA (sF (sF (sF (sF (sF g_23 h 1 (.ref q_16)) h 2 (.int 0)) h 3 (.int 0)) h 4 (.int 10)) h 5 (.int 0)) q_24 50 16) := hI.newi o_q_24 (by decide) (fun _ => rfl) trivial (fun _ => trivial)
  replace hM : Sm md_n_Service g (sA (sF (sF (sF (sF (sF g_23 h 1 (.ref q_16)) h 2 (.int 0)) h 3 (.int 0)) h 4 (.int 10)) h 5 (.int 0)) q_24 50 16) := hM.tr hE (Sm.push o_q_24 sA_g)
  replace hE : Ex g (sA (sF (sF (sF (sF (sF g_23 h 1 (.ref q_16)) h 2 (.int 0)) h 3 (.int 0)) h 4 (.int 10)) h 5 (.int 0)) q_24 50 16) := hE.tr (Ex.push o_q_24 sA_g)
  have r_25 : (sA (sF (sF (sF (sF (sF g_23 h 1 (.ref q_16)) h 2 (.int 0)) h 3 (.int 0)) h 4 (.int 10)) h 5 (.int 0)) q_24 50 16).1 h = 14 := ((sA_g h (ne0 r_17 o_q_24 (by decide))).1.trans r_17)
  have r_26 : (sA (sF (sF (sF (sF (sF g_23 h 1 (.ref q_16)) h 2 (.int 0)) h 3 (.int 0)) h 4 (.int 10)) h 5 (.int 0)) q_24 50 16).1 q_1 = 3 := ((sA_g q_1 (ne0 r_18 o_q_24 (by decide))).1.trans r_18)
  have r_27 : (sA (sF (sF (sF (sF (sF g_23 h 1 (.ref q_16)) h 2 (.int 0)) h 3 (.int 0)) h 4 (.int 10)) h 5 (.int 0)) q_24 50 16).1 q_16 = 50 := ((sA_g q_16 (ne0 r_19 o_q_24 (by decide))).1.trans r_19)
  have r_28 : (sA (sF (sF (sF (sF (sF g_23 h 1 (.ref q_16)) h 2 (.int 0)) h 3 (.int 0)) h 4 (.int 10)) h 5 (.int 0)) q_24 50 16).1 q_24 = 50 := sA_r
  have n_29 : (sA (sF (sF (sF (sF (sF g_23 h 1 (.ref q_16)) h 2 (.int 0)) h 3 (.int 0)) h 4 (.int 10)) h 5 (.int 0)) q_24 50 16).2.2.1 q_16 = 4 := ((sA_g q_16 (ne0 r_19 o_q_24 (by decide))).2.2.1.trans n_20)
  have n_30 : (sA (sF (sF (sF (sF (sF g_23 h 1 (.ref q_16)) h 2 (.int 0)) h 3 (.int 0)) h 4 (.int 10)) h 5 (.int 0)) q_24 50 16).2.2.1 q_24 = 16 := sA_n
  have kn_31 : (sA (sF (sF (sF (sF (sF g_23 h 1 (.ref q_16)) h 2 (.int 0)) h 3 (.int 0)) h 4 (.int 10)) h 5 (.int 0)) q_24 50 16).2.1 q_1 3 = .int 0 := ((congrFun (sA_g q_1 (ne0 r_18 o_q_24 (by decide))).2.1 3).trans (sF_k (sF_k (sF_a (sF_k (sF_k kn_21 (by decide)) (by decide)) (ro_ne r_18 r_17 (by decide))) (by decide)) (by decide)))
  have kn_32 : (sA (sF (sF (sF (sF (sF g_23 h 1 (.ref q_16)) h 2 (.int 0)) h 3 (.int 0)) h 4 (.int 10)) h 5 (.int 0)) q_24 50 16).2.1 h 0 = .ref q_1 := ((congrFun (sA_g h (ne0 r_17 o_q_24 (by decide))).2.1 0).trans (sF_k (sF_k (sF_k (sF_k (sF_k kn_22 (by decide)) (by decide)) (by decide)) (by decide)) (by decide)))
  have kn_33 : (sA (sF (sF (sF (sF (sF g_23 h 1 (.ref q_16)) h 2 (.int 0)) h 3 (.int 0)) h 4 (.int 10)) h 5 (.int 0)) q_24 50 16).2.1 h 1 = .ref q_16 := ((congrFun (sA_g h (ne0 r_17 o_q_24 (by decide))).2.1 1).trans (sF_k (sF_k (sF_k (sF_k sF_eq (by decide)) (by decide)) (by decide)) (by decide)))
  have kn_34 : (sA (sF (sF (sF (sF (sF g_23 h 1 (.ref q_16)) h 2 (.int 0)) h 3 (.int 0)) h 4 (.int 10)) h 5 (.int 0)) q_24 50 16).2.1 h 2 = .int 0 := ((congrFun (sA_g h (ne0 r_17 o_q_24 (by decide))).2.1 2).trans (sF_k (sF_k (sF_k sF_eq (by decide)) (by decide)) (by decide)))
  have kn_35 : (sA (sF (sF (sF (sF (sF g_23 h 1 (.ref q_16)) h 2 (.int 0)) h 3 (.int 0)) h 4 (.int 10)) h 5 (.int 0)) q_24 50 16).2.1 h 3 = .int 0 := ((congrFun (sA_g h (ne0 r_17 o_q_24 (by decide))).2.1 3).trans (sF_k (sF_k sF_eq (by decide)) (by decide)))
  have kn_36 : (sA (sF (sF (sF (sF (sF g_23 h 1 (.ref q_16)) h 2 (.int 0)) h 3 (.int 0)) h 4 (.int 10)) h 5 (.int 0)) q_24 50 16).2.1 h 4 = .int 10 := ((congrFun (sA_g h (ne0 r_17 o_q_24 (by decide))).2.1 4).trans (sF_k sF_eq (by decide)))
  have kn_37 : (sA (sF (sF (sF (sF (sF g_23 h 1 (.ref q_16)) h 2 (.int 0)) h 3 (.int 0)) h 4 (.int 10)) h 5 (.int 0)) q_24 50 16).2.1 h 5 = .int 0 := ((congrFun (sA_g h (ne0 r_17 o_q_24 (by decide))).2.1 5).trans sF_eq)
  generalize (sA (sF (sF (sF (sF (sF g_23 h 1 (.ref q_16)) h 2 (.int 0)) h 3 (.int 0)) h 4 (.int 10)) h 5 (.int 0)) q_24 50 16) = g_38 at hT hI hM hE r_25 r_26 r_27 r_28 n_29 n_30 kn_31 kn_32 kn_33 kn_34 kn_35 kn_36 kn_37
  clear kn_21 kn_22 n_20 r_17 r_18 r_19
  refine W.widen (k := 6) (n := 48) (Nat.le_of_ble_eq_true rfl) (Nat.le_of_ble_eq_true rfl) ?_
  refine t_put0 (ci := 3) (v := .ref q_24) hB hT (ro_ci r_25 rfl) (ro_n0 r_25 (by decide)) rfl 6 (by decide) k_159 (Or.inr ⟨hin, rfl⟩) rfl rfl dX3_init_48 (fun H locs hT => ?_)
  replace hI : Inv (sF g_38 h 6 (.ref q_24)) := hI.sF (fk r_25 (show fsm _ _ ft from trivial))
  replace hM : Sm md_n_Service g (sF g_38 h 6 (.ref q_24)) := hM.tr hE (Sm_sF (by rw [r_25]; rfl))
  replace hE : Ex g (sF g_38 h 6 (.ref q_24)) := hE
  refine lv_aload_n hx hb dX3_init_51 rfl (lv_at hl 0 rfl) ?_
  refine lv_bipush (v := 16) hx hb dX3_init_52 (by decide) ?_
  refine t_newi (N' := 16) hB hT 50 (by decide) k_101 (by decide) (by decide) (by decide) (Nat.le_of_ble_eq_true rfl) (Nat.le_of_ble_eq_true rfl) dX3_init_54 (fun q_39 H o_q_39 hT => ?_)
  have z_q_39 : g.1 q_39 = 0 := hE.z0 o_q_39
  replace hI : Inv (sA (sF g_38 h 6 (.ref q_24)) q_39 50 16) := hI.newi o_q_39 (by decide) (fun _ => rfl) trivial (fun _ => trivial)
  replace hM : Sm md_n_Service g (sA (sF g_38 h 6 (.ref q_24)) q_39 50 16) := hM.tr hE (Sm.push o_q_39 sA_g)
  replace hE : Ex g (sA (sF g_38 h 6 (.ref q_24)) q_39 50 16) := hE.tr (Ex.push o_q_39 sA_g)
  have r_40 : (sA (sF g_38 h 6 (.ref q_24)) q_39 50 16).1 h = 14 := ((sA_g h (ne0 r_25 o_q_39 (by decide))).1.trans r_25)
  have r_41 : (sA (sF g_38 h 6 (.ref q_24)) q_39 50 16).1 q_1 = 3 := ((sA_g q_1 (ne0 r_26 o_q_39 (by decide))).1.trans r_26)
  have r_42 : (sA (sF g_38 h 6 (.ref q_24)) q_39 50 16).1 q_16 = 50 := ((sA_g q_16 (ne0 r_27 o_q_39 (by decide))).1.trans r_27)
  have r_43 : (sA (sF g_38 h 6 (.ref q_24)) q_39 50 16).1 q_24 = 50 := ((sA_g q_24 (ne0 r_28 o_q_39 (by decide))).1.trans r_28)
  have r_44 : (sA (sF g_38 h 6 (.ref q_24)) q_39 50 16).1 q_39 = 50 := sA_r
  have n_45 : (sA (sF g_38 h 6 (.ref q_24)) q_39 50 16).2.2.1 q_16 = 4 := ((sA_g q_16 (ne0 r_27 o_q_39 (by decide))).2.2.1.trans n_29)
  have n_46 : (sA (sF g_38 h 6 (.ref q_24)) q_39 50 16).2.2.1 q_24 = 16 := ((sA_g q_24 (ne0 r_28 o_q_39 (by decide))).2.2.1.trans n_30)
  have n_47 : (sA (sF g_38 h 6 (.ref q_24)) q_39 50 16).2.2.1 q_39 = 16 := sA_n
  have kn_48 : (sA (sF g_38 h 6 (.ref q_24)) q_39 50 16).2.1 q_1 3 = .int 0 := ((congrFun (sA_g q_1 (ne0 r_26 o_q_39 (by decide))).2.1 3).trans (sF_k kn_31 (by decide)))
  have kn_49 : (sA (sF g_38 h 6 (.ref q_24)) q_39 50 16).2.1 h 0 = .ref q_1 := ((congrFun (sA_g h (ne0 r_25 o_q_39 (by decide))).2.1 0).trans (sF_k kn_32 (by decide)))
  have kn_50 : (sA (sF g_38 h 6 (.ref q_24)) q_39 50 16).2.1 h 1 = .ref q_16 := ((congrFun (sA_g h (ne0 r_25 o_q_39 (by decide))).2.1 1).trans (sF_k kn_33 (by decide)))
  have kn_51 : (sA (sF g_38 h 6 (.ref q_24)) q_39 50 16).2.1 h 2 = .int 0 := ((congrFun (sA_g h (ne0 r_25 o_q_39 (by decide))).2.1 2).trans (sF_k kn_34 (by decide)))
  have kn_52 : (sA (sF g_38 h 6 (.ref q_24)) q_39 50 16).2.1 h 3 = .int 0 := ((congrFun (sA_g h (ne0 r_25 o_q_39 (by decide))).2.1 3).trans (sF_k kn_35 (by decide)))
  have kn_53 : (sA (sF g_38 h 6 (.ref q_24)) q_39 50 16).2.1 h 4 = .int 10 := ((congrFun (sA_g h (ne0 r_25 o_q_39 (by decide))).2.1 4).trans (sF_k kn_36 (by decide)))
  have kn_54 : (sA (sF g_38 h 6 (.ref q_24)) q_39 50 16).2.1 h 5 = .int 0 := ((congrFun (sA_g h (ne0 r_25 o_q_39 (by decide))).2.1 5).trans (sF_k kn_37 (by decide)))
  have kn_55 : (sA (sF g_38 h 6 (.ref q_24)) q_39 50 16).2.1 h 6 = .ref q_24 := ((congrFun (sA_g h (ne0 r_25 o_q_39 (by decide))).2.1 6).trans sF_eq)
  generalize (sA (sF g_38 h 6 (.ref q_24)) q_39 50 16) = g_56 at hT hI hM hE r_40 r_41 r_42 r_43 r_44 n_45 n_46 n_47 kn_48 kn_49 kn_50 kn_51 kn_52 kn_53 kn_54 kn_55
  clear kn_31 kn_32 kn_33 kn_34 kn_35 kn_36 kn_37 n_29 n_30 r_25 r_26 r_27 r_28
  refine W.widen (k := 7) (n := 64) (Nat.le_of_ble_eq_true rfl) (Nat.le_of_ble_eq_true rfl) ?_
  refine t_put0 (ci := 3) (v := .ref q_39) hB hT (ro_ci r_40 rfl) (ro_n0 r_40 (by decide)) rfl 7 (by decide) k_160 (Or.inr ⟨hin, rfl⟩) rfl rfl dX3_init_56 (fun H locs hT => ?_)
  replace hI : Inv (sF g_56 h 7 (.ref q_39)) := hI.sF (fk r_40 (show fsm _ _ ft from trivial))
  replace hM : Sm md_n_Service g (sF g_56 h 7 (.ref q_39)) := hM.tr hE (Sm_sF (by rw [r_40]; rfl))
  replace hE : Ex g (sF g_56 h 7 (.ref q_39)) := hE
  refine lv_aload_n hx hb dX3_init_59 rfl (lv_at hl 0 rfl) ?_
  refine lv_bipush (v := 16) hx hb dX3_init_60 (by decide) ?_
  refine t_newi (N' := 16) hB hT 50 (by decide) k_101 (by decide) (by decide) (by decide) (Nat.le_of_ble_eq_true rfl) (Nat.le_of_ble_eq_true rfl) dX3_init_62 (fun q_57 H o_q_57 hT => ?_)
  have z_q_57 : g.1 q_57 = 0 := hE.z0 o_q_57
  replace hI : Inv (sA (sF g_56 h 7 (.ref q_39)) q_57 50 16) := hI.newi o_q_57 (by decide) (fun _ => rfl) trivial (fun _ => trivial)
  replace hM : Sm md_n_Service g (sA (sF g_56 h 7 (.ref q_39)) q_57 50 16) := hM.tr hE (Sm.push o_q_57 sA_g)
  replace hE : Ex g (sA (sF g_56 h 7 (.ref q_39)) q_57 50 16) := hE.tr (Ex.push o_q_57 sA_g)
  have r_58 : (sA (sF g_56 h 7 (.ref q_39)) q_57 50 16).1 h = 14 := ((sA_g h (ne0 r_40 o_q_57 (by decide))).1.trans r_40)
  have r_59 : (sA (sF g_56 h 7 (.ref q_39)) q_57 50 16).1 q_1 = 3 := ((sA_g q_1 (ne0 r_41 o_q_57 (by decide))).1.trans r_41)
  have r_60 : (sA (sF g_56 h 7 (.ref q_39)) q_57 50 16).1 q_16 = 50 := ((sA_g q_16 (ne0 r_42 o_q_57 (by decide))).1.trans r_42)
  have r_61 : (sA (sF g_56 h 7 (.ref q_39)) q_57 50 16).1 q_24 = 50 := ((sA_g q_24 (ne0 r_43 o_q_57 (by decide))).1.trans r_43)
  have r_62 : (sA (sF g_56 h 7 (.ref q_39)) q_57 50 16).1 q_39 = 50 := ((sA_g q_39 (ne0 r_44 o_q_57 (by decide))).1.trans r_44)
  have r_63 : (sA (sF g_56 h 7 (.ref q_39)) q_57 50 16).1 q_57 = 50 := sA_r
  have n_64 : (sA (sF g_56 h 7 (.ref q_39)) q_57 50 16).2.2.1 q_16 = 4 := ((sA_g q_16 (ne0 r_42 o_q_57 (by decide))).2.2.1.trans n_45)
  have n_65 : (sA (sF g_56 h 7 (.ref q_39)) q_57 50 16).2.2.1 q_24 = 16 := ((sA_g q_24 (ne0 r_43 o_q_57 (by decide))).2.2.1.trans n_46)
  have n_66 : (sA (sF g_56 h 7 (.ref q_39)) q_57 50 16).2.2.1 q_39 = 16 := ((sA_g q_39 (ne0 r_44 o_q_57 (by decide))).2.2.1.trans n_47)
  have n_67 : (sA (sF g_56 h 7 (.ref q_39)) q_57 50 16).2.2.1 q_57 = 16 := sA_n
  have kn_68 : (sA (sF g_56 h 7 (.ref q_39)) q_57 50 16).2.1 q_1 3 = .int 0 := ((congrFun (sA_g q_1 (ne0 r_41 o_q_57 (by decide))).2.1 3).trans (sF_k kn_48 (by decide)))
  have kn_69 : (sA (sF g_56 h 7 (.ref q_39)) q_57 50 16).2.1 h 0 = .ref q_1 := ((congrFun (sA_g h (ne0 r_40 o_q_57 (by decide))).2.1 0).trans (sF_k kn_49 (by decide)))
  have kn_70 : (sA (sF g_56 h 7 (.ref q_39)) q_57 50 16).2.1 h 1 = .ref q_16 := ((congrFun (sA_g h (ne0 r_40 o_q_57 (by decide))).2.1 1).trans (sF_k kn_50 (by decide)))
  have kn_71 : (sA (sF g_56 h 7 (.ref q_39)) q_57 50 16).2.1 h 2 = .int 0 := ((congrFun (sA_g h (ne0 r_40 o_q_57 (by decide))).2.1 2).trans (sF_k kn_51 (by decide)))
  have kn_72 : (sA (sF g_56 h 7 (.ref q_39)) q_57 50 16).2.1 h 3 = .int 0 := ((congrFun (sA_g h (ne0 r_40 o_q_57 (by decide))).2.1 3).trans (sF_k kn_52 (by decide)))
  have kn_73 : (sA (sF g_56 h 7 (.ref q_39)) q_57 50 16).2.1 h 4 = .int 10 := ((congrFun (sA_g h (ne0 r_40 o_q_57 (by decide))).2.1 4).trans (sF_k kn_53 (by decide)))
  have kn_74 : (sA (sF g_56 h 7 (.ref q_39)) q_57 50 16).2.1 h 5 = .int 0 := ((congrFun (sA_g h (ne0 r_40 o_q_57 (by decide))).2.1 5).trans (sF_k kn_54 (by decide)))
  have kn_75 : (sA (sF g_56 h 7 (.ref q_39)) q_57 50 16).2.1 h 6 = .ref q_24 := ((congrFun (sA_g h (ne0 r_40 o_q_57 (by decide))).2.1 6).trans (sF_k kn_55 (by decide)))
  have kn_76 : (sA (sF g_56 h 7 (.ref q_39)) q_57 50 16).2.1 h 7 = .ref q_39 := ((congrFun (sA_g h (ne0 r_40 o_q_57 (by decide))).2.1 7).trans sF_eq)
  generalize (sA (sF g_56 h 7 (.ref q_39)) q_57 50 16) = g_77 at hT hI hM hE r_58 r_59 r_60 r_61 r_62 r_63 n_64 n_65 n_66 n_67 kn_68 kn_69 kn_70 kn_71 kn_72 kn_73 kn_74 kn_75 kn_76
  clear kn_48 kn_49 kn_50 kn_51 kn_52 kn_53 kn_54 kn_55 n_45 n_46 n_47 r_40 r_41 r_42 r_43 r_44
  refine W.widen (k := 8) (n := 80) (Nat.le_of_ble_eq_true rfl) (Nat.le_of_ble_eq_true rfl) ?_
  refine t_put0 (ci := 3) (v := .ref q_57) hB hT (ro_ci r_58 rfl) (ro_n0 r_58 (by decide)) rfl 8 (by decide) k_161 (Or.inr ⟨hin, rfl⟩) rfl rfl dX3_init_64 (fun H locs hT => ?_)
  replace hI : Inv (sF g_77 h 8 (.ref q_57)) := hI.sF (fk r_58 (show fsm _ _ ft from trivial))
  replace hM : Sm md_n_Service g (sF g_77 h 8 (.ref q_57)) := hM.tr hE (Sm_sF (by rw [r_58]; rfl))
  replace hE : Ex g (sF g_77 h 8 (.ref q_57)) := hE
  refine lv_aload_n hx hb dX3_init_67 rfl (lv_at hl 0 rfl) ?_
  refine lv_bipush (v := 16) hx hb dX3_init_68 (by decide) ?_
  refine t_newi (N' := 16) hB hT 50 (by decide) k_101 (by decide) (by decide) (by decide) (Nat.le_of_ble_eq_true rfl) (Nat.le_of_ble_eq_true rfl) dX3_init_70 (fun q_78 H o_q_78 hT => ?_)
  have z_q_78 : g.1 q_78 = 0 := hE.z0 o_q_78
  replace hI : Inv (sA (sF g_77 h 8 (.ref q_57)) q_78 50 16) := hI.newi o_q_78 (by decide) (fun _ => rfl) trivial (fun _ => trivial)
  replace hM : Sm md_n_Service g (sA (sF g_77 h 8 (.ref q_57)) q_78 50 16) := hM.tr hE (Sm.push o_q_78 sA_g)
  replace hE : Ex g (sA (sF g_77 h 8 (.ref q_57)) q_78 50 16) := hE.tr (Ex.push o_q_78 sA_g)
  have r_79 : (sA (sF g_77 h 8 (.ref q_57)) q_78 50 16).1 h = 14 := ((sA_g h (ne0 r_58 o_q_78 (by decide))).1.trans r_58)
  have r_80 : (sA (sF g_77 h 8 (.ref q_57)) q_78 50 16).1 q_1 = 3 := ((sA_g q_1 (ne0 r_59 o_q_78 (by decide))).1.trans r_59)
  have r_81 : (sA (sF g_77 h 8 (.ref q_57)) q_78 50 16).1 q_16 = 50 := ((sA_g q_16 (ne0 r_60 o_q_78 (by decide))).1.trans r_60)
  have r_82 : (sA (sF g_77 h 8 (.ref q_57)) q_78 50 16).1 q_24 = 50 := ((sA_g q_24 (ne0 r_61 o_q_78 (by decide))).1.trans r_61)
  have r_83 : (sA (sF g_77 h 8 (.ref q_57)) q_78 50 16).1 q_39 = 50 := ((sA_g q_39 (ne0 r_62 o_q_78 (by decide))).1.trans r_62)
  have r_84 : (sA (sF g_77 h 8 (.ref q_57)) q_78 50 16).1 q_57 = 50 := ((sA_g q_57 (ne0 r_63 o_q_78 (by decide))).1.trans r_63)
  have r_85 : (sA (sF g_77 h 8 (.ref q_57)) q_78 50 16).1 q_78 = 50 := sA_r
  have n_86 : (sA (sF g_77 h 8 (.ref q_57)) q_78 50 16).2.2.1 q_16 = 4 := ((sA_g q_16 (ne0 r_60 o_q_78 (by decide))).2.2.1.trans n_64)
  have n_87 : (sA (sF g_77 h 8 (.ref q_57)) q_78 50 16).2.2.1 q_24 = 16 := ((sA_g q_24 (ne0 r_61 o_q_78 (by decide))).2.2.1.trans n_65)
  have n_88 : (sA (sF g_77 h 8 (.ref q_57)) q_78 50 16).2.2.1 q_39 = 16 := ((sA_g q_39 (ne0 r_62 o_q_78 (by decide))).2.2.1.trans n_66)
  have n_89 : (sA (sF g_77 h 8 (.ref q_57)) q_78 50 16).2.2.1 q_57 = 16 := ((sA_g q_57 (ne0 r_63 o_q_78 (by decide))).2.2.1.trans n_67)
  have n_90 : (sA (sF g_77 h 8 (.ref q_57)) q_78 50 16).2.2.1 q_78 = 16 := sA_n
  have kn_91 : (sA (sF g_77 h 8 (.ref q_57)) q_78 50 16).2.1 q_1 3 = .int 0 := ((congrFun (sA_g q_1 (ne0 r_59 o_q_78 (by decide))).2.1 3).trans (sF_k kn_68 (by decide)))
  have kn_92 : (sA (sF g_77 h 8 (.ref q_57)) q_78 50 16).2.1 h 0 = .ref q_1 := ((congrFun (sA_g h (ne0 r_58 o_q_78 (by decide))).2.1 0).trans (sF_k kn_69 (by decide)))
  have kn_93 : (sA (sF g_77 h 8 (.ref q_57)) q_78 50 16).2.1 h 1 = .ref q_16 := ((congrFun (sA_g h (ne0 r_58 o_q_78 (by decide))).2.1 1).trans (sF_k kn_70 (by decide)))
  have kn_94 : (sA (sF g_77 h 8 (.ref q_57)) q_78 50 16).2.1 h 2 = .int 0 := ((congrFun (sA_g h (ne0 r_58 o_q_78 (by decide))).2.1 2).trans (sF_k kn_71 (by decide)))
  have kn_95 : (sA (sF g_77 h 8 (.ref q_57)) q_78 50 16).2.1 h 3 = .int 0 := ((congrFun (sA_g h (ne0 r_58 o_q_78 (by decide))).2.1 3).trans (sF_k kn_72 (by decide)))
  have kn_96 : (sA (sF g_77 h 8 (.ref q_57)) q_78 50 16).2.1 h 4 = .int 10 := ((congrFun (sA_g h (ne0 r_58 o_q_78 (by decide))).2.1 4).trans (sF_k kn_73 (by decide)))
  have kn_97 : (sA (sF g_77 h 8 (.ref q_57)) q_78 50 16).2.1 h 5 = .int 0 := ((congrFun (sA_g h (ne0 r_58 o_q_78 (by decide))).2.1 5).trans (sF_k kn_74 (by decide)))
  have kn_98 : (sA (sF g_77 h 8 (.ref q_57)) q_78 50 16).2.1 h 6 = .ref q_24 := ((congrFun (sA_g h (ne0 r_58 o_q_78 (by decide))).2.1 6).trans (sF_k kn_75 (by decide)))
  have kn_99 : (sA (sF g_77 h 8 (.ref q_57)) q_78 50 16).2.1 h 7 = .ref q_39 := ((congrFun (sA_g h (ne0 r_58 o_q_78 (by decide))).2.1 7).trans (sF_k kn_76 (by decide)))
  have kn_100 : (sA (sF g_77 h 8 (.ref q_57)) q_78 50 16).2.1 h 8 = .ref q_57 := ((congrFun (sA_g h (ne0 r_58 o_q_78 (by decide))).2.1 8).trans sF_eq)
  generalize (sA (sF g_77 h 8 (.ref q_57)) q_78 50 16) = g_101 at hT hI hM hE r_79 r_80 r_81 r_82 r_83 r_84 r_85 n_86 n_87 n_88 n_89 n_90 kn_91 kn_92 kn_93 kn_94 kn_95 kn_96 kn_97 kn_98 kn_99 kn_100
  clear kn_68 kn_69 kn_70 kn_71 kn_72 kn_73 kn_74 kn_75 kn_76 n_64 n_65 n_66 n_67 r_58 r_59 r_60 r_61 r_62 r_63
  refine W.widen (k := 9) (n := 96) (Nat.le_of_ble_eq_true rfl) (Nat.le_of_ble_eq_true rfl) ?_
  refine t_put0 (ci := 3) (v := .ref q_78) hB hT (ro_ci r_79 rfl) (ro_n0 r_79 (by decide)) rfl 9 (by decide) k_162 (Or.inr ⟨hin, rfl⟩) rfl rfl dX3_init_72 (fun H locs hT => ?_)
  replace hI : Inv (sF g_101 h 9 (.ref q_78)) := hI.sF (fk r_79 (show fsm _ _ ft from trivial))
  replace hM : Sm md_n_Service g (sF g_101 h 9 (.ref q_78)) := hM.tr hE (Sm_sF (by rw [r_79]; rfl))
  replace hE : Ex g (sF g_101 h 9 (.ref q_78)) := hE
  refine lv_aload_n hx hb dX3_init_75 rfl (lv_at hl 0 rfl) ?_
  refine lv_iconst (v := (-1)) hx hb dX3_init_76 (by decide) ?_
  refine t_put0 (ci := 3) (v := .int (-1)) hB hT (ro_ci r_79 rfl) (ro_n0 r_79 (by decide)) rfl 10 (by decide) k_163 (Or.inl rfl) rfl rfl dX3_init_77 (fun H locs hT => ?_)
  replace hI : Inv (sF (sF g_101 h 9 (.ref q_78)) h 10 (.int (-1))) := hI.sF (fk r_79 (show fsm _ _ ft from trivial))
  replace hM : Sm md_n_Service g (sF (sF g_101 h 9 (.ref q_78)) h 10 (.int (-1))) := hM.tr hE (Sm_sF (by rw [r_79]; rfl))
  replace hE : Ex g (sF (sF g_101 h 9 (.ref q_78)) h 10 (.int (-1))) := hE
  refine lv_aload_n hx hb dX3_init_80 rfl (lv_at hl 0 rfl) ?_
  refine lv_iconst (v := (-1)) hx hb dX3_init_81 (by decide) ?_
  refine t_put0 (ci := 3) (v := .int (-1)) hB hT (ro_ci r_79 rfl) (ro_n0 r_79 (by decide)) rfl 11 (by decide) k_164 (Or.inl rfl) rfl rfl dX3_init_82 (fun H locs hT => ?_)
  replace hI : Inv (sF (sF (sF g_101 h 9 (.ref q_78)) h 10 (.int (-1))) h 11 (.int (-1))) := hI.sF (fk r_79 (show fsm _ _ ft from trivial))
  replace hM : Sm md_n_Service g (sF (sF (sF g_101 h 9 (.ref q_78)) h 10 (.int (-1))) h 11 (.int (-1))) := hM.tr hE (Sm_sF (by rw [r_79]; rfl))
  replace hE : Ex g (sF (sF (sF g_101 h 9 (.ref q_78)) h 10 (.int (-1))) h 11 (.int (-1))) := hE
  refine lv_aload_n hx hb dX3_init_85 rfl (lv_at hl 0 rfl) ?_
  refine lv_bipush (v := 8) hx hb dX3_init_86 (by decide) ?_
  refine t_newi (N' := 8) hB hT 50 (by decide) k_101 (by decide) (by decide) (by decide) (Nat.le_of_ble_eq_true rfl) (Nat.le_of_ble_eq_true rfl) dX3_init_88 (fun q_102 H o_q_102 hT => ?_)
  have z_q_102 : g.1 q_102 = 0 := hE.z0 o_q_102
  replace hI : Inv (sA (sF (sF (sF g_101 h 9 (.ref q_78)) h 10 (.int (-1))) h 11 (.int (-1))) q_102 50 8) := hI.newi o_q_102 (by decide) (fun _ => rfl) trivial (fun _ => trivial)
  replace hM : Sm md_n_Service g (sA (sF (sF (sF g_101 h 9 (.ref q_78)) h 10 (.int (-1))) h 11 (.int (-1))) q_102 50 8) := hM.tr hE (Sm.push o_q_102 sA_g)
  replace hE : Ex g (sA (sF (sF (sF g_101 h 9 (.ref q_78)) h 10 (.int (-1))) h 11 (.int (-1))) q_102 50 8) := hE.tr (Ex.push o_q_102 sA_g)
  have r_103 : (sA (sF (sF (sF g_101 h 9 (.ref q_78)) h 10 (.int (-1))) h 11 (.int (-1))) q_102 50 8).1 h = 14 := ((sA_g h (ne0 r_79 o_q_102 (by decide))).1.trans r_79)
  have r_104 : (sA (sF (sF (sF g_101 h 9 (.ref q_78)) h 10 (.int (-1))) h 11 (.int (-1))) q_102 50 8).1 q_1 = 3 := ((sA_g q_1 (ne0 r_80 o_q_102 (by decide))).1.trans r_80)
  have r_105 : (sA (sF (sF (sF g_101 h 9 (.ref q_78)) h 10 (.int (-1))) h 11 (.int (-1))) q_102 50 8).1 q_16 = 50 := ((sA_g q_16 (ne0 r_81 o_q_102 (by decide))).1.trans r_81)
  have r_106 : (sA (sF (sF (sF g_101 h 9 (.ref q_78)) h 10 (.int (-1))) h 11 (.int (-1))) q_102 50 8).1 q_24 = 50 := ((sA_g q_24 (ne0 r_82 o_q_102 (by decide))).1.trans r_82)
  have r_107 : (sA (sF (sF (sF g_101 h 9 (.ref q_78)) h 10 (.int (-1))) h 11 (.int (-1))) q_102 50 8).1 q_39 = 50 := ((sA_g q_39 (ne0 r_83 o_q_102 (by decide))).1.trans r_83)
  have r_108 : (sA (sF (sF (sF g_101 h 9 (.ref q_78)) h 10 (.int (-1))) h 11 (.int (-1))) q_102 50 8).1 q_57 = 50 := ((sA_g q_57 (ne0 r_84 o_q_102 (by decide))).1.trans r_84)
  have r_109 : (sA (sF (sF (sF g_101 h 9 (.ref q_78)) h 10 (.int (-1))) h 11 (.int (-1))) q_102 50 8).1 q_78 = 50 := ((sA_g q_78 (ne0 r_85 o_q_102 (by decide))).1.trans r_85)
  have r_110 : (sA (sF (sF (sF g_101 h 9 (.ref q_78)) h 10 (.int (-1))) h 11 (.int (-1))) q_102 50 8).1 q_102 = 50 := sA_r
  have n_111 : (sA (sF (sF (sF g_101 h 9 (.ref q_78)) h 10 (.int (-1))) h 11 (.int (-1))) q_102 50 8).2.2.1 q_16 = 4 := ((sA_g q_16 (ne0 r_81 o_q_102 (by decide))).2.2.1.trans n_86)
  have n_112 : (sA (sF (sF (sF g_101 h 9 (.ref q_78)) h 10 (.int (-1))) h 11 (.int (-1))) q_102 50 8).2.2.1 q_24 = 16 := ((sA_g q_24 (ne0 r_82 o_q_102 (by decide))).2.2.1.trans n_87)
  have n_113 : (sA (sF (sF (sF g_101 h 9 (.ref q_78)) h 10 (.int (-1))) h 11 (.int (-1))) q_102 50 8).2.2.1 q_39 = 16 := ((sA_g q_39 (ne0 r_83 o_q_102 (by decide))).2.2.1.trans n_88)
  have n_114 : (sA (sF (sF (sF g_101 h 9 (.ref q_78)) h 10 (.int (-1))) h 11 (.int (-1))) q_102 50 8).2.2.1 q_57 = 16 := ((sA_g q_57 (ne0 r_84 o_q_102 (by decide))).2.2.1.trans n_89)
  have n_115 : (sA (sF (sF (sF g_101 h 9 (.ref q_78)) h 10 (.int (-1))) h 11 (.int (-1))) q_102 50 8).2.2.1 q_78 = 16 := ((sA_g q_78 (ne0 r_85 o_q_102 (by decide))).2.2.1.trans n_90)
  have n_116 : (sA (sF (sF (sF g_101 h 9 (.ref q_78)) h 10 (.int (-1))) h 11 (.int (-1))) q_102 50 8).2.2.1 q_102 = 8 := sA_n
  have kn_117 : (sA (sF (sF (sF g_101 h 9 (.ref q_78)) h 10 (.int (-1))) h 11 (.int (-1))) q_102 50 8).2.1 q_1 3 = .int 0 := ((congrFun (sA_g q_1 (ne0 r_80 o_q_102 (by decide))).2.1 3).trans (sF_k (sF_k (sF_k kn_91 (by decide)) (by decide)) (by decide)))
  have kn_118 : (sA (sF (sF (sF g_101 h 9 (.ref q_78)) h 10 (.int (-1))) h 11 (.int (-1))) q_102 50 8).2.1 h 0 = .ref q_1 := ((congrFun (sA_g h (ne0 r_79 o_q_102 (by decide))).2.1 0).trans (sF_k (sF_k (sF_k kn_92 (by decide)) (by decide)) (by decide)))
  have kn_119 : (sA (sF (sF (sF g_101 h 9 (.ref q_78)) h 10 (.int (-1))) h 11 (.int (-1))) q_102 50 8).2.1 h 1 = .ref q_16 := ((congrFun (sA_g h (ne0 r_79 o_q_102 (by decide))).2.1 1).trans (sF_k (sF_k (sF_k kn_93 (by decide)) (by decide)) (by decide)))
  have kn_120 : (sA (sF (sF (sF g_101 h 9 (.ref q_78)) h 10 (.int (-1))) h 11 (.int (-1))) q_102 50 8).2.1 h 2 = .int 0 := ((congrFun (sA_g h (ne0 r_79 o_q_102 (by decide))).2.1 2).trans (sF_k (sF_k (sF_k kn_94 (by decide)) (by decide)) (by decide)))
  have kn_121 : (sA (sF (sF (sF g_101 h 9 (.ref q_78)) h 10 (.int (-1))) h 11 (.int (-1))) q_102 50 8).2.1 h 3 = .int 0 := ((congrFun (sA_g h (ne0 r_79 o_q_102 (by decide))).2.1 3).trans (sF_k (sF_k (sF_k kn_95 (by decide)) (by decide)) (by decide)))
  have kn_122 : (sA (sF (sF (sF g_101 h 9 (.ref q_78)) h 10 (.int (-1))) h 11 (.int (-1))) q_102 50 8).2.1 h 4 = .int 10 := ((congrFun (sA_g h (ne0 r_79 o_q_102 (by decide))).2.1 4).trans (sF_k (sF_k (sF_k kn_96 (by decide)) (by decide)) (by decide)))
  have kn_123 : (sA (sF (sF (sF g_101 h 9 (.ref q_78)) h 10 (.int (-1))) h 11 (.int (-1))) q_102 50 8).2.1 h 5 = .int 0 := ((congrFun (sA_g h (ne0 r_79 o_q_102 (by decide))).2.1 5).trans (sF_k (sF_k (sF_k kn_97 (by decide)) (by decide)) (by decide)))
  have kn_124 : (sA (sF (sF (sF g_101 h 9 (.ref q_78)) h 10 (.int (-1))) h 11 (.int (-1))) q_102 50 8).2.1 h 6 = .ref q_24 := ((congrFun (sA_g h (ne0 r_79 o_q_102 (by decide))).2.1 6).trans (sF_k (sF_k (sF_k kn_98 (by decide)) (by decide)) (by decide)))
  have kn_125 : (sA (sF (sF (sF g_101 h 9 (.ref q_78)) h 10 (.int (-1))) h 11 (.int (-1))) q_102 50 8).2.1 h 7 = .ref q_39 := ((congrFun (sA_g h (ne0 r_79 o_q_102 (by decide))).2.1 7).trans (sF_k (sF_k (sF_k kn_99 (by decide)) (by decide)) (by decide)))
  have kn_126 : (sA (sF (sF (sF g_101 h 9 (.ref q_78)) h 10 (.int (-1))) h 11 (.int (-1))) q_102 50 8).2.1 h 8 = .ref q_57 := ((congrFun (sA_g h (ne0 r_79 o_q_102 (by decide))).2.1 8).trans (sF_k (sF_k (sF_k kn_100 (by decide)) (by decide)) (by decide)))
  have kn_127 : (sA (sF (sF (sF g_101 h 9 (.ref q_78)) h 10 (.int (-1))) h 11 (.int (-1))) q_102 50 8).2.1 h 9 = .ref q_78 := ((congrFun (sA_g h (ne0 r_79 o_q_102 (by decide))).2.1 9).trans (sF_k (sF_k sF_eq (by decide)) (by decide)))
  have kn_128 : (sA (sF (sF (sF g_101 h 9 (.ref q_78)) h 10 (.int (-1))) h 11 (.int (-1))) q_102 50 8).2.1 h 10 = .int (-1) := ((congrFun (sA_g h (ne0 r_79 o_q_102 (by decide))).2.1 10).trans (sF_k sF_eq (by decide)))
  have kn_129 : (sA (sF (sF (sF g_101 h 9 (.ref q_78)) h 10 (.int (-1))) h 11 (.int (-1))) q_102 50 8).2.1 h 11 = .int (-1) := ((congrFun (sA_g h (ne0 r_79 o_q_102 (by decide))).2.1 11).trans sF_eq)
  generalize (sA (sF (sF (sF g_101 h 9 (.ref q_78)) h 10 (.int (-1))) h 11 (.int (-1))) q_102 50 8) = g_130 at hT hI hM hE r_103 r_104 r_105 r_106 r_107 r_108 r_109 r_110 n_111 n_112 n_113 n_114 n_115 n_116 kn_117 kn_118 kn_119 kn_120 kn_121 kn_122 kn_123 kn_124 kn_125 kn_126 kn_127 kn_128 kn_129
  clear kn_100 kn_91 kn_92 kn_93 kn_94 kn_95 kn_96 kn_97 kn_98 kn_99 n_86 n_87 n_88 n_89 n_90 r_79 r_80 r_81 r_82 r_83 r_84 r_85
  refine W.widen (k := 10) (n := 104) (Nat.le_of_ble_eq_true rfl) (Nat.le_of_ble_eq_true rfl) ?_
  refine t_put0 (ci := 3) (v := .ref q_102) hB hT (ro_ci r_103 rfl) (ro_n0 r_103 (by decide)) rfl 12 (by decide) k_165 (Or.inr ⟨hin, rfl⟩) rfl rfl dX3_init_90 (fun H locs hT => ?_)
  replace hI : Inv (sF g_130 h 12 (.ref q_102)) := hI.sF (fk r_103 (show fsm _ _ ft from trivial))
  replace hM : Sm md_n_Service g (sF g_130 h 12 (.ref q_102)) := hM.tr hE (Sm_sF (by rw [r_103]; rfl))
  replace hE : Ex g (sF g_130 h 12 (.ref q_102)) := hE
  refine lv_aload_n hx hb dX3_init_93 rfl (lv_at hl 0 rfl) ?_
  refine lv_bipush (v := 8) hx hb dX3_init_94 (by decide) ?_
  refine t_newi (N' := 8) hB hT 50 (by decide) k_101 (by decide) (by decide) (by decide) (Nat.le_of_ble_eq_true rfl) (Nat.le_of_ble_eq_true rfl) dX3_init_96 (fun q_131 H o_q_131 hT => ?_)
  have z_q_131 : g.1 q_131 = 0 := hE.z0 o_q_131
  replace hI : Inv (sA (sF g_130 h 12 (.ref q_102)) q_131 50 8) := hI.newi o_q_131 (by decide) (fun _ => rfl) trivial (fun _ => trivial)
  replace hM : Sm md_n_Service g (sA (sF g_130 h 12 (.ref q_102)) q_131 50 8) := hM.tr hE (Sm.push o_q_131 sA_g)
  replace hE : Ex g (sA (sF g_130 h 12 (.ref q_102)) q_131 50 8) := hE.tr (Ex.push o_q_131 sA_g)
  have r_132 : (sA (sF g_130 h 12 (.ref q_102)) q_131 50 8).1 h = 14 := ((sA_g h (ne0 r_103 o_q_131 (by decide))).1.trans r_103)
  have r_133 : (sA (sF g_130 h 12 (.ref q_102)) q_131 50 8).1 q_1 = 3 := ((sA_g q_1 (ne0 r_104 o_q_131 (by decide))).1.trans r_104)
  have r_134 : (sA (sF g_130 h 12 (.ref q_102)) q_131 50 8).1 q_16 = 50 := ((sA_g q_16 (ne0 r_105 o_q_131 (by decide))).1.trans r_105)
  have r_135 : (sA (sF g_130 h 12 (.ref q_102)) q_131 50 8).1 q_24 = 50 := ((sA_g q_24 (ne0 r_106 o_q_131 (by decide))).1.trans r_106)
  have r_136 : (sA (sF g_130 h 12 (.ref q_102)) q_131 50 8).1 q_39 = 50 := ((sA_g q_39 (ne0 r_107 o_q_131 (by decide))).1.trans r_107)
  have r_137 : (sA (sF g_130 h 12 (.ref q_102)) q_131 50 8).1 q_57 = 50 := ((sA_g q_57 (ne0 r_108 o_q_131 (by decide))).1.trans r_108)
  have r_138 : (sA (sF g_130 h 12 (.ref q_102)) q_131 50 8).1 q_78 = 50 := ((sA_g q_78 (ne0 r_109 o_q_131 (by decide))).1.trans r_109)
  have r_139 : (sA (sF g_130 h 12 (.ref q_102)) q_131 50 8).1 q_102 = 50 := ((sA_g q_102 (ne0 r_110 o_q_131 (by decide))).1.trans r_110)
  have r_140 : (sA (sF g_130 h 12 (.ref q_102)) q_131 50 8).1 q_131 = 50 := sA_r
  have n_141 : (sA (sF g_130 h 12 (.ref q_102)) q_131 50 8).2.2.1 q_16 = 4 := ((sA_g q_16 (ne0 r_105 o_q_131 (by decide))).2.2.1.trans n_111)
  have n_142 : (sA (sF g_130 h 12 (.ref q_102)) q_131 50 8).2.2.1 q_24 = 16 := ((sA_g q_24 (ne0 r_106 o_q_131 (by decide))).2.2.1.trans n_112)
  have n_143 : (sA (sF g_130 h 12 (.ref q_102)) q_131 50 8).2.2.1 q_39 = 16 := ((sA_g q_39 (ne0 r_107 o_q_131 (by decide))).2.2.1.trans n_113)
  have n_144 : (sA (sF g_130 h 12 (.ref q_102)) q_131 50 8).2.2.1 q_57 = 16 := ((sA_g q_57 (ne0 r_108 o_q_131 (by decide))).2.2.1.trans n_114)
  have n_145 : (sA (sF g_130 h 12 (.ref q_102)) q_131 50 8).2.2.1 q_78 = 16 := ((sA_g q_78 (ne0 r_109 o_q_131 (by decide))).2.2.1.trans n_115)
  have n_146 : (sA (sF g_130 h 12 (.ref q_102)) q_131 50 8).2.2.1 q_102 = 8 := ((sA_g q_102 (ne0 r_110 o_q_131 (by decide))).2.2.1.trans n_116)
  have n_147 : (sA (sF g_130 h 12 (.ref q_102)) q_131 50 8).2.2.1 q_131 = 8 := sA_n
  have kn_148 : (sA (sF g_130 h 12 (.ref q_102)) q_131 50 8).2.1 q_1 3 = .int 0 := ((congrFun (sA_g q_1 (ne0 r_104 o_q_131 (by decide))).2.1 3).trans (sF_k kn_117 (by decide)))
  have kn_149 : (sA (sF g_130 h 12 (.ref q_102)) q_131 50 8).2.1 h 0 = .ref q_1 := ((congrFun (sA_g h (ne0 r_103 o_q_131 (by decide))).2.1 0).trans (sF_k kn_118 (by decide)))
  have kn_150 : (sA (sF g_130 h 12 (.ref q_102)) q_131 50 8).2.1 h 1 = .ref q_16 := ((congrFun (sA_g h (ne0 r_103 o_q_131 (by decide))).2.1 1).trans (sF_k kn_119 (by decide)))
  have kn_151 : (sA (sF g_130 h 12 (.ref q_102)) q_131 50 8).2.1 h 2 = .int 0 := ((congrFun (sA_g h (ne0 r_103 o_q_131 (by decide))).2.1 2).trans (sF_k kn_120 (by decide)))
  have kn_152 : (sA (sF g_130 h 12 (.ref q_102)) q_131 50 8).2.1 h 3 = .int 0 := ((congrFun (sA_g h (ne0 r_103 o_q_131 (by decide))).2.1 3).trans (sF_k kn_121 (by decide)))
  have kn_153 : (sA (sF g_130 h 12 (.ref q_102)) q_131 50 8).2.1 h 4 = .int 10 := ((congrFun (sA_g h (ne0 r_103 o_q_131 (by decide))).2.1 4).trans (sF_k kn_122 (by decide)))
  have kn_154 : (sA (sF g_130 h 12 (.ref q_102)) q_131 50 8).2.1 h 5 = .int 0 := ((congrFun (sA_g h (ne0 r_103 o_q_131 (by decide))).2.1 5).trans (sF_k kn_123 (by decide)))
  have kn_155 : (sA (sF g_130 h 12 (.ref q_102)) q_131 50 8).2.1 h 6 = .ref q_24 := ((congrFun (sA_g h (ne0 r_103 o_q_131 (by decide))).2.1 6).trans (sF_k kn_124 (by decide)))
  have kn_156 : (sA (sF g_130 h 12 (.ref q_102)) q_131 50 8).2.1 h 7 = .ref q_39 := ((congrFun (sA_g h (ne0 r_103 o_q_131 (by decide))).2.1 7).trans (sF_k kn_125 (by decide)))
  have kn_157 : (sA (sF g_130 h 12 (.ref q_102)) q_131 50 8).2.1 h 8 = .ref q_57 := ((congrFun (sA_g h (ne0 r_103 o_q_131 (by decide))).2.1 8).trans (sF_k kn_126 (by decide)))
  have kn_158 : (sA (sF g_130 h 12 (.ref q_102)) q_131 50 8).2.1 h 9 = .ref q_78 := ((congrFun (sA_g h (ne0 r_103 o_q_131 (by decide))).2.1 9).trans (sF_k kn_127 (by decide)))
  have kn_159 : (sA (sF g_130 h 12 (.ref q_102)) q_131 50 8).2.1 h 10 = .int (-1) := ((congrFun (sA_g h (ne0 r_103 o_q_131 (by decide))).2.1 10).trans (sF_k kn_128 (by decide)))
  have kn_160 : (sA (sF g_130 h 12 (.ref q_102)) q_131 50 8).2.1 h 11 = .int (-1) := ((congrFun (sA_g h (ne0 r_103 o_q_131 (by decide))).2.1 11).trans (sF_k kn_129 (by decide)))
  have kn_161 : (sA (sF g_130 h 12 (.ref q_102)) q_131 50 8).2.1 h 12 = .ref q_102 := ((congrFun (sA_g h (ne0 r_103 o_q_131 (by decide))).2.1 12).trans sF_eq)
  generalize (sA (sF g_130 h 12 (.ref q_102)) q_131 50 8) = g_162 at hT hI hM hE r_132 r_133 r_134 r_135 r_136 r_137 r_138 r_139 r_140 n_141 n_142 n_143 n_144 n_145 n_146 n_147 kn_148 kn_149 kn_150 kn_151 kn_152 kn_153 kn_154 kn_155 kn_156 kn_157 kn_158 kn_159 kn_160 kn_161
  clear kn_117 kn_118 kn_119 kn_120 kn_121 kn_122 kn_123 kn_124 kn_125 kn_126 kn_127 kn_128 kn_129 n_111 n_112 n_113 n_114 n_115 n_116 r_103 r_104 r_105 r_106 r_107 r_108 r_109 r_110
  refine W.widen (k := 11) (n := 112) (Nat.le_of_ble_eq_true rfl) (Nat.le_of_ble_eq_true rfl) ?_
  refine t_put0 (ci := 3) (v := .ref q_131) hB hT (ro_ci r_132 rfl) (ro_n0 r_132 (by decide)) rfl 13 (by decide) k_166 (Or.inr ⟨hin, rfl⟩) rfl rfl dX3_init_98 (fun H locs hT => ?_)
  replace hI : Inv (sF g_162 h 13 (.ref q_131)) := hI.sF (fk r_132 (show fsm _ _ ft from trivial))
  replace hM : Sm md_n_Service g (sF g_162 h 13 (.ref q_131)) := hM.tr hE (Sm_sF (by rw [r_132]; rfl))
  replace hE : Ex g (sF g_162 h 13 (.ref q_131)) := hE
  refine lv_aload_n hx hb dX3_init_101 rfl (lv_at hl 0 rfl) ?_
  refine lv_iconst (v := 0) hx hb dX3_init_102 (by decide) ?_
  refine t_put0 (ci := 3) (v := .int 0) hB hT (ro_ci r_132 rfl) (ro_n0 r_132 (by decide)) rfl 14 (by decide) k_167 (Or.inl rfl) rfl rfl dX3_init_103 (fun H locs hT => ?_)
  replace hI : Inv (sF (sF g_162 h 13 (.ref q_131)) h 14 (.int 0)) := hI.sF (fk r_132 (show fsm _ _ ft from trivial))
  replace hM : Sm md_n_Service g (sF (sF g_162 h 13 (.ref q_131)) h 14 (.int 0)) := hM.tr hE (Sm_sF (by rw [r_132]; rfl))
  replace hE : Ex g (sF (sF g_162 h 13 (.ref q_131)) h 14 (.int 0)) := hE
  have hF : ∀ k, Fok (sR (sF (sF g_162 h 13 (.ref q_131)) h 14 (.int 0)) h 10) 10 k ((sF (sF g_162 h 13 (.ref q_131)) h 14 (.int 0)).2.1 h k) := fun k => match k with
    | 0 => (by rw [(sF_k (sF_k kn_149 (by decide)) (by decide))]; exact q_10_0 ⟨_, rfl, sR_r r_133 (ro_ne r_133 r_132 (by decide))⟩)
    | 1 => (by rw [(sF_k (sF_k kn_150 (by decide)) (by decide))]; exact q_10_1 ⟨_, rfl, sR_r r_134 (ro_ne r_134 r_132 (by decide)), n_141⟩)
    | 2 => (by rw [(sF_k (sF_k kn_151 (by decide)) (by decide))]; exact q_10_2 ⟨_, rfl⟩)
    | 3 => (by rw [(sF_k (sF_k kn_152 (by decide)) (by decide))]; exact q_10_3 ⟨_, rfl⟩)
    | 4 => (by rw [(sF_k (sF_k kn_153 (by decide)) (by decide))]; exact q_10_4 ⟨_, rfl⟩)
    | 5 => (by rw [(sF_k (sF_k kn_154 (by decide)) (by decide))]; exact q_10_5 ⟨_, rfl, by decide, by decide⟩)
    | 6 => (by rw [(sF_k (sF_k kn_155 (by decide)) (by decide))]; exact q_10_6 ⟨_, rfl, sR_r r_135 (ro_ne r_135 r_132 (by decide)), n_142⟩)
    | 7 => (by rw [(sF_k (sF_k kn_156 (by decide)) (by decide))]; exact q_10_7 ⟨_, rfl, sR_r r_136 (ro_ne r_136 r_132 (by decide)), n_143⟩)
    | 8 => (by rw [(sF_k (sF_k kn_157 (by decide)) (by decide))]; exact q_10_8 ⟨_, rfl, sR_r r_137 (ro_ne r_137 r_132 (by decide)), n_144⟩)
    | 9 => (by rw [(sF_k (sF_k kn_158 (by decide)) (by decide))]; exact q_10_9 ⟨_, rfl, sR_r r_138 (ro_ne r_138 r_132 (by decide)), n_145⟩)
    | 10 => (by rw [(sF_k (sF_k kn_159 (by decide)) (by decide))]; exact q_10_10 ⟨_, rfl⟩)
    | 11 => (by rw [(sF_k (sF_k kn_160 (by decide)) (by decide))]; exact q_10_11 ⟨_, rfl⟩)
    | 12 => (by rw [(sF_k (sF_k kn_161 (by decide)) (by decide))]; exact q_10_12 ⟨_, rfl, sR_r r_139 (ro_ne r_139 r_132 (by decide)), n_146⟩)
    | 13 => (by rw [(sF_k sF_eq (by decide))]; exact q_10_13 ⟨_, rfl, sR_r r_140 (ro_ne r_140 r_132 (by decide)), n_147⟩)
    | 14 => (by rw [sF_eq]; exact q_10_14 ⟨_, rfl, by decide, by decide⟩)
    | k + 15 => (show fsm _ _ ft from trivial)
  have hT : Tv D cI cZ cS cR N0 s.heap H locs (sR (sF (sF g_162 h 13 (.ref q_131)) h 14 (.int 0)) h 10) := ⟨hT.1.promo (by rw [r_132]; decide) (by rw [r_132]; rfl) (Or.inl (by decide)), hT.2⟩
  replace hI : Inv (sR (sF (sF g_162 h 13 (.ref q_131)) h 14 (.int 0)) h 10) := hI.promo (by rw [r_132]; decide) hF (fun _ _ => trivial) (fun _ _ => trivial)
  replace hM : Sm md_n_Service g (sR (sF (sF g_162 h 13 (.ref q_131)) h 14 (.int 0)) h 10) := hM
  have hX : Exx h g (sR (sF (sF g_162 h 13 (.ref q_131)) h 14 (.int 0)) h 10) := Exx.promo hE
  exact t_vret hB hr hT (Nat.le_of_ble_eq_true rfl) (Nat.le_of_ble_eq_true rfl) dX3_init_106 ⟨rfl, hI, hX, hM, if_pos rfl⟩
abbrev md_s_World : Nat → Nat → Bool := mdf [(13, 0), (13, 1), (13, 2), (13, 3), (14, 0), (14, 1), (14, 2), (14, 3), (14, 4), (14, 5), (14, 6), (14, 7), (14, 8), (14, 9), (14, 10), (14, 11), (14, 12), (14, 13), (14, 14), (16, 0), (16, 1), (16, 2), (16, 3), (16, 4), (16, 5), (16, 6), (16, 7), (44, 99)]
theorem mdle_s_World_s_Service {r k : Nat} (h : md_s_World r k = false) : md_s_Service r k = false := mdf_le (by decide +kernel) h
set_option maxHeartbeats 4000000 in
set_option maxRecDepth 100000 in
theorem s_World (l : Launch) (D : va_G) (cI cZ cS cR : ClassId) (N0 : NT) (g : GS) (hI : Inv g) (h : Nat) (r_h : g.1 h = 16) : Ty l D cI cZ cS cR N0 yX5_init cX5_init 2 none 2 74 1280 [.ref h] g (fun v g' => v = none ∧ Inv g' ∧ Exx h g g' ∧ Sm md_s_World g g' ∧ g'.1 h = 6 ∧ (g'.2.1 h 1 = .int 0)) := by
  refine t_enter (by decide) (Nat.le_of_ble_eq_true rfl) ?_
  intro p e s m args below meth c ls H locs hB hr hin hl hT
  have hx := hB.1
  have hb := hB.2.1
  have hl : lv_has ls 2 [(0, .ref h)] := hl
  replace hE : Ex g g := Ex.rf
  replace hM : Sm md_s_World g g := Sm.rf
  refine lv_aload_n hx hb dX5_init_0 rfl (lv_at hl 0 rfl) ?_
  refine t_oinit hB k_107 k_78 k_79 hl.1 dX5_init_1 (Nat.le_of_ble_eq_true rfl) (Nat.le_of_ble_eq_true rfl) ?_
  refine lv_aload_n hx hb dX5_init_4 rfl (lv_at hl 0 rfl) ?_
  refine lv_bipush (v := 6) hx hb dX5_init_5 (by decide) ?_
  refine t_newq (N' := 6) hB hT k_108 (by decide) (by decide) (by decide) (Nat.le_of_ble_eq_true rfl) (Nat.le_of_ble_eq_true rfl) dX5_init_7 (fun q_1 H o_q_1 hT => ?_)
  have z_q_1 : g.1 q_1 = 0 := hE.z0 o_q_1
  replace hI : Inv (sA g q_1 44 6) := hI.newi o_q_1 (by decide) (fun _ => rfl) trivial (fun _ => trivial)
  replace hM : Sm md_s_World g (sA g q_1 44 6) := hM.tr hE (Sm.push o_q_1 sA_g)
  replace hE : Ex g (sA g q_1 44 6) := hE.tr (Ex.push o_q_1 sA_g)
  have r_2 : (sA g q_1 44 6).1 h = 16 := ((sA_g h (ne0 r_h o_q_1 (by decide))).1.trans r_h)
  have r_3 : (sA g q_1 44 6).1 q_1 = 44 := sA_r
  have n_4 : (sA g q_1 44 6).2.2.1 q_1 = 6 := sA_n
  generalize (sA g q_1 44 6) = g_5 at hT hI hM hE r_2 r_3 n_4
  refine W.widen (k := 1) (n := 6) (Nat.le_of_ble_eq_true rfl) (Nat.le_of_ble_eq_true rfl) ?_
  refine t_put0 (ci := 5) (v := .ref q_1) hB hT (ro_ci r_2 rfl) (ro_n0 r_2 (by decide)) rfl 0 (by decide) k_199 (Or.inr ⟨hin, rfl⟩) rfl rfl dX5_init_10 (fun H locs hT => ?_)
  replace hI : Inv (sF g_5 h 0 (.ref q_1)) := hI.sF (fk r_2 (show fsm _ _ ft from trivial))
  replace hM : Sm md_s_World g (sF g_5 h 0 (.ref q_1)) := hM.tr hE (Sm_sF (by rw [r_2]; rfl))
  replace hE : Ex g (sF g_5 h 0 (.ref q_1)) := hE
  refine lv_aload_n hx hb dX5_init_13 rfl (lv_at hl 0 rfl) ?_
  refine lv_iconst (v := 0) hx hb dX5_init_14 (by decide) ?_
  refine t_put0 (ci := 5) (v := .int 0) hB hT (ro_ci r_2 rfl) (ro_n0 r_2 (by decide)) rfl 1 (by decide) k_202 (Or.inl rfl) rfl rfl dX5_init_15 (fun H locs hT => ?_)
  replace hI : Inv (sF (sF g_5 h 0 (.ref q_1)) h 1 (.int 0)) := hI.sF (fk r_2 (show fsm _ _ ft from trivial))
  replace hM : Sm md_s_World g (sF (sF g_5 h 0 (.ref q_1)) h 1 (.int 0)) := hM.tr hE (Sm_sF (by rw [r_2]; rfl))
  replace hE : Ex g (sF (sF g_5 h 0 (.ref q_1)) h 1 (.int 0)) := hE
  refine lv_aload_n hx hb dX5_init_18 rfl (lv_at hl 0 rfl) ?_
  refine lv_iconst (v := 0) hx hb dX5_init_19 (by decide) ?_
  refine t_put0 (ci := 5) (v := .int 0) hB hT (ro_ci r_2 rfl) (ro_n0 r_2 (by decide)) rfl 2 (by decide) k_205 (Or.inl rfl) rfl rfl dX5_init_20 (fun H locs hT => ?_)
  replace hI : Inv (sF (sF (sF g_5 h 0 (.ref q_1)) h 1 (.int 0)) h 2 (.int 0)) := hI.sF (fk r_2 (show fsm _ _ ft from trivial))
  replace hM : Sm md_s_World g (sF (sF (sF g_5 h 0 (.ref q_1)) h 1 (.int 0)) h 2 (.int 0)) := hM.tr hE (Sm_sF (by rw [r_2]; rfl))
  replace hE : Ex g (sF (sF (sF g_5 h 0 (.ref q_1)) h 1 (.int 0)) h 2 (.int 0)) := hE
  refine lv_aload_n hx hb dX5_init_23 rfl (lv_at hl 0 rfl) ?_
  refine lv_sipush (v := 512) hx hb dX5_init_24 (by decide) ?_
  refine t_newi (N' := 512) hB hT 50 (by decide) k_101 (by decide) (by decide) (by decide) (Nat.le_of_ble_eq_true rfl) (Nat.le_of_ble_eq_true rfl) dX5_init_27 (fun q_6 H o_q_6 hT => ?_)
  have z_q_6 : g.1 q_6 = 0 := hE.z0 o_q_6
  replace hI : Inv (sA (sF (sF (sF g_5 h 0 (.ref q_1)) h 1 (.int 0)) h 2 (.int 0)) q_6 50 512) := hI.newi o_q_6 (by decide) (fun _ => rfl) trivial (fun _ => trivial)
  replace hM : Sm md_s_World g (sA (sF (sF (sF g_5 h 0 (.ref q_1)) h 1 (.int 0)) h 2 (.int 0)) q_6 50 512) := hM.tr hE (Sm.push o_q_6 sA_g)
  replace hE : Ex g (sA (sF (sF (sF g_5 h 0 (.ref q_1)) h 1 (.int 0)) h 2 (.int 0)) q_6 50 512) := hE.tr (Ex.push o_q_6 sA_g)
  have r_7 : (sA (sF (sF (sF g_5 h 0 (.ref q_1)) h 1 (.int 0)) h 2 (.int 0)) q_6 50 512).1 h = 16 := ((sA_g h (ne0 r_2 o_q_6 (by decide))).1.trans r_2)
  have r_8 : (sA (sF (sF (sF g_5 h 0 (.ref q_1)) h 1 (.int 0)) h 2 (.int 0)) q_6 50 512).1 q_1 = 44 := ((sA_g q_1 (ne0 r_3 o_q_6 (by decide))).1.trans r_3)
  have r_9 : (sA (sF (sF (sF g_5 h 0 (.ref q_1)) h 1 (.int 0)) h 2 (.int 0)) q_6 50 512).1 q_6 = 50 := sA_r
  have n_10 : (sA (sF (sF (sF g_5 h 0 (.ref q_1)) h 1 (.int 0)) h 2 (.int 0)) q_6 50 512).2.2.1 q_1 = 6 := ((sA_g q_1 (ne0 r_3 o_q_6 (by decide))).2.2.1.trans n_4)
  have n_11 : (sA (sF (sF (sF g_5 h 0 (.ref q_1)) h 1 (.int 0)) h 2 (.int 0)) q_6 50 512).2.2.1 q_6 = 512 := sA_n
  have kn_12 : (sA (sF (sF (sF g_5 h 0 (.ref q_1)) h 1 (.int 0)) h 2 (.int 0)) q_6 50 512).2.1 h 0 = .ref q_1 := ((congrFun (sA_g h (ne0 r_2 o_q_6 (by decide))).2.1 0).trans (sF_k (sF_k sF_eq (by decide)) (by decide)))
  have kn_13 : (sA (sF (sF (sF g_5 h 0 (.ref q_1)) h 1 (.int 0)) h 2 (.int 0)) q_6 50 512).2.1 h 1 = .int 0 := ((congrFun (sA_g h (ne0 r_2 o_q_6 (by decide))).2.1 1).trans (sF_k sF_eq (by decide)))
  have kn_14 : (sA (sF (sF (sF g_5 h 0 (.ref q_1)) h 1 (.int 0)) h 2 (.int 0)) q_6 50 512).2.1 h 2 = .int 0 := ((congrFun (sA_g h (ne0 r_2 o_q_6 (by decide))).2.1 2).trans sF_eq)
  generalize (sA (sF (sF (sF g_5 h 0 (.ref q_1)) h 1 (.int 0)) h 2 (.int 0)) q_6 50 512) = g_15 at hT hI hM hE r_7 r_8 r_9 n_10 n_11 kn_12 kn_13 kn_14
  clear n_4 r_2 r_3
  refine W.widen (k := 2) (n := 518) (Nat.le_of_ble_eq_true rfl) (Nat.le_of_ble_eq_true rfl) ?_
  refine t_put0 (ci := 5) (v := .ref q_6) hB hT (ro_ci r_7 rfl) (ro_n0 r_7 (by decide)) rfl 3 (by decide) k_207 (Or.inr ⟨hin, rfl⟩) rfl rfl dX5_init_29 (fun H locs hT => ?_)
  replace hI : Inv (sF g_15 h 3 (.ref q_6)) := hI.sF (fk r_7 (show fsm _ _ ft from trivial))
  replace hM : Sm md_s_World g (sF g_15 h 3 (.ref q_6)) := hM.tr hE (Sm_sF (by rw [r_7]; rfl))
  replace hE : Ex g (sF g_15 h 3 (.ref q_6)) := hE
  refine lv_aload_n hx hb dX5_init_32 rfl (lv_at hl 0 rfl) ?_
  refine lv_iconst (v := 0) hx hb dX5_init_33 (by decide) ?_
  refine t_put0 (ci := 5) (v := .int 0) hB hT (ro_ci r_7 rfl) (ro_n0 r_7 (by decide)) rfl 4 (by decide) k_210 (Or.inl rfl) rfl rfl dX5_init_34 (fun H locs hT => ?_)
  replace hI : Inv (sF (sF g_15 h 3 (.ref q_6)) h 4 (.int 0)) := hI.sF (fk r_7 (show fsm _ _ ft from trivial))
  replace hM : Sm md_s_World g (sF (sF g_15 h 3 (.ref q_6)) h 4 (.int 0)) := hM.tr hE (Sm_sF (by rw [r_7]; rfl))
  replace hE : Ex g (sF (sF g_15 h 3 (.ref q_6)) h 4 (.int 0)) := hE
  refine lv_aload_n hx hb dX5_init_37 rfl (lv_at hl 0 rfl) ?_
  refine lv_iconst (v := 0) hx hb dX5_init_38 (by decide) ?_
  refine t_put0 (ci := 5) (v := .int 0) hB hT (ro_ci r_7 rfl) (ro_n0 r_7 (by decide)) rfl 5 (by decide) k_213 (Or.inl rfl) rfl rfl dX5_init_39 (fun H locs hT => ?_)
  replace hI : Inv (sF (sF (sF g_15 h 3 (.ref q_6)) h 4 (.int 0)) h 5 (.int 0)) := hI.sF (fk r_7 (show fsm _ _ ft from trivial))
  replace hM : Sm md_s_World g (sF (sF (sF g_15 h 3 (.ref q_6)) h 4 (.int 0)) h 5 (.int 0)) := hM.tr hE (Sm_sF (by rw [r_7]; rfl))
  replace hE : Ex g (sF (sF (sF g_15 h 3 (.ref q_6)) h 4 (.int 0)) h 5 (.int 0)) := hE
  refine lv_aload_n hx hb dX5_init_42 rfl (lv_at hl 0 rfl) ?_
  refine lv_iconst (v := 0) hx hb dX5_init_43 (by decide) ?_
  refine t_put0 (ci := 5) (v := .int 0) hB hT (ro_ci r_7 rfl) (ro_n0 r_7 (by decide)) rfl 6 (by decide) k_215 (Or.inl rfl) rfl rfl dX5_init_44 (fun H locs hT => ?_)
  replace hI : Inv (sF (sF (sF (sF g_15 h 3 (.ref q_6)) h 4 (.int 0)) h 5 (.int 0)) h 6 (.int 0)) := hI.sF (fk r_7 (show fsm _ _ ft from trivial))
  replace hM : Sm md_s_World g (sF (sF (sF (sF g_15 h 3 (.ref q_6)) h 4 (.int 0)) h 5 (.int 0)) h 6 (.int 0)) := hM.tr hE (Sm_sF (by rw [r_7]; rfl))
  replace hE : Ex g (sF (sF (sF (sF g_15 h 3 (.ref q_6)) h 4 (.int 0)) h 5 (.int 0)) h 6 (.int 0)) := hE
  refine lv_aload_n hx hb dX5_init_47 rfl (lv_at hl 0 rfl) ?_
  refine lv_iconst (v := 0) hx hb dX5_init_48 (by decide) ?_
  refine t_put0 (ci := 5) (v := .int 0) hB hT (ro_ci r_7 rfl) (ro_n0 r_7 (by decide)) rfl 7 (by decide) k_216 (Or.inl rfl) rfl rfl dX5_init_49 (fun H locs hT => ?_)
  replace hI : Inv (sF (sF (sF (sF (sF g_15 h 3 (.ref q_6)) h 4 (.int 0)) h 5 (.int 0)) h 6 (.int 0)) h 7 (.int 0)) := hI.sF (fk r_7 (show fsm _ _ ft from trivial))
  replace hM : Sm md_s_World g (sF (sF (sF (sF (sF g_15 h 3 (.ref q_6)) h 4 (.int 0)) h 5 (.int 0)) h 6 (.int 0)) h 7 (.int 0)) := hM.tr hE (Sm_sF (by rw [r_7]; rfl))
  replace hE : Ex g (sF (sF (sF (sF (sF g_15 h 3 (.ref q_6)) h 4 (.int 0)) h 5 (.int 0)) h 6 (.int 0)) h 7 (.int 0)) := hE
  refine lv_iconst (v := 0) hx hb dX5_init_52 (by decide) ?_
  refine lv_istore_n (lv' := [(1, .int 0), (0, .ref h)]) hx hb dX5_init_53 rfl hl (by decide) rfl (fun ls hl => ?_)
  refine lv_iload_n hx hb dX5_init_54 rfl (lv_at hl 0 rfl) ?_
  refine lv_bipush (v := 6) hx hb dX5_init_55 (by decide) ?_
  refine lv_icmp_ge (tgt := 79) hx hb dX5_init_57 (by decide) (fun c_ => absurd c_ (by decide)) (fun c_ => ?_)
  refine lv_aload_n hx hb dX5_init_60 rfl (lv_at hl 1 rfl) ?_
  refine t_get (ci := 5) (v := .ref q_1) hB hT (ro_ci r_7 rfl) rfl 0 (by decide) k_199 (sF_k (sF_k (sF_k (sF_k (sF_k kn_12 (by decide)) (by decide)) (by decide)) (by decide)) (by decide)) dX5_init_61 ?_
  refine lv_iload_n hx hb dX5_init_64 rfl (lv_at hl 0 rfl) ?_
  refine t_new (ci := 3) (fs := [.null, .null, .int 0, .int 0, .int 0, .int 0, .null, .null, .null, .null, .int 0, .int 0, .null, .null, .int 0]) hB hT rfl (by decide) k_108 k_110 k_60 (fnew_3) (Nat.le_of_ble_eq_true rfl) (Nat.le_of_ble_eq_true rfl) dX5_init_65 (fun q_16 H o_q_16 hT => ?_)
  have z_q_16 : g.1 q_16 = 0 := hE.z0 o_q_16
  replace hI : Inv (sN (sF (sF (sF (sF (sF g_15 h 3 (.ref q_6)) h 4 (.int 0)) h 5 (.int 0)) h 6 (.int 0)) h 7 (.int 0)) q_16 14 (vp_V [.null, .null, .int 0, .int 0, .int 0, .int 0, .null, .null, .null, .null, .int 0, .int 0, .null, .null, .int 0])) := hI.newo o_q_16 (fun _ => rfl) (fun _ => trivial) (fun _ _ => trivial)
  replace hM : Sm md_s_World g (sN (sF (sF (sF (sF (sF g_15 h 3 (.ref q_6)) h 4 (.int 0)) h 5 (.int 0)) h 6 (.int 0)) h 7 (.int 0)) q_16 14 (vp_V [.null, .null, .int 0, .int 0, .int 0, .int 0, .null, .null, .null, .null, .int 0, .int 0, .null, .null, .int 0])) := hM.tr hE (Sm.push o_q_16 sN_g)
  replace hE : Ex g (sN (sF (sF (sF (sF (sF g_15 h 3 (.ref q_6)) h 4 (.int 0)) h 5 (.int 0)) h 6 (.int 0)) h 7 (.int 0)) q_16 14 (vp_V [.null, .null, .int 0, .int 0, .int 0, .int 0, .null, .null, .null, .null, .int 0, .int 0, .null, .null, .int 0])) := hE.tr (Ex.push o_q_16 sN_g)
  have r_17 : (sN (sF (sF (sF (sF (sF g_15 h 3 (.ref q_6)) h 4 (.int 0)) h 5 (.int 0)) h 6 (.int 0)) h 7 (.int 0)) q_16 14 (vp_V [.null, .null, .int 0, .int 0, .int 0, .int 0, .null, .null, .null, .null, .int 0, .int 0, .null, .null, .int 0])).1 h = 16 := ((sN_g h (ne0 r_7 o_q_16 (by decide))).1.trans r_7)
  have r_18 : (sN (sF (sF (sF (sF (sF g_15 h 3 (.ref q_6)) h 4 (.int 0)) h 5 (.int 0)) h 6 (.int 0)) h 7 (.int 0)) q_16 14 (vp_V [.null, .null, .int 0, .int 0, .int 0, .int 0, .null, .null, .null, .null, .int 0, .int 0, .null, .null, .int 0])).1 q_1 = 44 := ((sN_g q_1 (ne0 r_8 o_q_16 (by decide))).1.trans r_8)
  have r_19 : (sN (sF (sF (sF (sF (sF g_15 h 3 (.ref q_6)) h 4 (.int 0)) h 5 (.int 0)) h 6 (.int 0)) h 7 (.int 0)) q_16 14 (vp_V [.null, .null, .int 0, .int 0, .int 0, .int 0, .null, .null, .null, .null, .int 0, .int 0, .null, .null, .int 0])).1 q_6 = 50 := ((sN_g q_6 (ne0 r_9 o_q_16 (by decide))).1.trans r_9)
  have r_20 : (sN (sF (sF (sF (sF (sF g_15 h 3 (.ref q_6)) h 4 (.int 0)) h 5 (.int 0)) h 6 (.int 0)) h 7 (.int 0)) q_16 14 (vp_V [.null, .null, .int 0, .int 0, .int 0, .int 0, .null, .null, .null, .null, .int 0, .int 0, .null, .null, .int 0])).1 q_16 = 14 := sN_r
  have n_21 : (sN (sF (sF (sF (sF (sF g_15 h 3 (.ref q_6)) h 4 (.int 0)) h 5 (.int 0)) h 6 (.int 0)) h 7 (.int 0)) q_16 14 (vp_V [.null, .null, .int 0, .int 0, .int 0, .int 0, .null, .null, .null, .null, .int 0, .int 0, .null, .null, .int 0])).2.2.1 q_1 = 6 := ((sN_g q_1 (ne0 r_8 o_q_16 (by decide))).2.2.1.trans n_10)
  have n_22 : (sN (sF (sF (sF (sF (sF g_15 h 3 (.ref q_6)) h 4 (.int 0)) h 5 (.int 0)) h 6 (.int 0)) h 7 (.int 0)) q_16 14 (vp_V [.null, .null, .int 0, .int 0, .int 0, .int 0, .null, .null, .null, .null, .int 0, .int 0, .null, .null, .int 0])).2.2.1 q_6 = 512 := ((sN_g q_6 (ne0 r_9 o_q_16 (by decide))).2.2.1.trans n_11)
  have kn_23 : (sN (sF (sF (sF (sF (sF g_15 h 3 (.ref q_6)) h 4 (.int 0)) h 5 (.int 0)) h 6 (.int 0)) h 7 (.int 0)) q_16 14 (vp_V [.null, .null, .int 0, .int 0, .int 0, .int 0, .null, .null, .null, .null, .int 0, .int 0, .null, .null, .int 0])).2.1 h 0 = .ref q_1 := ((congrFun (sN_g h (ne0 r_7 o_q_16 (by decide))).2.1 0).trans (sF_k (sF_k (sF_k (sF_k (sF_k kn_12 (by decide)) (by decide)) (by decide)) (by decide)) (by decide)))
  have kn_24 : (sN (sF (sF (sF (sF (sF g_15 h 3 (.ref q_6)) h 4 (.int 0)) h 5 (.int 0)) h 6 (.int 0)) h 7 (.int 0)) q_16 14 (vp_V [.null, .null, .int 0, .int 0, .int 0, .int 0, .null, .null, .null, .null, .int 0, .int 0, .null, .null, .int 0])).2.1 h 1 = .int 0 := ((congrFun (sN_g h (ne0 r_7 o_q_16 (by decide))).2.1 1).trans (sF_k (sF_k (sF_k (sF_k (sF_k kn_13 (by decide)) (by decide)) (by decide)) (by decide)) (by decide)))
  have kn_25 : (sN (sF (sF (sF (sF (sF g_15 h 3 (.ref q_6)) h 4 (.int 0)) h 5 (.int 0)) h 6 (.int 0)) h 7 (.int 0)) q_16 14 (vp_V [.null, .null, .int 0, .int 0, .int 0, .int 0, .null, .null, .null, .null, .int 0, .int 0, .null, .null, .int 0])).2.1 h 2 = .int 0 := ((congrFun (sN_g h (ne0 r_7 o_q_16 (by decide))).2.1 2).trans (sF_k (sF_k (sF_k (sF_k (sF_k kn_14 (by decide)) (by decide)) (by decide)) (by decide)) (by decide)))
  have kn_26 : (sN (sF (sF (sF (sF (sF g_15 h 3 (.ref q_6)) h 4 (.int 0)) h 5 (.int 0)) h 6 (.int 0)) h 7 (.int 0)) q_16 14 (vp_V [.null, .null, .int 0, .int 0, .int 0, .int 0, .null, .null, .null, .null, .int 0, .int 0, .null, .null, .int 0])).2.1 h 3 = .ref q_6 := ((congrFun (sN_g h (ne0 r_7 o_q_16 (by decide))).2.1 3).trans (sF_k (sF_k (sF_k (sF_k sF_eq (by decide)) (by decide)) (by decide)) (by decide)))
  have kn_27 : (sN (sF (sF (sF (sF (sF g_15 h 3 (.ref q_6)) h 4 (.int 0)) h 5 (.int 0)) h 6 (.int 0)) h 7 (.int 0)) q_16 14 (vp_V [.null, .null, .int 0, .int 0, .int 0, .int 0, .null, .null, .null, .null, .int 0, .int 0, .null, .null, .int 0])).2.1 h 4 = .int 0 := ((congrFun (sN_g h (ne0 r_7 o_q_16 (by decide))).2.1 4).trans (sF_k (sF_k (sF_k sF_eq (by decide)) (by decide)) (by decide)))
  have kn_28 : (sN (sF (sF (sF (sF (sF g_15 h 3 (.ref q_6)) h 4 (.int 0)) h 5 (.int 0)) h 6 (.int 0)) h 7 (.int 0)) q_16 14 (vp_V [.null, .null, .int 0, .int 0, .int 0, .int 0, .null, .null, .null, .null, .int 0, .int 0, .null, .null, .int 0])).2.1 h 5 = .int 0 := ((congrFun (sN_g h (ne0 r_7 o_q_16 (by decide))).2.1 5).trans (sF_k (sF_k sF_eq (by decide)) (by decide)))
  have kn_29 : (sN (sF (sF (sF (sF (sF g_15 h 3 (.ref q_6)) h 4 (.int 0)) h 5 (.int 0)) h 6 (.int 0)) h 7 (.int 0)) q_16 14 (vp_V [.null, .null, .int 0, .int 0, .int 0, .int 0, .null, .null, .null, .null, .int 0, .int 0, .null, .null, .int 0])).2.1 h 6 = .int 0 := ((congrFun (sN_g h (ne0 r_7 o_q_16 (by decide))).2.1 6).trans (sF_k sF_eq (by decide)))
  have kn_30 : (sN (sF (sF (sF (sF (sF g_15 h 3 (.ref q_6)) h 4 (.int 0)) h 5 (.int 0)) h 6 (.int 0)) h 7 (.int 0)) q_16 14 (vp_V [.null, .null, .int 0, .int 0, .int 0, .int 0, .null, .null, .null, .null, .int 0, .int 0, .null, .null, .int 0])).2.1 h 7 = .int 0 := ((congrFun (sN_g h (ne0 r_7 o_q_16 (by decide))).2.1 7).trans sF_eq)
  have kn_31 : (sN (sF (sF (sF (sF (sF g_15 h 3 (.ref q_6)) h 4 (.int 0)) h 5 (.int 0)) h 6 (.int 0)) h 7 (.int 0)) q_16 14 (vp_V [.null, .null, .int 0, .int 0, .int 0, .int 0, .null, .null, .null, .null, .int 0, .int 0, .null, .null, .int 0])).2.1 q_16 0 = .null := sN_f
  have kn_32 : (sN (sF (sF (sF (sF (sF g_15 h 3 (.ref q_6)) h 4 (.int 0)) h 5 (.int 0)) h 6 (.int 0)) h 7 (.int 0)) q_16 14 (vp_V [.null, .null, .int 0, .int 0, .int 0, .int 0, .null, .null, .null, .null, .int 0, .int 0, .null, .null, .int 0])).2.1 q_16 1 = .null := sN_f
  have kn_33 : (sN (sF (sF (sF (sF (sF g_15 h 3 (.ref q_6)) h 4 (.int 0)) h 5 (.int 0)) h 6 (.int 0)) h 7 (.int 0)) q_16 14 (vp_V [.null, .null, .int 0, .int 0, .int 0, .int 0, .null, .null, .null, .null, .int 0, .int 0, .null, .null, .int 0])).2.1 q_16 2 = .int 0 := sN_f
  have kn_34 : (sN (sF (sF (sF (sF (sF g_15 h 3 (.ref q_6)) h 4 (.int 0)) h 5 (.int 0)) h 6 (.int 0)) h 7 (.int 0)) q_16 14 (vp_V [.null, .null, .int 0, .int 0, .int 0, .int 0, .null, .null, .null, .null, .int 0, .int 0, .null, .null, .int 0])).2.1 q_16 3 = .int 0 := sN_f
  have kn_35 : (sN (sF (sF (sF (sF (sF g_15 h 3 (.ref q_6)) h 4 (.int 0)) h 5 (.int 0)) h 6 (.int 0)) h 7 (.int 0)) q_16 14 (vp_V [.null, .null, .int 0, .int 0, .int 0, .int 0, .null, .null, .null, .null, .int 0, .int 0, .null, .null, .int 0])).2.1 q_16 4 = .int 0 := sN_f
  have kn_36 : (sN (sF (sF (sF (sF (sF g_15 h 3 (.ref q_6)) h 4 (.int 0)) h 5 (.int 0)) h 6 (.int 0)) h 7 (.int 0)) q_16 14 (vp_V [.null, .null, .int 0, .int 0, .int 0, .int 0, .null, .null, .null, .null, .int 0, .int 0, .null, .null, .int 0])).2.1 q_16 5 = .int 0 := sN_f
  have kn_37 : (sN (sF (sF (sF (sF (sF g_15 h 3 (.ref q_6)) h 4 (.int 0)) h 5 (.int 0)) h 6 (.int 0)) h 7 (.int 0)) q_16 14 (vp_V [.null, .null, .int 0, .int 0, .int 0, .int 0, .null, .null, .null, .null, .int 0, .int 0, .null, .null, .int 0])).2.1 q_16 6 = .null := sN_f
  have kn_38 : (sN (sF (sF (sF (sF (sF g_15 h 3 (.ref q_6)) h 4 (.int 0)) h 5 (.int 0)) h 6 (.int 0)) h 7 (.int 0)) q_16 14 (vp_V [.null, .null, .int 0, .int 0, .int 0, .int 0, .null, .null, .null, .null, .int 0, .int 0, .null, .null, .int 0])).2.1 q_16 7 = .null := sN_f
  have kn_39 : (sN (sF (sF (sF (sF (sF g_15 h 3 (.ref q_6)) h 4 (.int 0)) h 5 (.int 0)) h 6 (.int 0)) h 7 (.int 0)) q_16 14 (vp_V [.null, .null, .int 0, .int 0, .int 0, .int 0, .null, .null, .null, .null, .int 0, .int 0, .null, .null, .int 0])).2.1 q_16 8 = .null := sN_f
  have kn_40 : (sN (sF (sF (sF (sF (sF g_15 h 3 (.ref q_6)) h 4 (.int 0)) h 5 (.int 0)) h 6 (.int 0)) h 7 (.int 0)) q_16 14 (vp_V [.null, .null, .int 0, .int 0, .int 0, .int 0, .null, .null, .null, .null, .int 0, .int 0, .null, .null, .int 0])).2.1 q_16 9 = .null := sN_f
  have kn_41 : (sN (sF (sF (sF (sF (sF g_15 h 3 (.ref q_6)) h 4 (.int 0)) h 5 (.int 0)) h 6 (.int 0)) h 7 (.int 0)) q_16 14 (vp_V [.null, .null, .int 0, .int 0, .int 0, .int 0, .null, .null, .null, .null, .int 0, .int 0, .null, .null, .int 0])).2.1 q_16 10 = .int 0 := sN_f
  have kn_42 : (sN (sF (sF (sF (sF (sF g_15 h 3 (.ref q_6)) h 4 (.int 0)) h 5 (.int 0)) h 6 (.int 0)) h 7 (.int 0)) q_16 14 (vp_V [.null, .null, .int 0, .int 0, .int 0, .int 0, .null, .null, .null, .null, .int 0, .int 0, .null, .null, .int 0])).2.1 q_16 11 = .int 0 := sN_f
  have kn_43 : (sN (sF (sF (sF (sF (sF g_15 h 3 (.ref q_6)) h 4 (.int 0)) h 5 (.int 0)) h 6 (.int 0)) h 7 (.int 0)) q_16 14 (vp_V [.null, .null, .int 0, .int 0, .int 0, .int 0, .null, .null, .null, .null, .int 0, .int 0, .null, .null, .int 0])).2.1 q_16 12 = .null := sN_f
  have kn_44 : (sN (sF (sF (sF (sF (sF g_15 h 3 (.ref q_6)) h 4 (.int 0)) h 5 (.int 0)) h 6 (.int 0)) h 7 (.int 0)) q_16 14 (vp_V [.null, .null, .int 0, .int 0, .int 0, .int 0, .null, .null, .null, .null, .int 0, .int 0, .null, .null, .int 0])).2.1 q_16 13 = .null := sN_f
  have kn_45 : (sN (sF (sF (sF (sF (sF g_15 h 3 (.ref q_6)) h 4 (.int 0)) h 5 (.int 0)) h 6 (.int 0)) h 7 (.int 0)) q_16 14 (vp_V [.null, .null, .int 0, .int 0, .int 0, .int 0, .null, .null, .null, .null, .int 0, .int 0, .null, .null, .int 0])).2.1 q_16 14 = .int 0 := sN_f
  generalize (sN (sF (sF (sF (sF (sF g_15 h 3 (.ref q_6)) h 4 (.int 0)) h 5 (.int 0)) h 6 (.int 0)) h 7 (.int 0)) q_16 14 (vp_V [.null, .null, .int 0, .int 0, .int 0, .int 0, .null, .null, .null, .null, .int 0, .int 0, .null, .null, .int 0])) = g_46 at hT hI hM hE r_17 r_18 r_19 r_20 n_21 n_22 kn_23 kn_24 kn_25 kn_26 kn_27 kn_28 kn_29 kn_30 kn_31 kn_32 kn_33 kn_34 kn_35 kn_36 kn_37 kn_38 kn_39 kn_40 kn_41 kn_42 kn_43 kn_44 kn_45
  clear kn_12 kn_13 kn_14 n_10 n_11 r_7 r_8 r_9
  refine W.widen (k := 3) (n := 533) (Nat.le_of_ble_eq_true rfl) (Nat.le_of_ble_eq_true rfl) ?_
  refine lv_dup hx hb dX5_init_68 rfl ?_
  refine t_callIN (n := 0) (As := []) (rest := [.ref q_16, .int 0, .ref q_1]) hB hT hl.1 (s_Service l D cI cZ cS cR N0 g_46 hI q_16 r_20) k_113 k_60 hB.2.2.2.2.2.2.2.1.2.1 k_112 rfl (by decide +kernel) ⟨(Nat.le_of_ble_eq_true rfl), (Nat.le_of_ble_eq_true rfl)⟩ rfl (Nat.le_of_ble_eq_true rfl) ⟨(Nat.le_of_ble_eq_true rfl), (Nat.le_of_ble_eq_true rfl)⟩ dX5_init_69 (fun v g_47 H locs hp hT => ?_)
  obtain ⟨rfl, hI, x_49, m_48, r_50⟩ := hp
  replace hM : Sm md_s_World g g_47 := hM.tr hE (m_48.mo (fun r k h => mdle_s_World_s_Service h))
  replace hE : Ex g g_47 := hE.trx z_q_16 x_49
  have r_51 : g_47.1 h = 16 := (Exx.r x_49 r_17 (by decide) (ro_ne r_17 r_20 (by decide)))
  have r_52 : g_47.1 q_1 = 44 := (Exx.r x_49 r_18 (by decide) (ro_ne r_18 r_20 (by decide)))
  have r_53 : g_47.1 q_6 = 50 := (Exx.r x_49 r_19 (by decide) (ro_ne r_19 r_20 (by decide)))
  have r_54 : g_47.1 q_16 = 4 := r_50
  have n_55 : g_47.2.2.1 q_1 = 6 := (Exx.n x_49 r_18 (by decide) (ro_ne r_18 r_20 (by decide)) n_21)
  have n_56 : g_47.2.2.1 q_6 = 512 := (Exx.n x_49 r_19 (by decide) (ro_ne r_19 r_20 (by decide)) n_22)
  have kn_57 : g_47.2.1 h 0 = .ref q_1 := (Sm.v m_48 r_17 (by decide) rfl kn_23)
  have kn_58 : g_47.2.1 h 1 = .int 0 := (Sm.v m_48 r_17 (by decide) rfl kn_24)
  have kn_59 : g_47.2.1 h 2 = .int 0 := (Sm.v m_48 r_17 (by decide) rfl kn_25)
  have kn_60 : g_47.2.1 h 3 = .ref q_6 := (Sm.v m_48 r_17 (by decide) rfl kn_26)
  have kn_61 : g_47.2.1 h 4 = .int 0 := (Sm.v m_48 r_17 (by decide) rfl kn_27)
  have kn_62 : g_47.2.1 h 5 = .int 0 := (Sm.v m_48 r_17 (by decide) rfl kn_28)
  have kn_63 : g_47.2.1 h 6 = .int 0 := (Sm.v m_48 r_17 (by decide) rfl kn_29)
  have kn_64 : g_47.2.1 h 7 = .int 0 := (Sm.v m_48 r_17 (by decide) rfl kn_30)
  refine W.eq (g2 := F0 m 72 ls [.ref q_16, .int 0, .ref q_1]) rfl ?_
  have i_65 : vp_in (0 : Int32) 6 := (by unfold vp_in; decide)
  refine t_astq hB hT r_52 n_55 (ro_ci r_54 rfl) i_65 dX5_init_72 (fun H locs hT => ?_)
  replace hI : Inv (sQ g_47 q_1 (0 : Int32).toNatClampNeg (some q_16)) := hI.sQ (by rw [r_52]; exact trivial)
  replace hM : Sm md_s_World g (sQ g_47 q_1 (0 : Int32).toNatClampNeg (some q_16)) := hM.tr hE (Sm_sQ (by rw [r_52]; rfl))
  replace hE : Ex g (sQ g_47 q_1 (0 : Int32).toNatClampNeg (some q_16)) := hE
  have r_66 : (sQ g_47 q_1 (0 : Int32).toNatClampNeg (some q_16)).1 h = 16 := r_51
  have r_67 : (sQ g_47 q_1 (0 : Int32).toNatClampNeg (some q_16)).1 q_1 = 44 := r_52
  have r_68 : (sQ g_47 q_1 (0 : Int32).toNatClampNeg (some q_16)).1 q_6 = 50 := r_53
  have r_69 : (sQ g_47 q_1 (0 : Int32).toNatClampNeg (some q_16)).1 q_16 = 4 := r_54
  have n_70 : (sQ g_47 q_1 (0 : Int32).toNatClampNeg (some q_16)).2.2.1 q_1 = 6 := n_55
  have n_71 : (sQ g_47 q_1 (0 : Int32).toNatClampNeg (some q_16)).2.2.1 q_6 = 512 := n_56
  have kn_72 : (sQ g_47 q_1 (0 : Int32).toNatClampNeg (some q_16)).2.1 h 0 = .ref q_1 := kn_57
  have kn_73 : (sQ g_47 q_1 (0 : Int32).toNatClampNeg (some q_16)).2.1 h 1 = .int 0 := kn_58
  have kn_74 : (sQ g_47 q_1 (0 : Int32).toNatClampNeg (some q_16)).2.1 h 2 = .int 0 := kn_59
  have kn_75 : (sQ g_47 q_1 (0 : Int32).toNatClampNeg (some q_16)).2.1 h 3 = .ref q_6 := kn_60
  have kn_76 : (sQ g_47 q_1 (0 : Int32).toNatClampNeg (some q_16)).2.1 h 4 = .int 0 := kn_61
  have kn_77 : (sQ g_47 q_1 (0 : Int32).toNatClampNeg (some q_16)).2.1 h 5 = .int 0 := kn_62
  have kn_78 : (sQ g_47 q_1 (0 : Int32).toNatClampNeg (some q_16)).2.1 h 6 = .int 0 := kn_63
  have kn_79 : (sQ g_47 q_1 (0 : Int32).toNatClampNeg (some q_16)).2.1 h 7 = .int 0 := kn_64
  have kn_80 : (sQ g_47 q_1 (0 : Int32).toNatClampNeg (some q_16)).2.2.2.2 q_1 0 = some q_16 := sQ_eq
  generalize (sQ g_47 q_1 (0 : Int32).toNatClampNeg (some q_16)) = g_81 at hT hI hM hE r_66 r_67 r_68 r_69 n_70 n_71 kn_72 kn_73 kn_74 kn_75 kn_76 kn_77 kn_78 kn_79 kn_80
  clear kn_57 kn_58 kn_59 kn_60 kn_61 kn_62 kn_63 kn_64 n_55 n_56 r_51 r_52 r_53 r_54
  refine lv_iinc (v := 1) (lv' := [(1, .int 1), (0, .ref h)]) hx hb dX5_init_73 hl (k := 0) rfl (by decide) (by decide) rfl (fun ls hl => ?_)
  refine lv_goto (tgt := 54) hx hb dX5_init_76 (by decide) ?_
  refine lv_iload_n hx hb dX5_init_54 rfl (lv_at hl 0 rfl) ?_
  refine lv_bipush (v := 6) hx hb dX5_init_55 (by decide) ?_
  refine lv_icmp_ge (tgt := 79) hx hb dX5_init_57 (by decide) (fun c_ => absurd c_ (by decide)) (fun c_ => ?_)
  refine lv_aload_n hx hb dX5_init_60 rfl (lv_at hl 1 rfl) ?_
  refine t_get (ci := 5) (v := .ref q_1) hB hT (ro_ci r_66 rfl) rfl 0 (by decide) k_199 kn_72 dX5_init_61 ?_
  refine lv_iload_n hx hb dX5_init_64 rfl (lv_at hl 0 rfl) ?_
  refine t_new (ci := 3) (fs := [.null, .null, .int 0, .int 0, .int 0, .int 0, .null, .null, .null, .null, .int 0, .int 0, .null, .null, .int 0]) hB hT rfl (by decide) k_108 k_110 k_60 (fnew_3) (Nat.le_of_ble_eq_true rfl) (Nat.le_of_ble_eq_true rfl) dX5_init_65 (fun q_82 H o_q_82 hT => ?_)
  have z_q_82 : g.1 q_82 = 0 := hE.z0 o_q_82
  replace hI : Inv (sN g_81 q_82 14 (vp_V [.null, .null, .int 0, .int 0, .int 0, .int 0, .null, .null, .null, .null, .int 0, .int 0, .null, .null, .int 0])) := hI.newo o_q_82 (fun _ => rfl) (fun _ => trivial) (fun _ _ => trivial)
  replace hM : Sm md_s_World g (sN g_81 q_82 14 (vp_V [.null, .null, .int 0, .int 0, .int 0, .int 0, .null, .null, .null, .null, .int 0, .int 0, .null, .null, .int 0])) := hM.tr hE (Sm.push o_q_82 sN_g)
  replace hE : Ex g (sN g_81 q_82 14 (vp_V [.null, .null, .int 0, .int 0, .int 0, .int 0, .null, .null, .null, .null, .int 0, .int 0, .null, .null, .int 0])) := hE.tr (Ex.push o_q_82 sN_g)
  have r_83 : (sN g_81 q_82 14 (vp_V [.null, .null, .int 0, .int 0, .int 0, .int 0, .null, .null, .null, .null, .int 0, .int 0, .null, .null, .int 0])).1 h = 16 := ((sN_g h (ne0 r_66 o_q_82 (by decide))).1.trans r_66)
  have r_84 : (sN g_81 q_82 14 (vp_V [.null, .null, .int 0, .int 0, .int 0, .int 0, .null, .null, .null, .null, .int 0, .int 0, .null, .null, .int 0])).1 q_1 = 44 := ((sN_g q_1 (ne0 r_67 o_q_82 (by decide))).1.trans r_67)
  have r_85 : (sN g_81 q_82 14 (vp_V [.null, .null, .int 0, .int 0, .int 0, .int 0, .null, .null, .null, .null, .int 0, .int 0, .null, .null, .int 0])).1 q_6 = 50 := ((sN_g q_6 (ne0 r_68 o_q_82 (by decide))).1.trans r_68)
  have r_86 : (sN g_81 q_82 14 (vp_V [.null, .null, .int 0, .int 0, .int 0, .int 0, .null, .null, .null, .null, .int 0, .int 0, .null, .null, .int 0])).1 q_16 = 4 := ((sN_g q_16 (ne0 r_69 o_q_82 (by decide))).1.trans r_69)
  have r_87 : (sN g_81 q_82 14 (vp_V [.null, .null, .int 0, .int 0, .int 0, .int 0, .null, .null, .null, .null, .int 0, .int 0, .null, .null, .int 0])).1 q_82 = 14 := sN_r
  have n_88 : (sN g_81 q_82 14 (vp_V [.null, .null, .int 0, .int 0, .int 0, .int 0, .null, .null, .null, .null, .int 0, .int 0, .null, .null, .int 0])).2.2.1 q_1 = 6 := ((sN_g q_1 (ne0 r_67 o_q_82 (by decide))).2.2.1.trans n_70)
  have n_89 : (sN g_81 q_82 14 (vp_V [.null, .null, .int 0, .int 0, .int 0, .int 0, .null, .null, .null, .null, .int 0, .int 0, .null, .null, .int 0])).2.2.1 q_6 = 512 := ((sN_g q_6 (ne0 r_68 o_q_82 (by decide))).2.2.1.trans n_71)
  have kn_90 : (sN g_81 q_82 14 (vp_V [.null, .null, .int 0, .int 0, .int 0, .int 0, .null, .null, .null, .null, .int 0, .int 0, .null, .null, .int 0])).2.1 h 0 = .ref q_1 := ((congrFun (sN_g h (ne0 r_66 o_q_82 (by decide))).2.1 0).trans kn_72)
  have kn_91 : (sN g_81 q_82 14 (vp_V [.null, .null, .int 0, .int 0, .int 0, .int 0, .null, .null, .null, .null, .int 0, .int 0, .null, .null, .int 0])).2.1 h 1 = .int 0 := ((congrFun (sN_g h (ne0 r_66 o_q_82 (by decide))).2.1 1).trans kn_73)
  have kn_92 : (sN g_81 q_82 14 (vp_V [.null, .null, .int 0, .int 0, .int 0, .int 0, .null, .null, .null, .null, .int 0, .int 0, .null, .null, .int 0])).2.1 h 2 = .int 0 := ((congrFun (sN_g h (ne0 r_66 o_q_82 (by decide))).2.1 2).trans kn_74)
  have kn_93 : (sN g_81 q_82 14 (vp_V [.null, .null, .int 0, .int 0, .int 0, .int 0, .null, .null, .null, .null, .int 0, .int 0, .null, .null, .int 0])).2.1 h 3 = .ref q_6 := ((congrFun (sN_g h (ne0 r_66 o_q_82 (by decide))).2.1 3).trans kn_75)
  have kn_94 : (sN g_81 q_82 14 (vp_V [.null, .null, .int 0, .int 0, .int 0, .int 0, .null, .null, .null, .null, .int 0, .int 0, .null, .null, .int 0])).2.1 h 4 = .int 0 := ((congrFun (sN_g h (ne0 r_66 o_q_82 (by decide))).2.1 4).trans kn_76)
  have kn_95 : (sN g_81 q_82 14 (vp_V [.null, .null, .int 0, .int 0, .int 0, .int 0, .null, .null, .null, .null, .int 0, .int 0, .null, .null, .int 0])).2.1 h 5 = .int 0 := ((congrFun (sN_g h (ne0 r_66 o_q_82 (by decide))).2.1 5).trans kn_77)
  have kn_96 : (sN g_81 q_82 14 (vp_V [.null, .null, .int 0, .int 0, .int 0, .int 0, .null, .null, .null, .null, .int 0, .int 0, .null, .null, .int 0])).2.1 h 6 = .int 0 := ((congrFun (sN_g h (ne0 r_66 o_q_82 (by decide))).2.1 6).trans kn_78)
  have kn_97 : (sN g_81 q_82 14 (vp_V [.null, .null, .int 0, .int 0, .int 0, .int 0, .null, .null, .null, .null, .int 0, .int 0, .null, .null, .int 0])).2.1 h 7 = .int 0 := ((congrFun (sN_g h (ne0 r_66 o_q_82 (by decide))).2.1 7).trans kn_79)
  have kn_98 : (sN g_81 q_82 14 (vp_V [.null, .null, .int 0, .int 0, .int 0, .int 0, .null, .null, .null, .null, .int 0, .int 0, .null, .null, .int 0])).2.1 q_82 0 = .null := sN_f
  have kn_99 : (sN g_81 q_82 14 (vp_V [.null, .null, .int 0, .int 0, .int 0, .int 0, .null, .null, .null, .null, .int 0, .int 0, .null, .null, .int 0])).2.1 q_82 1 = .null := sN_f
  have kn_100 : (sN g_81 q_82 14 (vp_V [.null, .null, .int 0, .int 0, .int 0, .int 0, .null, .null, .null, .null, .int 0, .int 0, .null, .null, .int 0])).2.1 q_82 2 = .int 0 := sN_f
  have kn_101 : (sN g_81 q_82 14 (vp_V [.null, .null, .int 0, .int 0, .int 0, .int 0, .null, .null, .null, .null, .int 0, .int 0, .null, .null, .int 0])).2.1 q_82 3 = .int 0 := sN_f
  have kn_102 : (sN g_81 q_82 14 (vp_V [.null, .null, .int 0, .int 0, .int 0, .int 0, .null, .null, .null, .null, .int 0, .int 0, .null, .null, .int 0])).2.1 q_82 4 = .int 0 := sN_f
  have kn_103 : (sN g_81 q_82 14 (vp_V [.null, .null, .int 0, .int 0, .int 0, .int 0, .null, .null, .null, .null, .int 0, .int 0, .null, .null, .int 0])).2.1 q_82 5 = .int 0 := sN_f
  have kn_104 : (sN g_81 q_82 14 (vp_V [.null, .null, .int 0, .int 0, .int 0, .int 0, .null, .null, .null, .null, .int 0, .int 0, .null, .null, .int 0])).2.1 q_82 6 = .null := sN_f
  have kn_105 : (sN g_81 q_82 14 (vp_V [.null, .null, .int 0, .int 0, .int 0, .int 0, .null, .null, .null, .null, .int 0, .int 0, .null, .null, .int 0])).2.1 q_82 7 = .null := sN_f
  have kn_106 : (sN g_81 q_82 14 (vp_V [.null, .null, .int 0, .int 0, .int 0, .int 0, .null, .null, .null, .null, .int 0, .int 0, .null, .null, .int 0])).2.1 q_82 8 = .null := sN_f
  have kn_107 : (sN g_81 q_82 14 (vp_V [.null, .null, .int 0, .int 0, .int 0, .int 0, .null, .null, .null, .null, .int 0, .int 0, .null, .null, .int 0])).2.1 q_82 9 = .null := sN_f
  have kn_108 : (sN g_81 q_82 14 (vp_V [.null, .null, .int 0, .int 0, .int 0, .int 0, .null, .null, .null, .null, .int 0, .int 0, .null, .null, .int 0])).2.1 q_82 10 = .int 0 := sN_f
  have kn_109 : (sN g_81 q_82 14 (vp_V [.null, .null, .int 0, .int 0, .int 0, .int 0, .null, .null, .null, .null, .int 0, .int 0, .null, .null, .int 0])).2.1 q_82 11 = .int 0 := sN_f
  have kn_110 : (sN g_81 q_82 14 (vp_V [.null, .null, .int 0, .int 0, .int 0, .int 0, .null, .null, .null, .null, .int 0, .int 0, .null, .null, .int 0])).2.1 q_82 12 = .null := sN_f
  have kn_111 : (sN g_81 q_82 14 (vp_V [.null, .null, .int 0, .int 0, .int 0, .int 0, .null, .null, .null, .null, .int 0, .int 0, .null, .null, .int 0])).2.1 q_82 13 = .null := sN_f
  have kn_112 : (sN g_81 q_82 14 (vp_V [.null, .null, .int 0, .int 0, .int 0, .int 0, .null, .null, .null, .null, .int 0, .int 0, .null, .null, .int 0])).2.1 q_82 14 = .int 0 := sN_f
  have kn_113 : (sN g_81 q_82 14 (vp_V [.null, .null, .int 0, .int 0, .int 0, .int 0, .null, .null, .null, .null, .int 0, .int 0, .null, .null, .int 0])).2.2.2.2 q_1 0 = some q_16 := ((congrFun (sN_g q_1 (ne0 r_67 o_q_82 (by decide))).2.2.2.2 _).trans kn_80)
  generalize (sN g_81 q_82 14 (vp_V [.null, .null, .int 0, .int 0, .int 0, .int 0, .null, .null, .null, .null, .int 0, .int 0, .null, .null, .int 0])) = g_114 at hT hI hM hE r_83 r_84 r_85 r_86 r_87 n_88 n_89 kn_90 kn_91 kn_92 kn_93 kn_94 kn_95 kn_96 kn_97 kn_98 kn_99 kn_100 kn_101 kn_102 kn_103 kn_104 kn_105 kn_106 kn_107 kn_108 kn_109 kn_110 kn_111 kn_112 kn_113
  clear kn_72 kn_73 kn_74 kn_75 kn_76 kn_77 kn_78 kn_79 kn_80 n_70 n_71 r_66 r_67 r_68 r_69
  refine W.widen (k := 15) (n := 660) (Nat.le_of_ble_eq_true rfl) (Nat.le_of_ble_eq_true rfl) ?_
  refine lv_dup hx hb dX5_init_68 rfl ?_
  refine t_callIN (n := 0) (As := []) (rest := [.ref q_82, .int 1, .ref q_1]) hB hT hl.1 (s_Service l D cI cZ cS cR N0 g_114 hI q_82 r_87) k_113 k_60 hB.2.2.2.2.2.2.2.1.2.1 k_112 rfl (by decide +kernel) ⟨(Nat.le_of_ble_eq_true rfl), (Nat.le_of_ble_eq_true rfl)⟩ rfl (Nat.le_of_ble_eq_true rfl) ⟨(Nat.le_of_ble_eq_true rfl), (Nat.le_of_ble_eq_true rfl)⟩ dX5_init_69 (fun v g_115 H locs hp hT => ?_)
  obtain ⟨rfl, hI, x_117, m_116, r_118⟩ := hp
  replace hM : Sm md_s_World g g_115 := hM.tr hE (m_116.mo (fun r k h => mdle_s_World_s_Service h))
  replace hE : Ex g g_115 := hE.trx z_q_82 x_117
  have r_119 : g_115.1 h = 16 := (Exx.r x_117 r_83 (by decide) (ro_ne r_83 r_87 (by decide)))
  have r_120 : g_115.1 q_1 = 44 := (Exx.r x_117 r_84 (by decide) (ro_ne r_84 r_87 (by decide)))
  have r_121 : g_115.1 q_6 = 50 := (Exx.r x_117 r_85 (by decide) (ro_ne r_85 r_87 (by decide)))
  have r_122 : g_115.1 q_16 = 4 := (Exx.r x_117 r_86 (by decide) (ro_ne r_86 r_87 (by decide)))
  have r_123 : g_115.1 q_82 = 4 := r_118
  have n_124 : g_115.2.2.1 q_1 = 6 := (Exx.n x_117 r_84 (by decide) (ro_ne r_84 r_87 (by decide)) n_88)
  have n_125 : g_115.2.2.1 q_6 = 512 := (Exx.n x_117 r_85 (by decide) (ro_ne r_85 r_87 (by decide)) n_89)
  have kn_126 : g_115.2.1 h 0 = .ref q_1 := (Sm.v m_116 r_83 (by decide) rfl kn_90)
  have kn_127 : g_115.2.1 h 1 = .int 0 := (Sm.v m_116 r_83 (by decide) rfl kn_91)
  have kn_128 : g_115.2.1 h 2 = .int 0 := (Sm.v m_116 r_83 (by decide) rfl kn_92)
  have kn_129 : g_115.2.1 h 3 = .ref q_6 := (Sm.v m_116 r_83 (by decide) rfl kn_93)
  have kn_130 : g_115.2.1 h 4 = .int 0 := (Sm.v m_116 r_83 (by decide) rfl kn_94)
  have kn_131 : g_115.2.1 h 5 = .int 0 := (Sm.v m_116 r_83 (by decide) rfl kn_95)
  have kn_132 : g_115.2.1 h 6 = .int 0 := (Sm.v m_116 r_83 (by decide) rfl kn_96)
  have kn_133 : g_115.2.1 h 7 = .int 0 := (Sm.v m_116 r_83 (by decide) rfl kn_97)
  have kn_134 : g_115.2.2.2.2 q_1 0 = some q_16 := ((congrFun (m_116.2 q_1 (by rw [r_84]; decide) (by rw [r_84]; rfl)).2 _).trans kn_113)
  refine W.eq (g2 := F0 m 72 ls [.ref q_82, .int 1, .ref q_1]) rfl ?_
  have i_135 : vp_in (1 : Int32) 6 := (by unfold vp_in; decide)
  refine t_astq hB hT r_120 n_124 (ro_ci r_123 rfl) i_135 dX5_init_72 (fun H locs hT => ?_)
  replace hI : Inv (sQ g_115 q_1 (1 : Int32).toNatClampNeg (some q_82)) := hI.sQ (by rw [r_120]; exact trivial)
  replace hM : Sm md_s_World g (sQ g_115 q_1 (1 : Int32).toNatClampNeg (some q_82)) := hM.tr hE (Sm_sQ (by rw [r_120]; rfl))
  replace hE : Ex g (sQ g_115 q_1 (1 : Int32).toNatClampNeg (some q_82)) := hE
  have r_136 : (sQ g_115 q_1 (1 : Int32).toNatClampNeg (some q_82)).1 h = 16 := r_119
  have r_137 : (sQ g_115 q_1 (1 : Int32).toNatClampNeg (some q_82)).1 q_1 = 44 := r_120
  have r_138 : (sQ g_115 q_1 (1 : Int32).toNatClampNeg (some q_82)).1 q_6 = 50 := r_121
  have r_139 : (sQ g_115 q_1 (1 : Int32).toNatClampNeg (some q_82)).1 q_16 = 4 := r_122
  have r_140 : (sQ g_115 q_1 (1 : Int32).toNatClampNeg (some q_82)).1 q_82 = 4 := r_123
  have n_141 : (sQ g_115 q_1 (1 : Int32).toNatClampNeg (some q_82)).2.2.1 q_1 = 6 := n_124
  have n_142 : (sQ g_115 q_1 (1 : Int32).toNatClampNeg (some q_82)).2.2.1 q_6 = 512 := n_125
  have kn_143 : (sQ g_115 q_1 (1 : Int32).toNatClampNeg (some q_82)).2.1 h 0 = .ref q_1 := kn_126
  have kn_144 : (sQ g_115 q_1 (1 : Int32).toNatClampNeg (some q_82)).2.1 h 1 = .int 0 := kn_127
  have kn_145 : (sQ g_115 q_1 (1 : Int32).toNatClampNeg (some q_82)).2.1 h 2 = .int 0 := kn_128
  have kn_146 : (sQ g_115 q_1 (1 : Int32).toNatClampNeg (some q_82)).2.1 h 3 = .ref q_6 := kn_129
  have kn_147 : (sQ g_115 q_1 (1 : Int32).toNatClampNeg (some q_82)).2.1 h 4 = .int 0 := kn_130
  have kn_148 : (sQ g_115 q_1 (1 : Int32).toNatClampNeg (some q_82)).2.1 h 5 = .int 0 := kn_131
  have kn_149 : (sQ g_115 q_1 (1 : Int32).toNatClampNeg (some q_82)).2.1 h 6 = .int 0 := kn_132
  have kn_150 : (sQ g_115 q_1 (1 : Int32).toNatClampNeg (some q_82)).2.1 h 7 = .int 0 := kn_133
  have kn_151 : (sQ g_115 q_1 (1 : Int32).toNatClampNeg (some q_82)).2.2.2.2 q_1 0 = some q_16 := (sQ_i kn_134 (by decide))
  have kn_152 : (sQ g_115 q_1 (1 : Int32).toNatClampNeg (some q_82)).2.2.2.2 q_1 1 = some q_82 := sQ_eq
  generalize (sQ g_115 q_1 (1 : Int32).toNatClampNeg (some q_82)) = g_153 at hT hI hM hE r_136 r_137 r_138 r_139 r_140 n_141 n_142 kn_143 kn_144 kn_145 kn_146 kn_147 kn_148 kn_149 kn_150 kn_151 kn_152
  clear kn_126 kn_127 kn_128 kn_129 kn_130 kn_131 kn_132 kn_133 kn_134 n_124 n_125 r_119 r_120 r_121 r_122 r_123
  refine lv_iinc (v := 2) (lv' := [(1, .int 2), (0, .ref h)]) hx hb dX5_init_73 hl (k := 0) rfl (by decide) (by decide) rfl (fun ls hl => ?_)
  refine lv_goto (tgt := 54) hx hb dX5_init_76 (by decide) ?_
  refine lv_iload_n hx hb dX5_init_54 rfl (lv_at hl 0 rfl) ?_
  refine lv_bipush (v := 6) hx hb dX5_init_55 (by decide) ?_
  refine lv_icmp_ge (tgt := 79) hx hb dX5_init_57 (by decide) (fun c_ => absurd c_ (by decide)) (fun c_ => ?_)
  refine lv_aload_n hx hb dX5_init_60 rfl (lv_at hl 1 rfl) ?_
  refine t_get (ci := 5) (v := .ref q_1) hB hT (ro_ci r_136 rfl) rfl 0 (by decide) k_199 kn_143 dX5_init_61 ?_
  refine lv_iload_n hx hb dX5_init_64 rfl (lv_at hl 0 rfl) ?_
  refine t_new (ci := 3) (fs := [.null, .null, .int 0, .int 0, .int 0, .int 0, .null, .null, .null, .null, .int 0, .int 0, .null, .null, .int 0]) hB hT rfl (by decide) k_108 k_110 k_60 (fnew_3) (Nat.le_of_ble_eq_true rfl) (Nat.le_of_ble_eq_true rfl) dX5_init_65 (fun q_154 H o_q_154 hT => ?_)
  have z_q_154 : g.1 q_154 = 0 := hE.z0 o_q_154
  replace hI : Inv (sN g_153 q_154 14 (vp_V [.null, .null, .int 0, .int 0, .int 0, .int 0, .null, .null, .null, .null, .int 0, .int 0, .null, .null, .int 0])) := hI.newo o_q_154 (fun _ => rfl) (fun _ => trivial) (fun _ _ => trivial)
  replace hM : Sm md_s_World g (sN g_153 q_154 14 (vp_V [.null, .null, .int 0, .int 0, .int 0, .int 0, .null, .null, .null, .null, .int 0, .int 0, .null, .null, .int 0])) := hM.tr hE (Sm.push o_q_154 sN_g)
  replace hE : Ex g (sN g_153 q_154 14 (vp_V [.null, .null, .int 0, .int 0, .int 0, .int 0, .null, .null, .null, .null, .int 0, .int 0, .null, .null, .int 0])) := hE.tr (Ex.push o_q_154 sN_g)
  have r_155 : (sN g_153 q_154 14 (vp_V [.null, .null, .int 0, .int 0, .int 0, .int 0, .null, .null, .null, .null, .int 0, .int 0, .null, .null, .int 0])).1 h = 16 := ((sN_g h (ne0 r_136 o_q_154 (by decide))).1.trans r_136)
  have r_156 : (sN g_153 q_154 14 (vp_V [.null, .null, .int 0, .int 0, .int 0, .int 0, .null, .null, .null, .null, .int 0, .int 0, .null, .null, .int 0])).1 q_1 = 44 := ((sN_g q_1 (ne0 r_137 o_q_154 (by decide))).1.trans r_137)
  have r_157 : (sN g_153 q_154 14 (vp_V [.null, .null, .int 0, .int 0, .int 0, .int 0, .null, .null, .null, .null, .int 0, .int 0, .null, .null, .int 0])).1 q_6 = 50 := ((sN_g q_6 (ne0 r_138 o_q_154 (by decide))).1.trans r_138)
  have r_158 : (sN g_153 q_154 14 (vp_V [.null, .null, .int 0, .int 0, .int 0, .int 0, .null, .null, .null, .null, .int 0, .int 0, .null, .null, .int 0])).1 q_16 = 4 := ((sN_g q_16 (ne0 r_139 o_q_154 (by decide))).1.trans r_139)
  have r_159 : (sN g_153 q_154 14 (vp_V [.null, .null, .int 0, .int 0, .int 0, .int 0, .null, .null, .null, .null, .int 0, .int 0, .null, .null, .int 0])).1 q_82 = 4 := ((sN_g q_82 (ne0 r_140 o_q_154 (by decide))).1.trans r_140)
  have r_160 : (sN g_153 q_154 14 (vp_V [.null, .null, .int 0, .int 0, .int 0, .int 0, .null, .null, .null, .null, .int 0, .int 0, .null, .null, .int 0])).1 q_154 = 14 := sN_r
  have n_161 : (sN g_153 q_154 14 (vp_V [.null, .null, .int 0, .int 0, .int 0, .int 0, .null, .null, .null, .null, .int 0, .int 0, .null, .null, .int 0])).2.2.1 q_1 = 6 := ((sN_g q_1 (ne0 r_137 o_q_154 (by decide))).2.2.1.trans n_141)
  have n_162 : (sN g_153 q_154 14 (vp_V [.null, .null, .int 0, .int 0, .int 0, .int 0, .null, .null, .null, .null, .int 0, .int 0, .null, .null, .int 0])).2.2.1 q_6 = 512 := ((sN_g q_6 (ne0 r_138 o_q_154 (by decide))).2.2.1.trans n_142)
  have kn_163 : (sN g_153 q_154 14 (vp_V [.null, .null, .int 0, .int 0, .int 0, .int 0, .null, .null, .null, .null, .int 0, .int 0, .null, .null, .int 0])).2.1 h 0 = .ref q_1 := ((congrFun (sN_g h (ne0 r_136 o_q_154 (by decide))).2.1 0).trans kn_143)
  have kn_164 : (sN g_153 q_154 14 (vp_V [.null, .null, .int 0, .int 0, .int 0, .int 0, .null, .null, .null, .null, .int 0, .int 0, .null, .null, .int 0])).2.1 h 1 = .int 0 := ((congrFun (sN_g h (ne0 r_136 o_q_154 (by decide))).2.1 1).trans kn_144)
  have kn_165 : (sN g_153 q_154 14 (vp_V [.null, .null, .int 0, .int 0, .int 0, .int 0, .null, .null, .null, .null, .int 0, .int 0, .null, .null, .int 0])).2.1 h 2 = .int 0 := ((congrFun (sN_g h (ne0 r_136 o_q_154 (by decide))).2.1 2).trans kn_145)
  have kn_166 : (sN g_153 q_154 14 (vp_V [.null, .null, .int 0, .int 0, .int 0, .int 0, .null, .null, .null, .null, .int 0, .int 0, .null, .null, .int 0])).2.1 h 3 = .ref q_6 := ((congrFun (sN_g h (ne0 r_136 o_q_154 (by decide))).2.1 3).trans kn_146)
  have kn_167 : (sN g_153 q_154 14 (vp_V [.null, .null, .int 0, .int 0, .int 0, .int 0, .null, .null, .null, .null, .int 0, .int 0, .null, .null, .int 0])).2.1 h 4 = .int 0 := ((congrFun (sN_g h (ne0 r_136 o_q_154 (by decide))).2.1 4).trans kn_147)
  have kn_168 : (sN g_153 q_154 14 (vp_V [.null, .null, .int 0, .int 0, .int 0, .int 0, .null, .null, .null, .null, .int 0, .int 0, .null, .null, .int 0])).2.1 h 5 = .int 0 := ((congrFun (sN_g h (ne0 r_136 o_q_154 (by decide))).2.1 5).trans kn_148)
  have kn_169 : (sN g_153 q_154 14 (vp_V [.null, .null, .int 0, .int 0, .int 0, .int 0, .null, .null, .null, .null, .int 0, .int 0, .null, .null, .int 0])).2.1 h 6 = .int 0 := ((congrFun (sN_g h (ne0 r_136 o_q_154 (by decide))).2.1 6).trans kn_149)
  have kn_170 : (sN g_153 q_154 14 (vp_V [.null, .null, .int 0, .int 0, .int 0, .int 0, .null, .null, .null, .null, .int 0, .int 0, .null, .null, .int 0])).2.1 h 7 = .int 0 := ((congrFun (sN_g h (ne0 r_136 o_q_154 (by decide))).2.1 7).trans kn_150)
  have kn_171 : (sN g_153 q_154 14 (vp_V [.null, .null, .int 0, .int 0, .int 0, .int 0, .null, .null, .null, .null, .int 0, .int 0, .null, .null, .int 0])).2.1 q_154 0 = .null := sN_f
  have kn_172 : (sN g_153 q_154 14 (vp_V [.null, .null, .int 0, .int 0, .int 0, .int 0, .null, .null, .null, .null, .int 0, .int 0, .null, .null, .int 0])).2.1 q_154 1 = .null := sN_f
  have kn_173 : (sN g_153 q_154 14 (vp_V [.null, .null, .int 0, .int 0, .int 0, .int 0, .null, .null, .null, .null, .int 0, .int 0, .null, .null, .int 0])).2.1 q_154 2 = .int 0 := sN_f
  have kn_174 : (sN g_153 q_154 14 (vp_V [.null, .null, .int 0, .int 0, .int 0, .int 0, .null, .null, .null, .null, .int 0, .int 0, .null, .null, .int 0])).2.1 q_154 3 = .int 0 := sN_f
  have kn_175 : (sN g_153 q_154 14 (vp_V [.null, .null, .int 0, .int 0, .int 0, .int 0, .null, .null, .null, .null, .int 0, .int 0, .null, .null, .int 0])).2.1 q_154 4 = .int 0 := sN_f
  have kn_176 : (sN g_153 q_154 14 (vp_V [.null, .null, .int 0, .int 0, .int 0, .int 0, .null, .null, .null, .null, .int 0, .int 0, .null, .null, .int 0])).2.1 q_154 5 = .int 0 := sN_f
  have kn_177 : (sN g_153 q_154 14 (vp_V [.null, .null, .int 0, .int 0, .int 0, .int 0, .null, .null, .null, .null, .int 0, .int 0, .null, .null, .int 0])).2.1 q_154 6 = .null := sN_f
  have kn_178 : (sN g_153 q_154 14 (vp_V [.null, .null, .int 0, .int 0, .int 0, .int 0, .null, .null, .null, .null, .int 0, .int 0, .null, .null, .int 0])).2.1 q_154 7 = .null := sN_f
  have kn_179 : (sN g_153 q_154 14 (vp_V [.null, .null, .int 0, .int 0, .int 0, .int 0, .null, .null, .null, .null, .int 0, .int 0, .null, .null, .int 0])).2.1 q_154 8 = .null := sN_f
  have kn_180 : (sN g_153 q_154 14 (vp_V [.null, .null, .int 0, .int 0, .int 0, .int 0, .null, .null, .null, .null, .int 0, .int 0, .null, .null, .int 0])).2.1 q_154 9 = .null := sN_f
  have kn_181 : (sN g_153 q_154 14 (vp_V [.null, .null, .int 0, .int 0, .int 0, .int 0, .null, .null, .null, .null, .int 0, .int 0, .null, .null, .int 0])).2.1 q_154 10 = .int 0 := sN_f
  have kn_182 : (sN g_153 q_154 14 (vp_V [.null, .null, .int 0, .int 0, .int 0, .int 0, .null, .null, .null, .null, .int 0, .int 0, .null, .null, .int 0])).2.1 q_154 11 = .int 0 := sN_f
  have kn_183 : (sN g_153 q_154 14 (vp_V [.null, .null, .int 0, .int 0, .int 0, .int 0, .null, .null, .null, .null, .int 0, .int 0, .null, .null, .int 0])).2.1 q_154 12 = .null := sN_f
  have kn_184 : (sN g_153 q_154 14 (vp_V [.null, .null, .int 0, .int 0, .int 0, .int 0, .null, .null, .null, .null, .int 0, .int 0, .null, .null, .int 0])).2.1 q_154 13 = .null := sN_f
  have kn_185 : (sN g_153 q_154 14 (vp_V [.null, .null, .int 0, .int 0, .int 0, .int 0, .null, .null, .null, .null, .int 0, .int 0, .null, .null, .int 0])).2.1 q_154 14 = .int 0 := sN_f
  have kn_186 : (sN g_153 q_154 14 (vp_V [.null, .null, .int 0, .int 0, .int 0, .int 0, .null, .null, .null, .null, .int 0, .int 0, .null, .null, .int 0])).2.2.2.2 q_1 0 = some q_16 := ((congrFun (sN_g q_1 (ne0 r_137 o_q_154 (by decide))).2.2.2.2 _).trans kn_151)
  have kn_187 : (sN g_153 q_154 14 (vp_V [.null, .null, .int 0, .int 0, .int 0, .int 0, .null, .null, .null, .null, .int 0, .int 0, .null, .null, .int 0])).2.2.2.2 q_1 1 = some q_82 := ((congrFun (sN_g q_1 (ne0 r_137 o_q_154 (by decide))).2.2.2.2 _).trans kn_152)
  generalize (sN g_153 q_154 14 (vp_V [.null, .null, .int 0, .int 0, .int 0, .int 0, .null, .null, .null, .null, .int 0, .int 0, .null, .null, .int 0])) = g_188 at hT hI hM hE r_155 r_156 r_157 r_158 r_159 r_160 n_161 n_162 kn_163 kn_164 kn_165 kn_166 kn_167 kn_168 kn_169 kn_170 kn_171 kn_172 kn_173 kn_174 kn_175 kn_176 kn_177 kn_178 kn_179 kn_180 kn_181 kn_182 kn_183 kn_184 kn_185 kn_186 kn_187
  clear kn_143 kn_144 kn_145 kn_146 kn_147 kn_148 kn_149 kn_150 kn_151 kn_152 n_141 n_142 r_136 r_137 r_138 r_139 r_140
  refine W.widen (k := 27) (n := 787) (Nat.le_of_ble_eq_true rfl) (Nat.le_of_ble_eq_true rfl) ?_
  refine lv_dup hx hb dX5_init_68 rfl ?_
  refine t_callIN (n := 0) (As := []) (rest := [.ref q_154, .int 2, .ref q_1]) hB hT hl.1 (s_Service l D cI cZ cS cR N0 g_188 hI q_154 r_160) k_113 k_60 hB.2.2.2.2.2.2.2.1.2.1 k_112 rfl (by decide +kernel) ⟨(Nat.le_of_ble_eq_true rfl), (Nat.le_of_ble_eq_true rfl)⟩ rfl (Nat.le_of_ble_eq_true rfl) ⟨(Nat.le_of_ble_eq_true rfl), (Nat.le_of_ble_eq_true rfl)⟩ dX5_init_69 (fun v g_189 H locs hp hT => ?_)
  obtain ⟨rfl, hI, x_191, m_190, r_192⟩ := hp
  replace hM : Sm md_s_World g g_189 := hM.tr hE (m_190.mo (fun r k h => mdle_s_World_s_Service h))
  replace hE : Ex g g_189 := hE.trx z_q_154 x_191
  have r_193 : g_189.1 h = 16 := (Exx.r x_191 r_155 (by decide) (ro_ne r_155 r_160 (by decide)))
  have r_194 : g_189.1 q_1 = 44 := (Exx.r x_191 r_156 (by decide) (ro_ne r_156 r_160 (by decide)))
  have r_195 : g_189.1 q_6 = 50 := (Exx.r x_191 r_157 (by decide) (ro_ne r_157 r_160 (by decide)))
  have r_196 : g_189.1 q_16 = 4 := (Exx.r x_191 r_158 (by decide) (ro_ne r_158 r_160 (by decide)))
  have r_197 : g_189.1 q_82 = 4 := (Exx.r x_191 r_159 (by decide) (ro_ne r_159 r_160 (by decide)))
  have r_198 : g_189.1 q_154 = 4 := r_192
  have n_199 : g_189.2.2.1 q_1 = 6 := (Exx.n x_191 r_156 (by decide) (ro_ne r_156 r_160 (by decide)) n_161)
  have n_200 : g_189.2.2.1 q_6 = 512 := (Exx.n x_191 r_157 (by decide) (ro_ne r_157 r_160 (by decide)) n_162)
  have kn_201 : g_189.2.1 h 0 = .ref q_1 := (Sm.v m_190 r_155 (by decide) rfl kn_163)
  have kn_202 : g_189.2.1 h 1 = .int 0 := (Sm.v m_190 r_155 (by decide) rfl kn_164)
  have kn_203 : g_189.2.1 h 2 = .int 0 := (Sm.v m_190 r_155 (by decide) rfl kn_165)
  have kn_204 : g_189.2.1 h 3 = .ref q_6 := (Sm.v m_190 r_155 (by decide) rfl kn_166)
  have kn_205 : g_189.2.1 h 4 = .int 0 := (Sm.v m_190 r_155 (by decide) rfl kn_167)
  have kn_206 : g_189.2.1 h 5 = .int 0 := (Sm.v m_190 r_155 (by decide) rfl kn_168)
  have kn_207 : g_189.2.1 h 6 = .int 0 := (Sm.v m_190 r_155 (by decide) rfl kn_169)
  have kn_208 : g_189.2.1 h 7 = .int 0 := (Sm.v m_190 r_155 (by decide) rfl kn_170)
  have kn_209 : g_189.2.2.2.2 q_1 0 = some q_16 := ((congrFun (m_190.2 q_1 (by rw [r_156]; decide) (by rw [r_156]; rfl)).2 _).trans kn_186)
  have kn_210 : g_189.2.2.2.2 q_1 1 = some q_82 := ((congrFun (m_190.2 q_1 (by rw [r_156]; decide) (by rw [r_156]; rfl)).2 _).trans kn_187)
  refine W.eq (g2 := F0 m 72 ls [.ref q_154, .int 2, .ref q_1]) rfl ?_
  have i_211 : vp_in (2 : Int32) 6 := (by unfold vp_in; decide)
  refine t_astq hB hT r_194 n_199 (ro_ci r_198 rfl) i_211 dX5_init_72 (fun H locs hT => ?_)
  replace hI : Inv (sQ g_189 q_1 (2 : Int32).toNatClampNeg (some q_154)) := hI.sQ (by rw [r_194]; exact trivial)
  replace hM : Sm md_s_World g (sQ g_189 q_1 (2 : Int32).toNatClampNeg (some q_154)) := hM.tr hE (Sm_sQ (by rw [r_194]; rfl))
  replace hE : Ex g (sQ g_189 q_1 (2 : Int32).toNatClampNeg (some q_154)) := hE
  have r_212 : (sQ g_189 q_1 (2 : Int32).toNatClampNeg (some q_154)).1 h = 16 := r_193
  have r_213 : (sQ g_189 q_1 (2 : Int32).toNatClampNeg (some q_154)).1 q_1 = 44 := r_194
  have r_214 : (sQ g_189 q_1 (2 : Int32).toNatClampNeg (some q_154)).1 q_6 = 50 := r_195
  have r_215 : (sQ g_189 q_1 (2 : Int32).toNatClampNeg (some q_154)).1 q_16 = 4 := r_196
  have r_216 : (sQ g_189 q_1 (2 : Int32).toNatClampNeg (some q_154)).1 q_82 = 4 := r_197
  have r_217 : (sQ g_189 q_1 (2 : Int32).toNatClampNeg (some q_154)).1 q_154 = 4 := r_198
  have n_218 : (sQ g_189 q_1 (2 : Int32).toNatClampNeg (some q_154)).2.2.1 q_1 = 6 := n_199
  have n_219 : (sQ g_189 q_1 (2 : Int32).toNatClampNeg (some q_154)).2.2.1 q_6 = 512 := n_200
  have kn_220 : (sQ g_189 q_1 (2 : Int32).toNatClampNeg (some q_154)).2.1 h 0 = .ref q_1 := kn_201
  have kn_221 : (sQ g_189 q_1 (2 : Int32).toNatClampNeg (some q_154)).2.1 h 1 = .int 0 := kn_202
  have kn_222 : (sQ g_189 q_1 (2 : Int32).toNatClampNeg (some q_154)).2.1 h 2 = .int 0 := kn_203
  have kn_223 : (sQ g_189 q_1 (2 : Int32).toNatClampNeg (some q_154)).2.1 h 3 = .ref q_6 := kn_204
  have kn_224 : (sQ g_189 q_1 (2 : Int32).toNatClampNeg (some q_154)).2.1 h 4 = .int 0 := kn_205
  have kn_225 : (sQ g_189 q_1 (2 : Int32).toNatClampNeg (some q_154)).2.1 h 5 = .int 0 := kn_206
  have kn_226 : (sQ g_189 q_1 (2 : Int32).toNatClampNeg (some q_154)).2.1 h 6 = .int 0 := kn_207
  have kn_227 : (sQ g_189 q_1 (2 : Int32).toNatClampNeg (some q_154)).2.1 h 7 = .int 0 := kn_208
  have kn_228 : (sQ g_189 q_1 (2 : Int32).toNatClampNeg (some q_154)).2.2.2.2 q_1 0 = some q_16 := (sQ_i kn_209 (by decide))
  have kn_229 : (sQ g_189 q_1 (2 : Int32).toNatClampNeg (some q_154)).2.2.2.2 q_1 1 = some q_82 := (sQ_i kn_210 (by decide))
  have kn_230 : (sQ g_189 q_1 (2 : Int32).toNatClampNeg (some q_154)).2.2.2.2 q_1 2 = some q_154 := sQ_eq
  generalize (sQ g_189 q_1 (2 : Int32).toNatClampNeg (some q_154)) = g_231 at hT hI hM hE r_212 r_213 r_214 r_215 r_216 r_217 n_218 n_219 kn_220 kn_221 kn_222 kn_223 kn_224 kn_225 kn_226 kn_227 kn_228 kn_229 kn_230
  clear kn_201 kn_202 kn_203 kn_204 kn_205 kn_206 kn_207 kn_208 kn_209 kn_210 n_199 n_200 r_193 r_194 r_195 r_196 r_197 r_198
  refine lv_iinc (v := 3) (lv' := [(1, .int 3), (0, .ref h)]) hx hb dX5_init_73 hl (k := 0) rfl (by decide) (by decide) rfl (fun ls hl => ?_)
  refine lv_goto (tgt := 54) hx hb dX5_init_76 (by decide) ?_
  refine lv_iload_n hx hb dX5_init_54 rfl (lv_at hl 0 rfl) ?_
  refine lv_bipush (v := 6) hx hb dX5_init_55 (by decide) ?_
  refine lv_icmp_ge (tgt := 79) hx hb dX5_init_57 (by decide) (fun c_ => absurd c_ (by decide)) (fun c_ => ?_)
  refine lv_aload_n hx hb dX5_init_60 rfl (lv_at hl 1 rfl) ?_
  refine t_get (ci := 5) (v := .ref q_1) hB hT (ro_ci r_212 rfl) rfl 0 (by decide) k_199 kn_220 dX5_init_61 ?_
  refine lv_iload_n hx hb dX5_init_64 rfl (lv_at hl 0 rfl) ?_
  refine t_new (ci := 3) (fs := [.null, .null, .int 0, .int 0, .int 0, .int 0, .null, .null, .null, .null, .int 0, .int 0, .null, .null, .int 0]) hB hT rfl (by decide) k_108 k_110 k_60 (fnew_3) (Nat.le_of_ble_eq_true rfl) (Nat.le_of_ble_eq_true rfl) dX5_init_65 (fun q_232 H o_q_232 hT => ?_)
  have z_q_232 : g.1 q_232 = 0 := hE.z0 o_q_232
  replace hI : Inv (sN g_231 q_232 14 (vp_V [.null, .null, .int 0, .int 0, .int 0, .int 0, .null, .null, .null, .null, .int 0, .int 0, .null, .null, .int 0])) := hI.newo o_q_232 (fun _ => rfl) (fun _ => trivial) (fun _ _ => trivial)
  replace hM : Sm md_s_World g (sN g_231 q_232 14 (vp_V [.null, .null, .int 0, .int 0, .int 0, .int 0, .null, .null, .null, .null, .int 0, .int 0, .null, .null, .int 0])) := hM.tr hE (Sm.push o_q_232 sN_g)
  replace hE : Ex g (sN g_231 q_232 14 (vp_V [.null, .null, .int 0, .int 0, .int 0, .int 0, .null, .null, .null, .null, .int 0, .int 0, .null, .null, .int 0])) := hE.tr (Ex.push o_q_232 sN_g)
  have r_233 : (sN g_231 q_232 14 (vp_V [.null, .null, .int 0, .int 0, .int 0, .int 0, .null, .null, .null, .null, .int 0, .int 0, .null, .null, .int 0])).1 h = 16 := ((sN_g h (ne0 r_212 o_q_232 (by decide))).1.trans r_212)
  have r_234 : (sN g_231 q_232 14 (vp_V [.null, .null, .int 0, .int 0, .int 0, .int 0, .null, .null, .null, .null, .int 0, .int 0, .null, .null, .int 0])).1 q_1 = 44 := ((sN_g q_1 (ne0 r_213 o_q_232 (by decide))).1.trans r_213)
  have r_235 : (sN g_231 q_232 14 (vp_V [.null, .null, .int 0, .int 0, .int 0, .int 0, .null, .null, .null, .null, .int 0, .int 0, .null, .null, .int 0])).1 q_6 = 50 := ((sN_g q_6 (ne0 r_214 o_q_232 (by decide))).1.trans r_214)
  have r_236 : (sN g_231 q_232 14 (vp_V [.null, .null, .int 0, .int 0, .int 0, .int 0, .null, .null, .null, .null, .int 0, .int 0, .null, .null, .int 0])).1 q_16 = 4 := ((sN_g q_16 (ne0 r_215 o_q_232 (by decide))).1.trans r_215)
  have r_237 : (sN g_231 q_232 14 (vp_V [.null, .null, .int 0, .int 0, .int 0, .int 0, .null, .null, .null, .null, .int 0, .int 0, .null, .null, .int 0])).1 q_82 = 4 := ((sN_g q_82 (ne0 r_216 o_q_232 (by decide))).1.trans r_216)
  have r_238 : (sN g_231 q_232 14 (vp_V [.null, .null, .int 0, .int 0, .int 0, .int 0, .null, .null, .null, .null, .int 0, .int 0, .null, .null, .int 0])).1 q_154 = 4 := ((sN_g q_154 (ne0 r_217 o_q_232 (by decide))).1.trans r_217)
  have r_239 : (sN g_231 q_232 14 (vp_V [.null, .null, .int 0, .int 0, .int 0, .int 0, .null, .null, .null, .null, .int 0, .int 0, .null, .null, .int 0])).1 q_232 = 14 := sN_r
  have n_240 : (sN g_231 q_232 14 (vp_V [.null, .null, .int 0, .int 0, .int 0, .int 0, .null, .null, .null, .null, .int 0, .int 0, .null, .null, .int 0])).2.2.1 q_1 = 6 := ((sN_g q_1 (ne0 r_213 o_q_232 (by decide))).2.2.1.trans n_218)
  have n_241 : (sN g_231 q_232 14 (vp_V [.null, .null, .int 0, .int 0, .int 0, .int 0, .null, .null, .null, .null, .int 0, .int 0, .null, .null, .int 0])).2.2.1 q_6 = 512 := ((sN_g q_6 (ne0 r_214 o_q_232 (by decide))).2.2.1.trans n_219)
  have kn_242 : (sN g_231 q_232 14 (vp_V [.null, .null, .int 0, .int 0, .int 0, .int 0, .null, .null, .null, .null, .int 0, .int 0, .null, .null, .int 0])).2.1 h 0 = .ref q_1 := ((congrFun (sN_g h (ne0 r_212 o_q_232 (by decide))).2.1 0).trans kn_220)
  have kn_243 : (sN g_231 q_232 14 (vp_V [.null, .null, .int 0, .int 0, .int 0, .int 0, .null, .null, .null, .null, .int 0, .int 0, .null, .null, .int 0])).2.1 h 1 = .int 0 := ((congrFun (sN_g h (ne0 r_212 o_q_232 (by decide))).2.1 1).trans kn_221)
  have kn_244 : (sN g_231 q_232 14 (vp_V [.null, .null, .int 0, .int 0, .int 0, .int 0, .null, .null, .null, .null, .int 0, .int 0, .null, .null, .int 0])).2.1 h 2 = .int 0 := ((congrFun (sN_g h (ne0 r_212 o_q_232 (by decide))).2.1 2).trans kn_222)
  have kn_245 : (sN g_231 q_232 14 (vp_V [.null, .null, .int 0, .int 0, .int 0, .int 0, .null, .null, .null, .null, .int 0, .int 0, .null, .null, .int 0])).2.1 h 3 = .ref q_6 := ((congrFun (sN_g h (ne0 r_212 o_q_232 (by decide))).2.1 3).trans kn_223)
  have kn_246 : (sN g_231 q_232 14 (vp_V [.null, .null, .int 0, .int 0, .int 0, .int 0, .null, .null, .null, .null, .int 0, .int 0, .null, .null, .int 0])).2.1 h 4 = .int 0 := ((congrFun (sN_g h (ne0 r_212 o_q_232 (by decide))).2.1 4).trans kn_224)
  have kn_247 : (sN g_231 q_232 14 (vp_V [.null, .null, .int 0, .int 0, .int 0, .int 0, .null, .null, .null, .null, .int 0, .int 0, .null, .null, .int 0])).2.1 h 5 = .int 0 := ((congrFun (sN_g h (ne0 r_212 o_q_232 (by decide))).2.1 5).trans kn_225)
  have kn_248 : (sN g_231 q_232 14 (vp_V [.null, .null, .int 0, .int 0, .int 0, .int 0, .null, .null, .null, .null, .int 0, .int 0, .null, .null, .int 0])).2.1 h 6 = .int 0 := ((congrFun (sN_g h (ne0 r_212 o_q_232 (by decide))).2.1 6).trans kn_226)
  have kn_249 : (sN g_231 q_232 14 (vp_V [.null, .null, .int 0, .int 0, .int 0, .int 0, .null, .null, .null, .null, .int 0, .int 0, .null, .null, .int 0])).2.1 h 7 = .int 0 := ((congrFun (sN_g h (ne0 r_212 o_q_232 (by decide))).2.1 7).trans kn_227)
  have kn_250 : (sN g_231 q_232 14 (vp_V [.null, .null, .int 0, .int 0, .int 0, .int 0, .null, .null, .null, .null, .int 0, .int 0, .null, .null, .int 0])).2.1 q_232 0 = .null := sN_f
  have kn_251 : (sN g_231 q_232 14 (vp_V [.null, .null, .int 0, .int 0, .int 0, .int 0, .null, .null, .null, .null, .int 0, .int 0, .null, .null, .int 0])).2.1 q_232 1 = .null := sN_f
  have kn_252 : (sN g_231 q_232 14 (vp_V [.null, .null, .int 0, .int 0, .int 0, .int 0, .null, .null, .null, .null, .int 0, .int 0, .null, .null, .int 0])).2.1 q_232 2 = .int 0 := sN_f
  have kn_253 : (sN g_231 q_232 14 (vp_V [.null, .null, .int 0, .int 0, .int 0, .int 0, .null, .null, .null, .null, .int 0, .int 0, .null, .null, .int 0])).2.1 q_232 3 = .int 0 := sN_f
  have kn_254 : (sN g_231 q_232 14 (vp_V [.null, .null, .int 0, .int 0, .int 0, .int 0, .null, .null, .null, .null, .int 0, .int 0, .null, .null, .int 0])).2.1 q_232 4 = .int 0 := sN_f
  have kn_255 : (sN g_231 q_232 14 (vp_V [.null, .null, .int 0, .int 0, .int 0, .int 0, .null, .null, .null, .null, .int 0, .int 0, .null, .null, .int 0])).2.1 q_232 5 = .int 0 := sN_f
  have kn_256 : (sN g_231 q_232 14 (vp_V [.null, .null, .int 0, .int 0, .int 0, .int 0, .null, .null, .null, .null, .int 0, .int 0, .null, .null, .int 0])).2.1 q_232 6 = .null := sN_f
  have kn_257 : (sN g_231 q_232 14 (vp_V [.null, .null, .int 0, .int 0, .int 0, .int 0, .null, .null, .null, .null, .int 0, .int 0, .null, .null, .int 0])).2.1 q_232 7 = .null := sN_f
  have kn_258 : (sN g_231 q_232 14 (vp_V [.null, .null, .int 0, .int 0, .int 0, .int 0, .null, .null, .null, .null, .int 0, .int 0, .null, .null, .int 0])).2.1 q_232 8 = .null := sN_f
  have kn_259 : (sN g_231 q_232 14 (vp_V [.null, .null, .int 0, .int 0, .int 0, .int 0, .null, .null, .null, .null, .int 0, .int 0, .null, .null, .int 0])).2.1 q_232 9 = .null := sN_f
  have kn_260 : (sN g_231 q_232 14 (vp_V [.null, .null, .int 0, .int 0, .int 0, .int 0, .null, .null, .null, .null, .int 0, .int 0, .null, .null, .int 0])).2.1 q_232 10 = .int 0 := sN_f
  have kn_261 : (sN g_231 q_232 14 (vp_V [.null, .null, .int 0, .int 0, .int 0, .int 0, .null, .null, .null, .null, .int 0, .int 0, .null, .null, .int 0])).2.1 q_232 11 = .int 0 := sN_f
  have kn_262 : (sN g_231 q_232 14 (vp_V [.null, .null, .int 0, .int 0, .int 0, .int 0, .null, .null, .null, .null, .int 0, .int 0, .null, .null, .int 0])).2.1 q_232 12 = .null := sN_f
  have kn_263 : (sN g_231 q_232 14 (vp_V [.null, .null, .int 0, .int 0, .int 0, .int 0, .null, .null, .null, .null, .int 0, .int 0, .null, .null, .int 0])).2.1 q_232 13 = .null := sN_f
  have kn_264 : (sN g_231 q_232 14 (vp_V [.null, .null, .int 0, .int 0, .int 0, .int 0, .null, .null, .null, .null, .int 0, .int 0, .null, .null, .int 0])).2.1 q_232 14 = .int 0 := sN_f
  have kn_265 : (sN g_231 q_232 14 (vp_V [.null, .null, .int 0, .int 0, .int 0, .int 0, .null, .null, .null, .null, .int 0, .int 0, .null, .null, .int 0])).2.2.2.2 q_1 0 = some q_16 := ((congrFun (sN_g q_1 (ne0 r_213 o_q_232 (by decide))).2.2.2.2 _).trans kn_228)
  have kn_266 : (sN g_231 q_232 14 (vp_V [.null, .null, .int 0, .int 0, .int 0, .int 0, .null, .null, .null, .null, .int 0, .int 0, .null, .null, .int 0])).2.2.2.2 q_1 1 = some q_82 := ((congrFun (sN_g q_1 (ne0 r_213 o_q_232 (by decide))).2.2.2.2 _).trans kn_229)
  have kn_267 : (sN g_231 q_232 14 (vp_V [.null, .null, .int 0, .int 0, .int 0, .int 0, .null, .null, .null, .null, .int 0, .int 0, .null, .null, .int 0])).2.2.2.2 q_1 2 = some q_154 := ((congrFun (sN_g q_1 (ne0 r_213 o_q_232 (by decide))).2.2.2.2 _).trans kn_230)
  generalize (sN g_231 q_232 14 (vp_V [.null, .null, .int 0, .int 0, .int 0, .int 0, .null, .null, .null, .null, .int 0, .int 0, .null, .null, .int 0])) = g_268 at hT hI hM hE r_233 r_234 r_235 r_236 r_237 r_238 r_239 n_240 n_241 kn_242 kn_243 kn_244 kn_245 kn_246 kn_247 kn_248 kn_249 kn_250 kn_251 kn_252 kn_253 kn_254 kn_255 kn_256 kn_257 kn_258 kn_259 kn_260 kn_261 kn_262 kn_263 kn_264 kn_265 kn_266 kn_267
  clear kn_220 kn_221 kn_222 kn_223 kn_224 kn_225 kn_226 kn_227 kn_228 kn_229 kn_230 n_218 n_219 r_212 r_213 r_214 r_215 r_216 r_217
  refine W.widen (k := 39) (n := 914) (Nat.le_of_ble_eq_true rfl) (Nat.le_of_ble_eq_true rfl) ?_
  refine lv_dup hx hb dX5_init_68 rfl ?_
  refine t_callIN (n := 0) (As := []) (rest := [.ref q_232, .int 3, .ref q_1]) hB hT hl.1 (s_Service l D cI cZ cS cR N0 g_268 hI q_232 r_239) k_113 k_60 hB.2.2.2.2.2.2.2.1.2.1 k_112 rfl (by decide +kernel) ⟨(Nat.le_of_ble_eq_true rfl), (Nat.le_of_ble_eq_true rfl)⟩ rfl (Nat.le_of_ble_eq_true rfl) ⟨(Nat.le_of_ble_eq_true rfl), (Nat.le_of_ble_eq_true rfl)⟩ dX5_init_69 (fun v g_269 H locs hp hT => ?_)
  obtain ⟨rfl, hI, x_271, m_270, r_272⟩ := hp
  replace hM : Sm md_s_World g g_269 := hM.tr hE (m_270.mo (fun r k h => mdle_s_World_s_Service h))
  replace hE : Ex g g_269 := hE.trx z_q_232 x_271
  have r_273 : g_269.1 h = 16 := (Exx.r x_271 r_233 (by decide) (ro_ne r_233 r_239 (by decide)))
  have r_274 : g_269.1 q_1 = 44 := (Exx.r x_271 r_234 (by decide) (ro_ne r_234 r_239 (by decide)))
  have r_275 : g_269.1 q_6 = 50 := (Exx.r x_271 r_235 (by decide) (ro_ne r_235 r_239 (by decide)))
  have r_276 : g_269.1 q_16 = 4 := (Exx.r x_271 r_236 (by decide) (ro_ne r_236 r_239 (by decide)))
  have r_277 : g_269.1 q_82 = 4 := (Exx.r x_271 r_237 (by decide) (ro_ne r_237 r_239 (by decide)))
  have r_278 : g_269.1 q_154 = 4 := (Exx.r x_271 r_238 (by decide) (ro_ne r_238 r_239 (by decide)))
  have r_279 : g_269.1 q_232 = 4 := r_272
  have n_280 : g_269.2.2.1 q_1 = 6 := (Exx.n x_271 r_234 (by decide) (ro_ne r_234 r_239 (by decide)) n_240)
  have n_281 : g_269.2.2.1 q_6 = 512 := (Exx.n x_271 r_235 (by decide) (ro_ne r_235 r_239 (by decide)) n_241)
  have kn_282 : g_269.2.1 h 0 = .ref q_1 := (Sm.v m_270 r_233 (by decide) rfl kn_242)
  have kn_283 : g_269.2.1 h 1 = .int 0 := (Sm.v m_270 r_233 (by decide) rfl kn_243)
  have kn_284 : g_269.2.1 h 2 = .int 0 := (Sm.v m_270 r_233 (by decide) rfl kn_244)
  have kn_285 : g_269.2.1 h 3 = .ref q_6 := (Sm.v m_270 r_233 (by decide) rfl kn_245)
  have kn_286 : g_269.2.1 h 4 = .int 0 := (Sm.v m_270 r_233 (by decide) rfl kn_246)
  have kn_287 : g_269.2.1 h 5 = .int 0 := (Sm.v m_270 r_233 (by decide) rfl kn_247)
  have kn_288 : g_269.2.1 h 6 = .int 0 := (Sm.v m_270 r_233 (by decide) rfl kn_248)
  have kn_289 : g_269.2.1 h 7 = .int 0 := (Sm.v m_270 r_233 (by decide) rfl kn_249)
  have kn_290 : g_269.2.2.2.2 q_1 0 = some q_16 := ((congrFun (m_270.2 q_1 (by rw [r_234]; decide) (by rw [r_234]; rfl)).2 _).trans kn_265)
  have kn_291 : g_269.2.2.2.2 q_1 1 = some q_82 := ((congrFun (m_270.2 q_1 (by rw [r_234]; decide) (by rw [r_234]; rfl)).2 _).trans kn_266)
  have kn_292 : g_269.2.2.2.2 q_1 2 = some q_154 := ((congrFun (m_270.2 q_1 (by rw [r_234]; decide) (by rw [r_234]; rfl)).2 _).trans kn_267)
  refine W.eq (g2 := F0 m 72 ls [.ref q_232, .int 3, .ref q_1]) rfl ?_
  have i_293 : vp_in (3 : Int32) 6 := (by unfold vp_in; decide)
  refine t_astq hB hT r_274 n_280 (ro_ci r_279 rfl) i_293 dX5_init_72 (fun H locs hT => ?_)
  replace hI : Inv (sQ g_269 q_1 (3 : Int32).toNatClampNeg (some q_232)) := hI.sQ (by rw [r_274]; exact trivial)
  replace hM : Sm md_s_World g (sQ g_269 q_1 (3 : Int32).toNatClampNeg (some q_232)) := hM.tr hE (Sm_sQ (by rw [r_274]; rfl))
  replace hE : Ex g (sQ g_269 q_1 (3 : Int32).toNatClampNeg (some q_232)) := hE
  have r_294 : (sQ g_269 q_1 (3 : Int32).toNatClampNeg (some q_232)).1 h = 16 := r_273
  have r_295 : (sQ g_269 q_1 (3 : Int32).toNatClampNeg (some q_232)).1 q_1 = 44 := r_274
  have r_296 : (sQ g_269 q_1 (3 : Int32).toNatClampNeg (some q_232)).1 q_6 = 50 := r_275
  have r_297 : (sQ g_269 q_1 (3 : Int32).toNatClampNeg (some q_232)).1 q_16 = 4 := r_276
  have r_298 : (sQ g_269 q_1 (3 : Int32).toNatClampNeg (some q_232)).1 q_82 = 4 := r_277
  have r_299 : (sQ g_269 q_1 (3 : Int32).toNatClampNeg (some q_232)).1 q_154 = 4 := r_278
  have r_300 : (sQ g_269 q_1 (3 : Int32).toNatClampNeg (some q_232)).1 q_232 = 4 := r_279
  have n_301 : (sQ g_269 q_1 (3 : Int32).toNatClampNeg (some q_232)).2.2.1 q_1 = 6 := n_280
  have n_302 : (sQ g_269 q_1 (3 : Int32).toNatClampNeg (some q_232)).2.2.1 q_6 = 512 := n_281
  have kn_303 : (sQ g_269 q_1 (3 : Int32).toNatClampNeg (some q_232)).2.1 h 0 = .ref q_1 := kn_282
  have kn_304 : (sQ g_269 q_1 (3 : Int32).toNatClampNeg (some q_232)).2.1 h 1 = .int 0 := kn_283
  have kn_305 : (sQ g_269 q_1 (3 : Int32).toNatClampNeg (some q_232)).2.1 h 2 = .int 0 := kn_284
  have kn_306 : (sQ g_269 q_1 (3 : Int32).toNatClampNeg (some q_232)).2.1 h 3 = .ref q_6 := kn_285
  have kn_307 : (sQ g_269 q_1 (3 : Int32).toNatClampNeg (some q_232)).2.1 h 4 = .int 0 := kn_286
  have kn_308 : (sQ g_269 q_1 (3 : Int32).toNatClampNeg (some q_232)).2.1 h 5 = .int 0 := kn_287
  have kn_309 : (sQ g_269 q_1 (3 : Int32).toNatClampNeg (some q_232)).2.1 h 6 = .int 0 := kn_288
  have kn_310 : (sQ g_269 q_1 (3 : Int32).toNatClampNeg (some q_232)).2.1 h 7 = .int 0 := kn_289
  have kn_311 : (sQ g_269 q_1 (3 : Int32).toNatClampNeg (some q_232)).2.2.2.2 q_1 0 = some q_16 := (sQ_i kn_290 (by decide))
  have kn_312 : (sQ g_269 q_1 (3 : Int32).toNatClampNeg (some q_232)).2.2.2.2 q_1 1 = some q_82 := (sQ_i kn_291 (by decide))
  have kn_313 : (sQ g_269 q_1 (3 : Int32).toNatClampNeg (some q_232)).2.2.2.2 q_1 2 = some q_154 := (sQ_i kn_292 (by decide))
  have kn_314 : (sQ g_269 q_1 (3 : Int32).toNatClampNeg (some q_232)).2.2.2.2 q_1 3 = some q_232 := sQ_eq
  generalize (sQ g_269 q_1 (3 : Int32).toNatClampNeg (some q_232)) = g_315 at hT hI hM hE r_294 r_295 r_296 r_297 r_298 r_299 r_300 n_301 n_302 kn_303 kn_304 kn_305 kn_306 kn_307 kn_308 kn_309 kn_310 kn_311 kn_312 kn_313 kn_314
  clear kn_282 kn_283 kn_284 kn_285 kn_286 kn_287 kn_288 kn_289 kn_290 kn_291 kn_292 n_280 n_281 r_273 r_274 r_275 r_276 r_277 r_278 r_279
  refine lv_iinc (v := 4) (lv' := [(1, .int 4), (0, .ref h)]) hx hb dX5_init_73 hl (k := 0) rfl (by decide) (by decide) rfl (fun ls hl => ?_)
  refine lv_goto (tgt := 54) hx hb dX5_init_76 (by decide) ?_
  refine lv_iload_n hx hb dX5_init_54 rfl (lv_at hl 0 rfl) ?_
  refine lv_bipush (v := 6) hx hb dX5_init_55 (by decide) ?_
  refine lv_icmp_ge (tgt := 79) hx hb dX5_init_57 (by decide) (fun c_ => absurd c_ (by decide)) (fun c_ => ?_)
  refine lv_aload_n hx hb dX5_init_60 rfl (lv_at hl 1 rfl) ?_
  refine t_get (ci := 5) (v := .ref q_1) hB hT (ro_ci r_294 rfl) rfl 0 (by decide) k_199 kn_303 dX5_init_61 ?_
  refine lv_iload_n hx hb dX5_init_64 rfl (lv_at hl 0 rfl) ?_
  refine t_new (ci := 3) (fs := [.null, .null, .int 0, .int 0, .int 0, .int 0, .null, .null, .null, .null, .int 0, .int 0, .null, .null, .int 0]) hB hT rfl (by decide) k_108 k_110 k_60 (fnew_3) (Nat.le_of_ble_eq_true rfl) (Nat.le_of_ble_eq_true rfl) dX5_init_65 (fun q_316 H o_q_316 hT => ?_)
  have z_q_316 : g.1 q_316 = 0 := hE.z0 o_q_316
  replace hI : Inv (sN g_315 q_316 14 (vp_V [.null, .null, .int 0, .int 0, .int 0, .int 0, .null, .null, .null, .null, .int 0, .int 0, .null, .null, .int 0])) := hI.newo o_q_316 (fun _ => rfl) (fun _ => trivial) (fun _ _ => trivial)
  replace hM : Sm md_s_World g (sN g_315 q_316 14 (vp_V [.null, .null, .int 0, .int 0, .int 0, .int 0, .null, .null, .null, .null, .int 0, .int 0, .null, .null, .int 0])) := hM.tr hE (Sm.push o_q_316 sN_g)
  replace hE : Ex g (sN g_315 q_316 14 (vp_V [.null, .null, .int 0, .int 0, .int 0, .int 0, .null, .null, .null, .null, .int 0, .int 0, .null, .null, .int 0])) := hE.tr (Ex.push o_q_316 sN_g)
  have r_317 : (sN g_315 q_316 14 (vp_V [.null, .null, .int 0, .int 0, .int 0, .int 0, .null, .null, .null, .null, .int 0, .int 0, .null, .null, .int 0])).1 h = 16 := ((sN_g h (ne0 r_294 o_q_316 (by decide))).1.trans r_294)
  have r_318 : (sN g_315 q_316 14 (vp_V [.null, .null, .int 0, .int 0, .int 0, .int 0, .null, .null, .null, .null, .int 0, .int 0, .null, .null, .int 0])).1 q_1 = 44 := ((sN_g q_1 (ne0 r_295 o_q_316 (by decide))).1.trans r_295)
  have r_319 : (sN g_315 q_316 14 (vp_V [.null, .null, .int 0, .int 0, .int 0, .int 0, .null, .null, .null, .null, .int 0, .int 0, .null, .null, .int 0])).1 q_6 = 50 := ((sN_g q_6 (ne0 r_296 o_q_316 (by decide))).1.trans r_296)
  have r_320 : (sN g_315 q_316 14 (vp_V [.null, .null, .int 0, .int 0, .int 0, .int 0, .null, .null, .null, .null, .int 0, .int 0, .null, .null, .int 0])).1 q_16 = 4 := ((sN_g q_16 (ne0 r_297 o_q_316 (by decide))).1.trans r_297)
  have r_321 : (sN g_315 q_316 14 (vp_V [.null, .null, .int 0, .int 0, .int 0, .int 0, .null, .null, .null, .null, .int 0, .int 0, .null, .null, .int 0])).1 q_82 = 4 := ((sN_g q_82 (ne0 r_298 o_q_316 (by decide))).1.trans r_298)
  have r_322 : (sN g_315 q_316 14 (vp_V [.null, .null, .int 0, .int 0, .int 0, .int 0, .null, .null, .null, .null, .int 0, .int 0, .null, .null, .int 0])).1 q_154 = 4 := ((sN_g q_154 (ne0 r_299 o_q_316 (by decide))).1.trans r_299)
  have r_323 : (sN g_315 q_316 14 (vp_V [.null, .null, .int 0, .int 0, .int 0, .int 0, .null, .null, .null, .null, .int 0, .int 0, .null, .null, .int 0])).1 q_232 = 4 := ((sN_g q_232 (ne0 r_300 o_q_316 (by decide))).1.trans r_300)
  have r_324 : (sN g_315 q_316 14 (vp_V [.null, .null, .int 0, .int 0, .int 0, .int 0, .null, .null, .null, .null, .int 0, .int 0, .null, .null, .int 0])).1 q_316 = 14 := sN_r
  have n_325 : (sN g_315 q_316 14 (vp_V [.null, .null, .int 0, .int 0, .int 0, .int 0, .null, .null, .null, .null, .int 0, .int 0, .null, .null, .int 0])).2.2.1 q_1 = 6 := ((sN_g q_1 (ne0 r_295 o_q_316 (by decide))).2.2.1.trans n_301)
  have n_326 : (sN g_315 q_316 14 (vp_V [.null, .null, .int 0, .int 0, .int 0, .int 0, .null, .null, .null, .null, .int 0, .int 0, .null, .null, .int 0])).2.2.1 q_6 = 512 := ((sN_g q_6 (ne0 r_296 o_q_316 (by decide))).2.2.1.trans n_302)
  have kn_327 : (sN g_315 q_316 14 (vp_V [.null, .null, .int 0, .int 0, .int 0, .int 0, .null, .null, .null, .null, .int 0, .int 0, .null, .null, .int 0])).2.1 h 0 = .ref q_1 := ((congrFun (sN_g h (ne0 r_294 o_q_316 (by decide))).2.1 0).trans kn_303)
  have kn_328 : (sN g_315 q_316 14 (vp_V [.null, .null, .int 0, .int 0, .int 0, .int 0, .null, .null, .null, .null, .int 0, .int 0, .null, .null, .int 0])).2.1 h 1 = .int 0 := ((congrFun (sN_g h (ne0 r_294 o_q_316 (by decide))).2.1 1).trans kn_304)
  have kn_329 : (sN g_315 q_316 14 (vp_V [.null, .null, .int 0, .int 0, .int 0, .int 0, .null, .null, .null, .null, .int 0, .int 0, .null, .null, .int 0])).2.1 h 2 = .int 0 := ((congrFun (sN_g h (ne0 r_294 o_q_316 (by decide))).2.1 2).trans kn_305)
  have kn_330 : (sN g_315 q_316 14 (vp_V [.null, .null, .int 0, .int 0, .int 0, .int 0, .null, .null, .null, .null, .int 0, .int 0, .null, .null, .int 0])).2.1 h 3 = .ref q_6 := ((congrFun (sN_g h (ne0 r_294 o_q_316 (by decide))).2.1 3).trans kn_306)
  have kn_331 : (sN g_315 q_316 14 (vp_V [.null, .null, .int 0, .int 0, .int 0, .int 0, .null, .null, .null, .null, .int 0, .int 0, .null, .null, .int 0])).2.1 h 4 = .int 0 := ((congrFun (sN_g h (ne0 r_294 o_q_316 (by decide))).2.1 4).trans kn_307)
  have kn_332 : (sN g_315 q_316 14 (vp_V [.null, .null, .int 0, .int 0, .int 0, .int 0, .null, .null, .null, .null, .int 0, .int 0, .null, .null, .int 0])).2.1 h 5 = .int 0 := ((congrFun (sN_g h (ne0 r_294 o_q_316 (by decide))).2.1 5).trans kn_308)
  have kn_333 : (sN g_315 q_316 14 (vp_V [.null, .null, .int 0, .int 0, .int 0, .int 0, .null, .null, .null, .null, .int 0, .int 0, .null, .null, .int 0])).2.1 h 6 = .int 0 := ((congrFun (sN_g h (ne0 r_294 o_q_316 (by decide))).2.1 6).trans kn_309)
  have kn_334 : (sN g_315 q_316 14 (vp_V [.null, .null, .int 0, .int 0, .int 0, .int 0, .null, .null, .null, .null, .int 0, .int 0, .null, .null, .int 0])).2.1 h 7 = .int 0 := ((congrFun (sN_g h (ne0 r_294 o_q_316 (by decide))).2.1 7).trans kn_310)
  have kn_335 : (sN g_315 q_316 14 (vp_V [.null, .null, .int 0, .int 0, .int 0, .int 0, .null, .null, .null, .null, .int 0, .int 0, .null, .null, .int 0])).2.1 q_316 0 = .null := sN_f
  have kn_336 : (sN g_315 q_316 14 (vp_V [.null, .null, .int 0, .int 0, .int 0, .int 0, .null, .null, .null, .null, .int 0, .int 0, .null, .null, .int 0])).2.1 q_316 1 = .null := sN_f
  have kn_337 : (sN g_315 q_316 14 (vp_V [.null, .null, .int 0, .int 0, .int 0, .int 0, .null, .null, .null, .null, .int 0, .int 0, .null, .null, .int 0])).2.1 q_316 2 = .int 0 := sN_f
  have kn_338 : (sN g_315 q_316 14 (vp_V [.null, .null, .int 0, .int 0, .int 0, .int 0, .null, .null, .null, .null, .int 0, .int 0, .null, .null, .int 0])).2.1 q_316 3 = .int 0 := sN_f
  have kn_339 : (sN g_315 q_316 14 (vp_V [.null, .null, .int 0, .int 0, .int 0, .int 0, .null, .null, .null, .null, .int 0, .int 0, .null, .null, .int 0])).2.1 q_316 4 = .int 0 := sN_f
  have kn_340 : (sN g_315 q_316 14 (vp_V [.null, .null, .int 0, .int 0, .int 0, .int 0, .null, .null, .null, .null, .int 0, .int 0, .null, .null, .int 0])).2.1 q_316 5 = .int 0 := sN_f
  have kn_341 : (sN g_315 q_316 14 (vp_V [.null, .null, .int 0, .int 0, .int 0, .int 0, .null, .null, .null, .null, .int 0, .int 0, .null, .null, .int 0])).2.1 q_316 6 = .null := sN_f
  have kn_342 : (sN g_315 q_316 14 (vp_V [.null, .null, .int 0, .int 0, .int 0, .int 0, .null, .null, .null, .null, .int 0, .int 0, .null, .null, .int 0])).2.1 q_316 7 = .null := sN_f
  have kn_343 : (sN g_315 q_316 14 (vp_V [.null, .null, .int 0, .int 0, .int 0, .int 0, .null, .null, .null, .null, .int 0, .int 0, .null, .null, .int 0])).2.1 q_316 8 = .null := sN_f
  have kn_344 : (sN g_315 q_316 14 (vp_V [.null, .null, .int 0, .int 0, .int 0, .int 0, .null, .null, .null, .null, .int 0, .int 0, .null, .null, .int 0])).2.1 q_316 9 = .null := sN_f
  have kn_345 : (sN g_315 q_316 14 (vp_V [.null, .null, .int 0, .int 0, .int 0, .int 0, .null, .null, .null, .null, .int 0, .int 0, .null, .null, .int 0])).2.1 q_316 10 = .int 0 := sN_f
  have kn_346 : (sN g_315 q_316 14 (vp_V [.null, .null, .int 0, .int 0, .int 0, .int 0, .null, .null, .null, .null, .int 0, .int 0, .null, .null, .int 0])).2.1 q_316 11 = .int 0 := sN_f
  have kn_347 : (sN g_315 q_316 14 (vp_V [.null, .null, .int 0, .int 0, .int 0, .int 0, .null, .null, .null, .null, .int 0, .int 0, .null, .null, .int 0])).2.1 q_316 12 = .null := sN_f
  have kn_348 : (sN g_315 q_316 14 (vp_V [.null, .null, .int 0, .int 0, .int 0, .int 0, .null, .null, .null, .null, .int 0, .int 0, .null, .null, .int 0])).2.1 q_316 13 = .null := sN_f
  have kn_349 : (sN g_315 q_316 14 (vp_V [.null, .null, .int 0, .int 0, .int 0, .int 0, .null, .null, .null, .null, .int 0, .int 0, .null, .null, .int 0])).2.1 q_316 14 = .int 0 := sN_f
  have kn_350 : (sN g_315 q_316 14 (vp_V [.null, .null, .int 0, .int 0, .int 0, .int 0, .null, .null, .null, .null, .int 0, .int 0, .null, .null, .int 0])).2.2.2.2 q_1 0 = some q_16 := ((congrFun (sN_g q_1 (ne0 r_295 o_q_316 (by decide))).2.2.2.2 _).trans kn_311)
  have kn_351 : (sN g_315 q_316 14 (vp_V [.null, .null, .int 0, .int 0, .int 0, .int 0, .null, .null, .null, .null, .int 0, .int 0, .null, .null, .int 0])).2.2.2.2 q_1 1 = some q_82 := ((congrFun (sN_g q_1 (ne0 r_295 o_q_316 (by decide))).2.2.2.2 _).trans kn_312)
  have kn_352 : (sN g_315 q_316 14 (vp_V [.null, .null, .int 0, .int 0, .int 0, .int 0, .null, .null, .null, .null, .int 0, .int 0, .null, .null, .int 0])).2.2.2.2 q_1 2 = some q_154 := ((congrFun (sN_g q_1 (ne0 r_295 o_q_316 (by decide))).2.2.2.2 _).trans kn_313)
  have kn_353 : (sN g_315 q_316 14 (vp_V [.null, .null, .int 0, .int 0, .int 0, .int 0, .null, .null, .null, .null, .int 0, .int 0, .null, .null, .int 0])).2.2.2.2 q_1 3 = some q_232 := ((congrFun (sN_g q_1 (ne0 r_295 o_q_316 (by decide))).2.2.2.2 _).trans kn_314)
  generalize (sN g_315 q_316 14 (vp_V [.null, .null, .int 0, .int 0, .int 0, .int 0, .null, .null, .null, .null, .int 0, .int 0, .null, .null, .int 0])) = g_354 at hT hI hM hE r_317 r_318 r_319 r_320 r_321 r_322 r_323 r_324 n_325 n_326 kn_327 kn_328 kn_329 kn_330 kn_331 kn_332 kn_333 kn_334 kn_335 kn_336 kn_337 kn_338 kn_339 kn_340 kn_341 kn_342 kn_343 kn_344 kn_345 kn_346 kn_347 kn_348 kn_349 kn_350 kn_351 kn_352 kn_353
  clear kn_303 kn_304 kn_305 kn_306 kn_307 kn_308 kn_309 kn_310 kn_311 kn_312 kn_313 kn_314 n_301 n_302 r_294 r_295 r_296 r_297 r_298 r_299 r_300
  refine W.widen (k := 51) (n := 1041) (Nat.le_of_ble_eq_true rfl) (Nat.le_of_ble_eq_true rfl) ?_
  refine lv_dup hx hb dX5_init_68 rfl ?_
  refine t_callIN (n := 0) (As := []) (rest := [.ref q_316, .int 4, .ref q_1]) hB hT hl.1 (s_Service l D cI cZ cS cR N0 g_354 hI q_316 r_324) k_113 k_60 hB.2.2.2.2.2.2.2.1.2.1 k_112 rfl (by decide +kernel) ⟨(Nat.le_of_ble_eq_true rfl), (Nat.le_of_ble_eq_true rfl)⟩ rfl (Nat.le_of_ble_eq_true rfl) ⟨(Nat.le_of_ble_eq_true rfl), (Nat.le_of_ble_eq_true rfl)⟩ dX5_init_69 (fun v g_355 H locs hp hT => ?_)
  obtain ⟨rfl, hI, x_357, m_356, r_358⟩ := hp
  replace hM : Sm md_s_World g g_355 := hM.tr hE (m_356.mo (fun r k h => mdle_s_World_s_Service h))
  replace hE : Ex g g_355 := hE.trx z_q_316 x_357
  have r_359 : g_355.1 h = 16 := (Exx.r x_357 r_317 (by decide) (ro_ne r_317 r_324 (by decide)))
  have r_360 : g_355.1 q_1 = 44 := (Exx.r x_357 r_318 (by decide) (ro_ne r_318 r_324 (by decide)))
  have r_361 : g_355.1 q_6 = 50 := (Exx.r x_357 r_319 (by decide) (ro_ne r_319 r_324 (by decide)))
  have r_362 : g_355.1 q_16 = 4 := (Exx.r x_357 r_320 (by decide) (ro_ne r_320 r_324 (by decide)))
  have r_363 : g_355.1 q_82 = 4 := (Exx.r x_357 r_321 (by decide) (ro_ne r_321 r_324 (by decide)))
  have r_364 : g_355.1 q_154 = 4 := (Exx.r x_357 r_322 (by decide) (ro_ne r_322 r_324 (by decide)))
  have r_365 : g_355.1 q_232 = 4 := (Exx.r x_357 r_323 (by decide) (ro_ne r_323 r_324 (by decide)))
  have r_366 : g_355.1 q_316 = 4 := r_358
  have n_367 : g_355.2.2.1 q_1 = 6 := (Exx.n x_357 r_318 (by decide) (ro_ne r_318 r_324 (by decide)) n_325)
  have n_368 : g_355.2.2.1 q_6 = 512 := (Exx.n x_357 r_319 (by decide) (ro_ne r_319 r_324 (by decide)) n_326)
  have kn_369 : g_355.2.1 h 0 = .ref q_1 := (Sm.v m_356 r_317 (by decide) rfl kn_327)
  have kn_370 : g_355.2.1 h 1 = .int 0 := (Sm.v m_356 r_317 (by decide) rfl kn_328)
  have kn_371 : g_355.2.1 h 2 = .int 0 := (Sm.v m_356 r_317 (by decide) rfl kn_329)
  have kn_372 : g_355.2.1 h 3 = .ref q_6 := (Sm.v m_356 r_317 (by decide) rfl kn_330)
  have kn_373 : g_355.2.1 h 4 = .int 0 := (Sm.v m_356 r_317 (by decide) rfl kn_331)
  have kn_374 : g_355.2.1 h 5 = .int 0 := (Sm.v m_356 r_317 (by decide) rfl kn_332)
  have kn_375 : g_355.2.1 h 6 = .int 0 := (Sm.v m_356 r_317 (by decide) rfl kn_333)
  have kn_376 : g_355.2.1 h 7 = .int 0 := (Sm.v m_356 r_317 (by decide) rfl kn_334)
  have kn_377 : g_355.2.2.2.2 q_1 0 = some q_16 := ((congrFun (m_356.2 q_1 (by rw [r_318]; decide) (by rw [r_318]; rfl)).2 _).trans kn_350)
  have kn_378 : g_355.2.2.2.2 q_1 1 = some q_82 := ((congrFun (m_356.2 q_1 (by rw [r_318]; decide) (by rw [r_318]; rfl)).2 _).trans kn_351)
  have kn_379 : g_355.2.2.2.2 q_1 2 = some q_154 := ((congrFun (m_356.2 q_1 (by rw [r_318]; decide) (by rw [r_318]; rfl)).2 _).trans kn_352)
  have kn_380 : g_355.2.2.2.2 q_1 3 = some q_232 := ((congrFun (m_356.2 q_1 (by rw [r_318]; decide) (by rw [r_318]; rfl)).2 _).trans kn_353)
  refine W.eq (g2 := F0 m 72 ls [.ref q_316, .int 4, .ref q_1]) rfl ?_
  have i_381 : vp_in (4 : Int32) 6 := (by unfold vp_in; decide)
  refine t_astq hB hT r_360 n_367 (ro_ci r_366 rfl) i_381 dX5_init_72 (fun H locs hT => ?_)
  replace hI : Inv (sQ g_355 q_1 (4 : Int32).toNatClampNeg (some q_316)) := hI.sQ (by rw [r_360]; exact trivial)
  replace hM : Sm md_s_World g (sQ g_355 q_1 (4 : Int32).toNatClampNeg (some q_316)) := hM.tr hE (Sm_sQ (by rw [r_360]; rfl))
  replace hE : Ex g (sQ g_355 q_1 (4 : Int32).toNatClampNeg (some q_316)) := hE
  have r_382 : (sQ g_355 q_1 (4 : Int32).toNatClampNeg (some q_316)).1 h = 16 := r_359
  have r_383 : (sQ g_355 q_1 (4 : Int32).toNatClampNeg (some q_316)).1 q_1 = 44 := r_360
  have r_384 : (sQ g_355 q_1 (4 : Int32).toNatClampNeg (some q_316)).1 q_6 = 50 := r_361
  have r_385 : (sQ g_355 q_1 (4 : Int32).toNatClampNeg (some q_316)).1 q_16 = 4 := r_362
  have r_386 : (sQ g_355 q_1 (4 : Int32).toNatClampNeg (some q_316)).1 q_82 = 4 := r_363
  have r_387 : (sQ g_355 q_1 (4 : Int32).toNatClampNeg (some q_316)).1 q_154 = 4 := r_364
  have r_388 : (sQ g_355 q_1 (4 : Int32).toNatClampNeg (some q_316)).1 q_232 = 4 := r_365
  have r_389 : (sQ g_355 q_1 (4 : Int32).toNatClampNeg (some q_316)).1 q_316 = 4 := r_366
  have n_390 : (sQ g_355 q_1 (4 : Int32).toNatClampNeg (some q_316)).2.2.1 q_1 = 6 := n_367
  have n_391 : (sQ g_355 q_1 (4 : Int32).toNatClampNeg (some q_316)).2.2.1 q_6 = 512 := n_368
  have kn_392 : (sQ g_355 q_1 (4 : Int32).toNatClampNeg (some q_316)).2.1 h 0 = .ref q_1 := kn_369
  have kn_393 : (sQ g_355 q_1 (4 : Int32).toNatClampNeg (some q_316)).2.1 h 1 = .int 0 := kn_370
  have kn_394 : (sQ g_355 q_1 (4 : Int32).toNatClampNeg (some q_316)).2.1 h 2 = .int 0 := kn_371
  have kn_395 : (sQ g_355 q_1 (4 : Int32).toNatClampNeg (some q_316)).2.1 h 3 = .ref q_6 := kn_372
  have kn_396 : (sQ g_355 q_1 (4 : Int32).toNatClampNeg (some q_316)).2.1 h 4 = .int 0 := kn_373
  have kn_397 : (sQ g_355 q_1 (4 : Int32).toNatClampNeg (some q_316)).2.1 h 5 = .int 0 := kn_374
  have kn_398 : (sQ g_355 q_1 (4 : Int32).toNatClampNeg (some q_316)).2.1 h 6 = .int 0 := kn_375
  have kn_399 : (sQ g_355 q_1 (4 : Int32).toNatClampNeg (some q_316)).2.1 h 7 = .int 0 := kn_376
  have kn_400 : (sQ g_355 q_1 (4 : Int32).toNatClampNeg (some q_316)).2.2.2.2 q_1 0 = some q_16 := (sQ_i kn_377 (by decide))
  have kn_401 : (sQ g_355 q_1 (4 : Int32).toNatClampNeg (some q_316)).2.2.2.2 q_1 1 = some q_82 := (sQ_i kn_378 (by decide))
  have kn_402 : (sQ g_355 q_1 (4 : Int32).toNatClampNeg (some q_316)).2.2.2.2 q_1 2 = some q_154 := (sQ_i kn_379 (by decide))
  have kn_403 : (sQ g_355 q_1 (4 : Int32).toNatClampNeg (some q_316)).2.2.2.2 q_1 3 = some q_232 := (sQ_i kn_380 (by decide))
  have kn_404 : (sQ g_355 q_1 (4 : Int32).toNatClampNeg (some q_316)).2.2.2.2 q_1 4 = some q_316 := sQ_eq
  generalize (sQ g_355 q_1 (4 : Int32).toNatClampNeg (some q_316)) = g_405 at hT hI hM hE r_382 r_383 r_384 r_385 r_386 r_387 r_388 r_389 n_390 n_391 kn_392 kn_393 kn_394 kn_395 kn_396 kn_397 kn_398 kn_399 kn_400 kn_401 kn_402 kn_403 kn_404
  clear kn_369 kn_370 kn_371 kn_372 kn_373 kn_374 kn_375 kn_376 kn_377 kn_378 kn_379 kn_380 n_367 n_368 r_359 r_360 r_361 r_362 r_363 r_364 r_365 r_366
  refine lv_iinc (v := 5) (lv' := [(1, .int 5), (0, .ref h)]) hx hb dX5_init_73 hl (k := 0) rfl (by decide) (by decide) rfl (fun ls hl => ?_)
  refine lv_goto (tgt := 54) hx hb dX5_init_76 (by decide) ?_
  refine lv_iload_n hx hb dX5_init_54 rfl (lv_at hl 0 rfl) ?_
  refine lv_bipush (v := 6) hx hb dX5_init_55 (by decide) ?_
  refine lv_icmp_ge (tgt := 79) hx hb dX5_init_57 (by decide) (fun c_ => absurd c_ (by decide)) (fun c_ => ?_)
  refine lv_aload_n hx hb dX5_init_60 rfl (lv_at hl 1 rfl) ?_
  refine t_get (ci := 5) (v := .ref q_1) hB hT (ro_ci r_382 rfl) rfl 0 (by decide) k_199 kn_392 dX5_init_61 ?_
  refine lv_iload_n hx hb dX5_init_64 rfl (lv_at hl 0 rfl) ?_
  refine t_new (ci := 3) (fs := [.null, .null, .int 0, .int 0, .int 0, .int 0, .null, .null, .null, .null, .int 0, .int 0, .null, .null, .int 0]) hB hT rfl (by decide) k_108 k_110 k_60 (fnew_3) (Nat.le_of_ble_eq_true rfl) (Nat.le_of_ble_eq_true rfl) dX5_init_65 (fun q_406 H o_q_406 hT => ?_)
  have z_q_406 : g.1 q_406 = 0 := hE.z0 o_q_406
  replace hI : Inv (sN g_405 q_406 14 (vp_V [.null, .null, .int 0, .int 0, .int 0, .int 0, .null, .null, .null, .null, .int 0, .int 0, .null, .null, .int 0])) := hI.newo o_q_406 (fun _ => rfl) (fun _ => trivial) (fun _ _ => trivial)
  replace hM : Sm md_s_World g (sN g_405 q_406 14 (vp_V [.null, .null, .int 0, .int 0, .int 0, .int 0, .null, .null, .null, .null, .int 0, .int 0, .null, .null, .int 0])) := hM.tr hE (Sm.push o_q_406 sN_g)
  replace hE : Ex g (sN g_405 q_406 14 (vp_V [.null, .null, .int 0, .int 0, .int 0, .int 0, .null, .null, .null, .null, .int 0, .int 0, .null, .null, .int 0])) := hE.tr (Ex.push o_q_406 sN_g)
  have r_407 : (sN g_405 q_406 14 (vp_V [.null, .null, .int 0, .int 0, .int 0, .int 0, .null, .null, .null, .null, .int 0, .int 0, .null, .null, .int 0])).1 h = 16 := ((sN_g h (ne0 r_382 o_q_406 (by decide))).1.trans r_382)
  have r_408 : (sN g_405 q_406 14 (vp_V [.null, .null, .int 0, .int 0, .int 0, .int 0, .null, .null, .null, .null, .int 0, .int 0, .null, .null, .int 0])).1 q_1 = 44 := ((sN_g q_1 (ne0 r_383 o_q_406 (by decide))).1.trans r_383)
  have r_409 : (sN g_405 q_406 14 (vp_V [.null, .null, .int 0, .int 0, .int 0, .int 0, .null, .null, .null, .null, .int 0, .int 0, .null, .null, .int 0])).1 q_6 = 50 := ((sN_g q_6 (ne0 r_384 o_q_406 (by decide))).1.trans r_384)
  have r_410 : (sN g_405 q_406 14 (vp_V [.null, .null, .int 0, .int 0, .int 0, .int 0, .null, .null, .null, .null, .int 0, .int 0, .null, .null, .int 0])).1 q_16 = 4 := ((sN_g q_16 (ne0 r_385 o_q_406 (by decide))).1.trans r_385)
  have r_411 : (sN g_405 q_406 14 (vp_V [.null, .null, .int 0, .int 0, .int 0, .int 0, .null, .null, .null, .null, .int 0, .int 0, .null, .null, .int 0])).1 q_82 = 4 := ((sN_g q_82 (ne0 r_386 o_q_406 (by decide))).1.trans r_386)
  have r_412 : (sN g_405 q_406 14 (vp_V [.null, .null, .int 0, .int 0, .int 0, .int 0, .null, .null, .null, .null, .int 0, .int 0, .null, .null, .int 0])).1 q_154 = 4 := ((sN_g q_154 (ne0 r_387 o_q_406 (by decide))).1.trans r_387)
  have r_413 : (sN g_405 q_406 14 (vp_V [.null, .null, .int 0, .int 0, .int 0, .int 0, .null, .null, .null, .null, .int 0, .int 0, .null, .null, .int 0])).1 q_232 = 4 := ((sN_g q_232 (ne0 r_388 o_q_406 (by decide))).1.trans r_388)
  have r_414 : (sN g_405 q_406 14 (vp_V [.null, .null, .int 0, .int 0, .int 0, .int 0, .null, .null, .null, .null, .int 0, .int 0, .null, .null, .int 0])).1 q_316 = 4 := ((sN_g q_316 (ne0 r_389 o_q_406 (by decide))).1.trans r_389)
  have r_415 : (sN g_405 q_406 14 (vp_V [.null, .null, .int 0, .int 0, .int 0, .int 0, .null, .null, .null, .null, .int 0, .int 0, .null, .null, .int 0])).1 q_406 = 14 := sN_r
  have n_416 : (sN g_405 q_406 14 (vp_V [.null, .null, .int 0, .int 0, .int 0, .int 0, .null, .null, .null, .null, .int 0, .int 0, .null, .null, .int 0])).2.2.1 q_1 = 6 := ((sN_g q_1 (ne0 r_383 o_q_406 (by decide))).2.2.1.trans n_390)
  have n_417 : (sN g_405 q_406 14 (vp_V [.null, .null, .int 0, .int 0, .int 0, .int 0, .null, .null, .null, .null, .int 0, .int 0, .null, .null, .int 0])).2.2.1 q_6 = 512 := ((sN_g q_6 (ne0 r_384 o_q_406 (by decide))).2.2.1.trans n_391)
  have kn_418 : (sN g_405 q_406 14 (vp_V [.null, .null, .int 0, .int 0, .int 0, .int 0, .null, .null, .null, .null, .int 0, .int 0, .null, .null, .int 0])).2.1 h 0 = .ref q_1 := ((congrFun (sN_g h (ne0 r_382 o_q_406 (by decide))).2.1 0).trans kn_392)
  have kn_419 : (sN g_405 q_406 14 (vp_V [.null, .null, .int 0, .int 0, .int 0, .int 0, .null, .null, .null, .null, .int 0, .int 0, .null, .null, .int 0])).2.1 h 1 = .int 0 := ((congrFun (sN_g h (ne0 r_382 o_q_406 (by decide))).2.1 1).trans kn_393)
  have kn_420 : (sN g_405 q_406 14 (vp_V [.null, .null, .int 0, .int 0, .int 0, .int 0, .null, .null, .null, .null, .int 0, .int 0, .null, .null, .int 0])).2.1 h 2 = .int 0 := ((congrFun (sN_g h (ne0 r_382 o_q_406 (by decide))).2.1 2).trans kn_394)
  have kn_421 : (sN g_405 q_406 14 (vp_V [.null, .null, .int 0, .int 0, .int 0, .int 0, .null, .null, .null, .null, .int 0, .int 0, .null, .null, .int 0])).2.1 h 3 = .ref q_6 := ((congrFun (sN_g h (ne0 r_382 o_q_406 (by decide))).2.1 3).trans kn_395)
  have kn_422 : (sN g_405 q_406 14 (vp_V [.null, .null, .int 0, .int 0, .int 0, .int 0, .null, .null, .null, .null, .int 0, .int 0, .null, .null, .int 0])).2.1 h 4 = .int 0 := ((congrFun (sN_g h (ne0 r_382 o_q_406 (by decide))).2.1 4).trans kn_396)
  have kn_423 : (sN g_405 q_406 14 (vp_V [.null, .null, .int 0, .int 0, .int 0, .int 0, .null, .null, .null, .null, .int 0, .int 0, .null, .null, .int 0])).2.1 h 5 = .int 0 := ((congrFun (sN_g h (ne0 r_382 o_q_406 (by decide))).2.1 5).trans kn_397)
  have kn_424 : (sN g_405 q_406 14 (vp_V [.null, .null, .int 0, .int 0, .int 0, .int 0, .null, .null, .null, .null, .int 0, .int 0, .null, .null, .int 0])).2.1 h 6 = .int 0 := ((congrFun (sN_g h (ne0 r_382 o_q_406 (by decide))).2.1 6).trans kn_398)
  have kn_425 : (sN g_405 q_406 14 (vp_V [.null, .null, .int 0, .int 0, .int 0, .int 0, .null, .null, .null, .null, .int 0, .int 0, .null, .null, .int 0])).2.1 h 7 = .int 0 := ((congrFun (sN_g h (ne0 r_382 o_q_406 (by decide))).2.1 7).trans kn_399)
  have kn_426 : (sN g_405 q_406 14 (vp_V [.null, .null, .int 0, .int 0, .int 0, .int 0, .null, .null, .null, .null, .int 0, .int 0, .null, .null, .int 0])).2.1 q_406 0 = .null := sN_f
  have kn_427 : (sN g_405 q_406 14 (vp_V [.null, .null, .int 0, .int 0, .int 0, .int 0, .null, .null, .null, .null, .int 0, .int 0, .null, .null, .int 0])).2.1 q_406 1 = .null := sN_f
  have kn_428 : (sN g_405 q_406 14 (vp_V [.null, .null, .int 0, .int 0, .int 0, .int 0, .null, .null, .null, .null, .int 0, .int 0, .null, .null, .int 0])).2.1 q_406 2 = .int 0 := sN_f
  have kn_429 : (sN g_405 q_406 14 (vp_V [.null, .null, .int 0, .int 0, .int 0, .int 0, .null, .null, .null, .null, .int 0, .int 0, .null, .null, .int 0])).2.1 q_406 3 = .int 0 := sN_f
  have kn_430 : (sN g_405 q_406 14 (vp_V [.null, .null, .int 0, .int 0, .int 0, .int 0, .null, .null, .null, .null, .int 0, .int 0, .null, .null, .int 0])).2.1 q_406 4 = .int 0 := sN_f
  have kn_431 : (sN g_405 q_406 14 (vp_V [.null, .null, .int 0, .int 0, .int 0, .int 0, .null, .null, .null, .null, .int 0, .int 0, .null, .null, .int 0])).2.1 q_406 5 = .int 0 := sN_f
  have kn_432 : (sN g_405 q_406 14 (vp_V [.null, .null, .int 0, .int 0, .int 0, .int 0, .null, .null, .null, .null, .int 0, .int 0, .null, .null, .int 0])).2.1 q_406 6 = .null := sN_f
  have kn_433 : (sN g_405 q_406 14 (vp_V [.null, .null, .int 0, .int 0, .int 0, .int 0, .null, .null, .null, .null, .int 0, .int 0, .null, .null, .int 0])).2.1 q_406 7 = .null := sN_f
  have kn_434 : (sN g_405 q_406 14 (vp_V [.null, .null, .int 0, .int 0, .int 0, .int 0, .null, .null, .null, .null, .int 0, .int 0, .null, .null, .int 0])).2.1 q_406 8 = .null := sN_f
  have kn_435 : (sN g_405 q_406 14 (vp_V [.null, .null, .int 0, .int 0, .int 0, .int 0, .null, .null, .null, .null, .int 0, .int 0, .null, .null, .int 0])).2.1 q_406 9 = .null := sN_f
  have kn_436 : (sN g_405 q_406 14 (vp_V [.null, .null, .int 0, .int 0, .int 0, .int 0, .null, .null, .null, .null, .int 0, .int 0, .null, .null, .int 0])).2.1 q_406 10 = .int 0 := sN_f
  have kn_437 : (sN g_405 q_406 14 (vp_V [.null, .null, .int 0, .int 0, .int 0, .int 0, .null, .null, .null, .null, .int 0, .int 0, .null, .null, .int 0])).2.1 q_406 11 = .int 0 := sN_f
  have kn_438 : (sN g_405 q_406 14 (vp_V [.null, .null, .int 0, .int 0, .int 0, .int 0, .null, .null, .null, .null, .int 0, .int 0, .null, .null, .int 0])).2.1 q_406 12 = .null := sN_f
  have kn_439 : (sN g_405 q_406 14 (vp_V [.null, .null, .int 0, .int 0, .int 0, .int 0, .null, .null, .null, .null, .int 0, .int 0, .null, .null, .int 0])).2.1 q_406 13 = .null := sN_f
  have kn_440 : (sN g_405 q_406 14 (vp_V [.null, .null, .int 0, .int 0, .int 0, .int 0, .null, .null, .null, .null, .int 0, .int 0, .null, .null, .int 0])).2.1 q_406 14 = .int 0 := sN_f
  have kn_441 : (sN g_405 q_406 14 (vp_V [.null, .null, .int 0, .int 0, .int 0, .int 0, .null, .null, .null, .null, .int 0, .int 0, .null, .null, .int 0])).2.2.2.2 q_1 0 = some q_16 := ((congrFun (sN_g q_1 (ne0 r_383 o_q_406 (by decide))).2.2.2.2 _).trans kn_400)
  have kn_442 : (sN g_405 q_406 14 (vp_V [.null, .null, .int 0, .int 0, .int 0, .int 0, .null, .null, .null, .null, .int 0, .int 0, .null, .null, .int 0])).2.2.2.2 q_1 1 = some q_82 := ((congrFun (sN_g q_1 (ne0 r_383 o_q_406 (by decide))).2.2.2.2 _).trans kn_401)
  have kn_443 : (sN g_405 q_406 14 (vp_V [.null, .null, .int 0, .int 0, .int 0, .int 0, .null, .null, .null, .null, .int 0, .int 0, .null, .null, .int 0])).2.2.2.2 q_1 2 = some q_154 := ((congrFun (sN_g q_1 (ne0 r_383 o_q_406 (by decide))).2.2.2.2 _).trans kn_402)
  have kn_444 : (sN g_405 q_406 14 (vp_V [.null, .null, .int 0, .int 0, .int 0, .int 0, .null, .null, .null, .null, .int 0, .int 0, .null, .null, .int 0])).2.2.2.2 q_1 3 = some q_232 := ((congrFun (sN_g q_1 (ne0 r_383 o_q_406 (by decide))).2.2.2.2 _).trans kn_403)
  have kn_445 : (sN g_405 q_406 14 (vp_V [.null, .null, .int 0, .int 0, .int 0, .int 0, .null, .null, .null, .null, .int 0, .int 0, .null, .null, .int 0])).2.2.2.2 q_1 4 = some q_316 := ((congrFun (sN_g q_1 (ne0 r_383 o_q_406 (by decide))).2.2.2.2 _).trans kn_404)
  generalize (sN g_405 q_406 14 (vp_V [.null, .null, .int 0, .int 0, .int 0, .int 0, .null, .null, .null, .null, .int 0, .int 0, .null, .null, .int 0])) = g_446 at hT hI hM hE r_407 r_408 r_409 r_410 r_411 r_412 r_413 r_414 r_415 n_416 n_417 kn_418 kn_419 kn_420 kn_421 kn_422 kn_423 kn_424 kn_425 kn_426 kn_427 kn_428 kn_429 kn_430 kn_431 kn_432 kn_433 kn_434 kn_435 kn_436 kn_437 kn_438 kn_439 kn_440 kn_441 kn_442 kn_443 kn_444 kn_445
  clear kn_392 kn_393 kn_394 kn_395 kn_396 kn_397 kn_398 kn_399 kn_400 kn_401 kn_402 kn_403 kn_404 n_390 n_391 r_382 r_383 r_384 r_385 r_386 r_387 r_388 r_389
  refine W.widen (k := 63) (n := 1168) (Nat.le_of_ble_eq_true rfl) (Nat.le_of_ble_eq_true rfl) ?_
  refine lv_dup hx hb dX5_init_68 rfl ?_
  refine t_callIN (n := 0) (As := []) (rest := [.ref q_406, .int 5, .ref q_1]) hB hT hl.1 (s_Service l D cI cZ cS cR N0 g_446 hI q_406 r_415) k_113 k_60 hB.2.2.2.2.2.2.2.1.2.1 k_112 rfl (by decide +kernel) ⟨(Nat.le_of_ble_eq_true rfl), (Nat.le_of_ble_eq_true rfl)⟩ rfl (Nat.le_of_ble_eq_true rfl) ⟨(Nat.le_of_ble_eq_true rfl), (Nat.le_of_ble_eq_true rfl)⟩ dX5_init_69 (fun v g_447 H locs hp hT => ?_)
  obtain ⟨rfl, hI, x_449, m_448, r_450⟩ := hp
  replace hM : Sm md_s_World g g_447 := hM.tr hE (m_448.mo (fun r k h => mdle_s_World_s_Service h))
  replace hE : Ex g g_447 := hE.trx z_q_406 x_449
  have r_451 : g_447.1 h = 16 := (Exx.r x_449 r_407 (by decide) (ro_ne r_407 r_415 (by decide)))
  have r_452 : g_447.1 q_1 = 44 := (Exx.r x_449 r_408 (by decide) (ro_ne r_408 r_415 (by decide)))
  have r_453 : g_447.1 q_6 = 50 := (Exx.r x_449 r_409 (by decide) (ro_ne r_409 r_415 (by decide)))
  have r_454 : g_447.1 q_16 = 4 := (Exx.r x_449 r_410 (by decide) (ro_ne r_410 r_415 (by decide)))
  have r_455 : g_447.1 q_82 = 4 := (Exx.r x_449 r_411 (by decide) (ro_ne r_411 r_415 (by decide)))
  have r_456 : g_447.1 q_154 = 4 := (Exx.r x_449 r_412 (by decide) (ro_ne r_412 r_415 (by decide)))
  have r_457 : g_447.1 q_232 = 4 := (Exx.r x_449 r_413 (by decide) (ro_ne r_413 r_415 (by decide)))
  have r_458 : g_447.1 q_316 = 4 := (Exx.r x_449 r_414 (by decide) (ro_ne r_414 r_415 (by decide)))
  have r_459 : g_447.1 q_406 = 4 := r_450
  have n_460 : g_447.2.2.1 q_1 = 6 := (Exx.n x_449 r_408 (by decide) (ro_ne r_408 r_415 (by decide)) n_416)
  have n_461 : g_447.2.2.1 q_6 = 512 := (Exx.n x_449 r_409 (by decide) (ro_ne r_409 r_415 (by decide)) n_417)
  have kn_462 : g_447.2.1 h 0 = .ref q_1 := (Sm.v m_448 r_407 (by decide) rfl kn_418)
  have kn_463 : g_447.2.1 h 1 = .int 0 := (Sm.v m_448 r_407 (by decide) rfl kn_419)
  have kn_464 : g_447.2.1 h 2 = .int 0 := (Sm.v m_448 r_407 (by decide) rfl kn_420)
  have kn_465 : g_447.2.1 h 3 = .ref q_6 := (Sm.v m_448 r_407 (by decide) rfl kn_421)
  have kn_466 : g_447.2.1 h 4 = .int 0 := (Sm.v m_448 r_407 (by decide) rfl kn_422)
  have kn_467 : g_447.2.1 h 5 = .int 0 := (Sm.v m_448 r_407 (by decide) rfl kn_423)
  have kn_468 : g_447.2.1 h 6 = .int 0 := (Sm.v m_448 r_407 (by decide) rfl kn_424)
  have kn_469 : g_447.2.1 h 7 = .int 0 := (Sm.v m_448 r_407 (by decide) rfl kn_425)
  have kn_470 : g_447.2.2.2.2 q_1 0 = some q_16 := ((congrFun (m_448.2 q_1 (by rw [r_408]; decide) (by rw [r_408]; rfl)).2 _).trans kn_441)
  have kn_471 : g_447.2.2.2.2 q_1 1 = some q_82 := ((congrFun (m_448.2 q_1 (by rw [r_408]; decide) (by rw [r_408]; rfl)).2 _).trans kn_442)
  have kn_472 : g_447.2.2.2.2 q_1 2 = some q_154 := ((congrFun (m_448.2 q_1 (by rw [r_408]; decide) (by rw [r_408]; rfl)).2 _).trans kn_443)
  have kn_473 : g_447.2.2.2.2 q_1 3 = some q_232 := ((congrFun (m_448.2 q_1 (by rw [r_408]; decide) (by rw [r_408]; rfl)).2 _).trans kn_444)
  have kn_474 : g_447.2.2.2.2 q_1 4 = some q_316 := ((congrFun (m_448.2 q_1 (by rw [r_408]; decide) (by rw [r_408]; rfl)).2 _).trans kn_445)
  refine W.eq (g2 := F0 m 72 ls [.ref q_406, .int 5, .ref q_1]) rfl ?_
  have i_475 : vp_in (5 : Int32) 6 := (by unfold vp_in; decide)
  refine t_astq hB hT r_452 n_460 (ro_ci r_459 rfl) i_475 dX5_init_72 (fun H locs hT => ?_)
  replace hI : Inv (sQ g_447 q_1 (5 : Int32).toNatClampNeg (some q_406)) := hI.sQ (by rw [r_452]; exact trivial)
  replace hM : Sm md_s_World g (sQ g_447 q_1 (5 : Int32).toNatClampNeg (some q_406)) := hM.tr hE (Sm_sQ (by rw [r_452]; rfl))
  replace hE : Ex g (sQ g_447 q_1 (5 : Int32).toNatClampNeg (some q_406)) := hE
  have r_476 : (sQ g_447 q_1 (5 : Int32).toNatClampNeg (some q_406)).1 h = 16 := r_451
  have r_477 : (sQ g_447 q_1 (5 : Int32).toNatClampNeg (some q_406)).1 q_1 = 44 := r_452
  have r_478 : (sQ g_447 q_1 (5 : Int32).toNatClampNeg (some q_406)).1 q_6 = 50 := r_453
  have r_479 : (sQ g_447 q_1 (5 : Int32).toNatClampNeg (some q_406)).1 q_16 = 4 := r_454
  have r_480 : (sQ g_447 q_1 (5 : Int32).toNatClampNeg (some q_406)).1 q_82 = 4 := r_455
  have r_481 : (sQ g_447 q_1 (5 : Int32).toNatClampNeg (some q_406)).1 q_154 = 4 := r_456
  have r_482 : (sQ g_447 q_1 (5 : Int32).toNatClampNeg (some q_406)).1 q_232 = 4 := r_457
  have r_483 : (sQ g_447 q_1 (5 : Int32).toNatClampNeg (some q_406)).1 q_316 = 4 := r_458
  have r_484 : (sQ g_447 q_1 (5 : Int32).toNatClampNeg (some q_406)).1 q_406 = 4 := r_459
  have n_485 : (sQ g_447 q_1 (5 : Int32).toNatClampNeg (some q_406)).2.2.1 q_1 = 6 := n_460
  have n_486 : (sQ g_447 q_1 (5 : Int32).toNatClampNeg (some q_406)).2.2.1 q_6 = 512 := n_461
  have kn_487 : (sQ g_447 q_1 (5 : Int32).toNatClampNeg (some q_406)).2.1 h 0 = .ref q_1 := kn_462
  have kn_488 : (sQ g_447 q_1 (5 : Int32).toNatClampNeg (some q_406)).2.1 h 1 = .int 0 := kn_463
  have kn_489 : (sQ g_447 q_1 (5 : Int32).toNatClampNeg (some q_406)).2.1 h 2 = .int 0 := kn_464
  have kn_490 : (sQ g_447 q_1 (5 : Int32).toNatClampNeg (some q_406)).2.1 h 3 = .ref q_6 := kn_465
  have kn_491 : (sQ g_447 q_1 (5 : Int32).toNatClampNeg (some q_406)).2.1 h 4 = .int 0 := kn_466
  have kn_492 : (sQ g_447 q_1 (5 : Int32).toNatClampNeg (some q_406)).2.1 h 5 = .int 0 := kn_467
  have kn_493 : (sQ g_447 q_1 (5 : Int32).toNatClampNeg (some q_406)).2.1 h 6 = .int 0 := kn_468
  have kn_494 : (sQ g_447 q_1 (5 : Int32).toNatClampNeg (some q_406)).2.1 h 7 = .int 0 := kn_469
  have kn_495 : (sQ g_447 q_1 (5 : Int32).toNatClampNeg (some q_406)).2.2.2.2 q_1 0 = some q_16 := (sQ_i kn_470 (by decide))
  have kn_496 : (sQ g_447 q_1 (5 : Int32).toNatClampNeg (some q_406)).2.2.2.2 q_1 1 = some q_82 := (sQ_i kn_471 (by decide))
  have kn_497 : (sQ g_447 q_1 (5 : Int32).toNatClampNeg (some q_406)).2.2.2.2 q_1 2 = some q_154 := (sQ_i kn_472 (by decide))
  have kn_498 : (sQ g_447 q_1 (5 : Int32).toNatClampNeg (some q_406)).2.2.2.2 q_1 3 = some q_232 := (sQ_i kn_473 (by decide))
  have kn_499 : (sQ g_447 q_1 (5 : Int32).toNatClampNeg (some q_406)).2.2.2.2 q_1 4 = some q_316 := (sQ_i kn_474 (by decide))
  have kn_500 : (sQ g_447 q_1 (5 : Int32).toNatClampNeg (some q_406)).2.2.2.2 q_1 5 = some q_406 := sQ_eq
  generalize (sQ g_447 q_1 (5 : Int32).toNatClampNeg (some q_406)) = g_501 at hT hI hM hE r_476 r_477 r_478 r_479 r_480 r_481 r_482 r_483 r_484 n_485 n_486 kn_487 kn_488 kn_489 kn_490 kn_491 kn_492 kn_493 kn_494 kn_495 kn_496 kn_497 kn_498 kn_499 kn_500
  clear kn_462 kn_463 kn_464 kn_465 kn_466 kn_467 kn_468 kn_469 kn_470 kn_471 kn_472 kn_473 kn_474 n_460 n_461 r_451 r_452 r_453 r_454 r_455 r_456 r_457 r_458 r_459
  refine lv_iinc (v := 6) (lv' := [(1, .int 6), (0, .ref h)]) hx hb dX5_init_73 hl (k := 0) rfl (by decide) (by decide) rfl (fun ls hl => ?_)
  refine lv_goto (tgt := 54) hx hb dX5_init_76 (by decide) ?_
  refine lv_iload_n hx hb dX5_init_54 rfl (lv_at hl 0 rfl) ?_
  refine lv_bipush (v := 6) hx hb dX5_init_55 (by decide) ?_
  refine lv_icmp_ge (tgt := 79) hx hb dX5_init_57 (by decide) (fun c_ => ?_) (fun c_ => absurd (by decide) c_)
  have hT : Tv D cI cZ cS cR N0 s.heap H locs (sR g_501 q_1 41) := ⟨hT.1.promo (by rw [r_477]; decide) (by rw [r_477]; rfl) (Or.inr ⟨r_477, by decide⟩), hT.2⟩
  replace hI : Inv (sR g_501 q_1 41) := hI.promo (by rw [r_477]; decide) (fun _ => (show fsm _ _ ft from trivial)) (fun _ _ => trivial) (fun i hi => match i, (show i < 6 by rw [← n_485]; exact hi) with | 0, _ => (by rw [kn_495]; exact ⟨_, rfl, sR_r r_479 (ro_ne r_479 r_477 (by decide))⟩) | 1, _ => (by rw [kn_496]; exact ⟨_, rfl, sR_r r_480 (ro_ne r_480 r_477 (by decide))⟩) | 2, _ => (by rw [kn_497]; exact ⟨_, rfl, sR_r r_481 (ro_ne r_481 r_477 (by decide))⟩) | 3, _ => (by rw [kn_498]; exact ⟨_, rfl, sR_r r_482 (ro_ne r_482 r_477 (by decide))⟩) | 4, _ => (by rw [kn_499]; exact ⟨_, rfl, sR_r r_483 (ro_ne r_483 r_477 (by decide))⟩) | 5, _ => (by rw [kn_500]; exact ⟨_, rfl, sR_r r_484 (ro_ne r_484 r_477 (by decide))⟩) | k + 6, h => absurd h (by omega))
  replace hM : Sm md_s_World g (sR g_501 q_1 41) := hM
  replace hE : Ex g (sR g_501 q_1 41) := hE.pr0 z_q_1
  have r_502 : (sR g_501 q_1 41).1 h = 16 := (sR_r r_476 (ro_ne r_476 r_477 (by decide)))
  have r_503 : (sR g_501 q_1 41).1 q_1 = 41 := (if_pos rfl)
  have r_504 : (sR g_501 q_1 41).1 q_6 = 50 := (sR_r r_478 (ro_ne r_478 r_477 (by decide)))
  have r_505 : (sR g_501 q_1 41).1 q_16 = 4 := (sR_r r_479 (ro_ne r_479 r_477 (by decide)))
  have r_506 : (sR g_501 q_1 41).1 q_82 = 4 := (sR_r r_480 (ro_ne r_480 r_477 (by decide)))
  have r_507 : (sR g_501 q_1 41).1 q_154 = 4 := (sR_r r_481 (ro_ne r_481 r_477 (by decide)))
  have r_508 : (sR g_501 q_1 41).1 q_232 = 4 := (sR_r r_482 (ro_ne r_482 r_477 (by decide)))
  have r_509 : (sR g_501 q_1 41).1 q_316 = 4 := (sR_r r_483 (ro_ne r_483 r_477 (by decide)))
  have r_510 : (sR g_501 q_1 41).1 q_406 = 4 := (sR_r r_484 (ro_ne r_484 r_477 (by decide)))
  have n_511 : (sR g_501 q_1 41).2.2.1 q_1 = 6 := n_485
  have n_512 : (sR g_501 q_1 41).2.2.1 q_6 = 512 := n_486
  have kn_513 : (sR g_501 q_1 41).2.1 h 0 = .ref q_1 := kn_487
  have kn_514 : (sR g_501 q_1 41).2.1 h 1 = .int 0 := kn_488
  have kn_515 : (sR g_501 q_1 41).2.1 h 2 = .int 0 := kn_489
  have kn_516 : (sR g_501 q_1 41).2.1 h 3 = .ref q_6 := kn_490
  have kn_517 : (sR g_501 q_1 41).2.1 h 4 = .int 0 := kn_491
  have kn_518 : (sR g_501 q_1 41).2.1 h 5 = .int 0 := kn_492
  have kn_519 : (sR g_501 q_1 41).2.1 h 6 = .int 0 := kn_493
  have kn_520 : (sR g_501 q_1 41).2.1 h 7 = .int 0 := kn_494
  generalize (sR g_501 q_1 41) = g_521 at hT hI hM hE r_502 r_503 r_504 r_505 r_506 r_507 r_508 r_509 r_510 n_511 n_512 kn_513 kn_514 kn_515 kn_516 kn_517 kn_518 kn_519 kn_520
  clear kn_487 kn_488 kn_489 kn_490 kn_491 kn_492 kn_493 kn_494 n_485 n_486 r_476 r_477 r_478 r_479 r_480 r_481 r_482 r_483 r_484
  have hF : ∀ k, Fok (sR g_521 h 6) 6 k (g_521.2.1 h k) := fun k => match k with
    | 0 => (by rw [kn_513]; exact q_6_0 ⟨_, rfl, sR_r r_503 (ro_ne r_503 r_502 (by decide)), n_511⟩)
    | 1 => (by rw [kn_514]; exact q_6_1 ⟨_, rfl, by decide, by decide⟩)
    | 2 => (by rw [kn_515]; exact q_6_2 ⟨_, rfl⟩)
    | 3 => (by rw [kn_516]; exact q_6_3 ⟨_, rfl, sR_r r_504 (ro_ne r_504 r_502 (by decide)), n_512⟩)
    | 4 => (by rw [kn_517]; exact q_6_4 ⟨_, rfl⟩)
    | 5 => (by rw [kn_518]; exact q_6_5 ⟨_, rfl⟩)
    | 6 => (by rw [kn_519]; exact q_6_6 ⟨_, rfl⟩)
    | 7 => (by rw [kn_520]; exact q_6_7 ⟨_, rfl, by decide, by decide⟩)
    | k + 8 => (show fsm _ _ ft from trivial)
  have hT : Tv D cI cZ cS cR N0 s.heap H locs (sR g_521 h 6) := ⟨hT.1.promo (by rw [r_502]; decide) (by rw [r_502]; rfl) (Or.inl (by decide)), hT.2⟩
  replace hI : Inv (sR g_521 h 6) := hI.promo (by rw [r_502]; decide) hF (fun _ _ => trivial) (fun _ _ => trivial)
  replace hM : Sm md_s_World g (sR g_521 h 6) := hM
  have hX : Exx h g (sR g_521 h 6) := Exx.promo hE
  exact t_vret hB hr hT (Nat.le_of_ble_eq_true rfl) (Nat.le_of_ble_eq_true rfl) dX5_init_79 ⟨rfl, hI, hX, hM, if_pos rfl, kn_514⟩
abbrev md_n_World : Nat → Nat → Bool := mdf [(13, 0), (13, 1), (13, 2), (13, 3), (14, 0), (14, 1), (14, 2), (14, 3), (14, 4), (14, 5), (14, 6), (14, 7), (14, 8), (14, 9), (14, 10), (14, 11), (14, 12), (14, 13), (14, 14), (16, 0), (16, 1), (16, 2), (16, 3), (16, 4), (16, 5), (16, 6), (16, 7), (44, 99)]
theorem mdle_n_World_n_Service {r k : Nat} (h : md_n_World r k = false) : md_n_Service r k = false := mdf_le (by decide +kernel) h
set_option maxHeartbeats 4000000 in
set_option maxRecDepth 100000 in
theorem n_World (l : Launch) (D : va_G) (cI cZ cS cR : ClassId) (N0 : NT) (g : GS) (hI : Inv g) (h : Nat) (r_h : g.1 h = 16) : Ty l D cI cZ cS cR N0 yX5_init cX5_init 2 none 2 74 1280 [.ref h] g (fun v g' => v = none ∧ Inv g' ∧ Exx h g g' ∧ Sm md_n_World g g' ∧ g'.1 h = 19 ∧ (g'.2.1 h 1 = .int 0)) := by
  refine t_enter (by decide) (Nat.le_of_ble_eq_true rfl) ?_
  intro p e s m args below meth c ls H locs hB hr hin hl hT
  have hx := hB.1
  have hb := hB.2.1
  have hl : lv_has ls 2 [(0, .ref h)] := hl
  replace hE : Ex g g := Ex.rf
  replace hM : Sm md_n_World g g := Sm.rf
  refine lv_aload_n hx hb dX5_init_0 rfl (lv_at hl 0 rfl) ?_
  refine t_oinit hB k_107 k_78 k_79 hl.1 dX5_init_1 (Nat.le_of_ble_eq_true rfl) (Nat.le_of_ble_eq_true rfl) ?_
  refine lv_aload_n hx hb dX5_init_4 rfl (lv_at hl 0 rfl) ?_
  refine lv_bipush (v := 6) hx hb dX5_init_5 (by decide) ?_
  refine t_newq (N' := 6) hB hT k_108 (by decide) (by decide) (by decide) (Nat.le_of_ble_eq_true rfl) (Nat.le_of_ble_eq_true rfl) dX5_init_7 (fun q_1 H o_q_1 hT => ?_)
  have z_q_1 : g.1 q_1 = 0 := hE.z0 o_q_1
  replace hI : Inv (sA g q_1 44 6) := hI.newi o_q_1 (by decide) (fun _ => rfl) trivial (fun _ => trivial)
  replace hM : Sm md_n_World g (sA g q_1 44 6) := hM.tr hE (Sm.push o_q_1 sA_g)
  replace hE : Ex g (sA g q_1 44 6) := hE.tr (Ex.push o_q_1 sA_g)
  have r_2 : (sA g q_1 44 6).1 h = 16 := ((sA_g h (ne0 r_h o_q_1 (by decide))).1.trans r_h)
  have r_3 : (sA g q_1 44 6).1 q_1 = 44 := sA_r
  have n_4 : (sA g q_1 44 6).2.2.1 q_1 = 6 := sA_n
  generalize (sA g q_1 44 6) = g_5 at hT hI hM hE r_2 r_3 n_4
  refine W.widen (k := 1) (n := 6) (Nat.le_of_ble_eq_true rfl) (Nat.le_of_ble_eq_true rfl) ?_
  refine t_put0 (ci := 5) (v := .ref q_1) hB hT (ro_ci r_2 rfl) (ro_n0 r_2 (by decide)) rfl 0 (by decide) k_199 (Or.inr ⟨hin, rfl⟩) rfl rfl dX5_init_10 (fun H locs hT => ?_)
  replace hI : Inv (sF g_5 h 0 (.ref q_1)) := hI.sF (fk r_2 (show fsm _ _ ft from trivial))
  replace hM : Sm md_n_World g (sF g_5 h 0 (.ref q_1)) := hM.tr hE (Sm_sF (by rw [r_2]; rfl))
  replace hE : Ex g (sF g_5 h 0 (.ref q_1)) := hE
  refine lv_aload_n hx hb dX5_init_13 rfl (lv_at hl 0 rfl) ?_
  refine lv_iconst (v := 0) hx hb dX5_init_14 (by decide) ?_
  refine t_put0 (ci := 5) (v := .int 0) hB hT (ro_ci r_2 rfl) (ro_n0 r_2 (by decide)) rfl 1 (by decide) k_202 (Or.inl rfl) rfl rfl dX5_init_15 (fun H locs hT => ?_)
  replace hI : Inv (sF (sF g_5 h 0 (.ref q_1)) h 1 (.int 0)) := hI.sF (fk r_2 (show fsm _ _ ft from trivial))
  replace hM : Sm md_n_World g (sF (sF g_5 h 0 (.ref q_1)) h 1 (.int 0)) := hM.tr hE (Sm_sF (by rw [r_2]; rfl))
  replace hE : Ex g (sF (sF g_5 h 0 (.ref q_1)) h 1 (.int 0)) := hE
  refine lv_aload_n hx hb dX5_init_18 rfl (lv_at hl 0 rfl) ?_
  refine lv_iconst (v := 0) hx hb dX5_init_19 (by decide) ?_
  refine t_put0 (ci := 5) (v := .int 0) hB hT (ro_ci r_2 rfl) (ro_n0 r_2 (by decide)) rfl 2 (by decide) k_205 (Or.inl rfl) rfl rfl dX5_init_20 (fun H locs hT => ?_)
  replace hI : Inv (sF (sF (sF g_5 h 0 (.ref q_1)) h 1 (.int 0)) h 2 (.int 0)) := hI.sF (fk r_2 (show fsm _ _ ft from trivial))
  replace hM : Sm md_n_World g (sF (sF (sF g_5 h 0 (.ref q_1)) h 1 (.int 0)) h 2 (.int 0)) := hM.tr hE (Sm_sF (by rw [r_2]; rfl))
  replace hE : Ex g (sF (sF (sF g_5 h 0 (.ref q_1)) h 1 (.int 0)) h 2 (.int 0)) := hE
  refine lv_aload_n hx hb dX5_init_23 rfl (lv_at hl 0 rfl) ?_
  refine lv_sipush (v := 512) hx hb dX5_init_24 (by decide) ?_
  refine t_newi (N' := 512) hB hT 50 (by decide) k_101 (by decide) (by decide) (by decide) (Nat.le_of_ble_eq_true rfl) (Nat.le_of_ble_eq_true rfl) dX5_init_27 (fun q_6 H o_q_6 hT => ?_)
  have z_q_6 : g.1 q_6 = 0 := hE.z0 o_q_6
  replace hI : Inv (sA (sF (sF (sF g_5 h 0 (.ref q_1)) h 1 (.int 0)) h 2 (.int 0)) q_6 50 512) := hI.newi o_q_6 (by decide) (fun _ => rfl) trivial (fun _ => trivial)
  replace hM : Sm md_n_World g (sA (sF (sF (sF g_5 h 0 (.ref q_1)) h 1 (.int 0)) h 2 (.int 0)) q_6 50 512) := hM.tr hE (Sm.push o_q_6 sA_g)
  replace hE : Ex g (sA (sF (sF (sF g_5 h 0 (.ref q_1)) h 1 (.int 0)) h 2 (.int 0)) q_6 50 512) := hE.tr (Ex.push o_q_6 sA_g)
  have r_7 : (sA (sF (sF (sF g_5 h 0 (.ref q_1)) h 1 (.int 0)) h 2 (.int 0)) q_6 50 512).1 h = 16 := ((sA_g h (ne0 r_2 o_q_6 (by decide))).1.trans r_2)
  have r_8 : (sA (sF (sF (sF g_5 h 0 (.ref q_1)) h 1 (.int 0)) h 2 (.int 0)) q_6 50 512).1 q_1 = 44 := ((sA_g q_1 (ne0 r_3 o_q_6 (by decide))).1.trans r_3)
  have r_9 : (sA (sF (sF (sF g_5 h 0 (.ref q_1)) h 1 (.int 0)) h 2 (.int 0)) q_6 50 512).1 q_6 = 50 := sA_r
  have n_10 : (sA (sF (sF (sF g_5 h 0 (.ref q_1)) h 1 (.int 0)) h 2 (.int 0)) q_6 50 512).2.2.1 q_1 = 6 := ((sA_g q_1 (ne0 r_3 o_q_6 (by decide))).2.2.1.trans n_4)
  have n_11 : (sA (sF (sF (sF g_5 h 0 (.ref q_1)) h 1 (.int 0)) h 2 (.int 0)) q_6 50 512).2.2.1 q_6 = 512 := sA_n
  have kn_12 : (sA (sF (sF (sF g_5 h 0 (.ref q_1)) h 1 (.int 0)) h 2 (.int 0)) q_6 50 512).2.1 h 0 = .ref q_1 := ((congrFun (sA_g h (ne0 r_2 o_q_6 (by decide))).2.1 0).trans (sF_k (sF_k sF_eq (by decide)) (by decide)))
  have kn_13 : (sA (sF (sF (sF g_5 h 0 (.ref q_1)) h 1 (.int 0)) h 2 (.int 0)) q_6 50 512).2.1 h 1 = .int 0 := ((congrFun (sA_g h (ne0 r_2 o_q_6 (by decide))).2.1 1).trans (sF_k sF_eq (by decide)))
  have kn_14 : (sA (sF (sF (sF g_5 h 0 (.ref q_1)) h 1 (.int 0)) h 2 (.int 0)) q_6 50 512).2.1 h 2 = .int 0 := ((congrFun (sA_g h (ne0 r_2 o_q_6 (by decide))).2.1 2).trans sF_eq)
  generalize (sA (sF (sF (sF g_5 h 0 (.ref q_1)) h 1 (.int 0)) h 2 (.int 0)) q_6 50 512) = g_15 at hT hI hM hE r_7 r_8 r_9 n_10 n_11 kn_12 kn_13 kn_14
  clear n_4 r_2 r_3
  refine W.widen (k := 2) (n := 518) (Nat.le_of_ble_eq_true rfl) (Nat.le_of_ble_eq_true rfl) ?_
  refine t_put0 (ci := 5) (v := .ref q_6) hB hT (ro_ci r_7 rfl) (ro_n0 r_7 (by decide)) rfl 3 (by decide) k_207 (Or.inr ⟨hin, rfl⟩) rfl rfl dX5_init_29 (fun H locs hT => ?_)
  replace hI : Inv (sF g_15 h 3 (.ref q_6)) := hI.sF (fk r_7 (show fsm _ _ ft from trivial))
  replace hM : Sm md_n_World g (sF g_15 h 3 (.ref q_6)) := hM.tr hE (Sm_sF (by rw [r_7]; rfl))
  replace hE : Ex g (sF g_15 h 3 (.ref q_6)) := hE
  refine lv_aload_n hx hb dX5_init_32 rfl (lv_at hl 0 rfl) ?_
  refine lv_iconst (v := 0) hx hb dX5_init_33 (by decide) ?_
  refine t_put0 (ci := 5) (v := .int 0) hB hT (ro_ci r_7 rfl) (ro_n0 r_7 (by decide)) rfl 4 (by decide) k_210 (Or.inl rfl) rfl rfl dX5_init_34 (fun H locs hT => ?_)
  replace hI : Inv (sF (sF g_15 h 3 (.ref q_6)) h 4 (.int 0)) := hI.sF (fk r_7 (show fsm _ _ ft from trivial))
  replace hM : Sm md_n_World g (sF (sF g_15 h 3 (.ref q_6)) h 4 (.int 0)) := hM.tr hE (Sm_sF (by rw [r_7]; rfl))
  replace hE : Ex g (sF (sF g_15 h 3 (.ref q_6)) h 4 (.int 0)) := hE
  refine lv_aload_n hx hb dX5_init_37 rfl (lv_at hl 0 rfl) ?_
  refine lv_iconst (v := 0) hx hb dX5_init_38 (by decide) ?_
  refine t_put0 (ci := 5) (v := .int 0) hB hT (ro_ci r_7 rfl) (ro_n0 r_7 (by decide)) rfl 5 (by decide) k_213 (Or.inl rfl) rfl rfl dX5_init_39 (fun H locs hT => ?_)
  replace hI : Inv (sF (sF (sF g_15 h 3 (.ref q_6)) h 4 (.int 0)) h 5 (.int 0)) := hI.sF (fk r_7 (show fsm _ _ ft from trivial))
  replace hM : Sm md_n_World g (sF (sF (sF g_15 h 3 (.ref q_6)) h 4 (.int 0)) h 5 (.int 0)) := hM.tr hE (Sm_sF (by rw [r_7]; rfl))
  replace hE : Ex g (sF (sF (sF g_15 h 3 (.ref q_6)) h 4 (.int 0)) h 5 (.int 0)) := hE
  refine lv_aload_n hx hb dX5_init_42 rfl (lv_at hl 0 rfl) ?_
  refine lv_iconst (v := 0) hx hb dX5_init_43 (by decide) ?_
  refine t_put0 (ci := 5) (v := .int 0) hB hT (ro_ci r_7 rfl) (ro_n0 r_7 (by decide)) rfl 6 (by decide) k_215 (Or.inl rfl) rfl rfl dX5_init_44 (fun H locs hT => ?_)
  replace hI : Inv (sF (sF (sF (sF g_15 h 3 (.ref q_6)) h 4 (.int 0)) h 5 (.int 0)) h 6 (.int 0)) := hI.sF (fk r_7 (show fsm _ _ ft from trivial))
  replace hM : Sm md_n_World g (sF (sF (sF (sF g_15 h 3 (.ref q_6)) h 4 (.int 0)) h 5 (.int 0)) h 6 (.int 0)) := hM.tr hE (Sm_sF (by rw [r_7]; rfl))
  replace hE : Ex g (sF (sF (sF (sF g_15 h 3 (.ref q_6)) h 4 (.int 0)) h 5 (.int 0)) h 6 (.int 0)) := hE
  refine lv_aload_n hx hb dX5_init_47 rfl (lv_at hl 0 rfl) ?_
  refine lv_iconst (v := 0) hx hb dX5_init_48 (by decide) ?_
  refine t_put0 (ci := 5) (v := .int 0) hB hT (ro_ci r_7 rfl) (ro_n0 r_7 (by decide)) rfl 7 (by decide) k_216 (Or.inl rfl) rfl rfl dX5_init_49 (fun H locs hT => ?_)
  replace hI : Inv (sF (sF (sF (sF (sF g_15 h 3 (.ref q_6)) h 4 (.int 0)) h 5 (.int 0)) h 6 (.int 0)) h 7 (.int 0)) := hI.sF (fk r_7 (show fsm _ _ ft from trivial))
  replace hM : Sm md_n_World g (sF (sF (sF (sF (sF g_15 h 3 (.ref q_6)) h 4 (.int 0)) h 5 (.int 0)) h 6 (.int 0)) h 7 (.int 0)) := hM.tr hE (Sm_sF (by rw [r_7]; rfl))
  replace hE : Ex g (sF (sF (sF (sF (sF g_15 h 3 (.ref q_6)) h 4 (.int 0)) h 5 (.int 0)) h 6 (.int 0)) h 7 (.int 0)) := hE
  refine lv_iconst (v := 0) hx hb dX5_init_52 (by decide) ?_
  refine lv_istore_n (lv' := [(1, .int 0), (0, .ref h)]) hx hb dX5_init_53 rfl hl (by decide) rfl (fun ls hl => ?_)
  refine lv_iload_n hx hb dX5_init_54 rfl (lv_at hl 0 rfl) ?_
  refine lv_bipush (v := 6) hx hb dX5_init_55 (by decide) ?_
  refine lv_icmp_ge (tgt := 79) hx hb dX5_init_57 (by decide) (fun c_ => absurd c_ (by decide)) (fun c_ => ?_)
  refine lv_aload_n hx hb dX5_init_60 rfl (lv_at hl 1 rfl) ?_
  refine t_get (ci := 5) (v := .ref q_1) hB hT (ro_ci r_7 rfl) rfl 0 (by decide) k_199 (sF_k (sF_k (sF_k (sF_k (sF_k kn_12 (by decide)) (by decide)) (by decide)) (by decide)) (by decide)) dX5_init_61 ?_
  refine lv_iload_n hx hb dX5_init_64 rfl (lv_at hl 0 rfl) ?_
  refine t_new (ci := 3) (fs := [.null, .null, .int 0, .int 0, .int 0, .int 0, .null, .null, .null, .null, .int 0, .int 0, .null, .null, .int 0]) hB hT rfl (by decide) k_108 k_110 k_60 (fnew_3) (Nat.le_of_ble_eq_true rfl) (Nat.le_of_ble_eq_true rfl) dX5_init_65 (fun q_16 H o_q_16 hT => ?_)
  have z_q_16 : g.1 q_16 = 0 := hE.z0 o_q_16
  replace hI : Inv (sN (sF (sF (sF (sF (sF g_15 h 3 (.ref q_6)) h 4 (.int 0)) h 5 (.int 0)) h 6 (.int 0)) h 7 (.int 0)) q_16 14 (vp_V [.null, .null, .int 0, .int 0, .int 0, .int 0, .null, .null, .null, .null, .int 0, .int 0, .null, .null, .int 0])) := hI.newo o_q_16 (fun _ => rfl) (fun _ => trivial) (fun _ _ => trivial)
  replace hM : Sm md_n_World g (sN (sF (sF (sF (sF (sF g_15 h 3 (.ref q_6)) h 4 (.int 0)) h 5 (.int 0)) h 6 (.int 0)) h 7 (.int 0)) q_16 14 (vp_V [.null, .null, .int 0, .int 0, .int 0, .int 0, .null, .null, .null, .null, .int 0, .int 0, .null, .null, .int 0])) := hM.tr hE (Sm.push o_q_16 sN_g)
  replace hE : Ex g (sN (sF (sF (sF (sF (sF g_15 h 3 (.ref q_6)) h 4 (.int 0)) h 5 (.int 0)) h 6 (.int 0)) h 7 (.int 0)) q_16 14 (vp_V [.null, .null, .int 0, .int 0, .int 0, .int 0, .null, .null, .null, .null, .int 0, .int 0, .null, .null, .int 0])) := hE.tr (Ex.push o_q_16 sN_g)
  have r_17 : (sN (sF (sF (sF (sF (sF g_15 h 3 (.ref q_6)) h 4 (.int 0)) h 5 (.int 0)) h 6 (.int 0)) h 7 (.int 0)) q_16 14 (vp_V [.null, .null, .int 0, .int 0, .int 0, .int 0, .null, .null, .null, .null, .int 0, .int 0, .null, .null, .int 0])).1 h = 16 := ((sN_g h (ne0 r_7 o_q_16 (by decide))).1.trans r_7)
  have r_18 : (sN (sF (sF (sF (sF (sF g_15 h 3 (.ref q_6)) h 4 (.int 0)) h 5 (.int 0)) h 6 (.int 0)) h 7 (.int 0)) q_16 14 (vp_V [.null, .null, .int 0, .int 0, .int 0, .int 0, .null, .null, .null, .null, .int 0, .int 0, .null, .null, .int 0])).1 q_1 = 44 := ((sN_g q_1 (ne0 r_8 o_q_16 (by decide))).1.trans r_8)
  have r_19 : (sN (sF (sF (sF (sF (sF g_15 h 3 (.ref q_6)) h 4 (.int 0)) h 5 (.int 0)) h 6 (.int 0)) h 7 (.int 0)) q_16 14 (vp_V [.null, .null, .int 0, .int 0, .int 0, .int 0, .null, .null, .null, .null, .int 0, .int 0, .null, .null, .int 0])).1 q_6 = 50 := ((sN_g q_6 (ne0 r_9 o_q_16 (by decide))).1.trans r_9)
  have r_20 : (sN (sF (sF (sF (sF (sF g_15 h 3 (.ref q_6)) h 4 (.int 0)) h 5 (.int 0)) h 6 (.int 0)) h 7 (.int 0)) q_16 14 (vp_V [.null, .null, .int 0, .int 0, .int 0, .int 0, .null, .null, .null, .null, .int 0, .int 0, .null, .null, .int 0])).1 q_16 = 14 := sN_r
  have n_21 : (sN (sF (sF (sF (sF (sF g_15 h 3 (.ref q_6)) h 4 (.int 0)) h 5 (.int 0)) h 6 (.int 0)) h 7 (.int 0)) q_16 14 (vp_V [.null, .null, .int 0, .int 0, .int 0, .int 0, .null, .null, .null, .null, .int 0, .int 0, .null, .null, .int 0])).2.2.1 q_1 = 6 := ((sN_g q_1 (ne0 r_8 o_q_16 (by decide))).2.2.1.trans n_10)
  have n_22 : (sN (sF (sF (sF (sF (sF g_15 h 3 (.ref q_6)) h 4 (.int 0)) h 5 (.int 0)) h 6 (.int 0)) h 7 (.int 0)) q_16 14 (vp_V [.null, .null, .int 0, .int 0, .int 0, .int 0, .null, .null, .null, .null, .int 0, .int 0, .null, .null, .int 0])).2.2.1 q_6 = 512 := ((sN_g q_6 (ne0 r_9 o_q_16 (by decide))).2.2.1.trans n_11)
  have kn_23 : (sN (sF (sF (sF (sF (sF g_15 h 3 (.ref q_6)) h 4 (.int 0)) h 5 (.int 0)) h 6 (.int 0)) h 7 (.int 0)) q_16 14 (vp_V [.null, .null, .int 0, .int 0, .int 0, .int 0, .null, .null, .null, .null, .int 0, .int 0, .null, .null, .int 0])).2.1 h 0 = .ref q_1 := ((congrFun (sN_g h (ne0 r_7 o_q_16 (by decide))).2.1 0).trans (sF_k (sF_k (sF_k (sF_k (sF_k kn_12 (by decide)) (by decide)) (by decide)) (by decide)) (by decide)))
  have kn_24 : (sN (sF (sF (sF (sF (sF g_15 h 3 (.ref q_6)) h 4 (.int 0)) h 5 (.int 0)) h 6 (.int 0)) h 7 (.int 0)) q_16 14 (vp_V [.null, .null, .int 0, .int 0, .int 0, .int 0, .null, .null, .null, .null, .int 0, .int 0, .null, .null, .int 0])).2.1 h 1 = .int 0 := ((congrFun (sN_g h (ne0 r_7 o_q_16 (by decide))).2.1 1).trans (sF_k (sF_k (sF_k (sF_k (sF_k kn_13 (by decide)) (by decide)) (by decide)) (by decide)) (by decide)))
  have kn_25 : (sN (sF (sF (sF (sF (sF g_15 h 3 (.ref q_6)) h 4 (.int 0)) h 5 (.int 0)) h 6 (.int 0)) h 7 (.int 0)) q_16 14 (vp_V [.null, .null, .int 0, .int 0, .int 0, .int 0, .null, .null, .null, .null, .int 0, .int 0, .null, .null, .int 0])).2.1 h 2 = .int 0 := ((congrFun (sN_g h (ne0 r_7 o_q_16 (by decide))).2.1 2).trans (sF_k (sF_k (sF_k (sF_k (sF_k kn_14 (by decide)) (by decide)) (by decide)) (by decide)) (by decide)))
  have kn_26 : (sN (sF (sF (sF (sF (sF g_15 h 3 (.ref q_6)) h 4 (.int 0)) h 5 (.int 0)) h 6 (.int 0)) h 7 (.int 0)) q_16 14 (vp_V [.null, .null, .int 0, .int 0, .int 0, .int 0, .null, .null, .null, .null, .int 0, .int 0, .null, .null, .int 0])).2.1 h 3 = .ref q_6 := ((congrFun (sN_g h (ne0 r_7 o_q_16 (by decide))).2.1 3).trans (sF_k (sF_k (sF_k (sF_k sF_eq (by decide)) (by decide)) (by decide)) (by decide)))
  have kn_27 : (sN (sF (sF (sF (sF (sF g_15 h 3 (.ref q_6)) h 4 (.int 0)) h 5 (.int 0)) h 6 (.int 0)) h 7 (.int 0)) q_16 14 (vp_V [.null, .null, .int 0, .int 0, .int 0, .int 0, .null, .null, .null, .null, .int 0, .int 0, .null, .null, .int 0])).2.1 h 4 = .int 0 := ((congrFun (sN_g h (ne0 r_7 o_q_16 (by decide))).2.1 4).trans (sF_k (sF_k (sF_k sF_eq (by decide)) (by decide)) (by decide)))
  have kn_28 : (sN (sF (sF (sF (sF (sF g_15 h 3 (.ref q_6)) h 4 (.int 0)) h 5 (.int 0)) h 6 (.int 0)) h 7 (.int 0)) q_16 14 (vp_V [.null, .null, .int 0, .int 0, .int 0, .int 0, .null, .null, .null, .null, .int 0, .int 0, .null, .null, .int 0])).2.1 h 5 = .int 0 := ((congrFun (sN_g h (ne0 r_7 o_q_16 (by decide))).2.1 5).trans (sF_k (sF_k sF_eq (by decide)) (by decide)))
  have kn_29 : (sN (sF (sF (sF (sF (sF g_15 h 3 (.ref q_6)) h 4 (.int 0)) h 5 (.int 0)) h 6 (.int 0)) h 7 (.int 0)) q_16 14 (vp_V [.null, .null, .int 0, .int 0, .int 0, .int 0, .null, .null, .null, .null, .int 0, .int 0, .null, .null, .int 0])).2.1 h 6 = .int 0 := ((congrFun (sN_g h (ne0 r_7 o_q_16 (by decide))).2.1 6).trans (sF_k sF_eq (by decide)))
  have kn_30 : (sN (sF (sF (sF (sF (sF g_15 h 3 (.ref q_6)) h 4 (.int 0)) h 5 (.int 0)) h 6 (.int 0)) h 7 (.int 0)) q_16 14 (vp_V [.null, .null, .int 0, .int 0, .int 0, .int 0, .null, .null, .null, .null, .int 0, .int 0, .null, .null, .int 0])).2.1 h 7 = .int 0 := ((congrFun (sN_g h (ne0 r_7 o_q_16 (by decide))).2.1 7).trans sF_eq)
  have kn_31 : (sN (sF (sF (sF (sF (sF g_15 h 3 (.ref q_6)) h 4 (.int 0)) h 5 (.int 0)) h 6 (.int 0)) h 7 (.int 0)) q_16 14 (vp_V [.null, .null, .int 0, .int 0, .int 0, .int 0, .null, .null, .null, .null, .int 0, .int 0, .null, .null, .int 0])).2.1 q_16 0 = .null := sN_f
  have kn_32 : (sN (sF (sF (sF (sF (sF g_15 h 3 (.ref q_6)) h 4 (.int 0)) h 5 (.int 0)) h 6 (.int 0)) h 7 (.int 0)) q_16 14 (vp_V [.null, .null, .int 0, .int 0, .int 0, .int 0, .null, .null, .null, .null, .int 0, .int 0, .null, .null, .int 0])).2.1 q_16 1 = .null := sN_f
  have kn_33 : (sN (sF (sF (sF (sF (sF g_15 h 3 (.ref q_6)) h 4 (.int 0)) h 5 (.int 0)) h 6 (.int 0)) h 7 (.int 0)) q_16 14 (vp_V [.null, .null, .int 0, .int 0, .int 0, .int 0, .null, .null, .null, .null, .int 0, .int 0, .null, .null, .int 0])).2.1 q_16 2 = .int 0 := sN_f
  have kn_34 : (sN (sF (sF (sF (sF (sF g_15 h 3 (.ref q_6)) h 4 (.int 0)) h 5 (.int 0)) h 6 (.int 0)) h 7 (.int 0)) q_16 14 (vp_V [.null, .null, .int 0, .int 0, .int 0, .int 0, .null, .null, .null, .null, .int 0, .int 0, .null, .null, .int 0])).2.1 q_16 3 = .int 0 := sN_f
  have kn_35 : (sN (sF (sF (sF (sF (sF g_15 h 3 (.ref q_6)) h 4 (.int 0)) h 5 (.int 0)) h 6 (.int 0)) h 7 (.int 0)) q_16 14 (vp_V [.null, .null, .int 0, .int 0, .int 0, .int 0, .null, .null, .null, .null, .int 0, .int 0, .null, .null, .int 0])).2.1 q_16 4 = .int 0 := sN_f
  have kn_36 : (sN (sF (sF (sF (sF (sF g_15 h 3 (.ref q_6)) h 4 (.int 0)) h 5 (.int 0)) h 6 (.int 0)) h 7 (.int 0)) q_16 14 (vp_V [.null, .null, .int 0, .int 0, .int 0, .int 0, .null, .null, .null, .null, .int 0, .int 0, .null, .null, .int 0])).2.1 q_16 5 = .int 0 := sN_f
  have kn_37 : (sN (sF (sF (sF (sF (sF g_15 h 3 (.ref q_6)) h 4 (.int 0)) h 5 (.int 0)) h 6 (.int 0)) h 7 (.int 0)) q_16 14 (vp_V [.null, .null, .int 0, .int 0, .int 0, .int 0, .null, .null, .null, .null, .int 0, .int 0, .null, .null, .int 0])).2.1 q_16 6 = .null := sN_f
  have kn_38 : (sN (sF (sF (sF (sF (sF g_15 h 3 (.ref q_6)) h 4 (.int 0)) h 5 (.int 0)) h 6 (.int 0)) h 7 (.int 0)) q_16 14 (vp_V [.null, .null, .int 0, .int 0, .int 0, .int 0, .null, .null, .null, .null, .int 0, .int 0, .null, .null, .int 0])).2.1 q_16 7 = .null := sN_f
  have kn_39 : (sN (sF (sF (sF (sF (sF g_15 h 3 (.ref q_6)) h 4 (.int 0)) h 5 (.int 0)) h 6 (.int 0)) h 7 (.int 0)) q_16 14 (vp_V [.null, .null, .int 0, .int 0, .int 0, .int 0, .null, .null, .null, .null, .int 0, .int 0, .null, .null, .int 0])).2.1 q_16 8 = .null := sN_f
  have kn_40 : (sN (sF (sF (sF (sF (sF g_15 h 3 (.ref q_6)) h 4 (.int 0)) h 5 (.int 0)) h 6 (.int 0)) h 7 (.int 0)) q_16 14 (vp_V [.null, .null, .int 0, .int 0, .int 0, .int 0, .null, .null, .null, .null, .int 0, .int 0, .null, .null, .int 0])).2.1 q_16 9 = .null := sN_f
  have kn_41 : (sN (sF (sF (sF (sF (sF g_15 h 3 (.ref q_6)) h 4 (.int 0)) h 5 (.int 0)) h 6 (.int 0)) h 7 (.int 0)) q_16 14 (vp_V [.null, .null, .int 0, .int 0, .int 0, .int 0, .null, .null, .null, .null, .int 0, .int 0, .null, .null, .int 0])).2.1 q_16 10 = .int 0 := sN_f
  have kn_42 : (sN (sF (sF (sF (sF (sF g_15 h 3 (.ref q_6)) h 4 (.int 0)) h 5 (.int 0)) h 6 (.int 0)) h 7 (.int 0)) q_16 14 (vp_V [.null, .null, .int 0, .int 0, .int 0, .int 0, .null, .null, .null, .null, .int 0, .int 0, .null, .null, .int 0])).2.1 q_16 11 = .int 0 := sN_f
  have kn_43 : (sN (sF (sF (sF (sF (sF g_15 h 3 (.ref q_6)) h 4 (.int 0)) h 5 (.int 0)) h 6 (.int 0)) h 7 (.int 0)) q_16 14 (vp_V [.null, .null, .int 0, .int 0, .int 0, .int 0, .null, .null, .null, .null, .int 0, .int 0, .null, .null, .int 0])).2.1 q_16 12 = .null := sN_f
  have kn_44 : (sN (sF (sF (sF (sF (sF g_15 h 3 (.ref q_6)) h 4 (.int 0)) h 5 (.int 0)) h 6 (.int 0)) h 7 (.int 0)) q_16 14 (vp_V [.null, .null, .int 0, .int 0, .int 0, .int 0, .null, .null, .null, .null, .int 0, .int 0, .null, .null, .int 0])).2.1 q_16 13 = .null := sN_f
  have kn_45 : (sN (sF (sF (sF (sF (sF g_15 h 3 (.ref q_6)) h 4 (.int 0)) h 5 (.int 0)) h 6 (.int 0)) h 7 (.int 0)) q_16 14 (vp_V [.null, .null, .int 0, .int 0, .int 0, .int 0, .null, .null, .null, .null, .int 0, .int 0, .null, .null, .int 0])).2.1 q_16 14 = .int 0 := sN_f
  generalize (sN (sF (sF (sF (sF (sF g_15 h 3 (.ref q_6)) h 4 (.int 0)) h 5 (.int 0)) h 6 (.int 0)) h 7 (.int 0)) q_16 14 (vp_V [.null, .null, .int 0, .int 0, .int 0, .int 0, .null, .null, .null, .null, .int 0, .int 0, .null, .null, .int 0])) = g_46 at hT hI hM hE r_17 r_18 r_19 r_20 n_21 n_22 kn_23 kn_24 kn_25 kn_26 kn_27 kn_28 kn_29 kn_30 kn_31 kn_32 kn_33 kn_34 kn_35 kn_36 kn_37 kn_38 kn_39 kn_40 kn_41 kn_42 kn_43 kn_44 kn_45
  clear kn_12 kn_13 kn_14 n_10 n_11 r_7 r_8 r_9
  refine W.widen (k := 3) (n := 533) (Nat.le_of_ble_eq_true rfl) (Nat.le_of_ble_eq_true rfl) ?_
  refine lv_dup hx hb dX5_init_68 rfl ?_
  refine t_callIN (n := 0) (As := []) (rest := [.ref q_16, .int 0, .ref q_1]) hB hT hl.1 (n_Service l D cI cZ cS cR N0 g_46 hI q_16 r_20) k_113 k_60 hB.2.2.2.2.2.2.2.1.2.1 k_112 rfl (by decide +kernel) ⟨(Nat.le_of_ble_eq_true rfl), (Nat.le_of_ble_eq_true rfl)⟩ rfl (Nat.le_of_ble_eq_true rfl) ⟨(Nat.le_of_ble_eq_true rfl), (Nat.le_of_ble_eq_true rfl)⟩ dX5_init_69 (fun v g_47 H locs hp hT => ?_)
  obtain ⟨rfl, hI, x_49, m_48, r_50⟩ := hp
  replace hM : Sm md_n_World g g_47 := hM.tr hE (m_48.mo (fun r k h => mdle_n_World_n_Service h))
  replace hE : Ex g g_47 := hE.trx z_q_16 x_49
  have r_51 : g_47.1 h = 16 := (Exx.r x_49 r_17 (by decide) (ro_ne r_17 r_20 (by decide)))
  have r_52 : g_47.1 q_1 = 44 := (Exx.r x_49 r_18 (by decide) (ro_ne r_18 r_20 (by decide)))
  have r_53 : g_47.1 q_6 = 50 := (Exx.r x_49 r_19 (by decide) (ro_ne r_19 r_20 (by decide)))
  have r_54 : g_47.1 q_16 = 10 := r_50
  have n_55 : g_47.2.2.1 q_1 = 6 := (Exx.n x_49 r_18 (by decide) (ro_ne r_18 r_20 (by decide)) n_21)
  have n_56 : g_47.2.2.1 q_6 = 512 := (Exx.n x_49 r_19 (by decide) (ro_ne r_19 r_20 (by decide)) n_22)
  have kn_57 : g_47.2.1 h 0 = .ref q_1 := (Sm.v m_48 r_17 (by decide) rfl kn_23)
  have kn_58 : g_47.2.1 h 1 = .int 0 := (Sm.v m_48 r_17 (by decide) rfl kn_24)
  have kn_59 : g_47.2.1 h 2 = .int 0 := (Sm.v m_48 r_17 (by decide) rfl kn_25)
  have kn_60 : g_47.2.1 h 3 = .ref q_6 := (Sm.v m_48 r_17 (by decide) rfl kn_26)
  have kn_61 : g_47.2.1 h 4 = .int 0 := (Sm.v m_48 r_17 (by decide) rfl kn_27)
  have kn_62 : g_47.2.1 h 5 = .int 0 := (Sm.v m_48 r_17 (by decide) rfl kn_28)
  have kn_63 : g_47.2.1 h 6 = .int 0 := (Sm.v m_48 r_17 (by decide) rfl kn_29)
  have kn_64 : g_47.2.1 h 7 = .int 0 := (Sm.v m_48 r_17 (by decide) rfl kn_30)
  refine W.eq (g2 := F0 m 72 ls [.ref q_16, .int 0, .ref q_1]) rfl ?_
  have i_65 : vp_in (0 : Int32) 6 := (by unfold vp_in; decide)
  refine t_astq hB hT r_52 n_55 (ro_ci r_54 rfl) i_65 dX5_init_72 (fun H locs hT => ?_)
  replace hI : Inv (sQ g_47 q_1 (0 : Int32).toNatClampNeg (some q_16)) := hI.sQ (by rw [r_52]; exact trivial)
  replace hM : Sm md_n_World g (sQ g_47 q_1 (0 : Int32).toNatClampNeg (some q_16)) := hM.tr hE (Sm_sQ (by rw [r_52]; rfl))
  replace hE : Ex g (sQ g_47 q_1 (0 : Int32).toNatClampNeg (some q_16)) := hE
  have r_66 : (sQ g_47 q_1 (0 : Int32).toNatClampNeg (some q_16)).1 h = 16 := r_51
  have r_67 : (sQ g_47 q_1 (0 : Int32).toNatClampNeg (some q_16)).1 q_1 = 44 := r_52
  have r_68 : (sQ g_47 q_1 (0 : Int32).toNatClampNeg (some q_16)).1 q_6 = 50 := r_53
  have r_69 : (sQ g_47 q_1 (0 : Int32).toNatClampNeg (some q_16)).1 q_16 = 10 := r_54
  have n_70 : (sQ g_47 q_1 (0 : Int32).toNatClampNeg (some q_16)).2.2.1 q_1 = 6 := n_55
  have n_71 : (sQ g_47 q_1 (0 : Int32).toNatClampNeg (some q_16)).2.2.1 q_6 = 512 := n_56
  have kn_72 : (sQ g_47 q_1 (0 : Int32).toNatClampNeg (some q_16)).2.1 h 0 = .ref q_1 := kn_57
  have kn_73 : (sQ g_47 q_1 (0 : Int32).toNatClampNeg (some q_16)).2.1 h 1 = .int 0 := kn_58
  have kn_74 : (sQ g_47 q_1 (0 : Int32).toNatClampNeg (some q_16)).2.1 h 2 = .int 0 := kn_59
  have kn_75 : (sQ g_47 q_1 (0 : Int32).toNatClampNeg (some q_16)).2.1 h 3 = .ref q_6 := kn_60
  have kn_76 : (sQ g_47 q_1 (0 : Int32).toNatClampNeg (some q_16)).2.1 h 4 = .int 0 := kn_61
  have kn_77 : (sQ g_47 q_1 (0 : Int32).toNatClampNeg (some q_16)).2.1 h 5 = .int 0 := kn_62
  have kn_78 : (sQ g_47 q_1 (0 : Int32).toNatClampNeg (some q_16)).2.1 h 6 = .int 0 := kn_63
  have kn_79 : (sQ g_47 q_1 (0 : Int32).toNatClampNeg (some q_16)).2.1 h 7 = .int 0 := kn_64
  have kn_80 : (sQ g_47 q_1 (0 : Int32).toNatClampNeg (some q_16)).2.2.2.2 q_1 0 = some q_16 := sQ_eq
  generalize (sQ g_47 q_1 (0 : Int32).toNatClampNeg (some q_16)) = g_81 at hT hI hM hE r_66 r_67 r_68 r_69 n_70 n_71 kn_72 kn_73 kn_74 kn_75 kn_76 kn_77 kn_78 kn_79 kn_80
  clear kn_57 kn_58 kn_59 kn_60 kn_61 kn_62 kn_63 kn_64 n_55 n_56 r_51 r_52 r_53 r_54
  refine lv_iinc (v := 1) (lv' := [(1, .int 1), (0, .ref h)]) hx hb dX5_init_73 hl (k := 0) rfl (by decide) (by decide) rfl (fun ls hl => ?_)
  refine lv_goto (tgt := 54) hx hb dX5_init_76 (by decide) ?_
  refine lv_iload_n hx hb dX5_init_54 rfl (lv_at hl 0 rfl) ?_
  refine lv_bipush (v := 6) hx hb dX5_init_55 (by decide) ?_
  refine lv_icmp_ge (tgt := 79) hx hb dX5_init_57 (by decide) (fun c_ => absurd c_ (by decide)) (fun c_ => ?_)
  refine lv_aload_n hx hb dX5_init_60 rfl (lv_at hl 1 rfl) ?_
  refine t_get (ci := 5) (v := .ref q_1) hB hT (ro_ci r_66 rfl) rfl 0 (by decide) k_199 kn_72 dX5_init_61 ?_
  refine lv_iload_n hx hb dX5_init_64 rfl (lv_at hl 0 rfl) ?_
  refine t_new (ci := 3) (fs := [.null, .null, .int 0, .int 0, .int 0, .int 0, .null, .null, .null, .null, .int 0, .int 0, .null, .null, .int 0]) hB hT rfl (by decide) k_108 k_110 k_60 (fnew_3) (Nat.le_of_ble_eq_true rfl) (Nat.le_of_ble_eq_true rfl) dX5_init_65 (fun q_82 H o_q_82 hT => ?_)
  have z_q_82 : g.1 q_82 = 0 := hE.z0 o_q_82
  replace hI : Inv (sN g_81 q_82 14 (vp_V [.null, .null, .int 0, .int 0, .int 0, .int 0, .null, .null, .null, .null, .int 0, .int 0, .null, .null, .int 0])) := hI.newo o_q_82 (fun _ => rfl) (fun _ => trivial) (fun _ _ => trivial)
  replace hM : Sm md_n_World g (sN g_81 q_82 14 (vp_V [.null, .null, .int 0, .int 0, .int 0, .int 0, .null, .null, .null, .null, .int 0, .int 0, .null, .null, .int 0])) := hM.tr hE (Sm.push o_q_82 sN_g)
  replace hE : Ex g (sN g_81 q_82 14 (vp_V [.null, .null, .int 0, .int 0, .int 0, .int 0, .null, .null, .null, .null, .int 0, .int 0, .null, .null, .int 0])) := hE.tr (Ex.push o_q_82 sN_g)
  have r_83 : (sN g_81 q_82 14 (vp_V [.null, .null, .int 0, .int 0, .int 0, .int 0, .null, .null, .null, .null, .int 0, .int 0, .null, .null, .int 0])).1 h = 16 := ((sN_g h (ne0 r_66 o_q_82 (by decide))).1.trans r_66)
  have r_84 : (sN g_81 q_82 14 (vp_V [.null, .null, .int 0, .int 0, .int 0, .int 0, .null, .null, .null, .null, .int 0, .int 0, .null, .null, .int 0])).1 q_1 = 44 := ((sN_g q_1 (ne0 r_67 o_q_82 (by decide))).1.trans r_67)
  have r_85 : (sN g_81 q_82 14 (vp_V [.null, .null, .int 0, .int 0, .int 0, .int 0, .null, .null, .null, .null, .int 0, .int 0, .null, .null, .int 0])).1 q_6 = 50 := ((sN_g q_6 (ne0 r_68 o_q_82 (by decide))).1.trans r_68)
  have r_86 : (sN g_81 q_82 14 (vp_V [.null, .null, .int 0, .int 0, .int 0, .int 0, .null, .null, .null, .null, .int 0, .int 0, .null, .null, .int 0])).1 q_16 = 10 := ((sN_g q_16 (ne0 r_69 o_q_82 (by decide))).1.trans r_69)
  have r_87 : (sN g_81 q_82 14 (vp_V [.null, .null, .int 0, .int 0, .int 0, .int 0, .null, .null, .null, .null, .int 0, .int 0, .null, .null, .int 0])).1 q_82 = 14 := sN_r
  have n_88 : (sN g_81 q_82 14 (vp_V [.null, .null, .int 0, .int 0, .int 0, .int 0, .null, .null, .null, .null, .int 0, .int 0, .null, .null, .int 0])).2.2.1 q_1 = 6 := ((sN_g q_1 (ne0 r_67 o_q_82 (by decide))).2.2.1.trans n_70)
  have n_89 : (sN g_81 q_82 14 (vp_V [.null, .null, .int 0, .int 0, .int 0, .int 0, .null, .null, .null, .null, .int 0, .int 0, .null, .null, .int 0])).2.2.1 q_6 = 512 := ((sN_g q_6 (ne0 r_68 o_q_82 (by decide))).2.2.1.trans n_71)
  have kn_90 : (sN g_81 q_82 14 (vp_V [.null, .null, .int 0, .int 0, .int 0, .int 0, .null, .null, .null, .null, .int 0, .int 0, .null, .null, .int 0])).2.1 h 0 = .ref q_1 := ((congrFun (sN_g h (ne0 r_66 o_q_82 (by decide))).2.1 0).trans kn_72)
  have kn_91 : (sN g_81 q_82 14 (vp_V [.null, .null, .int 0, .int 0, .int 0, .int 0, .null, .null, .null, .null, .int 0, .int 0, .null, .null, .int 0])).2.1 h 1 = .int 0 := ((congrFun (sN_g h (ne0 r_66 o_q_82 (by decide))).2.1 1).trans kn_73)
  have kn_92 : (sN g_81 q_82 14 (vp_V [.null, .null, .int 0, .int 0, .int 0, .int 0, .null, .null, .null, .null, .int 0, .int 0, .null, .null, .int 0])).2.1 h 2 = .int 0 := ((congrFun (sN_g h (ne0 r_66 o_q_82 (by decide))).2.1 2).trans kn_74)
  have kn_93 : (sN g_81 q_82 14 (vp_V [.null, .null, .int 0, .int 0, .int 0, .int 0, .null, .null, .null, .null, .int 0, .int 0, .null, .null, .int 0])).2.1 h 3 = .ref q_6 := ((congrFun (sN_g h (ne0 r_66 o_q_82 (by decide))).2.1 3).trans kn_75)
  have kn_94 : (sN g_81 q_82 14 (vp_V [.null, .null, .int 0, .int 0, .int 0, .int 0, .null, .null, .null, .null, .int 0, .int 0, .null, .null, .int 0])).2.1 h 4 = .int 0 := ((congrFun (sN_g h (ne0 r_66 o_q_82 (by decide))).2.1 4).trans kn_76)
  have kn_95 : (sN g_81 q_82 14 (vp_V [.null, .null, .int 0, .int 0, .int 0, .int 0, .null, .null, .null, .null, .int 0, .int 0, .null, .null, .int 0])).2.1 h 5 = .int 0 := ((congrFun (sN_g h (ne0 r_66 o_q_82 (by decide))).2.1 5).trans kn_77)
  have kn_96 : (sN g_81 q_82 14 (vp_V [.null, .null, .int 0, .int 0, .int 0, .int 0, .null, .null, .null, .null, .int 0, .int 0, .null, .null, .int 0])).2.1 h 6 = .int 0 := ((congrFun (sN_g h (ne0 r_66 o_q_82 (by decide))).2.1 6).trans kn_78)
  have kn_97 : (sN g_81 q_82 14 (vp_V [.null, .null, .int 0, .int 0, .int 0, .int 0, .null, .null, .null, .null, .int 0, .int 0, .null, .null, .int 0])).2.1 h 7 = .int 0 := ((congrFun (sN_g h (ne0 r_66 o_q_82 (by decide))).2.1 7).trans kn_79)
  have kn_98 : (sN g_81 q_82 14 (vp_V [.null, .null, .int 0, .int 0, .int 0, .int 0, .null, .null, .null, .null, .int 0, .int 0, .null, .null, .int 0])).2.1 q_82 0 = .null := sN_f
  have kn_99 : (sN g_81 q_82 14 (vp_V [.null, .null, .int 0, .int 0, .int 0, .int 0, .null, .null, .null, .null, .int 0, .int 0, .null, .null, .int 0])).2.1 q_82 1 = .null := sN_f
  have kn_100 : (sN g_81 q_82 14 (vp_V [.null, .null, .int 0, .int 0, .int 0, .int 0, .null, .null, .null, .null, .int 0, .int 0, .null, .null, .int 0])).2.1 q_82 2 = .int 0 := sN_f
  have kn_101 : (sN g_81 q_82 14 (vp_V [.null, .null, .int 0, .int 0, .int 0, .int 0, .null, .null, .null, .null, .int 0, .int 0, .null, .null, .int 0])).2.1 q_82 3 = .int 0 := sN_f
  have kn_102 : (sN g_81 q_82 14 (vp_V [.null, .null, .int 0, .int 0, .int 0, .int 0, .null, .null, .null, .null, .int 0, .int 0, .null, .null, .int 0])).2.1 q_82 4 = .int 0 := sN_f
  have kn_103 : (sN g_81 q_82 14 (vp_V [.null, .null, .int 0, .int 0, .int 0, .int 0, .null, .null, .null, .null, .int 0, .int 0, .null, .null, .int 0])).2.1 q_82 5 = .int 0 := sN_f
  have kn_104 : (sN g_81 q_82 14 (vp_V [.null, .null, .int 0, .int 0, .int 0, .int 0, .null, .null, .null, .null, .int 0, .int 0, .null, .null, .int 0])).2.1 q_82 6 = .null := sN_f
  have kn_105 : (sN g_81 q_82 14 (vp_V [.null, .null, .int 0, .int 0, .int 0, .int 0, .null, .null, .null, .null, .int 0, .int 0, .null, .null, .int 0])).2.1 q_82 7 = .null := sN_f
  have kn_106 : (sN g_81 q_82 14 (vp_V [.null, .null, .int 0, .int 0, .int 0, .int 0, .null, .null, .null, .null, .int 0, .int 0, .null, .null, .int 0])).2.1 q_82 8 = .null := sN_f
  have kn_107 : (sN g_81 q_82 14 (vp_V [.null, .null, .int 0, .int 0, .int 0, .int 0, .null, .null, .null, .null, .int 0, .int 0, .null, .null, .int 0])).2.1 q_82 9 = .null := sN_f
  have kn_108 : (sN g_81 q_82 14 (vp_V [.null, .null, .int 0, .int 0, .int 0, .int 0, .null, .null, .null, .null, .int 0, .int 0, .null, .null, .int 0])).2.1 q_82 10 = .int 0 := sN_f
  have kn_109 : (sN g_81 q_82 14 (vp_V [.null, .null, .int 0, .int 0, .int 0, .int 0, .null, .null, .null, .null, .int 0, .int 0, .null, .null, .int 0])).2.1 q_82 11 = .int 0 := sN_f
  have kn_110 : (sN g_81 q_82 14 (vp_V [.null, .null, .int 0, .int 0, .int 0, .int 0, .null, .null, .null, .null, .int 0, .int 0, .null, .null, .int 0])).2.1 q_82 12 = .null := sN_f
  have kn_111 : (sN g_81 q_82 14 (vp_V [.null, .null, .int 0, .int 0, .int 0, .int 0, .null, .null, .null, .null, .int 0, .int 0, .null, .null, .int 0])).2.1 q_82 13 = .null := sN_f
  have kn_112 : (sN g_81 q_82 14 (vp_V [.null, .null, .int 0, .int 0, .int 0, .int 0, .null, .null, .null, .null, .int 0, .int 0, .null, .null, .int 0])).2.1 q_82 14 = .int 0 := sN_f
  have kn_113 : (sN g_81 q_82 14 (vp_V [.null, .null, .int 0, .int 0, .int 0, .int 0, .null, .null, .null, .null, .int 0, .int 0, .null, .null, .int 0])).2.2.2.2 q_1 0 = some q_16 := ((congrFun (sN_g q_1 (ne0 r_67 o_q_82 (by decide))).2.2.2.2 _).trans kn_80)
  generalize (sN g_81 q_82 14 (vp_V [.null, .null, .int 0, .int 0, .int 0, .int 0, .null, .null, .null, .null, .int 0, .int 0, .null, .null, .int 0])) = g_114 at hT hI hM hE r_83 r_84 r_85 r_86 r_87 n_88 n_89 kn_90 kn_91 kn_92 kn_93 kn_94 kn_95 kn_96 kn_97 kn_98 kn_99 kn_100 kn_101 kn_102 kn_103 kn_104 kn_105 kn_106 kn_107 kn_108 kn_109 kn_110 kn_111 kn_112 kn_113
  clear kn_72 kn_73 kn_74 kn_75 kn_76 kn_77 kn_78 kn_79 kn_80 n_70 n_71 r_66 r_67 r_68 r_69
  refine W.widen (k := 15) (n := 660) (Nat.le_of_ble_eq_true rfl) (Nat.le_of_ble_eq_true rfl) ?_
  refine lv_dup hx hb dX5_init_68 rfl ?_
  refine t_callIN (n := 0) (As := []) (rest := [.ref q_82, .int 1, .ref q_1]) hB hT hl.1 (n_Service l D cI cZ cS cR N0 g_114 hI q_82 r_87) k_113 k_60 hB.2.2.2.2.2.2.2.1.2.1 k_112 rfl (by decide +kernel) ⟨(Nat.le_of_ble_eq_true rfl), (Nat.le_of_ble_eq_true rfl)⟩ rfl (Nat.le_of_ble_eq_true rfl) ⟨(Nat.le_of_ble_eq_true rfl), (Nat.le_of_ble_eq_true rfl)⟩ dX5_init_69 (fun v g_115 H locs hp hT => ?_)
  obtain ⟨rfl, hI, x_117, m_116, r_118⟩ := hp
  replace hM : Sm md_n_World g g_115 := hM.tr hE (m_116.mo (fun r k h => mdle_n_World_n_Service h))
  replace hE : Ex g g_115 := hE.trx z_q_82 x_117
  have r_119 : g_115.1 h = 16 := (Exx.r x_117 r_83 (by decide) (ro_ne r_83 r_87 (by decide)))
  have r_120 : g_115.1 q_1 = 44 := (Exx.r x_117 r_84 (by decide) (ro_ne r_84 r_87 (by decide)))
  have r_121 : g_115.1 q_6 = 50 := (Exx.r x_117 r_85 (by decide) (ro_ne r_85 r_87 (by decide)))
  have r_122 : g_115.1 q_16 = 10 := (Exx.r x_117 r_86 (by decide) (ro_ne r_86 r_87 (by decide)))
  have r_123 : g_115.1 q_82 = 10 := r_118
  have n_124 : g_115.2.2.1 q_1 = 6 := (Exx.n x_117 r_84 (by decide) (ro_ne r_84 r_87 (by decide)) n_88)
  have n_125 : g_115.2.2.1 q_6 = 512 := (Exx.n x_117 r_85 (by decide) (ro_ne r_85 r_87 (by decide)) n_89)
  have kn_126 : g_115.2.1 h 0 = .ref q_1 := (Sm.v m_116 r_83 (by decide) rfl kn_90)
  have kn_127 : g_115.2.1 h 1 = .int 0 := (Sm.v m_116 r_83 (by decide) rfl kn_91)
  have kn_128 : g_115.2.1 h 2 = .int 0 := (Sm.v m_116 r_83 (by decide) rfl kn_92)
  have kn_129 : g_115.2.1 h 3 = .ref q_6 := (Sm.v m_116 r_83 (by decide) rfl kn_93)
  have kn_130 : g_115.2.1 h 4 = .int 0 := (Sm.v m_116 r_83 (by decide) rfl kn_94)
  have kn_131 : g_115.2.1 h 5 = .int 0 := (Sm.v m_116 r_83 (by decide) rfl kn_95)
  have kn_132 : g_115.2.1 h 6 = .int 0 := (Sm.v m_116 r_83 (by decide) rfl kn_96)
  have kn_133 : g_115.2.1 h 7 = .int 0 := (Sm.v m_116 r_83 (by decide) rfl kn_97)
  have kn_134 : g_115.2.2.2.2 q_1 0 = some q_16 := ((congrFun (m_116.2 q_1 (by rw [r_84]; decide) (by rw [r_84]; rfl)).2 _).trans kn_113)
  refine W.eq (g2 := F0 m 72 ls [.ref q_82, .int 1, .ref q_1]) rfl ?_
  have i_135 : vp_in (1 : Int32) 6 := (by unfold vp_in; decide)
  refine t_astq hB hT r_120 n_124 (ro_ci r_123 rfl) i_135 dX5_init_72 (fun H locs hT => ?_)
  replace hI : Inv (sQ g_115 q_1 (1 : Int32).toNatClampNeg (some q_82)) := hI.sQ (by rw [r_120]; exact trivial)
  replace hM : Sm md_n_World g (sQ g_115 q_1 (1 : Int32).toNatClampNeg (some q_82)) := hM.tr hE (Sm_sQ (by rw [r_120]; rfl))
  replace hE : Ex g (sQ g_115 q_1 (1 : Int32).toNatClampNeg (some q_82)) := hE
  have r_136 : (sQ g_115 q_1 (1 : Int32).toNatClampNeg (some q_82)).1 h = 16 := r_119
  have r_137 : (sQ g_115 q_1 (1 : Int32).toNatClampNeg (some q_82)).1 q_1 = 44 := r_120
  have r_138 : (sQ g_115 q_1 (1 : Int32).toNatClampNeg (some q_82)).1 q_6 = 50 := r_121
  have r_139 : (sQ g_115 q_1 (1 : Int32).toNatClampNeg (some q_82)).1 q_16 = 10 := r_122
  have r_140 : (sQ g_115 q_1 (1 : Int32).toNatClampNeg (some q_82)).1 q_82 = 10 := r_123
  have n_141 : (sQ g_115 q_1 (1 : Int32).toNatClampNeg (some q_82)).2.2.1 q_1 = 6 := n_124
  have n_142 : (sQ g_115 q_1 (1 : Int32).toNatClampNeg (some q_82)).2.2.1 q_6 = 512 := n_125
  have kn_143 : (sQ g_115 q_1 (1 : Int32).toNatClampNeg (some q_82)).2.1 h 0 = .ref q_1 := kn_126
  have kn_144 : (sQ g_115 q_1 (1 : Int32).toNatClampNeg (some q_82)).2.1 h 1 = .int 0 := kn_127
  have kn_145 : (sQ g_115 q_1 (1 : Int32).toNatClampNeg (some q_82)).2.1 h 2 = .int 0 := kn_128
  have kn_146 : (sQ g_115 q_1 (1 : Int32).toNatClampNeg (some q_82)).2.1 h 3 = .ref q_6 := kn_129
  have kn_147 : (sQ g_115 q_1 (1 : Int32).toNatClampNeg (some q_82)).2.1 h 4 = .int 0 := kn_130
  have kn_148 : (sQ g_115 q_1 (1 : Int32).toNatClampNeg (some q_82)).2.1 h 5 = .int 0 := kn_131
  have kn_149 : (sQ g_115 q_1 (1 : Int32).toNatClampNeg (some q_82)).2.1 h 6 = .int 0 := kn_132
  have kn_150 : (sQ g_115 q_1 (1 : Int32).toNatClampNeg (some q_82)).2.1 h 7 = .int 0 := kn_133
  have kn_151 : (sQ g_115 q_1 (1 : Int32).toNatClampNeg (some q_82)).2.2.2.2 q_1 0 = some q_16 := (sQ_i kn_134 (by decide))
  have kn_152 : (sQ g_115 q_1 (1 : Int32).toNatClampNeg (some q_82)).2.2.2.2 q_1 1 = some q_82 := sQ_eq
  generalize (sQ g_115 q_1 (1 : Int32).toNatClampNeg (some q_82)) = g_153 at hT hI hM hE r_136 r_137 r_138 r_139 r_140 n_141 n_142 kn_143 kn_144 kn_145 kn_146 kn_147 kn_148 kn_149 kn_150 kn_151 kn_152
  clear kn_126 kn_127 kn_128 kn_129 kn_130 kn_131 kn_132 kn_133 kn_134 n_124 n_125 r_119 r_120 r_121 r_122 r_123
  refine lv_iinc (v := 2) (lv' := [(1, .int 2), (0, .ref h)]) hx hb dX5_init_73 hl (k := 0) rfl (by decide) (by decide) rfl (fun ls hl => ?_)
  refine lv_goto (tgt := 54) hx hb dX5_init_76 (by decide) ?_
  refine lv_iload_n hx hb dX5_init_54 rfl (lv_at hl 0 rfl) ?_
  refine lv_bipush (v := 6) hx hb dX5_init_55 (by decide) ?_
  refine lv_icmp_ge (tgt := 79) hx hb dX5_init_57 (by decide) (fun c_ => absurd c_ (by decide)) (fun c_ => ?_)
  refine lv_aload_n hx hb dX5_init_60 rfl (lv_at hl 1 rfl) ?_
  refine t_get (ci := 5) (v := .ref q_1) hB hT (ro_ci r_136 rfl) rfl 0 (by decide) k_199 kn_143 dX5_init_61 ?_
  refine lv_iload_n hx hb dX5_init_64 rfl (lv_at hl 0 rfl) ?_
  refine t_new (ci := 3) (fs := [.null, .null, .int 0, .int 0, .int 0, .int 0, .null, .null, .null, .null, .int 0, .int 0, .null, .null, .int 0]) hB hT rfl (by decide) k_108 k_110 k_60 (fnew_3) (Nat.le_of_ble_eq_true rfl) (Nat.le_of_ble_eq_true rfl) dX5_init_65 (fun q_154 H o_q_154 hT => ?_)
  have z_q_154 : g.1 q_154 = 0 := hE.z0 o_q_154
  replace hI : Inv (sN g_153 q_154 14 (vp_V [.null, .null, .int 0, .int 0, .int 0, .int 0, .null, .null, .null, .null, .int 0, .int 0, .null, .null, .int 0])) := hI.newo o_q_154 (fun _ => rfl) (fun _ => trivial) (fun _ _ => trivial)
  replace hM : Sm md_n_World g (sN g_153 q_154 14 (vp_V [.null, .null, .int 0, .int 0, .int 0, .int 0, .null, .null, .null, .null, .int 0, .int 0, .null, .null, .int 0])) := hM.tr hE (Sm.push o_q_154 sN_g)
  replace hE : Ex g (sN g_153 q_154 14 (vp_V [.null, .null, .int 0, .int 0, .int 0, .int 0, .null, .null, .null, .null, .int 0, .int 0, .null, .null, .int 0])) := hE.tr (Ex.push o_q_154 sN_g)
  have r_155 : (sN g_153 q_154 14 (vp_V [.null, .null, .int 0, .int 0, .int 0, .int 0, .null, .null, .null, .null, .int 0, .int 0, .null, .null, .int 0])).1 h = 16 := ((sN_g h (ne0 r_136 o_q_154 (by decide))).1.trans r_136)
  have r_156 : (sN g_153 q_154 14 (vp_V [.null, .null, .int 0, .int 0, .int 0, .int 0, .null, .null, .null, .null, .int 0, .int 0, .null, .null, .int 0])).1 q_1 = 44 := ((sN_g q_1 (ne0 r_137 o_q_154 (by decide))).1.trans r_137)
  have r_157 : (sN g_153 q_154 14 (vp_V [.null, .null, .int 0, .int 0, .int 0, .int 0, .null, .null, .null, .null, .int 0, .int 0, .null, .null, .int 0])).1 q_6 = 50 := ((sN_g q_6 (ne0 r_138 o_q_154 (by decide))).1.trans r_138)
  have r_158 : (sN g_153 q_154 14 (vp_V [.null, .null, .int 0, .int 0, .int 0, .int 0, .null, .null, .null, .null, .int 0, .int 0, .null, .null, .int 0])).1 q_16 = 10 := ((sN_g q_16 (ne0 r_139 o_q_154 (by decide))).1.trans r_139)
  have r_159 : (sN g_153 q_154 14 (vp_V [.null, .null, .int 0, .int 0, .int 0, .int 0, .null, .null, .null, .null, .int 0, .int 0, .null, .null, .int 0])).1 q_82 = 10 := ((sN_g q_82 (ne0 r_140 o_q_154 (by decide))).1.trans r_140)
  have r_160 : (sN g_153 q_154 14 (vp_V [.null, .null, .int 0, .int 0, .int 0, .int 0, .null, .null, .null, .null, .int 0, .int 0, .null, .null, .int 0])).1 q_154 = 14 := sN_r
  have n_161 : (sN g_153 q_154 14 (vp_V [.null, .null, .int 0, .int 0, .int 0, .int 0, .null, .null, .null, .null, .int 0, .int 0, .null, .null, .int 0])).2.2.1 q_1 = 6 := ((sN_g q_1 (ne0 r_137 o_q_154 (by decide))).2.2.1.trans n_141)
  have n_162 : (sN g_153 q_154 14 (vp_V [.null, .null, .int 0, .int 0, .int 0, .int 0, .null, .null, .null, .null, .int 0, .int 0, .null, .null, .int 0])).2.2.1 q_6 = 512 := ((sN_g q_6 (ne0 r_138 o_q_154 (by decide))).2.2.1.trans n_142)
  have kn_163 : (sN g_153 q_154 14 (vp_V [.null, .null, .int 0, .int 0, .int 0, .int 0, .null, .null, .null, .null, .int 0, .int 0, .null, .null, .int 0])).2.1 h 0 = .ref q_1 := ((congrFun (sN_g h (ne0 r_136 o_q_154 (by decide))).2.1 0).trans kn_143)
  have kn_164 : (sN g_153 q_154 14 (vp_V [.null, .null, .int 0, .int 0, .int 0, .int 0, .null, .null, .null, .null, .int 0, .int 0, .null, .null, .int 0])).2.1 h 1 = .int 0 := ((congrFun (sN_g h (ne0 r_136 o_q_154 (by decide))).2.1 1).trans kn_144)
  have kn_165 : (sN g_153 q_154 14 (vp_V [.null, .null, .int 0, .int 0, .int 0, .int 0, .null, .null, .null, .null, .int 0, .int 0, .null, .null, .int 0])).2.1 h 2 = .int 0 := ((congrFun (sN_g h (ne0 r_136 o_q_154 (by decide))).2.1 2).trans kn_145)
  have kn_166 : (sN g_153 q_154 14 (vp_V [.null, .null, .int 0, .int 0, .int 0, .int 0, .null, .null, .null, .null, .int 0, .int 0, .null, .null, .int 0])).2.1 h 3 = .ref q_6 := ((congrFun (sN_g h (ne0 r_136 o_q_154 (by decide))).2.1 3).trans kn_146)
  have kn_167 : (sN g_153 q_154 14 (vp_V [.null, .null, .int 0, .int 0, .int 0, .int 0, .null, .null, .null, .null, .int 0, .int 0, .null, .null, .int 0])).2.1 h 4 = .int 0 := ((congrFun (sN_g h (ne0 r_136 o_q_154 (by decide))).2.1 4).trans kn_147)
  have kn_168 : (sN g_153 q_154 14 (vp_V [.null, .null, .int 0, .int 0, .int 0, .int 0, .null, .null, .null, .null, .int 0, .int 0, .null, .null, .int 0])).2.1 h 5 = .int 0 := ((congrFun (sN_g h (ne0 r_136 o_q_154 (by decide))).2.1 5).trans kn_148)
  have kn_169 : (sN g_153 q_154 14 (vp_V [.null, .null, .int 0, .int 0, .int 0, .int 0, .null, .null, .null, .null, .int 0, .int 0, .null, .null, .int 0])).2.1 h 6 = .int 0 := ((congrFun (sN_g h (ne0 r_136 o_q_154 (by decide))).2.1 6).trans kn_149)
  have kn_170 : (sN g_153 q_154 14 (vp_V [.null, .null, .int 0, .int 0, .int 0, .int 0, .null, .null, .null, .null, .int 0, .int 0, .null, .null, .int 0])).2.1 h 7 = .int 0 := ((congrFun (sN_g h (ne0 r_136 o_q_154 (by decide))).2.1 7).trans kn_150)
  have kn_171 : (sN g_153 q_154 14 (vp_V [.null, .null, .int 0, .int 0, .int 0, .int 0, .null, .null, .null, .null, .int 0, .int 0, .null, .null, .int 0])).2.1 q_154 0 = .null := sN_f
  have kn_172 : (sN g_153 q_154 14 (vp_V [.null, .null, .int 0, .int 0, .int 0, .int 0, .null, .null, .null, .null, .int 0, .int 0, .null, .null, .int 0])).2.1 q_154 1 = .null := sN_f
  have kn_173 : (sN g_153 q_154 14 (vp_V [.null, .null, .int 0, .int 0, .int 0, .int 0, .null, .null, .null, .null, .int 0, .int 0, .null, .null, .int 0])).2.1 q_154 2 = .int 0 := sN_f
  have kn_174 : (sN g_153 q_154 14 (vp_V [.null, .null, .int 0, .int 0, .int 0, .int 0, .null, .null, .null, .null, .int 0, .int 0, .null, .null, .int 0])).2.1 q_154 3 = .int 0 := sN_f
  have kn_175 : (sN g_153 q_154 14 (vp_V [.null, .null, .int 0, .int 0, .int 0, .int 0, .null, .null, .null, .null, .int 0, .int 0, .null, .null, .int 0])).2.1 q_154 4 = .int 0 := sN_f
  have kn_176 : (sN g_153 q_154 14 (vp_V [.null, .null, .int 0, .int 0, .int 0, .int 0, .null, .null, .null, .null, .int 0, .int 0, .null, .null, .int 0])).2.1 q_154 5 = .int 0 := sN_f
  have kn_177 : (sN g_153 q_154 14 (vp_V [.null, .null, .int 0, .int 0, .int 0, .int 0, .null, .null, .null, .null, .int 0, .int 0, .null, .null, .int 0])).2.1 q_154 6 = .null := sN_f
  have kn_178 : (sN g_153 q_154 14 (vp_V [.null, .null, .int 0, .int 0, .int 0, .int 0, .null, .null, .null, .null, .int 0, .int 0, .null, .null, .int 0])).2.1 q_154 7 = .null := sN_f
  have kn_179 : (sN g_153 q_154 14 (vp_V [.null, .null, .int 0, .int 0, .int 0, .int 0, .null, .null, .null, .null, .int 0, .int 0, .null, .null, .int 0])).2.1 q_154 8 = .null := sN_f
  have kn_180 : (sN g_153 q_154 14 (vp_V [.null, .null, .int 0, .int 0, .int 0, .int 0, .null, .null, .null, .null, .int 0, .int 0, .null, .null, .int 0])).2.1 q_154 9 = .null := sN_f
  have kn_181 : (sN g_153 q_154 14 (vp_V [.null, .null, .int 0, .int 0, .int 0, .int 0, .null, .null, .null, .null, .int 0, .int 0, .null, .null, .int 0])).2.1 q_154 10 = .int 0 := sN_f
  have kn_182 : (sN g_153 q_154 14 (vp_V [.null, .null, .int 0, .int 0, .int 0, .int 0, .null, .null, .null, .null, .int 0, .int 0, .null, .null, .int 0])).2.1 q_154 11 = .int 0 := sN_f
  have kn_183 : (sN g_153 q_154 14 (vp_V [.null, .null, .int 0, .int 0, .int 0, .int 0, .null, .null, .null, .null, .int 0, .int 0, .null, .null, .int 0])).2.1 q_154 12 = .null := sN_f
  have kn_184 : (sN g_153 q_154 14 (vp_V [.null, .null, .int 0, .int 0, .int 0, .int 0, .null, .null, .null, .null, .int 0, .int 0, .null, .null, .int 0])).2.1 q_154 13 = .null := sN_f
  have kn_185 : (sN g_153 q_154 14 (vp_V [.null, .null, .int 0, .int 0, .int 0, .int 0, .null, .null, .null, .null, .int 0, .int 0, .null, .null, .int 0])).2.1 q_154 14 = .int 0 := sN_f
  have kn_186 : (sN g_153 q_154 14 (vp_V [.null, .null, .int 0, .int 0, .int 0, .int 0, .null, .null, .null, .null, .int 0, .int 0, .null, .null, .int 0])).2.2.2.2 q_1 0 = some q_16 := ((congrFun (sN_g q_1 (ne0 r_137 o_q_154 (by decide))).2.2.2.2 _).trans kn_151)
  have kn_187 : (sN g_153 q_154 14 (vp_V [.null, .null, .int 0, .int 0, .int 0, .int 0, .null, .null, .null, .null, .int 0, .int 0, .null, .null, .int 0])).2.2.2.2 q_1 1 = some q_82 := ((congrFun (sN_g q_1 (ne0 r_137 o_q_154 (by decide))).2.2.2.2 _).trans kn_152)
  generalize (sN g_153 q_154 14 (vp_V [.null, .null, .int 0, .int 0, .int 0, .int 0, .null, .null, .null, .null, .int 0, .int 0, .null, .null, .int 0])) = g_188 at hT hI hM hE r_155 r_156 r_157 r_158 r_159 r_160 n_161 n_162 kn_163 kn_164 kn_165 kn_166 kn_167 kn_168 kn_169 kn_170 kn_171 kn_172 kn_173 kn_174 kn_175 kn_176 kn_177 kn_178 kn_179 kn_180 kn_181 kn_182 kn_183 kn_184 kn_185 kn_186 kn_187
  clear kn_143 kn_144 kn_145 kn_146 kn_147 kn_148 kn_149 kn_150 kn_151 kn_152 n_141 n_142 r_136 r_137 r_138 r_139 r_140
  refine W.widen (k := 27) (n := 787) (Nat.le_of_ble_eq_true rfl) (Nat.le_of_ble_eq_true rfl) ?_
  refine lv_dup hx hb dX5_init_68 rfl ?_
  refine t_callIN (n := 0) (As := []) (rest := [.ref q_154, .int 2, .ref q_1]) hB hT hl.1 (n_Service l D cI cZ cS cR N0 g_188 hI q_154 r_160) k_113 k_60 hB.2.2.2.2.2.2.2.1.2.1 k_112 rfl (by decide +kernel) ⟨(Nat.le_of_ble_eq_true rfl), (Nat.le_of_ble_eq_true rfl)⟩ rfl (Nat.le_of_ble_eq_true rfl) ⟨(Nat.le_of_ble_eq_true rfl), (Nat.le_of_ble_eq_true rfl)⟩ dX5_init_69 (fun v g_189 H locs hp hT => ?_)
  obtain ⟨rfl, hI, x_191, m_190, r_192⟩ := hp
  replace hM : Sm md_n_World g g_189 := hM.tr hE (m_190.mo (fun r k h => mdle_n_World_n_Service h))
  replace hE : Ex g g_189 := hE.trx z_q_154 x_191
  have r_193 : g_189.1 h = 16 := (Exx.r x_191 r_155 (by decide) (ro_ne r_155 r_160 (by decide)))
  have r_194 : g_189.1 q_1 = 44 := (Exx.r x_191 r_156 (by decide) (ro_ne r_156 r_160 (by decide)))
  have r_195 : g_189.1 q_6 = 50 := (Exx.r x_191 r_157 (by decide) (ro_ne r_157 r_160 (by decide)))
  have r_196 : g_189.1 q_16 = 10 := (Exx.r x_191 r_158 (by decide) (ro_ne r_158 r_160 (by decide)))
  have r_197 : g_189.1 q_82 = 10 := (Exx.r x_191 r_159 (by decide) (ro_ne r_159 r_160 (by decide)))
  have r_198 : g_189.1 q_154 = 10 := r_192
  have n_199 : g_189.2.2.1 q_1 = 6 := (Exx.n x_191 r_156 (by decide) (ro_ne r_156 r_160 (by decide)) n_161)
  have n_200 : g_189.2.2.1 q_6 = 512 := (Exx.n x_191 r_157 (by decide) (ro_ne r_157 r_160 (by decide)) n_162)
  have kn_201 : g_189.2.1 h 0 = .ref q_1 := (Sm.v m_190 r_155 (by decide) rfl kn_163)
  have kn_202 : g_189.2.1 h 1 = .int 0 := (Sm.v m_190 r_155 (by decide) rfl kn_164)
  have kn_203 : g_189.2.1 h 2 = .int 0 := (Sm.v m_190 r_155 (by decide) rfl kn_165)
  have kn_204 : g_189.2.1 h 3 = .ref q_6 := (Sm.v m_190 r_155 (by decide) rfl kn_166)
  have kn_205 : g_189.2.1 h 4 = .int 0 := (Sm.v m_190 r_155 (by decide) rfl kn_167)
  have kn_206 : g_189.2.1 h 5 = .int 0 := (Sm.v m_190 r_155 (by decide) rfl kn_168)
  have kn_207 : g_189.2.1 h 6 = .int 0 := (Sm.v m_190 r_155 (by decide) rfl kn_169)
  have kn_208 : g_189.2.1 h 7 = .int 0 := (Sm.v m_190 r_155 (by decide) rfl kn_170)
  have kn_209 : g_189.2.2.2.2 q_1 0 = some q_16 := ((congrFun (m_190.2 q_1 (by rw [r_156]; decide) (by rw [r_156]; rfl)).2 _).trans kn_186)
  have kn_210 : g_189.2.2.2.2 q_1 1 = some q_82 := ((congrFun (m_190.2 q_1 (by rw [r_156]; decide) (by rw [r_156]; rfl)).2 _).trans kn_187)
  refine W.eq (g2 := F0 m 72 ls [.ref q_154, .int 2, .ref q_1]) rfl ?_
  have i_211 : vp_in (2 : Int32) 6 := (by unfold vp_in; decide)
  refine t_astq hB hT r_194 n_199 (ro_ci r_198 rfl) i_211 dX5_init_72 (fun H locs hT => ?_)
  replace hI : Inv (sQ g_189 q_1 (2 : Int32).toNatClampNeg (some q_154)) := hI.sQ (by rw [r_194]; exact trivial)
  replace hM : Sm md_n_World g (sQ g_189 q_1 (2 : Int32).toNatClampNeg (some q_154)) := hM.tr hE (Sm_sQ (by rw [r_194]; rfl))
  replace hE : Ex g (sQ g_189 q_1 (2 : Int32).toNatClampNeg (some q_154)) := hE
  have r_212 : (sQ g_189 q_1 (2 : Int32).toNatClampNeg (some q_154)).1 h = 16 := r_193
  have r_213 : (sQ g_189 q_1 (2 : Int32).toNatClampNeg (some q_154)).1 q_1 = 44 := r_194
  have r_214 : (sQ g_189 q_1 (2 : Int32).toNatClampNeg (some q_154)).1 q_6 = 50 := r_195
  have r_215 : (sQ g_189 q_1 (2 : Int32).toNatClampNeg (some q_154)).1 q_16 = 10 := r_196
  have r_216 : (sQ g_189 q_1 (2 : Int32).toNatClampNeg (some q_154)).1 q_82 = 10 := r_197
  have r_217 : (sQ g_189 q_1 (2 : Int32).toNatClampNeg (some q_154)).1 q_154 = 10 := r_198
  have n_218 : (sQ g_189 q_1 (2 : Int32).toNatClampNeg (some q_154)).2.2.1 q_1 = 6 := n_199
  have n_219 : (sQ g_189 q_1 (2 : Int32).toNatClampNeg (some q_154)).2.2.1 q_6 = 512 := n_200
  have kn_220 : (sQ g_189 q_1 (2 : Int32).toNatClampNeg (some q_154)).2.1 h 0 = .ref q_1 := kn_201
  have kn_221 : (sQ g_189 q_1 (2 : Int32).toNatClampNeg (some q_154)).2.1 h 1 = .int 0 := kn_202
  have kn_222 : (sQ g_189 q_1 (2 : Int32).toNatClampNeg (some q_154)).2.1 h 2 = .int 0 := kn_203
  have kn_223 : (sQ g_189 q_1 (2 : Int32).toNatClampNeg (some q_154)).2.1 h 3 = .ref q_6 := kn_204
  have kn_224 : (sQ g_189 q_1 (2 : Int32).toNatClampNeg (some q_154)).2.1 h 4 = .int 0 := kn_205
  have kn_225 : (sQ g_189 q_1 (2 : Int32).toNatClampNeg (some q_154)).2.1 h 5 = .int 0 := kn_206
  have kn_226 : (sQ g_189 q_1 (2 : Int32).toNatClampNeg (some q_154)).2.1 h 6 = .int 0 := kn_207
  have kn_227 : (sQ g_189 q_1 (2 : Int32).toNatClampNeg (some q_154)).2.1 h 7 = .int 0 := kn_208
  have kn_228 : (sQ g_189 q_1 (2 : Int32).toNatClampNeg (some q_154)).2.2.2.2 q_1 0 = some q_16 := (sQ_i kn_209 (by decide))
  have kn_229 : (sQ g_189 q_1 (2 : Int32).toNatClampNeg (some q_154)).2.2.2.2 q_1 1 = some q_82 := (sQ_i kn_210 (by decide))
  have kn_230 : (sQ g_189 q_1 (2 : Int32).toNatClampNeg (some q_154)).2.2.2.2 q_1 2 = some q_154 := sQ_eq
  generalize (sQ g_189 q_1 (2 : Int32).toNatClampNeg (some q_154)) = g_231 at hT hI hM hE r_212 r_213 r_214 r_215 r_216 r_217 n_218 n_219 kn_220 kn_221 kn_222 kn_223 kn_224 kn_225 kn_226 kn_227 kn_228 kn_229 kn_230
  clear kn_201 kn_202 kn_203 kn_204 kn_205 kn_206 kn_207 kn_208 kn_209 kn_210 n_199 n_200 r_193 r_194 r_195 r_196 r_197 r_198
  refine lv_iinc (v := 3) (lv' := [(1, .int 3), (0, .ref h)]) hx hb dX5_init_73 hl (k := 0) rfl (by decide) (by decide) rfl (fun ls hl => ?_)
  refine lv_goto (tgt := 54) hx hb dX5_init_76 (by decide) ?_
  refine lv_iload_n hx hb dX5_init_54 rfl (lv_at hl 0 rfl) ?_
  refine lv_bipush (v := 6) hx hb dX5_init_55 (by decide) ?_
  refine lv_icmp_ge (tgt := 79) hx hb dX5_init_57 (by decide) (fun c_ => absurd c_ (by decide)) (fun c_ => ?_)
  refine lv_aload_n hx hb dX5_init_60 rfl (lv_at hl 1 rfl) ?_
  refine t_get (ci := 5) (v := .ref q_1) hB hT (ro_ci r_212 rfl) rfl 0 (by decide) k_199 kn_220 dX5_init_61 ?_
  refine lv_iload_n hx hb dX5_init_64 rfl (lv_at hl 0 rfl) ?_
  refine t_new (ci := 3) (fs := [.null, .null, .int 0, .int 0, .int 0, .int 0, .null, .null, .null, .null, .int 0, .int 0, .null, .null, .int 0]) hB hT rfl (by decide) k_108 k_110 k_60 (fnew_3) (Nat.le_of_ble_eq_true rfl) (Nat.le_of_ble_eq_true rfl) dX5_init_65 (fun q_232 H o_q_232 hT => ?_)
  have z_q_232 : g.1 q_232 = 0 := hE.z0 o_q_232
  replace hI : Inv (sN g_231 q_232 14 (vp_V [.null, .null, .int 0, .int 0, .int 0, .int 0, .null, .null, .null, .null, .int 0, .int 0, .null, .null, .int 0])) := hI.newo o_q_232 (fun _ => rfl) (fun _ => trivial) (fun _ _ => trivial)
  replace hM : Sm md_n_World g (sN g_231 q_232 14 (vp_V [.null, .null, .int 0, .int 0, .int 0, .int 0, .null, .null, .null, .null, .int 0, .int 0, .null, .null, .int 0])) := hM.tr hE (Sm.push o_q_232 sN_g)
  replace hE : Ex g (sN g_231 q_232 14 (vp_V [.null, .null, .int 0, .int 0, .int 0, .int 0, .null, .null, .null, .null, .int 0, .int 0, .null, .null, .int 0])) := hE.tr (Ex.push o_q_232 sN_g)
  have r_233 : (sN g_231 q_232 14 (vp_V [.null, .null, .int 0, .int 0, .int 0, .int 0, .null, .null, .null, .null, .int 0, .int 0, .null, .null, .int 0])).1 h = 16 := ((sN_g h (ne0 r_212 o_q_232 (by decide))).1.trans r_212)
  have r_234 : (sN g_231 q_232 14 (vp_V [.null, .null, .int 0, .int 0, .int 0, .int 0, .null, .null, .null, .null, .int 0, .int 0, .null, .null, .int 0])).1 q_1 = 44 := ((sN_g q_1 (ne0 r_213 o_q_232 (by decide))).1.trans r_213)
  have r_235 : (sN g_231 q_232 14 (vp_V [.null, .null, .int 0, .int 0, .int 0, .int 0, .null, .null, .null, .null, .int 0, .int 0, .null, .null, .int 0])).1 q_6 = 50 := ((sN_g q_6 (ne0 r_214 o_q_232 (by decide))).1.trans r_214)
  have r_236 : (sN g_231 q_232 14 (vp_V [.null, .null, .int 0, .int 0, .int 0, .int 0, .null, .null, .null, .null, .int 0, .int 0, .null, .null, .int 0])).1 q_16 = 10 := ((sN_g q_16 (ne0 r_215 o_q_232 (by decide))).1.trans r_215)
  have r_237 : (sN g_231 q_232 14 (vp_V [.null, .null, .int 0, .int 0, .int 0, .int 0, .null, .null, .null, .null, .int 0, .int 0, .null, .null, .int 0])).1 q_82 = 10 := ((sN_g q_82 (ne0 r_216 o_q_232 (by decide))).1.trans r_216)
  have r_238 : (sN g_231 q_232 14 (vp_V [.null, .null, .int 0, .int 0, .int 0, .int 0, .null, .null, .null, .null, .int 0, .int 0, .null, .null, .int 0])).1 q_154 = 10 := ((sN_g q_154 (ne0 r_217 o_q_232 (by decide))).1.trans r_217)
  have r_239 : (sN g_231 q_232 14 (vp_V [.null, .null, .int 0, .int 0, .int 0, .int 0, .null, .null, .null, .null, .int 0, .int 0, .null, .null, .int 0])).1 q_232 = 14 := sN_r
  have n_240 : (sN g_231 q_232 14 (vp_V [.null, .null, .int 0, .int 0, .int 0, .int 0, .null, .null, .null, .null, .int 0, .int 0, .null, .null, .int 0])).2.2.1 q_1 = 6 := ((sN_g q_1 (ne0 r_213 o_q_232 (by decide))).2.2.1.trans n_218)
  have n_241 : (sN g_231 q_232 14 (vp_V [.null, .null, .int 0, .int 0, .int 0, .int 0, .null, .null, .null, .null, .int 0, .int 0, .null, .null, .int 0])).2.2.1 q_6 = 512 := ((sN_g q_6 (ne0 r_214 o_q_232 (by decide))).2.2.1.trans n_219)
  have kn_242 : (sN g_231 q_232 14 (vp_V [.null, .null, .int 0, .int 0, .int 0, .int 0, .null, .null, .null, .null, .int 0, .int 0, .null, .null, .int 0])).2.1 h 0 = .ref q_1 := ((congrFun (sN_g h (ne0 r_212 o_q_232 (by decide))).2.1 0).trans kn_220)
  have kn_243 : (sN g_231 q_232 14 (vp_V [.null, .null, .int 0, .int 0, .int 0, .int 0, .null, .null, .null, .null, .int 0, .int 0, .null, .null, .int 0])).2.1 h 1 = .int 0 := ((congrFun (sN_g h (ne0 r_212 o_q_232 (by decide))).2.1 1).trans kn_221)
  have kn_244 : (sN g_231 q_232 14 (vp_V [.null, .null, .int 0, .int 0, .int 0, .int 0, .null, .null, .null, .null, .int 0, .int 0, .null, .null, .int 0])).2.1 h 2 = .int 0 := ((congrFun (sN_g h (ne0 r_212 o_q_232 (by decide))).2.1 2).trans kn_222)
  have kn_245 : (sN g_231 q_232 14 (vp_V [.null, .null, .int 0, .int 0, .int 0, .int 0, .null, .null, .null, .null, .int 0, .int 0, .null, .null, .int 0])).2.1 h 3 = .ref q_6 := ((congrFun (sN_g h (ne0 r_212 o_q_232 (by decide))).2.1 3).trans kn_223)
  have kn_246 : (sN g_231 q_232 14 (vp_V [.null, .null, .int 0, .int 0, .int 0, .int 0, .null, .null, .null, .null, .int 0, .int 0, .null, .null, .int 0])).2.1 h 4 = .int 0 := ((congrFun (sN_g h (ne0 r_212 o_q_232 (by decide))).2.1 4).trans kn_224)
  have kn_247 : (sN g_231 q_232 14 (vp_V [.null, .null, .int 0, .int 0, .int 0, .int 0, .null, .null, .null, .null, .int 0, .int 0, .null, .null, .int 0])).2.1 h 5 = .int 0 := ((congrFun (sN_g h (ne0 r_212 o_q_232 (by decide))).2.1 5).trans kn_225)
  have kn_248 : (sN g_231 q_232 14 (vp_V [.null, .null, .int 0, .int 0, .int 0, .int 0, .null, .null, .null, .null, .int 0, .int 0, .null, .null, .int 0])).2.1 h 6 = .int 0 := ((congrFun (sN_g h (ne0 r_212 o_q_232 (by decide))).2.1 6).trans kn_226)
  have kn_249 : (sN g_231 q_232 14 (vp_V [.null, .null, .int 0, .int 0, .int 0, .int 0, .null, .null, .null, .null, .int 0, .int 0, .null, .null, .int 0])).2.1 h 7 = .int 0 := ((congrFun (sN_g h (ne0 r_212 o_q_232 (by decide))).2.1 7).trans kn_227)
  have kn_250 : (sN g_231 q_232 14 (vp_V [.null, .null, .int 0, .int 0, .int 0, .int 0, .null, .null, .null, .null, .int 0, .int 0, .null, .null, .int 0])).2.1 q_232 0 = .null := sN_f
  have kn_251 : (sN g_231 q_232 14 (vp_V [.null, .null, .int 0, .int 0, .int 0, .int 0, .null, .null, .null, .null, .int 0, .int 0, .null, .null, .int 0])).2.1 q_232 1 = .null := sN_f
  have kn_252 : (sN g_231 q_232 14 (vp_V [.null, .null, .int 0, .int 0, .int 0, .int 0, .null, .null, .null, .null, .int 0, .int 0, .null, .null, .int 0])).2.1 q_232 2 = .int 0 := sN_f
  have kn_253 : (sN g_231 q_232 14 (vp_V [.null, .null, .int 0, .int 0, .int 0, .int 0, .null, .null, .null, .null, .int 0, .int 0, .null, .null, .int 0])).2.1 q_232 3 = .int 0 := sN_f
  have kn_254 : (sN g_231 q_232 14 (vp_V [.null, .null, .int 0, .int 0, .int 0, .int 0, .null, .null, .null, .null, .int 0, .int 0, .null, .null, .int 0])).2.1 q_232 4 = .int 0 := sN_f
  have kn_255 : (sN g_231 q_232 14 (vp_V [.null, .null, .int 0, .int 0, .int 0, .int 0, .null, .null, .null, .null, .int 0, .int 0, .null, .null, .int 0])).2.1 q_232 5 = .int 0 := sN_f
  have kn_256 : (sN g_231 q_232 14 (vp_V [.null, .null, .int 0, .int 0, .int 0, .int 0, .null, .null, .null, .null, .int 0, .int 0, .null, .null, .int 0])).2.1 q_232 6 = .null := sN_f
  have kn_257 : (sN g_231 q_232 14 (vp_V [.null, .null, .int 0, .int 0, .int 0, .int 0, .null, .null, .null, .null, .int 0, .int 0, .null, .null, .int 0])).2.1 q_232 7 = .null := sN_f
  have kn_258 : (sN g_231 q_232 14 (vp_V [.null, .null, .int 0, .int 0, .int 0, .int 0, .null, .null, .null, .null, .int 0, .int 0, .null, .null, .int 0])).2.1 q_232 8 = .null := sN_f
  have kn_259 : (sN g_231 q_232 14 (vp_V [.null, .null, .int 0, .int 0, .int 0, .int 0, .null, .null, .null, .null, .int 0, .int 0, .null, .null, .int 0])).2.1 q_232 9 = .null := sN_f
  have kn_260 : (sN g_231 q_232 14 (vp_V [.null, .null, .int 0, .int 0, .int 0, .int 0, .null, .null, .null, .null, .int 0, .int 0, .null, .null, .int 0])).2.1 q_232 10 = .int 0 := sN_f
  have kn_261 : (sN g_231 q_232 14 (vp_V [.null, .null, .int 0, .int 0, .int 0, .int 0, .null, .null, .null, .null, .int 0, .int 0, .null, .null, .int 0])).2.1 q_232 11 = .int 0 := sN_f
  have kn_262 : (sN g_231 q_232 14 (vp_V [.null, .null, .int 0, .int 0, .int 0, .int 0, .null, .null, .null, .null, .int 0, .int 0, .null, .null, .int 0])).2.1 q_232 12 = .null := sN_f
  have kn_263 : (sN g_231 q_232 14 (vp_V [.null, .null, .int 0, .int 0, .int 0, .int 0, .null, .null, .null, .null, .int 0, .int 0, .null, .null, .int 0])).2.1 q_232 13 = .null := sN_f
  have kn_264 : (sN g_231 q_232 14 (vp_V [.null, .null, .int 0, .int 0, .int 0, .int 0, .null, .null, .null, .null, .int 0, .int 0, .null, .null, .int 0])).2.1 q_232 14 = .int 0 := sN_f
  have kn_265 : (sN g_231 q_232 14 (vp_V [.null, .null, .int 0, .int 0, .int 0, .int 0, .null, .null, .null, .null, .int 0, .int 0, .null, .null, .int 0])).2.2.2.2 q_1 0 = some q_16 := ((congrFun (sN_g q_1 (ne0 r_213 o_q_232 (by decide))).2.2.2.2 _).trans kn_228)
  have kn_266 : (sN g_231 q_232 14 (vp_V [.null, .null, .int 0, .int 0, .int 0, .int 0, .null, .null, .null, .null, .int 0, .int 0, .null, .null, .int 0])).2.2.2.2 q_1 1 = some q_82 := ((congrFun (sN_g q_1 (ne0 r_213 o_q_232 (by decide))).2.2.2.2 _).trans kn_229)
  have kn_267 : (sN g_231 q_232 14 (vp_V [.null, .null, .int 0, .int 0, .int 0, .int 0, .null, .null, .null, .null, .int 0, .int 0, .null, .null, .int 0])).2.2.2.2 q_1 2 = some q_154 := ((congrFun (sN_g q_1 (ne0 r_213 o_q_232 (by decide))).2.2.2.2 _).trans kn_230)
  generalize (sN g_231 q_232 14 (vp_V [.null, .null, .int 0, .int 0, .int 0, .int 0, .null, .null, .null, .null, .int 0, .int 0, .null, .null, .int 0])) = g_268 at hT hI hM hE r_233 r_234 r_235 r_236 r_237 r_238 r_239 n_240 n_241 kn_242 kn_243 kn_244 kn_245 kn_246 kn_247 kn_248 kn_249 kn_250 kn_251 kn_252 kn_253 kn_254 kn_255 kn_256 kn_257 kn_258 kn_259 kn_260 kn_261 kn_262 kn_263 kn_264 kn_265 kn_266 kn_267
  clear kn_220 kn_221 kn_222 kn_223 kn_224 kn_225 kn_226 kn_227 kn_228 kn_229 kn_230 n_218 n_219 r_212 r_213 r_214 r_215 r_216 r_217
  refine W.widen (k := 39) (n := 914) (Nat.le_of_ble_eq_true rfl) (Nat.le_of_ble_eq_true rfl) ?_
  refine lv_dup hx hb dX5_init_68 rfl ?_
  refine t_callIN (n := 0) (As := []) (rest := [.ref q_232, .int 3, .ref q_1]) hB hT hl.1 (n_Service l D cI cZ cS cR N0 g_268 hI q_232 r_239) k_113 k_60 hB.2.2.2.2.2.2.2.1.2.1 k_112 rfl (by decide +kernel) ⟨(Nat.le_of_ble_eq_true rfl), (Nat.le_of_ble_eq_true rfl)⟩ rfl (Nat.le_of_ble_eq_true rfl) ⟨(Nat.le_of_ble_eq_true rfl), (Nat.le_of_ble_eq_true rfl)⟩ dX5_init_69 (fun v g_269 H locs hp hT => ?_)
  obtain ⟨rfl, hI, x_271, m_270, r_272⟩ := hp
  replace hM : Sm md_n_World g g_269 := hM.tr hE (m_270.mo (fun r k h => mdle_n_World_n_Service h))
  replace hE : Ex g g_269 := hE.trx z_q_232 x_271
  have r_273 : g_269.1 h = 16 := (Exx.r x_271 r_233 (by decide) (ro_ne r_233 r_239 (by decide)))
  have r_274 : g_269.1 q_1 = 44 := (Exx.r x_271 r_234 (by decide) (ro_ne r_234 r_239 (by decide)))
  have r_275 : g_269.1 q_6 = 50 := (Exx.r x_271 r_235 (by decide) (ro_ne r_235 r_239 (by decide)))
  have r_276 : g_269.1 q_16 = 10 := (Exx.r x_271 r_236 (by decide) (ro_ne r_236 r_239 (by decide)))
  have r_277 : g_269.1 q_82 = 10 := (Exx.r x_271 r_237 (by decide) (ro_ne r_237 r_239 (by decide)))
  have r_278 : g_269.1 q_154 = 10 := (Exx.r x_271 r_238 (by decide) (ro_ne r_238 r_239 (by decide)))
  have r_279 : g_269.1 q_232 = 10 := r_272
  have n_280 : g_269.2.2.1 q_1 = 6 := (Exx.n x_271 r_234 (by decide) (ro_ne r_234 r_239 (by decide)) n_240)
  have n_281 : g_269.2.2.1 q_6 = 512 := (Exx.n x_271 r_235 (by decide) (ro_ne r_235 r_239 (by decide)) n_241)
  have kn_282 : g_269.2.1 h 0 = .ref q_1 := (Sm.v m_270 r_233 (by decide) rfl kn_242)
  have kn_283 : g_269.2.1 h 1 = .int 0 := (Sm.v m_270 r_233 (by decide) rfl kn_243)
  have kn_284 : g_269.2.1 h 2 = .int 0 := (Sm.v m_270 r_233 (by decide) rfl kn_244)
  have kn_285 : g_269.2.1 h 3 = .ref q_6 := (Sm.v m_270 r_233 (by decide) rfl kn_245)
  have kn_286 : g_269.2.1 h 4 = .int 0 := (Sm.v m_270 r_233 (by decide) rfl kn_246)
  have kn_287 : g_269.2.1 h 5 = .int 0 := (Sm.v m_270 r_233 (by decide) rfl kn_247)
  have kn_288 : g_269.2.1 h 6 = .int 0 := (Sm.v m_270 r_233 (by decide) rfl kn_248)
  have kn_289 : g_269.2.1 h 7 = .int 0 := (Sm.v m_270 r_233 (by decide) rfl kn_249)
  have kn_290 : g_269.2.2.2.2 q_1 0 = some q_16 := ((congrFun (m_270.2 q_1 (by rw [r_234]; decide) (by rw [r_234]; rfl)).2 _).trans kn_265)
  have kn_291 : g_269.2.2.2.2 q_1 1 = some q_82 := ((congrFun (m_270.2 q_1 (by rw [r_234]; decide) (by rw [r_234]; rfl)).2 _).trans kn_266)
  have kn_292 : g_269.2.2.2.2 q_1 2 = some q_154 := ((congrFun (m_270.2 q_1 (by rw [r_234]; decide) (by rw [r_234]; rfl)).2 _).trans kn_267)
  refine W.eq (g2 := F0 m 72 ls [.ref q_232, .int 3, .ref q_1]) rfl ?_
  have i_293 : vp_in (3 : Int32) 6 := (by unfold vp_in; decide)
  refine t_astq hB hT r_274 n_280 (ro_ci r_279 rfl) i_293 dX5_init_72 (fun H locs hT => ?_)
  replace hI : Inv (sQ g_269 q_1 (3 : Int32).toNatClampNeg (some q_232)) := hI.sQ (by rw [r_274]; exact trivial)
  replace hM : Sm md_n_World g (sQ g_269 q_1 (3 : Int32).toNatClampNeg (some q_232)) := hM.tr hE (Sm_sQ (by rw [r_274]; rfl))
  replace hE : Ex g (sQ g_269 q_1 (3 : Int32).toNatClampNeg (some q_232)) := hE
  have r_294 : (sQ g_269 q_1 (3 : Int32).toNatClampNeg (some q_232)).1 h = 16 := r_273
  have r_295 : (sQ g_269 q_1 (3 : Int32).toNatClampNeg (some q_232)).1 q_1 = 44 := r_274
  have r_296 : (sQ g_269 q_1 (3 : Int32).toNatClampNeg (some q_232)).1 q_6 = 50 := r_275
  have r_297 : (sQ g_269 q_1 (3 : Int32).toNatClampNeg (some q_232)).1 q_16 = 10 := r_276
  have r_298 : (sQ g_269 q_1 (3 : Int32).toNatClampNeg (some q_232)).1 q_82 = 10 := r_277
  have r_299 : (sQ g_269 q_1 (3 : Int32).toNatClampNeg (some q_232)).1 q_154 = 10 := r_278
  have r_300 : (sQ g_269 q_1 (3 : Int32).toNatClampNeg (some q_232)).1 q_232 = 10 := r_279
  have n_301 : (sQ g_269 q_1 (3 : Int32).toNatClampNeg (some q_232)).2.2.1 q_1 = 6 := n_280
  have n_302 : (sQ g_269 q_1 (3 : Int32).toNatClampNeg (some q_232)).2.2.1 q_6 = 512 := n_281
  have kn_303 : (sQ g_269 q_1 (3 : Int32).toNatClampNeg (some q_232)).2.1 h 0 = .ref q_1 := kn_282
  have kn_304 : (sQ g_269 q_1 (3 : Int32).toNatClampNeg (some q_232)).2.1 h 1 = .int 0 := kn_283
  have kn_305 : (sQ g_269 q_1 (3 : Int32).toNatClampNeg (some q_232)).2.1 h 2 = .int 0 := kn_284
  have kn_306 : (sQ g_269 q_1 (3 : Int32).toNatClampNeg (some q_232)).2.1 h 3 = .ref q_6 := kn_285
  have kn_307 : (sQ g_269 q_1 (3 : Int32).toNatClampNeg (some q_232)).2.1 h 4 = .int 0 := kn_286
  have kn_308 : (sQ g_269 q_1 (3 : Int32).toNatClampNeg (some q_232)).2.1 h 5 = .int 0 := kn_287
  have kn_309 : (sQ g_269 q_1 (3 : Int32).toNatClampNeg (some q_232)).2.1 h 6 = .int 0 := kn_288
  have kn_310 : (sQ g_269 q_1 (3 : Int32).toNatClampNeg (some q_232)).2.1 h 7 = .int 0 := kn_289
  have kn_311 : (sQ g_269 q_1 (3 : Int32).toNatClampNeg (some q_232)).2.2.2.2 q_1 0 = some q_16 := (sQ_i kn_290 (by decide))
  have kn_312 : (sQ g_269 q_1 (3 : Int32).toNatClampNeg (some q_232)).2.2.2.2 q_1 1 = some q_82 := (sQ_i kn_291 (by decide))
  have kn_313 : (sQ g_269 q_1 (3 : Int32).toNatClampNeg (some q_232)).2.2.2.2 q_1 2 = some q_154 := (sQ_i kn_292 (by decide))
  have kn_314 : (sQ g_269 q_1 (3 : Int32).toNatClampNeg (some q_232)).2.2.2.2 q_1 3 = some q_232 := sQ_eq
  generalize (sQ g_269 q_1 (3 : Int32).toNatClampNeg (some q_232)) = g_315 at hT hI hM hE r_294 r_295 r_296 r_297 r_298 r_299 r_300 n_301 n_302 kn_303 kn_304 kn_305 kn_306 kn_307 kn_308 kn_309 kn_310 kn_311 kn_312 kn_313 kn_314
  clear kn_282 kn_283 kn_284 kn_285 kn_286 kn_287 kn_288 kn_289 kn_290 kn_291 kn_292 n_280 n_281 r_273 r_274 r_275 r_276 r_277 r_278 r_279
  refine lv_iinc (v := 4) (lv' := [(1, .int 4), (0, .ref h)]) hx hb dX5_init_73 hl (k := 0) rfl (by decide) (by decide) rfl (fun ls hl => ?_)
  refine lv_goto (tgt := 54) hx hb dX5_init_76 (by decide) ?_
  refine lv_iload_n hx hb dX5_init_54 rfl (lv_at hl 0 rfl) ?_
  refine lv_bipush (v := 6) hx hb dX5_init_55 (by decide) ?_
  refine lv_icmp_ge (tgt := 79) hx hb dX5_init_57 (by decide) (fun c_ => absurd c_ (by decide)) (fun c_ => ?_)
  refine lv_aload_n hx hb dX5_init_60 rfl (lv_at hl 1 rfl) ?_
  refine t_get (ci := 5) (v := .ref q_1) hB hT (ro_ci r_294 rfl) rfl 0 (by decide) k_199 kn_303 dX5_init_61 ?_
  refine lv_iload_n hx hb dX5_init_64 rfl (lv_at hl 0 rfl) ?_
  refine t_new (ci := 3) (fs := [.null, .null, .int 0, .int 0, .int 0, .int 0, .null, .null, .null, .null, .int 0, .int 0, .null, .null, .int 0]) hB hT rfl (by decide) k_108 k_110 k_60 (fnew_3) (Nat.le_of_ble_eq_true rfl) (Nat.le_of_ble_eq_true rfl) dX5_init_65 (fun q_316 H o_q_316 hT => ?_)
  have z_q_316 : g.1 q_316 = 0 := hE.z0 o_q_316
  replace hI : Inv (sN g_315 q_316 14 (vp_V [.null, .null, .int 0, .int 0, .int 0, .int 0, .null, .null, .null, .null, .int 0, .int 0, .null, .null, .int 0])) := hI.newo o_q_316 (fun _ => rfl) (fun _ => trivial) (fun _ _ => trivial)
  replace hM : Sm md_n_World g (sN g_315 q_316 14 (vp_V [.null, .null, .int 0, .int 0, .int 0, .int 0, .null, .null, .null, .null, .int 0, .int 0, .null, .null, .int 0])) := hM.tr hE (Sm.push o_q_316 sN_g)
  replace hE : Ex g (sN g_315 q_316 14 (vp_V [.null, .null, .int 0, .int 0, .int 0, .int 0, .null, .null, .null, .null, .int 0, .int 0, .null, .null, .int 0])) := hE.tr (Ex.push o_q_316 sN_g)
  have r_317 : (sN g_315 q_316 14 (vp_V [.null, .null, .int 0, .int 0, .int 0, .int 0, .null, .null, .null, .null, .int 0, .int 0, .null, .null, .int 0])).1 h = 16 := ((sN_g h (ne0 r_294 o_q_316 (by decide))).1.trans r_294)
  have r_318 : (sN g_315 q_316 14 (vp_V [.null, .null, .int 0, .int 0, .int 0, .int 0, .null, .null, .null, .null, .int 0, .int 0, .null, .null, .int 0])).1 q_1 = 44 := ((sN_g q_1 (ne0 r_295 o_q_316 (by decide))).1.trans r_295)
  have r_319 : (sN g_315 q_316 14 (vp_V [.null, .null, .int 0, .int 0, .int 0, .int 0, .null, .null, .null, .null, .int 0, .int 0, .null, .null, .int 0])).1 q_6 = 50 := ((sN_g q_6 (ne0 r_296 o_q_316 (by decide))).1.trans r_296)
  have r_320 : (sN g_315 q_316 14 (vp_V [.null, .null, .int 0, .int 0, .int 0, .int 0, .null, .null, .null, .null, .int 0, .int 0, .null, .null, .int 0])).1 q_16 = 10 := ((sN_g q_16 (ne0 r_297 o_q_316 (by decide))).1.trans r_297)
  have r_321 : (sN g_315 q_316 14 (vp_V [.null, .null, .int 0, .int 0, .int 0, .int 0, .null, .null, .null, .null, .int 0, .int 0, .null, .null, .int 0])).1 q_82 = 10 := ((sN_g q_82 (ne0 r_298 o_q_316 (by decide))).1.trans r_298)
  have r_322 : (sN g_315 q_316 14 (vp_V [.null, .null, .int 0, .int 0, .int 0, .int 0, .null, .null, .null, .null, .int 0, .int 0, .null, .null, .int 0])).1 q_154 = 10 := ((sN_g q_154 (ne0 r_299 o_q_316 (by decide))).1.trans r_299)
  have r_323 : (sN g_315 q_316 14 (vp_V [.null, .null, .int 0, .int 0, .int 0, .int 0, .null, .null, .null, .null, .int 0, .int 0, .null, .null, .int 0])).1 q_232 = 10 := ((sN_g q_232 (ne0 r_300 o_q_316 (by decide))).1.trans r_300)
  have r_324 : (sN g_315 q_316 14 (vp_V [.null, .null, .int 0, .int 0, .int 0, .int 0, .null, .null, .null, .null, .int 0, .int 0, .null, .null, .int 0])).1 q_316 = 14 := sN_r
  have n_325 : (sN g_315 q_316 14 (vp_V [.null, .null, .int 0, .int 0, .int 0, .int 0, .null, .null, .null, .null, .int 0, .int 0, .null, .null, .int 0])).2.2.1 q_1 = 6 := ((sN_g q_1 (ne0 r_295 o_q_316 (by decide))).2.2.1.trans n_301)
  have n_326 : (sN g_315 q_316 14 (vp_V [.null, .null, .int 0, .int 0, .int 0, .int 0, .null, .null, .null, .null, .int 0, .int 0, .null, .null, .int 0])).2.2.1 q_6 = 512 := ((sN_g q_6 (ne0 r_296 o_q_316 (by decide))).2.2.1.trans n_302)
  have kn_327 : (sN g_315 q_316 14 (vp_V [.null, .null, .int 0, .int 0, .int 0, .int 0, .null, .null, .null, .null, .int 0, .int 0, .null, .null, .int 0])).2.1 h 0 = .ref q_1 := ((congrFun (sN_g h (ne0 r_294 o_q_316 (by decide))).2.1 0).trans kn_303)
  have kn_328 : (sN g_315 q_316 14 (vp_V [.null, .null, .int 0, .int 0, .int 0, .int 0, .null, .null, .null, .null, .int 0, .int 0, .null, .null, .int 0])).2.1 h 1 = .int 0 := ((congrFun (sN_g h (ne0 r_294 o_q_316 (by decide))).2.1 1).trans kn_304)
  have kn_329 : (sN g_315 q_316 14 (vp_V [.null, .null, .int 0, .int 0, .int 0, .int 0, .null, .null, .null, .null, .int 0, .int 0, .null, .null, .int 0])).2.1 h 2 = .int 0 := ((congrFun (sN_g h (ne0 r_294 o_q_316 (by decide))).2.1 2).trans kn_305)
  have kn_330 : (sN g_315 q_316 14 (vp_V [.null, .null, .int 0, .int 0, .int 0, .int 0, .null, .null, .null, .null, .int 0, .int 0, .null, .null, .int 0])).2.1 h 3 = .ref q_6 := ((congrFun (sN_g h (ne0 r_294 o_q_316 (by decide))).2.1 3).trans kn_306)
  have kn_331 : (sN g_315 q_316 14 (vp_V [.null, .null, .int 0, .int 0, .int 0, .int 0, .null, .null, .null, .null, .int 0, .int 0, .null, .null, .int 0])).2.1 h 4 = .int 0 := ((congrFun (sN_g h (ne0 r_294 o_q_316 (by decide))).2.1 4).trans kn_307)
  have kn_332 : (sN g_315 q_316 14 (vp_V [.null, .null, .int 0, .int 0, .int 0, .int 0, .null, .null, .null, .null, .int 0, .int 0, .null, .null, .int 0])).2.1 h 5 = .int 0 := ((congrFun (sN_g h (ne0 r_294 o_q_316 (by decide))).2.1 5).trans kn_308)
  have kn_333 : (sN g_315 q_316 14 (vp_V [.null, .null, .int 0, .int 0, .int 0, .int 0, .null, .null, .null, .null, .int 0, .int 0, .null, .null, .int 0])).2.1 h 6 = .int 0 := ((congrFun (sN_g h (ne0 r_294 o_q_316 (by decide))).2.1 6).trans kn_309)
  have kn_334 : (sN g_315 q_316 14 (vp_V [.null, .null, .int 0, .int 0, .int 0, .int 0, .null, .null, .null, .null, .int 0, .int 0, .null, .null, .int 0])).2.1 h 7 = .int 0 := ((congrFun (sN_g h (ne0 r_294 o_q_316 (by decide))).2.1 7).trans kn_310)
  have kn_335 : (sN g_315 q_316 14 (vp_V [.null, .null, .int 0, .int 0, .int 0, .int 0, .null, .null, .null, .null, .int 0, .int 0, .null, .null, .int 0])).2.1 q_316 0 = .null := sN_f
  have kn_336 : (sN g_315 q_316 14 (vp_V [.null, .null, .int 0, .int 0, .int 0, .int 0, .null, .null, .null, .null, .int 0, .int 0, .null, .null, .int 0])).2.1 q_316 1 = .null := sN_f
  have kn_337 : (sN g_315 q_316 14 (vp_V [.null, .null, .int 0, .int 0, .int 0, .int 0, .null, .null, .null, .null, .int 0, .int 0, .null, .null, .int 0])).2.1 q_316 2 = .int 0 := sN_f
  have kn_338 : (sN g_315 q_316 14 (vp_V [.null, .null, .int 0, .int 0, .int 0, .int 0, .null, .null, .null, .null, .int 0, .int 0, .null, .null, .int 0])).2.1 q_316 3 = .int 0 := sN_f
  have kn_339 : (sN g_315 q_316 14 (vp_V [.null, .null, .int 0, .int 0, .int 0, .int 0, .null, .null, .null, .null, .int 0, .int 0, .null, .null, .int 0])).2.1 q_316 4 = .int 0 := sN_f
  have kn_340 : (sN g_315 q_316 14 (vp_V [.null, .null, .int 0, .int 0, .int 0, .int 0, .null, .null, .null, .null, .int 0, .int 0, .null, .null, .int 0])).2.1 q_316 5 = .int 0 := sN_f
  have kn_341 : (sN g_315 q_316 14 (vp_V [.null, .null, .int 0, .int 0, .int 0, .int 0, .null, .null, .null, .null, .int 0, .int 0, .null, .null, .int 0])).2.1 q_316 6 = .null := sN_f
  have kn_342 : (sN g_315 q_316 14 (vp_V [.null, .null, .int 0, .int 0, .int 0, .int 0, .null, .null, .null, .null, .int 0, .int 0, .null, .null, .int 0])).2.1 q_316 7 = .null := sN_f
  have kn_343 : (sN g_315 q_316 14 (vp_V [.null, .null, .int 0, .int 0, .int 0, .int 0, .null, .null, .null, .null, .int 0, .int 0, .null, .null, .int 0])).2.1 q_316 8 = .null := sN_f
  have kn_344 : (sN g_315 q_316 14 (vp_V [.null, .null, .int 0, .int 0, .int 0, .int 0, .null, .null, .null, .null, .int 0, .int 0, .null, .null, .int 0])).2.1 q_316 9 = .null := sN_f
  have kn_345 : (sN g_315 q_316 14 (vp_V [.null, .null, .int 0, .int 0, .int 0, .int 0, .null, .null, .null, .null, .int 0, .int 0, .null, .null, .int 0])).2.1 q_316 10 = .int 0 := sN_f
  have kn_346 : (sN g_315 q_316 14 (vp_V [.null, .null, .int 0, .int 0, .int 0, .int 0, .null, .null, .null, .null, .int 0, .int 0, .null, .null, .int 0])).2.1 q_316 11 = .int 0 := sN_f
  have kn_347 : (sN g_315 q_316 14 (vp_V [.null, .null, .int 0, .int 0, .int 0, .int 0, .null, .null, .null, .null, .int 0, .int 0, .null, .null, .int 0])).2.1 q_316 12 = .null := sN_f
  have kn_348 : (sN g_315 q_316 14 (vp_V [.null, .null, .int 0, .int 0, .int 0, .int 0, .null, .null, .null, .null, .int 0, .int 0, .null, .null, .int 0])).2.1 q_316 13 = .null := sN_f
  have kn_349 : (sN g_315 q_316 14 (vp_V [.null, .null, .int 0, .int 0, .int 0, .int 0, .null, .null, .null, .null, .int 0, .int 0, .null, .null, .int 0])).2.1 q_316 14 = .int 0 := sN_f
  have kn_350 : (sN g_315 q_316 14 (vp_V [.null, .null, .int 0, .int 0, .int 0, .int 0, .null, .null, .null, .null, .int 0, .int 0, .null, .null, .int 0])).2.2.2.2 q_1 0 = some q_16 := ((congrFun (sN_g q_1 (ne0 r_295 o_q_316 (by decide))).2.2.2.2 _).trans kn_311)
  have kn_351 : (sN g_315 q_316 14 (vp_V [.null, .null, .int 0, .int 0, .int 0, .int 0, .null, .null, .null, .null, .int 0, .int 0, .null, .null, .int 0])).2.2.2.2 q_1 1 = some q_82 := ((congrFun (sN_g q_1 (ne0 r_295 o_q_316 (by decide))).2.2.2.2 _).trans kn_312)
  have kn_352 : (sN g_315 q_316 14 (vp_V [.null, .null, .int 0, .int 0, .int 0, .int 0, .null, .null, .null, .null, .int 0, .int 0, .null, .null, .int 0])).2.2.2.2 q_1 2 = some q_154 := ((congrFun (sN_g q_1 (ne0 r_295 o_q_316 (by decide))).2.2.2.2 _).trans kn_313)
  have kn_353 : (sN g_315 q_316 14 (vp_V [.null, .null, .int 0, .int 0, .int 0, .int 0, .null, .null, .null, .null, .int 0, .int 0, .null, .null, .int 0])).2.2.2.2 q_1 3 = some q_232 := ((congrFun (sN_g q_1 (ne0 r_295 o_q_316 (by decide))).2.2.2.2 _).trans kn_314)
  generalize (sN g_315 q_316 14 (vp_V [.null, .null, .int 0, .int 0, .int 0, .int 0, .null, .null, .null, .null, .int 0, .int 0, .null, .null, .int 0])) = g_354 at hT hI hM hE r_317 r_318 r_319 r_320 r_321 r_322 r_323 r_324 n_325 n_326 kn_327 kn_328 kn_329 kn_330 kn_331 kn_332 kn_333 kn_334 kn_335 kn_336 kn_337 kn_338 kn_339 kn_340 kn_341 kn_342 kn_343 kn_344 kn_345 kn_346 kn_347 kn_348 kn_349 kn_350 kn_351 kn_352 kn_353
  clear kn_303 kn_304 kn_305 kn_306 kn_307 kn_308 kn_309 kn_310 kn_311 kn_312 kn_313 kn_314 n_301 n_302 r_294 r_295 r_296 r_297 r_298 r_299 r_300
  refine W.widen (k := 51) (n := 1041) (Nat.le_of_ble_eq_true rfl) (Nat.le_of_ble_eq_true rfl) ?_
  refine lv_dup hx hb dX5_init_68 rfl ?_
  refine t_callIN (n := 0) (As := []) (rest := [.ref q_316, .int 4, .ref q_1]) hB hT hl.1 (n_Service l D cI cZ cS cR N0 g_354 hI q_316 r_324) k_113 k_60 hB.2.2.2.2.2.2.2.1.2.1 k_112 rfl (by decide +kernel) ⟨(Nat.le_of_ble_eq_true rfl), (Nat.le_of_ble_eq_true rfl)⟩ rfl (Nat.le_of_ble_eq_true rfl) ⟨(Nat.le_of_ble_eq_true rfl), (Nat.le_of_ble_eq_true rfl)⟩ dX5_init_69 (fun v g_355 H locs hp hT => ?_)
  obtain ⟨rfl, hI, x_357, m_356, r_358⟩ := hp
  replace hM : Sm md_n_World g g_355 := hM.tr hE (m_356.mo (fun r k h => mdle_n_World_n_Service h))
  replace hE : Ex g g_355 := hE.trx z_q_316 x_357
  have r_359 : g_355.1 h = 16 := (Exx.r x_357 r_317 (by decide) (ro_ne r_317 r_324 (by decide)))
  have r_360 : g_355.1 q_1 = 44 := (Exx.r x_357 r_318 (by decide) (ro_ne r_318 r_324 (by decide)))
  have r_361 : g_355.1 q_6 = 50 := (Exx.r x_357 r_319 (by decide) (ro_ne r_319 r_324 (by decide)))
  have r_362 : g_355.1 q_16 = 10 := (Exx.r x_357 r_320 (by decide) (ro_ne r_320 r_324 (by decide)))
  have r_363 : g_355.1 q_82 = 10 := (Exx.r x_357 r_321 (by decide) (ro_ne r_321 r_324 (by decide)))
  have r_364 : g_355.1 q_154 = 10 := (Exx.r x_357 r_322 (by decide) (ro_ne r_322 r_324 (by decide)))
  have r_365 : g_355.1 q_232 = 10 := (Exx.r x_357 r_323 (by decide) (ro_ne r_323 r_324 (by decide)))
  have r_366 : g_355.1 q_316 = 10 := r_358
  have n_367 : g_355.2.2.1 q_1 = 6 := (Exx.n x_357 r_318 (by decide) (ro_ne r_318 r_324 (by decide)) n_325)
  have n_368 : g_355.2.2.1 q_6 = 512 := (Exx.n x_357 r_319 (by decide) (ro_ne r_319 r_324 (by decide)) n_326)
  have kn_369 : g_355.2.1 h 0 = .ref q_1 := (Sm.v m_356 r_317 (by decide) rfl kn_327)
  have kn_370 : g_355.2.1 h 1 = .int 0 := (Sm.v m_356 r_317 (by decide) rfl kn_328)
  have kn_371 : g_355.2.1 h 2 = .int 0 := (Sm.v m_356 r_317 (by decide) rfl kn_329)
  have kn_372 : g_355.2.1 h 3 = .ref q_6 := (Sm.v m_356 r_317 (by decide) rfl kn_330)
  have kn_373 : g_355.2.1 h 4 = .int 0 := (Sm.v m_356 r_317 (by decide) rfl kn_331)
  have kn_374 : g_355.2.1 h 5 = .int 0 := (Sm.v m_356 r_317 (by decide) rfl kn_332)
  have kn_375 : g_355.2.1 h 6 = .int 0 := (Sm.v m_356 r_317 (by decide) rfl kn_333)
  have kn_376 : g_355.2.1 h 7 = .int 0 := (Sm.v m_356 r_317 (by decide) rfl kn_334)
  have kn_377 : g_355.2.2.2.2 q_1 0 = some q_16 := ((congrFun (m_356.2 q_1 (by rw [r_318]; decide) (by rw [r_318]; rfl)).2 _).trans kn_350)
  have kn_378 : g_355.2.2.2.2 q_1 1 = some q_82 := ((congrFun (m_356.2 q_1 (by rw [r_318]; decide) (by rw [r_318]; rfl)).2 _).trans kn_351)
  have kn_379 : g_355.2.2.2.2 q_1 2 = some q_154 := ((congrFun (m_356.2 q_1 (by rw [r_318]; decide) (by rw [r_318]; rfl)).2 _).trans kn_352)
  have kn_380 : g_355.2.2.2.2 q_1 3 = some q_232 := ((congrFun (m_356.2 q_1 (by rw [r_318]; decide) (by rw [r_318]; rfl)).2 _).trans kn_353)
  refine W.eq (g2 := F0 m 72 ls [.ref q_316, .int 4, .ref q_1]) rfl ?_
  have i_381 : vp_in (4 : Int32) 6 := (by unfold vp_in; decide)
  refine t_astq hB hT r_360 n_367 (ro_ci r_366 rfl) i_381 dX5_init_72 (fun H locs hT => ?_)
  replace hI : Inv (sQ g_355 q_1 (4 : Int32).toNatClampNeg (some q_316)) := hI.sQ (by rw [r_360]; exact trivial)
  replace hM : Sm md_n_World g (sQ g_355 q_1 (4 : Int32).toNatClampNeg (some q_316)) := hM.tr hE (Sm_sQ (by rw [r_360]; rfl))
  replace hE : Ex g (sQ g_355 q_1 (4 : Int32).toNatClampNeg (some q_316)) := hE
  have r_382 : (sQ g_355 q_1 (4 : Int32).toNatClampNeg (some q_316)).1 h = 16 := r_359
  have r_383 : (sQ g_355 q_1 (4 : Int32).toNatClampNeg (some q_316)).1 q_1 = 44 := r_360
  have r_384 : (sQ g_355 q_1 (4 : Int32).toNatClampNeg (some q_316)).1 q_6 = 50 := r_361
  have r_385 : (sQ g_355 q_1 (4 : Int32).toNatClampNeg (some q_316)).1 q_16 = 10 := r_362
  have r_386 : (sQ g_355 q_1 (4 : Int32).toNatClampNeg (some q_316)).1 q_82 = 10 := r_363
  have r_387 : (sQ g_355 q_1 (4 : Int32).toNatClampNeg (some q_316)).1 q_154 = 10 := r_364
  have r_388 : (sQ g_355 q_1 (4 : Int32).toNatClampNeg (some q_316)).1 q_232 = 10 := r_365
  have r_389 : (sQ g_355 q_1 (4 : Int32).toNatClampNeg (some q_316)).1 q_316 = 10 := r_366
  have n_390 : (sQ g_355 q_1 (4 : Int32).toNatClampNeg (some q_316)).2.2.1 q_1 = 6 := n_367
  have n_391 : (sQ g_355 q_1 (4 : Int32).toNatClampNeg (some q_316)).2.2.1 q_6 = 512 := n_368
  have kn_392 : (sQ g_355 q_1 (4 : Int32).toNatClampNeg (some q_316)).2.1 h 0 = .ref q_1 := kn_369
  have kn_393 : (sQ g_355 q_1 (4 : Int32).toNatClampNeg (some q_316)).2.1 h 1 = .int 0 := kn_370
  have kn_394 : (sQ g_355 q_1 (4 : Int32).toNatClampNeg (some q_316)).2.1 h 2 = .int 0 := kn_371
  have kn_395 : (sQ g_355 q_1 (4 : Int32).toNatClampNeg (some q_316)).2.1 h 3 = .ref q_6 := kn_372
  have kn_396 : (sQ g_355 q_1 (4 : Int32).toNatClampNeg (some q_316)).2.1 h 4 = .int 0 := kn_373
  have kn_397 : (sQ g_355 q_1 (4 : Int32).toNatClampNeg (some q_316)).2.1 h 5 = .int 0 := kn_374
  have kn_398 : (sQ g_355 q_1 (4 : Int32).toNatClampNeg (some q_316)).2.1 h 6 = .int 0 := kn_375
  have kn_399 : (sQ g_355 q_1 (4 : Int32).toNatClampNeg (some q_316)).2.1 h 7 = .int 0 := kn_376
  have kn_400 : (sQ g_355 q_1 (4 : Int32).toNatClampNeg (some q_316)).2.2.2.2 q_1 0 = some q_16 := (sQ_i kn_377 (by decide))
  have kn_401 : (sQ g_355 q_1 (4 : Int32).toNatClampNeg (some q_316)).2.2.2.2 q_1 1 = some q_82 := (sQ_i kn_378 (by decide))
  have kn_402 : (sQ g_355 q_1 (4 : Int32).toNatClampNeg (some q_316)).2.2.2.2 q_1 2 = some q_154 := (sQ_i kn_379 (by decide))
  have kn_403 : (sQ g_355 q_1 (4 : Int32).toNatClampNeg (some q_316)).2.2.2.2 q_1 3 = some q_232 := (sQ_i kn_380 (by decide))
  have kn_404 : (sQ g_355 q_1 (4 : Int32).toNatClampNeg (some q_316)).2.2.2.2 q_1 4 = some q_316 := sQ_eq
  generalize (sQ g_355 q_1 (4 : Int32).toNatClampNeg (some q_316)) = g_405 at hT hI hM hE r_382 r_383 r_384 r_385 r_386 r_387 r_388 r_389 n_390 n_391 kn_392 kn_393 kn_394 kn_395 kn_396 kn_397 kn_398 kn_399 kn_400 kn_401 kn_402 kn_403 kn_404
  clear kn_369 kn_370 kn_371 kn_372 kn_373 kn_374 kn_375 kn_376 kn_377 kn_378 kn_379 kn_380 n_367 n_368 r_359 r_360 r_361 r_362 r_363 r_364 r_365 r_366
  refine lv_iinc (v := 5) (lv' := [(1, .int 5), (0, .ref h)]) hx hb dX5_init_73 hl (k := 0) rfl (by decide) (by decide) rfl (fun ls hl => ?_)
  refine lv_goto (tgt := 54) hx hb dX5_init_76 (by decide) ?_
  refine lv_iload_n hx hb dX5_init_54 rfl (lv_at hl 0 rfl) ?_
  refine lv_bipush (v := 6) hx hb dX5_init_55 (by decide) ?_
  refine lv_icmp_ge (tgt := 79) hx hb dX5_init_57 (by decide) (fun c_ => absurd c_ (by decide)) (fun c_ => ?_)
  refine lv_aload_n hx hb dX5_init_60 rfl (lv_at hl 1 rfl) ?_
  refine t_get (ci := 5) (v := .ref q_1) hB hT (ro_ci r_382 rfl) rfl 0 (by decide) k_199 kn_392 dX5_init_61 ?_
  refine lv_iload_n hx hb dX5_init_64 rfl (lv_at hl 0 rfl) ?_
  refine t_new (ci := 3) (fs := [.null, .null, .int 0, .int 0, .int 0, .int 0, .null, .null, .null, .null, .int 0, .int 0, .null, .null, .int 0]) hB hT rfl (by decide) k_108 k_110 k_60 (fnew_3) (Nat.le_of_ble_eq_true rfl) (Nat.le_of_ble_eq_true rfl) dX5_init_65 (fun q_406 H o_q_406 hT => ?_)
  have z_q_406 : g.1 q_406 = 0 := hE.z0 o_q_406
  replace hI : Inv (sN g_405 q_406 14 (vp_V [.null, .null, .int 0, .int 0, .int 0, .int 0, .null, .null, .null, .null, .int 0, .int 0, .null, .null, .int 0])) := hI.newo o_q_406 (fun _ => rfl) (fun _ => trivial) (fun _ _ => trivial)
  replace hM : Sm md_n_World g (sN g_405 q_406 14 (vp_V [.null, .null, .int 0, .int 0, .int 0, .int 0, .null, .null, .null, .null, .int 0, .int 0, .null, .null, .int 0])) := hM.tr hE (Sm.push o_q_406 sN_g)
  replace hE : Ex g (sN g_405 q_406 14 (vp_V [.null, .null, .int 0, .int 0, .int 0, .int 0, .null, .null, .null, .null, .int 0, .int 0, .null, .null, .int 0])) := hE.tr (Ex.push o_q_406 sN_g)
  have r_407 : (sN g_405 q_406 14 (vp_V [.null, .null, .int 0, .int 0, .int 0, .int 0, .null, .null, .null, .null, .int 0, .int 0, .null, .null, .int 0])).1 h = 16 := ((sN_g h (ne0 r_382 o_q_406 (by decide))).1.trans r_382)
  have r_408 : (sN g_405 q_406 14 (vp_V [.null, .null, .int 0, .int 0, .int 0, .int 0, .null, .null, .null, .null, .int 0, .int 0, .null, .null, .int 0])).1 q_1 = 44 := ((sN_g q_1 (ne0 r_383 o_q_406 (by decide))).1.trans r_383)
  have r_409 : (sN g_405 q_406 14 (vp_V [.null, .null, .int 0, .int 0, .int 0, .int 0, .null, .null, .null, .null, .int 0, .int 0, .null, .null, .int 0])).1 q_6 = 50 := ((sN_g q_6 (ne0 r_384 o_q_406 (by decide))).1.trans r_384)
  have r_410 : (sN g_405 q_406 14 (vp_V [.null, .null, .int 0, .int 0, .int 0, .int 0, .null, .null, .null, .null, .int 0, .int 0, .null, .null, .int 0])).1 q_16 = 10 := ((sN_g q_16 (ne0 r_385 o_q_406 (by decide))).1.trans r_385)
  have r_411 : (sN g_405 q_406 14 (vp_V [.null, .null, .int 0, .int 0, .int 0, .int 0, .null, .null, .null, .null, .int 0, .int 0, .null, .null, .int 0])).1 q_82 = 10 := ((sN_g q_82 (ne0 r_386 o_q_406 (by decide))).1.trans r_386)
  have r_412 : (sN g_405 q_406 14 (vp_V [.null, .null, .int 0, .int 0, .int 0, .int 0, .null, .null, .null, .null, .int 0, .int 0, .null, .null, .int 0])).1 q_154 = 10 := ((sN_g q_154 (ne0 r_387 o_q_406 (by decide))).1.trans r_387)
  have r_413 : (sN g_405 q_406 14 (vp_V [.null, .null, .int 0, .int 0, .int 0, .int 0, .null, .null, .null, .null, .int 0, .int 0, .null, .null, .int 0])).1 q_232 = 10 := ((sN_g q_232 (ne0 r_388 o_q_406 (by decide))).1.trans r_388)
  have r_414 : (sN g_405 q_406 14 (vp_V [.null, .null, .int 0, .int 0, .int 0, .int 0, .null, .null, .null, .null, .int 0, .int 0, .null, .null, .int 0])).1 q_316 = 10 := ((sN_g q_316 (ne0 r_389 o_q_406 (by decide))).1.trans r_389)
  have r_415 : (sN g_405 q_406 14 (vp_V [.null, .null, .int 0, .int 0, .int 0, .int 0, .null, .null, .null, .null, .int 0, .int 0, .null, .null, .int 0])).1 q_406 = 14 := sN_r
  have n_416 : (sN g_405 q_406 14 (vp_V [.null, .null, .int 0, .int 0, .int 0, .int 0, .null, .null, .null, .null, .int 0, .int 0, .null, .null, .int 0])).2.2.1 q_1 = 6 := ((sN_g q_1 (ne0 r_383 o_q_406 (by decide))).2.2.1.trans n_390)
  have n_417 : (sN g_405 q_406 14 (vp_V [.null, .null, .int 0, .int 0, .int 0, .int 0, .null, .null, .null, .null, .int 0, .int 0, .null, .null, .int 0])).2.2.1 q_6 = 512 := ((sN_g q_6 (ne0 r_384 o_q_406 (by decide))).2.2.1.trans n_391)
  have kn_418 : (sN g_405 q_406 14 (vp_V [.null, .null, .int 0, .int 0, .int 0, .int 0, .null, .null, .null, .null, .int 0, .int 0, .null, .null, .int 0])).2.1 h 0 = .ref q_1 := ((congrFun (sN_g h (ne0 r_382 o_q_406 (by decide))).2.1 0).trans kn_392)
  have kn_419 : (sN g_405 q_406 14 (vp_V [.null, .null, .int 0, .int 0, .int 0, .int 0, .null, .null, .null, .null, .int 0, .int 0, .null, .null, .int 0])).2.1 h 1 = .int 0 := ((congrFun (sN_g h (ne0 r_382 o_q_406 (by decide))).2.1 1).trans kn_393)
  have kn_420 : (sN g_405 q_406 14 (vp_V [.null, .null, .int 0, .int 0, .int 0, .int 0, .null, .null, .null, .null, .int 0, .int 0, .null, .null, .int 0])).2.1 h 2 = .int 0 := ((congrFun (sN_g h (ne0 r_382 o_q_406 (by decide))).2.1 2).trans kn_394)
  have kn_421 : (sN g_405 q_406 14 (vp_V [.null, .null, .int 0, .int 0, .int 0, .int 0, .null, .null, .null, .null, .int 0, .int 0, .null, .null, .int 0])).2.1 h 3 = .ref q_6 := ((congrFun (sN_g h (ne0 r_382 o_q_406 (by decide))).2.1 3).trans kn_395)
  have kn_422 : (sN g_405 q_406 14 (vp_V [.null, .null, .int 0, .int 0, .int 0, .int 0, .null, .null, .null, .null, .int 0, .int 0, .null, .null, .int 0])).2.1 h 4 = .int 0 := ((congrFun (sN_g h (ne0 r_382 o_q_406 (by decide))).2.1 4).trans kn_396)
  have kn_423 : (sN g_405 q_406 14 (vp_V [.null, .null, .int 0, .int 0, .int 0, .int 0, .null, .null, .null, .null, .int 0, .int 0, .null, .null, .int 0])).2.1 h 5 = .int 0 := ((congrFun (sN_g h (ne0 r_382 o_q_406 (by decide))).2.1 5).trans kn_397)
  have kn_424 : (sN g_405 q_406 14 (vp_V [.null, .null, .int 0, .int 0, .int 0, .int 0, .null, .null, .null, .null, .int 0, .int 0, .null, .null, .int 0])).2.1 h 6 = .int 0 := ((congrFun (sN_g h (ne0 r_382 o_q_406 (by decide))).2.1 6).trans kn_398)
  have kn_425 : (sN g_405 q_406 14 (vp_V [.null, .null, .int 0, .int 0, .int 0, .int 0, .null, .null, .null, .null, .int 0, .int 0, .null, .null, .int 0])).2.1 h 7 = .int 0 := ((congrFun (sN_g h (ne0 r_382 o_q_406 (by decide))).2.1 7).trans kn_399)
  have kn_426 : (sN g_405 q_406 14 (vp_V [.null, .null, .int 0, .int 0, .int 0, .int 0, .null, .null, .null, .null, .int 0, .int 0, .null, .null, .int 0])).2.1 q_406 0 = .null := sN_f
  have kn_427 : (sN g_405 q_406 14 (vp_V [.null, .null, .int 0, .int 0, .int 0, .int 0, .null, .null, .null, .null, .int 0, .int 0, .null, .null, .int 0])).2.1 q_406 1 = .null := sN_f
  have kn_428 : (sN g_405 q_406 14 (vp_V [.null, .null, .int 0, .int 0, .int 0, .int 0, .null, .null, .null, .null, .int 0, .int 0, .null, .null, .int 0])).2.1 q_406 2 = .int 0 := sN_f
  have kn_429 : (sN g_405 q_406 14 (vp_V [.null, .null, .int 0, .int 0, .int 0, .int 0, .null, .null, .null, .null, .int 0, .int 0, .null, .null, .int 0])).2.1 q_406 3 = .int 0 := sN_f
  have kn_430 : (sN g_405 q_406 14 (vp_V [.null, .null, .int 0, .int 0, .int 0, .int 0, .null, .null, .null, .null, .int 0, .int 0, .null, .null, .int 0])).2.1 q_406 4 = .int 0 := sN_f
  have kn_431 : (sN g_405 q_406 14 (vp_V [.null, .null, .int 0, .int 0, .int 0, .int 0, .null, .null, .null, .null, .int 0, .int 0, .null, .null, .int 0])).2.1 q_406 5 = .int 0 := sN_f
  have kn_432 : (sN g_405 q_406 14 (vp_V [.null, .null, .int 0, .int 0, .int 0, .int 0, .null, .null, .null, .null, .int 0, .int 0, .null, .null, .int 0])).2.1 q_406 6 = .null := sN_f
  have kn_433 : (sN g_405 q_406 14 (vp_V [.null, .null, .int 0, .int 0, .int 0, .int 0, .null, .null, .null, .null, .int 0, .int 0, .null, .null, .int 0])).2.1 q_406 7 = .null := sN_f
  have kn_434 : (sN g_405 q_406 14 (vp_V [.null, .null, .int 0, .int 0, .int 0, .int 0, .null, .null, .null, .null, .int 0, .int 0, .null, .null, .int 0])).2.1 q_406 8 = .null := sN_f
  have kn_435 : (sN g_405 q_406 14 (vp_V [.null, .null, .int 0, .int 0, .int 0, .int 0, .null, .null, .null, .null, .int 0, .int 0, .null, .null, .int 0])).2.1 q_406 9 = .null := sN_f
  have kn_436 : (sN g_405 q_406 14 (vp_V [.null, .null, .int 0, .int 0, .int 0, .int 0, .null, .null, .null, .null, .int 0, .int 0, .null, .null, .int 0])).2.1 q_406 10 = .int 0 := sN_f
  have kn_437 : (sN g_405 q_406 14 (vp_V [.null, .null, .int 0, .int 0, .int 0, .int 0, .null, .null, .null, .null, .int 0, .int 0, .null, .null, .int 0])).2.1 q_406 11 = .int 0 := sN_f
  have kn_438 : (sN g_405 q_406 14 (vp_V [.null, .null, .int 0, .int 0, .int 0, .int 0, .null, .null, .null, .null, .int 0, .int 0, .null, .null, .int 0])).2.1 q_406 12 = .null := sN_f
  have kn_439 : (sN g_405 q_406 14 (vp_V [.null, .null, .int 0, .int 0, .int 0, .int 0, .null, .null, .null, .null, .int 0, .int 0, .null, .null, .int 0])).2.1 q_406 13 = .null := sN_f
  have kn_440 : (sN g_405 q_406 14 (vp_V [.null, .null, .int 0, .int 0, .int 0, .int 0, .null, .null, .null, .null, .int 0, .int 0, .null, .null, .int 0])).2.1 q_406 14 = .int 0 := sN_f
  have kn_441 : (sN g_405 q_406 14 (vp_V [.null, .null, .int 0, .int 0, .int 0, .int 0, .null, .null, .null, .null, .int 0, .int 0, .null, .null, .int 0])).2.2.2.2 q_1 0 = some q_16 := ((congrFun (sN_g q_1 (ne0 r_383 o_q_406 (by decide))).2.2.2.2 _).trans kn_400)
  have kn_442 : (sN g_405 q_406 14 (vp_V [.null, .null, .int 0, .int 0, .int 0, .int 0, .null, .null, .null, .null, .int 0, .int 0, .null, .null, .int 0])).2.2.2.2 q_1 1 = some q_82 := ((congrFun (sN_g q_1 (ne0 r_383 o_q_406 (by decide))).2.2.2.2 _).trans kn_401)
  have kn_443 : (sN g_405 q_406 14 (vp_V [.null, .null, .int 0, .int 0, .int 0, .int 0, .null, .null, .null, .null, .int 0, .int 0, .null, .null, .int 0])).2.2.2.2 q_1 2 = some q_154 := ((congrFun (sN_g q_1 (ne0 r_383 o_q_406 (by decide))).2.2.2.2 _).trans kn_402)
  have kn_444 : (sN g_405 q_406 14 (vp_V [.null, .null, .int 0, .int 0, .int 0, .int 0, .null, .null, .null, .null, .int 0, .int 0, .null, .null, .int 0])).2.2.2.2 q_1 3 = some q_232 := ((congrFun (sN_g q_1 (ne0 r_383 o_q_406 (by decide))).2.2.2.2 _).trans kn_403)
  have kn_445 : (sN g_405 q_406 14 (vp_V [.null, .null, .int 0, .int 0, .int 0, .int 0, .null, .null, .null, .null, .int 0, .int 0, .null, .null, .int 0])).2.2.2.2 q_1 4 = some q_316 := ((congrFun (sN_g q_1 (ne0 r_383 o_q_406 (by decide))).2.2.2.2 _).trans kn_404)
  generalize (sN g_405 q_406 14 (vp_V [.null, .null, .int 0, .int 0, .int 0, .int 0, .null, .null, .null, .null, .int 0, .int 0, .null, .null, .int 0])) = g_446 at hT hI hM hE r_407 r_408 r_409 r_410 r_411 r_412 r_413 r_414 r_415 n_416 n_417 kn_418 kn_419 kn_420 kn_421 kn_422 kn_423 kn_424 kn_425 kn_426 kn_427 kn_428 kn_429 kn_430 kn_431 kn_432 kn_433 kn_434 kn_435 kn_436 kn_437 kn_438 kn_439 kn_440 kn_441 kn_442 kn_443 kn_444 kn_445
  clear kn_392 kn_393 kn_394 kn_395 kn_396 kn_397 kn_398 kn_399 kn_400 kn_401 kn_402 kn_403 kn_404 n_390 n_391 r_382 r_383 r_384 r_385 r_386 r_387 r_388 r_389
  refine W.widen (k := 63) (n := 1168) (Nat.le_of_ble_eq_true rfl) (Nat.le_of_ble_eq_true rfl) ?_
  refine lv_dup hx hb dX5_init_68 rfl ?_
  refine t_callIN (n := 0) (As := []) (rest := [.ref q_406, .int 5, .ref q_1]) hB hT hl.1 (n_Service l D cI cZ cS cR N0 g_446 hI q_406 r_415) k_113 k_60 hB.2.2.2.2.2.2.2.1.2.1 k_112 rfl (by decide +kernel) ⟨(Nat.le_of_ble_eq_true rfl), (Nat.le_of_ble_eq_true rfl)⟩ rfl (Nat.le_of_ble_eq_true rfl) ⟨(Nat.le_of_ble_eq_true rfl), (Nat.le_of_ble_eq_true rfl)⟩ dX5_init_69 (fun v g_447 H locs hp hT => ?_)
  obtain ⟨rfl, hI, x_449, m_448, r_450⟩ := hp
  replace hM : Sm md_n_World g g_447 := hM.tr hE (m_448.mo (fun r k h => mdle_n_World_n_Service h))
  replace hE : Ex g g_447 := hE.trx z_q_406 x_449
  have r_451 : g_447.1 h = 16 := (Exx.r x_449 r_407 (by decide) (ro_ne r_407 r_415 (by decide)))
  have r_452 : g_447.1 q_1 = 44 := (Exx.r x_449 r_408 (by decide) (ro_ne r_408 r_415 (by decide)))
  have r_453 : g_447.1 q_6 = 50 := (Exx.r x_449 r_409 (by decide) (ro_ne r_409 r_415 (by decide)))
  have r_454 : g_447.1 q_16 = 10 := (Exx.r x_449 r_410 (by decide) (ro_ne r_410 r_415 (by decide)))
  have r_455 : g_447.1 q_82 = 10 := (Exx.r x_449 r_411 (by decide) (ro_ne r_411 r_415 (by decide)))
  have r_456 : g_447.1 q_154 = 10 := (Exx.r x_449 r_412 (by decide) (ro_ne r_412 r_415 (by decide)))
  have r_457 : g_447.1 q_232 = 10 := (Exx.r x_449 r_413 (by decide) (ro_ne r_413 r_415 (by decide)))
  have r_458 : g_447.1 q_316 = 10 := (Exx.r x_449 r_414 (by decide) (ro_ne r_414 r_415 (by decide)))
  have r_459 : g_447.1 q_406 = 10 := r_450
  have n_460 : g_447.2.2.1 q_1 = 6 := (Exx.n x_449 r_408 (by decide) (ro_ne r_408 r_415 (by decide)) n_416)
  have n_461 : g_447.2.2.1 q_6 = 512 := (Exx.n x_449 r_409 (by decide) (ro_ne r_409 r_415 (by decide)) n_417)
  have kn_462 : g_447.2.1 h 0 = .ref q_1 := (Sm.v m_448 r_407 (by decide) rfl kn_418)
  have kn_463 : g_447.2.1 h 1 = .int 0 := (Sm.v m_448 r_407 (by decide) rfl kn_419)
  have kn_464 : g_447.2.1 h 2 = .int 0 := (Sm.v m_448 r_407 (by decide) rfl kn_420)
  have kn_465 : g_447.2.1 h 3 = .ref q_6 := (Sm.v m_448 r_407 (by decide) rfl kn_421)
  have kn_466 : g_447.2.1 h 4 = .int 0 := (Sm.v m_448 r_407 (by decide) rfl kn_422)
  have kn_467 : g_447.2.1 h 5 = .int 0 := (Sm.v m_448 r_407 (by decide) rfl kn_423)
  have kn_468 : g_447.2.1 h 6 = .int 0 := (Sm.v m_448 r_407 (by decide) rfl kn_424)
  have kn_469 : g_447.2.1 h 7 = .int 0 := (Sm.v m_448 r_407 (by decide) rfl kn_425)
  have kn_470 : g_447.2.2.2.2 q_1 0 = some q_16 := ((congrFun (m_448.2 q_1 (by rw [r_408]; decide) (by rw [r_408]; rfl)).2 _).trans kn_441)
  have kn_471 : g_447.2.2.2.2 q_1 1 = some q_82 := ((congrFun (m_448.2 q_1 (by rw [r_408]; decide) (by rw [r_408]; rfl)).2 _).trans kn_442)
  have kn_472 : g_447.2.2.2.2 q_1 2 = some q_154 := ((congrFun (m_448.2 q_1 (by rw [r_408]; decide) (by rw [r_408]; rfl)).2 _).trans kn_443)
  have kn_473 : g_447.2.2.2.2 q_1 3 = some q_232 := ((congrFun (m_448.2 q_1 (by rw [r_408]; decide) (by rw [r_408]; rfl)).2 _).trans kn_444)
  have kn_474 : g_447.2.2.2.2 q_1 4 = some q_316 := ((congrFun (m_448.2 q_1 (by rw [r_408]; decide) (by rw [r_408]; rfl)).2 _).trans kn_445)
  refine W.eq (g2 := F0 m 72 ls [.ref q_406, .int 5, .ref q_1]) rfl ?_
  have i_475 : vp_in (5 : Int32) 6 := (by unfold vp_in; decide)
  refine t_astq hB hT r_452 n_460 (ro_ci r_459 rfl) i_475 dX5_init_72 (fun H locs hT => ?_)
  replace hI : Inv (sQ g_447 q_1 (5 : Int32).toNatClampNeg (some q_406)) := hI.sQ (by rw [r_452]; exact trivial)
  replace hM : Sm md_n_World g (sQ g_447 q_1 (5 : Int32).toNatClampNeg (some q_406)) := hM.tr hE (Sm_sQ (by rw [r_452]; rfl))
  replace hE : Ex g (sQ g_447 q_1 (5 : Int32).toNatClampNeg (some q_406)) := hE
  have r_476 : (sQ g_447 q_1 (5 : Int32).toNatClampNeg (some q_406)).1 h = 16 := r_451
  have r_477 : (sQ g_447 q_1 (5 : Int32).toNatClampNeg (some q_406)).1 q_1 = 44 := r_452
  have r_478 : (sQ g_447 q_1 (5 : Int32).toNatClampNeg (some q_406)).1 q_6 = 50 := r_453
  have r_479 : (sQ g_447 q_1 (5 : Int32).toNatClampNeg (some q_406)).1 q_16 = 10 := r_454
  have r_480 : (sQ g_447 q_1 (5 : Int32).toNatClampNeg (some q_406)).1 q_82 = 10 := r_455
  have r_481 : (sQ g_447 q_1 (5 : Int32).toNatClampNeg (some q_406)).1 q_154 = 10 := r_456
  have r_482 : (sQ g_447 q_1 (5 : Int32).toNatClampNeg (some q_406)).1 q_232 = 10 := r_457
  have r_483 : (sQ g_447 q_1 (5 : Int32).toNatClampNeg (some q_406)).1 q_316 = 10 := r_458
  have r_484 : (sQ g_447 q_1 (5 : Int32).toNatClampNeg (some q_406)).1 q_406 = 10 := r_459
  have n_485 : (sQ g_447 q_1 (5 : Int32).toNatClampNeg (some q_406)).2.2.1 q_1 = 6 := n_460
  have n_486 : (sQ g_447 q_1 (5 : Int32).toNatClampNeg (some q_406)).2.2.1 q_6 = 512 := n_461
  have kn_487 : (sQ g_447 q_1 (5 : Int32).toNatClampNeg (some q_406)).2.1 h 0 = .ref q_1 := kn_462
  have kn_488 : (sQ g_447 q_1 (5 : Int32).toNatClampNeg (some q_406)).2.1 h 1 = .int 0 := kn_463
  have kn_489 : (sQ g_447 q_1 (5 : Int32).toNatClampNeg (some q_406)).2.1 h 2 = .int 0 := kn_464
  have kn_490 : (sQ g_447 q_1 (5 : Int32).toNatClampNeg (some q_406)).2.1 h 3 = .ref q_6 := kn_465
  have kn_491 : (sQ g_447 q_1 (5 : Int32).toNatClampNeg (some q_406)).2.1 h 4 = .int 0 := kn_466
  have kn_492 : (sQ g_447 q_1 (5 : Int32).toNatClampNeg (some q_406)).2.1 h 5 = .int 0 := kn_467
  have kn_493 : (sQ g_447 q_1 (5 : Int32).toNatClampNeg (some q_406)).2.1 h 6 = .int 0 := kn_468
  have kn_494 : (sQ g_447 q_1 (5 : Int32).toNatClampNeg (some q_406)).2.1 h 7 = .int 0 := kn_469
  have kn_495 : (sQ g_447 q_1 (5 : Int32).toNatClampNeg (some q_406)).2.2.2.2 q_1 0 = some q_16 := (sQ_i kn_470 (by decide))
  have kn_496 : (sQ g_447 q_1 (5 : Int32).toNatClampNeg (some q_406)).2.2.2.2 q_1 1 = some q_82 := (sQ_i kn_471 (by decide))
  have kn_497 : (sQ g_447 q_1 (5 : Int32).toNatClampNeg (some q_406)).2.2.2.2 q_1 2 = some q_154 := (sQ_i kn_472 (by decide))
  have kn_498 : (sQ g_447 q_1 (5 : Int32).toNatClampNeg (some q_406)).2.2.2.2 q_1 3 = some q_232 := (sQ_i kn_473 (by decide))
  have kn_499 : (sQ g_447 q_1 (5 : Int32).toNatClampNeg (some q_406)).2.2.2.2 q_1 4 = some q_316 := (sQ_i kn_474 (by decide))
  have kn_500 : (sQ g_447 q_1 (5 : Int32).toNatClampNeg (some q_406)).2.2.2.2 q_1 5 = some q_406 := sQ_eq
  generalize (sQ g_447 q_1 (5 : Int32).toNatClampNeg (some q_406)) = g_501 at hT hI hM hE r_476 r_477 r_478 r_479 r_480 r_481 r_482 r_483 r_484 n_485 n_486 kn_487 kn_488 kn_489 kn_490 kn_491 kn_492 kn_493 kn_494 kn_495 kn_496 kn_497 kn_498 kn_499 kn_500
  clear kn_462 kn_463 kn_464 kn_465 kn_466 kn_467 kn_468 kn_469 kn_470 kn_471 kn_472 kn_473 kn_474 n_460 n_461 r_451 r_452 r_453 r_454 r_455 r_456 r_457 r_458 r_459
  refine lv_iinc (v := 6) (lv' := [(1, .int 6), (0, .ref h)]) hx hb dX5_init_73 hl (k := 0) rfl (by decide) (by decide) rfl (fun ls hl => ?_)
  refine lv_goto (tgt := 54) hx hb dX5_init_76 (by decide) ?_
  refine lv_iload_n hx hb dX5_init_54 rfl (lv_at hl 0 rfl) ?_
  refine lv_bipush (v := 6) hx hb dX5_init_55 (by decide) ?_
  refine lv_icmp_ge (tgt := 79) hx hb dX5_init_57 (by decide) (fun c_ => ?_) (fun c_ => absurd (by decide) c_)
  have hT : Tv D cI cZ cS cR N0 s.heap H locs (sR g_501 q_1 42) := ⟨hT.1.promo (by rw [r_477]; decide) (by rw [r_477]; rfl) (Or.inr ⟨r_477, by decide⟩), hT.2⟩
  replace hI : Inv (sR g_501 q_1 42) := hI.promo (by rw [r_477]; decide) (fun _ => (show fsm _ _ ft from trivial)) (fun _ _ => trivial) (fun i hi => match i, (show i < 6 by rw [← n_485]; exact hi) with | 0, _ => (by rw [kn_495]; exact ⟨_, rfl, sR_r r_479 (ro_ne r_479 r_477 (by decide))⟩) | 1, _ => (by rw [kn_496]; exact ⟨_, rfl, sR_r r_480 (ro_ne r_480 r_477 (by decide))⟩) | 2, _ => (by rw [kn_497]; exact ⟨_, rfl, sR_r r_481 (ro_ne r_481 r_477 (by decide))⟩) | 3, _ => (by rw [kn_498]; exact ⟨_, rfl, sR_r r_482 (ro_ne r_482 r_477 (by decide))⟩) | 4, _ => (by rw [kn_499]; exact ⟨_, rfl, sR_r r_483 (ro_ne r_483 r_477 (by decide))⟩) | 5, _ => (by rw [kn_500]; exact ⟨_, rfl, sR_r r_484 (ro_ne r_484 r_477 (by decide))⟩) | k + 6, h => absurd h (by omega))
  replace hM : Sm md_n_World g (sR g_501 q_1 42) := hM
  replace hE : Ex g (sR g_501 q_1 42) := hE.pr0 z_q_1
  have r_502 : (sR g_501 q_1 42).1 h = 16 := (sR_r r_476 (ro_ne r_476 r_477 (by decide)))
  have r_503 : (sR g_501 q_1 42).1 q_1 = 42 := (if_pos rfl)
  have r_504 : (sR g_501 q_1 42).1 q_6 = 50 := (sR_r r_478 (ro_ne r_478 r_477 (by decide)))
  have r_505 : (sR g_501 q_1 42).1 q_16 = 10 := (sR_r r_479 (ro_ne r_479 r_477 (by decide)))
  have r_506 : (sR g_501 q_1 42).1 q_82 = 10 := (sR_r r_480 (ro_ne r_480 r_477 (by decide)))
  have r_507 : (sR g_501 q_1 42).1 q_154 = 10 := (sR_r r_481 (ro_ne r_481 r_477 (by decide)))
  have r_508 : (sR g_501 q_1 42).1 q_232 = 10 := (sR_r r_482 (ro_ne r_482 r_477 (by decide)))
  have r_509 : (sR g_501 q_1 42).1 q_316 = 10 := (sR_r r_483 (ro_ne r_483 r_477 (by decide)))
  have r_510 : (sR g_501 q_1 42).1 q_406 = 10 := (sR_r r_484 (ro_ne r_484 r_477 (by decide)))
  have n_511 : (sR g_501 q_1 42).2.2.1 q_1 = 6 := n_485
  have n_512 : (sR g_501 q_1 42).2.2.1 q_6 = 512 := n_486
  have kn_513 : (sR g_501 q_1 42).2.1 h 0 = .ref q_1 := kn_487
  have kn_514 : (sR g_501 q_1 42).2.1 h 1 = .int 0 := kn_488
  have kn_515 : (sR g_501 q_1 42).2.1 h 2 = .int 0 := kn_489
  have kn_516 : (sR g_501 q_1 42).2.1 h 3 = .ref q_6 := kn_490
  have kn_517 : (sR g_501 q_1 42).2.1 h 4 = .int 0 := kn_491
  have kn_518 : (sR g_501 q_1 42).2.1 h 5 = .int 0 := kn_492
  have kn_519 : (sR g_501 q_1 42).2.1 h 6 = .int 0 := kn_493
  have kn_520 : (sR g_501 q_1 42).2.1 h 7 = .int 0 := kn_494
  generalize (sR g_501 q_1 42) = g_521 at hT hI hM hE r_502 r_503 r_504 r_505 r_506 r_507 r_508 r_509 r_510 n_511 n_512 kn_513 kn_514 kn_515 kn_516 kn_517 kn_518 kn_519 kn_520
  clear kn_487 kn_488 kn_489 kn_490 kn_491 kn_492 kn_493 kn_494 n_485 n_486 r_476 r_477 r_478 r_479 r_480 r_481 r_482 r_483 r_484
  have hF : ∀ k, Fok (sR g_521 h 19) 19 k (g_521.2.1 h k) := fun k => match k with
    | 0 => (by rw [kn_513]; exact q_19_0 ⟨_, rfl, sR_r r_503 (ro_ne r_503 r_502 (by decide)), n_511⟩)
    | 1 => (by rw [kn_514]; exact q_19_1 ⟨_, rfl, by decide, by decide⟩)
    | 2 => (by rw [kn_515]; exact q_19_2 ⟨_, rfl⟩)
    | 3 => (by rw [kn_516]; exact q_19_3 ⟨_, rfl, sR_r r_504 (ro_ne r_504 r_502 (by decide)), n_512⟩)
    | 4 => (by rw [kn_517]; exact q_19_4 ⟨_, rfl⟩)
    | 5 => (by rw [kn_518]; exact q_19_5 ⟨_, rfl⟩)
    | 6 => (by rw [kn_519]; exact q_19_6 ⟨_, rfl⟩)
    | 7 => (by rw [kn_520]; exact q_19_7 ⟨_, rfl, by decide, by decide⟩)
    | k + 8 => (show fsm _ _ ft from trivial)
  have hT : Tv D cI cZ cS cR N0 s.heap H locs (sR g_521 h 19) := ⟨hT.1.promo (by rw [r_502]; decide) (by rw [r_502]; rfl) (Or.inl (by decide)), hT.2⟩
  replace hI : Inv (sR g_521 h 19) := hI.promo (by rw [r_502]; decide) hF (fun _ _ => trivial) (fun _ _ => trivial)
  replace hM : Sm md_n_World g (sR g_521 h 19) := hM
  have hX : Exx h g (sR g_521 h 19) := Exx.promo hE
  exact t_vret hB hr hT (Nat.le_of_ble_eq_true rfl) (Nat.le_of_ble_eq_true rfl) dX5_init_79 ⟨rfl, hI, hX, hM, if_pos rfl, kn_514⟩
abbrev md_s_CallList : Nat → Nat → Bool := mdf [(11, 0), (11, 1), (11, 2), (11, 3)]
set_option maxHeartbeats 4000000 in
set_option maxRecDepth 100000 in
theorem s_CallList (l : Launch) (D : va_G) (cI cZ cS cR : ClassId) (N0 : NT) (g : GS) (hI : Inv g) (h : Nat) (r_h : g.1 h = 11) : Ty l D cI cZ cS cR N0 yX0_init cX0_init 3 none 0 3 18 [.ref h, .int 6] g (fun v g' => v = none ∧ Inv g' ∧ Exx h g g' ∧ Sm md_s_CallList g g' ∧ g'.1 h = 1 ∧ (g'.2.1 h 3 = .int 0)) := by
  refine t_enter (by decide) (Nat.le_of_ble_eq_true rfl) ?_
  intro p e s m args below meth c ls H locs hB hr hin hl hT
  have hx := hB.1
  have hb := hB.2.1
  have hl : lv_has ls 3 [(0, .ref h), (1, .int 6)] := hl
  replace hE : Ex g g := Ex.rf
  replace hM : Sm md_s_CallList g g := Sm.rf
  refine lv_aload_n hx hb dX0_init_0 rfl (lv_at hl 0 rfl) ?_
  refine t_oinit hB k_239 k_78 k_79 hl.1 dX0_init_1 (Nat.le_of_ble_eq_true rfl) (Nat.le_of_ble_eq_true rfl) ?_
  refine lv_aload_n hx hb dX0_init_4 rfl (lv_at hl 0 rfl) ?_
  refine lv_iconst (v := 0) hx hb dX0_init_5 (by decide) ?_
  refine t_put0 (ci := 0) (v := .int 0) hB hT (ro_ci r_h rfl) (ro_n0 r_h (by decide)) rfl 3 (by decide) k_253 (Or.inl rfl) rfl rfl dX0_init_6 (fun H locs hT => ?_)
  replace hI : Inv (sF g h 3 (.int 0)) := hI.sF (fk r_h (show fsm _ _ ft from trivial))
  replace hM : Sm md_s_CallList g (sF g h 3 (.int 0)) := hM.tr hE (Sm_sF (by rw [r_h]; rfl))
  replace hE : Ex g (sF g h 3 (.int 0)) := hE
  refine lv_iload_n hx hb dX0_init_9 rfl (lv_at hl 1 rfl) ?_
  refine lv_iconst (v := 1) hx hb dX0_init_10 (by decide) ?_
  refine t_max (v := 6) hB k_240 k_241 k_63 k_242 hl.1 (Nat.le_of_ble_eq_true rfl) (Nat.le_of_ble_eq_true rfl) (Nat.le_of_ble_eq_true rfl) (Nat.le_of_ble_eq_true rfl) (by decide) dX0_init_11 ?_
  refine lv_istore_n (lv' := [(2, .int 6), (0, .ref h), (1, .int 6)]) hx hb dX0_init_14 rfl hl (by decide) rfl (fun ls hl => ?_)
  refine lv_aload_n hx hb dX0_init_15 rfl (lv_at hl 1 rfl) ?_
  refine lv_iload_n hx hb dX0_init_16 rfl (lv_at hl 0 rfl) ?_
  refine t_newi (N' := 6) hB hT 61 (by decide) k_101 (by decide) (by decide) (by decide) (Nat.le_of_ble_eq_true rfl) (Nat.le_of_ble_eq_true rfl) dX0_init_17 (fun q_1 H o_q_1 hT => ?_)
  have z_q_1 : g.1 q_1 = 0 := hE.z0 o_q_1
  replace hI : Inv (sA (sF g h 3 (.int 0)) q_1 61 6) := hI.newi o_q_1 (by decide) (fun _ => rfl) ⟨by decide, by decide⟩ (fun _ => trivial)
  replace hM : Sm md_s_CallList g (sA (sF g h 3 (.int 0)) q_1 61 6) := hM.tr hE (Sm.push o_q_1 sA_g)
  replace hE : Ex g (sA (sF g h 3 (.int 0)) q_1 61 6) := hE.tr (Ex.push o_q_1 sA_g)
  have r_2 : (sA (sF g h 3 (.int 0)) q_1 61 6).1 h = 11 := ((sA_g h (ne0 r_h o_q_1 (by decide))).1.trans r_h)
  have r_3 : (sA (sF g h 3 (.int 0)) q_1 61 6).1 q_1 = 61 := sA_r
  have n_4 : (sA (sF g h 3 (.int 0)) q_1 61 6).2.2.1 q_1 = 6 := sA_n
  have kn_5 : (sA (sF g h 3 (.int 0)) q_1 61 6).2.1 h 3 = .int 0 := ((congrFun (sA_g h (ne0 r_h o_q_1 (by decide))).2.1 3).trans sF_eq)
  generalize (sA (sF g h 3 (.int 0)) q_1 61 6) = g_6 at hT hI hM hE r_2 r_3 n_4 kn_5
  refine W.widen (k := 1) (n := 6) (Nat.le_of_ble_eq_true rfl) (Nat.le_of_ble_eq_true rfl) ?_
  refine t_put0 (ci := 0) (v := .ref q_1) hB hT (ro_ci r_2 rfl) (ro_n0 r_2 (by decide)) rfl 0 (by decide) k_243 (Or.inr ⟨hin, rfl⟩) rfl rfl dX0_init_19 (fun H locs hT => ?_)
  replace hI : Inv (sF g_6 h 0 (.ref q_1)) := hI.sF (fk r_2 (show fsm _ _ ft from trivial))
  replace hM : Sm md_s_CallList g (sF g_6 h 0 (.ref q_1)) := hM.tr hE (Sm_sF (by rw [r_2]; rfl))
  replace hE : Ex g (sF g_6 h 0 (.ref q_1)) := hE
  refine lv_aload_n hx hb dX0_init_22 rfl (lv_at hl 1 rfl) ?_
  refine lv_iload_n hx hb dX0_init_23 rfl (lv_at hl 0 rfl) ?_
  refine t_newi (N' := 6) hB hT 62 (by decide) k_101 (by decide) (by decide) (by decide) (Nat.le_of_ble_eq_true rfl) (Nat.le_of_ble_eq_true rfl) dX0_init_24 (fun q_7 H o_q_7 hT => ?_)
  have z_q_7 : g.1 q_7 = 0 := hE.z0 o_q_7
  replace hI : Inv (sA (sF g_6 h 0 (.ref q_1)) q_7 62 6) := hI.newi o_q_7 (by decide) (fun _ => rfl) trivial (fun _ => trivial)
  replace hM : Sm md_s_CallList g (sA (sF g_6 h 0 (.ref q_1)) q_7 62 6) := hM.tr hE (Sm.push o_q_7 sA_g)
  replace hE : Ex g (sA (sF g_6 h 0 (.ref q_1)) q_7 62 6) := hE.tr (Ex.push o_q_7 sA_g)
  have r_8 : (sA (sF g_6 h 0 (.ref q_1)) q_7 62 6).1 h = 11 := ((sA_g h (ne0 r_2 o_q_7 (by decide))).1.trans r_2)
  have r_9 : (sA (sF g_6 h 0 (.ref q_1)) q_7 62 6).1 q_1 = 61 := ((sA_g q_1 (ne0 r_3 o_q_7 (by decide))).1.trans r_3)
  have r_10 : (sA (sF g_6 h 0 (.ref q_1)) q_7 62 6).1 q_7 = 62 := sA_r
  have n_11 : (sA (sF g_6 h 0 (.ref q_1)) q_7 62 6).2.2.1 q_1 = 6 := ((sA_g q_1 (ne0 r_3 o_q_7 (by decide))).2.2.1.trans n_4)
  have n_12 : (sA (sF g_6 h 0 (.ref q_1)) q_7 62 6).2.2.1 q_7 = 6 := sA_n
  have kn_13 : (sA (sF g_6 h 0 (.ref q_1)) q_7 62 6).2.1 h 3 = .int 0 := ((congrFun (sA_g h (ne0 r_2 o_q_7 (by decide))).2.1 3).trans (sF_k kn_5 (by decide)))
  have kn_14 : (sA (sF g_6 h 0 (.ref q_1)) q_7 62 6).2.1 h 0 = .ref q_1 := ((congrFun (sA_g h (ne0 r_2 o_q_7 (by decide))).2.1 0).trans sF_eq)
  generalize (sA (sF g_6 h 0 (.ref q_1)) q_7 62 6) = g_15 at hT hI hM hE r_8 r_9 r_10 n_11 n_12 kn_13 kn_14
  clear kn_5 n_4 r_2 r_3
  refine W.widen (k := 2) (n := 12) (Nat.le_of_ble_eq_true rfl) (Nat.le_of_ble_eq_true rfl) ?_
  refine t_put0 (ci := 0) (v := .ref q_7) hB hT (ro_ci r_8 rfl) (ro_n0 r_8 (by decide)) rfl 1 (by decide) k_247 (Or.inr ⟨hin, rfl⟩) rfl rfl dX0_init_26 (fun H locs hT => ?_)
  replace hI : Inv (sF g_15 h 1 (.ref q_7)) := hI.sF (fk r_8 (show fsm _ _ ft from trivial))
  replace hM : Sm md_s_CallList g (sF g_15 h 1 (.ref q_7)) := hM.tr hE (Sm_sF (by rw [r_8]; rfl))
  replace hE : Ex g (sF g_15 h 1 (.ref q_7)) := hE
  refine lv_aload_n hx hb dX0_init_29 rfl (lv_at hl 1 rfl) ?_
  refine lv_iload_n hx hb dX0_init_30 rfl (lv_at hl 0 rfl) ?_
  refine t_newi (N' := 6) hB hT 63 (by decide) k_101 (by decide) (by decide) (by decide) (Nat.le_of_ble_eq_true rfl) (Nat.le_of_ble_eq_true rfl) dX0_init_31 (fun q_16 H o_q_16 hT => ?_)
  have z_q_16 : g.1 q_16 = 0 := hE.z0 o_q_16
  replace hI : Inv (sA (sF g_15 h 1 (.ref q_7)) q_16 63 6) := hI.newi o_q_16 (by decide) (fun _ => rfl) trivial (fun _ => trivial)
  replace hM : Sm md_s_CallList g (sA (sF g_15 h 1 (.ref q_7)) q_16 63 6) := hM.tr hE (Sm.push o_q_16 sA_g)
  replace hE : Ex g (sA (sF g_15 h 1 (.ref q_7)) q_16 63 6) := hE.tr (Ex.push o_q_16 sA_g)
  have r_17 : (sA (sF g_15 h 1 (.ref q_7)) q_16 63 6).1 h = 11 := ((sA_g h (ne0 r_8 o_q_16 (by decide))).1.trans r_8)
  have r_18 : (sA (sF g_15 h 1 (.ref q_7)) q_16 63 6).1 q_1 = 61 := ((sA_g q_1 (ne0 r_9 o_q_16 (by decide))).1.trans r_9)
  have r_19 : (sA (sF g_15 h 1 (.ref q_7)) q_16 63 6).1 q_7 = 62 := ((sA_g q_7 (ne0 r_10 o_q_16 (by decide))).1.trans r_10)
  have r_20 : (sA (sF g_15 h 1 (.ref q_7)) q_16 63 6).1 q_16 = 63 := sA_r
  have n_21 : (sA (sF g_15 h 1 (.ref q_7)) q_16 63 6).2.2.1 q_1 = 6 := ((sA_g q_1 (ne0 r_9 o_q_16 (by decide))).2.2.1.trans n_11)
  have n_22 : (sA (sF g_15 h 1 (.ref q_7)) q_16 63 6).2.2.1 q_7 = 6 := ((sA_g q_7 (ne0 r_10 o_q_16 (by decide))).2.2.1.trans n_12)
  have n_23 : (sA (sF g_15 h 1 (.ref q_7)) q_16 63 6).2.2.1 q_16 = 6 := sA_n
  have kn_24 : (sA (sF g_15 h 1 (.ref q_7)) q_16 63 6).2.1 h 3 = .int 0 := ((congrFun (sA_g h (ne0 r_8 o_q_16 (by decide))).2.1 3).trans (sF_k kn_13 (by decide)))
  have kn_25 : (sA (sF g_15 h 1 (.ref q_7)) q_16 63 6).2.1 h 0 = .ref q_1 := ((congrFun (sA_g h (ne0 r_8 o_q_16 (by decide))).2.1 0).trans (sF_k kn_14 (by decide)))
  have kn_26 : (sA (sF g_15 h 1 (.ref q_7)) q_16 63 6).2.1 h 1 = .ref q_7 := ((congrFun (sA_g h (ne0 r_8 o_q_16 (by decide))).2.1 1).trans sF_eq)
  generalize (sA (sF g_15 h 1 (.ref q_7)) q_16 63 6) = g_27 at hT hI hM hE r_17 r_18 r_19 r_20 n_21 n_22 n_23 kn_24 kn_25 kn_26
  clear kn_13 kn_14 n_11 n_12 r_10 r_8 r_9
  refine W.widen (k := 3) (n := 18) (Nat.le_of_ble_eq_true rfl) (Nat.le_of_ble_eq_true rfl) ?_
  refine t_put0 (ci := 0) (v := .ref q_16) hB hT (ro_ci r_17 rfl) (ro_n0 r_17 (by decide)) rfl 2 (by decide) k_250 (Or.inr ⟨hin, rfl⟩) rfl rfl dX0_init_33 (fun H locs hT => ?_)
  replace hI : Inv (sF g_27 h 2 (.ref q_16)) := hI.sF (fk r_17 (show fsm _ _ ft from trivial))
  replace hM : Sm md_s_CallList g (sF g_27 h 2 (.ref q_16)) := hM.tr hE (Sm_sF (by rw [r_17]; rfl))
  replace hE : Ex g (sF g_27 h 2 (.ref q_16)) := hE
  have hF : ∀ k, Fok (sR (sF g_27 h 2 (.ref q_16)) h 1) 1 k ((sF g_27 h 2 (.ref q_16)).2.1 h k) := fun k => match k with
    | 0 => (by rw [(sF_k kn_25 (by decide))]; exact q_1_0 ⟨_, rfl, sR_r r_18 (ro_ne r_18 r_17 (by decide)), n_21⟩)
    | 1 => (by rw [(sF_k kn_26 (by decide))]; exact q_1_1 ⟨_, rfl, sR_r r_19 (ro_ne r_19 r_17 (by decide)), n_22⟩)
    | 2 => (by rw [sF_eq]; exact q_1_2 ⟨_, rfl, sR_r r_20 (ro_ne r_20 r_17 (by decide)), n_23⟩)
    | 3 => (by rw [(sF_k kn_24 (by decide))]; exact q_1_3 ⟨_, rfl, by decide, by decide⟩)
    | k + 4 => (show fsm _ _ ft from trivial)
  have hT : Tv D cI cZ cS cR N0 s.heap H locs (sR (sF g_27 h 2 (.ref q_16)) h 1) := ⟨hT.1.promo (by rw [r_17]; decide) (by rw [r_17]; rfl) (Or.inl (by decide)), hT.2⟩
  replace hI : Inv (sR (sF g_27 h 2 (.ref q_16)) h 1) := hI.promo (by rw [r_17]; decide) hF (fun _ _ => trivial) (fun _ _ => trivial)
  replace hM : Sm md_s_CallList g (sR (sF g_27 h 2 (.ref q_16)) h 1) := hM
  have hX : Exx h g (sR (sF g_27 h 2 (.ref q_16)) h 1) := Exx.promo hE
  exact t_vret hB hr hT (Nat.le_of_ble_eq_true rfl) (Nat.le_of_ble_eq_true rfl) dX0_init_36 ⟨rfl, hI, hX, hM, if_pos rfl, (sF_k kn_24 (by decide))⟩
abbrev md_l_CallList : Nat → Nat → Bool := mdf [(11, 0), (11, 1), (11, 2), (11, 3)]
set_option maxHeartbeats 4000000 in
set_option maxRecDepth 100000 in
theorem l_CallList (l : Launch) (D : va_G) (cI cZ cS cR : ClassId) (N0 : NT) (g : GS) (hI : Inv g) (h : Nat) (r_h : g.1 h = 11) : Ty l D cI cZ cS cR N0 yX0_init cX0_init 3 none 0 3 60 [.ref h, .int 20] g (fun v g' => v = none ∧ Inv g' ∧ Exx h g g' ∧ Sm md_l_CallList g g' ∧ g'.1 h = 9 ∧ (g'.2.1 h 3 = .int 0)) := by
  refine t_enter (by decide) (Nat.le_of_ble_eq_true rfl) ?_
  intro p e s m args below meth c ls H locs hB hr hin hl hT
  have hx := hB.1
  have hb := hB.2.1
  have hl : lv_has ls 3 [(0, .ref h), (1, .int 20)] := hl
  replace hE : Ex g g := Ex.rf
  replace hM : Sm md_l_CallList g g := Sm.rf
  refine lv_aload_n hx hb dX0_init_0 rfl (lv_at hl 0 rfl) ?_
  refine t_oinit hB k_239 k_78 k_79 hl.1 dX0_init_1 (Nat.le_of_ble_eq_true rfl) (Nat.le_of_ble_eq_true rfl) ?_
  refine lv_aload_n hx hb dX0_init_4 rfl (lv_at hl 0 rfl) ?_
  refine lv_iconst (v := 0) hx hb dX0_init_5 (by decide) ?_
  refine t_put0 (ci := 0) (v := .int 0) hB hT (ro_ci r_h rfl) (ro_n0 r_h (by decide)) rfl 3 (by decide) k_253 (Or.inl rfl) rfl rfl dX0_init_6 (fun H locs hT => ?_)
  replace hI : Inv (sF g h 3 (.int 0)) := hI.sF (fk r_h (show fsm _ _ ft from trivial))
  replace hM : Sm md_l_CallList g (sF g h 3 (.int 0)) := hM.tr hE (Sm_sF (by rw [r_h]; rfl))
  replace hE : Ex g (sF g h 3 (.int 0)) := hE
  refine lv_iload_n hx hb dX0_init_9 rfl (lv_at hl 1 rfl) ?_
  refine lv_iconst (v := 1) hx hb dX0_init_10 (by decide) ?_
  refine t_max (v := 20) hB k_240 k_241 k_63 k_242 hl.1 (Nat.le_of_ble_eq_true rfl) (Nat.le_of_ble_eq_true rfl) (Nat.le_of_ble_eq_true rfl) (Nat.le_of_ble_eq_true rfl) (by decide) dX0_init_11 ?_
  refine lv_istore_n (lv' := [(2, .int 20), (0, .ref h), (1, .int 20)]) hx hb dX0_init_14 rfl hl (by decide) rfl (fun ls hl => ?_)
  refine lv_aload_n hx hb dX0_init_15 rfl (lv_at hl 1 rfl) ?_
  refine lv_iload_n hx hb dX0_init_16 rfl (lv_at hl 0 rfl) ?_
  refine t_newi (N' := 20) hB hT 64 (by decide) k_101 (by decide) (by decide) (by decide) (Nat.le_of_ble_eq_true rfl) (Nat.le_of_ble_eq_true rfl) dX0_init_17 (fun q_1 H o_q_1 hT => ?_)
  have z_q_1 : g.1 q_1 = 0 := hE.z0 o_q_1
  replace hI : Inv (sA (sF g h 3 (.int 0)) q_1 64 20) := hI.newi o_q_1 (by decide) (fun _ => rfl) ⟨by decide, by decide⟩ (fun _ => trivial)
  replace hM : Sm md_l_CallList g (sA (sF g h 3 (.int 0)) q_1 64 20) := hM.tr hE (Sm.push o_q_1 sA_g)
  replace hE : Ex g (sA (sF g h 3 (.int 0)) q_1 64 20) := hE.tr (Ex.push o_q_1 sA_g)
  have r_2 : (sA (sF g h 3 (.int 0)) q_1 64 20).1 h = 11 := ((sA_g h (ne0 r_h o_q_1 (by decide))).1.trans r_h)
  have r_3 : (sA (sF g h 3 (.int 0)) q_1 64 20).1 q_1 = 64 := sA_r
  have n_4 : (sA (sF g h 3 (.int 0)) q_1 64 20).2.2.1 q_1 = 20 := sA_n
  have kn_5 : (sA (sF g h 3 (.int 0)) q_1 64 20).2.1 h 3 = .int 0 := ((congrFun (sA_g h (ne0 r_h o_q_1 (by decide))).2.1 3).trans sF_eq)
  generalize (sA (sF g h 3 (.int 0)) q_1 64 20) = g_6 at hT hI hM hE r_2 r_3 n_4 kn_5
  refine W.widen (k := 1) (n := 20) (Nat.le_of_ble_eq_true rfl) (Nat.le_of_ble_eq_true rfl) ?_
  refine t_put0 (ci := 0) (v := .ref q_1) hB hT (ro_ci r_2 rfl) (ro_n0 r_2 (by decide)) rfl 0 (by decide) k_243 (Or.inr ⟨hin, rfl⟩) rfl rfl dX0_init_19 (fun H locs hT => ?_)
  replace hI : Inv (sF g_6 h 0 (.ref q_1)) := hI.sF (fk r_2 (show fsm _ _ ft from trivial))
  replace hM : Sm md_l_CallList g (sF g_6 h 0 (.ref q_1)) := hM.tr hE (Sm_sF (by rw [r_2]; rfl))
  replace hE : Ex g (sF g_6 h 0 (.ref q_1)) := hE
  refine lv_aload_n hx hb dX0_init_22 rfl (lv_at hl 1 rfl) ?_
  refine lv_iload_n hx hb dX0_init_23 rfl (lv_at hl 0 rfl) ?_
  refine t_newi (N' := 20) hB hT 65 (by decide) k_101 (by decide) (by decide) (by decide) (Nat.le_of_ble_eq_true rfl) (Nat.le_of_ble_eq_true rfl) dX0_init_24 (fun q_7 H o_q_7 hT => ?_)
  have z_q_7 : g.1 q_7 = 0 := hE.z0 o_q_7
  replace hI : Inv (sA (sF g_6 h 0 (.ref q_1)) q_7 65 20) := hI.newi o_q_7 (by decide) (fun _ => rfl) trivial (fun _ => trivial)
  replace hM : Sm md_l_CallList g (sA (sF g_6 h 0 (.ref q_1)) q_7 65 20) := hM.tr hE (Sm.push o_q_7 sA_g)
  replace hE : Ex g (sA (sF g_6 h 0 (.ref q_1)) q_7 65 20) := hE.tr (Ex.push o_q_7 sA_g)
  have r_8 : (sA (sF g_6 h 0 (.ref q_1)) q_7 65 20).1 h = 11 := ((sA_g h (ne0 r_2 o_q_7 (by decide))).1.trans r_2)
  have r_9 : (sA (sF g_6 h 0 (.ref q_1)) q_7 65 20).1 q_1 = 64 := ((sA_g q_1 (ne0 r_3 o_q_7 (by decide))).1.trans r_3)
  have r_10 : (sA (sF g_6 h 0 (.ref q_1)) q_7 65 20).1 q_7 = 65 := sA_r
  have n_11 : (sA (sF g_6 h 0 (.ref q_1)) q_7 65 20).2.2.1 q_1 = 20 := ((sA_g q_1 (ne0 r_3 o_q_7 (by decide))).2.2.1.trans n_4)
  have n_12 : (sA (sF g_6 h 0 (.ref q_1)) q_7 65 20).2.2.1 q_7 = 20 := sA_n
  have kn_13 : (sA (sF g_6 h 0 (.ref q_1)) q_7 65 20).2.1 h 3 = .int 0 := ((congrFun (sA_g h (ne0 r_2 o_q_7 (by decide))).2.1 3).trans (sF_k kn_5 (by decide)))
  have kn_14 : (sA (sF g_6 h 0 (.ref q_1)) q_7 65 20).2.1 h 0 = .ref q_1 := ((congrFun (sA_g h (ne0 r_2 o_q_7 (by decide))).2.1 0).trans sF_eq)
  generalize (sA (sF g_6 h 0 (.ref q_1)) q_7 65 20) = g_15 at hT hI hM hE r_8 r_9 r_10 n_11 n_12 kn_13 kn_14
  clear kn_5 n_4 r_2 r_3
  refine W.widen (k := 2) (n := 40) (Nat.le_of_ble_eq_true rfl) (Nat.le_of_ble_eq_true rfl) ?_
  refine t_put0 (ci := 0) (v := .ref q_7) hB hT (ro_ci r_8 rfl) (ro_n0 r_8 (by decide)) rfl 1 (by decide) k_247 (Or.inr ⟨hin, rfl⟩) rfl rfl dX0_init_26 (fun H locs hT => ?_)
  replace hI : Inv (sF g_15 h 1 (.ref q_7)) := hI.sF (fk r_8 (show fsm _ _ ft from trivial))
  replace hM : Sm md_l_CallList g (sF g_15 h 1 (.ref q_7)) := hM.tr hE (Sm_sF (by rw [r_8]; rfl))
  replace hE : Ex g (sF g_15 h 1 (.ref q_7)) := hE
  refine lv_aload_n hx hb dX0_init_29 rfl (lv_at hl 1 rfl) ?_
  refine lv_iload_n hx hb dX0_init_30 rfl (lv_at hl 0 rfl) ?_
  refine t_newi (N' := 20) hB hT 66 (by decide) k_101 (by decide) (by decide) (by decide) (Nat.le_of_ble_eq_true rfl) (Nat.le_of_ble_eq_true rfl) dX0_init_31 (fun q_16 H o_q_16 hT => ?_)
  have z_q_16 : g.1 q_16 = 0 := hE.z0 o_q_16
  replace hI : Inv (sA (sF g_15 h 1 (.ref q_7)) q_16 66 20) := hI.newi o_q_16 (by decide) (fun _ => rfl) trivial (fun _ => trivial)
  replace hM : Sm md_l_CallList g (sA (sF g_15 h 1 (.ref q_7)) q_16 66 20) := hM.tr hE (Sm.push o_q_16 sA_g)
  replace hE : Ex g (sA (sF g_15 h 1 (.ref q_7)) q_16 66 20) := hE.tr (Ex.push o_q_16 sA_g)
  have r_17 : (sA (sF g_15 h 1 (.ref q_7)) q_16 66 20).1 h = 11 := ((sA_g h (ne0 r_8 o_q_16 (by decide))).1.trans r_8)
  have r_18 : (sA (sF g_15 h 1 (.ref q_7)) q_16 66 20).1 q_1 = 64 := ((sA_g q_1 (ne0 r_9 o_q_16 (by decide))).1.trans r_9)
  have r_19 : (sA (sF g_15 h 1 (.ref q_7)) q_16 66 20).1 q_7 = 65 := ((sA_g q_7 (ne0 r_10 o_q_16 (by decide))).1.trans r_10)
  have r_20 : (sA (sF g_15 h 1 (.ref q_7)) q_16 66 20).1 q_16 = 66 := sA_r
  have n_21 : (sA (sF g_15 h 1 (.ref q_7)) q_16 66 20).2.2.1 q_1 = 20 := ((sA_g q_1 (ne0 r_9 o_q_16 (by decide))).2.2.1.trans n_11)
  have n_22 : (sA (sF g_15 h 1 (.ref q_7)) q_16 66 20).2.2.1 q_7 = 20 := ((sA_g q_7 (ne0 r_10 o_q_16 (by decide))).2.2.1.trans n_12)
  have n_23 : (sA (sF g_15 h 1 (.ref q_7)) q_16 66 20).2.2.1 q_16 = 20 := sA_n
  have kn_24 : (sA (sF g_15 h 1 (.ref q_7)) q_16 66 20).2.1 h 3 = .int 0 := ((congrFun (sA_g h (ne0 r_8 o_q_16 (by decide))).2.1 3).trans (sF_k kn_13 (by decide)))
  have kn_25 : (sA (sF g_15 h 1 (.ref q_7)) q_16 66 20).2.1 h 0 = .ref q_1 := ((congrFun (sA_g h (ne0 r_8 o_q_16 (by decide))).2.1 0).trans (sF_k kn_14 (by decide)))
  have kn_26 : (sA (sF g_15 h 1 (.ref q_7)) q_16 66 20).2.1 h 1 = .ref q_7 := ((congrFun (sA_g h (ne0 r_8 o_q_16 (by decide))).2.1 1).trans sF_eq)
  generalize (sA (sF g_15 h 1 (.ref q_7)) q_16 66 20) = g_27 at hT hI hM hE r_17 r_18 r_19 r_20 n_21 n_22 n_23 kn_24 kn_25 kn_26
  clear kn_13 kn_14 n_11 n_12 r_10 r_8 r_9
  refine W.widen (k := 3) (n := 60) (Nat.le_of_ble_eq_true rfl) (Nat.le_of_ble_eq_true rfl) ?_
  refine t_put0 (ci := 0) (v := .ref q_16) hB hT (ro_ci r_17 rfl) (ro_n0 r_17 (by decide)) rfl 2 (by decide) k_250 (Or.inr ⟨hin, rfl⟩) rfl rfl dX0_init_33 (fun H locs hT => ?_)
  replace hI : Inv (sF g_27 h 2 (.ref q_16)) := hI.sF (fk r_17 (show fsm _ _ ft from trivial))
  replace hM : Sm md_l_CallList g (sF g_27 h 2 (.ref q_16)) := hM.tr hE (Sm_sF (by rw [r_17]; rfl))
  replace hE : Ex g (sF g_27 h 2 (.ref q_16)) := hE
  have hF : ∀ k, Fok (sR (sF g_27 h 2 (.ref q_16)) h 9) 9 k ((sF g_27 h 2 (.ref q_16)).2.1 h k) := fun k => match k with
    | 0 => (by rw [(sF_k kn_25 (by decide))]; exact q_9_0 ⟨_, rfl, sR_r r_18 (ro_ne r_18 r_17 (by decide)), n_21⟩)
    | 1 => (by rw [(sF_k kn_26 (by decide))]; exact q_9_1 ⟨_, rfl, sR_r r_19 (ro_ne r_19 r_17 (by decide)), n_22⟩)
    | 2 => (by rw [sF_eq]; exact q_9_2 ⟨_, rfl, sR_r r_20 (ro_ne r_20 r_17 (by decide)), n_23⟩)
    | 3 => (by rw [(sF_k kn_24 (by decide))]; exact q_9_3 ⟨_, rfl, by decide, by decide⟩)
    | k + 4 => (show fsm _ _ ft from trivial)
  have hT : Tv D cI cZ cS cR N0 s.heap H locs (sR (sF g_27 h 2 (.ref q_16)) h 9) := ⟨hT.1.promo (by rw [r_17]; decide) (by rw [r_17]; rfl) (Or.inl (by decide)), hT.2⟩
  replace hI : Inv (sR (sF g_27 h 2 (.ref q_16)) h 9) := hI.promo (by rw [r_17]; decide) hF (fun _ _ => trivial) (fun _ _ => trivial)
  replace hM : Sm md_l_CallList g (sR (sF g_27 h 2 (.ref q_16)) h 9) := hM
  have hX : Exx h g (sR (sF g_27 h 2 (.ref q_16)) h 9) := Exx.promo hE
  exact t_vret hB hr hT (Nat.le_of_ble_eq_true rfl) (Nat.le_of_ble_eq_true rfl) dX0_init_36 ⟨rfl, hI, hX, hM, if_pos rfl, (sF_k kn_24 (by decide))⟩
abbrev md_k_Tape : Nat → Nat → Bool := mdf [(15, 0), (15, 1), (15, 2), (15, 3)]
set_option maxHeartbeats 4000000 in
set_option maxRecDepth 100000 in
theorem k_Tape (l : Launch) (D : va_G) (cI cZ cS cR : ClassId) (N0 : NT) (g : GS) (hI : Inv g) (h : Nat) (r_h : g.1 h = 15) : Ty l D cI cZ cS cR N0 yX4_init cX4_init 1 none 0 1 100 [.ref h] g (fun v g' => v = none ∧ Inv g' ∧ Exx h g g' ∧ Sm md_k_Tape g g' ∧ g'.1 h = 5 ∧ (g'.2.1 h 1 = .int 0)) := by
  refine t_enter (by decide) (Nat.le_of_ble_eq_true rfl) ?_
  intro p e s m args below meth c ls H locs hB hr hin hl hT
  have hx := hB.1
  have hb := hB.2.1
  have hl : lv_has ls 1 [(0, .ref h)] := hl
  replace hE : Ex g g := Ex.rf
  replace hM : Sm md_k_Tape g g := Sm.rf
  refine lv_aload_n hx hb dX4_init_0 rfl (lv_at hl 0 rfl) ?_
  refine t_oinit hB k_85 k_78 k_79 hl.1 dX4_init_1 (Nat.le_of_ble_eq_true rfl) (Nat.le_of_ble_eq_true rfl) ?_
  refine lv_aload_n hx hb dX4_init_4 rfl (lv_at hl 0 rfl) ?_
  refine lv_bipush (v := 100) hx hb dX4_init_5 (by decide) ?_
  refine t_newi (N' := 100) hB hT 67 (by decide) k_101 (by decide) (by decide) (by decide) (Nat.le_of_ble_eq_true rfl) (Nat.le_of_ble_eq_true rfl) dX4_init_7 (fun q_1 H o_q_1 hT => ?_)
  have z_q_1 : g.1 q_1 = 0 := hE.z0 o_q_1
  replace hI : Inv (sA g q_1 67 100) := hI.newi o_q_1 (by decide) (fun _ => rfl) ⟨by decide, by decide⟩ (fun _ => trivial)
  replace hM : Sm md_k_Tape g (sA g q_1 67 100) := hM.tr hE (Sm.push o_q_1 sA_g)
  replace hE : Ex g (sA g q_1 67 100) := hE.tr (Ex.push o_q_1 sA_g)
  have r_2 : (sA g q_1 67 100).1 h = 15 := ((sA_g h (ne0 r_h o_q_1 (by decide))).1.trans r_h)
  have r_3 : (sA g q_1 67 100).1 q_1 = 67 := sA_r
  have n_4 : (sA g q_1 67 100).2.2.1 q_1 = 100 := sA_n
  generalize (sA g q_1 67 100) = g_5 at hT hI hM hE r_2 r_3 n_4
  refine W.widen (k := 1) (n := 100) (Nat.le_of_ble_eq_true rfl) (Nat.le_of_ble_eq_true rfl) ?_
  refine t_put0 (ci := 4) (v := .ref q_1) hB hT (ro_ci r_2 rfl) (ro_n0 r_2 (by decide)) rfl 0 (by decide) k_86 (Or.inr ⟨hin, rfl⟩) rfl rfl dX4_init_9 (fun H locs hT => ?_)
  replace hI : Inv (sF g_5 h 0 (.ref q_1)) := hI.sF (fk r_2 (show fsm _ _ ft from trivial))
  replace hM : Sm md_k_Tape g (sF g_5 h 0 (.ref q_1)) := hM.tr hE (Sm_sF (by rw [r_2]; rfl))
  replace hE : Ex g (sF g_5 h 0 (.ref q_1)) := hE
  refine lv_aload_n hx hb dX4_init_12 rfl (lv_at hl 0 rfl) ?_
  refine lv_iconst (v := 0) hx hb dX4_init_13 (by decide) ?_
  refine t_put0 (ci := 4) (v := .int 0) hB hT (ro_ci r_2 rfl) (ro_n0 r_2 (by decide)) rfl 1 (by decide) k_87 (Or.inl rfl) rfl rfl dX4_init_14 (fun H locs hT => ?_)
  replace hI : Inv (sF (sF g_5 h 0 (.ref q_1)) h 1 (.int 0)) := hI.sF (fk r_2 (show fsm _ _ ft from trivial))
  replace hM : Sm md_k_Tape g (sF (sF g_5 h 0 (.ref q_1)) h 1 (.int 0)) := hM.tr hE (Sm_sF (by rw [r_2]; rfl))
  replace hE : Ex g (sF (sF g_5 h 0 (.ref q_1)) h 1 (.int 0)) := hE
  refine lv_aload_n hx hb dX4_init_17 rfl (lv_at hl 0 rfl) ?_
  refine lv_iconst (v := 0) hx hb dX4_init_18 (by decide) ?_
  refine t_put0 (ci := 4) (v := .int 0) hB hT (ro_ci r_2 rfl) (ro_n0 r_2 (by decide)) rfl 2 (by decide) k_89 (Or.inl rfl) rfl rfl dX4_init_19 (fun H locs hT => ?_)
  replace hI : Inv (sF (sF (sF g_5 h 0 (.ref q_1)) h 1 (.int 0)) h 2 (.int 0)) := hI.sF (fk r_2 (show fsm _ _ ft from trivial))
  replace hM : Sm md_k_Tape g (sF (sF (sF g_5 h 0 (.ref q_1)) h 1 (.int 0)) h 2 (.int 0)) := hM.tr hE (Sm_sF (by rw [r_2]; rfl))
  replace hE : Ex g (sF (sF (sF g_5 h 0 (.ref q_1)) h 1 (.int 0)) h 2 (.int 0)) := hE
  refine lv_aload_n hx hb dX4_init_22 rfl (lv_at hl 0 rfl) ?_
  refine lv_iconst (v := 0) hx hb dX4_init_23 (by decide) ?_
  refine t_put0 (ci := 4) (v := .int 0) hB hT (ro_ci r_2 rfl) (ro_n0 r_2 (by decide)) rfl 3 (by decide) k_91 (Or.inl rfl) rfl rfl dX4_init_24 (fun H locs hT => ?_)
  replace hI : Inv (sF (sF (sF (sF g_5 h 0 (.ref q_1)) h 1 (.int 0)) h 2 (.int 0)) h 3 (.int 0)) := hI.sF (fk r_2 (show fsm _ _ ft from trivial))
  replace hM : Sm md_k_Tape g (sF (sF (sF (sF g_5 h 0 (.ref q_1)) h 1 (.int 0)) h 2 (.int 0)) h 3 (.int 0)) := hM.tr hE (Sm_sF (by rw [r_2]; rfl))
  replace hE : Ex g (sF (sF (sF (sF g_5 h 0 (.ref q_1)) h 1 (.int 0)) h 2 (.int 0)) h 3 (.int 0)) := hE
  have hF : ∀ k, Fok (sR (sF (sF (sF (sF g_5 h 0 (.ref q_1)) h 1 (.int 0)) h 2 (.int 0)) h 3 (.int 0)) h 5) 5 k ((sF (sF (sF (sF g_5 h 0 (.ref q_1)) h 1 (.int 0)) h 2 (.int 0)) h 3 (.int 0)).2.1 h k) := fun k => match k with
    | 0 => (by rw [(sF_k (sF_k (sF_k sF_eq (by decide)) (by decide)) (by decide))]; exact q_5_0 ⟨_, rfl, sR_r r_3 (ro_ne r_3 r_2 (by decide)), n_4⟩)
    | 1 => (by rw [(sF_k (sF_k sF_eq (by decide)) (by decide))]; exact q_5_1 ⟨_, rfl, by decide, by decide⟩)
    | 2 => (by rw [(sF_k sF_eq (by decide))]; exact q_5_2 ⟨_, rfl⟩)
    | 3 => (by rw [sF_eq]; exact q_5_3 ⟨_, rfl⟩)
    | k + 4 => (show fsm _ _ ft from trivial)
  have hT : Tv D cI cZ cS cR N0 s.heap H locs (sR (sF (sF (sF (sF g_5 h 0 (.ref q_1)) h 1 (.int 0)) h 2 (.int 0)) h 3 (.int 0)) h 5) := ⟨hT.1.promo (by rw [r_2]; decide) (by rw [r_2]; rfl) (Or.inl (by decide)), hT.2⟩
  replace hI : Inv (sR (sF (sF (sF (sF g_5 h 0 (.ref q_1)) h 1 (.int 0)) h 2 (.int 0)) h 3 (.int 0)) h 5) := hI.promo (by rw [r_2]; decide) hF (fun _ _ => trivial) (fun _ _ => trivial)
  replace hM : Sm md_k_Tape g (sR (sF (sF (sF (sF g_5 h 0 (.ref q_1)) h 1 (.int 0)) h 2 (.int 0)) h 3 (.int 0)) h 5) := hM
  have hX : Exx h g (sR (sF (sF (sF (sF g_5 h 0 (.ref q_1)) h 1 (.int 0)) h 2 (.int 0)) h 3 (.int 0)) h 5) := Exx.promo hE
  exact t_vret hB hr hT (Nat.le_of_ble_eq_true rfl) (Nat.le_of_ble_eq_true rfl) dX4_init_27 ⟨rfl, hI, hX, hM, if_pos rfl, (sF_k (sF_k sF_eq (by decide)) (by decide))⟩
