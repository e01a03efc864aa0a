theorem k_78 : Cond.instanceMethod Lib.objectInit ∈ tb := mt 78 (by decide +kernel) rfl
set_option maxRecDepth 20000 in
theorem k_79 : Cond.code Lib.objectInit ⟨#[0xb1]⟩ 1 none ∈ tb := mt 79 rfl rfl
theorem k_85 : Cond.methodLink RX4 3 Lib.objectInit ∈ tb := mt 85 (by decide +kernel) rfl
theorem k_89 : Cond.fieldLink RX4 19 "TwiceOnce$Tape" "fault" "I" ∈ tb := mt 89 (by decide +kernel) rfl
theorem k_101 : Cond.arrayClass .int ∈ tb := mt 101 (by decide +kernel) rfl
theorem k_107 : Cond.methodLink RX5 3 Lib.objectInit ∈ tb := mt 107 (by decide +kernel) rfl
theorem k_108 : Cond.classLink RX5 9 "TwiceOnce$Service" ∈ tb := mt 108 (by decide +kernel) rfl
theorem k_110 : Cond.instantiable RX3 15 ∈ tb := mt 110 (by decide +kernel) rfl
theorem k_112 : Cond.instanceMethod yX3_init ∈ tb := mt 112 (by decide +kernel) rfl
set_option maxRecDepth 20000 in
theorem k_113 : Cond.code yX3_init cX3_init 1 none ∈ tb := mt 113 rfl rfl
theorem k_114 : Cond.methodLink RX3 3 Lib.objectInit ∈ tb := mt 114 (by decide +kernel) rfl
theorem k_115 : Cond.classLink RX3 9 RX2 ∈ tb := mt 115 (by decide +kernel) rfl
theorem k_116 : Cond.instantiable RX2 4 ∈ tb := mt 116 (by decide +kernel) rfl
theorem k_118 : Cond.instanceMethod yX2_init ∈ tb := mt 118 (by decide +kernel) rfl
set_option maxRecDepth 20000 in
theorem k_119 : Cond.code yX2_init cX2_init 1 none ∈ tb := mt 119 rfl rfl
theorem k_120 : Cond.methodLink RX2 3 Lib.objectInit ∈ tb := mt 120 (by decide +kernel) rfl
theorem k_239 : Cond.methodLink RX0 1 Lib.objectInit ∈ tb := mt 239 (by decide +kernel) rfl
theorem k_240 : Cond.methodLink RX0 13 Lib.Math.max.name ∈ tb := mt 240 (by decide +kernel) rfl
theorem dX2_init_0 : decode cX2_init 0 = .ok (.aload_n 0, 1) := by decide +kernel
theorem dX2_init_1 : decode cX2_init 1 = .ok (.invokespecial 3, 3) := by decide +kernel
theorem dX2_init_4 : decode cX2_init 4 = .ok (.aload_n 0, 1) := by decide +kernel
theorem dX2_init_5 : decode cX2_init 5 = .ok (.bipush 8, 2) := by decide +kernel
theorem dX2_init_7 : decode cX2_init 7 = .ok (.newarray .int, 2) := by decide +kernel
theorem dX2_init_9 : decode cX2_init 9 = .ok (.putfield 9, 3) := by decide +kernel
theorem dX2_init_12 : decode cX2_init 12 = .ok (.aload_n 0, 1) := by decide +kernel
theorem dX2_init_13 : decode cX2_init 13 = .ok (.bipush 8, 2) := by decide +kernel
theorem dX2_init_15 : decode cX2_init 15 = .ok (.newarray .int, 2) := by decide +kernel
theorem dX2_init_17 : decode cX2_init 17 = .ok (.putfield 15, 3) := by decide +kernel
theorem dX2_init_20 : decode cX2_init 20 = .ok (.aload_n 0, 1) := by decide +kernel
theorem dX2_init_21 : decode cX2_init 21 = .ok (.bipush 8, 2) := by decide +kernel
theorem dX2_init_23 : decode cX2_init 23 = .ok (.newarray .int, 2) := by decide +kernel
theorem dX2_init_25 : decode cX2_init 25 = .ok (.putfield 18, 3) := by decide +kernel
theorem dX2_init_28 : decode cX2_init 28 = .ok (.aload_n 0, 1) := by decide +kernel
theorem dX2_init_29 : decode cX2_init 29 = .ok (.iconst 0, 1) := by decide +kernel
theorem dX2_init_30 : decode cX2_init 30 = .ok (.putfield 21, 3) := by decide +kernel
theorem dX2_init_33 : decode cX2_init 33 = .ok (.return_, 1) := by decide +kernel
theorem dX3_init_0 : decode cX3_init 0 = .ok (.aload_n 0, 1) := by decide +kernel
theorem dX3_init_1 : decode cX3_init 1 = .ok (.invokespecial 3, 3) := by decide +kernel
theorem dX3_init_4 : decode cX3_init 4 = .ok (.aload_n 0, 1) := by decide +kernel
theorem dX3_init_5 : decode cX3_init 5 = .ok (.new 9, 3) := by decide +kernel
theorem dX3_init_8 : decode cX3_init 8 = .ok (.dup, 1) := by decide +kernel
theorem dX3_init_9 : decode cX3_init 9 = .ok (.invokespecial 11, 3) := by decide +kernel
theorem dX3_init_12 : decode cX3_init 12 = .ok (.putfield 12, 3) := by decide +kernel
theorem dX3_init_15 : decode cX3_init 15 = .ok (.aload_n 0, 1) := by decide +kernel
theorem dX3_init_16 : decode cX3_init 16 = .ok (.iconst 4, 1) := by decide +kernel
theorem dX3_init_17 : decode cX3_init 17 = .ok (.newarray .int, 2) := by decide +kernel
theorem dX3_init_19 : decode cX3_init 19 = .ok (.putfield 18, 3) := by decide +kernel
theorem dX3_init_22 : decode cX3_init 22 = .ok (.aload_n 0, 1) := by decide +kernel
theorem dX3_init_23 : decode cX3_init 23 = .ok (.iconst 0, 1) := by decide +kernel
theorem dX3_init_24 : decode cX3_init 24 = .ok (.putfield 22, 3) := by decide +kernel
theorem dX3_init_27 : decode cX3_init 27 = .ok (.aload_n 0, 1) := by decide +kernel
theorem dX3_init_28 : decode cX3_init 28 = .ok (.iconst 0, 1) := by decide +kernel
theorem dX3_init_29 : decode cX3_init 29 = .ok (.putfield 26, 3) := by decide +kernel
theorem dX3_init_32 : decode cX3_init 32 = .ok (.aload_n 0, 1) := by decide +kernel
theorem dX3_init_33 : decode cX3_init 33 = .ok (.bipush 10, 2) := by decide +kernel
theorem dX3_init_35 : decode cX3_init 35 = .ok (.putfield 29, 3) := by decide +kernel
theorem dX3_init_38 : decode cX3_init 38 = .ok (.aload_n 0, 1) := by decide +kernel
theorem dX3_init_39 : decode cX3_init 39 = .ok (.iconst 0, 1) := by decide +kernel
theorem dX3_init_40 : decode cX3_init 40 = .ok (.putfield 32, 3) := by decide +kernel
theorem dX3_init_43 : decode cX3_init 43 = .ok (.aload_n 0, 1) := by decide +kernel
theorem dX3_init_44 : decode cX3_init 44 = .ok (.bipush 16, 2) := by decide +kernel
theorem dX3_init_46 : decode cX3_init 46 = .ok (.newarray .int, 2) := by decide +kernel
theorem dX3_init_48 : decode cX3_init 48 = .ok (.putfield 35, 3) := by decide +kernel
theorem dX3_init_51 : decode cX3_init 51 = .ok (.aload_n 0, 1) := by decide +kernel
theorem dX3_init_52 : decode cX3_init 52 = .ok (.bipush 16, 2) := by decide +kernel
theorem dX3_init_54 : decode cX3_init 54 = .ok (.newarray .int, 2) := by decide +kernel
theorem dX3_init_56 : decode cX3_init 56 = .ok (.putfield 38, 3) := by decide +kernel
theorem dX3_init_59 : decode cX3_init 59 = .ok (.aload_n 0, 1) := by decide +kernel
theorem dX3_init_60 : decode cX3_init 60 = .ok (.bipush 16, 2) := by decide +kernel
theorem dX3_init_62 : decode cX3_init 62 = .ok (.newarray .int, 2) := by decide +kernel
theorem dX3_init_64 : decode cX3_init 64 = .ok (.putfield 41, 3) := by decide +kernel
theorem dX3_init_67 : decode cX3_init 67 = .ok (.aload_n 0, 1) := by decide +kernel
theorem dX3_init_68 : decode cX3_init 68 = .ok (.bipush 16, 2) := by decide +kernel
theorem dX3_init_70 : decode cX3_init 70 = .ok (.newarray .int, 2) := by decide +kernel
theorem dX3_init_72 : decode cX3_init 72 = .ok (.putfield 44, 3) := by decide +kernel
theorem dX3_init_75 : decode cX3_init 75 = .ok (.aload_n 0, 1) := by decide +kernel
theorem dX3_init_76 : decode cX3_init 76 = .ok (.iconst (-1), 1) := by decide +kernel
theorem dX3_init_77 : decode cX3_init 77 = .ok (.putfield 47, 3) := by decide +kernel
theorem dX3_init_80 : decode cX3_init 80 = .ok (.aload_n 0, 1) := by decide +kernel
theorem dX3_init_81 : decode cX3_init 81 = .ok (.iconst (-1), 1) := by decide +kernel
theorem dX3_init_82 : decode cX3_init 82 = .ok (.putfield 50, 3) := by decide +kernel
theorem dX3_init_85 : decode cX3_init 85 = .ok (.aload_n 0, 1) := by decide +kernel
theorem dX3_init_86 : decode cX3_init 86 = .ok (.bipush 8, 2) := by decide +kernel
theorem dX3_init_88 : decode cX3_init 88 = .ok (.newarray .int, 2) := by decide +kernel
theorem dX3_init_90 : decode cX3_init 90 = .ok (.putfield 53, 3) := by decide +kernel
theorem dX3_init_93 : decode cX3_init 93 = .ok (.aload_n 0, 1) := by decide +kernel
theorem dX3_init_94 : decode cX3_init 94 = .ok (.bipush 8, 2) := by decide +kernel
theorem dX3_init_96 : decode cX3_init 96 = .ok (.newarray .int, 2) := by decide +kernel
theorem dX3_init_98 : decode cX3_init 98 = .ok (.putfield 56, 3) := by decide +kernel
theorem dX3_init_101 : decode cX3_init 101 = .ok (.aload_n 0, 1) := by decide +kernel
theorem dX3_init_102 : decode cX3_init 102 = .ok (.iconst 0, 1) := by decide +kernel
theorem dX3_init_103 : decode cX3_init 103 = .ok (.putfield 59, 3) := by decide +kernel
theorem dX3_init_106 : decode cX3_init 106 = .ok (.return_, 1) := by decide +kernel
theorem dX5_init_0 : decode cX5_init 0 = .ok (.aload_n 0, 1) := by decide +kernel
theorem dX5_init_1 : decode cX5_init 1 = .ok (.invokespecial 3, 3) := by decide +kernel
theorem dX5_init_4 : decode cX5_init 4 = .ok (.aload_n 0, 1) := by decide +kernel
theorem dX5_init_5 : decode cX5_init 5 = .ok (.bipush 6, 2) := by decide +kernel
theorem dX5_init_7 : decode cX5_init 7 = .ok (.anewarray 9, 3) := by decide +kernel
theorem dX5_init_10 : decode cX5_init 10 = .ok (.putfield 11, 3) := by decide +kernel
theorem dX5_init_13 : decode cX5_init 13 = .ok (.aload_n 0, 1) := by decide +kernel
theorem dX5_init_14 : decode cX5_init 14 = .ok (.iconst 0, 1) := by decide +kernel
theorem dX5_init_15 : decode cX5_init 15 = .ok (.putfield 17, 3) := by decide +kernel
theorem dX5_init_18 : decode cX5_init 18 = .ok (.aload_n 0, 1) := by decide +kernel
theorem dX5_init_19 : decode cX5_init 19 = .ok (.iconst 0, 1) := by decide +kernel
theorem dX5_init_20 : decode cX5_init 20 = .ok (.putfield 21, 3) := by decide +kernel
theorem dX5_init_23 : decode cX5_init 23 = .ok (.aload_n 0, 1) := by decide +kernel
theorem dX5_init_24 : decode cX5_init 24 = .ok (.sipush 512, 3) := by decide +kernel
theorem dX5_init_27 : decode cX5_init 27 = .ok (.newarray .int, 2) := by decide +kernel
theorem dX5_init_29 : decode cX5_init 29 = .ok (.putfield 24, 3) := by decide +kernel
theorem dX5_init_32 : decode cX5_init 32 = .ok (.aload_n 0, 1) := by decide +kernel
theorem dX5_init_33 : decode cX5_init 33 = .ok (.iconst 0, 1) := by decide +kernel
theorem dX5_init_34 : decode cX5_init 34 = .ok (.putfield 28, 3) := by decide +kernel
theorem dX5_init_37 : decode cX5_init 37 = .ok (.aload_n 0, 1) := by decide +kernel
theorem dX5_init_38 : decode cX5_init 38 = .ok (.iconst 0, 1) := by decide +kernel
theorem dX5_init_39 : decode cX5_init 39 = .ok (.putfield 31, 3) := by decide +kernel
theorem dX5_init_42 : decode cX5_init 42 = .ok (.aload_n 0, 1) := by decide +kernel
theorem dX5_init_43 : decode cX5_init 43 = .ok (.iconst 0, 1) := by decide +kernel
theorem dX5_init_44 : decode cX5_init 44 = .ok (.putfield 34, 3) := by decide +kernel
theorem dX5_init_47 : decode cX5_init 47 = .ok (.aload_n 0, 1) := by decide +kernel
theorem dX5_init_48 : decode cX5_init 48 = .ok (.iconst 0, 1) := by decide +kernel
theorem dX5_init_49 : decode cX5_init 49 = .ok (.putfield 37, 3) := by decide +kernel
theorem dX5_init_52 : decode cX5_init 52 = .ok (.iconst 0, 1) := by decide +kernel
theorem dX5_init_53 : decode cX5_init 53 = .ok (.istore_n 1, 1) := by decide +kernel
theorem dX5_init_54 : decode cX5_init 54 = .ok (.iload_n 1, 1) := by decide +kernel
theorem dX5_init_55 : decode cX5_init 55 = .ok (.bipush 6, 2) := by decide +kernel
theorem dX5_init_57 : decode cX5_init 57 = .ok (.if_icmp .ge 22, 3) := by decide +kernel
theorem dX5_init_60 : decode cX5_init 60 = .ok (.aload_n 0, 1) := by decide +kernel
theorem dX5_init_61 : decode cX5_init 61 = .ok (.getfield 11, 3) := by decide +kernel
theorem dX5_init_64 : decode cX5_init 64 = .ok (.iload_n 1, 1) := by decide +kernel
theorem dX5_init_65 : decode cX5_init 65 = .ok (.new 9, 3) := by decide +kernel
theorem dX5_init_68 : decode cX5_init 68 = .ok (.dup, 1) := by decide +kernel
theorem dX5_init_69 : decode cX5_init 69 = .ok (.invokespecial 41, 3) := by decide +kernel
theorem dX5_init_72 : decode cX5_init 72 = .ok (.aastore, 1) := by decide +kernel
theorem dX5_init_73 : decode cX5_init 73 = .ok (.iinc 1 1, 3) := by decide +kernel
theorem dX5_init_76 : decode cX5_init 76 = .ok (.goto (-22), 3) := by decide +kernel
theorem dX5_init_79 : decode cX5_init 79 = .ok (.return_, 1) := by decide +kernel
theorem dX0_init_0 : decode cX0_init 0 = .ok (.aload_n 0, 1) := by decide +kernel
theorem dX0_init_1 : decode cX0_init 1 = .ok (.invokespecial 1, 3) := by decide +kernel
theorem dX0_init_4 : decode cX0_init 4 = .ok (.aload_n 0, 1) := by decide +kernel
theorem dX0_init_5 : decode cX0_init 5 = .ok (.iconst 0, 1) := by decide +kernel
theorem dX0_init_6 : decode cX0_init 6 = .ok (.putfield 7, 3) := by decide +kernel
theorem dX0_init_9 : decode cX0_init 9 = .ok (.iload_n 1, 1) := by decide +kernel
theorem dX0_init_10 : decode cX0_init 10 = .ok (.iconst 1, 1) := by decide +kernel
theorem dX0_init_11 : decode cX0_init 11 = .ok (.invokestatic 13, 3) := by decide +kernel
theorem dX0_init_14 : decode cX0_init 14 = .ok (.istore_n 2, 1) := by decide +kernel
theorem dX0_init_15 : decode cX0_init 15 = .ok (.aload_n 0, 1) := by decide +kernel
theorem dX0_init_16 : decode cX0_init 16 = .ok (.iload_n 2, 1) := by decide +kernel
theorem dX0_init_17 : decode cX0_init 17 = .ok (.newarray .int, 2) := by decide +kernel
theorem dX0_init_19 : decode cX0_init 19 = .ok (.putfield 19, 3) := by decide +kernel
theorem dX0_init_22 : decode cX0_init 22 = .ok (.aload_n 0, 1) := by decide +kernel
theorem dX0_init_23 : decode cX0_init 23 = .ok (.iload_n 2, 1) := by decide +kernel
theorem dX0_init_24 : decode cX0_init 24 = .ok (.newarray .int, 2) := by decide +kernel
theorem dX0_init_26 : decode cX0_init 26 = .ok (.putfield 23, 3) := by decide +kernel
theorem dX0_init_29 : decode cX0_init 29 = .ok (.aload_n 0, 1) := by decide +kernel
theorem dX0_init_30 : decode cX0_init 30 = .ok (.iload_n 2, 1) := by decide +kernel
theorem dX0_init_31 : decode cX0_init 31 = .ok (.newarray .int, 2) := by decide +kernel
theorem dX0_init_33 : decode cX0_init 33 = .ok (.putfield 26, 3) := by decide +kernel
theorem dX0_init_36 : decode cX0_init 36 = .ok (.return_, 1) := by decide +kernel
theorem dX4_init_0 : decode cX4_init 0 = .ok (.aload_n 0, 1) := by decide +kernel
theorem dX4_init_1 : decode cX4_init 1 = .ok (.invokespecial 3, 3) := by decide +kernel
theorem dX4_init_4 : decode cX4_init 4 = .ok (.aload_n 0, 1) := by decide +kernel
theorem dX4_init_5 : decode cX4_init 5 = .ok (.bipush 100, 2) := by decide +kernel
theorem dX4_init_7 : decode cX4_init 7 = .ok (.newarray .int, 2) := by decide +kernel
theorem dX4_init_9 : decode cX4_init 9 = .ok (.putfield 9, 3) := by decide +kernel
theorem dX4_init_12 : decode cX4_init 12 = .ok (.aload_n 0, 1) := by decide +kernel
theorem dX4_init_13 : decode cX4_init 13 = .ok (.iconst 0, 1) := by decide +kernel
theorem dX4_init_14 : decode cX4_init 14 = .ok (.putfield 15, 3) := by decide +kernel
theorem dX4_init_17 : decode cX4_init 17 = .ok (.aload_n 0, 1) := by decide +kernel
theorem dX4_init_18 : decode cX4_init 18 = .ok (.iconst 0, 1) := by decide +kernel
theorem dX4_init_19 : decode cX4_init 19 = .ok (.putfield 19, 3) := by decide +kernel
theorem dX4_init_22 : decode cX4_init 22 = .ok (.aload_n 0, 1) := by decide +kernel
theorem dX4_init_23 : decode cX4_init 23 = .ok (.iconst 0, 1) := by decide +kernel
theorem dX4_init_24 : decode cX4_init 24 = .ok (.putfield 22, 3) := by decide +kernel
theorem dX4_init_27 : decode cX4_init 27 = .ok (.return_, 1) := by decide +kernel
theorem fnew_0 : ∀ j, j < 4 → defaultValue (clty 0 j) = vp_V [.null, .null, .null, .int 0] j := by
  intro j hj
  match j, hj with
  | 0, _ => rfl
  | 1, _ => rfl
  | 2, _ => rfl
  | 3, _ => rfl
  | k + 4, h => omega
theorem fnew_1 : ∀ j, j < 10 → defaultValue (clty 1 j) = vp_V [.null, .null, .null, .null, .null, .null, .int 0, .null, .null, .null] j := by
  intro j hj
  match j, hj with
  | 0, _ => rfl
  | 1, _ => rfl
  | 2, _ => rfl
  | 3, _ => rfl
  | 4, _ => rfl
  | 5, _ => rfl
  | 6, _ => rfl
  | 7, _ => rfl
  | 8, _ => rfl
  | 9, _ => rfl
  | k + 10, h => omega
theorem fnew_2 : ∀ j, j < 4 → defaultValue (clty 2 j) = vp_V [.null, .null, .null, .int 0] j := by
  intro j hj
  match j, hj with
  | 0, _ => rfl
  | 1, _ => rfl
  | 2, _ => rfl
  | 3, _ => rfl
  | k + 4, h => omega
theorem fnew_3 : ∀ j, j < 15 → defaultValue (clty 3 j) = vp_V [.null, .null, .int 0, .int 0, .int 0, .int 0, .null, .null, .null, .null, .int 0, .int 0, .null, .null, .int 0] j := by
  intro j hj
  match j, hj with
  | 0, _ => rfl
  | 1, _ => rfl
  | 2, _ => rfl
  | 3, _ => rfl
  | 4, _ => rfl
  | 5, _ => rfl
  | 6, _ => rfl
  | 7, _ => rfl
  | 8, _ => rfl
  | 9, _ => rfl
  | 10, _ => rfl
  | 11, _ => rfl
  | 12, _ => rfl
  | 13, _ => rfl
  | 14, _ => rfl
  | k + 15, h => omega
theorem fnew_4 : ∀ j, j < 4 → defaultValue (clty 4 j) = vp_V [.null, .int 0, .int 0, .int 0] j := by
  intro j hj
  match j, hj with
  | 0, _ => rfl
  | 1, _ => rfl
  | 2, _ => rfl
  | 3, _ => rfl
  | k + 4, h => omega
theorem fnew_5 : ∀ j, j < 8 → defaultValue (clty 5 j) = vp_V [.null, .int 0, .int 0, .null, .int 0, .int 0, .int 0, .int 0] j := by
  intro j hj
  match j, hj with
  | 0, _ => rfl
  | 1, _ => rfl
  | 2, _ => rfl
  | 3, _ => rfl
  | 4, _ => rfl
  | 5, _ => rfl
  | 6, _ => rfl
  | 7, _ => rfl
  | k + 8, h => omega
theorem fnew_6 : ∀ j, j < 7 → defaultValue (clty 6 j) = vp_V [.null, .null, .null, .null, .null, .null, .int 0] j := by
  intro j hj
  match j, hj with
  | 0, _ => rfl
  | 1, _ => rfl
  | 2, _ => rfl
  | 3, _ => rfl
  | 4, _ => rfl
  | 5, _ => rfl
  | 6, _ => rfl
  | k + 7, h => omega
theorem fnew_7 : ∀ j, j < 67 → defaultValue (clty 7 j) = vp_V [.int 0, .null, .null, .null, .null, .null, .null, .null, .null, .null, .null, .null, .null, .null, .null, .null, .null, .null, .null, .null, .null, .int 0, .int 0, .null, .int 0, .null, .null, .null, .null, .int 0, .int 0, .null, .null, .null, .int 0, .null, .int 0, .int 0, .int 0, .null, .null, .null, .null, .null, .null, .null, .null, .null, .null, .int 0, .int 0, .int 0, .int 0, .null, .null, .null, .null, .null, .null, .null, .int 0, .null, .null, .null, .null, .null, .null] j := by
  intro j hj
  match j, hj with
  | 0, _ => rfl
  | 1, _ => rfl
  | 2, _ => rfl
  | 3, _ => rfl
  | 4, _ => rfl
  | 5, _ => rfl
  | 6, _ => rfl
  | 7, _ => rfl
  | 8, _ => rfl
  | 9, _ => rfl
  | 10, _ => rfl
  | 11, _ => rfl
  | 12, _ => rfl
  | 13, _ => rfl
  | 14, _ => rfl
  | 15, _ => rfl
  | 16, _ => rfl
  | 17, _ => rfl
  | 18, _ => rfl
  | 19, _ => rfl
  | 20, _ => rfl
  | 21, _ => rfl
  | 22, _ => rfl
  | 23, _ => rfl
  | 24, _ => rfl
  | 25, _ => rfl
  | 26, _ => rfl
  | 27, _ => rfl
  | 28, _ => rfl
  | 29, _ => rfl
  | 30, _ => rfl
  | 31, _ => rfl
  | 32, _ => rfl
  | 33, _ => rfl
  | 34, _ => rfl
  | 35, _ => rfl
  | 36, _ => rfl
  | 37, _ => rfl
  | 38, _ => rfl
  | 39, _ => rfl
  | 40, _ => rfl
  | 41, _ => rfl
  | 42, _ => rfl
  | 43, _ => rfl
  | 44, _ => rfl
  | 45, _ => rfl
  | 46, _ => rfl
  | 47, _ => rfl
  | 48, _ => rfl
  | 49, _ => rfl
  | 50, _ => rfl
  | 51, _ => rfl
  | 52, _ => rfl
  | 53, _ => rfl
  | 54, _ => rfl
  | 55, _ => rfl
  | 56, _ => rfl
  | 57, _ => rfl
  | 58, _ => rfl
  | 59, _ => rfl
  | 60, _ => rfl
  | 61, _ => rfl
  | 62, _ => rfl
  | 63, _ => rfl
  | 64, _ => rfl
  | 65, _ => rfl
  | 66, _ => rfl
  | k + 67, h => omega
/-- the class's object behind its constructor -/
def TS (g : GS) (h : Nat) : Prop := ∃ tp nw rl lg : Nat, g.2.1 h 0 = .ref tp ∧ g.2.1 h 1 = .ref nw ∧ g.2.1 h 2 = .ref rl ∧ g.2.1 h 3 = .ref lg ∧ g.1 tp = 5 ∧ g.1 nw = 19 ∧ g.1 rl = 1 ∧ g.1 lg = 9 ∧ g.2.1 tp 1 = .int 0 ∧ g.2.1 nw 1 = .int 0 ∧ g.2.1 rl 3 = .int 0 ∧ g.2.1 lg 3 = .int 0

abbrev md_k_Program : Nat → Nat → Bool := mdf [(13, 0), (13, 1), (13, 2), (13, 3)]
set_option maxHeartbeats 4000000 in
set_option maxRecDepth 100000 in
theorem k_Program (l : Launch) (D : va_G) (cI cZ cS cR : ClassId) (N0 : NT) (g : GS) (hI : Inv g) (h : Nat) (r_h : g.1 h = 13) : Ty l D cI cZ cS cR N0 yX2_init cX2_init 1 none 0 3 24 [.ref h] g (fun v g' => v = none ∧ Inv g' ∧ Exx h g g' ∧ Sm md_k_Program g g' ∧ g'.1 h = 3 ∧ (g'.2.1 h 3 = .int 0) ∧ (FR g g' h)) := by
  refine t_enter (by decide) (Nat.le_of_ble_eq_true rfl) ?_
  intro p e s m args below meth c ls H locs hB hr hin hl hT
  have hx := hB.1
  have hb := hB.2.1
  have hl : lv_has ls 1 [(0, .ref h)] := hl
  replace hE : Ex g g := Ex.rf
  replace hM : Sm md_k_Program g g := Sm.rf
  refine lv_aload_n hx hb dX2_init_0 rfl (lv_at hl 0 rfl) ?_
  refine t_oinit hB k_120 k_78 k_79 hl.1 dX2_init_1 (Nat.le_of_ble_eq_true rfl) (Nat.le_of_ble_eq_true rfl) ?_
  refine lv_aload_n hx hb dX2_init_4 rfl (lv_at hl 0 rfl) ?_
  refine lv_bipush (v := 8) hx hb dX2_init_5 (by decide) ?_
  refine t_newi (N' := 8) hB hT 68 (by decide) k_101 (by decide) (by decide) (by decide) (Nat.le_of_ble_eq_true rfl) (Nat.le_of_ble_eq_true rfl) dX2_init_7 (fun q_1 H o_q_1 hT => ?_)
  have z_q_1 : g.1 q_1 = 0 := hE.z0 o_q_1
  replace hI : Inv (sA g q_1 68 8) := hI.newi o_q_1 (by decide) (fun _ => rfl) trivial (fun _ => trivial)
  replace hM : Sm md_k_Program g (sA g q_1 68 8) := hM.tr hE (Sm.push o_q_1 sA_g)
  replace hE : Ex g (sA g q_1 68 8) := hE.tr (Ex.push o_q_1 sA_g)
  have r_2 : (sA g q_1 68 8).1 h = 13 := ((sA_g h (ne0 r_h o_q_1 (by decide))).1.trans r_h)
  have r_3 : (sA g q_1 68 8).1 q_1 = 68 := sA_r
  have n_4 : (sA g q_1 68 8).2.2.1 q_1 = 8 := sA_n
  generalize (sA g q_1 68 8) = g_5 at hT hI hM hE r_2 r_3 n_4
  refine W.widen (k := 1) (n := 8) (Nat.le_of_ble_eq_true rfl) (Nat.le_of_ble_eq_true rfl) ?_
  refine t_put0 (ci := 2) (v := .ref q_1) hB hT (ro_ci r_2 rfl) (ro_n0 r_2 (by decide)) rfl 0 (by decide) k_121 (Or.inr ⟨hin, rfl⟩) rfl rfl dX2_init_9 (fun H locs hT => ?_)
  replace hI : Inv (sF g_5 h 0 (.ref q_1)) := hI.sF (fk r_2 (show fsm _ _ ft from trivial))
  replace hM : Sm md_k_Program g (sF g_5 h 0 (.ref q_1)) := hM.tr hE (Sm_sF (by rw [r_2]; rfl))
  replace hE : Ex g (sF g_5 h 0 (.ref q_1)) := hE
  refine lv_aload_n hx hb dX2_init_12 rfl (lv_at hl 0 rfl) ?_
  refine lv_bipush (v := 8) hx hb dX2_init_13 (by decide) ?_
  refine t_newi (N' := 8) hB hT 69 (by decide) k_101 (by decide) (by decide) (by decide) (Nat.le_of_ble_eq_true rfl) (Nat.le_of_ble_eq_true rfl) dX2_init_15 (fun q_6 H o_q_6 hT => ?_)
  have z_q_6 : g.1 q_6 = 0 := hE.z0 o_q_6
  replace hI : Inv (sA (sF g_5 h 0 (.ref q_1)) q_6 69 8) := hI.newi o_q_6 (by decide) (fun _ => rfl) ⟨by decide, by decide⟩ (fun _ => trivial)
  replace hM : Sm md_k_Program g (sA (sF g_5 h 0 (.ref q_1)) q_6 69 8) := hM.tr hE (Sm.push o_q_6 sA_g)
  replace hE : Ex g (sA (sF g_5 h 0 (.ref q_1)) q_6 69 8) := hE.tr (Ex.push o_q_6 sA_g)
  have r_7 : (sA (sF g_5 h 0 (.ref q_1)) q_6 69 8).1 h = 13 := ((sA_g h (ne0 r_2 o_q_6 (by decide))).1.trans r_2)
  have r_8 : (sA (sF g_5 h 0 (.ref q_1)) q_6 69 8).1 q_1 = 68 := ((sA_g q_1 (ne0 r_3 o_q_6 (by decide))).1.trans r_3)
  have r_9 : (sA (sF g_5 h 0 (.ref q_1)) q_6 69 8).1 q_6 = 69 := sA_r
  have n_10 : (sA (sF g_5 h 0 (.ref q_1)) q_6 69 8).2.2.1 q_1 = 8 := ((sA_g q_1 (ne0 r_3 o_q_6 (by decide))).2.2.1.trans n_4)
  have n_11 : (sA (sF g_5 h 0 (.ref q_1)) q_6 69 8).2.2.1 q_6 = 8 := sA_n
  have kn_12 : (sA (sF g_5 h 0 (.ref q_1)) q_6 69 8).2.1 h 0 = .ref q_1 := ((congrFun (sA_g h (ne0 r_2 o_q_6 (by decide))).2.1 0).trans sF_eq)
  generalize (sA (sF g_5 h 0 (.ref q_1)) q_6 69 8) = g_13 at hT hI hM hE r_7 r_8 r_9 n_10 n_11 kn_12
  clear n_4 r_2 r_3
  refine W.widen (k := 2) (n := 16) (Nat.le_of_ble_eq_true rfl) (Nat.le_of_ble_eq_true rfl) ?_
  refine t_put0 (ci := 2) (v := .ref q_6) hB hT (ro_ci r_7 rfl) (ro_n0 r_7 (by decide)) rfl 1 (by decide) k_125 (Or.inr ⟨hin, rfl⟩) rfl rfl dX2_init_17 (fun H locs hT => ?_)
  replace hI : Inv (sF g_13 h 1 (.ref q_6)) := hI.sF (fk r_7 (show fsm _ _ ft from trivial))
  replace hM : Sm md_k_Program g (sF g_13 h 1 (.ref q_6)) := hM.tr hE (Sm_sF (by rw [r_7]; rfl))
  replace hE : Ex g (sF g_13 h 1 (.ref q_6)) := hE
  refine lv_aload_n hx hb dX2_init_20 rfl (lv_at hl 0 rfl) ?_
  refine lv_bipush (v := 8) hx hb dX2_init_21 (by decide) ?_
  refine t_newi (N' := 8) hB hT 70 (by decide) k_101 (by decide) (by decide) (by decide) (Nat.le_of_ble_eq_true rfl) (Nat.le_of_ble_eq_true rfl) dX2_init_23 (fun q_14 H o_q_14 hT => ?_)
  have z_q_14 : g.1 q_14 = 0 := hE.z0 o_q_14
  replace hI : Inv (sA (sF g_13 h 1 (.ref q_6)) q_14 70 8) := hI.newi o_q_14 (by decide) (fun _ => rfl) trivial (fun _ => trivial)
  replace hM : Sm md_k_Program g (sA (sF g_13 h 1 (.ref q_6)) q_14 70 8) := hM.tr hE (Sm.push o_q_14 sA_g)
  replace hE : Ex g (sA (sF g_13 h 1 (.ref q_6)) q_14 70 8) := hE.tr (Ex.push o_q_14 sA_g)
  have r_15 : (sA (sF g_13 h 1 (.ref q_6)) q_14 70 8).1 h = 13 := ((sA_g h (ne0 r_7 o_q_14 (by decide))).1.trans r_7)
  have r_16 : (sA (sF g_13 h 1 (.ref q_6)) q_14 70 8).1 q_1 = 68 := ((sA_g q_1 (ne0 r_8 o_q_14 (by decide))).1.trans r_8)
  have r_17 : (sA (sF g_13 h 1 (.ref q_6)) q_14 70 8).1 q_6 = 69 := ((sA_g q_6 (ne0 r_9 o_q_14 (by decide))).1.trans r_9)
  have r_18 : (sA (sF g_13 h 1 (.ref q_6)) q_14 70 8).1 q_14 = 70 := sA_r
  have n_19 : (sA (sF g_13 h 1 (.ref q_6)) q_14 70 8).2.2.1 q_1 = 8 := ((sA_g q_1 (ne0 r_8 o_q_14 (by decide))).2.2.1.trans n_10)
  have n_20 : (sA (sF g_13 h 1 (.ref q_6)) q_14 70 8).2.2.1 q_6 = 8 := ((sA_g q_6 (ne0 r_9 o_q_14 (by decide))).2.2.1.trans n_11)
  have n_21 : (sA (sF g_13 h 1 (.ref q_6)) q_14 70 8).2.2.1 q_14 = 8 := sA_n
  have kn_22 : (sA (sF g_13 h 1 (.ref q_6)) q_14 70 8).2.1 h 0 = .ref q_1 := ((congrFun (sA_g h (ne0 r_7 o_q_14 (by decide))).2.1 0).trans (sF_k kn_12 (by decide)))
  have kn_23 : (sA (sF g_13 h 1 (.ref q_6)) q_14 70 8).2.1 h 1 = .ref q_6 := ((congrFun (sA_g h (ne0 r_7 o_q_14 (by decide))).2.1 1).trans sF_eq)
  generalize (sA (sF g_13 h 1 (.ref q_6)) q_14 70 8) = g_24 at hT hI hM hE r_15 r_16 r_17 r_18 n_19 n_20 n_21 kn_22 kn_23
  clear kn_12 n_10 n_11 r_7 r_8 r_9
  refine W.widen (k := 3) (n := 24) (Nat.le_of_ble_eq_true rfl) (Nat.le_of_ble_eq_true rfl) ?_
  refine t_put0 (ci := 2) (v := .ref q_14) hB hT (ro_ci r_15 rfl) (ro_n0 r_15 (by decide)) rfl 2 (by decide) k_129 (Or.inr ⟨hin, rfl⟩) rfl rfl dX2_init_25 (fun H locs hT => ?_)
  replace hI : Inv (sF g_24 h 2 (.ref q_14)) := hI.sF (fk r_15 (show fsm _ _ ft from trivial))
  replace hM : Sm md_k_Program g (sF g_24 h 2 (.ref q_14)) := hM.tr hE (Sm_sF (by rw [r_15]; rfl))
  replace hE : Ex g (sF g_24 h 2 (.ref q_14)) := hE
  refine lv_aload_n hx hb dX2_init_28 rfl (lv_at hl 0 rfl) ?_
  refine lv_iconst (v := 0) hx hb dX2_init_29 (by decide) ?_
  refine t_put0 (ci := 2) (v := .int 0) hB hT (ro_ci r_15 rfl) (ro_n0 r_15 (by decide)) rfl 3 (by decide) k_131 (Or.inl rfl) rfl rfl dX2_init_30 (fun H locs hT => ?_)
  replace hI : Inv (sF (sF g_24 h 2 (.ref q_14)) h 3 (.int 0)) := hI.sF (fk r_15 (show fsm _ _ ft from trivial))
  replace hM : Sm md_k_Program g (sF (sF g_24 h 2 (.ref q_14)) h 3 (.int 0)) := hM.tr hE (Sm_sF (by rw [r_15]; rfl))
  replace hE : Ex g (sF (sF g_24 h 2 (.ref q_14)) h 3 (.int 0)) := hE
  have hF : ∀ k, Fok (sR (sF (sF g_24 h 2 (.ref q_14)) h 3 (.int 0)) h 3) 3 k ((sF (sF g_24 h 2 (.ref q_14)) h 3 (.int 0)).2.1 h k) := fun k => match k with
    | 0 => (by rw [(sF_k (sF_k kn_22 (by decide)) (by decide))]; exact q_3_0 ⟨_, rfl, sR_r r_16 (ro_ne r_16 r_15 (by decide)), n_19⟩)
    | 1 => (by rw [(sF_k (sF_k kn_23 (by decide)) (by decide))]; exact q_3_1 ⟨_, rfl, sR_r r_17 (ro_ne r_17 r_15 (by decide)), n_20⟩)
    | 2 => (by rw [(sF_k sF_eq (by decide))]; exact q_3_2 ⟨_, rfl, sR_r r_18 (ro_ne r_18 r_15 (by decide)), n_21⟩)
    | 3 => (by rw [sF_eq]; exact q_3_3 ⟨_, rfl, by decide, by decide⟩)
    | k + 4 => (show fsm _ _ ft from trivial)
  have hT : Tv D cI cZ cS cR N0 s.heap H locs (sR (sF (sF g_24 h 2 (.ref q_14)) h 3 (.int 0)) h 3) := ⟨hT.1.promo (by rw [r_15]; decide) (by rw [r_15]; rfl) (Or.inl (by decide)), hT.2⟩
  replace hI : Inv (sR (sF (sF g_24 h 2 (.ref q_14)) h 3 (.int 0)) h 3) := hI.promo (by rw [r_15]; decide) hF (fun _ _ => trivial) (fun _ _ => trivial)
  replace hM : Sm md_k_Program g (sR (sF (sF g_24 h 2 (.ref q_14)) h 3 (.int 0)) h 3) := hM
  have hX : Exx h g (sR (sF (sF g_24 h 2 (.ref q_14)) h 3 (.int 0)) h 3) := Exx.promo hE
  exact t_vret hB hr hT (Nat.le_of_ble_eq_true rfl) (Nat.le_of_ble_eq_true rfl) dX2_init_33 ⟨rfl, hI, hX, hM, if_pos rfl, sF_eq, ⟨_, _, _, (sF_k (sF_k kn_22 (by decide)) (by decide)), (sF_k (sF_k kn_23 (by decide)) (by decide)), (sF_k sF_eq (by decide)), sR_r r_16 (ro_ne r_16 r_15 (by decide)), sR_r r_17 (ro_ne r_17 r_15 (by decide)), sR_r r_18 (ro_ne r_18 r_15 (by decide)), n_19, n_20, n_21, z_q_1, z_q_6, z_q_14⟩⟩
abbrev md_s_Service : Nat → Nat → Bool := mdf [(13, 0), (13, 1), (13, 2), (13, 3), (14, 0), (14, 1), (14, 2), (14, 3), (14, 4), (14, 5), (14, 6), (14, 7), (14, 8), (14, 9), (14, 10), (14, 11), (14, 12), (14, 13), (14, 14)]
theorem mdle_s_Service_k_Program {r k : Nat} (h : md_s_Service r k = false) : md_k_Program r k = false := mdf_le (by decide +kernel) h
set_option maxHeartbeats 4000000 in
set_option maxRecDepth 100000 in
theorem s_Service (l : Launch) (D : va_G) (cI cZ cS cR : ClassId) (N0 : NT) (g : GS) (hI : Inv g) (h : Nat) (r_h : g.1 h = 14) : Ty l D cI cZ cS cR N0 yX3_init cX3_init 1 none 1 11 112 [.ref h] g (fun v g' => v = none ∧ Inv g' ∧ Exx h g g' ∧ Sm md_s_Service g g' ∧ g'.1 h = 4 ∧ (g'.2.1 h 3 = .int 0) ∧ (g'.2.1 h 4 = .int 10)) := by
  refine t_enter (by decide) (Nat.le_of_ble_eq_true rfl) ?_
  intro p e s m args below meth c ls H locs hB hr hin hl hT
  have hx := hB.1
  have hb := hB.2.1
  have hl : lv_has ls 1 [(0, .ref h)] := hl
  replace hE : Ex g g := Ex.rf
  replace hM : Sm md_s_Service g g := Sm.rf
  refine lv_aload_n hx hb dX3_init_0 rfl (lv_at hl 0 rfl) ?_
  refine t_oinit hB k_114 k_78 k_79 hl.1 dX3_init_1 (Nat.le_of_ble_eq_true rfl) (Nat.le_of_ble_eq_true rfl) ?_
  refine lv_aload_n hx hb dX3_init_4 rfl (lv_at hl 0 rfl) ?_
  refine t_new (ci := 2) (fs := [.null, .null, .null, .int 0]) hB hT rfl (by decide) k_115 k_116 k_61 (fnew_2) (Nat.le_of_ble_eq_true rfl) (Nat.le_of_ble_eq_true rfl) dX3_init_5 (fun q_1 H o_q_1 hT => ?_)
  have z_q_1 : g.1 q_1 = 0 := hE.z0 o_q_1
  replace hI : Inv (sN g q_1 13 (vp_V [.null, .null, .null, .int 0])) := hI.newo o_q_1 (fun _ => rfl) (fun _ => trivial) (fun _ _ => trivial)
  replace hM : Sm md_s_Service g (sN g q_1 13 (vp_V [.null, .null, .null, .int 0])) := hM.tr hE (Sm.push o_q_1 sN_g)
  replace hE : Ex g (sN g q_1 13 (vp_V [.null, .null, .null, .int 0])) := hE.tr (Ex.push o_q_1 sN_g)
  have r_2 : (sN g q_1 13 (vp_V [.null, .null, .null, .int 0])).1 h = 14 := ((sN_g h (ne0 r_h o_q_1 (by decide))).1.trans r_h)
  have r_3 : (sN g q_1 13 (vp_V [.null, .null, .null, .int 0])).1 q_1 = 13 := sN_r
  have kn_4 : (sN g q_1 13 (vp_V [.null, .null, .null, .int 0])).2.1 q_1 0 = .null := sN_f
  have kn_5 : (sN g q_1 13 (vp_V [.null, .null, .null, .int 0])).2.1 q_1 1 = .null := sN_f
  have kn_6 : (sN g q_1 13 (vp_V [.null, .null, .null, .int 0])).2.1 q_1 2 = .null := sN_f
  have kn_7 : (sN g q_1 13 (vp_V [.null, .null, .null, .int 0])).2.1 q_1 3 = .int 0 := sN_f
  generalize (sN g q_1 13 (vp_V [.null, .null, .null, .int 0])) = g_8 at hT hI hM hE r_2 r_3 kn_4 kn_5 kn_6 kn_7
  refine W.widen (k := 1) (n := 4) (Nat.le_of_ble_eq_true rfl) (Nat.le_of_ble_eq_true rfl) ?_
  refine lv_dup hx hb dX3_init_8 rfl ?_
  refine t_callIN (n := 0) (As := []) (rest := [.ref q_1, .ref h]) hB hT hl.1 (k_Program l D cI cZ cS cR N0 g_8 hI q_1 r_3) k_119 k_61 hB.2.2.2.2.2.2.2.1.2.2.1 k_118 rfl (by decide +kernel) ⟨(Nat.le_of_ble_eq_true rfl), (Nat.le_of_ble_eq_true rfl)⟩ rfl (Nat.le_of_ble_eq_true rfl) ⟨(Nat.le_of_ble_eq_true rfl), (Nat.le_of_ble_eq_true rfl)⟩ dX3_init_9 (fun v g_9 H locs hp hT => ?_)
  obtain ⟨rfl, hI, x_13, m_12, r_14, f_10, f_11⟩ := hp
  replace hM : Sm md_s_Service g g_9 := hM.tr hE (m_12.mo (fun r k h => mdle_s_Service_k_Program h))
  replace hE : Ex g g_9 := hE.trx z_q_1 x_13
  have r_15 : g_9.1 h = 14 := (Exx.r x_13 r_2 (by decide) (ro_ne r_2 r_3 (by decide)))
  have r_16 : g_9.1 q_1 = 3 := r_14
  refine W.eq (g2 := F0 m 12 ls [.ref q_1, .ref h]) rfl ?_
  refine t_put0 (ci := 3) (v := .ref q_1) hB hT (ro_ci r_15 rfl) (ro_n0 r_15 (by decide)) rfl 0 (by decide) k_143 (Or.inl rfl) rfl rfl dX3_init_12 (fun H locs hT => ?_)
  replace hI : Inv (sF g_9 h 0 (.ref q_1)) := hI.sF (fk r_15 (show fsm _ _ ft from trivial))
  replace hM : Sm md_s_Service g (sF g_9 h 0 (.ref q_1)) := hM.tr hE (Sm_sF (by rw [r_15]; rfl))
  replace hE : Ex g (sF g_9 h 0 (.ref q_1)) := hE
  refine lv_aload_n hx hb dX3_init_15 rfl (lv_at hl 0 rfl) ?_
  refine lv_iconst (v := 4) hx hb dX3_init_16 (by decide) ?_
  refine t_newi (N' := 4) hB hT 50 (by decide) k_101 (by decide) (by decide) (by decide) (Nat.le_of_ble_eq_true rfl) (Nat.le_of_ble_eq_true rfl) dX3_init_17 (fun q_17 H o_q_17 hT => ?_)
  have z_q_17 : g.1 q_17 = 0 := hE.z0 o_q_17
  replace hI : Inv (sA (sF g_9 h 0 (.ref q_1)) q_17 50 4) := hI.newi o_q_17 (by decide) (fun _ => rfl) trivial (fun _ => trivial)
  replace hM : Sm md_s_Service g (sA (sF g_9 h 0 (.ref q_1)) q_17 50 4) := hM.tr hE (Sm.push o_q_17 sA_g)
  replace hE : Ex g (sA (sF g_9 h 0 (.ref q_1)) q_17 50 4) := hE.tr (Ex.push o_q_17 sA_g)
  have r_18 : (sA (sF g_9 h 0 (.ref q_1)) q_17 50 4).1 h = 14 := ((sA_g h (ne0 r_15 o_q_17 (by decide))).1.trans r_15)
  have r_19 : (sA (sF g_9 h 0 (.ref q_1)) q_17 50 4).1 q_1 = 3 := ((sA_g q_1 (ne0 r_16 o_q_17 (by decide))).1.trans r_16)
  have r_20 : (sA (sF g_9 h 0 (.ref q_1)) q_17 50 4).1 q_17 = 50 := sA_r
  have n_21 : (sA (sF g_9 h 0 (.ref q_1)) q_17 50 4).2.2.1 q_17 = 4 := sA_n
  have kn_22 : (sA (sF g_9 h 0 (.ref q_1)) q_17 50 4).2.1 q_1 3 = .int 0 := ((congrFun (sA_g q_1 (ne0 r_16 o_q_17 (by decide))).2.1 3).trans (sF_k f_10 (by decide)))
  have kn_23 : (sA (sF g_9 h 0 (.ref q_1)) q_17 50 4).2.1 h 0 = .ref q_1 := ((congrFun (sA_g h (ne0 r_15 o_q_17 (by decide))).2.1 0).trans sF_eq)
  generalize (sA (sF g_9 h 0 (.ref q_1)) q_17 50 4) = g_24 at hT hI hM hE r_18 r_19 r_20 n_21 kn_22 kn_23
  clear r_15 r_16
  refine W.widen (k := 5) (n := 32) (Nat.le_of_ble_eq_true rfl) (Nat.le_of_ble_eq_true rfl) ?_
  refine t_put0 (ci := 3) (v := .ref q_17) hB hT (ro_ci r_18 rfl) (ro_n0 r_18 (by decide)) rfl 1 (by decide) k_146 (Or.inr ⟨hin, rfl⟩) rfl rfl dX3_init_19 (fun H locs hT => ?_)
  replace hI : Inv (sF g_24 h 1 (.ref q_17)) := hI.sF (fk r_18 (show fsm _ _ ft from trivial))
  replace hM : Sm md_s_Service g (sF g_24 h 1 (.ref q_17)) := hM.tr hE (Sm_sF (by rw [r_18]; rfl))
  replace hE : Ex g (sF g_24 h 1 (.ref q_17)) := hE
  refine lv_aload_n hx hb dX3_init_22 rfl (lv_at hl 0 rfl) ?_
  refine lv_iconst (v := 0) hx hb dX3_init_23 (by decide) ?_
  refine t_put0 (ci := 3) (v := .int 0) hB hT (ro_ci r_18 rfl) (ro_n0 r_18 (by decide)) rfl 2 (by decide) k_149 (Or.inl rfl) rfl rfl dX3_init_24 (fun H locs hT => ?_)
  replace hI : Inv (sF (sF g_24 h 1 (.ref q_17)) h 2 (.int 0)) := hI.sF (fk r_18 (show fsm _ _ ft from trivial))
  replace hM : Sm md_s_Service g (sF (sF g_24 h 1 (.ref q_17)) h 2 (.int 0)) := hM.tr hE (Sm_sF (by rw [r_18]; rfl))
  replace hE : Ex g (sF (sF g_24 h 1 (.ref q_17)) h 2 (.int 0)) := hE
  refine lv_aload_n hx hb dX3_init_27 rfl (lv_at hl 0 rfl) ?_
  refine lv_iconst (v := 0) hx hb dX3_init_28 (by decide) ?_
  refine t_put0 (ci := 3) (v := .int 0) hB hT (ro_ci r_18 rfl) (ro_n0 r_18 (by decide)) rfl 3 (by decide) k_152 (Or.inl rfl) rfl rfl dX3_init_29 (fun H locs hT => ?_)
  replace hI : Inv (sF (sF (sF g_24 h 1 (.ref q_17)) h 2 (.int 0)) h 3 (.int 0)) := hI.sF (fk r_18 (show fsm _ _ ft from trivial))
  replace hM : Sm md_s_Service g (sF (sF (sF g_24 h 1 (.ref q_17)) h 2 (.int 0)) h 3 (.int 0)) := hM.tr hE (Sm_sF (by rw [r_18]; rfl))
  replace hE : Ex g (sF (sF (sF g_24 h 1 (.ref q_17)) h 2 (.int 0)) h 3 (.int 0)) := hE
  refine lv_aload_n hx hb dX3_init_32 rfl (lv_at hl 0 rfl) ?_
  refine lv_bipush (v := 10) hx hb dX3_init_33 (by decide) ?_
  refine t_put0 (ci := 3) (v := .int 10) hB hT (ro_ci r_18 rfl) (ro_n0 r_18 (by decide)) rfl 4 (by decide) k_155 (Or.inl rfl) rfl rfl dX3_init_35 (fun H locs hT => ?_)
  replace hI : Inv (sF (sF (sF (sF g_24 h 1 (.ref q_17)) h 2 (.int 0)) h 3 (.int 0)) h 4 (.int 10)) := hI.sF (fk r_18 (show fsm _ _ ft from trivial))
  replace hM : Sm md_s_Service g (sF (sF (sF (sF g_24 h 1 (.ref q_17)) h 2 (.int 0)) h 3 (.int 0)) h 4 (.int 10)) := hM.tr hE (Sm_sF (by rw [r_18]; rfl))
  replace hE : Ex g (sF (sF (sF (sF g_24 h 1 (.ref q_17)) h 2 (.int 0)) h 3 (.int 0)) h 4 (.int 10)) := hE
  refine lv_aload_n hx hb dX3_init_38 rfl (lv_at hl 0 rfl) ?_
  refine lv_iconst (v := 0) hx hb dX3_init_39 (by decide) ?_
  refine t_put0 (ci := 3) (v := .int 0) hB hT (ro_ci r_18 rfl) (ro_n0 r_18 (by decide)) rfl 5 (by decide) k_158 (Or.inl rfl) rfl rfl dX3_init_40 (fun H locs hT => ?_)
  replace hI : Inv (sF (sF (sF (sF (sF g_24 h 1 (.ref q_17)) h 2 (.int 0)) h 3 (.int 0)) h 4 (.int 10)) h 5 (.int 0)) := hI.sF (fk r_18 (show fsm _ _ ft from trivial))
  replace hM : Sm md_s_Service g (sF (sF (sF (sF (sF g_24 h 1 (.ref q_17)) h 2 (.int 0)) h 3 (.int 0)) h 4 (.int 10)) h 5 (.int 0)) := hM.tr hE (Sm_sF (by rw [r_18]; rfl))
  replace hE : Ex g (sF (sF (sF (sF (sF g_24 h 1 (.ref q_17)) h 2 (.int 0)) h 3 (.int 0)) h 4 (.int 10)) h 5 (.int 0)) := hE
  refine lv_aload_n hx hb dX3_init_43 rfl (lv_at hl 0 rfl) ?_
  refine lv_bipush (v := 16) hx hb dX3_init_44 (by decide) ?_
  refine t_newi (N' := 16) hB hT 50 (by decide) k_101 (by decide) (by decide) (by decide) (Nat.le_of_ble_eq_true rfl) (Nat.le_of_ble_eq_true rfl) dX3_init_46 (fun q_25 H o_q_25 hT => ?_)
  have z_q_25 : g.1 q_25 = 0 := hE.z0 o_q_25
  replace hI : Inv (sA (sF (sF (sF (sF (sF g_24 h 1 (.ref q_17)) h 2 (.int 0)) h 3 (.int 0)) h 4 (.int 10)) h 5 (.int 0)) q_25 50 16) := hI.newi o_q_25 (by decide) (fun _ => rfl) trivial (fun _ => trivial)
  replace hM : Sm md_s_Service g (sA (sF (sF (sF (sF (sF g_24 h 1 (.ref q_17)) h 2 (.int 0)) h 3 (.int 0)) h 4 (.int 10)) h 5 (.int 0)) q_25 50 16) := hM.tr hE (Sm.push o_q_25 sA_g)
  replace hE : Ex g (sA (sF (sF (sF (sF (sF g_24 h 1 (.ref q_17)) h 2 (.int 0)) h 3 (.int 0)) h 4 (.int 10)) h 5 (.int 0)) q_25 50 16) := hE.tr (Ex.push o_q_25 sA_g)
  have r_26 : (sA (sF (sF (sF (sF (sF g_24 h 1 (.ref q_17)) h 2 (.int 0)) h 3 (.int 0)) h 4 (.int 10)) h 5 (.int 0)) q_25 50 16).1 h = 14 := ((sA_g h (ne0 r_18 o_q_25 (by decide))).1.trans r_18)
  have r_27 : (sA (sF (sF (sF (sF (sF g_24 h 1 (.ref q_17)) h 2 (.int 0)) h 3 (.int 0)) h 4 (.int 10)) h 5 (.int 0)) q_25 50 16).1 q_1 = 3 := ((sA_g q_1 (ne0 r_19 o_q_25 (by decide))).1.trans r_19)
  have r_28 : (sA (sF (sF (sF (sF (sF g_24 h 1 (.ref q_17)) h 2 (.int 0)) h 3 (.int 0)) h 4 (.int 10)) h 5 (.int 0)) q_25 50 16).1 q_17 = 50 := ((sA_g q_17 (ne0 r_20 o_q_25 (by decide))).1.trans r_20)
  have r_29 : (sA (sF (sF (sF (sF (sF g_24 h 1 (.ref q_17)) h 2 (.int 0)) h 3 (.int 0)) h 4 (.int 10)) h 5 (.int 0)) q_25 50 16).1 q_25 = 50 := sA_r
  have n_30 : (sA (sF (sF (sF (sF (sF g_24 h 1 (.ref q_17)) h 2 (.int 0)) h 3 (.int 0)) h 4 (.int 10)) h 5 (.int 0)) q_25 50 16).2.2.1 q_17 = 4 := ((sA_g q_17 (ne0 r_20 o_q_25 (by decide))).2.2.1.trans n_21)
  have n_31 : (sA (sF (sF (sF (sF (sF g_24 h 1 (.ref q_17)) h 2 (.int 0)) h 3 (.int 0)) h 4 (.int 10)) h 5 (.int 0)) q_25 50 16).2.2.1 q_25 = 16 := sA_n
  have kn_32 : (sA (sF (sF (sF (sF (sF g_24 h 1 (.ref q_17)) h 2 (.int 0)) h 3 (.int 0)) h 4 (.int 10)) h 5 (.int 0)) q_25 50 16).2.1 q_1 3 = .int 0 := ((congrFun (sA_g q_1 (ne0 r_19 o_q_25 (by decide))).2.1 3).trans (sF_k (sF_k (sF_a (sF_k (sF_k kn_22 (by decide)) (by decide)) (ro_ne r_19 r_18 (by decide))) (by decide)) (by decide)))
  have kn_33 : (sA (sF (sF (sF (sF (sF g_24 h 1 (.ref q_17)) h 2 (.int 0)) h 3 (.int 0)) h 4 (.int 10)) h 5 (.int 0)) q_25 50 16).2.1 h 0 = .ref q_1 := ((congrFun (sA_g h (ne0 r_18 o_q_25 (by decide))).2.1 0).trans (sF_k (sF_k (sF_k (sF_k (sF_k kn_23 (by decide)) (by decide)) (by decide)) (by decide)) (by decide)))
  have kn_34 : (sA (sF (sF (sF (sF (sF g_24 h 1 (.ref q_17)) h 2 (.int 0)) h 3 (.int 0)) h 4 (.int 10)) h 5 (.int 0)) q_25 50 16).2.1 h 1 = .ref q_17 := ((congrFun (sA_g h (ne0 r_18 o_q_25 (by decide))).2.1 1).trans (sF_k (sF_k (sF_k (sF_k sF_eq (by decide)) (by decide)) (by decide)) (by decide)))
  have kn_35 : (sA (sF (sF (sF (sF (sF g_24 h 1 (.ref q_17)) h 2 (.int 0)) h 3 (.int 0)) h 4 (.int 10)) h 5 (.int 0)) q_25 50 16).2.1 h 2 = .int 0 := ((congrFun (sA_g h (ne0 r_18 o_q_25 (by decide))).2.1 2).trans (sF_k (sF_k (sF_k sF_eq (by decide)) (by decide)) (by decide)))
  have kn_36 : (sA (sF (sF (sF (sF (sF g_24 h 1 (.ref q_17)) h 2 (.int 0)) h 3 (.int 0)) h 4 (.int 10)) h 5 (.int 0)) q_25 50 16).2.1 h 3 = .int 0 := ((congrFun (sA_g h (ne0 r_18 o_q_25 (by decide))).2.1 3).trans (sF_k (sF_k sF_eq (by decide)) (by decide)))
  have kn_37 : (sA (sF (sF (sF (sF (sF g_24 h 1 (.ref q_17)) h 2 (.int 0)) h 3 (.int 0)) h 4 (.int 10)) h 5 (.int 0)) q_25 50 16).2.1 h 4 = .int 10 := ((congrFun (sA_g h (ne0 r_18 o_q_25 (by decide))).2.1 4).trans (sF_k sF_eq (by decide)))
  have kn_38 : (sA (sF (sF (sF (sF (sF g_24 h 1 (.ref q_17)) h 2 (.int 0)) h 3 (.int 0)) h 4 (.int 10)) h 5 (.int 0)) q_25 50 16).2.1 h 5 = .int 0 := ((congrFun (sA_g h (ne0 r_18 o_q_25 (by decide))).2.1 5).trans sF_eq)
  generalize (sA (sF (sF (sF (sF (sF g_24 h 1 (.ref q_17)) h 2 (.int 0)) h 3 (.int 0)) h 4 (.int 10)) h 5 (.int 0)) q_25 50 16) = g_39 at hT hI hM hE r_26 r_27 r_28 r_29 n_30 n_31 kn_32 kn_33 kn_34 kn_35 kn_36 kn_37 kn_38
  clear kn_22 kn_23 n_21 r_18 r_19 r_20
  refine W.widen (k := 6) (n := 48) (Nat.le_of_ble_eq_true rfl) (Nat.le_of_ble_eq_true rfl) ?_
  refine t_put0 (ci := 3) (v := .ref q_25) hB hT (ro_ci r_26 rfl) (ro_n0 r_26 (by decide)) rfl 6 (by decide) k_159 (Or.inr ⟨hin, rfl⟩) rfl rfl dX3_init_48 (fun H locs hT => ?_)
  replace hI : Inv (sF g_39 h 6 (.ref q_25)) := hI.sF (fk r_26 (show fsm _ _ ft from trivial))
  replace hM : Sm md_s_Service g (sF g_39 h 6 (.ref q_25)) := hM.tr hE (Sm_sF (by rw [r_26]; rfl))
  replace hE : Ex g (sF g_39 h 6 (.ref q_25)) := hE
  refine lv_aload_n hx hb dX3_init_51 rfl (lv_at hl 0 rfl) ?_
  refine lv_bipush (v := 16) hx hb dX3_init_52 (by decide) ?_
  refine t_newi (N' := 16) hB hT 50 (by decide) k_101 (by decide) (by decide) (by decide) (Nat.le_of_ble_eq_true rfl) (Nat.le_of_ble_eq_true rfl) dX3_init_54 (fun q_40 H o_q_40 hT => ?_)
  have z_q_40 : g.1 q_40 = 0 := hE.z0 o_q_40
  replace hI : Inv (sA (sF g_39 h 6 (.ref q_25)) q_40 50 16) := hI.newi o_q_40 (by decide) (fun _ => rfl) trivial (fun _ => trivial)
  replace hM : Sm md_s_Service g (sA (sF g_39 h 6 (.ref q_25)) q_40 50 16) := hM.tr hE (Sm.push o_q_40 sA_g)
  replace hE : Ex g (sA (sF g_39 h 6 (.ref q_25)) q_40 50 16) := hE.tr (Ex.push o_q_40 sA_g)
  have r_41 : (sA (sF g_39 h 6 (.ref q_25)) q_40 50 16).1 h = 14 := ((sA_g h (ne0 r_26 o_q_40 (by decide))).1.trans r_26)
  have r_42 : (sA (sF g_39 h 6 (.ref q_25)) q_40 50 16).1 q_1 = 3 := ((sA_g q_1 (ne0 r_27 o_q_40 (by decide))).1.trans r_27)
  have r_43 : (sA (sF g_39 h 6 (.ref q_25)) q_40 50 16).1 q_17 = 50 := ((sA_g q_17 (ne0 r_28 o_q_40 (by decide))).1.trans r_28)
  have r_44 : (sA (sF g_39 h 6 (.ref q_25)) q_40 50 16).1 q_25 = 50 := ((sA_g q_25 (ne0 r_29 o_q_40 (by decide))).1.trans r_29)
  have r_45 : (sA (sF g_39 h 6 (.ref q_25)) q_40 50 16).1 q_40 = 50 := sA_r
  have n_46 : (sA (sF g_39 h 6 (.ref q_25)) q_40 50 16).2.2.1 q_17 = 4 := ((sA_g q_17 (ne0 r_28 o_q_40 (by decide))).2.2.1.trans n_30)
  have n_47 : (sA (sF g_39 h 6 (.ref q_25)) q_40 50 16).2.2.1 q_25 = 16 := ((sA_g q_25 (ne0 r_29 o_q_40 (by decide))).2.2.1.trans n_31)
  have n_48 : (sA (sF g_39 h 6 (.ref q_25)) q_40 50 16).2.2.1 q_40 = 16 := sA_n
  have kn_49 : (sA (sF g_39 h 6 (.ref q_25)) q_40 50 16).2.1 q_1 3 = .int 0 := ((congrFun (sA_g q_1 (ne0 r_27 o_q_40 (by decide))).2.1 3).trans (sF_k kn_32 (by decide)))
  have kn_50 : (sA (sF g_39 h 6 (.ref q_25)) q_40 50 16).2.1 h 0 = .ref q_1 := ((congrFun (sA_g h (ne0 r_26 o_q_40 (by decide))).2.1 0).trans (sF_k kn_33 (by decide)))
  have kn_51 : (sA (sF g_39 h 6 (.ref q_25)) q_40 50 16).2.1 h 1 = .ref q_17 := ((congrFun (sA_g h (ne0 r_26 o_q_40 (by decide))).2.1 1).trans (sF_k kn_34 (by decide)))
  have kn_52 : (sA (sF g_39 h 6 (.ref q_25)) q_40 50 16).2.1 h 2 = .int 0 := ((congrFun (sA_g h (ne0 r_26 o_q_40 (by decide))).2.1 2).trans (sF_k kn_35 (by decide)))
  have kn_53 : (sA (sF g_39 h 6 (.ref q_25)) q_40 50 16).2.1 h 3 = .int 0 := ((congrFun (sA_g h (ne0 r_26 o_q_40 (by decide))).2.1 3).trans (sF_k kn_36 (by decide)))
  have kn_54 : (sA (sF g_39 h 6 (.ref q_25)) q_40 50 16).2.1 h 4 = .int 10 := ((congrFun (sA_g h (ne0 r_26 o_q_40 (by decide))).2.1 4).trans (sF_k kn_37 (by decide)))
  have kn_55 : (sA (sF g_39 h 6 (.ref q_25)) q_40 50 16).2.1 h 5 = .int 0 := ((congrFun (sA_g h (ne0 r_26 o_q_40 (by decide))).2.1 5).trans (sF_k kn_38 (by decide)))
  have kn_56 : (sA (sF g_39 h 6 (.ref q_25)) q_40 50 16).2.1 h 6 = .ref q_25 := ((congrFun (sA_g h (ne0 r_26 o_q_40 (by decide))).2.1 6).trans sF_eq)
  generalize (sA (sF g_39 h 6 (.ref q_25)) q_40 50 16) = g_57 at hT hI hM hE r_41 r_42 r_43 r_44 r_45 n_46 n_47 n_48 kn_49 kn_50 kn_51 kn_52 kn_53 kn_54 kn_55 kn_56
  clear kn_32 kn_33 kn_34 kn_35 kn_36 kn_37 kn_38 n_30 n_31 r_26 r_27 r_28 r_29
  refine W.widen (k := 7) (n := 64) (Nat.le_of_ble_eq_true rfl) (Nat.le_of_ble_eq_true rfl) ?_
  refine t_put0 (ci := 3) (v := .ref q_40) hB hT (ro_ci r_41 rfl) (ro_n0 r_41 (by decide)) rfl 7 (by decide) k_160 (Or.inr ⟨hin, rfl⟩) rfl rfl dX3_init_56 (fun H locs hT => ?_)
  replace hI : Inv (sF g_57 h 7 (.ref q_40)) := hI.sF (fk r_41 (show fsm _ _ ft from trivial))
  replace hM : Sm md_s_Service g (sF g_57 h 7 (.ref q_40)) := hM.tr hE (Sm_sF (by rw [r_41]; rfl))
  replace hE : Ex g (sF g_57 h 7 (.ref q_40)) := hE
  refine lv_aload_n hx hb dX3_init_59 rfl (lv_at hl 0 rfl) ?_
  refine lv_bipush (v := 16) hx hb dX3_init_60 (by decide) ?_
  refine t_newi (N' := 16) hB hT 50 (by decide) k_101 (by decide) (by decide) (by decide) (Nat.le_of_ble_eq_true rfl) (Nat.le_of_ble_eq_true rfl) dX3_init_62 (fun q_58 H o_q_58 hT => ?_)
  have z_q_58 : g.1 q_58 = 0 := hE.z0 o_q_58
  replace hI : Inv (sA (sF g_57 h 7 (.ref q_40)) q_58 50 16) := hI.newi o_q_58 (by decide) (fun _ => rfl) trivial (fun _ => trivial)
  replace hM : Sm md_s_Service g (sA (sF g_57 h 7 (.ref q_40)) q_58 50 16) := hM.tr hE (Sm.push o_q_58 sA_g)
  replace hE : Ex g (sA (sF g_57 h 7 (.ref q_40)) q_58 50 16) := hE.tr (Ex.push o_q_58 sA_g)
  have r_59 : (sA (sF g_57 h 7 (.ref q_40)) q_58 50 16).1 h = 14 := ((sA_g h (ne0 r_41 o_q_58 (by decide))).1.trans r_41)
  have r_60 : (sA (sF g_57 h 7 (.ref q_40)) q_58 50 16).1 q_1 = 3 := ((sA_g q_1 (ne0 r_42 o_q_58 (by decide))).1.trans r_42)
  have r_61 : (sA (sF g_57 h 7 (.ref q_40)) q_58 50 16).1 q_17 = 50 := ((sA_g q_17 (ne0 r_43 o_q_58 (by decide))).1.trans r_43)
  have r_62 : (sA (sF g_57 h 7 (.ref q_40)) q_58 50 16).1 q_25 = 50 := ((sA_g q_25 (ne0 r_44 o_q_58 (by decide))).1.trans r_44)
  have r_63 : (sA (sF g_57 h 7 (.ref q_40)) q_58 50 16).1 q_40 = 50 := ((sA_g q_40 (ne0 r_45 o_q_58 (by decide))).1.trans r_45)
  have r_64 : (sA (sF g_57 h 7 (.ref q_40)) q_58 50 16).1 q_58 = 50 := sA_r
  have n_65 : (sA (sF g_57 h 7 (.ref q_40)) q_58 50 16).2.2.1 q_17 = 4 := ((sA_g q_17 (ne0 r_43 o_q_58 (by decide))).2.2.1.trans n_46)
  have n_66 : (sA (sF g_57 h 7 (.ref q_40)) q_58 50 16).2.2.1 q_25 = 16 := ((sA_g q_25 (ne0 r_44 o_q_58 (by decide))).2.2.1.trans n_47)
  have n_67 : (sA (sF g_57 h 7 (.ref q_40)) q_58 50 16).2.2.1 q_40 = 16 := ((sA_g q_40 (ne0 r_45 o_q_58 (by decide))).2.2.1.trans n_48)
  have n_68 : (sA (sF g_57 h 7 (.ref q_40)) q_58 50 16).2.2.1 q_58 = 16 := sA_n
  have kn_69 : (sA (sF g_57 h 7 (.ref q_40)) q_58 50 16).2.1 q_1 3 = .int 0 := ((congrFun (sA_g q_1 (ne0 r_42 o_q_58 (by decide))).2.1 3).trans (sF_k kn_49 (by decide)))
  have kn_70 : (sA (sF g_57 h 7 (.ref q_40)) q_58 50 16).2.1 h 0 = .ref q_1 := ((congrFun (sA_g h (ne0 r_41 o_q_58 (by decide))).2.1 0).trans (sF_k kn_50 (by decide)))
  have kn_71 : (sA (sF g_57 h 7 (.ref q_40)) q_58 50 16).2.1 h 1 = .ref q_17 := ((congrFun (sA_g h (ne0 r_41 o_q_58 (by decide))).2.1 1).trans (sF_k kn_51 (by decide)))
  have kn_72 : (sA (sF g_57 h 7 (.ref q_40)) q_58 50 16).2.1 h 2 = .int 0 := ((congrFun (sA_g h (ne0 r_41 o_q_58 (by decide))).2.1 2).trans (sF_k kn_52 (by decide)))
  have kn_73 : (sA (sF g_57 h 7 (.ref q_40)) q_58 50 16).2.1 h 3 = .int 0 := ((congrFun (sA_g h (ne0 r_41 o_q_58 (by decide))).2.1 3).trans (sF_k kn_53 (by decide)))
  have kn_74 : (sA (sF g_57 h 7 (.ref q_40)) q_58 50 16).2.1 h 4 = .int 10 := ((congrFun (sA_g h (ne0 r_41 o_q_58 (by decide))).2.1 4).trans (sF_k kn_54 (by decide)))
  have kn_75 : (sA (sF g_57 h 7 (.ref q_40)) q_58 50 16).2.1 h 5 = .int 0 := ((congrFun (sA_g h (ne0 r_41 o_q_58 (by decide))).2.1 5).trans (sF_k kn_55 (by decide)))
  have kn_76 : (sA (sF g_57 h 7 (.ref q_40)) q_58 50 16).2.1 h 6 = .ref q_25 := ((congrFun (sA_g h (ne0 r_41 o_q_58 (by decide))).2.1 6).trans (sF_k kn_56 (by decide)))
  have kn_77 : (sA (sF g_57 h 7 (.ref q_40)) q_58 50 16).2.1 h 7 = .ref q_40 := ((congrFun (sA_g h (ne0 r_41 o_q_58 (by decide))).2.1 7).trans sF_eq)
  generalize (sA (sF g_57 h 7 (.ref q_40)) q_58 50 16) = g_78 at hT hI hM hE r_59 r_60 r_61 r_62 r_63 r_64 n_65 n_66 n_67 n_68 kn_69 kn_70 kn_71 kn_72 kn_73 kn_74 kn_75 kn_76 kn_77
  clear kn_49 kn_50 kn_51 kn_52 kn_53 kn_54 kn_55 kn_56 n_46 n_47 n_48 r_41 r_42 r_43 r_44 r_45
  refine W.widen (k := 8) (n := 80) (Nat.le_of_ble_eq_true rfl) (Nat.le_of_ble_eq_true rfl) ?_
  refine t_put0 (ci := 3) (v := .ref q_58) hB hT (ro_ci r_59 rfl) (ro_n0 r_59 (by decide)) rfl 8 (by decide) k_161 (Or.inr ⟨hin, rfl⟩) rfl rfl dX3_init_64 (fun H locs hT => ?_)
  replace hI : Inv (sF g_78 h 8 (.ref q_58)) := hI.sF (fk r_59 (show fsm _ _ ft from trivial))
  replace hM : Sm md_s_Service g (sF g_78 h 8 (.ref q_58)) := hM.tr hE (Sm_sF (by rw [r_59]; rfl))
  replace hE : Ex g (sF g_78 h 8 (.ref q_58)) := hE
  refine lv_aload_n hx hb dX3_init_67 rfl (lv_at hl 0 rfl) ?_
  refine lv_bipush (v := 16) hx hb dX3_init_68 (by decide) ?_
  refine t_newi (N' := 16) hB hT 50 (by decide) k_101 (by decide) (by decide) (by decide) (Nat.le_of_ble_eq_true rfl) (Nat.le_of_ble_eq_true rfl) dX3_init_70 (fun q_79 H o_q_79 hT => ?_)
  have z_q_79 : g.1 q_79 = 0 := hE.z0 o_q_79
  replace hI : Inv (sA (sF g_78 h 8 (.ref q_58)) q_79 50 16) := hI.newi o_q_79 (by decide) (fun _ => rfl) trivial (fun _ => trivial)
  replace hM : Sm md_s_Service g (sA (sF g_78 h 8 (.ref q_58)) q_79 50 16) := hM.tr hE (Sm.push o_q_79 sA_g)
  replace hE : Ex g (sA (sF g_78 h 8 (.ref q_58)) q_79 50 16) := hE.tr (Ex.push o_q_79 sA_g)
  have r_80 : (sA (sF g_78 h 8 (.ref q_58)) q_79 50 16).1 h = 14 := ((sA_g h (ne0 r_59 o_q_79 (by decide))).1.trans r_59)
  have r_81 : (sA (sF g_78 h 8 (.ref q_58)) q_79 50 16).1 q_1 = 3 := ((sA_g q_1 (ne0 r_60 o_q_79 (by decide))).1.trans r_60)
  have r_82 : (sA (sF g_78 h 8 (.ref q_58)) q_79 50 16).1 q_17 = 50 := ((sA_g q_17 (ne0 r_61 o_q_79 (by decide))).1.trans r_61)
  have r_83 : (sA (sF g_78 h 8 (.ref q_58)) q_79 50 16).1 q_25 = 50 := ((sA_g q_25 (ne0 r_62 o_q_79 (by decide))).1.trans r_62)
  have r_84 : (sA (sF g_78 h 8 (.ref q_58)) q_79 50 16).1 q_40 = 50 := ((sA_g q_40 (ne0 r_63 o_q_79 (by decide))).1.trans r_63)
  have r_85 : (sA (sF g_78 h 8 (.ref q_58)) q_79 50 16).1 q_58 = 50 := ((sA_g q_58 (ne0 r_64 o_q_79 (by decide))).1.trans r_64)
  have r_86 : (sA (sF g_78 h 8 (.ref q_58)) q_79 50 16).1 q_79 = 50 := sA_r
  have n_87 : (sA (sF g_78 h 8 (.ref q_58)) q_79 50 16).2.2.1 q_17 = 4 := ((sA_g q_17 (ne0 r_61 o_q_79 (by decide))).2.2.1.trans n_65)
  have n_88 : (sA (sF g_78 h 8 (.ref q_58)) q_79 50 16).2.2.1 q_25 = 16 := ((sA_g q_25 (ne0 r_62 o_q_79 (by decide))).2.2.1.trans n_66)
  have n_89 : (sA (sF g_78 h 8 (.ref q_58)) q_79 50 16).2.2.1 q_40 = 16 := ((sA_g q_40 (ne0 r_63 o_q_79 (by decide))).2.2.1.trans n_67)
  have n_90 : (sA (sF g_78 h 8 (.ref q_58)) q_79 50 16).2.2.1 q_58 = 16 := ((sA_g q_58 (ne0 r_64 o_q_79 (by decide))).2.2.1.trans n_68)
  have n_91 : (sA (sF g_78 h 8 (.ref q_58)) q_79 50 16).2.2.1 q_79 = 16 := sA_n
  have kn_92 : (sA (sF g_78 h 8 (.ref q_58)) q_79 50 16).2.1 q_1 3 = .int 0 := ((congrFun (sA_g q_1 (ne0 r_60 o_q_79 (by decide))).2.1 3).trans (sF_k kn_69 (by decide)))
  have kn_93 : (sA (sF g_78 h 8 (.ref q_58)) q_79 50 16).2.1 h 0 = .ref q_1 := ((congrFun (sA_g h (ne0 r_59 o_q_79 (by decide))).2.1 0).trans (sF_k kn_70 (by decide)))
  have kn_94 : (sA (sF g_78 h 8 (.ref q_58)) q_79 50 16).2.1 h 1 = .ref q_17 := ((congrFun (sA_g h (ne0 r_59 o_q_79 (by decide))).2.1 1).trans (sF_k kn_71 (by decide)))
  have kn_95 : (sA (sF g_78 h 8 (.ref q_58)) q_79 50 16).2.1 h 2 = .int 0 := ((congrFun (sA_g h (ne0 r_59 o_q_79 (by decide))).2.1 2).trans (sF_k kn_72 (by decide)))
  have kn_96 : (sA (sF g_78 h 8 (.ref q_58)) q_79 50 16).2.1 h 3 = .int 0 := ((congrFun (sA_g h (ne0 r_59 o_q_79 (by decide))).2.1 3).trans (sF_k kn_73 (by decide)))
  have kn_97 : (sA (sF g_78 h 8 (.ref q_58)) q_79 50 16).2.1 h 4 = .int 10 := ((congrFun (sA_g h (ne0 r_59 o_q_79 (by decide))).2.1 4).trans (sF_k kn_74 (by decide)))
  have kn_98 : (sA (sF g_78 h 8 (.ref q_58)) q_79 50 16).2.1 h 5 = .int 0 := ((congrFun (sA_g h (ne0 r_59 o_q_79 (by decide))).2.1 5).trans (sF_k kn_75 (by decide)))
  have kn_99 : (sA (sF g_78 h 8 (.ref q_58)) q_79 50 16).2.1 h 6 = .ref q_25 := ((congrFun (sA_g h (ne0 r_59 o_q_79 (by decide))).2.1 6).trans (sF_k kn_76 (by decide)))
  have kn_100 : (sA (sF g_78 h 8 (.ref q_58)) q_79 50 16).2.1 h 7 = .ref q_40 := ((congrFun (sA_g h (ne0 r_59 o_q_79 (by decide))).2.1 7).trans (sF_k kn_77 (by decide)))
  have kn_101 : (sA (sF g_78 h 8 (.ref q_58)) q_79 50 16).2.1 h 8 = .ref q_58 := ((congrFun (sA_g h (ne0 r_59 o_q_79 (by decide))).2.1 8).trans sF_eq)
  generalize (sA (sF g_78 h 8 (.ref q_58)) q_79 50 16) = g_102 at hT hI hM hE r_80 r_81 r_82 r_83 r_84 r_85 r_86 n_87 n_88 n_89 n_90 n_91 kn_92 kn_93 kn_94 kn_95 kn_96 kn_97 kn_98 kn_99 kn_100 kn_101
  clear kn_69 kn_70 kn_71 kn_72 kn_73 kn_74 kn_75 kn_76 kn_77 n_65 n_66 n_67 n_68 r_59 r_60 r_61 r_62 r_63 r_64
  refine W.widen (k := 9) (n := 96) (Nat.le_of_ble_eq_true rfl) (Nat.le_of_ble_eq_true rfl) ?_
  refine t_put0 (ci := 3) (v := .ref q_79) hB hT (ro_ci r_80 rfl) (ro_n0 r_80 (by decide)) rfl 9 (by decide) k_162 (Or.inr ⟨hin, rfl⟩) rfl rfl dX3_init_72 (fun H locs hT => ?_)
  replace hI : Inv (sF g_102 h 9 (.ref q_79)) := hI.sF (fk r_80 (show fsm _ _ ft from trivial))
  replace hM : Sm md_s_Service g (sF g_102 h 9 (.ref q_79)) := hM.tr hE (Sm_sF (by rw [r_80]; rfl))
  replace hE : Ex g (sF g_102 h 9 (.ref q_79)) := hE
  refine lv_aload_n hx hb dX3_init_75 rfl (lv_at hl 0 rfl) ?_
  refine lv_iconst (v := (-1)) hx hb dX3_init_76 (by decide) ?_
  refine t_put0 (ci := 3) (v := .int (-1)) hB hT (ro_ci r_80 rfl) (ro_n0 r_80 (by decide)) rfl 10 (by decide) k_163 (Or.inl rfl) rfl rfl dX3_init_77 (fun H locs hT => ?_)
  replace hI : Inv (sF (sF g_102 h 9 (.ref q_79)) h 10 (.int (-1))) := hI.sF (fk r_80 (show fsm _ _ ft from trivial))
  replace hM : Sm md_s_Service g (sF (sF g_102 h 9 (.ref q_79)) h 10 (.int (-1))) := hM.tr hE (Sm_sF (by rw [r_80]; rfl))
  replace hE : Ex g (sF (sF g_102 h 9 (.ref q_79)) h 10 (.int (-1))) := hE
  refine lv_aload_n hx hb dX3_init_80 rfl (lv_at hl 0 rfl) ?_
  refine lv_iconst (v := (-1)) hx hb dX3_init_81 (by decide) ?_
  refine t_put0 (ci := 3) (v := .int (-1)) hB hT (ro_ci r_80 rfl) (ro_n0 r_80 (by decide)) rfl 11 (by decide) k_164 (Or.inl rfl) rfl rfl dX3_init_82 (fun H locs hT => ?_)
  replace hI : Inv (sF (sF (sF g_102 h 9 (.ref q_79)) h 10 (.int (-1))) h 11 (.int (-1))) := hI.sF (fk r_80 (show fsm _ _ ft from trivial))
  replace hM : Sm md_s_Service g (sF (sF (sF g_102 h 9 (.ref q_79)) h 10 (.int (-1))) h 11 (.int (-1))) := hM.tr hE (Sm_sF (by rw [r_80]; rfl))
  replace hE : Ex g (sF (sF (sF g_102 h 9 (.ref q_79)) h 10 (.int (-1))) h 11 (.int (-1))) := hE
  refine lv_aload_n hx hb dX3_init_85 rfl (lv_at hl 0 rfl) ?_
  refine lv_bipush (v := 8) hx hb dX3_init_86 (by decide) ?_
  refine t_newi (N' := 8) hB hT 50 (by decide) k_101 (by decide) (by decide) (by decide) (Nat.le_of_ble_eq_true rfl) (Nat.le_of_ble_eq_true rfl) dX3_init_88 (fun q_103 H o_q_103 hT => ?_)
  have z_q_103 : g.1 q_103 = 0 := hE.z0 o_q_103
  replace hI : Inv (sA (sF (sF (sF g_102 h 9 (.ref q_79)) h 10 (.int (-1))) h 11 (.int (-1))) q_103 50 8) := hI.newi o_q_103 (by decide) (fun _ => rfl) trivial (fun _ => trivial)
  replace hM : Sm md_s_Service g (sA (sF (sF (sF g_102 h 9 (.ref q_79)) h 10 (.int (-1))) h 11 (.int (-1))) q_103 50 8) := hM.tr hE (Sm.push o_q_103 sA_g)
  replace hE : Ex g (sA (sF (sF (sF g_102 h 9 (.ref q_79)) h 10 (.int (-1))) h 11 (.int (-1))) q_103 50 8) := hE.tr (Ex.push o_q_103 sA_g)
  have r_104 : (sA (sF (sF (sF g_102 h 9 (.ref q_79)) h 10 (.int (-1))) h 11 (.int (-1))) q_103 50 8).1 h = 14 := ((sA_g h (ne0 r_80 o_q_103 (by decide))).1.trans r_80)
  have r_105 : (sA (sF (sF (sF g_102 h 9 (.ref q_79)) h 10 (.int (-1))) h 11 (.int (-1))) q_103 50 8).1 q_1 = 3 := ((sA_g q_1 (ne0 r_81 o_q_103 (by decide))).1.trans r_81)
  have r_106 : (sA (sF (sF (sF g_102 h 9 (.ref q_79)) h 10 (.int (-1))) h 11 (.int (-1))) q_103 50 8).1 q_17 = 50 := ((sA_g q_17 (ne0 r_82 o_q_103 (by decide))).1.trans r_82)
  have r_107 : (sA (sF (sF (sF g_102 h 9 (.ref q_79)) h 10 (.int (-1))) h 11 (.int (-1))) q_103 50 8).1 q_25 = 50 := ((sA_g q_25 (ne0 r_83 o_q_103 (by decide))).1.trans r_83)
  have r_108 : (sA (sF (sF (sF g_102 h 9 (.ref q_79)) h 10 (.int (-1))) h 11 (.int (-1))) q_103 50 8).1 q_40 = 50 := ((sA_g q_40 (ne0 r_84 o_q_103 (by decide))).1.trans r_84)
  have r_109 : (sA (sF (sF (sF g_102 h 9 (.ref q_79)) h 10 (.int (-1))) h 11 (.int (-1))) q_103 50 8).1 q_58 = 50 := ((sA_g q_58 (ne0 r_85 o_q_103 (by decide))).1.trans r_85)
  have r_110 : (sA (sF (sF (sF g_102 h 9 (.ref q_79)) h 10 (.int (-1))) h 11 (.int (-1))) q_103 50 8).1 q_79 = 50 := ((sA_g q_79 (ne0 r_86 o_q_103 (by decide))).1.trans r_86)
  have r_111 : (sA (sF (sF (sF g_102 h 9 (.ref q_79)) h 10 (.int (-1))) h 11 (.int (-1))) q_103 50 8).1 q_103 = 50 := sA_r
  have n_112 : (sA (sF (sF (sF g_102 h 9 (.ref q_79)) h 10 (.int (-1))) h 11 (.int (-1))) q_103 50 8).2.2.1 q_17 = 4 := ((sA_g q_17 (ne0 r_82 o_q_103 (by decide))).2.2.1.trans n_87)
  have n_113 : (sA (sF (sF (sF g_102 h 9 (.ref q_79)) h 10 (.int (-1))) h 11 (.int (-1))) q_103 50 8).2.2.1 q_25 = 16 := ((sA_g q_25 (ne0 r_83 o_q_103 (by decide))).2.2.1.trans n_88)
  have n_114 : (sA (sF (sF (sF g_102 h 9 (.ref q_79)) h 10 (.int (-1))) h 11 (.int (-1))) q_103 50 8).2.2.1 q_40 = 16 := ((sA_g q_40 (ne0 r_84 o_q_103 (by decide))).2.2.1.trans n_89)
  have n_115 : (sA (sF (sF (sF g_102 h 9 (.ref q_79)) h 10 (.int (-1))) h 11 (.int (-1))) q_103 50 8).2.2.1 q_58 = 16 := ((sA_g q_58 (ne0 r_85 o_q_103 (by decide))).2.2.1.trans n_90)
  have n_116 : (sA (sF (sF (sF g_102 h 9 (.ref q_79)) h 10 (.int (-1))) h 11 (.int (-1))) q_103 50 8).2.2.1 q_79 = 16 := ((sA_g q_79 (ne0 r_86 o_q_103 (by decide))).2.2.1.trans n_91)
  have n_117 : (sA (sF (sF (sF g_102 h 9 (.ref q_79)) h 10 (.int (-1))) h 11 (.int (-1))) q_103 50 8).2.2.1 q_103 = 8 := sA_n
  have kn_118 : (sA (sF (sF (sF g_102 h 9 (.ref q_79)) h 10 (.int (-1))) h 11 (.int (-1))) q_103 50 8).2.1 q_1 3 = .int 0 := ((congrFun (sA_g q_1 (ne0 r_81 o_q_103 (by decide))).2.1 3).trans (sF_k (sF_k (sF_k kn_92 (by decide)) (by decide)) (by decide)))
  have kn_119 : (sA (sF (sF (sF g_102 h 9 (.ref q_79)) h 10 (.int (-1))) h 11 (.int (-1))) q_103 50 8).2.1 h 0 = .ref q_1 := ((congrFun (sA_g h (ne0 r_80 o_q_103 (by decide))).2.1 0).trans (sF_k (sF_k (sF_k kn_93 (by decide)) (by decide)) (by decide)))
  have kn_120 : (sA (sF (sF (sF g_102 h 9 (.ref q_79)) h 10 (.int (-1))) h 11 (.int (-1))) q_103 50 8).2.1 h 1 = .ref q_17 := ((congrFun (sA_g h (ne0 r_80 o_q_103 (by decide))).2.1 1).trans (sF_k (sF_k (sF_k kn_94 (by decide)) (by decide)) (by decide)))
  have kn_121 : (sA (sF (sF (sF g_102 h 9 (.ref q_79)) h 10 (.int (-1))) h 11 (.int (-1))) q_103 50 8).2.1 h 2 = .int 0 := ((congrFun (sA_g h (ne0 r_80 o_q_103 (by decide))).2.1 2).trans (sF_k (sF_k (sF_k kn_95 (by decide)) (by decide)) (by decide)))
  have kn_122 : (sA (sF (sF (sF g_102 h 9 (.ref q_79)) h 10 (.int (-1))) h 11 (.int (-1))) q_103 50 8).2.1 h 3 = .int 0 := ((congrFun (sA_g h (ne0 r_80 o_q_103 (by decide))).2.1 3).trans (sF_k (sF_k (sF_k kn_96 (by decide)) (by decide)) (by decide)))
  have kn_123 : (sA (sF (sF (sF g_102 h 9 (.ref q_79)) h 10 (.int (-1))) h 11 (.int (-1))) q_103 50 8).2.1 h 4 = .int 10 := ((congrFun (sA_g h (ne0 r_80 o_q_103 (by decide))).2.1 4).trans (sF_k (sF_k (sF_k kn_97 (by decide)) (by decide)) (by decide)))
  have kn_124 : (sA (sF (sF (sF g_102 h 9 (.ref q_79)) h 10 (.int (-1))) h 11 (.int (-1))) q_103 50 8).2.1 h 5 = .int 0 := ((congrFun (sA_g h (ne0 r_80 o_q_103 (by decide))).2.1 5).trans (sF_k (sF_k (sF_k kn_98 (by decide)) (by decide)) (by decide)))
  have kn_125 : (sA (sF (sF (sF g_102 h 9 (.ref q_79)) h 10 (.int (-1))) h 11 (.int (-1))) q_103 50 8).2.1 h 6 = .ref q_25 := ((congrFun (sA_g h (ne0 r_80 o_q_103 (by decide))).2.1 6).trans (sF_k (sF_k (sF_k kn_99 (by decide)) (by decide)) (by decide)))
  have kn_126 : (sA (sF (sF (sF g_102 h 9 (.ref q_79)) h 10 (.int (-1))) h 11 (.int (-1))) q_103 50 8).2.1 h 7 = .ref q_40 := ((congrFun (sA_g h (ne0 r_80 o_q_103 (by decide))).2.1 7).trans (sF_k (sF_k (sF_k kn_100 (by decide)) (by decide)) (by decide)))
  have kn_127 : (sA (sF (sF (sF g_102 h 9 (.ref q_79)) h 10 (.int (-1))) h 11 (.int (-1))) q_103 50 8).2.1 h 8 = .ref q_58 := ((congrFun (sA_g h (ne0 r_80 o_q_103 (by decide))).2.1 8).trans (sF_k (sF_k (sF_k kn_101 (by decide)) (by decide)) (by decide)))
  have kn_128 : (sA (sF (sF (sF g_102 h 9 (.ref q_79)) h 10 (.int (-1))) h 11 (.int (-1))) q_103 50 8).2.1 h 9 = .ref q_79 := ((congrFun (sA_g h (ne0 r_80 o_q_103 (by decide))).2.1 9).trans (sF_k (sF_k sF_eq (by decide)) (by decide)))
  have kn_129 : (sA (sF (sF (sF g_102 h 9 (.ref q_79)) h 10 (.int (-1))) h 11 (.int (-1))) q_103 50 8).2.1 h 10 = .int (-1) := ((congrFun (sA_g h (ne0 r_80 o_q_103 (by decide))).2.1 10).trans (sF_k sF_eq (by decide)))
  have kn_130 : (sA (sF (sF (sF g_102 h 9 (.ref q_79)) h 10 (.int (-1))) h 11 (.int (-1))) q_103 50 8).2.1 h 11 = .int (-1) := ((congrFun (sA_g h (ne0 r_80 o_q_103 (by decide))).2.1 11).trans sF_eq)
  generalize (sA (sF (sF (sF g_102 h 9 (.ref q_79)) h 10 (.int (-1))) h 11 (.int (-1))) q_103 50 8) = g_131 at hT hI hM hE r_104 r_105 r_106 r_107 r_108 r_109 r_110 r_111 n_112 n_113 n_114 n_115 n_116 n_117 kn_118 kn_119 kn_120 kn_121 kn_122 kn_123 kn_124 kn_125 kn_126 kn_127 kn_128 kn_129 kn_130
  clear kn_100 kn_101 kn_92 kn_93 kn_94 kn_95 kn_96 kn_97 kn_98 kn_99 n_87 n_88 n_89 n_90 n_91 r_80 r_81 r_82 r_83 r_84 r_85 r_86
  refine W.widen (k := 10) (n := 104) (Nat.le_of_ble_eq_true rfl) (Nat.le_of_ble_eq_true rfl) ?_
  refine t_put0 (ci := 3) (v := .ref q_103) hB hT (ro_ci r_104 rfl) (ro_n0 r_104 (by decide)) rfl 12 (by decide) k_165 (Or.inr ⟨hin, rfl⟩) rfl rfl dX3_init_90 (fun H locs hT => ?_)
  replace hI : Inv (sF g_131 h 12 (.ref q_103)) := hI.sF (fk r_104 (show fsm _ _ ft from trivial))
  replace hM : Sm md_s_Service g (sF g_131 h 12 (.ref q_103)) := hM.tr hE (Sm_sF (by rw [r_104]; rfl))
  replace hE : Ex g (sF g_131 h 12 (.ref q_103)) := hE
  refine lv_aload_n hx hb dX3_init_93 rfl (lv_at hl 0 rfl) ?_
  refine lv_bipush (v := 8) hx hb dX3_init_94 (by decide) ?_
  refine t_newi (N' := 8) hB hT 50 (by decide) k_101 (by decide) (by decide) (by decide) (Nat.le_of_ble_eq_true rfl) (Nat.le_of_ble_eq_true rfl) dX3_init_96 (fun q_132 H o_q_132 hT => ?_)
  have z_q_132 : g.1 q_132 = 0 := hE.z0 o_q_132
  replace hI : Inv (sA (sF g_131 h 12 (.ref q_103)) q_132 50 8) := hI.newi o_q_132 (by decide) (fun _ => rfl) trivial (fun _ => trivial)
  replace hM : Sm md_s_Service g (sA (sF g_131 h 12 (.ref q_103)) q_132 50 8) := hM.tr hE (Sm.push o_q_132 sA_g)
  replace hE : Ex g (sA (sF g_131 h 12 (.ref q_103)) q_132 50 8) := hE.tr (Ex.push o_q_132 sA_g)
  have r_133 : (sA (sF g_131 h 12 (.ref q_103)) q_132 50 8).1 h = 14 := ((sA_g h (ne0 r_104 o_q_132 (by decide))).1.trans r_104)
  have r_134 : (sA (sF g_131 h 12 (.ref q_103)) q_132 50 8).1 q_1 = 3 := ((sA_g q_1 (ne0 r_105 o_q_132 (by decide))).1.trans r_105)
  have r_135 : (sA (sF g_131 h 12 (.ref q_103)) q_132 50 8).1 q_17 = 50 := ((sA_g q_17 (ne0 r_106 o_q_132 (by decide))).1.trans r_106)
  have r_136 : (sA (sF g_131 h 12 (.ref q_103)) q_132 50 8).1 q_25 = 50 := ((sA_g q_25 (ne0 r_107 o_q_132 (by decide))).1.trans r_107)
  have r_137 : (sA (sF g_131 h 12 (.ref q_103)) q_132 50 8).1 q_40 = 50 := ((sA_g q_40 (ne0 r_108 o_q_132 (by decide))).1.trans r_108)
  have r_138 : (sA (sF g_131 h 12 (.ref q_103)) q_132 50 8).1 q_58 = 50 := ((sA_g q_58 (ne0 r_109 o_q_132 (by decide))).1.trans r_109)
  have r_139 : (sA (sF g_131 h 12 (.ref q_103)) q_132 50 8).1 q_79 = 50 := ((sA_g q_79 (ne0 r_110 o_q_132 (by decide))).1.trans r_110)
  have r_140 : (sA (sF g_131 h 12 (.ref q_103)) q_132 50 8).1 q_103 = 50 := ((sA_g q_103 (ne0 r_111 o_q_132 (by decide))).1.trans r_111)
  have r_141 : (sA (sF g_131 h 12 (.ref q_103)) q_132 50 8).1 q_132 = 50 := sA_r
  have n_142 : (sA (sF g_131 h 12 (.ref q_103)) q_132 50 8).2.2.1 q_17 = 4 := ((sA_g q_17 (ne0 r_106 o_q_132 (by decide))).2.2.1.trans n_112)
  have n_143 : (sA (sF g_131 h 12 (.ref q_103)) q_132 50 8).2.2.1 q_25 = 16 := ((sA_g q_25 (ne0 r_107 o_q_132 (by decide))).2.2.1.trans n_113)
  have n_144 : (sA (sF g_131 h 12 (.ref q_103)) q_132 50 8).2.2.1 q_40 = 16 := ((sA_g q_40 (ne0 r_108 o_q_132 (by decide))).2.2.1.trans n_114)
  have n_145 : (sA (sF g_131 h 12 (.ref q_103)) q_132 50 8).2.2.1 q_58 = 16 := ((sA_g q_58 (ne0 r_109 o_q_132 (by decide))).2.2.1.trans n_115)
  have n_146 : (sA (sF g_131 h 12 (.ref q_103)) q_132 50 8).2.2.1 q_79 = 16 := ((sA_g q_79 (ne0 r_110 o_q_132 (by decide))).2.2.1.trans n_116)
  have n_147 : (sA (sF g_131 h 12 (.ref q_103)) q_132 50 8).2.2.1 q_103 = 8 := ((sA_g q_103 (ne0 r_111 o_q_132 (by decide))).2.2.1.trans n_117)
  have n_148 : (sA (sF g_131 h 12 (.ref q_103)) q_132 50 8).2.2.1 q_132 = 8 := sA_n
  have kn_149 : (sA (sF g_131 h 12 (.ref q_103)) q_132 50 8).2.1 q_1 3 = .int 0 := ((congrFun (sA_g q_1 (ne0 r_105 o_q_132 (by decide))).2.1 3).trans (sF_k kn_118 (by decide)))
  have kn_150 : (sA (sF g_131 h 12 (.ref q_103)) q_132 50 8).2.1 h 0 = .ref q_1 := ((congrFun (sA_g h (ne0 r_104 o_q_132 (by decide))).2.1 0).trans (sF_k kn_119 (by decide)))
  have kn_151 : (sA (sF g_131 h 12 (.ref q_103)) q_132 50 8).2.1 h 1 = .ref q_17 := ((congrFun (sA_g h (ne0 r_104 o_q_132 (by decide))).2.1 1).trans (sF_k kn_120 (by decide)))
  have kn_152 : (sA (sF g_131 h 12 (.ref q_103)) q_132 50 8).2.1 h 2 = .int 0 := ((congrFun (sA_g h (ne0 r_104 o_q_132 (by decide))).2.1 2).trans (sF_k kn_121 (by decide)))
  have kn_153 : (sA (sF g_131 h 12 (.ref q_103)) q_132 50 8).2.1 h 3 = .int 0 := ((congrFun (sA_g h (ne0 r_104 o_q_132 (by decide))).2.1 3).trans (sF_k kn_122 (by decide)))
  have kn_154 : (sA (sF g_131 h 12 (.ref q_103)) q_132 50 8).2.1 h 4 = .int 10 := ((congrFun (sA_g h (ne0 r_104 o_q_132 (by decide))).2.1 4).trans (sF_k kn_123 (by decide)))
  have kn_155 : (sA (sF g_131 h 12 (.ref q_103)) q_132 50 8).2.1 h 5 = .int 0 := ((congrFun (sA_g h (ne0 r_104 o_q_132 (by decide))).2.1 5).trans (sF_k kn_124 (by decide)))
  have kn_156 : (sA (sF g_131 h 12 (.ref q_103)) q_132 50 8).2.1 h 6 = .ref q_25 := ((congrFun (sA_g h (ne0 r_104 o_q_132 (by decide))).2.1 6).trans (sF_k kn_125 (by decide)))
  have kn_157 : (sA (sF g_131 h 12 (.ref q_103)) q_132 50 8).2.1 h 7 = .ref q_40 := ((congrFun (sA_g h (ne0 r_104 o_q_132 (by decide))).2.1 7).trans (sF_k kn_126 (by decide)))
  have kn_158 : (sA (sF g_131 h 12 (.ref q_103)) q_132 50 8).2.1 h 8 = .ref q_58 := ((congrFun (sA_g h (ne0 r_104 o_q_132 (by decide))).2.1 8).trans (sF_k kn_127 (by decide)))
  have kn_159 : (sA (sF g_131 h 12 (.ref q_103)) q_132 50 8).2.1 h 9 = .ref q_79 := ((congrFun (sA_g h (ne0 r_104 o_q_132 (by decide))).2.1 9).trans (sF_k kn_128 (by decide)))
  have kn_160 : (sA (sF g_131 h 12 (.ref q_103)) q_132 50 8).2.1 h 10 = .int (-1) := ((congrFun (sA_g h (ne0 r_104 o_q_132 (by decide))).2.1 10).trans (sF_k kn_129 (by decide)))
  have kn_161 : (sA (sF g_131 h 12 (.ref q_103)) q_132 50 8).2.1 h 11 = .int (-1) := ((congrFun (sA_g h (ne0 r_104 o_q_132 (by decide))).2.1 11).trans (sF_k kn_130 (by decide)))
  have kn_162 : (sA (sF g_131 h 12 (.ref q_103)) q_132 50 8).2.1 h 12 = .ref q_103 := ((congrFun (sA_g h (ne0 r_104 o_q_132 (by decide))).2.1 12).trans sF_eq)
  generalize (sA (sF g_131 h 12 (.ref q_103)) q_132 50 8) = g_163 at hT hI hM hE r_133 r_134 r_135 r_136 r_137 r_138 r_139 r_140 r_141 n_142 n_143 n_144 n_145 n_146 n_147 n_148 kn_149 kn_150 kn_151 kn_152 kn_153 kn_154 kn_155 kn_156 kn_157 kn_158 kn_159 kn_160 kn_161 kn_162
  clear kn_118 kn_119 kn_120 kn_121 kn_122 kn_123 kn_124 kn_125 kn_126 kn_127 kn_128 kn_129 kn_130 n_112 n_113 n_114 n_115 n_116 n_117 r_104 r_105 r_106 r_107 r_108 r_109 r_110 r_111
  refine W.widen (k := 11) (n := 112) (Nat.le_of_ble_eq_true rfl) (Nat.le_of_ble_eq_true rfl) ?_
  refine t_put0 (ci := 3) (v := .ref q_132) hB hT (ro_ci r_133 rfl) (ro_n0 r_133 (by decide)) rfl 13 (by decide) k_166 (Or.inr ⟨hin, rfl⟩) rfl rfl dX3_init_98 (fun H locs hT => ?_)
  replace hI : Inv (sF g_163 h 13 (.ref q_132)) := hI.sF (fk r_133 (show fsm _ _ ft from trivial))
  replace hM : Sm md_s_Service g (sF g_163 h 13 (.ref q_132)) := hM.tr hE (Sm_sF (by rw [r_133]; rfl))
  replace hE : Ex g (sF g_163 h 13 (.ref q_132)) := hE
  refine lv_aload_n hx hb dX3_init_101 rfl (lv_at hl 0 rfl) ?_
  refine lv_iconst (v := 0) hx hb dX3_init_102 (by decide) ?_
  refine t_put0 (ci := 3) (v := .int 0) hB hT (ro_ci r_133 rfl) (ro_n0 r_133 (by decide)) rfl 14 (by decide) k_167 (Or.inl rfl) rfl rfl dX3_init_103 (fun H locs hT => ?_)
  replace hI : Inv (sF (sF g_163 h 13 (.ref q_132)) h 14 (.int 0)) := hI.sF (fk r_133 (show fsm _ _ ft from trivial))
  replace hM : Sm md_s_Service g (sF (sF g_163 h 13 (.ref q_132)) h 14 (.int 0)) := hM.tr hE (Sm_sF (by rw [r_133]; rfl))
  replace hE : Ex g (sF (sF g_163 h 13 (.ref q_132)) h 14 (.int 0)) := hE
  have hF : ∀ k, Fok (sR (sF (sF g_163 h 13 (.ref q_132)) h 14 (.int 0)) h 4) 4 k ((sF (sF g_163 h 13 (.ref q_132)) h 14 (.int 0)).2.1 h k) := fun k => match k with
    | 0 => (by rw [(sF_k (sF_k kn_150 (by decide)) (by decide))]; exact q_4_0 ⟨_, rfl, sR_r r_134 (ro_ne r_134 r_133 (by decide))⟩)
    | 1 => (by rw [(sF_k (sF_k kn_151 (by decide)) (by decide))]; exact q_4_1 ⟨_, rfl, sR_r r_135 (ro_ne r_135 r_133 (by decide)), n_142⟩)
    | 2 => (by rw [(sF_k (sF_k kn_152 (by decide)) (by decide))]; exact q_4_2 ⟨_, rfl⟩)
    | 3 => (by rw [(sF_k (sF_k kn_153 (by decide)) (by decide))]; exact q_4_3 ⟨_, rfl⟩)
    | 4 => (by rw [(sF_k (sF_k kn_154 (by decide)) (by decide))]; exact q_4_4 ⟨_, rfl⟩)
    | 5 => (by rw [(sF_k (sF_k kn_155 (by decide)) (by decide))]; exact q_4_5 ⟨_, rfl, by decide, by decide⟩)
    | 6 => (by rw [(sF_k (sF_k kn_156 (by decide)) (by decide))]; exact q_4_6 ⟨_, rfl, sR_r r_136 (ro_ne r_136 r_133 (by decide)), n_143⟩)
    | 7 => (by rw [(sF_k (sF_k kn_157 (by decide)) (by decide))]; exact q_4_7 ⟨_, rfl, sR_r r_137 (ro_ne r_137 r_133 (by decide)), n_144⟩)
    | 8 => (by rw [(sF_k (sF_k kn_158 (by decide)) (by decide))]; exact q_4_8 ⟨_, rfl, sR_r r_138 (ro_ne r_138 r_133 (by decide)), n_145⟩)
    | 9 => (by rw [(sF_k (sF_k kn_159 (by decide)) (by decide))]; exact q_4_9 ⟨_, rfl, sR_r r_139 (ro_ne r_139 r_133 (by decide)), n_146⟩)
    | 10 => (by rw [(sF_k (sF_k kn_160 (by decide)) (by decide))]; exact q_4_10 ⟨_, rfl⟩)
    | 11 => (by rw [(sF_k (sF_k kn_161 (by decide)) (by decide))]; exact q_4_11 ⟨_, rfl⟩)
    | 12 => (by rw [(sF_k (sF_k kn_162 (by decide)) (by decide))]; exact q_4_12 ⟨_, rfl, sR_r r_140 (ro_ne r_140 r_133 (by decide)), n_147⟩)
    | 13 => (by rw [(sF_k sF_eq (by decide))]; exact q_4_13 ⟨_, rfl, sR_r r_141 (ro_ne r_141 r_133 (by decide)), n_148⟩)
    | 14 => (by rw [sF_eq]; exact q_4_14 ⟨_, rfl, by decide, by decide⟩)
    | k + 15 => (show fsm _ _ ft from trivial)
  have hT : Tv D cI cZ cS cR N0 s.heap H locs (sR (sF (sF g_163 h 13 (.ref q_132)) h 14 (.int 0)) h 4) := ⟨hT.1.promo (by rw [r_133]; decide) (by rw [r_133]; rfl) (Or.inl (by decide)), hT.2⟩
  replace hI : Inv (sR (sF (sF g_163 h 13 (.ref q_132)) h 14 (.int 0)) h 4) := hI.promo (by rw [r_133]; decide) hF (fun _ _ => trivial) (fun _ _ => trivial)
  replace hM : Sm md_s_Service g (sR (sF (sF g_163 h 13 (.ref q_132)) h 14 (.int 0)) h 4) := hM
  have hX : Exx h g (sR (sF (sF g_163 h 13 (.ref q_132)) h 14 (.int 0)) h 4) := Exx.promo hE
  exact t_vret hB hr hT (Nat.le_of_ble_eq_true rfl) (Nat.le_of_ble_eq_true rfl) dX3_init_106 ⟨rfl, hI, hX, hM, if_pos rfl, (sF_k (sF_k kn_153 (by decide)) (by decide)), (sF_k (sF_k kn_154 (by decide)) (by decide))⟩
abbrev md_n_Service : Nat → Nat → Bool := mdf [(13, 0), (13, 1), (13, 2), (13, 3), (14, 0), (14, 1), (14, 2), (14, 3), (14, 4), (14, 5), (14, 6), (14, 7), (14, 8), (14, 9), (14, 10), (14, 11), (14, 12), (14, 13), (14, 14)]
theorem mdle_n_Service_k_Program {r k : Nat} (h : md_n_Service r k = false) : md_k_Program r k = false := mdf_le (by decide +kernel) h
set_option maxHeartbeats 4000000 in
set_option maxRecDepth 100000 in
theorem n_Service (l : Launch) (D : va_G) (cI cZ cS cR : ClassId) (N0 : NT) (g : GS) (hI : Inv g) (h : Nat) (r_h : g.1 h = 14) : Ty l D cI cZ cS cR N0 yX3_init cX3_init 1 none 1 11 112 [.ref h] g (fun v g' => v = none ∧ Inv g' ∧ Exx h g g' ∧ Sm md_n_Service g g' ∧ g'.1 h = 10 ∧ (g'.2.1 h 3 = .int 0) ∧ (g'.2.1 h 4 = .int 10)) := by
  refine t_enter (by decide) (Nat.le_of_ble_eq_true rfl) ?_
  intro p e s m args below meth c ls H locs hB hr hin hl hT
  have hx := hB.1
  have hb := hB.2.1
  have hl : lv_has ls 1 [(0, .ref h)] := hl
  replace hE : Ex g g := Ex.rf
  replace hM : Sm md_n_Service g g := Sm.rf
  refine lv_aload_n hx hb dX3_init_0 rfl (lv_at hl 0 rfl) ?_
  refine t_oinit hB k_114 k_78 k_79 hl.1 dX3_init_1 (Nat.le_of_ble_eq_true rfl) (Nat.le_of_ble_eq_true rfl) ?_
  refine lv_aload_n hx hb dX3_init_4 rfl (lv_at hl 0 rfl) ?_
  refine t_new (ci := 2) (fs := [.null, .null, .null, .int 0]) hB hT rfl (by decide) k_115 k_116 k_61 (fnew_2) (Nat.le_of_ble_eq_true rfl) (Nat.le_of_ble_eq_true rfl) dX3_init_5 (fun q_1 H o_q_1 hT => ?_)
  have z_q_1 : g.1 q_1 = 0 := hE.z0 o_q_1
  replace hI : Inv (sN g q_1 13 (vp_V [.null, .null, .null, .int 0])) := hI.newo o_q_1 (fun _ => rfl) (fun _ => trivial) (fun _ _ => trivial)
  replace hM : Sm md_n_Service g (sN g q_1 13 (vp_V [.null, .null, .null, .int 0])) := hM.tr hE (Sm.push o_q_1 sN_g)
  replace hE : Ex g (sN g q_1 13 (vp_V [.null, .null, .null, .int 0])) := hE.tr (Ex.push o_q_1 sN_g)
  have r_2 : (sN g q_1 13 (vp_V [.null, .null, .null, .int 0])).1 h = 14 := ((sN_g h (ne0 r_h o_q_1 (by decide))).1.trans r_h)
  have r_3 : (sN g q_1 13 (vp_V [.null, .null, .null, .int 0])).1 q_1 = 13 := sN_r
  have kn_4 : (sN g q_1 13 (vp_V [.null, .null, .null, .int 0])).2.1 q_1 0 = .null := sN_f
  have kn_5 : (sN g q_1 13 (vp_V [.null, .null, .null, .int 0])).2.1 q_1 1 = .null := sN_f
  have kn_6 : (sN g q_1 13 (vp_V [.null, .null, .null, .int 0])).2.1 q_1 2 = .null := sN_f
  have kn_7 : (sN g q_1 13 (vp_V [.null, .null, .null, .int 0])).2.1 q_1 3 = .int 0 := sN_f
  generalize (sN g q_1 13 (vp_V [.null, .null, .null, .int 0])) = g_8 at hT hI hM hE r_2 r_3 kn_4 kn_5 kn_6 kn_7
  refine W.widen (k := 1) (n := 4) (Nat.le_of_ble_eq_true rfl) (Nat.le_of_ble_eq_true rfl) ?_
  refine lv_dup hx hb dX3_init_8 rfl ?_
  refine t_callIN (n := 0) (As := []) (rest := [.ref q_1, .ref h]) hB hT hl.1 (k_Program l D cI cZ cS cR N0 g_8 hI q_1 r_3) k_119 k_61 hB.2.2.2.2.2.2.2.1.2.2.1 k_118 rfl (by decide +kernel) ⟨(Nat.le_of_ble_eq_true rfl), (Nat.le_of_ble_eq_true rfl)⟩ rfl (Nat.le_of_ble_eq_true rfl) ⟨(Nat.le_of_ble_eq_true rfl), (Nat.le_of_ble_eq_true rfl)⟩ dX3_init_9 (fun v g_9 H locs hp hT => ?_)
  obtain ⟨rfl, hI, x_13, m_12, r_14, f_10, f_11⟩ := hp
  replace hM : Sm md_n_Service g g_9 := hM.tr hE (m_12.mo (fun r k h => mdle_n_Service_k_Program h))
  replace hE : Ex g g_9 := hE.trx z_q_1 x_13
  have r_15 : g_9.1 h = 14 := (Exx.r x_13 r_2 (by decide) (ro_ne r_2 r_3 (by decide)))
  have r_16 : g_9.1 q_1 = 3 := r_14
  refine W.eq (g2 := F0 m 12 ls [.ref q_1, .ref h]) rfl ?_
  refine t_put0 (ci := 3) (v := .ref q_1) hB hT (ro_ci r_15 rfl) (ro_n0 r_15 (by decide)) rfl 0 (by decide) k_143 (Or.inl rfl) rfl rfl dX3_init_12 (fun H locs hT => ?_)
  replace hI : Inv (sF g_9 h 0 (.ref q_1)) := hI.sF (fk r_15 (show fsm _ _ ft from trivial))
  replace hM : Sm md_n_Service g (sF g_9 h 0 (.ref q_1)) := hM.tr hE (Sm_sF (by rw [r_15]; rfl))
  replace hE : Ex g (sF g_9 h 0 (.ref q_1)) := hE
  refine lv_aload_n hx hb dX3_init_15 rfl (lv_at hl 0 rfl) ?_
  refine lv_iconst (v := 4) hx hb dX3_init_16 (by decide) ?_
  refine t_newi (N' := 4) hB hT 50 (by decide) k_101 (by decide) (by decide) (by decide) (Nat.le_of_ble_eq_true rfl) (Nat.le_of_ble_eq_true rfl) dX3_init_17 (fun q_17 H o_q_17 hT => ?_)
  have z_q_17 : g.1 q_17 = 0 := hE.z0 o_q_17
  replace hI : Inv (sA (sF g_9 h 0 (.ref q_1)) q_17 50 4) := hI.newi o_q_17 (by decide) (fun _ => rfl) trivial (fun _ => trivial)
  replace hM : Sm md_n_Service g (sA (sF g_9 h 0 (.ref q_1)) q_17 50 4) := hM.tr hE (Sm.push o_q_17 sA_g)
  replace hE : Ex g (sA (sF g_9 h 0 (.ref q_1)) q_17 50 4) := hE.tr (Ex.push o_q_17 sA_g)
  have r_18 : (sA (sF g_9 h 0 (.ref q_1)) q_17 50 4).1 h = 14 := ((sA_g h (ne0 r_15 o_q_17 (by decide))).1.trans r_15)
  have r_19 : (sA (sF g_9 h 0 (.ref q_1)) q_17 50 4).1 q_1 = 3 := ((sA_g q_1 (ne0 r_16 o_q_17 (by decide))).1.trans r_16)
  have r_20 : (sA (sF g_9 h 0 (.ref q_1)) q_17 50 4).1 q_17 = 50 := sA_r
  have n_21 : (sA (sF g_9 h 0 (.ref q_1)) q_17 50 4).2.2.1 q_17 = 4 := sA_n
  have kn_22 : (sA (sF g_9 h 0 (.ref q_1)) q_17 50 4).2.1 q_1 3 = .int 0 := ((congrFun (sA_g q_1 (ne0 r_16 o_q_17 (by decide))).2.1 3).trans (sF_k f_10 (by decide)))
  have kn_23 : (sA (sF g_9 h 0 (.ref q_1)) q_17 50 4).2.1 h 0 = .ref q_1 := ((congrFun (sA_g h (ne0 r_15 o_q_17 (by decide))).2.1 0).trans sF_eq)
  generalize (sA (sF g_9 h 0 (.ref q_1)) q_17 50 4) = g_24 at hT hI hM hE r_18 r_19 r_20 n_21 kn_22 kn_23
  clear r_15 r_16
  refine W.widen (k := 5) (n := 32) (Nat.le_of_ble_eq_true rfl) (Nat.le_of_ble_eq_true rfl) ?_
  refine t_put0 (ci := 3) (v := .ref q_17) hB hT (ro_ci r_18 rfl) (ro_n0 r_18 (by decide)) rfl 1 (by decide) k_146 (Or.inr ⟨hin, rfl⟩) rfl rfl dX3_init_19 (fun H locs hT => ?_)
  replace hI : Inv (sF g_24 h 1 (.ref q_17)) := hI.sF (fk r_18 (show fsm _ _ ft from trivial))
  replace hM : Sm md_n_Service g (sF g_24 h 1 (.ref q_17)) := hM.tr hE (Sm_sF (by rw [r_18]; rfl))
  replace hE : Ex g (sF g_24 h 1 (.ref q_17)) := hE
  refine lv_aload_n hx hb dX3_init_22 rfl (lv_at hl 0 rfl) ?_
  refine lv_iconst (v := 0) hx hb dX3_init_23 (by decide) ?_
  refine t_put0 (ci := 3) (v := .int 0) hB hT (ro_ci r_18 rfl) (ro_n0 r_18 (by decide)) rfl 2 (by decide) k_149 (Or.inl rfl) rfl rfl dX3_init_24 (fun H locs hT => ?_)
  replace hI : Inv (sF (sF g_24 h 1 (.ref q_17)) h 2 (.int 0)) := hI.sF (fk r_18 (show fsm _ _ ft from trivial))
  replace hM : Sm md_n_Service g (sF (sF g_24 h 1 (.ref q_17)) h 2 (.int 0)) := hM.tr hE (Sm_sF (by rw [r_18]; rfl))
  replace hE : Ex g (sF (sF g_24 h 1 (.ref q_17)) h 2 (.int 0)) := hE
  refine lv_aload_n hx hb dX3_init_27 rfl (lv_at hl 0 rfl) ?_
  refine lv_iconst (v := 0) hx hb dX3_init_28 (by decide) ?_
  refine t_put0 (ci := 3) (v := .int 0) hB hT (ro_ci r_18 rfl) (ro_n0 r_18 (by decide)) rfl 3 (by decide) k_152 (Or.inl rfl) rfl rfl dX3_init_29 (fun H locs hT => ?_)
  replace hI : Inv (sF (sF (sF g_24 h 1 (.ref q_17)) h 2 (.int 0)) h 3 (.int 0)) := hI.sF (fk r_18 (show fsm _ _ ft from trivial))
  replace hM : Sm md_n_Service g (sF (sF (sF g_24 h 1 (.ref q_17)) h 2 (.int 0)) h 3 (.int 0)) := hM.tr hE (Sm_sF (by rw [r_18]; rfl))
  replace hE : Ex g (sF (sF (sF g_24 h 1 (.ref q_17)) h 2 (.int 0)) h 3 (.int 0)) := hE
  refine lv_aload_n hx hb dX3_init_32 rfl (lv_at hl 0 rfl) ?_
  refine lv_bipush (v := 10) hx hb dX3_init_33 (by decide) ?_
  refine t_put0 (ci := 3) (v := .int 10) hB hT (ro_ci r_18 rfl) (ro_n0 r_18 (by decide)) rfl 4 (by decide) k_155 (Or.inl rfl) rfl rfl dX3_init_35 (fun H locs hT => ?_)
  replace hI : Inv (sF (sF (sF (sF g_24 h 1 (.ref q_17)) h 2 (.int 0)) h 3 (.int 0)) h 4 (.int 10)) := hI.sF (fk r_18 (show fsm _ _ ft from trivial))
  replace hM : Sm md_n_Service g (sF (sF (sF (sF g_24 h 1 (.ref q_17)) h 2 (.int 0)) h 3 (.int 0)) h 4 (.int 10)) := hM.tr hE (Sm_sF (by rw [r_18]; rfl))
  replace hE : Ex g (sF (sF (sF (sF g_24 h 1 (.ref q_17)) h 2 (.int 0)) h 3 (.int 0)) h 4 (.int 10)) := hE
  refine lv_aload_n hx hb dX3_init_38 rfl (lv_at hl 0 rfl) ?_
  refine lv_iconst (v := 0) hx hb dX3_init_39 (by decide) ?_
  refine t_put0 (ci := 3) (v := .int 0) hB hT (ro_ci r_18 rfl) (ro_n0 r_18 (by decide)) rfl 5 (by decide) k_158 (Or.inl rfl) rfl rfl dX3_init_40 (fun H locs hT => ?_)
  replace hI : Inv (sF (sF (sF (sF (sF g_24 h 1 (.ref q_17)) h 2 (.int 0)) h 3 (.int 0)) h 4 (.int 10)) h 5 (.int 0)) := hI.sF (fk r_18 (show fsm _ _ ft from trivial))
  replace hM : Sm md_n_Service g (sF (sF (sF (sF (sF g_24 h 1 (.ref q_17)) h 2 (.int 0)) h 3 (.int 0)) h 4 (.int 10)) h 5 (.int 0)) := hM.tr hE (Sm_sF (by rw [r_18]; rfl))
  replace hE : Ex g (sF (sF (sF (sF (sF g_24 h 1 (.ref q_17)) h 2 (.int 0)) h 3 (.int 0)) h 4 (.int 10)) h 5 (.int 0)) := hE
  refine lv_aload_n hx hb dX3_init_43 rfl (lv_at hl 0 rfl) ?_
  refine lv_bipush (v := 16) hx hb dX3_init_44 (by decide) ?_
  refine t_newi (N' := 16) hB hT 50 (by decide) k_101 (by decide) (by decide) (by decide) (Nat.le_of_ble_eq_true rfl) (Nat.le_of_ble_eq_true rfl) dX3_init_46 (fun q_25 H o_q_25 hT => ?_)
  have z_q_25 : g.1 q_25 = 0 := hE.z0 o_q_25
  replace hI : Inv (sA (sF (sF (sF (sF (sF g_24 h 1 (.ref q_17)) h 2 (.int 0)) h 3 (.int 0)) h 4 (.int 10)) h 5 (.int 0)) q_25 50 16) := hI.newi o_q_25 (by decide) (fun _ => rfl) trivial (fun _ => trivial)
  replace hM : Sm md_n_Service g (sA (sF (sF (sF (sF (sF g_24 h 1 (.ref q_17)) h 2 (.int 0)) h 3 (.int 0)) h 4 (.int 10)) h 5 (.int 0)) q_25 50 16) := hM.tr hE (Sm.push o_q_25 sA_g)
  replace hE : Ex g (sA (sF (sF (sF (sF (sF g_24 h 1 (.ref q_17)) h 2 (.int 0)) h 3 (.int 0)) h 4 (.int 10)) h 5 (.int 0)) q_25 50 16) := hE.tr (Ex.push o_q_25 sA_g)
  have r_26 : (sA (sF (sF (sF (sF (sF g_24 h 1 (.ref q_17)) h 2 (.int 0)) h 3 (.int 0)) h 4 (.int 10)) h 5 (.int 0)) q_25 50 16).1 h = 14 := ((sA_g h (ne0 r_18 o_q_25 (by decide))).1.trans r_18)
  have r_27 : (sA (sF (sF (sF (sF (sF g_24 h 1 (.ref q_17)) h 2 (.int 0)) h 3 (.int 0)) h 4 (.int 10)) h 5 (.int 0)) q_25 50 16).1 q_1 = 3 := ((sA_g q_1 (ne0 r_19 o_q_25 (by decide))).1.trans r_19)
  have r_28 : (sA (sF (sF (sF (sF (sF g_24 h 1 (.ref q_17)) h 2 (.int 0)) h 3 (.int 0)) h 4 (.int 10)) h 5 (.int 0)) q_25 50 16).1 q_17 = 50 := ((sA_g q_17 (ne0 r_20 o_q_25 (by decide))).1.trans r_20)
  have r_29 : (sA (sF (sF (sF (sF (sF g_24 h 1 (.ref q_17)) h 2 (.int 0)) h 3 (.int 0)) h 4 (.int 10)) h 5 (.int 0)) q_25 50 16).1 q_25 = 50 := sA_r
  have n_30 : (sA (sF (sF (sF (sF (sF g_24 h 1 (.ref q_17)) h 2 (.int 0)) h 3 (.int 0)) h 4 (.int 10)) h 5 (.int 0)) q_25 50 16).2.2.1 q_17 = 4 := ((sA_g q_17 (ne0 r_20 o_q_25 (by decide))).2.2.1.trans n_21)
  have n_31 : (sA (sF (sF (sF (sF (sF g_24 h 1 (.ref q_17)) h 2 (.int 0)) h 3 (.int 0)) h 4 (.int 10)) h 5 (.int 0)) q_25 50 16).2.2.1 q_25 = 16 := sA_n
  have kn_32 : (sA (sF (sF (sF (sF (sF g_24 h 1 (.ref q_17)) h 2 (.int 0)) h 3 (.int 0)) h 4 (.int 10)) h 5 (.int 0)) q_25 50 16).2.1 q_1 3 = .int 0 := ((congrFun (sA_g q_1 (ne0 r_19 o_q_25 (by decide))).2.1 3).trans (sF_k (sF_k (sF_a (sF_k (sF_k kn_22 (by decide)) (by decide)) (ro_ne r_19 r_18 (by decide))) (by decide)) (by decide)))
  have kn_33 : (sA (sF (sF (sF (sF (sF g_24 h 1 (.ref q_17)) h 2 (.int 0)) h 3 (.int 0)) h 4 (.int 10)) h 5 (.int 0)) q_25 50 16).2.1 h 0 = .ref q_1 := ((congrFun (sA_g h (ne0 r_18 o_q_25 (by decide))).2.1 0).trans (sF_k (sF_k (sF_k (sF_k (sF_k kn_23 (by decide)) (by decide)) (by decide)) (by decide)) (by decide)))
  have kn_34 : (sA (sF (sF (sF (sF (sF g_24 h 1 (.ref q_17)) h 2 (.int 0)) h 3 (.int 0)) h 4 (.int 10)) h 5 (.int 0)) q_25 50 16).2.1 h 1 = .ref q_17 := ((congrFun (sA_g h (ne0 r_18 o_q_25 (by decide))).2.1 1).trans (sF_k (sF_k (sF_k (sF_k sF_eq (by decide)) (by decide)) (by decide)) (by decide)))
  have kn_35 : (sA (sF (sF (sF (sF (sF g_24 h 1 (.ref q_17)) h 2 (.int 0)) h 3 (.int 0)) h 4 (.int 10)) h 5 (.int 0)) q_25 50 16).2.1 h 2 = .int 0 := ((congrFun (sA_g h (ne0 r_18 o_q_25 (by decide))).2.1 2).trans (sF_k (sF_k (sF_k sF_eq (by decide)) (by decide)) (by decide)))
  have kn_36 : (sA (sF (sF (sF (sF (sF g_24 h 1 (.ref q_17)) h 2 (.int 0)) h 3 (.int 0)) h 4 (.int 10)) h 5 (.int 0)) q_25 50 16).2.1 h 3 = .int 0 := ((congrFun (sA_g h (ne0 r_18 o_q_25 (by decide))).2.1 3).trans (sF_k (sF_k sF_eq (by decide)) (by decide)))
  have kn_37 : (sA (sF (sF (sF (sF (sF g_24 h 1 (.ref q_17)) h 2 (.int 0)) h 3 (.int 0)) h 4 (.int 10)) h 5 (.int 0)) q_25 50 16).2.1 h 4 = .int 10 := ((congrFun (sA_g h (ne0 r_18 o_q_25 (by decide))).2.1 4).trans (sF_k sF_eq (by decide)))
  have kn_38 : (sA (sF (sF (sF (sF (sF g_24 h 1 (.ref q_17)) h 2 (.int 0)) h 3 (.int 0)) h 4 (.int 10)) h 5 (.int 0)) q_25 50 16).2.1 h 5 = .int 0 := ((congrFun (sA_g h (ne0 r_18 o_q_25 (by decide))).2.1 5).trans sF_eq)
  generalize (sA (sF (sF (sF (sF (sF g_24 h 1 (.ref q_17)) h 2 (.int 0)) h 3 (.int 0)) h 4 (.int 10)) h 5 (.int 0)) q_25 50 16) = g_39 at hT hI hM hE r_26 r_27 r_28 r_29 n_30 n_31 kn_32 kn_33 kn_34 kn_35 kn_36 kn_37 kn_38
  clear kn_22 kn_23 n_21 r_18 r_19 r_20
  refine W.widen (k := 6) (n := 48) (Nat.le_of_ble_eq_true rfl) (Nat.le_of_ble_eq_true rfl) ?_
  refine t_put0 (ci := 3) (v := .ref q_25) hB hT (ro_ci r_26 rfl) (ro_n0 r_26 (by decide)) rfl 6 (by decide) k_159 (Or.inr ⟨hin, rfl⟩) rfl rfl dX3_init_48 (fun H locs hT => ?_)
  replace hI : Inv (sF g_39 h 6 (.ref q_25)) := hI.sF (fk r_26 (show fsm _ _ ft from trivial))
  replace hM : Sm md_n_Service g (sF g_39 h 6 (.ref q_25)) := hM.tr hE (Sm_sF (by rw [r_26]; rfl))
  replace hE : Ex g (sF g_39 h 6 (.ref q_25)) := hE
  refine lv_aload_n hx hb dX3_init_51 rfl (lv_at hl 0 rfl) ?_
  refine lv_bipush (v := 16) hx hb dX3_init_52 (by decide) ?_
  refine t_newi (N' := 16) hB hT 50 (by decide) k_101 (by decide) (by decide) (by decide) (Nat.le_of_ble_eq_true rfl) (Nat.le_of_ble_eq_true rfl) dX3_init_54 (fun q_40 H o_q_40 hT => ?_)
  have z_q_40 : g.1 q_40 = 0 := hE.z0 o_q_40
  replace hI : Inv (sA (sF g_39 h 6 (.ref q_25)) q_40 50 16) := hI.newi o_q_40 (by decide) (fun _ => rfl) trivial (fun _ => trivial)
  replace hM : Sm md_n_Service g (sA (sF g_39 h 6 (.ref q_25)) q_40 50 16) := hM.tr hE (Sm.push o_q_40 sA_g)
  replace hE : Ex g (sA (sF g_39 h 6 (.ref q_25)) q_40 50 16) := hE.tr (Ex.push o_q_40 sA_g)
  have r_41 : (sA (sF g_39 h 6 (.ref q_25)) q_40 50 16).1 h = 14 := ((sA_g h (ne0 r_26 o_q_40 (by decide))).1.trans r_26)
  have r_42 : (sA (sF g_39 h 6 (.ref q_25)) q_40 50 16).1 q_1 = 3 := ((sA_g q_1 (ne0 r_27 o_q_40 (by decide))).1.trans r_27)
  have r_43 : (sA (sF g_39 h 6 (.ref q_25)) q_40 50 16).1 q_17 = 50 := ((sA_g q_17 (ne0 r_28 o_q_40 (by decide))).1.trans r_28)
  have r_44 : (sA (sF g_39 h 6 (.ref q_25)) q_40 50 16).1 q_25 = 50 := ((sA_g q_25 (ne0 r_29 o_q_40 (by decide))).1.trans r_29)
  have r_45 : (sA (sF g_39 h 6 (.ref q_25)) q_40 50 16).1 q_40 = 50 := sA_r
  have n_46 : (sA (sF g_39 h 6 (.ref q_25)) q_40 50 16).2.2.1 q_17 = 4 := ((sA_g q_17 (ne0 r_28 o_q_40 (by decide))).2.2.1.trans n_30)
  have n_47 : (sA (sF g_39 h 6 (.ref q_25)) q_40 50 16).2.2.1 q_25 = 16 := ((sA_g q_25 (ne0 r_29 o_q_40 (by decide))).2.2.1.trans n_31)
  have n_48 : (sA (sF g_39 h 6 (.ref q_25)) q_40 50 16).2.2.1 q_40 = 16 := sA_n
  have kn_49 : (sA (sF g_39 h 6 (.ref q_25)) q_40 50 16).2.1 q_1 3 = .int 0 := ((congrFun (sA_g q_1 (ne0 r_27 o_q_40 (by decide))).2.1 3).trans (sF_k kn_32 (by decide)))
  have kn_50 : (sA (sF g_39 h 6 (.ref q_25)) q_40 50 16).2.1 h 0 = .ref q_1 := ((congrFun (sA_g h (ne0 r_26 o_q_40 (by decide))).2.1 0).trans (sF_k kn_33 (by decide)))
  have kn_51 : (sA (sF g_39 h 6 (.ref q_25)) q_40 50 16).2.1 h 1 = .ref q_17 := ((congrFun (sA_g h (ne0 r_26 o_q_40 (by decide))).2.1 1).trans (sF_k kn_34 (by decide)))
  have kn_52 : (sA (sF g_39 h 6 (.ref q_25)) q_40 50 16).2.1 h 2 = .int 0 := ((congrFun (sA_g h (ne0 r_26 o_q_40 (by decide))).2.1 2).trans (sF_k kn_35 (by decide)))
  have kn_53 : (sA (sF g_39 h 6 (.ref q_25)) q_40 50 16).2.1 h 3 = .int 0 := ((congrFun (sA_g h (ne0 r_26 o_q_40 (by decide))).2.1 3).trans (sF_k kn_36 (by decide)))
  have kn_54 : (sA (sF g_39 h 6 (.ref q_25)) q_40 50 16).2.1 h 4 = .int 10 := ((congrFun (sA_g h (ne0 r_26 o_q_40 (by decide))).2.1 4).trans (sF_k kn_37 (by decide)))
  have kn_55 : (sA (sF g_39 h 6 (.ref q_25)) q_40 50 16).2.1 h 5 = .int 0 := ((congrFun (sA_g h (ne0 r_26 o_q_40 (by decide))).2.1 5).trans (sF_k kn_38 (by decide)))
  have kn_56 : (sA (sF g_39 h 6 (.ref q_25)) q_40 50 16).2.1 h 6 = .ref q_25 := ((congrFun (sA_g h (ne0 r_26 o_q_40 (by decide))).2.1 6).trans sF_eq)
  generalize (sA (sF g_39 h 6 (.ref q_25)) q_40 50 16) = g_57 at hT hI hM hE r_41 r_42 r_43 r_44 r_45 n_46 n_47 n_48 kn_49 kn_50 kn_51 kn_52 kn_53 kn_54 kn_55 kn_56
  clear kn_32 kn_33 kn_34 kn_35 kn_36 kn_37 kn_38 n_30 n_31 r_26 r_27 r_28 r_29
  refine W.widen (k := 7) (n := 64) (Nat.le_of_ble_eq_true rfl) (Nat.le_of_ble_eq_true rfl) ?_
  refine t_put0 (ci := 3) (v := .ref q_40) hB hT (ro_ci r_41 rfl) (ro_n0 r_41 (by decide)) rfl 7 (by decide) k_160 (Or.inr ⟨hin, rfl⟩) rfl rfl dX3_init_56 (fun H locs hT => ?_)
  replace hI : Inv (sF g_57 h 7 (.ref q_40)) := hI.sF (fk r_41 (show fsm _ _ ft from trivial))
  replace hM : Sm md_n_Service g (sF g_57 h 7 (.ref q_40)) := hM.tr hE (Sm_sF (by rw [r_41]; rfl))
  replace hE : Ex g (sF g_57 h 7 (.ref q_40)) := hE
  refine lv_aload_n hx hb dX3_init_59 rfl (lv_at hl 0 rfl) ?_
  refine lv_bipush (v := 16) hx hb dX3_init_60 (by decide) ?_
  refine t_newi (N' := 16) hB hT 50 (by decide) k_101 (by decide) (by decide) (by decide) (Nat.le_of_ble_eq_true rfl) (Nat.le_of_ble_eq_true rfl) dX3_init_62 (fun q_58 H o_q_58 hT => ?_)
  have z_q_58 : g.1 q_58 = 0 := hE.z0 o_q_58
  replace hI : Inv (sA (sF g_57 h 7 (.ref q_40)) q_58 50 16) := hI.newi o_q_58 (by decide) (fun _ => rfl) trivial (fun _ => trivial)
  replace hM : Sm md_n_Service g (sA (sF g_57 h 7 (.ref q_40)) q_58 50 16) := hM.tr hE (Sm.push o_q_58 sA_g)
  replace hE : Ex g (sA (sF g_57 h 7 (.ref q_40)) q_58 50 16) := hE.tr (Ex.push o_q_58 sA_g)
  have r_59 : (sA (sF g_57 h 7 (.ref q_40)) q_58 50 16).1 h = 14 := ((sA_g h (ne0 r_41 o_q_58 (by decide))).1.trans r_41)
  have r_60 : (sA (sF g_57 h 7 (.ref q_40)) q_58 50 16).1 q_1 = 3 := ((sA_g q_1 (ne0 r_42 o_q_58 (by decide))).1.trans r_42)
  have r_61 : (sA (sF g_57 h 7 (.ref q_40)) q_58 50 16).1 q_17 = 50 := ((sA_g q_17 (ne0 r_43 o_q_58 (by decide))).1.trans r_43)
  have r_62 : (sA (sF g_57 h 7 (.ref q_40)) q_58 50 16).1 q_25 = 50 := ((sA_g q_25 (ne0 r_44 o_q_58 (by decide))).1.trans r_44)
  have r_63 : (sA (sF g_57 h 7 (.ref q_40)) q_58 50 16).1 q_40 = 50 := ((sA_g q_40 (ne0 r_45 o_q_58 (by decide))).1.trans r_45)
  have r_64 : (sA (sF g_57 h 7 (.ref q_40)) q_58 50 16).1 q_58 = 50 := sA_r
  have n_65 : (sA (sF g_57 h 7 (.ref q_40)) q_58 50 16).2.2.1 q_17 = 4 := ((sA_g q_17 (ne0 r_43 o_q_58 (by decide))).2.2.1.trans n_46)
  have n_66 : (sA (sF g_57 h 7 (.ref q_40)) q_58 50 16).2.2.1 q_25 = 16 := ((sA_g q_25 (ne0 r_44 o_q_58 (by decide))).2.2.1.trans n_47)
  have n_67 : (sA (sF g_57 h 7 (.ref q_40)) q_58 50 16).2.2.1 q_40 = 16 := ((sA_g q_40 (ne0 r_45 o_q_58 (by decide))).2.2.1.trans n_48)
  have n_68 : (sA (sF g_57 h 7 (.ref q_40)) q_58 50 16).2.2.1 q_58 = 16 := sA_n
  have kn_69 : (sA (sF g_57 h 7 (.ref q_40)) q_58 50 16).2.1 q_1 3 = .int 0 := ((congrFun (sA_g q_1 (ne0 r_42 o_q_58 (by decide))).2.1 3).trans (sF_k kn_49 (by decide)))
  have kn_70 : (sA (sF g_57 h 7 (.ref q_40)) q_58 50 16).2.1 h 0 = .ref q_1 := ((congrFun (sA_g h (ne0 r_41 o_q_58 (by decide))).2.1 0).trans (sF_k kn_50 (by decide)))
  have kn_71 : (sA (sF g_57 h 7 (.ref q_40)) q_58 50 16).2.1 h 1 = .ref q_17 := ((congrFun (sA_g h (ne0 r_41 o_q_58 (by decide))).2.1 1).trans (sF_k kn_51 (by decide)))
  have kn_72 : (sA (sF g_57 h 7 (.ref q_40)) q_58 50 16).2.1 h 2 = .int 0 := ((congrFun (sA_g h (ne0 r_41 o_q_58 (by decide))).2.1 2).trans (sF_k kn_52 (by decide)))
  have kn_73 : (sA (sF g_57 h 7 (.ref q_40)) q_58 50 16).2.1 h 3 = .int 0 := ((congrFun (sA_g h (ne0 r_41 o_q_58 (by decide))).2.1 3).trans (sF_k kn_53 (by decide)))
  have kn_74 : (sA (sF g_57 h 7 (.ref q_40)) q_58 50 16).2.1 h 4 = .int 10 := ((congrFun (sA_g h (ne0 r_41 o_q_58 (by decide))).2.1 4).trans (sF_k kn_54 (by decide)))
  have kn_75 : (sA (sF g_57 h 7 (.ref q_40)) q_58 50 16).2.1 h 5 = .int 0 := ((congrFun (sA_g h (ne0 r_41 o_q_58 (by decide))).2.1 5).trans (sF_k kn_55 (by decide)))
  have kn_76 : (sA (sF g_57 h 7 (.ref q_40)) q_58 50 16).2.1 h 6 = .ref q_25 := ((congrFun (sA_g h (ne0 r_41 o_q_58 (by decide))).2.1 6).trans (sF_k kn_56 (by decide)))
  have kn_77 : (sA (sF g_57 h 7 (.ref q_40)) q_58 50 16).2.1 h 7 = .ref q_40 := ((congrFun (sA_g h (ne0 r_41 o_q_58 (by decide))).2.1 7).trans sF_eq)
  generalize (sA (sF g_57 h 7 (.ref q_40)) q_58 50 16) = g_78 at hT hI hM hE r_59 r_60 r_61 r_62 r_63 r_64 n_65 n_66 n_67 n_68 kn_69 kn_70 kn_71 kn_72 kn_73 kn_74 kn_75 kn_76 kn_77
  clear kn_49 kn_50 kn_51 kn_52 kn_53 kn_54 kn_55 kn_56 n_46 n_47 n_48 r_41 r_42 r_43 r_44 r_45
  refine W.widen (k := 8) (n := 80) (Nat.le_of_ble_eq_true rfl) (Nat.le_of_ble_eq_true rfl) ?_
  refine t_put0 (ci := 3) (v := .ref q_58) hB hT (ro_ci r_59 rfl) (ro_n0 r_59 (by decide)) rfl 8 (by decide) k_161 (Or.inr ⟨hin, rfl⟩) rfl rfl dX3_init_64 (fun H locs hT => ?_)
  replace hI : Inv (sF g_78 h 8 (.ref q_58)) := hI.sF (fk r_59 (show fsm _ _ ft from trivial))
  replace hM : Sm md_n_Service g (sF g_78 h 8 (.ref q_58)) := hM.tr hE (Sm_sF (by rw [r_59]; rfl))
  replace hE : Ex g (sF g_78 h 8 (.ref q_58)) := hE
  refine lv_aload_n hx hb dX3_init_67 rfl (lv_at hl 0 rfl) ?_
  refine lv_bipush (v := 16) hx hb dX3_init_68 (by decide) ?_
  refine t_newi (N' := 16) hB hT 50 (by decide) k_101 (by decide) (by decide) (by decide) (Nat.le_of_ble_eq_true rfl) (Nat.le_of_ble_eq_true rfl) dX3_init_70 (fun q_79 H o_q_79 hT => ?_)
  have z_q_79 : g.1 q_79 = 0 := hE.z0 o_q_79
  replace hI : Inv (sA (sF g_78 h 8 (.ref q_58)) q_79 50 16) := hI.newi o_q_79 (by decide) (fun _ => rfl) trivial (fun _ => trivial)
  replace hM : Sm md_n_Service g (sA (sF g_78 h 8 (.ref q_58)) q_79 50 16) := hM.tr hE (Sm.push o_q_79 sA_g)
  replace hE : Ex g (sA (sF g_78 h 8 (.ref q_58)) q_79 50 16) := hE.tr (Ex.push o_q_79 sA_g)
  have r_80 : (sA (sF g_78 h 8 (.ref q_58)) q_79 50 16).1 h = 14 := ((sA_g h (ne0 r_59 o_q_79 (by decide))).1.trans r_59)
  have r_81 : (sA (sF g_78 h 8 (.ref q_58)) q_79 50 16).1 q_1 = 3 := ((sA_g q_1 (ne0 r_60 o_q_79 (by decide))).1.trans r_60)
  have r_82 : (sA (sF g_78 h 8 (.ref q_58)) q_79 50 16).1 q_17 = 50 := ((sA_g q_17 (ne0 r_61 o_q_79 (by decide))).1.trans r_61)
  have r_83 : (sA (sF g_78 h 8 (.ref q_58)) q_79 50 16).1 q_25 = 50 := ((sA_g q_25 (ne0 r_62 o_q_79 (by decide))).1.trans r_62)
  have r_84 : (sA (sF g_78 h 8 (.ref q_58)) q_79 50 16).1 q_40 = 50 := ((sA_g q_40 (ne0 r_63 o_q_79 (by decide))).1.trans r_63)
  have r_85 : (sA (sF g_78 h 8 (.ref q_58)) q_79 50 16).1 q_58 = 50 := ((sA_g q_58 (ne0 r_64 o_q_79 (by decide))).1.trans r_64)
  have r_86 : (sA (sF g_78 h 8 (.ref q_58)) q_79 50 16).1 q_79 = 50 := sA_r
  have n_87 : (sA (sF g_78 h 8 (.ref q_58)) q_79 50 16).2.2.1 q_17 = 4 := ((sA_g q_17 (ne0 r_61 o_q_79 (by decide))).2.2.1.trans n_65)
  have n_88 : (sA (sF g_78 h 8 (.ref q_58)) q_79 50 16).2.2.1 q_25 = 16 := ((sA_g q_25 (ne0 r_62 o_q_79 (by decide))).2.2.1.trans n_66)
  have n_89 : (sA (sF g_78 h 8 (.ref q_58)) q_79 50 16).2.2.1 q_40 = 16 := ((sA_g q_40 (ne0 r_63 o_q_79 (by decide))).2.2.1.trans n_67)
  have n_90 : (sA (sF g_78 h 8 (.ref q_58)) q_79 50 16).2.2.1 q_58 = 16 := ((sA_g q_58 (ne0 r_64 o_q_79 (by decide))).2.2.1.trans n_68)
  have n_91 : (sA (sF g_78 h 8 (.ref q_58)) q_79 50 16).2.2.1 q_79 = 16 := sA_n
  have kn_92 : (sA (sF g_78 h 8 (.ref q_58)) q_79 50 16).2.1 q_1 3 = .int 0 := ((congrFun (sA_g q_1 (ne0 r_60 o_q_79 (by decide))).2.1 3).trans (sF_k kn_69 (by decide)))
  have kn_93 : (sA (sF g_78 h 8 (.ref q_58)) q_79 50 16).2.1 h 0 = .ref q_1 := ((congrFun (sA_g h (ne0 r_59 o_q_79 (by decide))).2.1 0).trans (sF_k kn_70 (by decide)))
  have kn_94 : (sA (sF g_78 h 8 (.ref q_58)) q_79 50 16).2.1 h 1 = .ref q_17 := ((congrFun (sA_g h (ne0 r_59 o_q_79 (by decide))).2.1 1).trans (sF_k kn_71 (by decide)))
  have kn_95 : (sA (sF g_78 h 8 (.ref q_58)) q_79 50 16).2.1 h 2 = .int 0 := ((congrFun (sA_g h (ne0 r_59 o_q_79 (by decide))).2.1 2).trans (sF_k kn_72 (by decide)))
  have kn_96 : (sA (sF g_78 h 8 (.ref q_58)) q_79 50 16).2.1 h 3 = .int 0 := ((congrFun (sA_g h (ne0 r_59 o_q_79 (by decide))).2.1 3).trans (sF_k kn_73 (by decide)))
  have kn_97 : (sA (sF g_78 h 8 (.ref q_58)) q_79 50 16).2.1 h 4 = .int 10 := ((congrFun (sA_g h (ne0 r_59 o_q_79 (by decide))).2.1 4).trans (sF_k kn_74 (by decide)))
  have kn_98 : (sA (sF g_78 h 8 (.ref q_58)) q_79 50 16).2.1 h 5 = .int 0 := ((congrFun (sA_g h (ne0 r_59 o_q_79 (by decide))).2.1 5).trans (sF_k kn_75 (by decide)))
  have kn_99 : (sA (sF g_78 h 8 (.ref q_58)) q_79 50 16).2.1 h 6 = .ref q_25 := ((congrFun (sA_g h (ne0 r_59 o_q_79 (by decide))).2.1 6).trans (sF_k kn_76 (by decide)))
  have kn_100 : (sA (sF g_78 h 8 (.ref q_58)) q_79 50 16).2.1 h 7 = .ref q_40 := ((congrFun (sA_g h (ne0 r_59 o_q_79 (by decide))).2.1 7).trans (sF_k kn_77 (by decide)))
  have kn_101 : (sA (sF g_78 h 8 (.ref q_58)) q_79 50 16).2.1 h 8 = .ref q_58 := ((congrFun (sA_g h (ne0 r_59 o_q_79 (by decide))).2.1 8).trans sF_eq)
  generalize (sA (sF g_78 h 8 (.ref q_58)) q_79 50 16) = g_102 at hT hI hM hE r_80 r_81 r_82 r_83 r_84 r_85 r_86 n_87 n_88 n_89 n_90 n_91 kn_92 kn_93 kn_94 kn_95 kn_96 kn_97 kn_98 kn_99 kn_100 kn_101
  clear kn_69 kn_70 kn_71 kn_72 kn_73 kn_74 kn_75 kn_76 kn_77 n_65 n_66 n_67 n_68 r_59 r_60 r_61 r_62 r_63 r_64
  refine W.widen (k := 9) (n := 96) (Nat.le_of_ble_eq_true rfl) (Nat.le_of_ble_eq_true rfl) ?_
  refine t_put0 (ci := 3) (v := .ref q_79) hB hT (ro_ci r_80 rfl) (ro_n0 r_80 (by decide)) rfl 9 (by decide) k_162 (Or.inr ⟨hin, rfl⟩) rfl rfl dX3_init_72 (fun H locs hT => ?_)
  replace hI : Inv (sF g_102 h 9 (.ref q_79)) := hI.sF (fk r_80 (show fsm _ _ ft from trivial))
  replace hM : Sm md_n_Service g (sF g_102 h 9 (.ref q_79)) := hM.tr hE (Sm_sF (by rw [r_80]; rfl))
  replace hE : Ex g (sF g_102 h 9 (.ref q_79)) := hE
  refine lv_aload_n hx hb dX3_init_75 rfl (lv_at hl 0 rfl) ?_
  refine lv_iconst (v := (-1)) hx hb dX3_init_76 (by decide) ?_
  refine t_put0 (ci := 3) (v := .int (-1)) hB hT (ro_ci r_80 rfl) (ro_n0 r_80 (by decide)) rfl 10 (by decide) k_163 (Or.inl rfl) rfl rfl dX3_init_77 (fun H locs hT => ?_)
  replace hI : Inv (sF (sF g_102 h 9 (.ref q_79)) h 10 (.int (-1))) := hI.sF (fk r_80 (show fsm _ _ ft from trivial))
  replace hM : Sm md_n_Service g (sF (sF g_102 h 9 (.ref q_79)) h 10 (.int (-1))) := hM.tr hE (Sm_sF (by rw [r_80]; rfl))
  replace hE : Ex g (sF (sF g_102 h 9 (.ref q_79)) h 10 (.int (-1))) := hE
  refine lv_aload_n hx hb dX3_init_80 rfl (lv_at hl 0 rfl) ?_
  refine lv_iconst (v := (-1)) hx hb dX3_init_81 (by decide) ?_
  refine t_put0 (ci := 3) (v := .int (-1)) hB hT (ro_ci r_80 rfl) (ro_n0 r_80 (by decide)) rfl 11 (by decide) k_164 (Or.inl rfl) rfl rfl dX3_init_82 (fun H locs hT => ?_)
  replace hI : Inv (sF (sF (sF g_102 h 9 (.ref q_79)) h 10 (.int (-1))) h 11 (.int (-1))) := hI.sF (fk r_80 (show fsm _ _ ft from trivial))
  replace hM : Sm md_n_Service g (sF (sF (sF g_102 h 9 (.ref q_79)) h 10 (.int (-1))) h 11 (.int (-1))) := hM.tr hE (Sm_sF (by rw [r_80]; rfl))
  replace hE : Ex g (sF (sF (sF g_102 h 9 (.ref q_79)) h 10 (.int (-1))) h 11 (.int (-1))) := hE
  refine lv_aload_n hx hb dX3_init_85 rfl (lv_at hl 0 rfl) ?_
  refine lv_bipush (v := 8) hx hb dX3_init_86 (by decide) ?_
  refine t_newi (N' := 8) hB hT 50 (by decide) k_101 (by decide) (by decide) (by decide) (Nat.le_of_ble_eq_true rfl) (Nat.le_of_ble_eq_true rfl) dX3_init_88 (fun q_103 H o_q_103 hT => ?_)
  have z_q_103 : g.1 q_103 = 0 := hE.z0 o_q_103
  replace hI : Inv (sA (sF (sF (sF g_102 h 9 (.ref q_79)) h 10 (.int (-1))) h 11 (.int (-1))) q_103 50 8) := hI.newi o_q_103 (by decide) (fun _ => rfl) trivial (fun _ => trivial)
  replace hM : Sm md_n_Service g (sA (sF (sF (sF g_102 h 9 (.ref q_79)) h 10 (.int (-1))) h 11 (.int (-1))) q_103 50 8) := hM.tr hE (Sm.push o_q_103 sA_g)
  replace hE : Ex g (sA (sF (sF (sF g_102 h 9 (.ref q_79)) h 10 (.int (-1))) h 11 (.int (-1))) q_103 50 8) := hE.tr (Ex.push o_q_103 sA_g)
  have r_104 : (sA (sF (sF (sF g_102 h 9 (.ref q_79)) h 10 (.int (-1))) h 11 (.int (-1))) q_103 50 8).1 h = 14 := ((sA_g h (ne0 r_80 o_q_103 (by decide))).1.trans r_80)
  have r_105 : (sA (sF (sF (sF g_102 h 9 (.ref q_79)) h 10 (.int (-1))) h 11 (.int (-1))) q_103 50 8).1 q_1 = 3 := ((sA_g q_1 (ne0 r_81 o_q_103 (by decide))).1.trans r_81)
  have r_106 : (sA (sF (sF (sF g_102 h 9 (.ref q_79)) h 10 (.int (-1))) h 11 (.int (-1))) q_103 50 8).1 q_17 = 50 := ((sA_g q_17 (ne0 r_82 o_q_103 (by decide))).1.trans r_82)
  have r_107 : (sA (sF (sF (sF g_102 h 9 (.ref q_79)) h 10 (.int (-1))) h 11 (.int (-1))) q_103 50 8).1 q_25 = 50 := ((sA_g q_25 (ne0 r_83 o_q_103 (by decide))).1.trans r_83)
  have r_108 : (sA (sF (sF (sF g_102 h 9 (.ref q_79)) h 10 (.int (-1))) h 11 (.int (-1))) q_103 50 8).1 q_40 = 50 := ((sA_g q_40 (ne0 r_84 o_q_103 (by decide))).1.trans r_84)
  have r_109 : (sA (sF (sF (sF g_102 h 9 (.ref q_79)) h 10 (.int (-1))) h 11 (.int (-1))) q_103 50 8).1 q_58 = 50 := ((sA_g q_58 (ne0 r_85 o_q_103 (by decide))).1.trans r_85)
  have r_110 : (sA (sF (sF (sF g_102 h 9 (.ref q_79)) h 10 (.int (-1))) h 11 (.int (-1))) q_103 50 8).1 q_79 = 50 := ((sA_g q_79 (ne0 r_86 o_q_103 (by decide))).1.trans r_86)
  have r_111 : (sA (sF (sF (sF g_102 h 9 (.ref q_79)) h 10 (.int (-1))) h 11 (.int (-1))) q_103 50 8).1 q_103 = 50 := sA_r
  have n_112 : (sA (sF (sF (sF g_102 h 9 (.ref q_79)) h 10 (.int (-1))) h 11 (.int (-1))) q_103 50 8).2.2.1 q_17 = 4 := ((sA_g q_17 (ne0 r_82 o_q_103 (by decide))).2.2.1.trans n_87)
  have n_113 : (sA (sF (sF (sF g_102 h 9 (.ref q_79)) h 10 (.int (-1))) h 11 (.int (-1))) q_103 50 8).2.2.1 q_25 = 16 := ((sA_g q_25 (ne0 r_83 o_q_103 (by decide))).2.2.1.trans n_88)
  have n_114 : (sA (sF (sF (sF g_102 h 9 (.ref q_79)) h 10 (.int (-1))) h 11 (.int (-1))) q_103 50 8).2.2.1 q_40 = 16 := ((sA_g q_40 (ne0 r_84 o_q_103 (by decide))).2.2.1.trans n_89)
  have n_115 : (sA (sF (sF (sF g_102 h 9 (.ref q_79)) h 10 (.int (-1))) h 11 (.int (-1))) q_103 50 8).2.2.1 q_58 = 16 := ((sA_g q_58 (ne0 r_85 o_q_103 (by decide))).2.2.1.trans n_90)
  have n_116 : (sA (sF (sF (sF g_102 h 9 (.ref q_79)) h 10 (.int (-1))) h 11 (.int (-1))) q_103 50 8).2.2.1 q_79 = 16 := ((sA_g q_79 (ne0 r_86 o_q_103 (by decide))).2.2.1.trans n_91)
  have n_117 : (sA (sF (sF (sF g_102 h 9 (.ref q_79)) h 10 (.int (-1))) h 11 (.int (-1))) q_103 50 8).2.2.1 q_103 = 8 := sA_n
  have kn_118 : (sA (sF (sF (sF g_102 h 9 (.ref q_79)) h 10 (.int (-1))) h 11 (.int (-1))) q_103 50 8).2.1 q_1 3 = .int 0 := ((congrFun (sA_g q_1 (ne0 r_81 o_q_103 (by decide))).2.1 3).trans (sF_k (sF_k (sF_k kn_92 (by decide)) (by decide)) (by decide)))
  have kn_119 : (sA (sF (sF (sF g_102 h 9 (.ref q_79)) h 10 (.int (-1))) h 11 (.int (-1))) q_103 50 8).2.1 h 0 = .ref q_1 := ((congrFun (sA_g h (ne0 r_80 o_q_103 (by decide))).2.1 0).trans (sF_k (sF_k (sF_k kn_93 (by decide)) (by decide)) (by decide)))
  have kn_120 : (sA (sF (sF (sF g_102 h 9 (.ref q_79)) h 10 (.int (-1))) h 11 (.int (-1))) q_103 50 8).2.1 h 1 = .ref q_17 := ((congrFun (sA_g h (ne0 r_80 o_q_103 (by decide))).2.1 1).trans (sF_k (sF_k (sF_k kn_94 (by decide)) (by decide)) (by decide)))
  have kn_121 : (sA (sF (sF (sF g_102 h 9 (.ref q_79)) h 10 (.int (-1))) h 11 (.int (-1))) q_103 50 8).2.1 h 2 = .int 0 := ((congrFun (sA_g h (ne0 r_80 o_q_103 (by decide))).2.1 2).trans (sF_k (sF_k (sF_k kn_95 (by decide)) (by decide)) (by decide)))
  have kn_122 : (sA (sF (sF (sF g_102 h 9 (.ref q_79)) h 10 (.int (-1))) h 11 (.int (-1))) q_103 50 8).2.1 h 3 = .int 0 := ((congrFun (sA_g h (ne0 r_80 o_q_103 (by decide))).2.1 3).trans (sF_k (sF_k (sF_k kn_96 (by decide)) (by decide)) (by decide)))
  have kn_123 : (sA (sF (sF (sF g_102 h 9 (.ref q_79)) h 10 (.int (-1))) h 11 (.int (-1))) q_103 50 8).2.1 h 4 = .int 10 := ((congrFun (sA_g h (ne0 r_80 o_q_103 (by decide))).2.1 4).trans (sF_k (sF_k (sF_k kn_97 (by decide)) (by decide)) (by decide)))
  have kn_124 : (sA (sF (sF (sF g_102 h 9 (.ref q_79)) h 10 (.int (-1))) h 11 (.int (-1))) q_103 50 8).2.1 h 5 = .int 0 := ((congrFun (sA_g h (ne0 r_80 o_q_103 (by decide))).2.1 5).trans (sF_k (sF_k (sF_k kn_98 (by decide)) (by decide)) (by decide)))
  have kn_125 : (sA (sF (sF (sF g_102 h 9 (.ref q_79)) h 10 (.int (-1))) h 11 (.int (-1))) q_103 50 8).2.1 h 6 = .ref q_25 := ((congrFun (sA_g h (ne0 r_80 o_q_103 (by decide))).2.1 6).trans (sF_k (sF_k (sF_k kn_99 (by decide)) (by decide)) (by decide)))
  have kn_126 : (sA (sF (sF (sF g_102 h 9 (.ref q_79)) h 10 (.int (-1))) h 11 (.int (-1))) q_103 50 8).2.1 h 7 = .ref q_40 := ((congrFun (sA_g h (ne0 r_80 o_q_103 (by decide))).2.1 7).trans (sF_k (sF_k (sF_k kn_100 (by decide)) (by decide)) (by decide)))
  have kn_127 : (sA (sF (sF (sF g_102 h 9 (.ref q_79)) h 10 (.int (-1))) h 11 (.int (-1))) q_103 50 8).2.1 h 8 = .ref q_58 := ((congrFun (sA_g h (ne0 r_80 o_q_103 (by decide))).2.1 8).trans (sF_k (sF_k (sF_k kn_101 (by decide)) (by decide)) (by decide)))
  have kn_128 : (sA (sF (sF (sF g_102 h 9 (.ref q_79)) h 10 (.int (-1))) h 11 (.int (-1))) q_103 50 8).2.1 h 9 = .ref q_79 := ((congrFun (sA_g h (ne0 r_80 o_q_103 (by decide))).2.1 9).trans (sF_k (sF_k sF_eq (by decide)) (by decide)))
  have kn_129 : (sA (sF (sF (sF g_102 h 9 (.ref q_79)) h 10 (.int (-1))) h 11 (.int (-1))) q_103 50 8).2.1 h 10 = .int (-1) := ((congrFun (sA_g h (ne0 r_80 o_q_103 (by decide))).2.1 10).trans (sF_k sF_eq (by decide)))
  have kn_130 : (sA (sF (sF (sF g_102 h 9 (.ref q_79)) h 10 (.int (-1))) h 11 (.int (-1))) q_103 50 8).2.1 h 11 = .int (-1) := ((congrFun (sA_g h (ne0 r_80 o_q_103 (by decide))).2.1 11).trans sF_eq)
  generalize (sA (sF (sF (sF g_102 h 9 (.ref q_79)) h 10 (.int (-1))) h 11 (.int (-1))) q_103 50 8) = g_131 at hT hI hM hE r_104 r_105 r_106 r_107 r_108 r_109 r_110 r_111 n_112 n_113 n_114 n_115 n_116 n_117 kn_118 kn_119 kn_120 kn_121 kn_122 kn_123 kn_124 kn_125 kn_126 kn_127 kn_128 kn_129 kn_130
  clear kn_100 kn_101 kn_92 kn_93 kn_94 kn_95 kn_96 kn_97 kn_98 kn_99 n_87 n_88 n_89 n_90 n_91 r_80 r_81 r_82 r_83 r_84 r_85 r_86
  refine W.widen (k := 10) (n := 104) (Nat.le_of_ble_eq_true rfl) (Nat.le_of_ble_eq_true rfl) ?_
  refine t_put0 (ci := 3) (v := .ref q_103) hB hT (ro_ci r_104 rfl) (ro_n0 r_104 (by decide)) rfl 12 (by decide) k_165 (Or.inr ⟨hin, rfl⟩) rfl rfl dX3_init_90 (fun H locs hT => ?_)
  replace hI : Inv (sF g_131 h 12 (.ref q_103)) := hI.sF (fk r_104 (show fsm _ _ ft from trivial))
  replace hM : Sm md_n_Service g (sF g_131 h 12 (.ref q_103)) := hM.tr hE (Sm_sF (by rw [r_104]; rfl))
  replace hE : Ex g (sF g_131 h 12 (.ref q_103)) := hE
  refine lv_aload_n hx hb dX3_init_93 rfl (lv_at hl 0 rfl) ?_
  refine lv_bipush (v := 8) hx hb dX3_init_94 (by decide) ?_
  refine t_newi (N' := 8) hB hT 50 (by decide) k_101 (by decide) (by decide) (by decide) (Nat.le_of_ble_eq_true rfl) (Nat.le_of_ble_eq_true rfl) dX3_init_96 (fun q_132 H o_q_132 hT => ?_)
  have z_q_132 : g.1 q_132 = 0 := hE.z0 o_q_132
  replace hI : Inv (sA (sF g_131 h 12 (.ref q_103)) q_132 50 8) := hI.newi o_q_132 (by decide) (fun _ => rfl) trivial (fun _ => trivial)
  replace hM : Sm md_n_Service g (sA (sF g_131 h 12 (.ref q_103)) q_132 50 8) := hM.tr hE (Sm.push o_q_132 sA_g)
  replace hE : Ex g (sA (sF g_131 h 12 (.ref q_103)) q_132 50 8) := hE.tr (Ex.push o_q_132 sA_g)
  have r_133 : (sA (sF g_131 h 12 (.ref q_103)) q_132 50 8).1 h = 14 := ((sA_g h (ne0 r_104 o_q_132 (by decide))).1.trans r_104)
  have r_134 : (sA (sF g_131 h 12 (.ref q_103)) q_132 50 8).1 q_1 = 3 := ((sA_g q_1 (ne0 r_105 o_q_132 (by decide))).1.trans r_105)
  have r_135 : (sA (sF g_131 h 12 (.ref q_103)) q_132 50 8).1 q_17 = 50 := ((sA_g q_17 (ne0 r_106 o_q_132 (by decide))).1.trans r_106)
  have r_136 : (sA (sF g_131 h 12 (.ref q_103)) q_132 50 8).1 q_25 = 50 := ((sA_g q_25 (ne0 r_107 o_q_132 (by decide))).1.trans r_107)
  have r_137 : (sA (sF g_131 h 12 (.ref q_103)) q_132 50 8).1 q_40 = 50 := ((sA_g q_40 (ne0 r_108 o_q_132 (by decide))).1.trans r_108)
  have r_138 : (sA (sF g_131 h 12 (.ref q_103)) q_132 50 8).1 q_58 = 50 := ((sA_g q_58 (ne0 r_109 o_q_132 (by decide))).1.trans r_109)
  have r_139 : (sA (sF g_131 h 12 (.ref q_103)) q_132 50 8).1 q_79 = 50 := ((sA_g q_79 (ne0 r_110 o_q_132 (by decide))).1.trans r_110)
  have r_140 : (sA (sF g_131 h 12 (.ref q_103)) q_132 50 8).1 q_103 = 50 := ((sA_g q_103 (ne0 r_111 o_q_132 (by decide))).1.trans r_111)
  have r_141 : (sA (sF g_131 h 12 (.ref q_103)) q_132 50 8).1 q_132 = 50 := sA_r
  have n_142 : (sA (sF g_131 h 12 (.ref q_103)) q_132 50 8).2.2.1 q_17 = 4 := ((sA_g q_17 (ne0 r_106 o_q_132 (by decide))).2.2.1.trans n_112)
  have n_143 : (sA (sF g_131 h 12 (.ref q_103)) q_132 50 8).2.2.1 q_25 = 16 := ((sA_g q_25 (ne0 r_107 o_q_132 (by decide))).2.2.1.trans n_113)
  have n_144 : (sA (sF g_131 h 12 (.ref q_103)) q_132 50 8).2.2.1 q_40 = 16 := ((sA_g q_40 (ne0 r_108 o_q_132 (by decide))).2.2.1.trans n_114)
  have n_145 : (sA (sF g_131 h 12 (.ref q_103)) q_132 50 8).2.2.1 q_58 = 16 := ((sA_g q_58 (ne0 r_109 o_q_132 (by decide))).2.2.1.trans n_115)
  have n_146 : (sA (sF g_131 h 12 (.ref q_103)) q_132 50 8).2.2.1 q_79 = 16 := ((sA_g q_79 (ne0 r_110 o_q_132 (by decide))).2.2.1.trans n_116)
  have n_147 : (sA (sF g_131 h 12 (.ref q_103)) q_132 50 8).2.2.1 q_103 = 8 := ((sA_g q_103 (ne0 r_111 o_q_132 (by decide))).2.2.1.trans n_117)
  have n_148 : (sA (sF g_131 h 12 (.ref q_103)) q_132 50 8).2.2.1 q_132 = 8 := sA_n
  have kn_149 : (sA (sF g_131 h 12 (.ref q_103)) q_132 50 8).2.1 q_1 3 = .int 0 := ((congrFun (sA_g q_1 (ne0 r_105 o_q_132 (by decide))).2.1 3).trans (sF_k kn_118 (by decide)))
  have kn_150 : (sA (sF g_131 h 12 (.ref q_103)) q_132 50 8).2.1 h 0 = .ref q_1 := ((congrFun (sA_g h (ne0 r_104 o_q_132 (by decide))).2.1 0).trans (sF_k kn_119 (by decide)))
  have kn_151 : (sA (sF g_131 h 12 (.ref q_103)) q_132 50 8).2.1 h 1 = .ref q_17 := ((congrFun (sA_g h (ne0 r_104 o_q_132 (by decide))).2.1 1).trans (sF_k kn_120 (by decide)))
  have kn_152 : (sA (sF g_131 h 12 (.ref q_103)) q_132 50 8).2.1 h 2 = .int 0 := ((congrFun (sA_g h (ne0 r_104 o_q_132 (by decide))).2.1 2).trans (sF_k kn_121 (by decide)))
  have kn_153 : (sA (sF g_131 h 12 (.ref q_103)) q_132 50 8).2.1 h 3 = .int 0 := ((congrFun (sA_g h (ne0 r_104 o_q_132 (by decide))).2.1 3).trans (sF_k kn_122 (by decide)))
  have kn_154 : (sA (sF g_131 h 12 (.ref q_103)) q_132 50 8).2.1 h 4 = .int 10 := ((congrFun (sA_g h (ne0 r_104 o_q_132 (by decide))).2.1 4).trans (sF_k kn_123 (by decide)))
  have kn_155 : (sA (sF g_131 h 12 (.ref q_103)) q_132 50 8).2.1 h 5 = .int 0 := ((congrFun (sA_g h (ne0 r_104 o_q_132 (by decide))).2.1 5).trans (sF_k kn_124 (by decide)))
  have kn_156 : (sA (sF g_131 h 12 (.ref q_103)) q_132 50 8).2.1 h 6 = .ref q_25 := ((congrFun (sA_g h (ne0 r_104 o_q_132 (by decide))).2.1 6).trans (sF_k kn_125 (by decide)))
  have kn_157 : (sA (sF g_131 h 12 (.ref q_103)) q_132 50 8).2.1 h 7 = .ref q_40 := ((congrFun (sA_g h (ne0 r_104 o_q_132 (by decide))).2.1 7).trans (sF_k kn_126 (by decide)))
  have kn_158 : (sA (sF g_131 h 12 (.ref q_103)) q_132 50 8).2.1 h 8 = .ref q_58 := ((congrFun (sA_g h (ne0 r_104 o_q_132 (by decide))).2.1 8).trans (sF_k kn_127 (by decide)))
  have kn_159 : (sA (sF g_131 h 12 (.ref q_103)) q_132 50 8).2.1 h 9 = .ref q_79 := ((congrFun (sA_g h (ne0 r_104 o_q_132 (by decide))).2.1 9).trans (sF_k kn_128 (by decide)))
  have kn_160 : (sA (sF g_131 h 12 (.ref q_103)) q_132 50 8).2.1 h 10 = .int (-1) := ((congrFun (sA_g h (ne0 r_104 o_q_132 (by decide))).2.1 10).trans (sF_k kn_129 (by decide)))
  have kn_161 : (sA (sF g_131 h 12 (.ref q_103)) q_132 50 8).2.1 h 11 = .int (-1) := ((congrFun (sA_g h (ne0 r_104 o_q_132 (by decide))).2.1 11).trans (sF_k kn_130 (by decide)))
  have kn_162 : (sA (sF g_131 h 12 (.ref q_103)) q_132 50 8).2.1 h 12 = .ref q_103 := ((congrFun (sA_g h (ne0 r_104 o_q_132 (by decide))).2.1 12).trans sF_eq)
  generalize (sA (sF g_131 h 12 (.ref q_103)) q_132 50 8) = g_163 at hT hI hM hE r_133 r_134 r_135 r_136 r_137 r_138 r_139 r_140 r_141 n_142 n_143 n_144 n_145 n_146 n_147 n_148 kn_149 kn_150 kn_151 kn_152 kn_153 kn_154 kn_155 kn_156 kn_157 kn_158 kn_159 kn_160 kn_161 kn_162
  clear kn_118 kn_119 kn_120 kn_121 kn_122 kn_123 kn_124 kn_125 kn_126 kn_127 kn_128 kn_129 kn_130 n_112 n_113 n_114 n_115 n_116 n_117 r_104 r_105 r_106 r_107 r_108 r_109 r_110 r_111
  refine W.widen (k := 11) (n := 112) (Nat.le_of_ble_eq_true rfl) (Nat.le_of_ble_eq_true rfl) ?_
  refine t_put0 (ci := 3) (v := .ref q_132) hB hT (ro_ci r_133 rfl) (ro_n0 r_133 (by decide)) rfl 13 (by decide) k_166 (Or.inr ⟨hin, rfl⟩) rfl rfl dX3_init_98 (fun H locs hT => ?_)
  replace hI : Inv (sF g_163 h 13 (.ref q_132)) := hI.sF (fk r_133 (show fsm _ _ ft from trivial))
  replace hM : Sm md_n_Service g (sF g_163 h 13 (.ref q_132)) := hM.tr hE (Sm_sF (by rw [r_133]; rfl))
  replace hE : Ex g (sF g_163 h 13 (.ref q_132)) := hE
  refine lv_aload_n hx hb dX3_init_101 rfl (lv_at hl 0 rfl) ?_
  refine lv_iconst (v := 0) hx hb dX3_init_102 (by decide) ?_
  refine t_put0 (ci := 3) (v := .int 0) hB hT (ro_ci r_133 rfl) (ro_n0 r_133 (by decide)) rfl 14 (by decide) k_167 (Or.inl rfl) rfl rfl dX3_init_103 (fun H locs hT => ?_)
  replace hI : Inv (sF (sF g_163 h 13 (.ref q_132)) h 14 (.int 0)) := hI.sF (fk r_133 (show fsm _ _ ft from trivial))
  replace hM : Sm md_n_Service g (sF (sF g_163 h 13 (.ref q_132)) h 14 (.int 0)) := hM.tr hE (Sm_sF (by rw [r_133]; rfl))
  replace hE : Ex g (sF (sF g_163 h 13 (.ref q_132)) h 14 (.int 0)) := hE
  have hF : ∀ k, Fok (sR (sF (sF g_163 h 13 (.ref q_132)) h 14 (.int 0)) h 10) 10 k ((sF (sF g_163 h 13 (.ref q_132)) h 14 (.int 0)).2.1 h k) := fun k => match k with
    | 0 => (by rw [(sF_k (sF_k kn_150 (by decide)) (by decide))]; exact q_10_0 ⟨_, rfl, sR_r r_134 (ro_ne r_134 r_133 (by decide))⟩)
    | 1 => (by rw [(sF_k (sF_k kn_151 (by decide)) (by decide))]; exact q_10_1 ⟨_, rfl, sR_r r_135 (ro_ne r_135 r_133 (by decide)), n_142⟩)
    | 2 => (by rw [(sF_k (sF_k kn_152 (by decide)) (by decide))]; exact q_10_2 ⟨_, rfl⟩)
    | 3 => (by rw [(sF_k (sF_k kn_153 (by decide)) (by decide))]; exact q_10_3 ⟨_, rfl⟩)
    | 4 => (by rw [(sF_k (sF_k kn_154 (by decide)) (by decide))]; exact q_10_4 ⟨_, rfl⟩)
    | 5 => (by rw [(sF_k (sF_k kn_155 (by decide)) (by decide))]; exact q_10_5 ⟨_, rfl, by decide, by decide⟩)
    | 6 => (by rw [(sF_k (sF_k kn_156 (by decide)) (by decide))]; exact q_10_6 ⟨_, rfl, sR_r r_136 (ro_ne r_136 r_133 (by decide)), n_143⟩)
    | 7 => (by rw [(sF_k (sF_k kn_157 (by decide)) (by decide))]; exact q_10_7 ⟨_, rfl, sR_r r_137 (ro_ne r_137 r_133 (by decide)), n_144⟩)
    | 8 => (by rw [(sF_k (sF_k kn_158 (by decide)) (by decide))]; exact q_10_8 ⟨_, rfl, sR_r r_138 (ro_ne r_138 r_133 (by decide)), n_145⟩)
    | 9 => (by rw [(sF_k (sF_k kn_159 (by decide)) (by decide))]; exact q_10_9 ⟨_, rfl, sR_r r_139 (ro_ne r_139 r_133 (by decide)), n_146⟩)
    | 10 => (by rw [(sF_k (sF_k kn_160 (by decide)) (by decide))]; exact q_10_10 ⟨_, rfl⟩)
    | 11 => (by rw [(sF_k (sF_k kn_161 (by decide)) (by decide))]; exact q_10_11 ⟨_, rfl⟩)
    | 12 => (by rw [(sF_k (sF_k kn_162 (by decide)) (by decide))]; exact q_10_12 ⟨_, rfl, sR_r r_140 (ro_ne r_140 r_133 (by decide)), n_147⟩)
    | 13 => (by rw [(sF_k sF_eq (by decide))]; exact q_10_13 ⟨_, rfl, sR_r r_141 (ro_ne r_141 r_133 (by decide)), n_148⟩)
    | 14 => (by rw [sF_eq]; exact q_10_14 ⟨_, rfl, by decide, by decide⟩)
    | k + 15 => (show fsm _ _ ft from trivial)
  have hT : Tv D cI cZ cS cR N0 s.heap H locs (sR (sF (sF g_163 h 13 (.ref q_132)) h 14 (.int 0)) h 10) := ⟨hT.1.promo (by rw [r_133]; decide) (by rw [r_133]; rfl) (Or.inl (by decide)), hT.2⟩
  replace hI : Inv (sR (sF (sF g_163 h 13 (.ref q_132)) h 14 (.int 0)) h 10) := hI.promo (by rw [r_133]; decide) hF (fun _ _ => trivial) (fun _ _ => trivial)
  replace hM : Sm md_n_Service g (sR (sF (sF g_163 h 13 (.ref q_132)) h 14 (.int 0)) h 10) := hM
  have hX : Exx h g (sR (sF (sF g_163 h 13 (.ref q_132)) h 14 (.int 0)) h 10) := Exx.promo hE
  exact t_vret hB hr hT (Nat.le_of_ble_eq_true rfl) (Nat.le_of_ble_eq_true rfl) dX3_init_106 ⟨rfl, hI, hX, hM, if_pos rfl, (sF_k (sF_k kn_153 (by decide)) (by decide)), (sF_k (sF_k kn_154 (by decide)) (by decide))⟩
abbrev md_s_World : Nat → Nat → Bool := mdf [(13, 0), (13, 1), (13, 2), (13, 3), (14, 0), (14, 1), (14, 2), (14, 3), (14, 4), (14, 5), (14, 6), (14, 7), (14, 8), (14, 9), (14, 10), (14, 11), (14, 12), (14, 13), (14, 14), (16, 0), (16, 1), (16, 2), (16, 3), (16, 4), (16, 5), (16, 6), (16, 7), (44, 99)]
theorem mdle_s_World_s_Service {r k : Nat} (h : md_s_World r k = false) : md_s_Service r k = false := mdf_le (by decide +kernel) h
set_option maxHeartbeats 4000000 in
set_option maxRecDepth 100000 in
theorem s_World (l : Launch) (D : va_G) (cI cZ cS cR : ClassId) (N0 : NT) (g : GS) (hI : Inv g) (h : Nat) (r_h : g.1 h = 16) : Ty l D cI cZ cS cR N0 yX5_init cX5_init 2 none 2 74 1280 [.ref h] g (fun v g' => v = none ∧ Inv g' ∧ Exx h g g' ∧ Sm md_s_World g g' ∧ g'.1 h = 6 ∧ (g'.2.1 h 1 = .int 0)) := by
  refine t_enter (by decide) (Nat.le_of_ble_eq_true rfl) ?_
  intro p e s m args below meth c ls H locs hB hr hin hl hT
  have hx := hB.1
  have hb := hB.2.1
  have hl : lv_has ls 2 [(0, .ref h)] := hl
  replace hE : Ex g g := Ex.rf
  replace hM : Sm md_s_World g g := Sm.rf
  refine lv_aload_n hx hb dX5_init_0 rfl (lv_at hl 0 rfl) ?_
  refine t_oinit hB k_107 k_78 k_79 hl.1 dX5_init_1 (Nat.le_of_ble_eq_true rfl) (Nat.le_of_ble_eq_true rfl) ?_
  refine lv_aload_n hx hb dX5_init_4 rfl (lv_at hl 0 rfl) ?_
  refine lv_bipush (v := 6) hx hb dX5_init_5 (by decide) ?_
  refine t_newq (N' := 6) hB hT k_108 (by decide) (by decide) (by decide) (Nat.le_of_ble_eq_true rfl) (Nat.le_of_ble_eq_true rfl) dX5_init_7 (fun q_1 H o_q_1 hT => ?_)
  have z_q_1 : g.1 q_1 = 0 := hE.z0 o_q_1
  replace hI : Inv (sA g q_1 44 6) := hI.newi o_q_1 (by decide) (fun _ => rfl) trivial (fun _ => trivial)
  replace hM : Sm md_s_World g (sA g q_1 44 6) := hM.tr hE (Sm.push o_q_1 sA_g)
  replace hE : Ex g (sA g q_1 44 6) := hE.tr (Ex.push o_q_1 sA_g)
  have r_2 : (sA g q_1 44 6).1 h = 16 := ((sA_g h (ne0 r_h o_q_1 (by decide))).1.trans r_h)
  have r_3 : (sA g q_1 44 6).1 q_1 = 44 := sA_r
  have n_4 : (sA g q_1 44 6).2.2.1 q_1 = 6 := sA_n
  generalize (sA g q_1 44 6) = g_5 at hT hI hM hE r_2 r_3 n_4
  refine W.widen (k := 1) (n := 6) (Nat.le_of_ble_eq_true rfl) (Nat.le_of_ble_eq_true rfl) ?_
  refine t_put0 (ci := 5) (v := .ref q_1) hB hT (ro_ci r_2 rfl) (ro_n0 r_2 (by decide)) rfl 0 (by decide) k_199 (Or.inr ⟨hin, rfl⟩) rfl rfl dX5_init_10 (fun H locs hT => ?_)
  replace hI : Inv (sF g_5 h 0 (.ref q_1)) := hI.sF (fk r_2 (show fsm _ _ ft from trivial))
  replace hM : Sm md_s_World g (sF g_5 h 0 (.ref q_1)) := hM.tr hE (Sm_sF (by rw [r_2]; rfl))
  replace hE : Ex g (sF g_5 h 0 (.ref q_1)) := hE
  refine lv_aload_n hx hb dX5_init_13 rfl (lv_at hl 0 rfl) ?_
  refine lv_iconst (v := 0) hx hb dX5_init_14 (by decide) ?_
  refine t_put0 (ci := 5) (v := .int 0) hB hT (ro_ci r_2 rfl) (ro_n0 r_2 (by decide)) rfl 1 (by decide) k_202 (Or.inl rfl) rfl rfl dX5_init_15 (fun H locs hT => ?_)
  replace hI : Inv (sF (sF g_5 h 0 (.ref q_1)) h 1 (.int 0)) := hI.sF (fk r_2 (show fsm _ _ ft from trivial))
  replace hM : Sm md_s_World g (sF (sF g_5 h 0 (.ref q_1)) h 1 (.int 0)) := hM.tr hE (Sm_sF (by rw [r_2]; rfl))
  replace hE : Ex g (sF (sF g_5 h 0 (.ref q_1)) h 1 (.int 0)) := hE
  refine lv_aload_n hx hb dX5_init_18 rfl (lv_at hl 0 rfl) ?_
  refine lv_iconst (v := 0) hx hb dX5_init_19 (by decide) ?_
  refine t_put0 (ci := 5) (v := .int 0) hB hT (ro_ci r_2 rfl) (ro_n0 r_2 (by decide)) rfl 2 (by decide) k_205 (Or.inl rfl) rfl rfl dX5_init_20 (fun H locs hT => ?_)
  replace hI : Inv (sF (sF (sF g_5 h 0 (.ref q_1)) h 1 (.int 0)) h 2 (.int 0)) := hI.sF (fk r_2 (show fsm _ _ ft from trivial))
  replace hM : Sm md_s_World g (sF (sF (sF g_5 h 0 (.ref q_1)) h 1 (.int 0)) h 2 (.int 0)) := hM.tr hE (Sm_sF (by rw [r_2]; rfl))
  replace hE : Ex g (sF (sF (sF g_5 h 0 (.ref q_1)) h 1 (.int 0)) h 2 (.int 0)) := hE
  refine lv_aload_n hx hb dX5_init_23 rfl (lv_at hl 0 rfl) ?_
  refine lv_sipush (v := 512) hx hb dX5_init_24 (by decide) ?_
  refine t_newi (N' := 512) hB hT 50 (by decide) k_101 (by decide) (by decide) (by decide) (Nat.le_of_ble_eq_true rfl) (Nat.le_of_ble_eq_true rfl) dX5_init_27 (fun q_6 H o_q_6 hT => ?_)
  have z_q_6 : g.1 q_6 = 0 := hE.z0 o_q_6
  replace hI : Inv (sA (sF (sF (sF g_5 h 0 (.ref q_1)) h 1 (.int 0)) h 2 (.int 0)) q_6 50 512) := hI.newi o_q_6 (by decide) (fun _ => rfl) trivial (fun _ => trivial)
  replace hM : Sm md_s_World g (sA (sF (sF (sF g_5 h 0 (.ref q_1)) h 1 (.int 0)) h 2 (.int 0)) q_6 50 512) := hM.tr hE (Sm.push o_q_6 sA_g)
  replace hE : Ex g (sA (sF (sF (sF g_5 h 0 (.ref q_1)) h 1 (.int 0)) h 2 (.int 0)) q_6 50 512) := hE.tr (Ex.push o_q_6 sA_g)
  have r_7 : (sA (sF (sF (sF g_5 h 0 (.ref q_1)) h 1 (.int 0)) h 2 (.int 0)) q_6 50 512).1 h = 16 := ((sA_g h (ne0 r_2 o_q_6 (by decide))).1.trans r_2)
  have r_8 : (sA (sF (sF (sF g_5 h 0 (.ref q_1)) h 1 (.int 0)) h 2 (.int 0)) q_6 50 512).1 q_1 = 44 := ((sA_g q_1 (ne0 r_3 o_q_6 (by decide))).1.trans r_3)
  have r_9 : (sA (sF (sF (sF g_5 h 0 (.ref q_1)) h 1 (.int 0)) h 2 (.int 0)) q_6 50 512).1 q_6 = 50 := sA_r
  have n_10 : (sA (sF (sF (sF g_5 h 0 (.ref q_1)) h 1 (.int 0)) h 2 (.int 0)) q_6 50 512).2.2.1 q_1 = 6 := ((sA_g q_1 (ne0 r_3 o_q_6 (by decide))).2.2.1.trans n_4)
  have n_11 : (sA (sF (sF (sF g_5 h 0 (.ref q_1)) h 1 (.int 0)) h 2 (.int 0)) q_6 50 512).2.2.1 q_6 = 512 := sA_n
  have kn_12 : (sA (sF (sF (sF g_5 h 0 (.ref q_1)) h 1 (.int 0)) h 2 (.int 0)) q_6 50 512).2.1 h 0 = .ref q_1 := ((congrFun (sA_g h (ne0 r_2 o_q_6 (by decide))).2.1 0).trans (sF_k (sF_k sF_eq (by decide)) (by decide)))
  have kn_13 : (sA (sF (sF (sF g_5 h 0 (.ref q_1)) h 1 (.int 0)) h 2 (.int 0)) q_6 50 512).2.1 h 1 = .int 0 := ((congrFun (sA_g h (ne0 r_2 o_q_6 (by decide))).2.1 1).trans (sF_k sF_eq (by decide)))
  have kn_14 : (sA (sF (sF (sF g_5 h 0 (.ref q_1)) h 1 (.int 0)) h 2 (.int 0)) q_6 50 512).2.1 h 2 = .int 0 := ((congrFun (sA_g h (ne0 r_2 o_q_6 (by decide))).2.1 2).trans sF_eq)
  generalize (sA (sF (sF (sF g_5 h 0 (.ref q_1)) h 1 (.int 0)) h 2 (.int 0)) q_6 50 512) = g_15 at hT hI hM hE r_7 r_8 r_9 n_10 n_11 kn_12 kn_13 kn_14
  clear n_4 r_2 r_3
  refine W.widen (k := 2) (n := 518) (Nat.le_of_ble_eq_true rfl) (Nat.le_of_ble_eq_true rfl) ?_
  refine t_put0 (ci := 5) (v := .ref q_6) hB hT (ro_ci r_7 rfl) (ro_n0 r_7 (by decide)) rfl 3 (by decide) k_207 (Or.inr ⟨hin, rfl⟩) rfl rfl dX5_init_29 (fun H locs hT => ?_)
  replace hI : Inv (sF g_15 h 3 (.ref q_6)) := hI.sF (fk r_7 (show fsm _ _ ft from trivial))
  replace hM : Sm md_s_World g (sF g_15 h 3 (.ref q_6)) := hM.tr hE (Sm_sF (by rw [r_7]; rfl))
  replace hE : Ex g (sF g_15 h 3 (.ref q_6)) := hE
  refine lv_aload_n hx hb dX5_init_32 rfl (lv_at hl 0 rfl) ?_
  refine lv_iconst (v := 0) hx hb dX5_init_33 (by decide) ?_
  refine t_put0 (ci := 5) (v := .int 0) hB hT (ro_ci r_7 rfl) (ro_n0 r_7 (by decide)) rfl 4 (by decide) k_210 (Or.inl rfl) rfl rfl dX5_init_34 (fun H locs hT => ?_)
  replace hI : Inv (sF (sF g_15 h 3 (.ref q_6)) h 4 (.int 0)) := hI.sF (fk r_7 (show fsm _ _ ft from trivial))
  replace hM : Sm md_s_World g (sF (sF g_15 h 3 (.ref q_6)) h 4 (.int 0)) := hM.tr hE (Sm_sF (by rw [r_7]; rfl))
  replace hE : Ex g (sF (sF g_15 h 3 (.ref q_6)) h 4 (.int 0)) := hE
  refine lv_aload_n hx hb dX5_init_37 rfl (lv_at hl 0 rfl) ?_
  refine lv_iconst (v := 0) hx hb dX5_init_38 (by decide) ?_
  refine t_put0 (ci := 5) (v := .int 0) hB hT (ro_ci r_7 rfl) (ro_n0 r_7 (by decide)) rfl 5 (by decide) k_213 (Or.inl rfl) rfl rfl dX5_init_39 (fun H locs hT => ?_)
  replace hI : Inv (sF (sF (sF g_15 h 3 (.ref q_6)) h 4 (.int 0)) h 5 (.int 0)) := hI.sF (fk r_7 (show fsm _ _ ft from trivial))
  replace hM : Sm md_s_World g (sF (sF (sF g_15 h 3 (.ref q_6)) h 4 (.int 0)) h 5 (.int 0)) := hM.tr hE (Sm_sF (by rw [r_7]; rfl))
  replace hE : Ex g (sF (sF (sF g_15 h 3 (.ref q_6)) h 4 (.int 0)) h 5 (.int 0)) := hE
  refine lv_aload_n hx hb dX5_init_42 rfl (lv_at hl 0 rfl) ?_
  refine lv_iconst (v := 0) hx hb dX5_init_43 (by decide) ?_
  refine t_put0 (ci := 5) (v := .int 0) hB hT (ro_ci r_7 rfl) (ro_n0 r_7 (by decide)) rfl 6 (by decide) k_215 (Or.inl rfl) rfl rfl dX5_init_44 (fun H locs hT => ?_)
  replace hI : Inv (sF (sF (sF (sF g_15 h 3 (.ref q_6)) h 4 (.int 0)) h 5 (.int 0)) h 6 (.int 0)) := hI.sF (fk r_7 (show fsm _ _ ft from trivial))
  replace hM : Sm md_s_World g (sF (sF (sF (sF g_15 h 3 (.ref q_6)) h 4 (.int 0)) h 5 (.int 0)) h 6 (.int 0)) := hM.tr hE (Sm_sF (by rw [r_7]; rfl))
  replace hE : Ex g (sF (sF (sF (sF g_15 h 3 (.ref q_6)) h 4 (.int 0)) h 5 (.int 0)) h 6 (.int 0)) := hE
  refine lv_aload_n hx hb dX5_init_47 rfl (lv_at hl 0 rfl) ?_
  refine lv_iconst (v := 0) hx hb dX5_init_48 (by decide) ?_
  refine t_put0 (ci := 5) (v := .int 0) hB hT (ro_ci r_7 rfl) (ro_n0 r_7 (by decide)) rfl 7 (by decide) k_216 (Or.inl rfl) rfl rfl dX5_init_49 (fun H locs hT => ?_)
  replace hI : Inv (sF (sF (sF (sF (sF g_15 h 3 (.ref q_6)) h 4 (.int 0)) h 5 (.int 0)) h 6 (.int 0)) h 7 (.int 0)) := hI.sF (fk r_7 (show fsm _ _ ft from trivial))
  replace hM : Sm md_s_World g (sF (sF (sF (sF (sF g_15 h 3 (.ref q_6)) h 4 (.int 0)) h 5 (.int 0)) h 6 (.int 0)) h 7 (.int 0)) := hM.tr hE (Sm_sF (by rw [r_7]; rfl))
  replace hE : Ex g (sF (sF (sF (sF (sF g_15 h 3 (.ref q_6)) h 4 (.int 0)) h 5 (.int 0)) h 6 (.int 0)) h 7 (.int 0)) := hE
  refine lv_iconst (v := 0) hx hb dX5_init_52 (by decide) ?_
  refine lv_istore_n (lv' := [(1, .int 0), (0, .ref h)]) hx hb dX5_init_53 rfl hl (by decide) rfl (fun ls hl => ?_)
  refine lv_iload_n hx hb dX5_init_54 rfl (lv_at hl 0 rfl) ?_
  refine lv_bipush (v := 6) hx hb dX5_init_55 (by decide) ?_
  refine lv_icmp_ge (tgt := 79) hx hb dX5_init_57 (by decide) (fun c_ => absurd c_ (by decide)) (fun c_ => ?_)
  refine lv_aload_n hx hb dX5_init_60 rfl (lv_at hl 1 rfl) ?_
  refine t_get (ci := 5) (v := .ref q_1) hB hT (ro_ci r_7 rfl) rfl 0 (by decide) k_199 (sF_k (sF_k (sF_k (sF_k (sF_k kn_12 (by decide)) (by decide)) (by decide)) (by decide)) (by decide)) dX5_init_61 ?_
  refine lv_iload_n hx hb dX5_init_64 rfl (lv_at hl 0 rfl) ?_
  refine t_new (ci := 3) (fs := [.null, .null, .int 0, .int 0, .int 0, .int 0, .null, .null, .null, .null, .int 0, .int 0, .null, .null, .int 0]) hB hT rfl (by decide) k_108 k_110 k_60 (fnew_3) (Nat.le_of_ble_eq_true rfl) (Nat.le_of_ble_eq_true rfl) dX5_init_65 (fun q_16 H o_q_16 hT => ?_)
  have z_q_16 : g.1 q_16 = 0 := hE.z0 o_q_16
  replace hI : Inv (sN (sF (sF (sF (sF (sF g_15 h 3 (.ref q_6)) h 4 (.int 0)) h 5 (.int 0)) h 6 (.int 0)) h 7 (.int 0)) q_16 14 (vp_V [.null, .null, .int 0, .int 0, .int 0, .int 0, .null, .null, .null, .null, .int 0, .int 0, .null, .null, .int 0])) := hI.newo o_q_16 (fun _ => rfl) (fun _ => trivial) (fun _ _ => trivial)
  replace hM : Sm md_s_World g (sN (sF (sF (sF (sF (sF g_15 h 3 (.ref q_6)) h 4 (.int 0)) h 5 (.int 0)) h 6 (.int 0)) h 7 (.int 0)) q_16 14 (vp_V [.null, .null, .int 0, .int 0, .int 0, .int 0, .null, .null, .null, .null, .int 0, .int 0, .null, .null, .int 0])) := hM.tr hE (Sm.push o_q_16 sN_g)
  replace hE : Ex g (sN (sF (sF (sF (sF (sF g_15 h 3 (.ref q_6)) h 4 (.int 0)) h 5 (.int 0)) h 6 (.int 0)) h 7 (.int 0)) q_16 14 (vp_V [.null, .null, .int 0, .int 0, .int 0, .int 0, .null, .null, .null, .null, .int 0, .int 0, .null, .null, .int 0])) := hE.tr (Ex.push o_q_16 sN_g)
  have r_17 : (sN (sF (sF (sF (sF (sF g_15 h 3 (.ref q_6)) h 4 (.int 0)) h 5 (.int 0)) h 6 (.int 0)) h 7 (.int 0)) q_16 14 (vp_V [.null, .null, .int 0, .int 0, .int 0, .int 0, .null, .null, .null, .null, .int 0, .int 0, .null, .null, .int 0])).1 h = 16 := ((sN_g h (ne0 r_7 o_q_16 (by decide))).1.trans r_7)
  have r_18 : (sN (sF (sF (sF (sF (sF g_15 h 3 (.ref q_6)) h 4 (.int 0)) h 5 (.int 0)) h 6 (.int 0)) h 7 (.int 0)) q_16 14 (vp_V [.null, .null, .int 0, .int 0, .int 0, .int 0, .null, .null, .null, .null, .int 0, .int 0, .null, .null, .int 0])).1 q_1 = 44 := ((sN_g q_1 (ne0 r_8 o_q_16 (by decide))).1.trans r_8)
  have r_19 : (sN (sF (sF (sF (sF (sF g_15 h 3 (.ref q_6)) h 4 (.int 0)) h 5 (.int 0)) h 6 (.int 0)) h 7 (.int 0)) q_16 14 (vp_V [.null, .null, .int 0, .int 0, .int 0, .int 0, .null, .null, .null, .null, .int 0, .int 0, .null, .null, .int 0])).1 q_6 = 50 := ((sN_g q_6 (ne0 r_9 o_q_16 (by decide))).1.trans r_9)
  have r_20 : (sN (sF (sF (sF (sF (sF g_15 h 3 (.ref q_6)) h 4 (.int 0)) h 5 (.int 0)) h 6 (.int 0)) h 7 (.int 0)) q_16 14 (vp_V [.null, .null, .int 0, .int 0, .int 0, .int 0, .null, .null, .null, .null, .int 0, .int 0, .null, .null, .int 0])).1 q_16 = 14 := sN_r
  have n_21 : (sN (sF (sF (sF (sF (sF g_15 h 3 (.ref q_6)) h 4 (.int 0)) h 5 (.int 0)) h 6 (.int 0)) h 7 (.int 0)) q_16 14 (vp_V [.null, .null, .int 0, .int 0, .int 0, .int 0, .null, .null, .null, .null, .int 0, .int 0, .null, .null, .int 0])).2.2.1 q_1 = 6 := ((sN_g q_1 (ne0 r_8 o_q_16 (by decide))).2.2.1.trans n_10)
  have n_22 : (sN (sF (sF (sF (sF (sF g_15 h 3 (.ref q_6)) h 4 (.int 0)) h 5 (.int 0)) h 6 (.int 0)) h 7 (.int 0)) q_16 14 (vp_V [.null, .null, .int 0, .int 0, .int 0, .int 0, .null, .null, .null, .null, .int 0, .int 0, .null, .null, .int 0])).2.2.1 q_6 = 512 := ((sN_g q_6 (ne0 r_9 o_q_16 (by decide))).2.2.1.trans n_11)
  have kn_23 : (sN (sF (sF (sF (sF (sF g_15 h 3 (.ref q_6)) h 4 (.int 0)) h 5 (.int 0)) h 6 (.int 0)) h 7 (.int 0)) q_16 14 (vp_V [.null, .null, .int 0, .int 0, .int 0, .int 0, .null, .null, .null, .null, .int 0, .int 0, .null, .null, .int 0])).2.1 h 0 = .ref q_1 := ((congrFun (sN_g h (ne0 r_7 o_q_16 (by decide))).2.1 0).trans (sF_k (sF_k (sF_k (sF_k (sF_k kn_12 (by decide)) (by decide)) (by decide)) (by decide)) (by decide)))
  have kn_24 : (sN (sF (sF (sF (sF (sF g_15 h 3 (.ref q_6)) h 4 (.int 0)) h 5 (.int 0)) h 6 (.int 0)) h 7 (.int 0)) q_16 14 (vp_V [.null, .null, .int 0, .int 0, .int 0, .int 0, .null, .null, .null, .null, .int 0, .int 0, .null, .null, .int 0])).2.1 h 1 = .int 0 := ((congrFun (sN_g h (ne0 r_7 o_q_16 (by decide))).2.1 1).trans (sF_k (sF_k (sF_k (sF_k (sF_k kn_13 (by decide)) (by decide)) (by decide)) (by decide)) (by decide)))
  have kn_25 : (sN (sF (sF (sF (sF (sF g_15 h 3 (.ref q_6)) h 4 (.int 0)) h 5 (.int 0)) h 6 (.int 0)) h 7 (.int 0)) q_16 14 (vp_V [.null, .null, .int 0, .int 0, .int 0, .int 0, .null, .null, .null, .null, .int 0, .int 0, .null, .null, .int 0])).2.1 h 2 = .int 0 := ((congrFun (sN_g h (ne0 r_7 o_q_16 (by decide))).2.1 2).trans (sF_k (sF_k (sF_k (sF_k (sF_k kn_14 (by decide)) (by decide)) (by decide)) (by decide)) (by decide)))
  have kn_26 : (sN (sF (sF (sF (sF (sF g_15 h 3 (.ref q_6)) h 4 (.int 0)) h 5 (.int 0)) h 6 (.int 0)) h 7 (.int 0)) q_16 14 (vp_V [.null, .null, .int 0, .int 0, .int 0, .int 0, .null, .null, .null, .null, .int 0, .int 0, .null, .null, .int 0])).2.1 h 3 = .ref q_6 := ((congrFun (sN_g h (ne0 r_7 o_q_16 (by decide))).2.1 3).trans (sF_k (sF_k (sF_k (sF_k sF_eq (by decide)) (by decide)) (by decide)) (by decide)))
  have kn_27 : (sN (sF (sF (sF (sF (sF g_15 h 3 (.ref q_6)) h 4 (.int 0)) h 5 (.int 0)) h 6 (.int 0)) h 7 (.int 0)) q_16 14 (vp_V [.null, .null, .int 0, .int 0, .int 0, .int 0, .null, .null, .null, .null, .int 0, .int 0, .null, .null, .int 0])).2.1 h 4 = .int 0 := ((congrFun (sN_g h (ne0 r_7 o_q_16 (by decide))).2.1 4).trans (sF_k (sF_k (sF_k sF_eq (by decide)) (by decide)) (by decide)))
  have kn_28 : (sN (sF (sF (sF (sF (sF g_15 h 3 (.ref q_6)) h 4 (.int 0)) h 5 (.int 0)) h 6 (.int 0)) h 7 (.int 0)) q_16 14 (vp_V [.null, .null, .int 0, .int 0, .int 0, .int 0, .null, .null, .null, .null, .int 0, .int 0, .null, .null, .int 0])).2.1 h 5 = .int 0 := ((congrFun (sN_g h (ne0 r_7 o_q_16 (by decide))).2.1 5).trans (sF_k (sF_k sF_eq (by decide)) (by decide)))
  have kn_29 : (sN (sF (sF (sF (sF (sF g_15 h 3 (.ref q_6)) h 4 (.int 0)) h 5 (.int 0)) h 6 (.int 0)) h 7 (.int 0)) q_16 14 (vp_V [.null, .null, .int 0, .int 0, .int 0, .int 0, .null, .null, .null, .null, .int 0, .int 0, .null, .null, .int 0])).2.1 h 6 = .int 0 := ((congrFun (sN_g h (ne0 r_7 o_q_16 (by decide))).2.1 6).trans (sF_k sF_eq (by decide)))
  have kn_30 : (sN (sF (sF (sF (sF (sF g_15 h 3 (.ref q_6)) h 4 (.int 0)) h 5 (.int 0)) h 6 (.int 0)) h 7 (.int 0)) q_16 14 (vp_V [.null, .null, .int 0, .int 0, .int 0, .int 0, .null, .null, .null, .null, .int 0, .int 0, .null, .null, .int 0])).2.1 h 7 = .int 0 := ((congrFun (sN_g h (ne0 r_7 o_q_16 (by decide))).2.1 7).trans sF_eq)
  have kn_31 : (sN (sF (sF (sF (sF (sF g_15 h 3 (.ref q_6)) h 4 (.int 0)) h 5 (.int 0)) h 6 (.int 0)) h 7 (.int 0)) q_16 14 (vp_V [.null, .null, .int 0, .int 0, .int 0, .int 0, .null, .null, .null, .null, .int 0, .int 0, .null, .null, .int 0])).2.1 q_16 0 = .null := sN_f
  have kn_32 : (sN (sF (sF (sF (sF (sF g_15 h 3 (.ref q_6)) h 4 (.int 0)) h 5 (.int 0)) h 6 (.int 0)) h 7 (.int 0)) q_16 14 (vp_V [.null, .null, .int 0, .int 0, .int 0, .int 0, .null, .null, .null, .null, .int 0, .int 0, .null, .null, .int 0])).2.1 q_16 1 = .null := sN_f
  have kn_33 : (sN (sF (sF (sF (sF (sF g_15 h 3 (.ref q_6)) h 4 (.int 0)) h 5 (.int 0)) h 6 (.int 0)) h 7 (.int 0)) q_16 14 (vp_V [.null, .null, .int 0, .int 0, .int 0, .int 0, .null, .null, .null, .null, .int 0, .int 0, .null, .null, .int 0])).2.1 q_16 2 = .int 0 := sN_f
  have kn_34 : (sN (sF (sF (sF (sF (sF g_15 h 3 (.ref q_6)) h 4 (.int 0)) h 5 (.int 0)) h 6 (.int 0)) h 7 (.int 0)) q_16 14 (vp_V [.null, .null, .int 0, .int 0, .int 0, .int 0, .null, .null, .null, .null, .int 0, .int 0, .null, .null, .int 0])).2.1 q_16 3 = .int 0 := sN_f
  have kn_35 : (sN (sF (sF (sF (sF (sF g_15 h 3 (.ref q_6)) h 4 (.int 0)) h 5 (.int 0)) h 6 (.int 0)) h 7 (.int 0)) q_16 14 (vp_V [.null, .null, .int 0, .int 0, .int 0, .int 0, .null, .null, .null, .null, .int 0, .int 0, .null, .null, .int 0])).2.1 q_16 4 = .int 0 := sN_f
  have kn_36 : (sN (sF (sF (sF (sF (sF g_15 h 3 (.ref q_6)) h 4 (.int 0)) h 5 (.int 0)) h 6 (.int 0)) h 7 (.int 0)) q_16 14 (vp_V [.null, .null, .int 0, .int 0, .int 0, .int 0, .null, .null, .null, .null, .int 0, .int 0, .null, .null, .int 0])).2.1 q_16 5 = .int 0 := sN_f
  have kn_37 : (sN (sF (sF (sF (sF (sF g_15 h 3 (.ref q_6)) h 4 (.int 0)) h 5 (.int 0)) h 6 (.int 0)) h 7 (.int 0)) q_16 14 (vp_V [.null, .null, .int 0, .int 0, .int 0, .int 0, .null, .null, .null, .null, .int 0, .int 0, .null, .null, .int 0])).2.1 q_16 6 = .null := sN_f
  have kn_38 : (sN (sF (sF (sF (sF (sF g_15 h 3 (.ref q_6)) h 4 (.int 0)) h 5 (.int 0)) h 6 (.int 0)) h 7 (.int 0)) q_16 14 (vp_V [.null, .null, .int 0, .int 0, .int 0, .int 0, .null, .null, .null, .null, .int 0, .int 0, .null, .null, .int 0])).2.1 q_16 7 = .null := sN_f
  have kn_39 : (sN (sF (sF (sF (sF (sF g_15 h 3 (.ref q_6)) h 4 (.int 0)) h 5 (.int 0)) h 6 (.int 0)) h 7 (.int 0)) q_16 14 (vp_V [.null, .null, .int 0, .int 0, .int 0, .int 0, .null, .null, .null, .null, .int 0, .int 0, .null, .null, .int 0])).2.1 q_16 8 = .null := sN_f
  have kn_40 : (sN (sF (sF (sF (sF (sF g_15 h 3 (.ref q_6)) h 4 (.int 0)) h 5 (.int 0)) h 6 (.int 0)) h 7 (.int 0)) q_16 14 (vp_V [.null, .null, .int 0, .int 0, .int 0, .int 0, .null, .null, .null, .null, .int 0, .int 0, .null, .null, .int 0])).2.1 q_16 9 = .null := sN_f
  have kn_41 : (sN (sF (sF (sF (sF (sF g_15 h 3 (.ref q_6)) h 4 (.int 0)) h 5 (.int 0)) h 6 (.int 0)) h 7 (.int 0)) q_16 14 (vp_V [.null, .null, .int 0, .int 0, .int 0, .int 0, .null, .null, .null, .null, .int 0, .int 0, .null, .null, .int 0])).2.1 q_16 10 = .int 0 := sN_f
  have kn_42 : (sN (sF (sF (sF (sF (sF g_15 h 3 (.ref q_6)) h 4 (.int 0)) h 5 (.int 0)) h 6 (.int 0)) h 7 (.int 0)) q_16 14 (vp_V [.null, .null, .int 0, .int 0, .int 0, .int 0, .null, .null, .null, .null, .int 0, .int 0, .null, .null, .int 0])).2.1 q_16 11 = .int 0 := sN_f
  have kn_43 : (sN (sF (sF (sF (sF (sF g_15 h 3 (.ref q_6)) h 4 (.int 0)) h 5 (.int 0)) h 6 (.int 0)) h 7 (.int 0)) q_16 14 (vp_V [.null, .null, .int 0, .int 0, .int 0, .int 0, .null, .null, .null, .null, .int 0, .int 0, .null, .null, .int 0])).2.1 q_16 12 = .null := sN_f
  have kn_44 : (sN (sF (sF (sF (sF (sF g_15 h 3 (.ref q_6)) h 4 (.int 0)) h 5 (.int 0)) h 6 (.int 0)) h 7 (.int 0)) q_16 14 (vp_V [.null, .null, .int 0, .int 0, .int 0, .int 0, .null, .null, .null, .null, .int 0, .int 0, .null, .null, .int 0])).2.1 q_16 13 = .null := sN_f
  have kn_45 : (sN (sF (sF (sF (sF (sF g_15 h 3 (.ref q_6)) h 4 (.int 0)) h 5 (.int 0)) h 6 (.int 0)) h 7 (.int 0)) q_16 14 (vp_V [.null, .null, .int 0, .int 0, .int 0, .int 0, .null, .null, .null, .null, .int 0, .int 0, .null, .null, .int 0])).2.1 q_16 14 = .int 0 := sN_f
  generalize (sN (sF (sF (sF (sF (sF g_15 h 3 (.ref q_6)) h 4 (.int 0)) h 5 (.int 0)) h 6 (.int 0)) h 7 (.int 0)) q_16 14 (vp_V [.null, .null, .int 0, .int 0, .int 0, .int 0, .null, .null, .null, .null, .int 0, .int 0, .null, .null, .int 0])) = g_46 at hT hI hM hE r_17 r_18 r_19 r_20 n_21 n_22 kn_23 kn_24 kn_25 kn_26 kn_27 kn_28 kn_29 kn_30 kn_31 kn_32 kn_33 kn_34 kn_35 kn_36 kn_37 kn_38 kn_39 kn_40 kn_41 kn_42 kn_43 kn_44 kn_45
  clear kn_12 kn_13 kn_14 n_10 n_11 r_7 r_8 r_9
  refine W.widen (k := 3) (n := 533) (Nat.le_of_ble_eq_true rfl) (Nat.le_of_ble_eq_true rfl) ?_
  refine lv_dup hx hb dX5_init_68 rfl ?_
  refine t_callIN (n := 0) (As := []) (rest := [.ref q_16, .int 0, .ref q_1]) hB hT hl.1 (s_Service l D cI cZ cS cR N0 g_46 hI q_16 r_20) k_113 k_60 hB.2.2.2.2.2.2.2.1.2.1 k_112 rfl (by decide +kernel) ⟨(Nat.le_of_ble_eq_true rfl), (Nat.le_of_ble_eq_true rfl)⟩ rfl (Nat.le_of_ble_eq_true rfl) ⟨(Nat.le_of_ble_eq_true rfl), (Nat.le_of_ble_eq_true rfl)⟩ dX5_init_69 (fun v g_47 H locs hp hT => ?_)
  obtain ⟨rfl, hI, x_51, m_50, r_52, f_48, f_49⟩ := hp
  replace hM : Sm md_s_World g g_47 := hM.tr hE (m_50.mo (fun r k h => mdle_s_World_s_Service h))
  replace hE : Ex g g_47 := hE.trx z_q_16 x_51
  have r_53 : g_47.1 h = 16 := (Exx.r x_51 r_17 (by decide) (ro_ne r_17 r_20 (by decide)))
  have r_54 : g_47.1 q_1 = 44 := (Exx.r x_51 r_18 (by decide) (ro_ne r_18 r_20 (by decide)))
  have r_55 : g_47.1 q_6 = 50 := (Exx.r x_51 r_19 (by decide) (ro_ne r_19 r_20 (by decide)))
  have r_56 : g_47.1 q_16 = 4 := r_52
  have n_57 : g_47.2.2.1 q_1 = 6 := (Exx.n x_51 r_18 (by decide) (ro_ne r_18 r_20 (by decide)) n_21)
  have n_58 : g_47.2.2.1 q_6 = 512 := (Exx.n x_51 r_19 (by decide) (ro_ne r_19 r_20 (by decide)) n_22)
  have kn_59 : g_47.2.1 h 0 = .ref q_1 := (Sm.v m_50 r_17 (by decide) rfl kn_23)
  have kn_60 : g_47.2.1 h 1 = .int 0 := (Sm.v m_50 r_17 (by decide) rfl kn_24)
  have kn_61 : g_47.2.1 h 2 = .int 0 := (Sm.v m_50 r_17 (by decide) rfl kn_25)
  have kn_62 : g_47.2.1 h 3 = .ref q_6 := (Sm.v m_50 r_17 (by decide) rfl kn_26)
  have kn_63 : g_47.2.1 h 4 = .int 0 := (Sm.v m_50 r_17 (by decide) rfl kn_27)
  have kn_64 : g_47.2.1 h 5 = .int 0 := (Sm.v m_50 r_17 (by decide) rfl kn_28)
  have kn_65 : g_47.2.1 h 6 = .int 0 := (Sm.v m_50 r_17 (by decide) rfl kn_29)
  have kn_66 : g_47.2.1 h 7 = .int 0 := (Sm.v m_50 r_17 (by decide) rfl kn_30)
  refine W.eq (g2 := F0 m 72 ls [.ref q_16, .int 0, .ref q_1]) rfl ?_
  have i_67 : vp_in (0 : Int32) 6 := (by unfold vp_in; decide)
  refine t_astq hB hT r_54 n_57 (ro_ci r_56 rfl) i_67 dX5_init_72 (fun H locs hT => ?_)
  replace hI : Inv (sQ g_47 q_1 (0 : Int32).toNatClampNeg (some q_16)) := hI.sQ (by rw [r_54]; exact trivial)
  replace hM : Sm md_s_World g (sQ g_47 q_1 (0 : Int32).toNatClampNeg (some q_16)) := hM.tr hE (Sm_sQ (by rw [r_54]; rfl))
  replace hE : Ex g (sQ g_47 q_1 (0 : Int32).toNatClampNeg (some q_16)) := hE
  have r_68 : (sQ g_47 q_1 (0 : Int32).toNatClampNeg (some q_16)).1 h = 16 := r_53
  have r_69 : (sQ g_47 q_1 (0 : Int32).toNatClampNeg (some q_16)).1 q_1 = 44 := r_54
  have r_70 : (sQ g_47 q_1 (0 : Int32).toNatClampNeg (some q_16)).1 q_6 = 50 := r_55
  have r_71 : (sQ g_47 q_1 (0 : Int32).toNatClampNeg (some q_16)).1 q_16 = 4 := r_56
  have n_72 : (sQ g_47 q_1 (0 : Int32).toNatClampNeg (some q_16)).2.2.1 q_1 = 6 := n_57
  have n_73 : (sQ g_47 q_1 (0 : Int32).toNatClampNeg (some q_16)).2.2.1 q_6 = 512 := n_58
  have kn_74 : (sQ g_47 q_1 (0 : Int32).toNatClampNeg (some q_16)).2.1 h 0 = .ref q_1 := kn_59
  have kn_75 : (sQ g_47 q_1 (0 : Int32).toNatClampNeg (some q_16)).2.1 h 1 = .int 0 := kn_60
  have kn_76 : (sQ g_47 q_1 (0 : Int32).toNatClampNeg (some q_16)).2.1 h 2 = .int 0 := kn_61
  have kn_77 : (sQ g_47 q_1 (0 : Int32).toNatClampNeg (some q_16)).2.1 h 3 = .ref q_6 := kn_62
  have kn_78 : (sQ g_47 q_1 (0 : Int32).toNatClampNeg (some q_16)).2.1 h 4 = .int 0 := kn_63
  have kn_79 : (sQ g_47 q_1 (0 : Int32).toNatClampNeg (some q_16)).2.1 h 5 = .int 0 := kn_64
  have kn_80 : (sQ g_47 q_1 (0 : Int32).toNatClampNeg (some q_16)).2.1 h 6 = .int 0 := kn_65
  have kn_81 : (sQ g_47 q_1 (0 : Int32).toNatClampNeg (some q_16)).2.1 h 7 = .int 0 := kn_66
  have kn_82 : (sQ g_47 q_1 (0 : Int32).toNatClampNeg (some q_16)).2.1 q_16 3 = .int 0 := f_48
  have kn_83 : (sQ g_47 q_1 (0 : Int32).toNatClampNeg (some q_16)).2.1 q_16 4 = .int 10 := f_49
  have kn_84 : (sQ g_47 q_1 (0 : Int32).toNatClampNeg (some q_16)).2.2.2.2 q_1 0 = some q_16 := sQ_eq
  generalize (sQ g_47 q_1 (0 : Int32).toNatClampNeg (some q_16)) = g_85 at hT hI hM hE r_68 r_69 r_70 r_71 n_72 n_73 kn_74 kn_75 kn_76 kn_77 kn_78 kn_79 kn_80 kn_81 kn_82 kn_83 kn_84
  clear kn_59 kn_60 kn_61 kn_62 kn_63 kn_64 kn_65 kn_66 n_57 n_58 r_53 r_54 r_55 r_56
  refine lv_iinc (v := 1) (lv' := [(1, .int 1), (0, .ref h)]) hx hb dX5_init_73 hl (k := 0) rfl (by decide) (by decide) rfl (fun ls hl => ?_)
  refine lv_goto (tgt := 54) hx hb dX5_init_76 (by decide) ?_
  refine lv_iload_n hx hb dX5_init_54 rfl (lv_at hl 0 rfl) ?_
  refine lv_bipush (v := 6) hx hb dX5_init_55 (by decide) ?_
  refine lv_icmp_ge (tgt := 79) hx hb dX5_init_57 (by decide) (fun c_ => absurd c_ (by decide)) (fun c_ => ?_)
  refine lv_aload_n hx hb dX5_init_60 rfl (lv_at hl 1 rfl) ?_
  refine t_get (ci := 5) (v := .ref q_1) hB hT (ro_ci r_68 rfl) rfl 0 (by decide) k_199 kn_74 dX5_init_61 ?_
  refine lv_iload_n hx hb dX5_init_64 rfl (lv_at hl 0 rfl) ?_
  refine t_new (ci := 3) (fs := [.null, .null, .int 0, .int 0, .int 0, .int 0, .null, .null, .null, .null, .int 0, .int 0, .null, .null, .int 0]) hB hT rfl (by decide) k_108 k_110 k_60 (fnew_3) (Nat.le_of_ble_eq_true rfl) (Nat.le_of_ble_eq_true rfl) dX5_init_65 (fun q_86 H o_q_86 hT => ?_)
  have z_q_86 : g.1 q_86 = 0 := hE.z0 o_q_86
  replace hI : Inv (sN g_85 q_86 14 (vp_V [.null, .null, .int 0, .int 0, .int 0, .int 0, .null, .null, .null, .null, .int 0, .int 0, .null, .null, .int 0])) := hI.newo o_q_86 (fun _ => rfl) (fun _ => trivial) (fun _ _ => trivial)
  replace hM : Sm md_s_World g (sN g_85 q_86 14 (vp_V [.null, .null, .int 0, .int 0, .int 0, .int 0, .null, .null, .null, .null, .int 0, .int 0, .null, .null, .int 0])) := hM.tr hE (Sm.push o_q_86 sN_g)
  replace hE : Ex g (sN g_85 q_86 14 (vp_V [.null, .null, .int 0, .int 0, .int 0, .int 0, .null, .null, .null, .null, .int 0, .int 0, .null, .null, .int 0])) := hE.tr (Ex.push o_q_86 sN_g)
  have r_87 : (sN g_85 q_86 14 (vp_V [.null, .null, .int 0, .int 0, .int 0, .int 0, .null, .null, .null, .null, .int 0, .int 0, .null, .null, .int 0])).1 h = 16 := ((sN_g h (ne0 r_68 o_q_86 (by decide))).1.trans r_68)
  have r_88 : (sN g_85 q_86 14 (vp_V [.null, .null, .int 0, .int 0, .int 0, .int 0, .null, .null, .null, .null, .int 0, .int 0, .null, .null, .int 0])).1 q_1 = 44 := ((sN_g q_1 (ne0 r_69 o_q_86 (by decide))).1.trans r_69)
  have r_89 : (sN g_85 q_86 14 (vp_V [.null, .null, .int 0, .int 0, .int 0, .int 0, .null, .null, .null, .null, .int 0, .int 0, .null, .null, .int 0])).1 q_6 = 50 := ((sN_g q_6 (ne0 r_70 o_q_86 (by decide))).1.trans r_70)
  have r_90 : (sN g_85 q_86 14 (vp_V [.null, .null, .int 0, .int 0, .int 0, .int 0, .null, .null, .null, .null, .int 0, .int 0, .null, .null, .int 0])).1 q_16 = 4 := ((sN_g q_16 (ne0 r_71 o_q_86 (by decide))).1.trans r_71)
  have r_91 : (sN g_85 q_86 14 (vp_V [.null, .null, .int 0, .int 0, .int 0, .int 0, .null, .null, .null, .null, .int 0, .int 0, .null, .null, .int 0])).1 q_86 = 14 := sN_r
  have n_92 : (sN g_85 q_86 14 (vp_V [.null, .null, .int 0, .int 0, .int 0, .int 0, .null, .null, .null, .null, .int 0, .int 0, .null, .null, .int 0])).2.2.1 q_1 = 6 := ((sN_g q_1 (ne0 r_69 o_q_86 (by decide))).2.2.1.trans n_72)
  have n_93 : (sN g_85 q_86 14 (vp_V [.null, .null, .int 0, .int 0, .int 0, .int 0, .null, .null, .null, .null, .int 0, .int 0, .null, .null, .int 0])).2.2.1 q_6 = 512 := ((sN_g q_6 (ne0 r_70 o_q_86 (by decide))).2.2.1.trans n_73)
  have kn_94 : (sN g_85 q_86 14 (vp_V [.null, .null, .int 0, .int 0, .int 0, .int 0, .null, .null, .null, .null, .int 0, .int 0, .null, .null, .int 0])).2.1 h 0 = .ref q_1 := ((congrFun (sN_g h (ne0 r_68 o_q_86 (by decide))).2.1 0).trans kn_74)
  have kn_95 : (sN g_85 q_86 14 (vp_V [.null, .null, .int 0, .int 0, .int 0, .int 0, .null, .null, .null, .null, .int 0, .int 0, .null, .null, .int 0])).2.1 h 1 = .int 0 := ((congrFun (sN_g h (ne0 r_68 o_q_86 (by decide))).2.1 1).trans kn_75)
  have kn_96 : (sN g_85 q_86 14 (vp_V [.null, .null, .int 0, .int 0, .int 0, .int 0, .null, .null, .null, .null, .int 0, .int 0, .null, .null, .int 0])).2.1 h 2 = .int 0 := ((congrFun (sN_g h (ne0 r_68 o_q_86 (by decide))).2.1 2).trans kn_76)
  have kn_97 : (sN g_85 q_86 14 (vp_V [.null, .null, .int 0, .int 0, .int 0, .int 0, .null, .null, .null, .null, .int 0, .int 0, .null, .null, .int 0])).2.1 h 3 = .ref q_6 := ((congrFun (sN_g h (ne0 r_68 o_q_86 (by decide))).2.1 3).trans kn_77)
  have kn_98 : (sN g_85 q_86 14 (vp_V [.null, .null, .int 0, .int 0, .int 0, .int 0, .null, .null, .null, .null, .int 0, .int 0, .null, .null, .int 0])).2.1 h 4 = .int 0 := ((congrFun (sN_g h (ne0 r_68 o_q_86 (by decide))).2.1 4).trans kn_78)
  have kn_99 : (sN g_85 q_86 14 (vp_V [.null, .null, .int 0, .int 0, .int 0, .int 0, .null, .null, .null, .null, .int 0, .int 0, .null, .null, .int 0])).2.1 h 5 = .int 0 := ((congrFun (sN_g h (ne0 r_68 o_q_86 (by decide))).2.1 5).trans kn_79)
  have kn_100 : (sN g_85 q_86 14 (vp_V [.null, .null, .int 0, .int 0, .int 0, .int 0, .null, .null, .null, .null, .int 0, .int 0, .null, .null, .int 0])).2.1 h 6 = .int 0 := ((congrFun (sN_g h (ne0 r_68 o_q_86 (by decide))).2.1 6).trans kn_80)
  have kn_101 : (sN g_85 q_86 14 (vp_V [.null, .null, .int 0, .int 0, .int 0, .int 0, .null, .null, .null, .null, .int 0, .int 0, .null, .null, .int 0])).2.1 h 7 = .int 0 := ((congrFun (sN_g h (ne0 r_68 o_q_86 (by decide))).2.1 7).trans kn_81)
  have kn_102 : (sN g_85 q_86 14 (vp_V [.null, .null, .int 0, .int 0, .int 0, .int 0, .null, .null, .null, .null, .int 0, .int 0, .null, .null, .int 0])).2.1 q_16 3 = .int 0 := ((congrFun (sN_g q_16 (ne0 r_71 o_q_86 (by decide))).2.1 3).trans kn_82)
  have kn_103 : (sN g_85 q_86 14 (vp_V [.null, .null, .int 0, .int 0, .int 0, .int 0, .null, .null, .null, .null, .int 0, .int 0, .null, .null, .int 0])).2.1 q_16 4 = .int 10 := ((congrFun (sN_g q_16 (ne0 r_71 o_q_86 (by decide))).2.1 4).trans kn_83)
  have kn_104 : (sN g_85 q_86 14 (vp_V [.null, .null, .int 0, .int 0, .int 0, .int 0, .null, .null, .null, .null, .int 0, .int 0, .null, .null, .int 0])).2.1 q_86 0 = .null := sN_f
  have kn_105 : (sN g_85 q_86 14 (vp_V [.null, .null, .int 0, .int 0, .int 0, .int 0, .null, .null, .null, .null, .int 0, .int 0, .null, .null, .int 0])).2.1 q_86 1 = .null := sN_f
  have kn_106 : (sN g_85 q_86 14 (vp_V [.null, .null, .int 0, .int 0, .int 0, .int 0, .null, .null, .null, .null, .int 0, .int 0, .null, .null, .int 0])).2.1 q_86 2 = .int 0 := sN_f
  have kn_107 : (sN g_85 q_86 14 (vp_V [.null, .null, .int 0, .int 0, .int 0, .int 0, .null, .null, .null, .null, .int 0, .int 0, .null, .null, .int 0])).2.1 q_86 3 = .int 0 := sN_f
  have kn_108 : (sN g_85 q_86 14 (vp_V [.null, .null, .int 0, .int 0, .int 0, .int 0, .null, .null, .null, .null, .int 0, .int 0, .null, .null, .int 0])).2.1 q_86 4 = .int 0 := sN_f
  have kn_109 : (sN g_85 q_86 14 (vp_V [.null, .null, .int 0, .int 0, .int 0, .int 0, .null, .null, .null, .null, .int 0, .int 0, .null, .null, .int 0])).2.1 q_86 5 = .int 0 := sN_f
  have kn_110 : (sN g_85 q_86 14 (vp_V [.null, .null, .int 0, .int 0, .int 0, .int 0, .null, .null, .null, .null, .int 0, .int 0, .null, .null, .int 0])).2.1 q_86 6 = .null := sN_f
  have kn_111 : (sN g_85 q_86 14 (vp_V [.null, .null, .int 0, .int 0, .int 0, .int 0, .null, .null, .null, .null, .int 0, .int 0, .null, .null, .int 0])).2.1 q_86 7 = .null := sN_f
  have kn_112 : (sN g_85 q_86 14 (vp_V [.null, .null, .int 0, .int 0, .int 0, .int 0, .null, .null, .null, .null, .int 0, .int 0, .null, .null, .int 0])).2.1 q_86 8 = .null := sN_f
  have kn_113 : (sN g_85 q_86 14 (vp_V [.null, .null, .int 0, .int 0, .int 0, .int 0, .null, .null, .null, .null, .int 0, .int 0, .null, .null, .int 0])).2.1 q_86 9 = .null := sN_f
  have kn_114 : (sN g_85 q_86 14 (vp_V [.null, .null, .int 0, .int 0, .int 0, .int 0, .null, .null, .null, .null, .int 0, .int 0, .null, .null, .int 0])).2.1 q_86 10 = .int 0 := sN_f
  have kn_115 : (sN g_85 q_86 14 (vp_V [.null, .null, .int 0, .int 0, .int 0, .int 0, .null, .null, .null, .null, .int 0, .int 0, .null, .null, .int 0])).2.1 q_86 11 = .int 0 := sN_f
  have kn_116 : (sN g_85 q_86 14 (vp_V [.null, .null, .int 0, .int 0, .int 0, .int 0, .null, .null, .null, .null, .int 0, .int 0, .null, .null, .int 0])).2.1 q_86 12 = .null := sN_f
  have kn_117 : (sN g_85 q_86 14 (vp_V [.null, .null, .int 0, .int 0, .int 0, .int 0, .null, .null, .null, .null, .int 0, .int 0, .null, .null, .int 0])).2.1 q_86 13 = .null := sN_f
  have kn_118 : (sN g_85 q_86 14 (vp_V [.null, .null, .int 0, .int 0, .int 0, .int 0, .null, .null, .null, .null, .int 0, .int 0, .null, .null, .int 0])).2.1 q_86 14 = .int 0 := sN_f
  have kn_119 : (sN g_85 q_86 14 (vp_V [.null, .null, .int 0, .int 0, .int 0, .int 0, .null, .null, .null, .null, .int 0, .int 0, .null, .null, .int 0])).2.2.2.2 q_1 0 = some q_16 := ((congrFun (sN_g q_1 (ne0 r_69 o_q_86 (by decide))).2.2.2.2 _).trans kn_84)
  generalize (sN g_85 q_86 14 (vp_V [.null, .null, .int 0, .int 0, .int 0, .int 0, .null, .null, .null, .null, .int 0, .int 0, .null, .null, .int 0])) = g_120 at hT hI hM hE r_87 r_88 r_89 r_90 r_91 n_92 n_93 kn_94 kn_95 kn_96 kn_97 kn_98 kn_99 kn_100 kn_101 kn_102 kn_103 kn_104 kn_105 kn_106 kn_107 kn_108 kn_109 kn_110 kn_111 kn_112 kn_113 kn_114 kn_115 kn_116 kn_117 kn_118 kn_119
  clear kn_74 kn_75 kn_76 kn_77 kn_78 kn_79 kn_80 kn_81 kn_82 kn_83 kn_84 n_72 n_73 r_68 r_69 r_70 r_71
  refine W.widen (k := 15) (n := 660) (Nat.le_of_ble_eq_true rfl) (Nat.le_of_ble_eq_true rfl) ?_
  refine lv_dup hx hb dX5_init_68 rfl ?_
  refine t_callIN (n := 0) (As := []) (rest := [.ref q_86, .int 1, .ref q_1]) hB hT hl.1 (s_Service l D cI cZ cS cR N0 g_120 hI q_86 r_91) k_113 k_60 hB.2.2.2.2.2.2.2.1.2.1 k_112 rfl (by decide +kernel) ⟨(Nat.le_of_ble_eq_true rfl), (Nat.le_of_ble_eq_true rfl)⟩ rfl (Nat.le_of_ble_eq_true rfl) ⟨(Nat.le_of_ble_eq_true rfl), (Nat.le_of_ble_eq_true rfl)⟩ dX5_init_69 (fun v g_121 H locs hp hT => ?_)
  obtain ⟨rfl, hI, x_125, m_124, r_126, f_122, f_123⟩ := hp
  replace hM : Sm md_s_World g g_121 := hM.tr hE (m_124.mo (fun r k h => mdle_s_World_s_Service h))
  replace hE : Ex g g_121 := hE.trx z_q_86 x_125
  have r_127 : g_121.1 h = 16 := (Exx.r x_125 r_87 (by decide) (ro_ne r_87 r_91 (by decide)))
  have r_128 : g_121.1 q_1 = 44 := (Exx.r x_125 r_88 (by decide) (ro_ne r_88 r_91 (by decide)))
  have r_129 : g_121.1 q_6 = 50 := (Exx.r x_125 r_89 (by decide) (ro_ne r_89 r_91 (by decide)))
  have r_130 : g_121.1 q_16 = 4 := (Exx.r x_125 r_90 (by decide) (ro_ne r_90 r_91 (by decide)))
  have r_131 : g_121.1 q_86 = 4 := r_126
  have n_132 : g_121.2.2.1 q_1 = 6 := (Exx.n x_125 r_88 (by decide) (ro_ne r_88 r_91 (by decide)) n_92)
  have n_133 : g_121.2.2.1 q_6 = 512 := (Exx.n x_125 r_89 (by decide) (ro_ne r_89 r_91 (by decide)) n_93)
  have kn_134 : g_121.2.1 h 0 = .ref q_1 := (Sm.v m_124 r_87 (by decide) rfl kn_94)
  have kn_135 : g_121.2.1 h 1 = .int 0 := (Sm.v m_124 r_87 (by decide) rfl kn_95)
  have kn_136 : g_121.2.1 h 2 = .int 0 := (Sm.v m_124 r_87 (by decide) rfl kn_96)
  have kn_137 : g_121.2.1 h 3 = .ref q_6 := (Sm.v m_124 r_87 (by decide) rfl kn_97)
  have kn_138 : g_121.2.1 h 4 = .int 0 := (Sm.v m_124 r_87 (by decide) rfl kn_98)
  have kn_139 : g_121.2.1 h 5 = .int 0 := (Sm.v m_124 r_87 (by decide) rfl kn_99)
  have kn_140 : g_121.2.1 h 6 = .int 0 := (Sm.v m_124 r_87 (by decide) rfl kn_100)
  have kn_141 : g_121.2.1 h 7 = .int 0 := (Sm.v m_124 r_87 (by decide) rfl kn_101)
  have kn_142 : g_121.2.1 q_16 3 = .int 0 := (Sm.v m_124 r_90 (by decide) rfl kn_102)
  have kn_143 : g_121.2.1 q_16 4 = .int 10 := (Sm.v m_124 r_90 (by decide) rfl kn_103)
  have kn_144 : g_121.2.2.2.2 q_1 0 = some q_16 := ((congrFun (m_124.2 q_1 (by rw [r_88]; decide) (by rw [r_88]; rfl)).2 _).trans kn_119)
  refine W.eq (g2 := F0 m 72 ls [.ref q_86, .int 1, .ref q_1]) rfl ?_
  have i_145 : vp_in (1 : Int32) 6 := (by unfold vp_in; decide)
  refine t_astq hB hT r_128 n_132 (ro_ci r_131 rfl) i_145 dX5_init_72 (fun H locs hT => ?_)
  replace hI : Inv (sQ g_121 q_1 (1 : Int32).toNatClampNeg (some q_86)) := hI.sQ (by rw [r_128]; exact trivial)
  replace hM : Sm md_s_World g (sQ g_121 q_1 (1 : Int32).toNatClampNeg (some q_86)) := hM.tr hE (Sm_sQ (by rw [r_128]; rfl))
  replace hE : Ex g (sQ g_121 q_1 (1 : Int32).toNatClampNeg (some q_86)) := hE
  have r_146 : (sQ g_121 q_1 (1 : Int32).toNatClampNeg (some q_86)).1 h = 16 := r_127
  have r_147 : (sQ g_121 q_1 (1 : Int32).toNatClampNeg (some q_86)).1 q_1 = 44 := r_128
  have r_148 : (sQ g_121 q_1 (1 : Int32).toNatClampNeg (some q_86)).1 q_6 = 50 := r_129
  have r_149 : (sQ g_121 q_1 (1 : Int32).toNatClampNeg (some q_86)).1 q_16 = 4 := r_130
  have r_150 : (sQ g_121 q_1 (1 : Int32).toNatClampNeg (some q_86)).1 q_86 = 4 := r_131
  have n_151 : (sQ g_121 q_1 (1 : Int32).toNatClampNeg (some q_86)).2.2.1 q_1 = 6 := n_132
  have n_152 : (sQ g_121 q_1 (1 : Int32).toNatClampNeg (some q_86)).2.2.1 q_6 = 512 := n_133
  have kn_153 : (sQ g_121 q_1 (1 : Int32).toNatClampNeg (some q_86)).2.1 h 0 = .ref q_1 := kn_134
  have kn_154 : (sQ g_121 q_1 (1 : Int32).toNatClampNeg (some q_86)).2.1 h 1 = .int 0 := kn_135
  have kn_155 : (sQ g_121 q_1 (1 : Int32).toNatClampNeg (some q_86)).2.1 h 2 = .int 0 := kn_136
  have kn_156 : (sQ g_121 q_1 (1 : Int32).toNatClampNeg (some q_86)).2.1 h 3 = .ref q_6 := kn_137
  have kn_157 : (sQ g_121 q_1 (1 : Int32).toNatClampNeg (some q_86)).2.1 h 4 = .int 0 := kn_138
  have kn_158 : (sQ g_121 q_1 (1 : Int32).toNatClampNeg (some q_86)).2.1 h 5 = .int 0 := kn_139
  have kn_159 : (sQ g_121 q_1 (1 : Int32).toNatClampNeg (some q_86)).2.1 h 6 = .int 0 := kn_140
  have kn_160 : (sQ g_121 q_1 (1 : Int32).toNatClampNeg (some q_86)).2.1 h 7 = .int 0 := kn_141
  have kn_161 : (sQ g_121 q_1 (1 : Int32).toNatClampNeg (some q_86)).2.1 q_16 3 = .int 0 := kn_142
  have kn_162 : (sQ g_121 q_1 (1 : Int32).toNatClampNeg (some q_86)).2.1 q_16 4 = .int 10 := kn_143
  have kn_163 : (sQ g_121 q_1 (1 : Int32).toNatClampNeg (some q_86)).2.1 q_86 3 = .int 0 := f_122
  have kn_164 : (sQ g_121 q_1 (1 : Int32).toNatClampNeg (some q_86)).2.1 q_86 4 = .int 10 := f_123
  have kn_165 : (sQ g_121 q_1 (1 : Int32).toNatClampNeg (some q_86)).2.2.2.2 q_1 0 = some q_16 := (sQ_i kn_144 (by decide))
  have kn_166 : (sQ g_121 q_1 (1 : Int32).toNatClampNeg (some q_86)).2.2.2.2 q_1 1 = some q_86 := sQ_eq
  generalize (sQ g_121 q_1 (1 : Int32).toNatClampNeg (some q_86)) = g_167 at hT hI hM hE r_146 r_147 r_148 r_149 r_150 n_151 n_152 kn_153 kn_154 kn_155 kn_156 kn_157 kn_158 kn_159 kn_160 kn_161 kn_162 kn_163 kn_164 kn_165 kn_166
  clear kn_134 kn_135 kn_136 kn_137 kn_138 kn_139 kn_140 kn_141 kn_142 kn_143 kn_144 n_132 n_133 r_127 r_128 r_129 r_130 r_131
  refine lv_iinc (v := 2) (lv' := [(1, .int 2), (0, .ref h)]) hx hb dX5_init_73 hl (k := 0) rfl (by decide) (by decide) rfl (fun ls hl => ?_)
  refine lv_goto (tgt := 54) hx hb dX5_init_76 (by decide) ?_
  refine lv_iload_n hx hb dX5_init_54 rfl (lv_at hl 0 rfl) ?_
  refine lv_bipush (v := 6) hx hb dX5_init_55 (by decide) ?_
  refine lv_icmp_ge (tgt := 79) hx hb dX5_init_57 (by decide) (fun c_ => absurd c_ (by decide)) (fun c_ => ?_)
  refine lv_aload_n hx hb dX5_init_60 rfl (lv_at hl 1 rfl) ?_
  refine t_get (ci := 5) (v := .ref q_1) hB hT (ro_ci r_146 rfl) rfl 0 (by decide) k_199 kn_153 dX5_init_61 ?_
  refine lv_iload_n hx hb dX5_init_64 rfl (lv_at hl 0 rfl) ?_
  refine t_new (ci := 3) (fs := [.null, .null, .int 0, .int 0, .int 0, .int 0, .null, .null, .null, .null, .int 0, .int 0, .null, .null, .int 0]) hB hT rfl (by decide) k_108 k_110 k_60 (fnew_3) (Nat.le_of_ble_eq_true rfl) (Nat.le_of_ble_eq_true rfl) dX5_init_65 (fun q_168 H o_q_168 hT => ?_)
  have z_q_168 : g.1 q_168 = 0 := hE.z0 o_q_168
  replace hI : Inv (sN g_167 q_168 14 (vp_V [.null, .null, .int 0, .int 0, .int 0, .int 0, .null, .null, .null, .null, .int 0, .int 0, .null, .null, .int 0])) := hI.newo o_q_168 (fun _ => rfl) (fun _ => trivial) (fun _ _ => trivial)
  replace hM : Sm md_s_World g (sN g_167 q_168 14 (vp_V [.null, .null, .int 0, .int 0, .int 0, .int 0, .null, .null, .null, .null, .int 0, .int 0, .null, .null, .int 0])) := hM.tr hE (Sm.push o_q_168 sN_g)
  replace hE : Ex g (sN g_167 q_168 14 (vp_V [.null, .null, .int 0, .int 0, .int 0, .int 0, .null, .null, .null, .null, .int 0, .int 0, .null, .null, .int 0])) := hE.tr (Ex.push o_q_168 sN_g)
  have r_169 : (sN g_167 q_168 14 (vp_V [.null, .null, .int 0, .int 0, .int 0, .int 0, .null, .null, .null, .null, .int 0, .int 0, .null, .null, .int 0])).1 h = 16 := ((sN_g h (ne0 r_146 o_q_168 (by decide))).1.trans r_146)
  have r_170 : (sN g_167 q_168 14 (vp_V [.null, .null, .int 0, .int 0, .int 0, .int 0, .null, .null, .null, .null, .int 0, .int 0, .null, .null, .int 0])).1 q_1 = 44 := ((sN_g q_1 (ne0 r_147 o_q_168 (by decide))).1.trans r_147)
  have r_171 : (sN g_167 q_168 14 (vp_V [.null, .null, .int 0, .int 0, .int 0, .int 0, .null, .null, .null, .null, .int 0, .int 0, .null, .null, .int 0])).1 q_6 = 50 := ((sN_g q_6 (ne0 r_148 o_q_168 (by decide))).1.trans r_148)
  have r_172 : (sN g_167 q_168 14 (vp_V [.null, .null, .int 0, .int 0, .int 0, .int 0, .null, .null, .null, .null, .int 0, .int 0, .null, .null, .int 0])).1 q_16 = 4 := ((sN_g q_16 (ne0 r_149 o_q_168 (by decide))).1.trans r_149)
  have r_173 : (sN g_167 q_168 14 (vp_V [.null, .null, .int 0, .int 0, .int 0, .int 0, .null, .null, .null, .null, .int 0, .int 0, .null, .null, .int 0])).1 q_86 = 4 := ((sN_g q_86 (ne0 r_150 o_q_168 (by decide))).1.trans r_150)
  have r_174 : (sN g_167 q_168 14 (vp_V [.null, .null, .int 0, .int 0, .int 0, .int 0, .null, .null, .null, .null, .int 0, .int 0, .null, .null, .int 0])).1 q_168 = 14 := sN_r
  have n_175 : (sN g_167 q_168 14 (vp_V [.null, .null, .int 0, .int 0, .int 0, .int 0, .null, .null, .null, .null, .int 0, .int 0, .null, .null, .int 0])).2.2.1 q_1 = 6 := ((sN_g q_1 (ne0 r_147 o_q_168 (by decide))).2.2.1.trans n_151)
  have n_176 : (sN g_167 q_168 14 (vp_V [.null, .null, .int 0, .int 0, .int 0, .int 0, .null, .null, .null, .null, .int 0, .int 0, .null, .null, .int 0])).2.2.1 q_6 = 512 := ((sN_g q_6 (ne0 r_148 o_q_168 (by decide))).2.2.1.trans n_152)
  have kn_177 : (sN g_167 q_168 14 (vp_V [.null, .null, .int 0, .int 0, .int 0, .int 0, .null, .null, .null, .null, .int 0, .int 0, .null, .null, .int 0])).2.1 h 0 = .ref q_1 := ((congrFun (sN_g h (ne0 r_146 o_q_168 (by decide))).2.1 0).trans kn_153)
  have kn_178 : (sN g_167 q_168 14 (vp_V [.null, .null, .int 0, .int 0, .int 0, .int 0, .null, .null, .null, .null, .int 0, .int 0, .null, .null, .int 0])).2.1 h 1 = .int 0 := ((congrFun (sN_g h (ne0 r_146 o_q_168 (by decide))).2.1 1).trans kn_154)
  have kn_179 : (sN g_167 q_168 14 (vp_V [.null, .null, .int 0, .int 0, .int 0, .int 0, .null, .null, .null, .null, .int 0, .int 0, .null, .null, .int 0])).2.1 h 2 = .int 0 := ((congrFun (sN_g h (ne0 r_146 o_q_168 (by decide))).2.1 2).trans kn_155)
  have kn_180 : (sN g_167 q_168 14 (vp_V [.null, .null, .int 0, .int 0, .int 0, .int 0, .null, .null, .null, .null, .int 0, .int 0, .null, .null, .int 0])).2.1 h 3 = .ref q_6 := ((congrFun (sN_g h (ne0 r_146 o_q_168 (by decide))).2.1 3).trans kn_156)
  have kn_181 : (sN g_167 q_168 14 (vp_V [.null, .null, .int 0, .int 0, .int 0, .int 0, .null, .null, .null, .null, .int 0, .int 0, .null, .null, .int 0])).2.1 h 4 = .int 0 := ((congrFun (sN_g h (ne0 r_146 o_q_168 (by decide))).2.1 4).trans kn_157)
  have kn_182 : (sN g_167 q_168 14 (vp_V [.null, .null, .int 0, .int 0, .int 0, .int 0, .null, .null, .null, .null, .int 0, .int 0, .null, .null, .int 0])).2.1 h 5 = .int 0 := ((congrFun (sN_g h (ne0 r_146 o_q_168 (by decide))).2.1 5).trans kn_158)
  have kn_183 : (sN g_167 q_168 14 (vp_V [.null, .null, .int 0, .int 0, .int 0, .int 0, .null, .null, .null, .null, .int 0, .int 0, .null, .null, .int 0])).2.1 h 6 = .int 0 := ((congrFun (sN_g h (ne0 r_146 o_q_168 (by decide))).2.1 6).trans kn_159)
  have kn_184 : (sN g_167 q_168 14 (vp_V [.null, .null, .int 0, .int 0, .int 0, .int 0, .null, .null, .null, .null, .int 0, .int 0, .null, .null, .int 0])).2.1 h 7 = .int 0 := ((congrFun (sN_g h (ne0 r_146 o_q_168 (by decide))).2.1 7).trans kn_160)
  have kn_185 : (sN g_167 q_168 14 (vp_V [.null, .null, .int 0, .int 0, .int 0, .int 0, .null, .null, .null, .null, .int 0, .int 0, .null, .null, .int 0])).2.1 q_16 3 = .int 0 := ((congrFun (sN_g q_16 (ne0 r_149 o_q_168 (by decide))).2.1 3).trans kn_161)
  have kn_186 : (sN g_167 q_168 14 (vp_V [.null, .null, .int 0, .int 0, .int 0, .int 0, .null, .null, .null, .null, .int 0, .int 0, .null, .null, .int 0])).2.1 q_16 4 = .int 10 := ((congrFun (sN_g q_16 (ne0 r_149 o_q_168 (by decide))).2.1 4).trans kn_162)
  have kn_187 : (sN g_167 q_168 14 (vp_V [.null, .null, .int 0, .int 0, .int 0, .int 0, .null, .null, .null, .null, .int 0, .int 0, .null, .null, .int 0])).2.1 q_86 3 = .int 0 := ((congrFun (sN_g q_86 (ne0 r_150 o_q_168 (by decide))).2.1 3).trans kn_163)
  have kn_188 : (sN g_167 q_168 14 (vp_V [.null, .null, .int 0, .int 0, .int 0, .int 0, .null, .null, .null, .null, .int 0, .int 0, .null, .null, .int 0])).2.1 q_86 4 = .int 10 := ((congrFun (sN_g q_86 (ne0 r_150 o_q_168 (by decide))).2.1 4).trans kn_164)
  have kn_189 : (sN g_167 q_168 14 (vp_V [.null, .null, .int 0, .int 0, .int 0, .int 0, .null, .null, .null, .null, .int 0, .int 0, .null, .null, .int 0])).2.1 q_168 0 = .null := sN_f
  have kn_190 : (sN g_167 q_168 14 (vp_V [.null, .null, .int 0, .int 0, .int 0, .int 0, .null, .null, .null, .null, .int 0, .int 0, .null, .null, .int 0])).2.1 q_168 1 = .null := sN_f
  have kn_191 : (sN g_167 q_168 14 (vp_V [.null, .null, .int 0, .int 0, .int 0, .int 0, .null, .null, .null, .null, .int 0, .int 0, .null, .null, .int 0])).2.1 q_168 2 = .int 0 := sN_f
  have kn_192 : (sN g_167 q_168 14 (vp_V [.null, .null, .int 0, .int 0, .int 0, .int 0, .null, .null, .null, .null, .int 0, .int 0, .null, .null, .int 0])).2.1 q_168 3 = .int 0 := sN_f
  have kn_193 : (sN g_167 q_168 14 (vp_V [.null, .null, .int 0, .int 0, .int 0, .int 0, .null, .null, .null, .null, .int 0, .int 0, .null, .null, .int 0])).2.1 q_168 4 = .int 0 := sN_f
  have kn_194 : (sN g_167 q_168 14 (vp_V [.null, .null, .int 0, .int 0, .int 0, .int 0, .null, .null, .null, .null, .int 0, .int 0, .null, .null, .int 0])).2.1 q_168 5 = .int 0 := sN_f
  have kn_195 : (sN g_167 q_168 14 (vp_V [.null, .null, .int 0, .int 0, .int 0, .int 0, .null, .null, .null, .null, .int 0, .int 0, .null, .null, .int 0])).2.1 q_168 6 = .null := sN_f
  have kn_196 : (sN g_167 q_168 14 (vp_V [.null, .null, .int 0, .int 0, .int 0, .int 0, .null, .null, .null, .null, .int 0, .int 0, .null, .null, .int 0])).2.1 q_168 7 = .null := sN_f
  have kn_197 : (sN g_167 q_168 14 (vp_V [.null, .null, .int 0, .int 0, .int 0, .int 0, .null, .null, .null, .null, .int 0, .int 0, .null, .null, .int 0])).2.1 q_168 8 = .null := sN_f
  have kn_198 : (sN g_167 q_168 14 (vp_V [.null, .null, .int 0, .int 0, .int 0, .int 0, .null, .null, .null, .null, .int 0, .int 0, .null, .null, .int 0])).2.1 q_168 9 = .null := sN_f
  have kn_199 : (sN g_167 q_168 14 (vp_V [.null, .null, .int 0, .int 0, .int 0, .int 0, .null, .null, .null, .null, .int 0, .int 0, .null, .null, .int 0])).2.1 q_168 10 = .int 0 := sN_f
  have kn_200 : (sN g_167 q_168 14 (vp_V [.null, .null, .int 0, .int 0, .int 0, .int 0, .null, .null, .null, .null, .int 0, .int 0, .null, .null, .int 0])).2.1 q_168 11 = .int 0 := sN_f
  have kn_201 : (sN g_167 q_168 14 (vp_V [.null, .null, .int 0, .int 0, .int 0, .int 0, .null, .null, .null, .null, .int 0, .int 0, .null, .null, .int 0])).2.1 q_168 12 = .null := sN_f
  have kn_202 : (sN g_167 q_168 14 (vp_V [.null, .null, .int 0, .int 0, .int 0, .int 0, .null, .null, .null, .null, .int 0, .int 0, .null, .null, .int 0])).2.1 q_168 13 = .null := sN_f
  have kn_203 : (sN g_167 q_168 14 (vp_V [.null, .null, .int 0, .int 0, .int 0, .int 0, .null, .null, .null, .null, .int 0, .int 0, .null, .null, .int 0])).2.1 q_168 14 = .int 0 := sN_f
  have kn_204 : (sN g_167 q_168 14 (vp_V [.null, .null, .int 0, .int 0, .int 0, .int 0, .null, .null, .null, .null, .int 0, .int 0, .null, .null, .int 0])).2.2.2.2 q_1 0 = some q_16 := ((congrFun (sN_g q_1 (ne0 r_147 o_q_168 (by decide))).2.2.2.2 _).trans kn_165)
  have kn_205 : (sN g_167 q_168 14 (vp_V [.null, .null, .int 0, .int 0, .int 0, .int 0, .null, .null, .null, .null, .int 0, .int 0, .null, .null, .int 0])).2.2.2.2 q_1 1 = some q_86 := ((congrFun (sN_g q_1 (ne0 r_147 o_q_168 (by decide))).2.2.2.2 _).trans kn_166)
  generalize (sN g_167 q_168 14 (vp_V [.null, .null, .int 0, .int 0, .int 0, .int 0, .null, .null, .null, .null, .int 0, .int 0, .null, .null, .int 0])) = g_206 at hT hI hM hE r_169 r_170 r_171 r_172 r_173 r_174 n_175 n_176 kn_177 kn_178 kn_179 kn_180 kn_181 kn_182 kn_183 kn_184 kn_185 kn_186 kn_187 kn_188 kn_189 kn_190 kn_191 kn_192 kn_193 kn_194 kn_195 kn_196 kn_197 kn_198 kn_199 kn_200 kn_201 kn_202 kn_203 kn_204 kn_205
  clear kn_153 kn_154 kn_155 kn_156 kn_157 kn_158 kn_159 kn_160 kn_161 kn_162 kn_163 kn_164 kn_165 kn_166 n_151 n_152 r_146 r_147 r_148 r_149 r_150
  refine W.widen (k := 27) (n := 787) (Nat.le_of_ble_eq_true rfl) (Nat.le_of_ble_eq_true rfl) ?_
  refine lv_dup hx hb dX5_init_68 rfl ?_
  refine t_callIN (n := 0) (As := []) (rest := [.ref q_168, .int 2, .ref q_1]) hB hT hl.1 (s_Service l D cI cZ cS cR N0 g_206 hI q_168 r_174) k_113 k_60 hB.2.2.2.2.2.2.2.1.2.1 k_112 rfl (by decide +kernel) ⟨(Nat.le_of_ble_eq_true rfl), (Nat.le_of_ble_eq_true rfl)⟩ rfl (Nat.le_of_ble_eq_true rfl) ⟨(Nat.le_of_ble_eq_true rfl), (Nat.le_of_ble_eq_true rfl)⟩ dX5_init_69 (fun v g_207 H locs hp hT => ?_)
  obtain ⟨rfl, hI, x_211, m_210, r_212, f_208, f_209⟩ := hp
  replace hM : Sm md_s_World g g_207 := hM.tr hE (m_210.mo (fun r k h => mdle_s_World_s_Service h))
  replace hE : Ex g g_207 := hE.trx z_q_168 x_211
  have r_213 : g_207.1 h = 16 := (Exx.r x_211 r_169 (by decide) (ro_ne r_169 r_174 (by decide)))
  have r_214 : g_207.1 q_1 = 44 := (Exx.r x_211 r_170 (by decide) (ro_ne r_170 r_174 (by decide)))
  have r_215 : g_207.1 q_6 = 50 := (Exx.r x_211 r_171 (by decide) (ro_ne r_171 r_174 (by decide)))
  have r_216 : g_207.1 q_16 = 4 := (Exx.r x_211 r_172 (by decide) (ro_ne r_172 r_174 (by decide)))
  have r_217 : g_207.1 q_86 = 4 := (Exx.r x_211 r_173 (by decide) (ro_ne r_173 r_174 (by decide)))
  have r_218 : g_207.1 q_168 = 4 := r_212
  have n_219 : g_207.2.2.1 q_1 = 6 := (Exx.n x_211 r_170 (by decide) (ro_ne r_170 r_174 (by decide)) n_175)
  have n_220 : g_207.2.2.1 q_6 = 512 := (Exx.n x_211 r_171 (by decide) (ro_ne r_171 r_174 (by decide)) n_176)
  have kn_221 : g_207.2.1 h 0 = .ref q_1 := (Sm.v m_210 r_169 (by decide) rfl kn_177)
  have kn_222 : g_207.2.1 h 1 = .int 0 := (Sm.v m_210 r_169 (by decide) rfl kn_178)
  have kn_223 : g_207.2.1 h 2 = .int 0 := (Sm.v m_210 r_169 (by decide) rfl kn_179)
  have kn_224 : g_207.2.1 h 3 = .ref q_6 := (Sm.v m_210 r_169 (by decide) rfl kn_180)
  have kn_225 : g_207.2.1 h 4 = .int 0 := (Sm.v m_210 r_169 (by decide) rfl kn_181)
  have kn_226 : g_207.2.1 h 5 = .int 0 := (Sm.v m_210 r_169 (by decide) rfl kn_182)
  have kn_227 : g_207.2.1 h 6 = .int 0 := (Sm.v m_210 r_169 (by decide) rfl kn_183)
  have kn_228 : g_207.2.1 h 7 = .int 0 := (Sm.v m_210 r_169 (by decide) rfl kn_184)
  have kn_229 : g_207.2.1 q_16 3 = .int 0 := (Sm.v m_210 r_172 (by decide) rfl kn_185)
  have kn_230 : g_207.2.1 q_16 4 = .int 10 := (Sm.v m_210 r_172 (by decide) rfl kn_186)
  have kn_231 : g_207.2.1 q_86 3 = .int 0 := (Sm.v m_210 r_173 (by decide) rfl kn_187)
  have kn_232 : g_207.2.1 q_86 4 = .int 10 := (Sm.v m_210 r_173 (by decide) rfl kn_188)
  have kn_233 : g_207.2.2.2.2 q_1 0 = some q_16 := ((congrFun (m_210.2 q_1 (by rw [r_170]; decide) (by rw [r_170]; rfl)).2 _).trans kn_204)
  have kn_234 : g_207.2.2.2.2 q_1 1 = some q_86 := ((congrFun (m_210.2 q_1 (by rw [r_170]; decide) (by rw [r_170]; rfl)).2 _).trans kn_205)
  refine W.eq (g2 := F0 m 72 ls [.ref q_168, .int 2, .ref q_1]) rfl ?_
  have i_235 : vp_in (2 : Int32) 6 := (by unfold vp_in; decide)
  refine t_astq hB hT r_214 n_219 (ro_ci r_218 rfl) i_235 dX5_init_72 (fun H locs hT => ?_)
  replace hI : Inv (sQ g_207 q_1 (2 : Int32).toNatClampNeg (some q_168)) := hI.sQ (by rw [r_214]; exact trivial)
  replace hM : Sm md_s_World g (sQ g_207 q_1 (2 : Int32).toNatClampNeg (some q_168)) := hM.tr hE (Sm_sQ (by rw [r_214]; rfl))
  replace hE : Ex g (sQ g_207 q_1 (2 : Int32).toNatClampNeg (some q_168)) := hE
  have r_236 : (sQ g_207 q_1 (2 : Int32).toNatClampNeg (some q_168)).1 h = 16 := r_213
  have r_237 : (sQ g_207 q_1 (2 : Int32).toNatClampNeg (some q_168)).1 q_1 = 44 := r_214
  have r_238 : (sQ g_207 q_1 (2 : Int32).toNatClampNeg (some q_168)).1 q_6 = 50 := r_215
  have r_239 : (sQ g_207 q_1 (2 : Int32).toNatClampNeg (some q_168)).1 q_16 = 4 := r_216
  have r_240 : (sQ g_207 q_1 (2 : Int32).toNatClampNeg (some q_168)).1 q_86 = 4 := r_217
  have r_241 : (sQ g_207 q_1 (2 : Int32).toNatClampNeg (some q_168)).1 q_168 = 4 := r_218
  have n_242 : (sQ g_207 q_1 (2 : Int32).toNatClampNeg (some q_168)).2.2.1 q_1 = 6 := n_219
  have n_243 : (sQ g_207 q_1 (2 : Int32).toNatClampNeg (some q_168)).2.2.1 q_6 = 512 := n_220
  have kn_244 : (sQ g_207 q_1 (2 : Int32).toNatClampNeg (some q_168)).2.1 h 0 = .ref q_1 := kn_221
  have kn_245 : (sQ g_207 q_1 (2 : Int32).toNatClampNeg (some q_168)).2.1 h 1 = .int 0 := kn_222
  have kn_246 : (sQ g_207 q_1 (2 : Int32).toNatClampNeg (some q_168)).2.1 h 2 = .int 0 := kn_223
  have kn_247 : (sQ g_207 q_1 (2 : Int32).toNatClampNeg (some q_168)).2.1 h 3 = .ref q_6 := kn_224
  have kn_248 : (sQ g_207 q_1 (2 : Int32).toNatClampNeg (some q_168)).2.1 h 4 = .int 0 := kn_225
  have kn_249 : (sQ g_207 q_1 (2 : Int32).toNatClampNeg (some q_168)).2.1 h 5 = .int 0 := kn_226
  have kn_250 : (sQ g_207 q_1 (2 : Int32).toNatClampNeg (some q_168)).2.1 h 6 = .int 0 := kn_227
  have kn_251 : (sQ g_207 q_1 (2 : Int32).toNatClampNeg (some q_168)).2.1 h 7 = .int 0 := kn_228
  have kn_252 : (sQ g_207 q_1 (2 : Int32).toNatClampNeg (some q_168)).2.1 q_16 3 = .int 0 := kn_229
  have kn_253 : (sQ g_207 q_1 (2 : Int32).toNatClampNeg (some q_168)).2.1 q_16 4 = .int 10 := kn_230
  have kn_254 : (sQ g_207 q_1 (2 : Int32).toNatClampNeg (some q_168)).2.1 q_86 3 = .int 0 := kn_231
  have kn_255 : (sQ g_207 q_1 (2 : Int32).toNatClampNeg (some q_168)).2.1 q_86 4 = .int 10 := kn_232
  have kn_256 : (sQ g_207 q_1 (2 : Int32).toNatClampNeg (some q_168)).2.1 q_168 3 = .int 0 := f_208
  have kn_257 : (sQ g_207 q_1 (2 : Int32).toNatClampNeg (some q_168)).2.1 q_168 4 = .int 10 := f_209
  have kn_258 : (sQ g_207 q_1 (2 : Int32).toNatClampNeg (some q_168)).2.2.2.2 q_1 0 = some q_16 := (sQ_i kn_233 (by decide))
  have kn_259 : (sQ g_207 q_1 (2 : Int32).toNatClampNeg (some q_168)).2.2.2.2 q_1 1 = some q_86 := (sQ_i kn_234 (by decide))
  have kn_260 : (sQ g_207 q_1 (2 : Int32).toNatClampNeg (some q_168)).2.2.2.2 q_1 2 = some q_168 := sQ_eq
  generalize (sQ g_207 q_1 (2 : Int32).toNatClampNeg (some q_168)) = g_261 at hT hI hM hE r_236 r_237 r_238 r_239 r_240 r_241 n_242 n_243 kn_244 kn_245 kn_246 kn_247 kn_248 kn_249 kn_250 kn_251 kn_252 kn_253 kn_254 kn_255 kn_256 kn_257 kn_258 kn_259 kn_260
  clear kn_221 kn_222 kn_223 kn_224 kn_225 kn_226 kn_227 kn_228 kn_229 kn_230 kn_231 kn_232 kn_233 kn_234 n_219 n_220 r_213 r_214 r_215 r_216 r_217 r_218
  refine lv_iinc (v := 3) (lv' := [(1, .int 3), (0, .ref h)]) hx hb dX5_init_73 hl (k := 0) rfl (by decide) (by decide) rfl (fun ls hl => ?_)
  refine lv_goto (tgt := 54) hx hb dX5_init_76 (by decide) ?_
  refine lv_iload_n hx hb dX5_init_54 rfl (lv_at hl 0 rfl) ?_
  refine lv_bipush (v := 6) hx hb dX5_init_55 (by decide) ?_
  refine lv_icmp_ge (tgt := 79) hx hb dX5_init_57 (by decide) (fun c_ => absurd c_ (by decide)) (fun c_ => ?_)
  refine lv_aload_n hx hb dX5_init_60 rfl (lv_at hl 1 rfl) ?_
  refine t_get (ci := 5) (v := .ref q_1) hB hT (ro_ci r_236 rfl) rfl 0 (by decide) k_199 kn_244 dX5_init_61 ?_
  refine lv_iload_n hx hb dX5_init_64 rfl (lv_at hl 0 rfl) ?_
  refine t_new (ci := 3) (fs := [.null, .null, .int 0, .int 0, .int 0, .int 0, .null, .null, .null, .null, .int 0, .int 0, .null, .null, .int 0]) hB hT rfl (by decide) k_108 k_110 k_60 (fnew_3) (Nat.le_of_ble_eq_true rfl) (Nat.le_of_ble_eq_true rfl) dX5_init_65 (fun q_262 H o_q_262 hT => ?_)
  have z_q_262 : g.1 q_262 = 0 := hE.z0 o_q_262
  replace hI : Inv (sN g_261 q_262 14 (vp_V [.null, .null, .int 0, .int 0, .int 0, .int 0, .null, .null, .null, .null, .int 0, .int 0, .null, .null, .int 0])) := hI.newo o_q_262 (fun _ => rfl) (fun _ => trivial) (fun _ _ => trivial)
  replace hM : Sm md_s_World g (sN g_261 q_262 14 (vp_V [.null, .null, .int 0, .int 0, .int 0, .int 0, .null, .null, .null, .null, .int 0, .int 0, .null, .null, .int 0])) := hM.tr hE (Sm.push o_q_262 sN_g)
  replace hE : Ex g (sN g_261 q_262 14 (vp_V [.null, .null, .int 0, .int 0, .int 0, .int 0, .null, .null, .null, .null, .int 0, .int 0, .null, .null, .int 0])) := hE.tr (Ex.push o_q_262 sN_g)
  have r_263 : (sN g_261 q_262 14 (vp_V [.null, .null, .int 0, .int 0, .int 0, .int 0, .null, .null, .null, .null, .int 0, .int 0, .null, .null, .int 0])).1 h = 16 := ((sN_g h (ne0 r_236 o_q_262 (by decide))).1.trans r_236)
  have r_264 : (sN g_261 q_262 14 (vp_V [.null, .null, .int 0, .int 0, .int 0, .int 0, .null, .null, .null, .null, .int 0, .int 0, .null, .null, .int 0])).1 q_1 = 44 := ((sN_g q_1 (ne0 r_237 o_q_262 (by decide))).1.trans r_237)
  have r_265 : (sN g_261 q_262 14 (vp_V [.null, .null, .int 0, .int 0, .int 0, .int 0, .null, .null, .null, .null, .int 0, .int 0, .null, .null, .int 0])).1 q_6 = 50 := ((sN_g q_6 (ne0 r_238 o_q_262 (by decide))).1.trans r_238)
  have r_266 : (sN g_261 q_262 14 (vp_V [.null, .null, .int 0, .int 0, .int 0, .int 0, .null, .null, .null, .null, .int 0, .int 0, .null, .null, .int 0])).1 q_16 = 4 := ((sN_g q_16 (ne0 r_239 o_q_262 (by decide))).1.trans r_239)
  have r_267 : (sN g_261 q_262 14 (vp_V [.null, .null, .int 0, .int 0, .int 0, .int 0, .null, .null, .null, .null, .int 0, .int 0, .null, .null, .int 0])).1 q_86 = 4 := ((sN_g q_86 (ne0 r_240 o_q_262 (by decide))).1.trans r_240)
  have r_268 : (sN g_261 q_262 14 (vp_V [.null, .null, .int 0, .int 0, .int 0, .int 0, .null, .null, .null, .null, .int 0, .int 0, .null, .null, .int 0])).1 q_168 = 4 := ((sN_g q_168 (ne0 r_241 o_q_262 (by decide))).1.trans r_241)
  have r_269 : (sN g_261 q_262 14 (vp_V [.null, .null, .int 0, .int 0, .int 0, .int 0, .null, .null, .null, .null, .int 0, .int 0, .null, .null, .int 0])).1 q_262 = 14 := sN_r
  have n_270 : (sN g_261 q_262 14 (vp_V [.null, .null, .int 0, .int 0, .int 0, .int 0, .null, .null, .null, .null, .int 0, .int 0, .null, .null, .int 0])).2.2.1 q_1 = 6 := ((sN_g q_1 (ne0 r_237 o_q_262 (by decide))).2.2.1.trans n_242)
  have n_271 : (sN g_261 q_262 14 (vp_V [.null, .null, .int 0, .int 0, .int 0, .int 0, .null, .null, .null, .null, .int 0, .int 0, .null, .null, .int 0])).2.2.1 q_6 = 512 := ((sN_g q_6 (ne0 r_238 o_q_262 (by decide))).2.2.1.trans n_243)
  have kn_272 : (sN g_261 q_262 14 (vp_V [.null, .null, .int 0, .int 0, .int 0, .int 0, .null, .null, .null, .null, .int 0, .int 0, .null, .null, .int 0])).2.1 h 0 = .ref q_1 := ((congrFun (sN_g h (ne0 r_236 o_q_262 (by decide))).2.1 0).trans kn_244)
  have kn_273 : (sN g_261 q_262 14 (vp_V [.null, .null, .int 0, .int 0, .int 0, .int 0, .null, .null, .null, .null, .int 0, .int 0, .null, .null, .int 0])).2.1 h 1 = .int 0 := ((congrFun (sN_g h (ne0 r_236 o_q_262 (by decide))).2.1 1).trans kn_245)
  have kn_274 : (sN g_261 q_262 14 (vp_V [.null, .null, .int 0, .int 0, .int 0, .int 0, .null, .null, .null, .null, .int 0, .int 0, .null, .null, .int 0])).2.1 h 2 = .int 0 := ((congrFun (sN_g h (ne0 r_236 o_q_262 (by decide))).2.1 2).trans kn_246)
  have kn_275 : (sN g_261 q_262 14 (vp_V [.null, .null, .int 0, .int 0, .int 0, .int 0, .null, .null, .null, .null, .int 0, .int 0, .null, .null, .int 0])).2.1 h 3 = .ref q_6 := ((congrFun (sN_g h (ne0 r_236 o_q_262 (by decide))).2.1 3).trans kn_247)
  have kn_276 : (sN g_261 q_262 14 (vp_V [.null, .null, .int 0, .int 0, .int 0, .int 0, .null, .null, .null, .null, .int 0, .int 0, .null, .null, .int 0])).2.1 h 4 = .int 0 := ((congrFun (sN_g h (ne0 r_236 o_q_262 (by decide))).2.1 4).trans kn_248)
  have kn_277 : (sN g_261 q_262 14 (vp_V [.null, .null, .int 0, .int 0, .int 0, .int 0, .null, .null, .null, .null, .int 0, .int 0, .null, .null, .int 0])).2.1 h 5 = .int 0 := ((congrFun (sN_g h (ne0 r_236 o_q_262 (by decide))).2.1 5).trans kn_249)
  have kn_278 : (sN g_261 q_262 14 (vp_V [.null, .null, .int 0, .int 0, .int 0, .int 0, .null, .null, .null, .null, .int 0, .int 0, .null, .null, .int 0])).2.1 h 6 = .int 0 := ((congrFun (sN_g h (ne0 r_236 o_q_262 (by decide))).2.1 6).trans kn_250)
  have kn_279 : (sN g_261 q_262 14 (vp_V [.null, .null, .int 0, .int 0, .int 0, .int 0, .null, .null, .null, .null, .int 0, .int 0, .null, .null, .int 0])).2.1 h 7 = .int 0 := ((congrFun (sN_g h (ne0 r_236 o_q_262 (by decide))).2.1 7).trans kn_251)
  have kn_280 : (sN g_261 q_262 14 (vp_V [.null, .null, .int 0, .int 0, .int 0, .int 0, .null, .null, .null, .null, .int 0, .int 0, .null, .null, .int 0])).2.1 q_16 3 = .int 0 := ((congrFun (sN_g q_16 (ne0 r_239 o_q_262 (by decide))).2.1 3).trans kn_252)
  have kn_281 : (sN g_261 q_262 14 (vp_V [.null, .null, .int 0, .int 0, .int 0, .int 0, .null, .null, .null, .null, .int 0, .int 0, .null, .null, .int 0])).2.1 q_16 4 = .int 10 := ((congrFun (sN_g q_16 (ne0 r_239 o_q_262 (by decide))).2.1 4).trans kn_253)
  have kn_282 : (sN g_261 q_262 14 (vp_V [.null, .null, .int 0, .int 0, .int 0, .int 0, .null, .null, .null, .null, .int 0, .int 0, .null, .null, .int 0])).2.1 q_86 3 = .int 0 := ((congrFun (sN_g q_86 (ne0 r_240 o_q_262 (by decide))).2.1 3).trans kn_254)
  have kn_283 : (sN g_261 q_262 14 (vp_V [.null, .null, .int 0, .int 0, .int 0, .int 0, .null, .null, .null, .null, .int 0, .int 0, .null, .null, .int 0])).2.1 q_86 4 = .int 10 := ((congrFun (sN_g q_86 (ne0 r_240 o_q_262 (by decide))).2.1 4).trans kn_255)
  have kn_284 : (sN g_261 q_262 14 (vp_V [.null, .null, .int 0, .int 0, .int 0, .int 0, .null, .null, .null, .null, .int 0, .int 0, .null, .null, .int 0])).2.1 q_168 3 = .int 0 := ((congrFun (sN_g q_168 (ne0 r_241 o_q_262 (by decide))).2.1 3).trans kn_256)
  have kn_285 : (sN g_261 q_262 14 (vp_V [.null, .null, .int 0, .int 0, .int 0, .int 0, .null, .null, .null, .null, .int 0, .int 0, .null, .null, .int 0])).2.1 q_168 4 = .int 10 := ((congrFun (sN_g q_168 (ne0 r_241 o_q_262 (by decide))).2.1 4).trans kn_257)
  have kn_286 : (sN g_261 q_262 14 (vp_V [.null, .null, .int 0, .int 0, .int 0, .int 0, .null, .null, .null, .null, .int 0, .int 0, .null, .null, .int 0])).2.1 q_262 0 = .null := sN_f
  have kn_287 : (sN g_261 q_262 14 (vp_V [.null, .null, .int 0, .int 0, .int 0, .int 0, .null, .null, .null, .null, .int 0, .int 0, .null, .null, .int 0])).2.1 q_262 1 = .null := sN_f
  have kn_288 : (sN g_261 q_262 14 (vp_V [.null, .null, .int 0, .int 0, .int 0, .int 0, .null, .null, .null, .null, .int 0, .int 0, .null, .null, .int 0])).2.1 q_262 2 = .int 0 := sN_f
  have kn_289 : (sN g_261 q_262 14 (vp_V [.null, .null, .int 0, .int 0, .int 0, .int 0, .null, .null, .null, .null, .int 0, .int 0, .null, .null, .int 0])).2.1 q_262 3 = .int 0 := sN_f
  have kn_290 : (sN g_261 q_262 14 (vp_V [.null, .null, .int 0, .int 0, .int 0, .int 0, .null, .null, .null, .null, .int 0, .int 0, .null, .null, .int 0])).2.1 q_262 4 = .int 0 := sN_f
  have kn_291 : (sN g_261 q_262 14 (vp_V [.null, .null, .int 0, .int 0, .int 0, .int 0, .null, .null, .null, .null, .int 0, .int 0, .null, .null, .int 0])).2.1 q_262 5 = .int 0 := sN_f
  have kn_292 : (sN g_261 q_262 14 (vp_V [.null, .null, .int 0, .int 0, .int 0, .int 0, .null, .null, .null, .null, .int 0, .int 0, .null, .null, .int 0])).2.1 q_262 6 = .null := sN_f
  have kn_293 : (sN g_261 q_262 14 (vp_V [.null, .null, .int 0, .int 0, .int 0, .int 0, .null, .null, .null, .null, .int 0, .int 0, .null, .null, .int 0])).2.1 q_262 7 = .null := sN_f
  have kn_294 : (sN g_261 q_262 14 (vp_V [.null, .null, .int 0, .int 0, .int 0, .int 0, .null, .null, .null, .null, .int 0, .int 0, .null, .null, .int 0])).2.1 q_262 8 = .null := sN_f
  have kn_295 : (sN g_261 q_262 14 (vp_V [.null, .null, .int 0, .int 0, .int 0, .int 0, .null, .null, .null, .null, .int 0, .int 0, .null, .null, .int 0])).2.1 q_262 9 = .null := sN_f
  have kn_296 : (sN g_261 q_262 14 (vp_V [.null, .null, .int 0, .int 0, .int 0, .int 0, .null, .null, .null, .null, .int 0, .int 0, .null, .null, .int 0])).2.1 q_262 10 = .int 0 := sN_f
  have kn_297 : (sN g_261 q_262 14 (vp_V [.null, .null, .int 0, .int 0, .int 0, .int 0, .null, .null, .null, .null, .int 0, .int 0, .null, .null, .int 0])).2.1 q_262 11 = .int 0 := sN_f
  have kn_298 : (sN g_261 q_262 14 (vp_V [.null, .null, .int 0, .int 0, .int 0, .int 0, .null, .null, .null, .null, .int 0, .int 0, .null, .null, .int 0])).2.1 q_262 12 = .null := sN_f
  have kn_299 : (sN g_261 q_262 14 (vp_V [.null, .null, .int 0, .int 0, .int 0, .int 0, .null, .null, .null, .null, .int 0, .int 0, .null, .null, .int 0])).2.1 q_262 13 = .null := sN_f
  have kn_300 : (sN g_261 q_262 14 (vp_V [.null, .null, .int 0, .int 0, .int 0, .int 0, .null, .null, .null, .null, .int 0, .int 0, .null, .null, .int 0])).2.1 q_262 14 = .int 0 := sN_f
  have kn_301 : (sN g_261 q_262 14 (vp_V [.null, .null, .int 0, .int 0, .int 0, .int 0, .null, .null, .null, .null, .int 0, .int 0, .null, .null, .int 0])).2.2.2.2 q_1 0 = some q_16 := ((congrFun (sN_g q_1 (ne0 r_237 o_q_262 (by decide))).2.2.2.2 _).trans kn_258)
  have kn_302 : (sN g_261 q_262 14 (vp_V [.null, .null, .int 0, .int 0, .int 0, .int 0, .null, .null, .null, .null, .int 0, .int 0, .null, .null, .int 0])).2.2.2.2 q_1 1 = some q_86 := ((congrFun (sN_g q_1 (ne0 r_237 o_q_262 (by decide))).2.2.2.2 _).trans kn_259)
  have kn_303 : (sN g_261 q_262 14 (vp_V [.null, .null, .int 0, .int 0, .int 0, .int 0, .null, .null, .null, .null, .int 0, .int 0, .null, .null, .int 0])).2.2.2.2 q_1 2 = some q_168 := ((congrFun (sN_g q_1 (ne0 r_237 o_q_262 (by decide))).2.2.2.2 _).trans kn_260)
  generalize (sN g_261 q_262 14 (vp_V [.null, .null, .int 0, .int 0, .int 0, .int 0, .null, .null, .null, .null, .int 0, .int 0, .null, .null, .int 0])) = g_304 at hT hI hM hE r_263 r_264 r_265 r_266 r_267 r_268 r_269 n_270 n_271 kn_272 kn_273 kn_274 kn_275 kn_276 kn_277 kn_278 kn_279 kn_280 kn_281 kn_282 kn_283 kn_284 kn_285 kn_286 kn_287 kn_288 kn_289 kn_290 kn_291 kn_292 kn_293 kn_294 kn_295 kn_296 kn_297 kn_298 kn_299 kn_300 kn_301 kn_302 kn_303
  clear kn_244 kn_245 kn_246 kn_247 kn_248 kn_249 kn_250 kn_251 kn_252 kn_253 kn_254 kn_255 kn_256 kn_257 kn_258 kn_259 kn_260 n_242 n_243 r_236 r_237 r_238 r_239 r_240 r_241
  refine W.widen (k := 39) (n := 914) (Nat.le_of_ble_eq_true rfl) (Nat.le_of_ble_eq_true rfl) ?_
  refine lv_dup hx hb dX5_init_68 rfl ?_
  refine t_callIN (n := 0) (As := []) (rest := [.ref q_262, .int 3, .ref q_1]) hB hT hl.1 (s_Service l D cI cZ cS cR N0 g_304 hI q_262 r_269) k_113 k_60 hB.2.2.2.2.2.2.2.1.2.1 k_112 rfl (by decide +kernel) ⟨(Nat.le_of_ble_eq_true rfl), (Nat.le_of_ble_eq_true rfl)⟩ rfl (Nat.le_of_ble_eq_true rfl) ⟨(Nat.le_of_ble_eq_true rfl), (Nat.le_of_ble_eq_true rfl)⟩ dX5_init_69 (fun v g_305 H locs hp hT => ?_)
  obtain ⟨rfl, hI, x_309, m_308, r_310, f_306, f_307⟩ := hp
  replace hM : Sm md_s_World g g_305 := hM.tr hE (m_308.mo (fun r k h => mdle_s_World_s_Service h))
  replace hE : Ex g g_305 := hE.trx z_q_262 x_309
  have r_311 : g_305.1 h = 16 := (Exx.r x_309 r_263 (by decide) (ro_ne r_263 r_269 (by decide)))
  have r_312 : g_305.1 q_1 = 44 := (Exx.r x_309 r_264 (by decide) (ro_ne r_264 r_269 (by decide)))
  have r_313 : g_305.1 q_6 = 50 := (Exx.r x_309 r_265 (by decide) (ro_ne r_265 r_269 (by decide)))
  have r_314 : g_305.1 q_16 = 4 := (Exx.r x_309 r_266 (by decide) (ro_ne r_266 r_269 (by decide)))
  have r_315 : g_305.1 q_86 = 4 := (Exx.r x_309 r_267 (by decide) (ro_ne r_267 r_269 (by decide)))
  have r_316 : g_305.1 q_168 = 4 := (Exx.r x_309 r_268 (by decide) (ro_ne r_268 r_269 (by decide)))
  have r_317 : g_305.1 q_262 = 4 := r_310
  have n_318 : g_305.2.2.1 q_1 = 6 := (Exx.n x_309 r_264 (by decide) (ro_ne r_264 r_269 (by decide)) n_270)
  have n_319 : g_305.2.2.1 q_6 = 512 := (Exx.n x_309 r_265 (by decide) (ro_ne r_265 r_269 (by decide)) n_271)
  have kn_320 : g_305.2.1 h 0 = .ref q_1 := (Sm.v m_308 r_263 (by decide) rfl kn_272)
  have kn_321 : g_305.2.1 h 1 = .int 0 := (Sm.v m_308 r_263 (by decide) rfl kn_273)
  have kn_322 : g_305.2.1 h 2 = .int 0 := (Sm.v m_308 r_263 (by decide) rfl kn_274)
  have kn_323 : g_305.2.1 h 3 = .ref q_6 := (Sm.v m_308 r_263 (by decide) rfl kn_275)
  have kn_324 : g_305.2.1 h 4 = .int 0 := (Sm.v m_308 r_263 (by decide) rfl kn_276)
  have kn_325 : g_305.2.1 h 5 = .int 0 := (Sm.v m_308 r_263 (by decide) rfl kn_277)
  have kn_326 : g_305.2.1 h 6 = .int 0 := (Sm.v m_308 r_263 (by decide) rfl kn_278)
  have kn_327 : g_305.2.1 h 7 = .int 0 := (Sm.v m_308 r_263 (by decide) rfl kn_279)
  have kn_328 : g_305.2.1 q_16 3 = .int 0 := (Sm.v m_308 r_266 (by decide) rfl kn_280)
  have kn_329 : g_305.2.1 q_16 4 = .int 10 := (Sm.v m_308 r_266 (by decide) rfl kn_281)
  have kn_330 : g_305.2.1 q_86 3 = .int 0 := (Sm.v m_308 r_267 (by decide) rfl kn_282)
  have kn_331 : g_305.2.1 q_86 4 = .int 10 := (Sm.v m_308 r_267 (by decide) rfl kn_283)
  have kn_332 : g_305.2.1 q_168 3 = .int 0 := (Sm.v m_308 r_268 (by decide) rfl kn_284)
  have kn_333 : g_305.2.1 q_168 4 = .int 10 := (Sm.v m_308 r_268 (by decide) rfl kn_285)
  have kn_334 : g_305.2.2.2.2 q_1 0 = some q_16 := ((congrFun (m_308.2 q_1 (by rw [r_264]; decide) (by rw [r_264]; rfl)).2 _).trans kn_301)
  have kn_335 : g_305.2.2.2.2 q_1 1 = some q_86 := ((congrFun (m_308.2 q_1 (by rw [r_264]; decide) (by rw [r_264]; rfl)).2 _).trans kn_302)
  have kn_336 : g_305.2.2.2.2 q_1 2 = some q_168 := ((congrFun (m_308.2 q_1 (by rw [r_264]; decide) (by rw [r_264]; rfl)).2 _).trans kn_303)
  refine W.eq (g2 := F0 m 72 ls [.ref q_262, .int 3, .ref q_1]) rfl ?_
  have i_337 : vp_in (3 : Int32) 6 := (by unfold vp_in; decide)
  refine t_astq hB hT r_312 n_318 (ro_ci r_317 rfl) i_337 dX5_init_72 (fun H locs hT => ?_)
  replace hI : Inv (sQ g_305 q_1 (3 : Int32).toNatClampNeg (some q_262)) := hI.sQ (by rw [r_312]; exact trivial)
  replace hM : Sm md_s_World g (sQ g_305 q_1 (3 : Int32).toNatClampNeg (some q_262)) := hM.tr hE (Sm_sQ (by rw [r_312]; rfl))
  replace hE : Ex g (sQ g_305 q_1 (3 : Int32).toNatClampNeg (some q_262)) := hE
  have r_338 : (sQ g_305 q_1 (3 : Int32).toNatClampNeg (some q_262)).1 h = 16 := r_311
  have r_339 : (sQ g_305 q_1 (3 : Int32).toNatClampNeg (some q_262)).1 q_1 = 44 := r_312
  have r_340 : (sQ g_305 q_1 (3 : Int32).toNatClampNeg (some q_262)).1 q_6 = 50 := r_313
  have r_341 : (sQ g_305 q_1 (3 : Int32).toNatClampNeg (some q_262)).1 q_16 = 4 := r_314
  have r_342 : (sQ g_305 q_1 (3 : Int32).toNatClampNeg (some q_262)).1 q_86 = 4 := r_315
  have r_343 : (sQ g_305 q_1 (3 : Int32).toNatClampNeg (some q_262)).1 q_168 = 4 := r_316
  have r_344 : (sQ g_305 q_1 (3 : Int32).toNatClampNeg (some q_262)).1 q_262 = 4 := r_317
  have n_345 : (sQ g_305 q_1 (3 : Int32).toNatClampNeg (some q_262)).2.2.1 q_1 = 6 := n_318
  have n_346 : (sQ g_305 q_1 (3 : Int32).toNatClampNeg (some q_262)).2.2.1 q_6 = 512 := n_319
  have kn_347 : (sQ g_305 q_1 (3 : Int32).toNatClampNeg (some q_262)).2.1 h 0 = .ref q_1 := kn_320
  have kn_348 : (sQ g_305 q_1 (3 : Int32).toNatClampNeg (some q_262)).2.1 h 1 = .int 0 := kn_321
  have kn_349 : (sQ g_305 q_1 (3 : Int32).toNatClampNeg (some q_262)).2.1 h 2 = .int 0 := kn_322
  have kn_350 : (sQ g_305 q_1 (3 : Int32).toNatClampNeg (some q_262)).2.1 h 3 = .ref q_6 := kn_323
  have kn_351 : (sQ g_305 q_1 (3 : Int32).toNatClampNeg (some q_262)).2.1 h 4 = .int 0 := kn_324
  have kn_352 : (sQ g_305 q_1 (3 : Int32).toNatClampNeg (some q_262)).2.1 h 5 = .int 0 := kn_325
  have kn_353 : (sQ g_305 q_1 (3 : Int32).toNatClampNeg (some q_262)).2.1 h 6 = .int 0 := kn_326
  have kn_354 : (sQ g_305 q_1 (3 : Int32).toNatClampNeg (some q_262)).2.1 h 7 = .int 0 := kn_327
  have kn_355 : (sQ g_305 q_1 (3 : Int32).toNatClampNeg (some q_262)).2.1 q_16 3 = .int 0 := kn_328
  have kn_356 : (sQ g_305 q_1 (3 : Int32).toNatClampNeg (some q_262)).2.1 q_16 4 = .int 10 := kn_329
  have kn_357 : (sQ g_305 q_1 (3 : Int32).toNatClampNeg (some q_262)).2.1 q_86 3 = .int 0 := kn_330
  have kn_358 : (sQ g_305 q_1 (3 : Int32).toNatClampNeg (some q_262)).2.1 q_86 4 = .int 10 := kn_331
  have kn_359 : (sQ g_305 q_1 (3 : Int32).toNatClampNeg (some q_262)).2.1 q_168 3 = .int 0 := kn_332
  have kn_360 : (sQ g_305 q_1 (3 : Int32).toNatClampNeg (some q_262)).2.1 q_168 4 = .int 10 := kn_333
  have kn_361 : (sQ g_305 q_1 (3 : Int32).toNatClampNeg (some q_262)).2.1 q_262 3 = .int 0 := f_306
  have kn_362 : (sQ g_305 q_1 (3 : Int32).toNatClampNeg (some q_262)).2.1 q_262 4 = .int 10 := f_307
  have kn_363 : (sQ g_305 q_1 (3 : Int32).toNatClampNeg (some q_262)).2.2.2.2 q_1 0 = some q_16 := (sQ_i kn_334 (by decide))
  have kn_364 : (sQ g_305 q_1 (3 : Int32).toNatClampNeg (some q_262)).2.2.2.2 q_1 1 = some q_86 := (sQ_i kn_335 (by decide))
  have kn_365 : (sQ g_305 q_1 (3 : Int32).toNatClampNeg (some q_262)).2.2.2.2 q_1 2 = some q_168 := (sQ_i kn_336 (by decide))
  have kn_366 : (sQ g_305 q_1 (3 : Int32).toNatClampNeg (some q_262)).2.2.2.2 q_1 3 = some q_262 := sQ_eq
  generalize (sQ g_305 q_1 (3 : Int32).toNatClampNeg (some q_262)) = g_367 at hT hI hM hE r_338 r_339 r_340 r_341 r_342 r_343 r_344 n_345 n_346 kn_347 kn_348 kn_349 kn_350 kn_351 kn_352 kn_353 kn_354 kn_355 kn_356 kn_357 kn_358 kn_359 kn_360 kn_361 kn_362 kn_363 kn_364 kn_365 kn_366
  clear kn_320 kn_321 kn_322 kn_323 kn_324 kn_325 kn_326 kn_327 kn_328 kn_329 kn_330 kn_331 kn_332 kn_333 kn_334 kn_335 kn_336 n_318 n_319 r_311 r_312 r_313 r_314 r_315 r_316 r_317
  refine lv_iinc (v := 4) (lv' := [(1, .int 4), (0, .ref h)]) hx hb dX5_init_73 hl (k := 0) rfl (by decide) (by decide) rfl (fun ls hl => ?_)
  refine lv_goto (tgt := 54) hx hb dX5_init_76 (by decide) ?_
  refine lv_iload_n hx hb dX5_init_54 rfl (lv_at hl 0 rfl) ?_
  refine lv_bipush (v := 6) hx hb dX5_init_55 (by decide) ?_
  refine lv_icmp_ge (tgt := 79) hx hb dX5_init_57 (by decide) (fun c_ => absurd c_ (by decide)) (fun c_ => ?_)
  refine lv_aload_n hx hb dX5_init_60 rfl (lv_at hl 1 rfl) ?_
  refine t_get (ci := 5) (v := .ref q_1) hB hT (ro_ci r_338 rfl) rfl 0 (by decide) k_199 kn_347 dX5_init_61 ?_
  refine lv_iload_n hx hb dX5_init_64 rfl (lv_at hl 0 rfl) ?_
  refine t_new (ci := 3) (fs := [.null, .null, .int 0, .int 0, .int 0, .int 0, .null, .null, .null, .null, .int 0, .int 0, .null, .null, .int 0]) hB hT rfl (by decide) k_108 k_110 k_60 (fnew_3) (Nat.le_of_ble_eq_true rfl) (Nat.le_of_ble_eq_true rfl) dX5_init_65 (fun q_368 H o_q_368 hT => ?_)
  have z_q_368 : g.1 q_368 = 0 := hE.z0 o_q_368
  replace hI : Inv (sN g_367 q_368 14 (vp_V [.null, .null, .int 0, .int 0, .int 0, .int 0, .null, .null, .null, .null, .int 0, .int 0, .null, .null, .int 0])) := hI.newo o_q_368 (fun _ => rfl) (fun _ => trivial) (fun _ _ => trivial)
  replace hM : Sm md_s_World g (sN g_367 q_368 14 (vp_V [.null, .null, .int 0, .int 0, .int 0, .int 0, .null, .null, .null, .null, .int 0, .int 0, .null, .null, .int 0])) := hM.tr hE (Sm.push o_q_368 sN_g)
  replace hE : Ex g (sN g_367 q_368 14 (vp_V [.null, .null, .int 0, .int 0, .int 0, .int 0, .null, .null, .null, .null, .int 0, .int 0, .null, .null, .int 0])) := hE.tr (Ex.push o_q_368 sN_g)
  have r_369 : (sN g_367 q_368 14 (vp_V [.null, .null, .int 0, .int 0, .int 0, .int 0, .null, .null, .null, .null, .int 0, .int 0, .null, .null, .int 0])).1 h = 16 := ((sN_g h (ne0 r_338 o_q_368 (by decide))).1.trans r_338)
  have r_370 : (sN g_367 q_368 14 (vp_V [.null, .null, .int 0, .int 0, .int 0, .int 0, .null, .null, .null, .null, .int 0, .int 0, .null, .null, .int 0])).1 q_1 = 44 := ((sN_g q_1 (ne0 r_339 o_q_368 (by decide))).1.trans r_339)
  have r_371 : (sN g_367 q_368 14 (vp_V [.null, .null, .int 0, .int 0, .int 0, .int 0, .null, .null, .null, .null, .int 0, .int 0, .null, .null, .int 0])).1 q_6 = 50 := ((sN_g q_6 (ne0 r_340 o_q_368 (by decide))).1.trans r_340)
  have r_372 : (sN g_367 q_368 14 (vp_V [.null, .null, .int 0, .int 0, .int 0, .int 0, .null, .null, .null, .null, .int 0, .int 0, .null, .null, .int 0])).1 q_16 = 4 := ((sN_g q_16 (ne0 r_341 o_q_368 (by decide))).1.trans r_341)
  have r_373 : (sN g_367 q_368 14 (vp_V [.null, .null, .int 0, .int 0, .int 0, .int 0, .null, .null, .null, .null, .int 0, .int 0, .null, .null, .int 0])).1 q_86 = 4 := ((sN_g q_86 (ne0 r_342 o_q_368 (by decide))).1.trans r_342)
  have r_374 : (sN g_367 q_368 14 (vp_V [.null, .null, .int 0, .int 0, .int 0, .int 0, .null, .null, .null, .null, .int 0, .int 0, .null, .null, .int 0])).1 q_168 = 4 := ((sN_g q_168 (ne0 r_343 o_q_368 (by decide))).1.trans r_343)
  have r_375 : (sN g_367 q_368 14 (vp_V [.null, .null, .int 0, .int 0, .int 0, .int 0, .null, .null, .null, .null, .int 0, .int 0, .null, .null, .int 0])).1 q_262 = 4 := ((sN_g q_262 (ne0 r_344 o_q_368 (by decide))).1.trans r_344)
  have r_376 : (sN g_367 q_368 14 (vp_V [.null, .null, .int 0, .int 0, .int 0, .int 0, .null, .null, .null, .null, .int 0, .int 0, .null, .null, .int 0])).1 q_368 = 14 := sN_r
  have n_377 : (sN g_367 q_368 14 (vp_V [.null, .null, .int 0, .int 0, .int 0, .int 0, .null, .null, .null, .null, .int 0, .int 0, .null, .null, .int 0])).2.2.1 q_1 = 6 := ((sN_g q_1 (ne0 r_339 o_q_368 (by decide))).2.2.1.trans n_345)
  have n_378 : (sN g_367 q_368 14 (vp_V [.null, .null, .int 0, .int 0, .int 0, .int 0, .null, .null, .null, .null, .int 0, .int 0, .null, .null, .int 0])).2.2.1 q_6 = 512 := ((sN_g q_6 (ne0 r_340 o_q_368 (by decide))).2.2.1.trans n_346)
  have kn_379 : (sN g_367 q_368 14 (vp_V [.null, .null, .int 0, .int 0, .int 0, .int 0, .null, .null, .null, .null, .int 0, .int 0, .null, .null, .int 0])).2.1 h 0 = .ref q_1 := ((congrFun (sN_g h (ne0 r_338 o_q_368 (by decide))).2.1 0).trans kn_347)
  have kn_380 : (sN g_367 q_368 14 (vp_V [.null, .null, .int 0, .int 0, .int 0, .int 0, .null, .null, .null, .null, .int 0, .int 0, .null, .null, .int 0])).2.1 h 1 = .int 0 := ((congrFun (sN_g h (ne0 r_338 o_q_368 (by decide))).2.1 1).trans kn_348)
  have kn_381 : (sN g_367 q_368 14 (vp_V [.null, .null, .int 0, .int 0, .int 0, .int 0, .null, .null, .null, .null, .int 0, .int 0, .null, .null, .int 0])).2.1 h 2 = .int 0 := ((congrFun (sN_g h (ne0 r_338 o_q_368 (by decide))).2.1 2).trans kn_349)
  have kn_382 : (sN g_367 q_368 14 (vp_V [.null, .null, .int 0, .int 0, .int 0, .int 0, .null, .null, .null, .null, .int 0, .int 0, .null, .null, .int 0])).2.1 h 3 = .ref q_6 := ((congrFun (sN_g h (ne0 r_338 o_q_368 (by decide))).2.1 3).trans kn_350)
  have kn_383 : (sN g_367 q_368 14 (vp_V [.null, .null, .int 0, .int 0, .int 0, .int 0, .null, .null, .null, .null, .int 0, .int 0, .null, .null, .int 0])).2.1 h 4 = .int 0 := ((congrFun (sN_g h (ne0 r_338 o_q_368 (by decide))).2.1 4).trans kn_351)
  have kn_384 : (sN g_367 q_368 14 (vp_V [.null, .null, .int 0, .int 0, .int 0, .int 0, .null, .null, .null, .null, .int 0, .int 0, .null, .null, .int 0])).2.1 h 5 = .int 0 := ((congrFun (sN_g h (ne0 r_338 o_q_368 (by decide))).2.1 5).trans kn_352)
  have kn_385 : (sN g_367 q_368 14 (vp_V [.null, .null, .int 0, .int 0, .int 0, .int 0, .null, .null, .null, .null, .int 0, .int 0, .null, .null, .int 0])).2.1 h 6 = .int 0 := ((congrFun (sN_g h (ne0 r_338 o_q_368 (by decide))).2.1 6).trans kn_353)
  have kn_386 : (sN g_367 q_368 14 (vp_V [.null, .null, .int 0, .int 0, .int 0, .int 0, .null, .null, .null, .null, .int 0, .int 0, .null, .null, .int 0])).2.1 h 7 = .int 0 := ((congrFun (sN_g h (ne0 r_338 o_q_368 (by decide))).2.1 7).trans kn_354)
  have kn_387 : (sN g_367 q_368 14 (vp_V [.null, .null, .int 0, .int 0, .int 0, .int 0, .null, .null, .null, .null, .int 0, .int 0, .null, .null, .int 0])).2.1 q_16 3 = .int 0 := ((congrFun (sN_g q_16 (ne0 r_341 o_q_368 (by decide))).2.1 3).trans kn_355)
  have kn_388 : (sN g_367 q_368 14 (vp_V [.null, .null, .int 0, .int 0, .int 0, .int 0, .null, .null, .null, .null, .int 0, .int 0, .null, .null, .int 0])).2.1 q_16 4 = .int 10 := ((congrFun (sN_g q_16 (ne0 r_341 o_q_368 (by decide))).2.1 4).trans kn_356)
  have kn_389 : (sN g_367 q_368 14 (vp_V [.null, .null, .int 0, .int 0, .int 0, .int 0, .null, .null, .null, .null, .int 0, .int 0, .null, .null, .int 0])).2.1 q_86 3 = .int 0 := ((congrFun (sN_g q_86 (ne0 r_342 o_q_368 (by decide))).2.1 3).trans kn_357)
  have kn_390 : (sN g_367 q_368 14 (vp_V [.null, .null, .int 0, .int 0, .int 0, .int 0, .null, .null, .null, .null, .int 0, .int 0, .null, .null, .int 0])).2.1 q_86 4 = .int 10 := ((congrFun (sN_g q_86 (ne0 r_342 o_q_368 (by decide))).2.1 4).trans kn_358)
  have kn_391 : (sN g_367 q_368 14 (vp_V [.null, .null, .int 0, .int 0, .int 0, .int 0, .null, .null, .null, .null, .int 0, .int 0, .null, .null, .int 0])).2.1 q_168 3 = .int 0 := ((congrFun (sN_g q_168 (ne0 r_343 o_q_368 (by decide))).2.1 3).trans kn_359)
  have kn_392 : (sN g_367 q_368 14 (vp_V [.null, .null, .int 0, .int 0, .int 0, .int 0, .null, .null, .null, .null, .int 0, .int 0, .null, .null, .int 0])).2.1 q_168 4 = .int 10 := ((congrFun (sN_g q_168 (ne0 r_343 o_q_368 (by decide))).2.1 4).trans kn_360)
  have kn_393 : (sN g_367 q_368 14 (vp_V [.null, .null, .int 0, .int 0, .int 0, .int 0, .null, .null, .null, .null, .int 0, .int 0, .null, .null, .int 0])).2.1 q_262 3 = .int 0 := ((congrFun (sN_g q_262 (ne0 r_344 o_q_368 (by decide))).2.1 3).trans kn_361)
  have kn_394 : (sN g_367 q_368 14 (vp_V [.null, .null, .int 0, .int 0, .int 0, .int 0, .null, .null, .null, .null, .int 0, .int 0, .null, .null, .int 0])).2.1 q_262 4 = .int 10 := ((congrFun (sN_g q_262 (ne0 r_344 o_q_368 (by decide))).2.1 4).trans kn_362)
  have kn_395 : (sN g_367 q_368 14 (vp_V [.null, .null, .int 0, .int 0, .int 0, .int 0, .null, .null, .null, .null, .int 0, .int 0, .null, .null, .int 0])).2.1 q_368 0 = .null := sN_f
  have kn_396 : (sN g_367 q_368 14 (vp_V [.null, .null, .int 0, .int 0, .int 0, .int 0, .null, .null, .null, .null, .int 0, .int 0, .null, .null, .int 0])).2.1 q_368 1 = .null := sN_f
  have kn_397 : (sN g_367 q_368 14 (vp_V [.null, .null, .int 0, .int 0, .int 0, .int 0, .null, .null, .null, .null, .int 0, .int 0, .null, .null, .int 0])).2.1 q_368 2 = .int 0 := sN_f
  have kn_398 : (sN g_367 q_368 14 (vp_V [.null, .null, .int 0, .int 0, .int 0, .int 0, .null, .null, .null, .null, .int 0, .int 0, .null, .null, .int 0])).2.1 q_368 3 = .int 0 := sN_f
  have kn_399 : (sN g_367 q_368 14 (vp_V [.null, .null, .int 0, .int 0, .int 0, .int 0, .null, .null, .null, .null, .int 0, .int 0, .null, .null, .int 0])).2.1 q_368 4 = .int 0 := sN_f
  have kn_400 : (sN g_367 q_368 14 (vp_V [.null, .null, .int 0, .int 0, .int 0, .int 0, .null, .null, .null, .null, .int 0, .int 0, .null, .null, .int 0])).2.1 q_368 5 = .int 0 := sN_f
  have kn_401 : (sN g_367 q_368 14 (vp_V [.null, .null, .int 0, .int 0, .int 0, .int 0, .null, .null, .null, .null, .int 0, .int 0, .null, .null, .int 0])).2.1 q_368 6 = .null := sN_f
  have kn_402 : (sN g_367 q_368 14 (vp_V [.null, .null, .int 0, .int 0, .int 0, .int 0, .null, .null, .null, .null, .int 0, .int 0, .null, .null, .int 0])).2.1 q_368 7 = .null := sN_f
  have kn_403 : (sN g_367 q_368 14 (vp_V [.null, .null, .int 0, .int 0, .int 0, .int 0, .null, .null, .null, .null, .int 0, .int 0, .null, .null, .int 0])).2.1 q_368 8 = .null := sN_f
  have kn_404 : (sN g_367 q_368 14 (vp_V [.null, .null, .int 0, .int 0, .int 0, .int 0, .null, .null, .null, .null, .int 0, .int 0, .null, .null, .int 0])).2.1 q_368 9 = .null := sN_f
  have kn_405 : (sN g_367 q_368 14 (vp_V [.null, .null, .int 0, .int 0, .int 0, .int 0, .null, .null, .null, .null, .int 0, .int 0, .null, .null, .int 0])).2.1 q_368 10 = .int 0 := sN_f
  have kn_406 : (sN g_367 q_368 14 (vp_V [.null, .null, .int 0, .int 0, .int 0, .int 0, .null, .null, .null, .null, .int 0, .int 0, .null, .null, .int 0])).2.1 q_368 11 = .int 0 := sN_f
  have kn_407 : (sN g_367 q_368 14 (vp_V [.null, .null, .int 0, .int 0, .int 0, .int 0, .null, .null, .null, .null, .int 0, .int 0, .null, .null, .int 0])).2.1 q_368 12 = .null := sN_f
  have kn_408 : (sN g_367 q_368 14 (vp_V [.null, .null, .int 0, .int 0, .int 0, .int 0, .null, .null, .null, .null, .int 0, .int 0, .null, .null, .int 0])).2.1 q_368 13 = .null := sN_f
  have kn_409 : (sN g_367 q_368 14 (vp_V [.null, .null, .int 0, .int 0, .int 0, .int 0, .null, .null, .null, .null, .int 0, .int 0, .null, .null, .int 0])).2.1 q_368 14 = .int 0 := sN_f
  have kn_410 : (sN g_367 q_368 14 (vp_V [.null, .null, .int 0, .int 0, .int 0, .int 0, .null, .null, .null, .null, .int 0, .int 0, .null, .null, .int 0])).2.2.2.2 q_1 0 = some q_16 := ((congrFun (sN_g q_1 (ne0 r_339 o_q_368 (by decide))).2.2.2.2 _).trans kn_363)
  have kn_411 : (sN g_367 q_368 14 (vp_V [.null, .null, .int 0, .int 0, .int 0, .int 0, .null, .null, .null, .null, .int 0, .int 0, .null, .null, .int 0])).2.2.2.2 q_1 1 = some q_86 := ((congrFun (sN_g q_1 (ne0 r_339 o_q_368 (by decide))).2.2.2.2 _).trans kn_364)
  have kn_412 : (sN g_367 q_368 14 (vp_V [.null, .null, .int 0, .int 0, .int 0, .int 0, .null, .null, .null, .null, .int 0, .int 0, .null, .null, .int 0])).2.2.2.2 q_1 2 = some q_168 := ((congrFun (sN_g q_1 (ne0 r_339 o_q_368 (by decide))).2.2.2.2 _).trans kn_365)
  have kn_413 : (sN g_367 q_368 14 (vp_V [.null, .null, .int 0, .int 0, .int 0, .int 0, .null, .null, .null, .null, .int 0, .int 0, .null, .null, .int 0])).2.2.2.2 q_1 3 = some q_262 := ((congrFun (sN_g q_1 (ne0 r_339 o_q_368 (by decide))).2.2.2.2 _).trans kn_366)
  generalize (sN g_367 q_368 14 (vp_V [.null, .null, .int 0, .int 0, .int 0, .int 0, .null, .null, .null, .null, .int 0, .int 0, .null, .null, .int 0])) = g_414 at hT hI hM hE r_369 r_370 r_371 r_372 r_373 r_374 r_375 r_376 n_377 n_378 kn_379 kn_380 kn_381 kn_382 kn_383 kn_384 kn_385 kn_386 kn_387 kn_388 kn_389 kn_390 kn_391 kn_392 kn_393 kn_394 kn_395 kn_396 kn_397 kn_398 kn_399 kn_400 kn_401 kn_402 kn_403 kn_404 kn_405 kn_406 kn_407 kn_408 kn_409 kn_410 kn_411 kn_412 kn_413
  clear kn_347 kn_348 kn_349 kn_350 kn_351 kn_352 kn_353 kn_354 kn_355 kn_356 kn_357 kn_358 kn_359 kn_360 kn_361 kn_362 kn_363 kn_364 kn_365 kn_366 n_345 n_346 r_338 r_339 r_340 r_341 r_342 r_343 r_344
  refine W.widen (k := 51) (n := 1041) (Nat.le_of_ble_eq_true rfl) (Nat.le_of_ble_eq_true rfl) ?_
  refine lv_dup hx hb dX5_init_68 rfl ?_
  refine t_callIN (n := 0) (As := []) (rest := [.ref q_368, .int 4, .ref q_1]) hB hT hl.1 (s_Service l D cI cZ cS cR N0 g_414 hI q_368 r_376) k_113 k_60 hB.2.2.2.2.2.2.2.1.2.1 k_112 rfl (by decide +kernel) ⟨(Nat.le_of_ble_eq_true rfl), (Nat.le_of_ble_eq_true rfl)⟩ rfl (Nat.le_of_ble_eq_true rfl) ⟨(Nat.le_of_ble_eq_true rfl), (Nat.le_of_ble_eq_true rfl)⟩ dX5_init_69 (fun v g_415 H locs hp hT => ?_)
  obtain ⟨rfl, hI, x_419, m_418, r_420, f_416, f_417⟩ := hp
  replace hM : Sm md_s_World g g_415 := hM.tr hE (m_418.mo (fun r k h => mdle_s_World_s_Service h))
  replace hE : Ex g g_415 := hE.trx z_q_368 x_419
  have r_421 : g_415.1 h = 16 := (Exx.r x_419 r_369 (by decide) (ro_ne r_369 r_376 (by decide)))
  have r_422 : g_415.1 q_1 = 44 := (Exx.r x_419 r_370 (by decide) (ro_ne r_370 r_376 (by decide)))
  have r_423 : g_415.1 q_6 = 50 := (Exx.r x_419 r_371 (by decide) (ro_ne r_371 r_376 (by decide)))
  have r_424 : g_415.1 q_16 = 4 := (Exx.r x_419 r_372 (by decide) (ro_ne r_372 r_376 (by decide)))
  have r_425 : g_415.1 q_86 = 4 := (Exx.r x_419 r_373 (by decide) (ro_ne r_373 r_376 (by decide)))
  have r_426 : g_415.1 q_168 = 4 := (Exx.r x_419 r_374 (by decide) (ro_ne r_374 r_376 (by decide)))
  have r_427 : g_415.1 q_262 = 4 := (Exx.r x_419 r_375 (by decide) (ro_ne r_375 r_376 (by decide)))
  have r_428 : g_415.1 q_368 = 4 := r_420
  have n_429 : g_415.2.2.1 q_1 = 6 := (Exx.n x_419 r_370 (by decide) (ro_ne r_370 r_376 (by decide)) n_377)
  have n_430 : g_415.2.2.1 q_6 = 512 := (Exx.n x_419 r_371 (by decide) (ro_ne r_371 r_376 (by decide)) n_378)
  have kn_431 : g_415.2.1 h 0 = .ref q_1 := (Sm.v m_418 r_369 (by decide) rfl kn_379)
  have kn_432 : g_415.2.1 h 1 = .int 0 := (Sm.v m_418 r_369 (by decide) rfl kn_380)
  have kn_433 : g_415.2.1 h 2 = .int 0 := (Sm.v m_418 r_369 (by decide) rfl kn_381)
  have kn_434 : g_415.2.1 h 3 = .ref q_6 := (Sm.v m_418 r_369 (by decide) rfl kn_382)
  have kn_435 : g_415.2.1 h 4 = .int 0 := (Sm.v m_418 r_369 (by decide) rfl kn_383)
  have kn_436 : g_415.2.1 h 5 = .int 0 := (Sm.v m_418 r_369 (by decide) rfl kn_384)
  have kn_437 : g_415.2.1 h 6 = .int 0 := (Sm.v m_418 r_369 (by decide) rfl kn_385)
  have kn_438 : g_415.2.1 h 7 = .int 0 := (Sm.v m_418 r_369 (by decide) rfl kn_386)
  have kn_439 : g_415.2.1 q_16 3 = .int 0 := (Sm.v m_418 r_372 (by decide) rfl kn_387)
  have kn_440 : g_415.2.1 q_16 4 = .int 10 := (Sm.v m_418 r_372 (by decide) rfl kn_388)
  have kn_441 : g_415.2.1 q_86 3 = .int 0 := (Sm.v m_418 r_373 (by decide) rfl kn_389)
  have kn_442 : g_415.2.1 q_86 4 = .int 10 := (Sm.v m_418 r_373 (by decide) rfl kn_390)
  have kn_443 : g_415.2.1 q_168 3 = .int 0 := (Sm.v m_418 r_374 (by decide) rfl kn_391)
  have kn_444 : g_415.2.1 q_168 4 = .int 10 := (Sm.v m_418 r_374 (by decide) rfl kn_392)
  have kn_445 : g_415.2.1 q_262 3 = .int 0 := (Sm.v m_418 r_375 (by decide) rfl kn_393)
  have kn_446 : g_415.2.1 q_262 4 = .int 10 := (Sm.v m_418 r_375 (by decide) rfl kn_394)
  have kn_447 : g_415.2.2.2.2 q_1 0 = some q_16 := ((congrFun (m_418.2 q_1 (by rw [r_370]; decide) (by rw [r_370]; rfl)).2 _).trans kn_410)
  have kn_448 : g_415.2.2.2.2 q_1 1 = some q_86 := ((congrFun (m_418.2 q_1 (by rw [r_370]; decide) (by rw [r_370]; rfl)).2 _).trans kn_411)
  have kn_449 : g_415.2.2.2.2 q_1 2 = some q_168 := ((congrFun (m_418.2 q_1 (by rw [r_370]; decide) (by rw [r_370]; rfl)).2 _).trans kn_412)
  have kn_450 : g_415.2.2.2.2 q_1 3 = some q_262 := ((congrFun (m_418.2 q_1 (by rw [r_370]; decide) (by rw [r_370]; rfl)).2 _).trans kn_413)
  refine W.eq (g2 := F0 m 72 ls [.ref q_368, .int 4, .ref q_1]) rfl ?_
  have i_451 : vp_in (4 : Int32) 6 := (by unfold vp_in; decide)
  refine t_astq hB hT r_422 n_429 (ro_ci r_428 rfl) i_451 dX5_init_72 (fun H locs hT => ?_)
  replace hI : Inv (sQ g_415 q_1 (4 : Int32).toNatClampNeg (some q_368)) := hI.sQ (by rw [r_422]; exact trivial)
  replace hM : Sm md_s_World g (sQ g_415 q_1 (4 : Int32).toNatClampNeg (some q_368)) := hM.tr hE (Sm_sQ (by rw [r_422]; rfl))
  replace hE : Ex g (sQ g_415 q_1 (4 : Int32).toNatClampNeg (some q_368)) := hE
  have r_452 : (sQ g_415 q_1 (4 : Int32).toNatClampNeg (some q_368)).1 h = 16 := r_421
  have r_453 : (sQ g_415 q_1 (4 : Int32).toNatClampNeg (some q_368)).1 q_1 = 44 := r_422
  have r_454 : (sQ g_415 q_1 (4 : Int32).toNatClampNeg (some q_368)).1 q_6 = 50 := r_423
  have r_455 : (sQ g_415 q_1 (4 : Int32).toNatClampNeg (some q_368)).1 q_16 = 4 := r_424
  have r_456 : (sQ g_415 q_1 (4 : Int32).toNatClampNeg (some q_368)).1 q_86 = 4 := r_425
  have r_457 : (sQ g_415 q_1 (4 : Int32).toNatClampNeg (some q_368)).1 q_168 = 4 := r_426
  have r_458 : (sQ g_415 q_1 (4 : Int32).toNatClampNeg (some q_368)).1 q_262 = 4 := r_427
  have r_459 : (sQ g_415 q_1 (4 : Int32).toNatClampNeg (some q_368)).1 q_368 = 4 := r_428
  have n_460 : (sQ g_415 q_1 (4 : Int32).toNatClampNeg (some q_368)).2.2.1 q_1 = 6 := n_429
  have n_461 : (sQ g_415 q_1 (4 : Int32).toNatClampNeg (some q_368)).2.2.1 q_6 = 512 := n_430
  have kn_462 : (sQ g_415 q_1 (4 : Int32).toNatClampNeg (some q_368)).2.1 h 0 = .ref q_1 := kn_431
  have kn_463 : (sQ g_415 q_1 (4 : Int32).toNatClampNeg (some q_368)).2.1 h 1 = .int 0 := kn_432
  have kn_464 : (sQ g_415 q_1 (4 : Int32).toNatClampNeg (some q_368)).2.1 h 2 = .int 0 := kn_433
  have kn_465 : (sQ g_415 q_1 (4 : Int32).toNatClampNeg (some q_368)).2.1 h 3 = .ref q_6 := kn_434
  have kn_466 : (sQ g_415 q_1 (4 : Int32).toNatClampNeg (some q_368)).2.1 h 4 = .int 0 := kn_435
  have kn_467 : (sQ g_415 q_1 (4 : Int32).toNatClampNeg (some q_368)).2.1 h 5 = .int 0 := kn_436
  have kn_468 : (sQ g_415 q_1 (4 : Int32).toNatClampNeg (some q_368)).2.1 h 6 = .int 0 := kn_437
  have kn_469 : (sQ g_415 q_1 (4 : Int32).toNatClampNeg (some q_368)).2.1 h 7 = .int 0 := kn_438
  have kn_470 : (sQ g_415 q_1 (4 : Int32).toNatClampNeg (some q_368)).2.1 q_16 3 = .int 0 := kn_439
  have kn_471 : (sQ g_415 q_1 (4 : Int32).toNatClampNeg (some q_368)).2.1 q_16 4 = .int 10 := kn_440
  have kn_472 : (sQ g_415 q_1 (4 : Int32).toNatClampNeg (some q_368)).2.1 q_86 3 = .int 0 := kn_441
  have kn_473 : (sQ g_415 q_1 (4 : Int32).toNatClampNeg (some q_368)).2.1 q_86 4 = .int 10 := kn_442
  have kn_474 : (sQ g_415 q_1 (4 : Int32).toNatClampNeg (some q_368)).2.1 q_168 3 = .int 0 := kn_443
  have kn_475 : (sQ g_415 q_1 (4 : Int32).toNatClampNeg (some q_368)).2.1 q_168 4 = .int 10 := kn_444
  have kn_476 : (sQ g_415 q_1 (4 : Int32).toNatClampNeg (some q_368)).2.1 q_262 3 = .int 0 := kn_445
  have kn_477 : (sQ g_415 q_1 (4 : Int32).toNatClampNeg (some q_368)).2.1 q_262 4 = .int 10 := kn_446
  have kn_478 : (sQ g_415 q_1 (4 : Int32).toNatClampNeg (some q_368)).2.1 q_368 3 = .int 0 := f_416
  have kn_479 : (sQ g_415 q_1 (4 : Int32).toNatClampNeg (some q_368)).2.1 q_368 4 = .int 10 := f_417
  have kn_480 : (sQ g_415 q_1 (4 : Int32).toNatClampNeg (some q_368)).2.2.2.2 q_1 0 = some q_16 := (sQ_i kn_447 (by decide))
  have kn_481 : (sQ g_415 q_1 (4 : Int32).toNatClampNeg (some q_368)).2.2.2.2 q_1 1 = some q_86 := (sQ_i kn_448 (by decide))
  have kn_482 : (sQ g_415 q_1 (4 : Int32).toNatClampNeg (some q_368)).2.2.2.2 q_1 2 = some q_168 := (sQ_i kn_449 (by decide))
  have kn_483 : (sQ g_415 q_1 (4 : Int32).toNatClampNeg (some q_368)).2.2.2.2 q_1 3 = some q_262 := (sQ_i kn_450 (by decide))
  have kn_484 : (sQ g_415 q_1 (4 : Int32).toNatClampNeg (some q_368)).2.2.2.2 q_1 4 = some q_368 := sQ_eq
  generalize (sQ g_415 q_1 (4 : Int32).toNatClampNeg (some q_368)) = g_485 at hT hI hM hE r_452 r_453 r_454 r_455 r_456 r_457 r_458 r_459 n_460 n_461 kn_462 kn_463 kn_464 kn_465 kn_466 kn_467 kn_468 kn_469 kn_470 kn_471 kn_472 kn_473 kn_474 kn_475 kn_476 kn_477 kn_478 kn_479 kn_480 kn_481 kn_482 kn_483 kn_484
  clear kn_431 kn_432 kn_433 kn_434 kn_435 kn_436 kn_437 kn_438 kn_439 kn_440 kn_441 kn_442 kn_443 kn_444 kn_445 kn_446 kn_447 kn_448 kn_449 kn_450 n_429 n_430 r_421 r_422 r_423 r_424 r_425 r_426 r_427 r_428
  refine lv_iinc (v := 5) (lv' := [(1, .int 5), (0, .ref h)]) hx hb dX5_init_73 hl (k := 0) rfl (by decide) (by decide) rfl (fun ls hl => ?_)
  refine lv_goto (tgt := 54) hx hb dX5_init_76 (by decide) ?_
  refine lv_iload_n hx hb dX5_init_54 rfl (lv_at hl 0 rfl) ?_
  refine lv_bipush (v := 6) hx hb dX5_init_55 (by decide) ?_
  refine lv_icmp_ge (tgt := 79) hx hb dX5_init_57 (by decide) (fun c_ => absurd c_ (by decide)) (fun c_ => ?_)
  refine lv_aload_n hx hb dX5_init_60 rfl (lv_at hl 1 rfl) ?_
  refine t_get (ci := 5) (v := .ref q_1) hB hT (ro_ci r_452 rfl) rfl 0 (by decide) k_199 kn_462 dX5_init_61 ?_
  refine lv_iload_n hx hb dX5_init_64 rfl (lv_at hl 0 rfl) ?_
  refine t_new (ci := 3) (fs := [.null, .null, .int 0, .int 0, .int 0, .int 0, .null, .null, .null, .null, .int 0, .int 0, .null, .null, .int 0]) hB hT rfl (by decide) k_108 k_110 k_60 (fnew_3) (Nat.le_of_ble_eq_true rfl) (Nat.le_of_ble_eq_true rfl) dX5_init_65 (fun q_486 H o_q_486 hT => ?_)
  have z_q_486 : g.1 q_486 = 0 := hE.z0 o_q_486
  replace hI : Inv (sN g_485 q_486 14 (vp_V [.null, .null, .int 0, .int 0, .int 0, .int 0, .null, .null, .null, .null, .int 0, .int 0, .null, .null, .int 0])) := hI.newo o_q_486 (fun _ => rfl) (fun _ => trivial) (fun _ _ => trivial)
  replace hM : Sm md_s_World g (sN g_485 q_486 14 (vp_V [.null, .null, .int 0, .int 0, .int 0, .int 0, .null, .null, .null, .null, .int 0, .int 0, .null, .null, .int 0])) := hM.tr hE (Sm.push o_q_486 sN_g)
  replace hE : Ex g (sN g_485 q_486 14 (vp_V [.null, .null, .int 0, .int 0, .int 0, .int 0, .null, .null, .null, .null, .int 0, .int 0, .null, .null, .int 0])) := hE.tr (Ex.push o_q_486 sN_g)
  have r_487 : (sN g_485 q_486 14 (vp_V [.null, .null, .int 0, .int 0, .int 0, .int 0, .null, .null, .null, .null, .int 0, .int 0, .null, .null, .int 0])).1 h = 16 := ((sN_g h (ne0 r_452 o_q_486 (by decide))).1.trans r_452)
  have r_488 : (sN g_485 q_486 14 (vp_V [.null, .null, .int 0, .int 0, .int 0, .int 0, .null, .null, .null, .null, .int 0, .int 0, .null, .null, .int 0])).1 q_1 = 44 := ((sN_g q_1 (ne0 r_453 o_q_486 (by decide))).1.trans r_453)
  have r_489 : (sN g_485 q_486 14 (vp_V [.null, .null, .int 0, .int 0, .int 0, .int 0, .null, .null, .null, .null, .int 0, .int 0, .null, .null, .int 0])).1 q_6 = 50 := ((sN_g q_6 (ne0 r_454 o_q_486 (by decide))).1.trans r_454)
  have r_490 : (sN g_485 q_486 14 (vp_V [.null, .null, .int 0, .int 0, .int 0, .int 0, .null, .null, .null, .null, .int 0, .int 0, .null, .null, .int 0])).1 q_16 = 4 := ((sN_g q_16 (ne0 r_455 o_q_486 (by decide))).1.trans r_455)
  have r_491 : (sN g_485 q_486 14 (vp_V [.null, .null, .int 0, .int 0, .int 0, .int 0, .null, .null, .null, .null, .int 0, .int 0, .null, .null, .int 0])).1 q_86 = 4 := ((sN_g q_86 (ne0 r_456 o_q_486 (by decide))).1.trans r_456)
  have r_492 : (sN g_485 q_486 14 (vp_V [.null, .null, .int 0, .int 0, .int 0, .int 0, .null, .null, .null, .null, .int 0, .int 0, .null, .null, .int 0])).1 q_168 = 4 := ((sN_g q_168 (ne0 r_457 o_q_486 (by decide))).1.trans r_457)
  have r_493 : (sN g_485 q_486 14 (vp_V [.null, .null, .int 0, .int 0, .int 0, .int 0, .null, .null, .null, .null, .int 0, .int 0, .null, .null, .int 0])).1 q_262 = 4 := ((sN_g q_262 (ne0 r_458 o_q_486 (by decide))).1.trans r_458)
  have r_494 : (sN g_485 q_486 14 (vp_V [.null, .null, .int 0, .int 0, .int 0, .int 0, .null, .null, .null, .null, .int 0, .int 0, .null, .null, .int 0])).1 q_368 = 4 := ((sN_g q_368 (ne0 r_459 o_q_486 (by decide))).1.trans r_459)
  have r_495 : (sN g_485 q_486 14 (vp_V [.null, .null, .int 0, .int 0, .int 0, .int 0, .null, .null, .null, .null, .int 0, .int 0, .null, .null, .int 0])).1 q_486 = 14 := sN_r
  have n_496 : (sN g_485 q_486 14 (vp_V [.null, .null, .int 0, .int 0, .int 0, .int 0, .null, .null, .null, .null, .int 0, .int 0, .null, .null, .int 0])).2.2.1 q_1 = 6 := ((sN_g q_1 (ne0 r_453 o_q_486 (by decide))).2.2.1.trans n_460)
  have n_497 : (sN g_485 q_486 14 (vp_V [.null, .null, .int 0, .int 0, .int 0, .int 0, .null, .null, .null, .null, .int 0, .int 0, .null, .null, .int 0])).2.2.1 q_6 = 512 := ((sN_g q_6 (ne0 r_454 o_q_486 (by decide))).2.2.1.trans n_461)
  have kn_498 : (sN g_485 q_486 14 (vp_V [.null, .null, .int 0, .int 0, .int 0, .int 0, .null, .null, .null, .null, .int 0, .int 0, .null, .null, .int 0])).2.1 h 0 = .ref q_1 := ((congrFun (sN_g h (ne0 r_452 o_q_486 (by decide))).2.1 0).trans kn_462)
  have kn_499 : (sN g_485 q_486 14 (vp_V [.null, .null, .int 0, .int 0, .int 0, .int 0, .null, .null, .null, .null, .int 0, .int 0, .null, .null, .int 0])).2.1 h 1 = .int 0 := ((congrFun (sN_g h (ne0 r_452 o_q_486 (by decide))).2.1 1).trans kn_463)
  have kn_500 : (sN g_485 q_486 14 (vp_V [.null, .null, .int 0, .int 0, .int 0, .int 0, .null, .null, .null, .null, .int 0, .int 0, .null, .null, .int 0])).2.1 h 2 = .int 0 := ((congrFun (sN_g h (ne0 r_452 o_q_486 (by decide))).2.1 2).trans kn_464)
  have kn_501 : (sN g_485 q_486 14 (vp_V [.null, .null, .int 0, .int 0, .int 0, .int 0, .null, .null, .null, .null, .int 0, .int 0, .null, .null, .int 0])).2.1 h 3 = .ref q_6 := ((congrFun (sN_g h (ne0 r_452 o_q_486 (by decide))).2.1 3).trans kn_465)
  have kn_502 : (sN g_485 q_486 14 (vp_V [.null, .null, .int 0, .int 0, .int 0, .int 0, .null, .null, .null, .null, .int 0, .int 0, .null, .null, .int 0])).2.1 h 4 = .int 0 := ((congrFun (sN_g h (ne0 r_452 o_q_486 (by decide))).2.1 4).trans kn_466)
  have kn_503 : (sN g_485 q_486 14 (vp_V [.null, .null, .int 0, .int 0, .int 0, .int 0, .null, .null, .null, .null, .int 0, .int 0, .null, .null, .int 0])).2.1 h 5 = .int 0 := ((congrFun (sN_g h (ne0 r_452 o_q_486 (by decide))).2.1 5).trans kn_467)
  have kn_504 : (sN g_485 q_486 14 (vp_V [.null, .null, .int 0, .int 0, .int 0, .int 0, .null, .null, .null, .null, .int 0, .int 0, .null, .null, .int 0])).2.1 h 6 = .int 0 := ((congrFun (sN_g h (ne0 r_452 o_q_486 (by decide))).2.1 6).trans kn_468)
  have kn_505 : (sN g_485 q_486 14 (vp_V [.null, .null, .int 0, .int 0, .int 0, .int 0, .null, .null, .null, .null, .int 0, .int 0, .null, .null, .int 0])).2.1 h 7 = .int 0 := ((congrFun (sN_g h (ne0 r_452 o_q_486 (by decide))).2.1 7).trans kn_469)
  have kn_506 : (sN g_485 q_486 14 (vp_V [.null, .null, .int 0, .int 0, .int 0, .int 0, .null, .null, .null, .null, .int 0, .int 0, .null, .null, .int 0])).2.1 q_16 3 = .int 0 := ((congrFun (sN_g q_16 (ne0 r_455 o_q_486 (by decide))).2.1 3).trans kn_470)
  have kn_507 : (sN g_485 q_486 14 (vp_V [.null, .null, .int 0, .int 0, .int 0, .int 0, .null, .null, .null, .null, .int 0, .int 0, .null, .null, .int 0])).2.1 q_16 4 = .int 10 := ((congrFun (sN_g q_16 (ne0 r_455 o_q_486 (by decide))).2.1 4).trans kn_471)
  have kn_508 : (sN g_485 q_486 14 (vp_V [.null, .null, .int 0, .int 0, .int 0, .int 0, .null, .null, .null, .null, .int 0, .int 0, .null, .null, .int 0])).2.1 q_86 3 = .int 0 := ((congrFun (sN_g q_86 (ne0 r_456 o_q_486 (by decide))).2.1 3).trans kn_472)
  have kn_509 : (sN g_485 q_486 14 (vp_V [.null, .null, .int 0, .int 0, .int 0, .int 0, .null, .null, .null, .null, .int 0, .int 0, .null, .null, .int 0])).2.1 q_86 4 = .int 10 := ((congrFun (sN_g q_86 (ne0 r_456 o_q_486 (by decide))).2.1 4).trans kn_473)
  have kn_510 : (sN g_485 q_486 14 (vp_V [.null, .null, .int 0, .int 0, .int 0, .int 0, .null, .null, .null, .null, .int 0, .int 0, .null, .null, .int 0])).2.1 q_168 3 = .int 0 := ((congrFun (sN_g q_168 (ne0 r_457 o_q_486 (by decide))).2.1 3).trans kn_474)
  have kn_511 : (sN g_485 q_486 14 (vp_V [.null, .null, .int 0, .int 0, .int 0, .int 0, .null, .null, .null, .null, .int 0, .int 0, .null, .null, .int 0])).2.1 q_168 4 = .int 10 := ((congrFun (sN_g q_168 (ne0 r_457 o_q_486 (by decide))).2.1 4).trans kn_475)
  have kn_512 : (sN g_485 q_486 14 (vp_V [.null, .null, .int 0, .int 0, .int 0, .int 0, .null, .null, .null, .null, .int 0, .int 0, .null, .null, .int 0])).2.1 q_262 3 = .int 0 := ((congrFun (sN_g q_262 (ne0 r_458 o_q_486 (by decide))).2.1 3).trans kn_476)
  have kn_513 : (sN g_485 q_486 14 (vp_V [.null, .null, .int 0, .int 0, .int 0, .int 0, .null, .null, .null, .null, .int 0, .int 0, .null, .null, .int 0])).2.1 q_262 4 = .int 10 := ((congrFun (sN_g q_262 (ne0 r_458 o_q_486 (by decide))).2.1 4).trans kn_477)
  have kn_514 : (sN g_485 q_486 14 (vp_V [.null, .null, .int 0, .int 0, .int 0, .int 0, .null, .null, .null, .null, .int 0, .int 0, .null, .null, .int 0])).2.1 q_368 3 = .int 0 := ((congrFun (sN_g q_368 (ne0 r_459 o_q_486 (by decide))).2.1 3).trans kn_478)
  have kn_515 : (sN g_485 q_486 14 (vp_V [.null, .null, .int 0, .int 0, .int 0, .int 0, .null, .null, .null, .null, .int 0, .int 0, .null, .null, .int 0])).2.1 q_368 4 = .int 10 := ((congrFun (sN_g q_368 (ne0 r_459 o_q_486 (by decide))).2.1 4).trans kn_479)
  have kn_516 : (sN g_485 q_486 14 (vp_V [.null, .null, .int 0, .int 0, .int 0, .int 0, .null, .null, .null, .null, .int 0, .int 0, .null, .null, .int 0])).2.1 q_486 0 = .null := sN_f
  have kn_517 : (sN g_485 q_486 14 (vp_V [.null, .null, .int 0, .int 0, .int 0, .int 0, .null, .null, .null, .null, .int 0, .int 0, .null, .null, .int 0])).2.1 q_486 1 = .null := sN_f
  have kn_518 : (sN g_485 q_486 14 (vp_V [.null, .null, .int 0, .int 0, .int 0, .int 0, .null, .null, .null, .null, .int 0, .int 0, .null, .null, .int 0])).2.1 q_486 2 = .int 0 := sN_f
  have kn_519 : (sN g_485 q_486 14 (vp_V [.null, .null, .int 0, .int 0, .int 0, .int 0, .null, .null, .null, .null, .int 0, .int 0, .null, .null, .int 0])).2.1 q_486 3 = .int 0 := sN_f
  have kn_520 : (sN g_485 q_486 14 (vp_V [.null, .null, .int 0, .int 0, .int 0, .int 0, .null, .null, .null, .null, .int 0, .int 0, .null, .null, .int 0])).2.1 q_486 4 = .int 0 := sN_f
  have kn_521 : (sN g_485 q_486 14 (vp_V [.null, .null, .int 0, .int 0, .int 0, .int 0, .null, .null, .null, .null, .int 0, .int 0, .null, .null, .int 0])).2.1 q_486 5 = .int 0 := sN_f
  have kn_522 : (sN g_485 q_486 14 (vp_V [.null, .null, .int 0, .int 0, .int 0, .int 0, .null, .null, .null, .null, .int 0, .int 0, .null, .null, .int 0])).2.1 q_486 6 = .null := sN_f
  have kn_523 : (sN g_485 q_486 14 (vp_V [.null, .null, .int 0, .int 0, .int 0, .int 0, .null, .null, .null, .null, .int 0, .int 0, .null, .null, .int 0])).2.1 q_486 7 = .null := sN_f
  have kn_524 : (sN g_485 q_486 14 (vp_V [.null, .null, .int 0, .int 0, .int 0, .int 0, .null, .null, .null, .null, .int 0, .int 0, .null, .null, .int 0])).2.1 q_486 8 = .null := sN_f
  have kn_525 : (sN g_485 q_486 14 (vp_V [.null, .null, .int 0, .int 0, .int 0, .int 0, .null, .null, .null, .null, .int 0, .int 0, .null, .null, .int 0])).2.1 q_486 9 = .null := sN_f
  have kn_526 : (sN g_485 q_486 14 (vp_V [.null, .null, .int 0, .int 0, .int 0, .int 0, .null, .null, .null, .null, .int 0, .int 0, .null, .null, .int 0])).2.1 q_486 10 = .int 0 := sN_f
  have kn_527 : (sN g_485 q_486 14 (vp_V [.null, .null, .int 0, .int 0, .int 0, .int 0, .null, .null, .null, .null, .int 0, .int 0, .null, .null, .int 0])).2.1 q_486 11 = .int 0 := sN_f
  have kn_528 : (sN g_485 q_486 14 (vp_V [.null, .null, .int 0, .int 0, .int 0, .int 0, .null, .null, .null, .null, .int 0, .int 0, .null, .null, .int 0])).2.1 q_486 12 = .null := sN_f
  have kn_529 : (sN g_485 q_486 14 (vp_V [.null, .null, .int 0, .int 0, .int 0, .int 0, .null, .null, .null, .null, .int 0, .int 0, .null, .null, .int 0])).2.1 q_486 13 = .null := sN_f
  have kn_530 : (sN g_485 q_486 14 (vp_V [.null, .null, .int 0, .int 0, .int 0, .int 0, .null, .null, .null, .null, .int 0, .int 0, .null, .null, .int 0])).2.1 q_486 14 = .int 0 := sN_f
  have kn_531 : (sN g_485 q_486 14 (vp_V [.null, .null, .int 0, .int 0, .int 0, .int 0, .null, .null, .null, .null, .int 0, .int 0, .null, .null, .int 0])).2.2.2.2 q_1 0 = some q_16 := ((congrFun (sN_g q_1 (ne0 r_453 o_q_486 (by decide))).2.2.2.2 _).trans kn_480)
  have kn_532 : (sN g_485 q_486 14 (vp_V [.null, .null, .int 0, .int 0, .int 0, .int 0, .null, .null, .null, .null, .int 0, .int 0, .null, .null, .int 0])).2.2.2.2 q_1 1 = some q_86 := ((congrFun (sN_g q_1 (ne0 r_453 o_q_486 (by decide))).2.2.2.2 _).trans kn_481)
  have kn_533 : (sN g_485 q_486 14 (vp_V [.null, .null, .int 0, .int 0, .int 0, .int 0, .null, .null, .null, .null, .int 0, .int 0, .null, .null, .int 0])).2.2.2.2 q_1 2 = some q_168 := ((congrFun (sN_g q_1 (ne0 r_453 o_q_486 (by decide))).2.2.2.2 _).trans kn_482)
  have kn_534 : (sN g_485 q_486 14 (vp_V [.null, .null, .int 0, .int 0, .int 0, .int 0, .null, .null, .null, .null, .int 0, .int 0, .null, .null, .int 0])).2.2.2.2 q_1 3 = some q_262 := ((congrFun (sN_g q_1 (ne0 r_453 o_q_486 (by decide))).2.2.2.2 _).trans kn_483)
  have kn_535 : (sN g_485 q_486 14 (vp_V [.null, .null, .int 0, .int 0, .int 0, .int 0, .null, .null, .null, .null, .int 0, .int 0, .null, .null, .int 0])).2.2.2.2 q_1 4 = some q_368 := ((congrFun (sN_g q_1 (ne0 r_453 o_q_486 (by decide))).2.2.2.2 _).trans kn_484)
  generalize (sN g_485 q_486 14 (vp_V [.null, .null, .int 0, .int 0, .int 0, .int 0, .null, .null, .null, .null, .int 0, .int 0, .null, .null, .int 0])) = g_536 at hT hI hM hE r_487 r_488 r_489 r_490 r_491 r_492 r_493 r_494 r_495 n_496 n_497 kn_498 kn_499 kn_500 kn_501 kn_502 kn_503 kn_504 kn_505 kn_506 kn_507 kn_508 kn_509 kn_510 kn_511 kn_512 kn_513 kn_514 kn_515 kn_516 kn_517 kn_518 kn_519 kn_520 kn_521 kn_522 kn_523 kn_524 kn_525 kn_526 kn_527 kn_528 kn_529 kn_530 kn_531 kn_532 kn_533 kn_534 kn_535
  clear kn_462 kn_463 kn_464 kn_465 kn_466 kn_467 kn_468 kn_469 kn_470 kn_471 kn_472 kn_473 kn_474 kn_475 kn_476 kn_477 kn_478 kn_479 kn_480 kn_481 kn_482 kn_483 kn_484 n_460 n_461 r_452 r_453 r_454 r_455 r_456 r_457 r_458 r_459
  refine W.widen (k := 63) (n := 1168) (Nat.le_of_ble_eq_true rfl) (Nat.le_of_ble_eq_true rfl) ?_
  refine lv_dup hx hb dX5_init_68 rfl ?_
  refine t_callIN (n := 0) (As := []) (rest := [.ref q_486, .int 5, .ref q_1]) hB hT hl.1 (s_Service l D cI cZ cS cR N0 g_536 hI q_486 r_495) k_113 k_60 hB.2.2.2.2.2.2.2.1.2.1 k_112 rfl (by decide +kernel) ⟨(Nat.le_of_ble_eq_true rfl), (Nat.le_of_ble_eq_true rfl)⟩ rfl (Nat.le_of_ble_eq_true rfl) ⟨(Nat.le_of_ble_eq_true rfl), (Nat.le_of_ble_eq_true rfl)⟩ dX5_init_69 (fun v g_537 H locs hp hT => ?_)
  obtain ⟨rfl, hI, x_541, m_540, r_542, f_538, f_539⟩ := hp
  replace hM : Sm md_s_World g g_537 := hM.tr hE (m_540.mo (fun r k h => mdle_s_World_s_Service h))
  replace hE : Ex g g_537 := hE.trx z_q_486 x_541
  have r_543 : g_537.1 h = 16 := (Exx.r x_541 r_487 (by decide) (ro_ne r_487 r_495 (by decide)))
  have r_544 : g_537.1 q_1 = 44 := (Exx.r x_541 r_488 (by decide) (ro_ne r_488 r_495 (by decide)))
  have r_545 : g_537.1 q_6 = 50 := (Exx.r x_541 r_489 (by decide) (ro_ne r_489 r_495 (by decide)))
  have r_546 : g_537.1 q_16 = 4 := (Exx.r x_541 r_490 (by decide) (ro_ne r_490 r_495 (by decide)))
  have r_547 : g_537.1 q_86 = 4 := (Exx.r x_541 r_491 (by decide) (ro_ne r_491 r_495 (by decide)))
  have r_548 : g_537.1 q_168 = 4 := (Exx.r x_541 r_492 (by decide) (ro_ne r_492 r_495 (by decide)))
  have r_549 : g_537.1 q_262 = 4 := (Exx.r x_541 r_493 (by decide) (ro_ne r_493 r_495 (by decide)))
  have r_550 : g_537.1 q_368 = 4 := (Exx.r x_541 r_494 (by decide) (ro_ne r_494 r_495 (by decide)))
  have r_551 : g_537.1 q_486 = 4 := r_542
  have n_552 : g_537.2.2.1 q_1 = 6 := (Exx.n x_541 r_488 (by decide) (ro_ne r_488 r_495 (by decide)) n_496)
  have n_553 : g_537.2.2.1 q_6 = 512 := (Exx.n x_541 r_489 (by decide) (ro_ne r_489 r_495 (by decide)) n_497)
  have kn_554 : g_537.2.1 h 0 = .ref q_1 := (Sm.v m_540 r_487 (by decide) rfl kn_498)
  have kn_555 : g_537.2.1 h 1 = .int 0 := (Sm.v m_540 r_487 (by decide) rfl kn_499)
  have kn_556 : g_537.2.1 h 2 = .int 0 := (Sm.v m_540 r_487 (by decide) rfl kn_500)
  have kn_557 : g_537.2.1 h 3 = .ref q_6 := (Sm.v m_540 r_487 (by decide) rfl kn_501)
  have kn_558 : g_537.2.1 h 4 = .int 0 := (Sm.v m_540 r_487 (by decide) rfl kn_502)
  have kn_559 : g_537.2.1 h 5 = .int 0 := (Sm.v m_540 r_487 (by decide) rfl kn_503)
  have kn_560 : g_537.2.1 h 6 = .int 0 := (Sm.v m_540 r_487 (by decide) rfl kn_504)
  have kn_561 : g_537.2.1 h 7 = .int 0 := (Sm.v m_540 r_487 (by decide) rfl kn_505)
  have kn_562 : g_537.2.1 q_16 3 = .int 0 := (Sm.v m_540 r_490 (by decide) rfl kn_506)
  have kn_563 : g_537.2.1 q_16 4 = .int 10 := (Sm.v m_540 r_490 (by decide) rfl kn_507)
  have kn_564 : g_537.2.1 q_86 3 = .int 0 := (Sm.v m_540 r_491 (by decide) rfl kn_508)
  have kn_565 : g_537.2.1 q_86 4 = .int 10 := (Sm.v m_540 r_491 (by decide) rfl kn_509)
  have kn_566 : g_537.2.1 q_168 3 = .int 0 := (Sm.v m_540 r_492 (by decide) rfl kn_510)
  have kn_567 : g_537.2.1 q_168 4 = .int 10 := (Sm.v m_540 r_492 (by decide) rfl kn_511)
  have kn_568 : g_537.2.1 q_262 3 = .int 0 := (Sm.v m_540 r_493 (by decide) rfl kn_512)
  have kn_569 : g_537.2.1 q_262 4 = .int 10 := (Sm.v m_540 r_493 (by decide) rfl kn_513)
  have kn_570 : g_537.2.1 q_368 3 = .int 0 := (Sm.v m_540 r_494 (by decide) rfl kn_514)
  have kn_571 : g_537.2.1 q_368 4 = .int 10 := (Sm.v m_540 r_494 (by decide) rfl kn_515)
  have kn_572 : g_537.2.2.2.2 q_1 0 = some q_16 := ((congrFun (m_540.2 q_1 (by rw [r_488]; decide) (by rw [r_488]; rfl)).2 _).trans kn_531)
  have kn_573 : g_537.2.2.2.2 q_1 1 = some q_86 := ((congrFun (m_540.2 q_1 (by rw [r_488]; decide) (by rw [r_488]; rfl)).2 _).trans kn_532)
  have kn_574 : g_537.2.2.2.2 q_1 2 = some q_168 := ((congrFun (m_540.2 q_1 (by rw [r_488]; decide) (by rw [r_488]; rfl)).2 _).trans kn_533)
  have kn_575 : g_537.2.2.2.2 q_1 3 = some q_262 := ((congrFun (m_540.2 q_1 (by rw [r_488]; decide) (by rw [r_488]; rfl)).2 _).trans kn_534)
  have kn_576 : g_537.2.2.2.2 q_1 4 = some q_368 := ((congrFun (m_540.2 q_1 (by rw [r_488]; decide) (by rw [r_488]; rfl)).2 _).trans kn_535)
  refine W.eq (g2 := F0 m 72 ls [.ref q_486, .int 5, .ref q_1]) rfl ?_
  have i_577 : vp_in (5 : Int32) 6 := (by unfold vp_in; decide)
  refine t_astq hB hT r_544 n_552 (ro_ci r_551 rfl) i_577 dX5_init_72 (fun H locs hT => ?_)
  replace hI : Inv (sQ g_537 q_1 (5 : Int32).toNatClampNeg (some q_486)) := hI.sQ (by rw [r_544]; exact trivial)
  replace hM : Sm md_s_World g (sQ g_537 q_1 (5 : Int32).toNatClampNeg (some q_486)) := hM.tr hE (Sm_sQ (by rw [r_544]; rfl))
  replace hE : Ex g (sQ g_537 q_1 (5 : Int32).toNatClampNeg (some q_486)) := hE
  have r_578 : (sQ g_537 q_1 (5 : Int32).toNatClampNeg (some q_486)).1 h = 16 := r_543
  have r_579 : (sQ g_537 q_1 (5 : Int32).toNatClampNeg (some q_486)).1 q_1 = 44 := r_544
  have r_580 : (sQ g_537 q_1 (5 : Int32).toNatClampNeg (some q_486)).1 q_6 = 50 := r_545
  have r_581 : (sQ g_537 q_1 (5 : Int32).toNatClampNeg (some q_486)).1 q_16 = 4 := r_546
  have r_582 : (sQ g_537 q_1 (5 : Int32).toNatClampNeg (some q_486)).1 q_86 = 4 := r_547
  have r_583 : (sQ g_537 q_1 (5 : Int32).toNatClampNeg (some q_486)).1 q_168 = 4 := r_548
  have r_584 : (sQ g_537 q_1 (5 : Int32).toNatClampNeg (some q_486)).1 q_262 = 4 := r_549
  have r_585 : (sQ g_537 q_1 (5 : Int32).toNatClampNeg (some q_486)).1 q_368 = 4 := r_550
  have r_586 : (sQ g_537 q_1 (5 : Int32).toNatClampNeg (some q_486)).1 q_486 = 4 := r_551
  have n_587 : (sQ g_537 q_1 (5 : Int32).toNatClampNeg (some q_486)).2.2.1 q_1 = 6 := n_552
  have n_588 : (sQ g_537 q_1 (5 : Int32).toNatClampNeg (some q_486)).2.2.1 q_6 = 512 := n_553
  have kn_589 : (sQ g_537 q_1 (5 : Int32).toNatClampNeg (some q_486)).2.1 h 0 = .ref q_1 := kn_554
  have kn_590 : (sQ g_537 q_1 (5 : Int32).toNatClampNeg (some q_486)).2.1 h 1 = .int 0 := kn_555
  have kn_591 : (sQ g_537 q_1 (5 : Int32).toNatClampNeg (some q_486)).2.1 h 2 = .int 0 := kn_556
  have kn_592 : (sQ g_537 q_1 (5 : Int32).toNatClampNeg (some q_486)).2.1 h 3 = .ref q_6 := kn_557
  have kn_593 : (sQ g_537 q_1 (5 : Int32).toNatClampNeg (some q_486)).2.1 h 4 = .int 0 := kn_558
  have kn_594 : (sQ g_537 q_1 (5 : Int32).toNatClampNeg (some q_486)).2.1 h 5 = .int 0 := kn_559
  have kn_595 : (sQ g_537 q_1 (5 : Int32).toNatClampNeg (some q_486)).2.1 h 6 = .int 0 := kn_560
  have kn_596 : (sQ g_537 q_1 (5 : Int32).toNatClampNeg (some q_486)).2.1 h 7 = .int 0 := kn_561
  have kn_597 : (sQ g_537 q_1 (5 : Int32).toNatClampNeg (some q_486)).2.1 q_16 3 = .int 0 := kn_562
  have kn_598 : (sQ g_537 q_1 (5 : Int32).toNatClampNeg (some q_486)).2.1 q_16 4 = .int 10 := kn_563
  have kn_599 : (sQ g_537 q_1 (5 : Int32).toNatClampNeg (some q_486)).2.1 q_86 3 = .int 0 := kn_564
  have kn_600 : (sQ g_537 q_1 (5 : Int32).toNatClampNeg (some q_486)).2.1 q_86 4 = .int 10 := kn_565
  have kn_601 : (sQ g_537 q_1 (5 : Int32).toNatClampNeg (some q_486)).2.1 q_168 3 = .int 0 := kn_566
  have kn_602 : (sQ g_537 q_1 (5 : Int32).toNatClampNeg (some q_486)).2.1 q_168 4 = .int 10 := kn_567
  have kn_603 : (sQ g_537 q_1 (5 : Int32).toNatClampNeg (some q_486)).2.1 q_262 3 = .int 0 := kn_568
  have kn_604 : (sQ g_537 q_1 (5 : Int32).toNatClampNeg (some q_486)).2.1 q_262 4 = .int 10 := kn_569
  have kn_605 : (sQ g_537 q_1 (5 : Int32).toNatClampNeg (some q_486)).2.1 q_368 3 = .int 0 := kn_570
  have kn_606 : (sQ g_537 q_1 (5 : Int32).toNatClampNeg (some q_486)).2.1 q_368 4 = .int 10 := kn_571
  have kn_607 : (sQ g_537 q_1 (5 : Int32).toNatClampNeg (some q_486)).2.1 q_486 3 = .int 0 := f_538
  have kn_608 : (sQ g_537 q_1 (5 : Int32).toNatClampNeg (some q_486)).2.1 q_486 4 = .int 10 := f_539
  have kn_609 : (sQ g_537 q_1 (5 : Int32).toNatClampNeg (some q_486)).2.2.2.2 q_1 0 = some q_16 := (sQ_i kn_572 (by decide))
  have kn_610 : (sQ g_537 q_1 (5 : Int32).toNatClampNeg (some q_486)).2.2.2.2 q_1 1 = some q_86 := (sQ_i kn_573 (by decide))
  have kn_611 : (sQ g_537 q_1 (5 : Int32).toNatClampNeg (some q_486)).2.2.2.2 q_1 2 = some q_168 := (sQ_i kn_574 (by decide))
  have kn_612 : (sQ g_537 q_1 (5 : Int32).toNatClampNeg (some q_486)).2.2.2.2 q_1 3 = some q_262 := (sQ_i kn_575 (by decide))
  have kn_613 : (sQ g_537 q_1 (5 : Int32).toNatClampNeg (some q_486)).2.2.2.2 q_1 4 = some q_368 := (sQ_i kn_576 (by decide))
  have kn_614 : (sQ g_537 q_1 (5 : Int32).toNatClampNeg (some q_486)).2.2.2.2 q_1 5 = some q_486 := sQ_eq
  generalize (sQ g_537 q_1 (5 : Int32).toNatClampNeg (some q_486)) = g_615 at hT hI hM hE r_578 r_579 r_580 r_581 r_582 r_583 r_584 r_585 r_586 n_587 n_588 kn_589 kn_590 kn_591 kn_592 kn_593 kn_594 kn_595 kn_596 kn_597 kn_598 kn_599 kn_600 kn_601 kn_602 kn_603 kn_604 kn_605 kn_606 kn_607 kn_608 kn_609 kn_610 kn_611 kn_612 kn_613 kn_614
  clear kn_554 kn_555 kn_556 kn_557 kn_558 kn_559 kn_560 kn_561 kn_562 kn_563 kn_564 kn_565 kn_566 kn_567 kn_568 kn_569 kn_570 kn_571 kn_572 kn_573 kn_574 kn_575 kn_576 n_552 n_553 r_543 r_544 r_545 r_546 r_547 r_548 r_549 r_550 r_551
  refine lv_iinc (v := 6) (lv' := [(1, .int 6), (0, .ref h)]) hx hb dX5_init_73 hl (k := 0) rfl (by decide) (by decide) rfl (fun ls hl => ?_)
  refine lv_goto (tgt := 54) hx hb dX5_init_76 (by decide) ?_
  refine lv_iload_n hx hb dX5_init_54 rfl (lv_at hl 0 rfl) ?_
  refine lv_bipush (v := 6) hx hb dX5_init_55 (by decide) ?_
  refine lv_icmp_ge (tgt := 79) hx hb dX5_init_57 (by decide) (fun c_ => ?_) (fun c_ => absurd (by decide) c_)
  have hT : Tv D cI cZ cS cR N0 s.heap H locs (sR g_615 q_1 41) := ⟨hT.1.promo (by rw [r_579]; decide) (by rw [r_579]; rfl) (Or.inr ⟨r_579, by decide⟩), hT.2⟩
  replace hI : Inv (sR g_615 q_1 41) := hI.promo (by rw [r_579]; decide) (fun _ => (show fsm _ _ ft from trivial)) (fun _ _ => trivial) (fun i hi => match i, (show i < 6 by rw [← n_587]; exact hi) with | 0, _ => (by rw [kn_609]; exact ⟨_, rfl, sR_r r_581 (ro_ne r_581 r_579 (by decide))⟩) | 1, _ => (by rw [kn_610]; exact ⟨_, rfl, sR_r r_582 (ro_ne r_582 r_579 (by decide))⟩) | 2, _ => (by rw [kn_611]; exact ⟨_, rfl, sR_r r_583 (ro_ne r_583 r_579 (by decide))⟩) | 3, _ => (by rw [kn_612]; exact ⟨_, rfl, sR_r r_584 (ro_ne r_584 r_579 (by decide))⟩) | 4, _ => (by rw [kn_613]; exact ⟨_, rfl, sR_r r_585 (ro_ne r_585 r_579 (by decide))⟩) | 5, _ => (by rw [kn_614]; exact ⟨_, rfl, sR_r r_586 (ro_ne r_586 r_579 (by decide))⟩) | k + 6, h => absurd h (by omega))
  replace hM : Sm md_s_World g (sR g_615 q_1 41) := hM
  replace hE : Ex g (sR g_615 q_1 41) := hE.pr0 z_q_1
  have r_616 : (sR g_615 q_1 41).1 h = 16 := (sR_r r_578 (ro_ne r_578 r_579 (by decide)))
  have r_617 : (sR g_615 q_1 41).1 q_1 = 41 := (if_pos rfl)
  have r_618 : (sR g_615 q_1 41).1 q_6 = 50 := (sR_r r_580 (ro_ne r_580 r_579 (by decide)))
  have r_619 : (sR g_615 q_1 41).1 q_16 = 4 := (sR_r r_581 (ro_ne r_581 r_579 (by decide)))
  have r_620 : (sR g_615 q_1 41).1 q_86 = 4 := (sR_r r_582 (ro_ne r_582 r_579 (by decide)))
  have r_621 : (sR g_615 q_1 41).1 q_168 = 4 := (sR_r r_583 (ro_ne r_583 r_579 (by decide)))
  have r_622 : (sR g_615 q_1 41).1 q_262 = 4 := (sR_r r_584 (ro_ne r_584 r_579 (by decide)))
  have r_623 : (sR g_615 q_1 41).1 q_368 = 4 := (sR_r r_585 (ro_ne r_585 r_579 (by decide)))
  have r_624 : (sR g_615 q_1 41).1 q_486 = 4 := (sR_r r_586 (ro_ne r_586 r_579 (by decide)))
  have n_625 : (sR g_615 q_1 41).2.2.1 q_1 = 6 := n_587
  have n_626 : (sR g_615 q_1 41).2.2.1 q_6 = 512 := n_588
  have kn_627 : (sR g_615 q_1 41).2.1 h 0 = .ref q_1 := kn_589
  have kn_628 : (sR g_615 q_1 41).2.1 h 1 = .int 0 := kn_590
  have kn_629 : (sR g_615 q_1 41).2.1 h 2 = .int 0 := kn_591
  have kn_630 : (sR g_615 q_1 41).2.1 h 3 = .ref q_6 := kn_592
  have kn_631 : (sR g_615 q_1 41).2.1 h 4 = .int 0 := kn_593
  have kn_632 : (sR g_615 q_1 41).2.1 h 5 = .int 0 := kn_594
  have kn_633 : (sR g_615 q_1 41).2.1 h 6 = .int 0 := kn_595
  have kn_634 : (sR g_615 q_1 41).2.1 h 7 = .int 0 := kn_596
  have kn_635 : (sR g_615 q_1 41).2.1 q_16 3 = .int 0 := kn_597
  have kn_636 : (sR g_615 q_1 41).2.1 q_16 4 = .int 10 := kn_598
  have kn_637 : (sR g_615 q_1 41).2.1 q_86 3 = .int 0 := kn_599
  have kn_638 : (sR g_615 q_1 41).2.1 q_86 4 = .int 10 := kn_600
  have kn_639 : (sR g_615 q_1 41).2.1 q_168 3 = .int 0 := kn_601
  have kn_640 : (sR g_615 q_1 41).2.1 q_168 4 = .int 10 := kn_602
  have kn_641 : (sR g_615 q_1 41).2.1 q_262 3 = .int 0 := kn_603
  have kn_642 : (sR g_615 q_1 41).2.1 q_262 4 = .int 10 := kn_604
  have kn_643 : (sR g_615 q_1 41).2.1 q_368 3 = .int 0 := kn_605
  have kn_644 : (sR g_615 q_1 41).2.1 q_368 4 = .int 10 := kn_606
  have kn_645 : (sR g_615 q_1 41).2.1 q_486 3 = .int 0 := kn_607
  have kn_646 : (sR g_615 q_1 41).2.1 q_486 4 = .int 10 := kn_608
  have kn_647 : (sR g_615 q_1 41).2.2.2.2 q_1 0 = some q_16 := kn_609
  have kn_648 : (sR g_615 q_1 41).2.2.2.2 q_1 1 = some q_86 := kn_610
  have kn_649 : (sR g_615 q_1 41).2.2.2.2 q_1 2 = some q_168 := kn_611
  have kn_650 : (sR g_615 q_1 41).2.2.2.2 q_1 3 = some q_262 := kn_612
  have kn_651 : (sR g_615 q_1 41).2.2.2.2 q_1 4 = some q_368 := kn_613
  have kn_652 : (sR g_615 q_1 41).2.2.2.2 q_1 5 = some q_486 := kn_614
  generalize (sR g_615 q_1 41) = g_653 at hT hI hM hE r_616 r_617 r_618 r_619 r_620 r_621 r_622 r_623 r_624 n_625 n_626 kn_627 kn_628 kn_629 kn_630 kn_631 kn_632 kn_633 kn_634 kn_635 kn_636 kn_637 kn_638 kn_639 kn_640 kn_641 kn_642 kn_643 kn_644 kn_645 kn_646 kn_647 kn_648 kn_649 kn_650 kn_651 kn_652
  clear kn_589 kn_590 kn_591 kn_592 kn_593 kn_594 kn_595 kn_596 kn_597 kn_598 kn_599 kn_600 kn_601 kn_602 kn_603 kn_604 kn_605 kn_606 kn_607 kn_608 kn_609 kn_610 kn_611 kn_612 kn_613 kn_614 n_587 n_588 r_578 r_579 r_580 r_581 r_582 r_583 r_584 r_585 r_586
  have hF : ∀ k, Fok (sR g_653 h 6) 6 k (g_653.2.1 h k) := fun k => match k with
    | 0 => (by rw [kn_627]; exact q_6_0 ⟨_, rfl, sR_r r_617 (ro_ne r_617 r_616 (by decide)), n_625⟩)
    | 1 => (by rw [kn_628]; exact q_6_1 ⟨_, rfl, by decide, by decide⟩)
    | 2 => (by rw [kn_629]; exact q_6_2 ⟨_, rfl⟩)
    | 3 => (by rw [kn_630]; exact q_6_3 ⟨_, rfl, sR_r r_618 (ro_ne r_618 r_616 (by decide)), n_626⟩)
    | 4 => (by rw [kn_631]; exact q_6_4 ⟨_, rfl⟩)
    | 5 => (by rw [kn_632]; exact q_6_5 ⟨_, rfl⟩)
    | 6 => (by rw [kn_633]; exact q_6_6 ⟨_, rfl⟩)
    | 7 => (by rw [kn_634]; exact q_6_7 ⟨_, rfl, by decide, by decide⟩)
    | k + 8 => (show fsm _ _ ft from trivial)
  have hT : Tv D cI cZ cS cR N0 s.heap H locs (sR g_653 h 6) := ⟨hT.1.promo (by rw [r_616]; decide) (by rw [r_616]; rfl) (Or.inl (by decide)), hT.2⟩
  replace hI : Inv (sR g_653 h 6) := hI.promo (by rw [r_616]; decide) hF (fun _ _ => trivial) (fun _ _ => trivial)
  replace hM : Sm md_s_World g (sR g_653 h 6) := hM
  have hX : Exx h g (sR g_653 h 6) := Exx.promo hE
  exact t_vret hB hr hT (Nat.le_of_ble_eq_true rfl) (Nat.le_of_ble_eq_true rfl) dX5_init_79 ⟨rfl, hI, hX, hM, if_pos rfl, kn_628⟩
abbrev md_n_World : Nat → Nat → Bool := mdf [(13, 0), (13, 1), (13, 2), (13, 3), (14, 0), (14, 1), (14, 2), (14, 3), (14, 4), (14, 5), (14, 6), (14, 7), (14, 8), (14, 9), (14, 10), (14, 11), (14, 12), (14, 13), (14, 14), (16, 0), (16, 1), (16, 2), (16, 3), (16, 4), (16, 5), (16, 6), (16, 7), (44, 99)]
theorem mdle_n_World_n_Service {r k : Nat} (h : md_n_World r k = false) : md_n_Service r k = false := mdf_le (by decide +kernel) h
set_option maxHeartbeats 4000000 in
set_option maxRecDepth 100000 in
theorem n_World (l : Launch) (D : va_G) (cI cZ cS cR : ClassId) (N0 : NT) (g : GS) (hI : Inv g) (h : Nat) (r_h : g.1 h = 16) : Ty l D cI cZ cS cR N0 yX5_init cX5_init 2 none 2 74 1280 [.ref h] g (fun v g' => v = none ∧ Inv g' ∧ Exx h g g' ∧ Sm md_n_World g g' ∧ g'.1 h = 19 ∧ (g'.2.1 h 1 = .int 0) ∧ (HS g' h)) := by
  refine t_enter (by decide) (Nat.le_of_ble_eq_true rfl) ?_
  intro p e s m args below meth c ls H locs hB hr hin hl hT
  have hx := hB.1
  have hb := hB.2.1
  have hl : lv_has ls 2 [(0, .ref h)] := hl
  replace hE : Ex g g := Ex.rf
  replace hM : Sm md_n_World g g := Sm.rf
  refine lv_aload_n hx hb dX5_init_0 rfl (lv_at hl 0 rfl) ?_
  refine t_oinit hB k_107 k_78 k_79 hl.1 dX5_init_1 (Nat.le_of_ble_eq_true rfl) (Nat.le_of_ble_eq_true rfl) ?_
  refine lv_aload_n hx hb dX5_init_4 rfl (lv_at hl 0 rfl) ?_
  refine lv_bipush (v := 6) hx hb dX5_init_5 (by decide) ?_
  refine t_newq (N' := 6) hB hT k_108 (by decide) (by decide) (by decide) (Nat.le_of_ble_eq_true rfl) (Nat.le_of_ble_eq_true rfl) dX5_init_7 (fun q_1 H o_q_1 hT => ?_)
  have z_q_1 : g.1 q_1 = 0 := hE.z0 o_q_1
  replace hI : Inv (sA g q_1 44 6) := hI.newi o_q_1 (by decide) (fun _ => rfl) trivial (fun _ => trivial)
  replace hM : Sm md_n_World g (sA g q_1 44 6) := hM.tr hE (Sm.push o_q_1 sA_g)
  replace hE : Ex g (sA g q_1 44 6) := hE.tr (Ex.push o_q_1 sA_g)
  have r_2 : (sA g q_1 44 6).1 h = 16 := ((sA_g h (ne0 r_h o_q_1 (by decide))).1.trans r_h)
  have r_3 : (sA g q_1 44 6).1 q_1 = 44 := sA_r
  have n_4 : (sA g q_1 44 6).2.2.1 q_1 = 6 := sA_n
  generalize (sA g q_1 44 6) = g_5 at hT hI hM hE r_2 r_3 n_4
  refine W.widen (k := 1) (n := 6) (Nat.le_of_ble_eq_true rfl) (Nat.le_of_ble_eq_true rfl) ?_
  refine t_put0 (ci := 5) (v := .ref q_1) hB hT (ro_ci r_2 rfl) (ro_n0 r_2 (by decide)) rfl 0 (by decide) k_199 (Or.inr ⟨hin, rfl⟩) rfl rfl dX5_init_10 (fun H locs hT => ?_)
  replace hI : Inv (sF g_5 h 0 (.ref q_1)) := hI.sF (fk r_2 (show fsm _ _ ft from trivial))
  replace hM : Sm md_n_World g (sF g_5 h 0 (.ref q_1)) := hM.tr hE (Sm_sF (by rw [r_2]; rfl))
  replace hE : Ex g (sF g_5 h 0 (.ref q_1)) := hE
  refine lv_aload_n hx hb dX5_init_13 rfl (lv_at hl 0 rfl) ?_
  refine lv_iconst (v := 0) hx hb dX5_init_14 (by decide) ?_
  refine t_put0 (ci := 5) (v := .int 0) hB hT (ro_ci r_2 rfl) (ro_n0 r_2 (by decide)) rfl 1 (by decide) k_202 (Or.inl rfl) rfl rfl dX5_init_15 (fun H locs hT => ?_)
  replace hI : Inv (sF (sF g_5 h 0 (.ref q_1)) h 1 (.int 0)) := hI.sF (fk r_2 (show fsm _ _ ft from trivial))
  replace hM : Sm md_n_World g (sF (sF g_5 h 0 (.ref q_1)) h 1 (.int 0)) := hM.tr hE (Sm_sF (by rw [r_2]; rfl))
  replace hE : Ex g (sF (sF g_5 h 0 (.ref q_1)) h 1 (.int 0)) := hE
  refine lv_aload_n hx hb dX5_init_18 rfl (lv_at hl 0 rfl) ?_
  refine lv_iconst (v := 0) hx hb dX5_init_19 (by decide) ?_
  refine t_put0 (ci := 5) (v := .int 0) hB hT (ro_ci r_2 rfl) (ro_n0 r_2 (by decide)) rfl 2 (by decide) k_205 (Or.inl rfl) rfl rfl dX5_init_20 (fun H locs hT => ?_)
  replace hI : Inv (sF (sF (sF g_5 h 0 (.ref q_1)) h 1 (.int 0)) h 2 (.int 0)) := hI.sF (fk r_2 (show fsm _ _ ft from trivial))
  replace hM : Sm md_n_World g (sF (sF (sF g_5 h 0 (.ref q_1)) h 1 (.int 0)) h 2 (.int 0)) := hM.tr hE (Sm_sF (by rw [r_2]; rfl))
  replace hE : Ex g (sF (sF (sF g_5 h 0 (.ref q_1)) h 1 (.int 0)) h 2 (.int 0)) := hE
  refine lv_aload_n hx hb dX5_init_23 rfl (lv_at hl 0 rfl) ?_
  refine lv_sipush (v := 512) hx hb dX5_init_24 (by decide) ?_
  refine t_newi (N' := 512) hB hT 50 (by decide) k_101 (by decide) (by decide) (by decide) (Nat.le_of_ble_eq_true rfl) (Nat.le_of_ble_eq_true rfl) dX5_init_27 (fun q_6 H o_q_6 hT => ?_)
  have z_q_6 : g.1 q_6 = 0 := hE.z0 o_q_6
  replace hI : Inv (sA (sF (sF (sF g_5 h 0 (.ref q_1)) h 1 (.int 0)) h 2 (.int 0)) q_6 50 512) := hI.newi o_q_6 (by decide) (fun _ => rfl) trivial (fun _ => trivial)
  replace hM : Sm md_n_World g (sA (sF (sF (sF g_5 h 0 (.ref q_1)) h 1 (.int 0)) h 2 (.int 0)) q_6 50 512) := hM.tr hE (Sm.push o_q_6 sA_g)
  replace hE : Ex g (sA (sF (sF (sF g_5 h 0 (.ref q_1)) h 1 (.int 0)) h 2 (.int 0)) q_6 50 512) := hE.tr (Ex.push o_q_6 sA_g)
  have r_7 : (sA (sF (sF (sF g_5 h 0 (.ref q_1)) h 1 (.int 0)) h 2 (.int 0)) q_6 50 512).1 h = 16 := ((sA_g h (ne0 r_2 o_q_6 (by decide))).1.trans r_2)
  have r_8 : (sA (sF (sF (sF g_5 h 0 (.ref q_1)) h 1 (.int 0)) h 2 (.int 0)) q_6 50 512).1 q_1 = 44 := ((sA_g q_1 (ne0 r_3 o_q_6 (by decide))).1.trans r_3)
  have r_9 : (sA (sF (sF (sF g_5 h 0 (.ref q_1)) h 1 (.int 0)) h 2 (.int 0)) q_6 50 512).1 q_6 = 50 := sA_r
  have n_10 : (sA (sF (sF (sF g_5 h 0 (.ref q_1)) h 1 (.int 0)) h 2 (.int 0)) q_6 50 512).2.2.1 q_1 = 6 := ((sA_g q_1 (ne0 r_3 o_q_6 (by decide))).2.2.1.trans n_4)
  have n_11 : (sA (sF (sF (sF g_5 h 0 (.ref q_1)) h 1 (.int 0)) h 2 (.int 0)) q_6 50 512).2.2.1 q_6 = 512 := sA_n
  have kn_12 : (sA (sF (sF (sF g_5 h 0 (.ref q_1)) h 1 (.int 0)) h 2 (.int 0)) q_6 50 512).2.1 h 0 = .ref q_1 := ((congrFun (sA_g h (ne0 r_2 o_q_6 (by decide))).2.1 0).trans (sF_k (sF_k sF_eq (by decide)) (by decide)))
  have kn_13 : (sA (sF (sF (sF g_5 h 0 (.ref q_1)) h 1 (.int 0)) h 2 (.int 0)) q_6 50 512).2.1 h 1 = .int 0 := ((congrFun (sA_g h (ne0 r_2 o_q_6 (by decide))).2.1 1).trans (sF_k sF_eq (by decide)))
  have kn_14 : (sA (sF (sF (sF g_5 h 0 (.ref q_1)) h 1 (.int 0)) h 2 (.int 0)) q_6 50 512).2.1 h 2 = .int 0 := ((congrFun (sA_g h (ne0 r_2 o_q_6 (by decide))).2.1 2).trans sF_eq)
  generalize (sA (sF (sF (sF g_5 h 0 (.ref q_1)) h 1 (.int 0)) h 2 (.int 0)) q_6 50 512) = g_15 at hT hI hM hE r_7 r_8 r_9 n_10 n_11 kn_12 kn_13 kn_14
  clear n_4 r_2 r_3
  refine W.widen (k := 2) (n := 518) (Nat.le_of_ble_eq_true rfl) (Nat.le_of_ble_eq_true rfl) ?_
  refine t_put0 (ci := 5) (v := .ref q_6) hB hT (ro_ci r_7 rfl) (ro_n0 r_7 (by decide)) rfl 3 (by decide) k_207 (Or.inr ⟨hin, rfl⟩) rfl rfl dX5_init_29 (fun H locs hT => ?_)
  replace hI : Inv (sF g_15 h 3 (.ref q_6)) := hI.sF (fk r_7 (show fsm _ _ ft from trivial))
  replace hM : Sm md_n_World g (sF g_15 h 3 (.ref q_6)) := hM.tr hE (Sm_sF (by rw [r_7]; rfl))
  replace hE : Ex g (sF g_15 h 3 (.ref q_6)) := hE
  refine lv_aload_n hx hb dX5_init_32 rfl (lv_at hl 0 rfl) ?_
  refine lv_iconst (v := 0) hx hb dX5_init_33 (by decide) ?_
  refine t_put0 (ci := 5) (v := .int 0) hB hT (ro_ci r_7 rfl) (ro_n0 r_7 (by decide)) rfl 4 (by decide) k_210 (Or.inl rfl) rfl rfl dX5_init_34 (fun H locs hT => ?_)
  replace hI : Inv (sF (sF g_15 h 3 (.ref q_6)) h 4 (.int 0)) := hI.sF (fk r_7 (show fsm _ _ ft from trivial))
  replace hM : Sm md_n_World g (sF (sF g_15 h 3 (.ref q_6)) h 4 (.int 0)) := hM.tr hE (Sm_sF (by rw [r_7]; rfl))
  replace hE : Ex g (sF (sF g_15 h 3 (.ref q_6)) h 4 (.int 0)) := hE
  refine lv_aload_n hx hb dX5_init_37 rfl (lv_at hl 0 rfl) ?_
  refine lv_iconst (v := 0) hx hb dX5_init_38 (by decide) ?_
  refine t_put0 (ci := 5) (v := .int 0) hB hT (ro_ci r_7 rfl) (ro_n0 r_7 (by decide)) rfl 5 (by decide) k_213 (Or.inl rfl) rfl rfl dX5_init_39 (fun H locs hT => ?_)
  replace hI : Inv (sF (sF (sF g_15 h 3 (.ref q_6)) h 4 (.int 0)) h 5 (.int 0)) := hI.sF (fk r_7 (show fsm _ _ ft from trivial))
  replace hM : Sm md_n_World g (sF (sF (sF g_15 h 3 (.ref q_6)) h 4 (.int 0)) h 5 (.int 0)) := hM.tr hE (Sm_sF (by rw [r_7]; rfl))
  replace hE : Ex g (sF (sF (sF g_15 h 3 (.ref q_6)) h 4 (.int 0)) h 5 (.int 0)) := hE
  refine lv_aload_n hx hb dX5_init_42 rfl (lv_at hl 0 rfl) ?_
  refine lv_iconst (v := 0) hx hb dX5_init_43 (by decide) ?_
  refine t_put0 (ci := 5) (v := .int 0) hB hT (ro_ci r_7 rfl) (ro_n0 r_7 (by decide)) rfl 6 (by decide) k_215 (Or.inl rfl) rfl rfl dX5_init_44 (fun H locs hT => ?_)
  replace hI : Inv (sF (sF (sF (sF g_15 h 3 (.ref q_6)) h 4 (.int 0)) h 5 (.int 0)) h 6 (.int 0)) := hI.sF (fk r_7 (show fsm _ _ ft from trivial))
  replace hM : Sm md_n_World g (sF (sF (sF (sF g_15 h 3 (.ref q_6)) h 4 (.int 0)) h 5 (.int 0)) h 6 (.int 0)) := hM.tr hE (Sm_sF (by rw [r_7]; rfl))
  replace hE : Ex g (sF (sF (sF (sF g_15 h 3 (.ref q_6)) h 4 (.int 0)) h 5 (.int 0)) h 6 (.int 0)) := hE
  refine lv_aload_n hx hb dX5_init_47 rfl (lv_at hl 0 rfl) ?_
  refine lv_iconst (v := 0) hx hb dX5_init_48 (by decide) ?_
  refine t_put0 (ci := 5) (v := .int 0) hB hT (ro_ci r_7 rfl) (ro_n0 r_7 (by decide)) rfl 7 (by decide) k_216 (Or.inl rfl) rfl rfl dX5_init_49 (fun H locs hT => ?_)
  replace hI : Inv (sF (sF (sF (sF (sF g_15 h 3 (.ref q_6)) h 4 (.int 0)) h 5 (.int 0)) h 6 (.int 0)) h 7 (.int 0)) := hI.sF (fk r_7 (show fsm _ _ ft from trivial))
  replace hM : Sm md_n_World g (sF (sF (sF (sF (sF g_15 h 3 (.ref q_6)) h 4 (.int 0)) h 5 (.int 0)) h 6 (.int 0)) h 7 (.int 0)) := hM.tr hE (Sm_sF (by rw [r_7]; rfl))
  replace hE : Ex g (sF (sF (sF (sF (sF g_15 h 3 (.ref q_6)) h 4 (.int 0)) h 5 (.int 0)) h 6 (.int 0)) h 7 (.int 0)) := hE
  refine lv_iconst (v := 0) hx hb dX5_init_52 (by decide) ?_
  refine lv_istore_n (lv' := [(1, .int 0), (0, .ref h)]) hx hb dX5_init_53 rfl hl (by decide) rfl (fun ls hl => ?_)
  refine lv_iload_n hx hb dX5_init_54 rfl (lv_at hl 0 rfl) ?_
  refine lv_bipush (v := 6) hx hb dX5_init_55 (by decide) ?_
  refine lv_icmp_ge (tgt := 79) hx hb dX5_init_57 (by decide) (fun c_ => absurd c_ (by decide)) (fun c_ => ?_)
  refine lv_aload_n hx hb dX5_init_60 rfl (lv_at hl 1 rfl) ?_
  refine t_get (ci := 5) (v := .ref q_1) hB hT (ro_ci r_7 rfl) rfl 0 (by decide) k_199 (sF_k (sF_k (sF_k (sF_k (sF_k kn_12 (by decide)) (by decide)) (by decide)) (by decide)) (by decide)) dX5_init_61 ?_
  refine lv_iload_n hx hb dX5_init_64 rfl (lv_at hl 0 rfl) ?_
  refine t_new (ci := 3) (fs := [.null, .null, .int 0, .int 0, .int 0, .int 0, .null, .null, .null, .null, .int 0, .int 0, .null, .null, .int 0]) hB hT rfl (by decide) k_108 k_110 k_60 (fnew_3) (Nat.le_of_ble_eq_true rfl) (Nat.le_of_ble_eq_true rfl) dX5_init_65 (fun q_16 H o_q_16 hT => ?_)
  have z_q_16 : g.1 q_16 = 0 := hE.z0 o_q_16
  replace hI : Inv (sN (sF (sF (sF (sF (sF g_15 h 3 (.ref q_6)) h 4 (.int 0)) h 5 (.int 0)) h 6 (.int 0)) h 7 (.int 0)) q_16 14 (vp_V [.null, .null, .int 0, .int 0, .int 0, .int 0, .null, .null, .null, .null, .int 0, .int 0, .null, .null, .int 0])) := hI.newo o_q_16 (fun _ => rfl) (fun _ => trivial) (fun _ _ => trivial)
  replace hM : Sm md_n_World g (sN (sF (sF (sF (sF (sF g_15 h 3 (.ref q_6)) h 4 (.int 0)) h 5 (.int 0)) h 6 (.int 0)) h 7 (.int 0)) q_16 14 (vp_V [.null, .null, .int 0, .int 0, .int 0, .int 0, .null, .null, .null, .null, .int 0, .int 0, .null, .null, .int 0])) := hM.tr hE (Sm.push o_q_16 sN_g)
  replace hE : Ex g (sN (sF (sF (sF (sF (sF g_15 h 3 (.ref q_6)) h 4 (.int 0)) h 5 (.int 0)) h 6 (.int 0)) h 7 (.int 0)) q_16 14 (vp_V [.null, .null, .int 0, .int 0, .int 0, .int 0, .null, .null, .null, .null, .int 0, .int 0, .null, .null, .int 0])) := hE.tr (Ex.push o_q_16 sN_g)
  have r_17 : (sN (sF (sF (sF (sF (sF g_15 h 3 (.ref q_6)) h 4 (.int 0)) h 5 (.int 0)) h 6 (.int 0)) h 7 (.int 0)) q_16 14 (vp_V [.null, .null, .int 0, .int 0, .int 0, .int 0, .null, .null, .null, .null, .int 0, .int 0, .null, .null, .int 0])).1 h = 16 := ((sN_g h (ne0 r_7 o_q_16 (by decide))).1.trans r_7)
  have r_18 : (sN (sF (sF (sF (sF (sF g_15 h 3 (.ref q_6)) h 4 (.int 0)) h 5 (.int 0)) h 6 (.int 0)) h 7 (.int 0)) q_16 14 (vp_V [.null, .null, .int 0, .int 0, .int 0, .int 0, .null, .null, .null, .null, .int 0, .int 0, .null, .null, .int 0])).1 q_1 = 44 := ((sN_g q_1 (ne0 r_8 o_q_16 (by decide))).1.trans r_8)
  have r_19 : (sN (sF (sF (sF (sF (sF g_15 h 3 (.ref q_6)) h 4 (.int 0)) h 5 (.int 0)) h 6 (.int 0)) h 7 (.int 0)) q_16 14 (vp_V [.null, .null, .int 0, .int 0, .int 0, .int 0, .null, .null, .null, .null, .int 0, .int 0, .null, .null, .int 0])).1 q_6 = 50 := ((sN_g q_6 (ne0 r_9 o_q_16 (by decide))).1.trans r_9)
  have r_20 : (sN (sF (sF (sF (sF (sF g_15 h 3 (.ref q_6)) h 4 (.int 0)) h 5 (.int 0)) h 6 (.int 0)) h 7 (.int 0)) q_16 14 (vp_V [.null, .null, .int 0, .int 0, .int 0, .int 0, .null, .null, .null, .null, .int 0, .int 0, .null, .null, .int 0])).1 q_16 = 14 := sN_r
  have n_21 : (sN (sF (sF (sF (sF (sF g_15 h 3 (.ref q_6)) h 4 (.int 0)) h 5 (.int 0)) h 6 (.int 0)) h 7 (.int 0)) q_16 14 (vp_V [.null, .null, .int 0, .int 0, .int 0, .int 0, .null, .null, .null, .null, .int 0, .int 0, .null, .null, .int 0])).2.2.1 q_1 = 6 := ((sN_g q_1 (ne0 r_8 o_q_16 (by decide))).2.2.1.trans n_10)
  have n_22 : (sN (sF (sF (sF (sF (sF g_15 h 3 (.ref q_6)) h 4 (.int 0)) h 5 (.int 0)) h 6 (.int 0)) h 7 (.int 0)) q_16 14 (vp_V [.null, .null, .int 0, .int 0, .int 0, .int 0, .null, .null, .null, .null, .int 0, .int 0, .null, .null, .int 0])).2.2.1 q_6 = 512 := ((sN_g q_6 (ne0 r_9 o_q_16 (by decide))).2.2.1.trans n_11)
  have kn_23 : (sN (sF (sF (sF (sF (sF g_15 h 3 (.ref q_6)) h 4 (.int 0)) h 5 (.int 0)) h 6 (.int 0)) h 7 (.int 0)) q_16 14 (vp_V [.null, .null, .int 0, .int 0, .int 0, .int 0, .null, .null, .null, .null, .int 0, .int 0, .null, .null, .int 0])).2.1 h 0 = .ref q_1 := ((congrFun (sN_g h (ne0 r_7 o_q_16 (by decide))).2.1 0).trans (sF_k (sF_k (sF_k (sF_k (sF_k kn_12 (by decide)) (by decide)) (by decide)) (by decide)) (by decide)))
  have kn_24 : (sN (sF (sF (sF (sF (sF g_15 h 3 (.ref q_6)) h 4 (.int 0)) h 5 (.int 0)) h 6 (.int 0)) h 7 (.int 0)) q_16 14 (vp_V [.null, .null, .int 0, .int 0, .int 0, .int 0, .null, .null, .null, .null, .int 0, .int 0, .null, .null, .int 0])).2.1 h 1 = .int 0 := ((congrFun (sN_g h (ne0 r_7 o_q_16 (by decide))).2.1 1).trans (sF_k (sF_k (sF_k (sF_k (sF_k kn_13 (by decide)) (by decide)) (by decide)) (by decide)) (by decide)))
  have kn_25 : (sN (sF (sF (sF (sF (sF g_15 h 3 (.ref q_6)) h 4 (.int 0)) h 5 (.int 0)) h 6 (.int 0)) h 7 (.int 0)) q_16 14 (vp_V [.null, .null, .int 0, .int 0, .int 0, .int 0, .null, .null, .null, .null, .int 0, .int 0, .null, .null, .int 0])).2.1 h 2 = .int 0 := ((congrFun (sN_g h (ne0 r_7 o_q_16 (by decide))).2.1 2).trans (sF_k (sF_k (sF_k (sF_k (sF_k kn_14 (by decide)) (by decide)) (by decide)) (by decide)) (by decide)))
  have kn_26 : (sN (sF (sF (sF (sF (sF g_15 h 3 (.ref q_6)) h 4 (.int 0)) h 5 (.int 0)) h 6 (.int 0)) h 7 (.int 0)) q_16 14 (vp_V [.null, .null, .int 0, .int 0, .int 0, .int 0, .null, .null, .null, .null, .int 0, .int 0, .null, .null, .int 0])).2.1 h 3 = .ref q_6 := ((congrFun (sN_g h (ne0 r_7 o_q_16 (by decide))).2.1 3).trans (sF_k (sF_k (sF_k (sF_k sF_eq (by decide)) (by decide)) (by decide)) (by decide)))
  have kn_27 : (sN (sF (sF (sF (sF (sF g_15 h 3 (.ref q_6)) h 4 (.int 0)) h 5 (.int 0)) h 6 (.int 0)) h 7 (.int 0)) q_16 14 (vp_V [.null, .null, .int 0, .int 0, .int 0, .int 0, .null, .null, .null, .null, .int 0, .int 0, .null, .null, .int 0])).2.1 h 4 = .int 0 := ((congrFun (sN_g h (ne0 r_7 o_q_16 (by decide))).2.1 4).trans (sF_k (sF_k (sF_k sF_eq (by decide)) (by decide)) (by decide)))
  have kn_28 : (sN (sF (sF (sF (sF (sF g_15 h 3 (.ref q_6)) h 4 (.int 0)) h 5 (.int 0)) h 6 (.int 0)) h 7 (.int 0)) q_16 14 (vp_V [.null, .null, .int 0, .int 0, .int 0, .int 0, .null, .null, .null, .null, .int 0, .int 0, .null, .null, .int 0])).2.1 h 5 = .int 0 := ((congrFun (sN_g h (ne0 r_7 o_q_16 (by decide))).2.1 5).trans (sF_k (sF_k sF_eq (by decide)) (by decide)))
  have kn_29 : (sN (sF (sF (sF (sF (sF g_15 h 3 (.ref q_6)) h 4 (.int 0)) h 5 (.int 0)) h 6 (.int 0)) h 7 (.int 0)) q_16 14 (vp_V [.null, .null, .int 0, .int 0, .int 0, .int 0, .null, .null, .null, .null, .int 0, .int 0, .null, .null, .int 0])).2.1 h 6 = .int 0 := ((congrFun (sN_g h (ne0 r_7 o_q_16 (by decide))).2.1 6).trans (sF_k sF_eq (by decide)))
  have kn_30 : (sN (sF (sF (sF (sF (sF g_15 h 3 (.ref q_6)) h 4 (.int 0)) h 5 (.int 0)) h 6 (.int 0)) h 7 (.int 0)) q_16 14 (vp_V [.null, .null, .int 0, .int 0, .int 0, .int 0, .null, .null, .null, .null, .int 0, .int 0, .null, .null, .int 0])).2.1 h 7 = .int 0 := ((congrFun (sN_g h (ne0 r_7 o_q_16 (by decide))).2.1 7).trans sF_eq)
  have kn_31 : (sN (sF (sF (sF (sF (sF g_15 h 3 (.ref q_6)) h 4 (.int 0)) h 5 (.int 0)) h 6 (.int 0)) h 7 (.int 0)) q_16 14 (vp_V [.null, .null, .int 0, .int 0, .int 0, .int 0, .null, .null, .null, .null, .int 0, .int 0, .null, .null, .int 0])).2.1 q_16 0 = .null := sN_f
  have kn_32 : (sN (sF (sF (sF (sF (sF g_15 h 3 (.ref q_6)) h 4 (.int 0)) h 5 (.int 0)) h 6 (.int 0)) h 7 (.int 0)) q_16 14 (vp_V [.null, .null, .int 0, .int 0, .int 0, .int 0, .null, .null, .null, .null, .int 0, .int 0, .null, .null, .int 0])).2.1 q_16 1 = .null := sN_f
  have kn_33 : (sN (sF (sF (sF (sF (sF g_15 h 3 (.ref q_6)) h 4 (.int 0)) h 5 (.int 0)) h 6 (.int 0)) h 7 (.int 0)) q_16 14 (vp_V [.null, .null, .int 0, .int 0, .int 0, .int 0, .null, .null, .null, .null, .int 0, .int 0, .null, .null, .int 0])).2.1 q_16 2 = .int 0 := sN_f
  have kn_34 : (sN (sF (sF (sF (sF (sF g_15 h 3 (.ref q_6)) h 4 (.int 0)) h 5 (.int 0)) h 6 (.int 0)) h 7 (.int 0)) q_16 14 (vp_V [.null, .null, .int 0, .int 0, .int 0, .int 0, .null, .null, .null, .null, .int 0, .int 0, .null, .null, .int 0])).2.1 q_16 3 = .int 0 := sN_f
  have kn_35 : (sN (sF (sF (sF (sF (sF g_15 h 3 (.ref q_6)) h 4 (.int 0)) h 5 (.int 0)) h 6 (.int 0)) h 7 (.int 0)) q_16 14 (vp_V [.null, .null, .int 0, .int 0, .int 0, .int 0, .null, .null, .null, .null, .int 0, .int 0, .null, .null, .int 0])).2.1 q_16 4 = .int 0 := sN_f
  have kn_36 : (sN (sF (sF (sF (sF (sF g_15 h 3 (.ref q_6)) h 4 (.int 0)) h 5 (.int 0)) h 6 (.int 0)) h 7 (.int 0)) q_16 14 (vp_V [.null, .null, .int 0, .int 0, .int 0, .int 0, .null, .null, .null, .null, .int 0, .int 0, .null, .null, .int 0])).2.1 q_16 5 = .int 0 := sN_f
  have kn_37 : (sN (sF (sF (sF (sF (sF g_15 h 3 (.ref q_6)) h 4 (.int 0)) h 5 (.int 0)) h 6 (.int 0)) h 7 (.int 0)) q_16 14 (vp_V [.null, .null, .int 0, .int 0, .int 0, .int 0, .null, .null, .null, .null, .int 0, .int 0, .null, .null, .int 0])).2.1 q_16 6 = .null := sN_f
  have kn_38 : (sN (sF (sF (sF (sF (sF g_15 h 3 (.ref q_6)) h 4 (.int 0)) h 5 (.int 0)) h 6 (.int 0)) h 7 (.int 0)) q_16 14 (vp_V [.null, .null, .int 0, .int 0, .int 0, .int 0, .null, .null, .null, .null, .int 0, .int 0, .null, .null, .int 0])).2.1 q_16 7 = .null := sN_f
  have kn_39 : (sN (sF (sF (sF (sF (sF g_15 h 3 (.ref q_6)) h 4 (.int 0)) h 5 (.int 0)) h 6 (.int 0)) h 7 (.int 0)) q_16 14 (vp_V [.null, .null, .int 0, .int 0, .int 0, .int 0, .null, .null, .null, .null, .int 0, .int 0, .null, .null, .int 0])).2.1 q_16 8 = .null := sN_f
  have kn_40 : (sN (sF (sF (sF (sF (sF g_15 h 3 (.ref q_6)) h 4 (.int 0)) h 5 (.int 0)) h 6 (.int 0)) h 7 (.int 0)) q_16 14 (vp_V [.null, .null, .int 0, .int 0, .int 0, .int 0, .null, .null, .null, .null, .int 0, .int 0, .null, .null, .int 0])).2.1 q_16 9 = .null := sN_f
  have kn_41 : (sN (sF (sF (sF (sF (sF g_15 h 3 (.ref q_6)) h 4 (.int 0)) h 5 (.int 0)) h 6 (.int 0)) h 7 (.int 0)) q_16 14 (vp_V [.null, .null, .int 0, .int 0, .int 0, .int 0, .null, .null, .null, .null, .int 0, .int 0, .null, .null, .int 0])).2.1 q_16 10 = .int 0 := sN_f
  have kn_42 : (sN (sF (sF (sF (sF (sF g_15 h 3 (.ref q_6)) h 4 (.int 0)) h 5 (.int 0)) h 6 (.int 0)) h 7 (.int 0)) q_16 14 (vp_V [.null, .null, .int 0, .int 0, .int 0, .int 0, .null, .null, .null, .null, .int 0, .int 0, .null, .null, .int 0])).2.1 q_16 11 = .int 0 := sN_f
  have kn_43 : (sN (sF (sF (sF (sF (sF g_15 h 3 (.ref q_6)) h 4 (.int 0)) h 5 (.int 0)) h 6 (.int 0)) h 7 (.int 0)) q_16 14 (vp_V [.null, .null, .int 0, .int 0, .int 0, .int 0, .null, .null, .null, .null, .int 0, .int 0, .null, .null, .int 0])).2.1 q_16 12 = .null := sN_f
  have kn_44 : (sN (sF (sF (sF (sF (sF g_15 h 3 (.ref q_6)) h 4 (.int 0)) h 5 (.int 0)) h 6 (.int 0)) h 7 (.int 0)) q_16 14 (vp_V [.null, .null, .int 0, .int 0, .int 0, .int 0, .null, .null, .null, .null, .int 0, .int 0, .null, .null, .int 0])).2.1 q_16 13 = .null := sN_f
  have kn_45 : (sN (sF (sF (sF (sF (sF g_15 h 3 (.ref q_6)) h 4 (.int 0)) h 5 (.int 0)) h 6 (.int 0)) h 7 (.int 0)) q_16 14 (vp_V [.null, .null, .int 0, .int 0, .int 0, .int 0, .null, .null, .null, .null, .int 0, .int 0, .null, .null, .int 0])).2.1 q_16 14 = .int 0 := sN_f
  generalize (sN (sF (sF (sF (sF (sF g_15 h 3 (.ref q_6)) h 4 (.int 0)) h 5 (.int 0)) h 6 (.int 0)) h 7 (.int 0)) q_16 14 (vp_V [.null, .null, .int 0, .int 0, .int 0, .int 0, .null, .null, .null, .null, .int 0, .int 0, .null, .null, .int 0])) = g_46 at hT hI hM hE r_17 r_18 r_19 r_20 n_21 n_22 kn_23 kn_24 kn_25 kn_26 kn_27 kn_28 kn_29 kn_30 kn_31 kn_32 kn_33 kn_34 kn_35 kn_36 kn_37 kn_38 kn_39 kn_40 kn_41 kn_42 kn_43 kn_44 kn_45
  clear kn_12 kn_13 kn_14 n_10 n_11 r_7 r_8 r_9
  refine W.widen (k := 3) (n := 533) (Nat.le_of_ble_eq_true rfl) (Nat.le_of_ble_eq_true rfl) ?_
  refine lv_dup hx hb dX5_init_68 rfl ?_
  refine t_callIN (n := 0) (As := []) (rest := [.ref q_16, .int 0, .ref q_1]) hB hT hl.1 (n_Service l D cI cZ cS cR N0 g_46 hI q_16 r_20) k_113 k_60 hB.2.2.2.2.2.2.2.1.2.1 k_112 rfl (by decide +kernel) ⟨(Nat.le_of_ble_eq_true rfl), (Nat.le_of_ble_eq_true rfl)⟩ rfl (Nat.le_of_ble_eq_true rfl) ⟨(Nat.le_of_ble_eq_true rfl), (Nat.le_of_ble_eq_true rfl)⟩ dX5_init_69 (fun v g_47 H locs hp hT => ?_)
  obtain ⟨rfl, hI, x_51, m_50, r_52, f_48, f_49⟩ := hp
  replace hM : Sm md_n_World g g_47 := hM.tr hE (m_50.mo (fun r k h => mdle_n_World_n_Service h))
  replace hE : Ex g g_47 := hE.trx z_q_16 x_51
  have r_53 : g_47.1 h = 16 := (Exx.r x_51 r_17 (by decide) (ro_ne r_17 r_20 (by decide)))
  have r_54 : g_47.1 q_1 = 44 := (Exx.r x_51 r_18 (by decide) (ro_ne r_18 r_20 (by decide)))
  have r_55 : g_47.1 q_6 = 50 := (Exx.r x_51 r_19 (by decide) (ro_ne r_19 r_20 (by decide)))
  have r_56 : g_47.1 q_16 = 10 := r_52
  have n_57 : g_47.2.2.1 q_1 = 6 := (Exx.n x_51 r_18 (by decide) (ro_ne r_18 r_20 (by decide)) n_21)
  have n_58 : g_47.2.2.1 q_6 = 512 := (Exx.n x_51 r_19 (by decide) (ro_ne r_19 r_20 (by decide)) n_22)
  have kn_59 : g_47.2.1 h 0 = .ref q_1 := (Sm.v m_50 r_17 (by decide) rfl kn_23)
  have kn_60 : g_47.2.1 h 1 = .int 0 := (Sm.v m_50 r_17 (by decide) rfl kn_24)
  have kn_61 : g_47.2.1 h 2 = .int 0 := (Sm.v m_50 r_17 (by decide) rfl kn_25)
  have kn_62 : g_47.2.1 h 3 = .ref q_6 := (Sm.v m_50 r_17 (by decide) rfl kn_26)
  have kn_63 : g_47.2.1 h 4 = .int 0 := (Sm.v m_50 r_17 (by decide) rfl kn_27)
  have kn_64 : g_47.2.1 h 5 = .int 0 := (Sm.v m_50 r_17 (by decide) rfl kn_28)
  have kn_65 : g_47.2.1 h 6 = .int 0 := (Sm.v m_50 r_17 (by decide) rfl kn_29)
  have kn_66 : g_47.2.1 h 7 = .int 0 := (Sm.v m_50 r_17 (by decide) rfl kn_30)
  refine W.eq (g2 := F0 m 72 ls [.ref q_16, .int 0, .ref q_1]) rfl ?_
  have i_67 : vp_in (0 : Int32) 6 := (by unfold vp_in; decide)
  refine t_astq hB hT r_54 n_57 (ro_ci r_56 rfl) i_67 dX5_init_72 (fun H locs hT => ?_)
  replace hI : Inv (sQ g_47 q_1 (0 : Int32).toNatClampNeg (some q_16)) := hI.sQ (by rw [r_54]; exact trivial)
  replace hM : Sm md_n_World g (sQ g_47 q_1 (0 : Int32).toNatClampNeg (some q_16)) := hM.tr hE (Sm_sQ (by rw [r_54]; rfl))
  replace hE : Ex g (sQ g_47 q_1 (0 : Int32).toNatClampNeg (some q_16)) := hE
  have r_68 : (sQ g_47 q_1 (0 : Int32).toNatClampNeg (some q_16)).1 h = 16 := r_53
  have r_69 : (sQ g_47 q_1 (0 : Int32).toNatClampNeg (some q_16)).1 q_1 = 44 := r_54
  have r_70 : (sQ g_47 q_1 (0 : Int32).toNatClampNeg (some q_16)).1 q_6 = 50 := r_55
  have r_71 : (sQ g_47 q_1 (0 : Int32).toNatClampNeg (some q_16)).1 q_16 = 10 := r_56
  have n_72 : (sQ g_47 q_1 (0 : Int32).toNatClampNeg (some q_16)).2.2.1 q_1 = 6 := n_57
  have n_73 : (sQ g_47 q_1 (0 : Int32).toNatClampNeg (some q_16)).2.2.1 q_6 = 512 := n_58
  have kn_74 : (sQ g_47 q_1 (0 : Int32).toNatClampNeg (some q_16)).2.1 h 0 = .ref q_1 := kn_59
  have kn_75 : (sQ g_47 q_1 (0 : Int32).toNatClampNeg (some q_16)).2.1 h 1 = .int 0 := kn_60
  have kn_76 : (sQ g_47 q_1 (0 : Int32).toNatClampNeg (some q_16)).2.1 h 2 = .int 0 := kn_61
  have kn_77 : (sQ g_47 q_1 (0 : Int32).toNatClampNeg (some q_16)).2.1 h 3 = .ref q_6 := kn_62
  have kn_78 : (sQ g_47 q_1 (0 : Int32).toNatClampNeg (some q_16)).2.1 h 4 = .int 0 := kn_63
  have kn_79 : (sQ g_47 q_1 (0 : Int32).toNatClampNeg (some q_16)).2.1 h 5 = .int 0 := kn_64
  have kn_80 : (sQ g_47 q_1 (0 : Int32).toNatClampNeg (some q_16)).2.1 h 6 = .int 0 := kn_65
  have kn_81 : (sQ g_47 q_1 (0 : Int32).toNatClampNeg (some q_16)).2.1 h 7 = .int 0 := kn_66
  have kn_82 : (sQ g_47 q_1 (0 : Int32).toNatClampNeg (some q_16)).2.1 q_16 3 = .int 0 := f_48
  have kn_83 : (sQ g_47 q_1 (0 : Int32).toNatClampNeg (some q_16)).2.1 q_16 4 = .int 10 := f_49
  have kn_84 : (sQ g_47 q_1 (0 : Int32).toNatClampNeg (some q_16)).2.2.2.2 q_1 0 = some q_16 := sQ_eq
  generalize (sQ g_47 q_1 (0 : Int32).toNatClampNeg (some q_16)) = g_85 at hT hI hM hE r_68 r_69 r_70 r_71 n_72 n_73 kn_74 kn_75 kn_76 kn_77 kn_78 kn_79 kn_80 kn_81 kn_82 kn_83 kn_84
  clear kn_59 kn_60 kn_61 kn_62 kn_63 kn_64 kn_65 kn_66 n_57 n_58 r_53 r_54 r_55 r_56
  refine lv_iinc (v := 1) (lv' := [(1, .int 1), (0, .ref h)]) hx hb dX5_init_73 hl (k := 0) rfl (by decide) (by decide) rfl (fun ls hl => ?_)
  refine lv_goto (tgt := 54) hx hb dX5_init_76 (by decide) ?_
  refine lv_iload_n hx hb dX5_init_54 rfl (lv_at hl 0 rfl) ?_
  refine lv_bipush (v := 6) hx hb dX5_init_55 (by decide) ?_
  refine lv_icmp_ge (tgt := 79) hx hb dX5_init_57 (by decide) (fun c_ => absurd c_ (by decide)) (fun c_ => ?_)
  refine lv_aload_n hx hb dX5_init_60 rfl (lv_at hl 1 rfl) ?_
  refine t_get (ci := 5) (v := .ref q_1) hB hT (ro_ci r_68 rfl) rfl 0 (by decide) k_199 kn_74 dX5_init_61 ?_
  refine lv_iload_n hx hb dX5_init_64 rfl (lv_at hl 0 rfl) ?_
  refine t_new (ci := 3) (fs := [.null, .null, .int 0, .int 0, .int 0, .int 0, .null, .null, .null, .null, .int 0, .int 0, .null, .null, .int 0]) hB hT rfl (by decide) k_108 k_110 k_60 (fnew_3) (Nat.le_of_ble_eq_true rfl) (Nat.le_of_ble_eq_true rfl) dX5_init_65 (fun q_86 H o_q_86 hT => ?_)
  have z_q_86 : g.1 q_86 = 0 := hE.z0 o_q_86
  replace hI : Inv (sN g_85 q_86 14 (vp_V [.null, .null, .int 0, .int 0, .int 0, .int 0, .null, .null, .null, .null, .int 0, .int 0, .null, .null, .int 0])) := hI.newo o_q_86 (fun _ => rfl) (fun _ => trivial) (fun _ _ => trivial)
  replace hM : Sm md_n_World g (sN g_85 q_86 14 (vp_V [.null, .null, .int 0, .int 0, .int 0, .int 0, .null, .null, .null, .null, .int 0, .int 0, .null, .null, .int 0])) := hM.tr hE (Sm.push o_q_86 sN_g)
  replace hE : Ex g (sN g_85 q_86 14 (vp_V [.null, .null, .int 0, .int 0, .int 0, .int 0, .null, .null, .null, .null, .int 0, .int 0, .null, .null, .int 0])) := hE.tr (Ex.push o_q_86 sN_g)
  have dn_q_16_q_86 : q_16 ≠ q_86 := (ne0 r_71 o_q_86 (by decide))
  have r_87 : (sN g_85 q_86 14 (vp_V [.null, .null, .int 0, .int 0, .int 0, .int 0, .null, .null, .null, .null, .int 0, .int 0, .null, .null, .int 0])).1 h = 16 := ((sN_g h (ne0 r_68 o_q_86 (by decide))).1.trans r_68)
  have r_88 : (sN g_85 q_86 14 (vp_V [.null, .null, .int 0, .int 0, .int 0, .int 0, .null, .null, .null, .null, .int 0, .int 0, .null, .null, .int 0])).1 q_1 = 44 := ((sN_g q_1 (ne0 r_69 o_q_86 (by decide))).1.trans r_69)
  have r_89 : (sN g_85 q_86 14 (vp_V [.null, .null, .int 0, .int 0, .int 0, .int 0, .null, .null, .null, .null, .int 0, .int 0, .null, .null, .int 0])).1 q_6 = 50 := ((sN_g q_6 (ne0 r_70 o_q_86 (by decide))).1.trans r_70)
  have r_90 : (sN g_85 q_86 14 (vp_V [.null, .null, .int 0, .int 0, .int 0, .int 0, .null, .null, .null, .null, .int 0, .int 0, .null, .null, .int 0])).1 q_16 = 10 := ((sN_g q_16 (ne0 r_71 o_q_86 (by decide))).1.trans r_71)
  have r_91 : (sN g_85 q_86 14 (vp_V [.null, .null, .int 0, .int 0, .int 0, .int 0, .null, .null, .null, .null, .int 0, .int 0, .null, .null, .int 0])).1 q_86 = 14 := sN_r
  have n_92 : (sN g_85 q_86 14 (vp_V [.null, .null, .int 0, .int 0, .int 0, .int 0, .null, .null, .null, .null, .int 0, .int 0, .null, .null, .int 0])).2.2.1 q_1 = 6 := ((sN_g q_1 (ne0 r_69 o_q_86 (by decide))).2.2.1.trans n_72)
  have n_93 : (sN g_85 q_86 14 (vp_V [.null, .null, .int 0, .int 0, .int 0, .int 0, .null, .null, .null, .null, .int 0, .int 0, .null, .null, .int 0])).2.2.1 q_6 = 512 := ((sN_g q_6 (ne0 r_70 o_q_86 (by decide))).2.2.1.trans n_73)
  have kn_94 : (sN g_85 q_86 14 (vp_V [.null, .null, .int 0, .int 0, .int 0, .int 0, .null, .null, .null, .null, .int 0, .int 0, .null, .null, .int 0])).2.1 h 0 = .ref q_1 := ((congrFun (sN_g h (ne0 r_68 o_q_86 (by decide))).2.1 0).trans kn_74)
  have kn_95 : (sN g_85 q_86 14 (vp_V [.null, .null, .int 0, .int 0, .int 0, .int 0, .null, .null, .null, .null, .int 0, .int 0, .null, .null, .int 0])).2.1 h 1 = .int 0 := ((congrFun (sN_g h (ne0 r_68 o_q_86 (by decide))).2.1 1).trans kn_75)
  have kn_96 : (sN g_85 q_86 14 (vp_V [.null, .null, .int 0, .int 0, .int 0, .int 0, .null, .null, .null, .null, .int 0, .int 0, .null, .null, .int 0])).2.1 h 2 = .int 0 := ((congrFun (sN_g h (ne0 r_68 o_q_86 (by decide))).2.1 2).trans kn_76)
  have kn_97 : (sN g_85 q_86 14 (vp_V [.null, .null, .int 0, .int 0, .int 0, .int 0, .null, .null, .null, .null, .int 0, .int 0, .null, .null, .int 0])).2.1 h 3 = .ref q_6 := ((congrFun (sN_g h (ne0 r_68 o_q_86 (by decide))).2.1 3).trans kn_77)
  have kn_98 : (sN g_85 q_86 14 (vp_V [.null, .null, .int 0, .int 0, .int 0, .int 0, .null, .null, .null, .null, .int 0, .int 0, .null, .null, .int 0])).2.1 h 4 = .int 0 := ((congrFun (sN_g h (ne0 r_68 o_q_86 (by decide))).2.1 4).trans kn_78)
  have kn_99 : (sN g_85 q_86 14 (vp_V [.null, .null, .int 0, .int 0, .int 0, .int 0, .null, .null, .null, .null, .int 0, .int 0, .null, .null, .int 0])).2.1 h 5 = .int 0 := ((congrFun (sN_g h (ne0 r_68 o_q_86 (by decide))).2.1 5).trans kn_79)
  have kn_100 : (sN g_85 q_86 14 (vp_V [.null, .null, .int 0, .int 0, .int 0, .int 0, .null, .null, .null, .null, .int 0, .int 0, .null, .null, .int 0])).2.1 h 6 = .int 0 := ((congrFun (sN_g h (ne0 r_68 o_q_86 (by decide))).2.1 6).trans kn_80)
  have kn_101 : (sN g_85 q_86 14 (vp_V [.null, .null, .int 0, .int 0, .int 0, .int 0, .null, .null, .null, .null, .int 0, .int 0, .null, .null, .int 0])).2.1 h 7 = .int 0 := ((congrFun (sN_g h (ne0 r_68 o_q_86 (by decide))).2.1 7).trans kn_81)
  have kn_102 : (sN g_85 q_86 14 (vp_V [.null, .null, .int 0, .int 0, .int 0, .int 0, .null, .null, .null, .null, .int 0, .int 0, .null, .null, .int 0])).2.1 q_16 3 = .int 0 := ((congrFun (sN_g q_16 (ne0 r_71 o_q_86 (by decide))).2.1 3).trans kn_82)
  have kn_103 : (sN g_85 q_86 14 (vp_V [.null, .null, .int 0, .int 0, .int 0, .int 0, .null, .null, .null, .null, .int 0, .int 0, .null, .null, .int 0])).2.1 q_16 4 = .int 10 := ((congrFun (sN_g q_16 (ne0 r_71 o_q_86 (by decide))).2.1 4).trans kn_83)
  have kn_104 : (sN g_85 q_86 14 (vp_V [.null, .null, .int 0, .int 0, .int 0, .int 0, .null, .null, .null, .null, .int 0, .int 0, .null, .null, .int 0])).2.1 q_86 0 = .null := sN_f
  have kn_105 : (sN g_85 q_86 14 (vp_V [.null, .null, .int 0, .int 0, .int 0, .int 0, .null, .null, .null, .null, .int 0, .int 0, .null, .null, .int 0])).2.1 q_86 1 = .null := sN_f
  have kn_106 : (sN g_85 q_86 14 (vp_V [.null, .null, .int 0, .int 0, .int 0, .int 0, .null, .null, .null, .null, .int 0, .int 0, .null, .null, .int 0])).2.1 q_86 2 = .int 0 := sN_f
  have kn_107 : (sN g_85 q_86 14 (vp_V [.null, .null, .int 0, .int 0, .int 0, .int 0, .null, .null, .null, .null, .int 0, .int 0, .null, .null, .int 0])).2.1 q_86 3 = .int 0 := sN_f
  have kn_108 : (sN g_85 q_86 14 (vp_V [.null, .null, .int 0, .int 0, .int 0, .int 0, .null, .null, .null, .null, .int 0, .int 0, .null, .null, .int 0])).2.1 q_86 4 = .int 0 := sN_f
  have kn_109 : (sN g_85 q_86 14 (vp_V [.null, .null, .int 0, .int 0, .int 0, .int 0, .null, .null, .null, .null, .int 0, .int 0, .null, .null, .int 0])).2.1 q_86 5 = .int 0 := sN_f
  have kn_110 : (sN g_85 q_86 14 (vp_V [.null, .null, .int 0, .int 0, .int 0, .int 0, .null, .null, .null, .null, .int 0, .int 0, .null, .null, .int 0])).2.1 q_86 6 = .null := sN_f
  have kn_111 : (sN g_85 q_86 14 (vp_V [.null, .null, .int 0, .int 0, .int 0, .int 0, .null, .null, .null, .null, .int 0, .int 0, .null, .null, .int 0])).2.1 q_86 7 = .null := sN_f
  have kn_112 : (sN g_85 q_86 14 (vp_V [.null, .null, .int 0, .int 0, .int 0, .int 0, .null, .null, .null, .null, .int 0, .int 0, .null, .null, .int 0])).2.1 q_86 8 = .null := sN_f
  have kn_113 : (sN g_85 q_86 14 (vp_V [.null, .null, .int 0, .int 0, .int 0, .int 0, .null, .null, .null, .null, .int 0, .int 0, .null, .null, .int 0])).2.1 q_86 9 = .null := sN_f
  have kn_114 : (sN g_85 q_86 14 (vp_V [.null, .null, .int 0, .int 0, .int 0, .int 0, .null, .null, .null, .null, .int 0, .int 0, .null, .null, .int 0])).2.1 q_86 10 = .int 0 := sN_f
  have kn_115 : (sN g_85 q_86 14 (vp_V [.null, .null, .int 0, .int 0, .int 0, .int 0, .null, .null, .null, .null, .int 0, .int 0, .null, .null, .int 0])).2.1 q_86 11 = .int 0 := sN_f
  have kn_116 : (sN g_85 q_86 14 (vp_V [.null, .null, .int 0, .int 0, .int 0, .int 0, .null, .null, .null, .null, .int 0, .int 0, .null, .null, .int 0])).2.1 q_86 12 = .null := sN_f
  have kn_117 : (sN g_85 q_86 14 (vp_V [.null, .null, .int 0, .int 0, .int 0, .int 0, .null, .null, .null, .null, .int 0, .int 0, .null, .null, .int 0])).2.1 q_86 13 = .null := sN_f
  have kn_118 : (sN g_85 q_86 14 (vp_V [.null, .null, .int 0, .int 0, .int 0, .int 0, .null, .null, .null, .null, .int 0, .int 0, .null, .null, .int 0])).2.1 q_86 14 = .int 0 := sN_f
  have kn_119 : (sN g_85 q_86 14 (vp_V [.null, .null, .int 0, .int 0, .int 0, .int 0, .null, .null, .null, .null, .int 0, .int 0, .null, .null, .int 0])).2.2.2.2 q_1 0 = some q_16 := ((congrFun (sN_g q_1 (ne0 r_69 o_q_86 (by decide))).2.2.2.2 _).trans kn_84)
  generalize (sN g_85 q_86 14 (vp_V [.null, .null, .int 0, .int 0, .int 0, .int 0, .null, .null, .null, .null, .int 0, .int 0, .null, .null, .int 0])) = g_120 at hT hI hM hE r_87 r_88 r_89 r_90 r_91 n_92 n_93 kn_94 kn_95 kn_96 kn_97 kn_98 kn_99 kn_100 kn_101 kn_102 kn_103 kn_104 kn_105 kn_106 kn_107 kn_108 kn_109 kn_110 kn_111 kn_112 kn_113 kn_114 kn_115 kn_116 kn_117 kn_118 kn_119
  clear kn_74 kn_75 kn_76 kn_77 kn_78 kn_79 kn_80 kn_81 kn_82 kn_83 kn_84 n_72 n_73 r_68 r_69 r_70 r_71
  refine W.widen (k := 15) (n := 660) (Nat.le_of_ble_eq_true rfl) (Nat.le_of_ble_eq_true rfl) ?_
  refine lv_dup hx hb dX5_init_68 rfl ?_
  refine t_callIN (n := 0) (As := []) (rest := [.ref q_86, .int 1, .ref q_1]) hB hT hl.1 (n_Service l D cI cZ cS cR N0 g_120 hI q_86 r_91) k_113 k_60 hB.2.2.2.2.2.2.2.1.2.1 k_112 rfl (by decide +kernel) ⟨(Nat.le_of_ble_eq_true rfl), (Nat.le_of_ble_eq_true rfl)⟩ rfl (Nat.le_of_ble_eq_true rfl) ⟨(Nat.le_of_ble_eq_true rfl), (Nat.le_of_ble_eq_true rfl)⟩ dX5_init_69 (fun v g_121 H locs hp hT => ?_)
  obtain ⟨rfl, hI, x_125, m_124, r_126, f_122, f_123⟩ := hp
  replace hM : Sm md_n_World g g_121 := hM.tr hE (m_124.mo (fun r k h => mdle_n_World_n_Service h))
  replace hE : Ex g g_121 := hE.trx z_q_86 x_125
  have r_127 : g_121.1 h = 16 := (Exx.r x_125 r_87 (by decide) (ro_ne r_87 r_91 (by decide)))
  have r_128 : g_121.1 q_1 = 44 := (Exx.r x_125 r_88 (by decide) (ro_ne r_88 r_91 (by decide)))
  have r_129 : g_121.1 q_6 = 50 := (Exx.r x_125 r_89 (by decide) (ro_ne r_89 r_91 (by decide)))
  have r_130 : g_121.1 q_16 = 10 := (Exx.r x_125 r_90 (by decide) (ro_ne r_90 r_91 (by decide)))
  have r_131 : g_121.1 q_86 = 10 := r_126
  have n_132 : g_121.2.2.1 q_1 = 6 := (Exx.n x_125 r_88 (by decide) (ro_ne r_88 r_91 (by decide)) n_92)
  have n_133 : g_121.2.2.1 q_6 = 512 := (Exx.n x_125 r_89 (by decide) (ro_ne r_89 r_91 (by decide)) n_93)
  have kn_134 : g_121.2.1 h 0 = .ref q_1 := (Sm.v m_124 r_87 (by decide) rfl kn_94)
  have kn_135 : g_121.2.1 h 1 = .int 0 := (Sm.v m_124 r_87 (by decide) rfl kn_95)
  have kn_136 : g_121.2.1 h 2 = .int 0 := (Sm.v m_124 r_87 (by decide) rfl kn_96)
  have kn_137 : g_121.2.1 h 3 = .ref q_6 := (Sm.v m_124 r_87 (by decide) rfl kn_97)
  have kn_138 : g_121.2.1 h 4 = .int 0 := (Sm.v m_124 r_87 (by decide) rfl kn_98)
  have kn_139 : g_121.2.1 h 5 = .int 0 := (Sm.v m_124 r_87 (by decide) rfl kn_99)
  have kn_140 : g_121.2.1 h 6 = .int 0 := (Sm.v m_124 r_87 (by decide) rfl kn_100)
  have kn_141 : g_121.2.1 h 7 = .int 0 := (Sm.v m_124 r_87 (by decide) rfl kn_101)
  have kn_142 : g_121.2.1 q_16 3 = .int 0 := (Sm.v m_124 r_90 (by decide) rfl kn_102)
  have kn_143 : g_121.2.1 q_16 4 = .int 10 := (Sm.v m_124 r_90 (by decide) rfl kn_103)
  have kn_144 : g_121.2.2.2.2 q_1 0 = some q_16 := ((congrFun (m_124.2 q_1 (by rw [r_88]; decide) (by rw [r_88]; rfl)).2 _).trans kn_119)
  refine W.eq (g2 := F0 m 72 ls [.ref q_86, .int 1, .ref q_1]) rfl ?_
  have i_145 : vp_in (1 : Int32) 6 := (by unfold vp_in; decide)
  refine t_astq hB hT r_128 n_132 (ro_ci r_131 rfl) i_145 dX5_init_72 (fun H locs hT => ?_)
  replace hI : Inv (sQ g_121 q_1 (1 : Int32).toNatClampNeg (some q_86)) := hI.sQ (by rw [r_128]; exact trivial)
  replace hM : Sm md_n_World g (sQ g_121 q_1 (1 : Int32).toNatClampNeg (some q_86)) := hM.tr hE (Sm_sQ (by rw [r_128]; rfl))
  replace hE : Ex g (sQ g_121 q_1 (1 : Int32).toNatClampNeg (some q_86)) := hE
  have r_146 : (sQ g_121 q_1 (1 : Int32).toNatClampNeg (some q_86)).1 h = 16 := r_127
  have r_147 : (sQ g_121 q_1 (1 : Int32).toNatClampNeg (some q_86)).1 q_1 = 44 := r_128
  have r_148 : (sQ g_121 q_1 (1 : Int32).toNatClampNeg (some q_86)).1 q_6 = 50 := r_129
  have r_149 : (sQ g_121 q_1 (1 : Int32).toNatClampNeg (some q_86)).1 q_16 = 10 := r_130
  have r_150 : (sQ g_121 q_1 (1 : Int32).toNatClampNeg (some q_86)).1 q_86 = 10 := r_131
  have n_151 : (sQ g_121 q_1 (1 : Int32).toNatClampNeg (some q_86)).2.2.1 q_1 = 6 := n_132
  have n_152 : (sQ g_121 q_1 (1 : Int32).toNatClampNeg (some q_86)).2.2.1 q_6 = 512 := n_133
  have kn_153 : (sQ g_121 q_1 (1 : Int32).toNatClampNeg (some q_86)).2.1 h 0 = .ref q_1 := kn_134
  have kn_154 : (sQ g_121 q_1 (1 : Int32).toNatClampNeg (some q_86)).2.1 h 1 = .int 0 := kn_135
  have kn_155 : (sQ g_121 q_1 (1 : Int32).toNatClampNeg (some q_86)).2.1 h 2 = .int 0 := kn_136
  have kn_156 : (sQ g_121 q_1 (1 : Int32).toNatClampNeg (some q_86)).2.1 h 3 = .ref q_6 := kn_137
  have kn_157 : (sQ g_121 q_1 (1 : Int32).toNatClampNeg (some q_86)).2.1 h 4 = .int 0 := kn_138
  have kn_158 : (sQ g_121 q_1 (1 : Int32).toNatClampNeg (some q_86)).2.1 h 5 = .int 0 := kn_139
  have kn_159 : (sQ g_121 q_1 (1 : Int32).toNatClampNeg (some q_86)).2.1 h 6 = .int 0 := kn_140
  have kn_160 : (sQ g_121 q_1 (1 : Int32).toNatClampNeg (some q_86)).2.1 h 7 = .int 0 := kn_141
  have kn_161 : (sQ g_121 q_1 (1 : Int32).toNatClampNeg (some q_86)).2.1 q_16 3 = .int 0 := kn_142
  have kn_162 : (sQ g_121 q_1 (1 : Int32).toNatClampNeg (some q_86)).2.1 q_16 4 = .int 10 := kn_143
  have kn_163 : (sQ g_121 q_1 (1 : Int32).toNatClampNeg (some q_86)).2.1 q_86 3 = .int 0 := f_122
  have kn_164 : (sQ g_121 q_1 (1 : Int32).toNatClampNeg (some q_86)).2.1 q_86 4 = .int 10 := f_123
  have kn_165 : (sQ g_121 q_1 (1 : Int32).toNatClampNeg (some q_86)).2.2.2.2 q_1 0 = some q_16 := (sQ_i kn_144 (by decide))
  have kn_166 : (sQ g_121 q_1 (1 : Int32).toNatClampNeg (some q_86)).2.2.2.2 q_1 1 = some q_86 := sQ_eq
  generalize (sQ g_121 q_1 (1 : Int32).toNatClampNeg (some q_86)) = g_167 at hT hI hM hE r_146 r_147 r_148 r_149 r_150 n_151 n_152 kn_153 kn_154 kn_155 kn_156 kn_157 kn_158 kn_159 kn_160 kn_161 kn_162 kn_163 kn_164 kn_165 kn_166
  clear kn_134 kn_135 kn_136 kn_137 kn_138 kn_139 kn_140 kn_141 kn_142 kn_143 kn_144 n_132 n_133 r_127 r_128 r_129 r_130 r_131
  refine lv_iinc (v := 2) (lv' := [(1, .int 2), (0, .ref h)]) hx hb dX5_init_73 hl (k := 0) rfl (by decide) (by decide) rfl (fun ls hl => ?_)
  refine lv_goto (tgt := 54) hx hb dX5_init_76 (by decide) ?_
  refine lv_iload_n hx hb dX5_init_54 rfl (lv_at hl 0 rfl) ?_
  refine lv_bipush (v := 6) hx hb dX5_init_55 (by decide) ?_
  refine lv_icmp_ge (tgt := 79) hx hb dX5_init_57 (by decide) (fun c_ => absurd c_ (by decide)) (fun c_ => ?_)
  refine lv_aload_n hx hb dX5_init_60 rfl (lv_at hl 1 rfl) ?_
  refine t_get (ci := 5) (v := .ref q_1) hB hT (ro_ci r_146 rfl) rfl 0 (by decide) k_199 kn_153 dX5_init_61 ?_
  refine lv_iload_n hx hb dX5_init_64 rfl (lv_at hl 0 rfl) ?_
  refine t_new (ci := 3) (fs := [.null, .null, .int 0, .int 0, .int 0, .int 0, .null, .null, .null, .null, .int 0, .int 0, .null, .null, .int 0]) hB hT rfl (by decide) k_108 k_110 k_60 (fnew_3) (Nat.le_of_ble_eq_true rfl) (Nat.le_of_ble_eq_true rfl) dX5_init_65 (fun q_168 H o_q_168 hT => ?_)
  have z_q_168 : g.1 q_168 = 0 := hE.z0 o_q_168
  replace hI : Inv (sN g_167 q_168 14 (vp_V [.null, .null, .int 0, .int 0, .int 0, .int 0, .null, .null, .null, .null, .int 0, .int 0, .null, .null, .int 0])) := hI.newo o_q_168 (fun _ => rfl) (fun _ => trivial) (fun _ _ => trivial)
  replace hM : Sm md_n_World g (sN g_167 q_168 14 (vp_V [.null, .null, .int 0, .int 0, .int 0, .int 0, .null, .null, .null, .null, .int 0, .int 0, .null, .null, .int 0])) := hM.tr hE (Sm.push o_q_168 sN_g)
  replace hE : Ex g (sN g_167 q_168 14 (vp_V [.null, .null, .int 0, .int 0, .int 0, .int 0, .null, .null, .null, .null, .int 0, .int 0, .null, .null, .int 0])) := hE.tr (Ex.push o_q_168 sN_g)
  have dn_q_16_q_168 : q_16 ≠ q_168 := (ne0 r_149 o_q_168 (by decide))
  have dn_q_86_q_168 : q_86 ≠ q_168 := (ne0 r_150 o_q_168 (by decide))
  have r_169 : (sN g_167 q_168 14 (vp_V [.null, .null, .int 0, .int 0, .int 0, .int 0, .null, .null, .null, .null, .int 0, .int 0, .null, .null, .int 0])).1 h = 16 := ((sN_g h (ne0 r_146 o_q_168 (by decide))).1.trans r_146)
  have r_170 : (sN g_167 q_168 14 (vp_V [.null, .null, .int 0, .int 0, .int 0, .int 0, .null, .null, .null, .null, .int 0, .int 0, .null, .null, .int 0])).1 q_1 = 44 := ((sN_g q_1 (ne0 r_147 o_q_168 (by decide))).1.trans r_147)
  have r_171 : (sN g_167 q_168 14 (vp_V [.null, .null, .int 0, .int 0, .int 0, .int 0, .null, .null, .null, .null, .int 0, .int 0, .null, .null, .int 0])).1 q_6 = 50 := ((sN_g q_6 (ne0 r_148 o_q_168 (by decide))).1.trans r_148)
  have r_172 : (sN g_167 q_168 14 (vp_V [.null, .null, .int 0, .int 0, .int 0, .int 0, .null, .null, .null, .null, .int 0, .int 0, .null, .null, .int 0])).1 q_16 = 10 := ((sN_g q_16 (ne0 r_149 o_q_168 (by decide))).1.trans r_149)
  have r_173 : (sN g_167 q_168 14 (vp_V [.null, .null, .int 0, .int 0, .int 0, .int 0, .null, .null, .null, .null, .int 0, .int 0, .null, .null, .int 0])).1 q_86 = 10 := ((sN_g q_86 (ne0 r_150 o_q_168 (by decide))).1.trans r_150)
  have r_174 : (sN g_167 q_168 14 (vp_V [.null, .null, .int 0, .int 0, .int 0, .int 0, .null, .null, .null, .null, .int 0, .int 0, .null, .null, .int 0])).1 q_168 = 14 := sN_r
  have n_175 : (sN g_167 q_168 14 (vp_V [.null, .null, .int 0, .int 0, .int 0, .int 0, .null, .null, .null, .null, .int 0, .int 0, .null, .null, .int 0])).2.2.1 q_1 = 6 := ((sN_g q_1 (ne0 r_147 o_q_168 (by decide))).2.2.1.trans n_151)
  have n_176 : (sN g_167 q_168 14 (vp_V [.null, .null, .int 0, .int 0, .int 0, .int 0, .null, .null, .null, .null, .int 0, .int 0, .null, .null, .int 0])).2.2.1 q_6 = 512 := ((sN_g q_6 (ne0 r_148 o_q_168 (by decide))).2.2.1.trans n_152)
  have kn_177 : (sN g_167 q_168 14 (vp_V [.null, .null, .int 0, .int 0, .int 0, .int 0, .null, .null, .null, .null, .int 0, .int 0, .null, .null, .int 0])).2.1 h 0 = .ref q_1 := ((congrFun (sN_g h (ne0 r_146 o_q_168 (by decide))).2.1 0).trans kn_153)
  have kn_178 : (sN g_167 q_168 14 (vp_V [.null, .null, .int 0, .int 0, .int 0, .int 0, .null, .null, .null, .null, .int 0, .int 0, .null, .null, .int 0])).2.1 h 1 = .int 0 := ((congrFun (sN_g h (ne0 r_146 o_q_168 (by decide))).2.1 1).trans kn_154)
  have kn_179 : (sN g_167 q_168 14 (vp_V [.null, .null, .int 0, .int 0, .int 0, .int 0, .null, .null, .null, .null, .int 0, .int 0, .null, .null, .int 0])).2.1 h 2 = .int 0 := ((congrFun (sN_g h (ne0 r_146 o_q_168 (by decide))).2.1 2).trans kn_155)
  have kn_180 : (sN g_167 q_168 14 (vp_V [.null, .null, .int 0, .int 0, .int 0, .int 0, .null, .null, .null, .null, .int 0, .int 0, .null, .null, .int 0])).2.1 h 3 = .ref q_6 := ((congrFun (sN_g h (ne0 r_146 o_q_168 (by decide))).2.1 3).trans kn_156)
  have kn_181 : (sN g_167 q_168 14 (vp_V [.null, .null, .int 0, .int 0, .int 0, .int 0, .null, .null, .null, .null, .int 0, .int 0, .null, .null, .int 0])).2.1 h 4 = .int 0 := ((congrFun (sN_g h (ne0 r_146 o_q_168 (by decide))).2.1 4).trans kn_157)
  have kn_182 : (sN g_167 q_168 14 (vp_V [.null, .null, .int 0, .int 0, .int 0, .int 0, .null, .null, .null, .null, .int 0, .int 0, .null, .null, .int 0])).2.1 h 5 = .int 0 := ((congrFun (sN_g h (ne0 r_146 o_q_168 (by decide))).2.1 5).trans kn_158)
  have kn_183 : (sN g_167 q_168 14 (vp_V [.null, .null, .int 0, .int 0, .int 0, .int 0, .null, .null, .null, .null, .int 0, .int 0, .null, .null, .int 0])).2.1 h 6 = .int 0 := ((congrFun (sN_g h (ne0 r_146 o_q_168 (by decide))).2.1 6).trans kn_159)
  have kn_184 : (sN g_167 q_168 14 (vp_V [.null, .null, .int 0, .int 0, .int 0, .int 0, .null, .null, .null, .null, .int 0, .int 0, .null, .null, .int 0])).2.1 h 7 = .int 0 := ((congrFun (sN_g h (ne0 r_146 o_q_168 (by decide))).2.1 7).trans kn_160)
  have kn_185 : (sN g_167 q_168 14 (vp_V [.null, .null, .int 0, .int 0, .int 0, .int 0, .null, .null, .null, .null, .int 0, .int 0, .null, .null, .int 0])).2.1 q_16 3 = .int 0 := ((congrFun (sN_g q_16 (ne0 r_149 o_q_168 (by decide))).2.1 3).trans kn_161)
  have kn_186 : (sN g_167 q_168 14 (vp_V [.null, .null, .int 0, .int 0, .int 0, .int 0, .null, .null, .null, .null, .int 0, .int 0, .null, .null, .int 0])).2.1 q_16 4 = .int 10 := ((congrFun (sN_g q_16 (ne0 r_149 o_q_168 (by decide))).2.1 4).trans kn_162)
  have kn_187 : (sN g_167 q_168 14 (vp_V [.null, .null, .int 0, .int 0, .int 0, .int 0, .null, .null, .null, .null, .int 0, .int 0, .null, .null, .int 0])).2.1 q_86 3 = .int 0 := ((congrFun (sN_g q_86 (ne0 r_150 o_q_168 (by decide))).2.1 3).trans kn_163)
  have kn_188 : (sN g_167 q_168 14 (vp_V [.null, .null, .int 0, .int 0, .int 0, .int 0, .null, .null, .null, .null, .int 0, .int 0, .null, .null, .int 0])).2.1 q_86 4 = .int 10 := ((congrFun (sN_g q_86 (ne0 r_150 o_q_168 (by decide))).2.1 4).trans kn_164)
  have kn_189 : (sN g_167 q_168 14 (vp_V [.null, .null, .int 0, .int 0, .int 0, .int 0, .null, .null, .null, .null, .int 0, .int 0, .null, .null, .int 0])).2.1 q_168 0 = .null := sN_f
  have kn_190 : (sN g_167 q_168 14 (vp_V [.null, .null, .int 0, .int 0, .int 0, .int 0, .null, .null, .null, .null, .int 0, .int 0, .null, .null, .int 0])).2.1 q_168 1 = .null := sN_f
  have kn_191 : (sN g_167 q_168 14 (vp_V [.null, .null, .int 0, .int 0, .int 0, .int 0, .null, .null, .null, .null, .int 0, .int 0, .null, .null, .int 0])).2.1 q_168 2 = .int 0 := sN_f
  have kn_192 : (sN g_167 q_168 14 (vp_V [.null, .null, .int 0, .int 0, .int 0, .int 0, .null, .null, .null, .null, .int 0, .int 0, .null, .null, .int 0])).2.1 q_168 3 = .int 0 := sN_f
  have kn_193 : (sN g_167 q_168 14 (vp_V [.null, .null, .int 0, .int 0, .int 0, .int 0, .null, .null, .null, .null, .int 0, .int 0, .null, .null, .int 0])).2.1 q_168 4 = .int 0 := sN_f
  have kn_194 : (sN g_167 q_168 14 (vp_V [.null, .null, .int 0, .int 0, .int 0, .int 0, .null, .null, .null, .null, .int 0, .int 0, .null, .null, .int 0])).2.1 q_168 5 = .int 0 := sN_f
  have kn_195 : (sN g_167 q_168 14 (vp_V [.null, .null, .int 0, .int 0, .int 0, .int 0, .null, .null, .null, .null, .int 0, .int 0, .null, .null, .int 0])).2.1 q_168 6 = .null := sN_f
  have kn_196 : (sN g_167 q_168 14 (vp_V [.null, .null, .int 0, .int 0, .int 0, .int 0, .null, .null, .null, .null, .int 0, .int 0, .null, .null, .int 0])).2.1 q_168 7 = .null := sN_f
  have kn_197 : (sN g_167 q_168 14 (vp_V [.null, .null, .int 0, .int 0, .int 0, .int 0, .null, .null, .null, .null, .int 0, .int 0, .null, .null, .int 0])).2.1 q_168 8 = .null := sN_f
  have kn_198 : (sN g_167 q_168 14 (vp_V [.null, .null, .int 0, .int 0, .int 0, .int 0, .null, .null, .null, .null, .int 0, .int 0, .null, .null, .int 0])).2.1 q_168 9 = .null := sN_f
  have kn_199 : (sN g_167 q_168 14 (vp_V [.null, .null, .int 0, .int 0, .int 0, .int 0, .null, .null, .null, .null, .int 0, .int 0, .null, .null, .int 0])).2.1 q_168 10 = .int 0 := sN_f
  have kn_200 : (sN g_167 q_168 14 (vp_V [.null, .null, .int 0, .int 0, .int 0, .int 0, .null, .null, .null, .null, .int 0, .int 0, .null, .null, .int 0])).2.1 q_168 11 = .int 0 := sN_f
  have kn_201 : (sN g_167 q_168 14 (vp_V [.null, .null, .int 0, .int 0, .int 0, .int 0, .null, .null, .null, .null, .int 0, .int 0, .null, .null, .int 0])).2.1 q_168 12 = .null := sN_f
  have kn_202 : (sN g_167 q_168 14 (vp_V [.null, .null, .int 0, .int 0, .int 0, .int 0, .null, .null, .null, .null, .int 0, .int 0, .null, .null, .int 0])).2.1 q_168 13 = .null := sN_f
  have kn_203 : (sN g_167 q_168 14 (vp_V [.null, .null, .int 0, .int 0, .int 0, .int 0, .null, .null, .null, .null, .int 0, .int 0, .null, .null, .int 0])).2.1 q_168 14 = .int 0 := sN_f
  have kn_204 : (sN g_167 q_168 14 (vp_V [.null, .null, .int 0, .int 0, .int 0, .int 0, .null, .null, .null, .null, .int 0, .int 0, .null, .null, .int 0])).2.2.2.2 q_1 0 = some q_16 := ((congrFun (sN_g q_1 (ne0 r_147 o_q_168 (by decide))).2.2.2.2 _).trans kn_165)
  have kn_205 : (sN g_167 q_168 14 (vp_V [.null, .null, .int 0, .int 0, .int 0, .int 0, .null, .null, .null, .null, .int 0, .int 0, .null, .null, .int 0])).2.2.2.2 q_1 1 = some q_86 := ((congrFun (sN_g q_1 (ne0 r_147 o_q_168 (by decide))).2.2.2.2 _).trans kn_166)
  generalize (sN g_167 q_168 14 (vp_V [.null, .null, .int 0, .int 0, .int 0, .int 0, .null, .null, .null, .null, .int 0, .int 0, .null, .null, .int 0])) = g_206 at hT hI hM hE r_169 r_170 r_171 r_172 r_173 r_174 n_175 n_176 kn_177 kn_178 kn_179 kn_180 kn_181 kn_182 kn_183 kn_184 kn_185 kn_186 kn_187 kn_188 kn_189 kn_190 kn_191 kn_192 kn_193 kn_194 kn_195 kn_196 kn_197 kn_198 kn_199 kn_200 kn_201 kn_202 kn_203 kn_204 kn_205
  clear kn_153 kn_154 kn_155 kn_156 kn_157 kn_158 kn_159 kn_160 kn_161 kn_162 kn_163 kn_164 kn_165 kn_166 n_151 n_152 r_146 r_147 r_148 r_149 r_150
  refine W.widen (k := 27) (n := 787) (Nat.le_of_ble_eq_true rfl) (Nat.le_of_ble_eq_true rfl) ?_
  refine lv_dup hx hb dX5_init_68 rfl ?_
  refine t_callIN (n := 0) (As := []) (rest := [.ref q_168, .int 2, .ref q_1]) hB hT hl.1 (n_Service l D cI cZ cS cR N0 g_206 hI q_168 r_174) k_113 k_60 hB.2.2.2.2.2.2.2.1.2.1 k_112 rfl (by decide +kernel) ⟨(Nat.le_of_ble_eq_true rfl), (Nat.le_of_ble_eq_true rfl)⟩ rfl (Nat.le_of_ble_eq_true rfl) ⟨(Nat.le_of_ble_eq_true rfl), (Nat.le_of_ble_eq_true rfl)⟩ dX5_init_69 (fun v g_207 H locs hp hT => ?_)
  obtain ⟨rfl, hI, x_211, m_210, r_212, f_208, f_209⟩ := hp
  replace hM : Sm md_n_World g g_207 := hM.tr hE (m_210.mo (fun r k h => mdle_n_World_n_Service h))
  replace hE : Ex g g_207 := hE.trx z_q_168 x_211
  have r_213 : g_207.1 h = 16 := (Exx.r x_211 r_169 (by decide) (ro_ne r_169 r_174 (by decide)))
  have r_214 : g_207.1 q_1 = 44 := (Exx.r x_211 r_170 (by decide) (ro_ne r_170 r_174 (by decide)))
  have r_215 : g_207.1 q_6 = 50 := (Exx.r x_211 r_171 (by decide) (ro_ne r_171 r_174 (by decide)))
  have r_216 : g_207.1 q_16 = 10 := (Exx.r x_211 r_172 (by decide) (ro_ne r_172 r_174 (by decide)))
  have r_217 : g_207.1 q_86 = 10 := (Exx.r x_211 r_173 (by decide) (ro_ne r_173 r_174 (by decide)))
  have r_218 : g_207.1 q_168 = 10 := r_212
  have n_219 : g_207.2.2.1 q_1 = 6 := (Exx.n x_211 r_170 (by decide) (ro_ne r_170 r_174 (by decide)) n_175)
  have n_220 : g_207.2.2.1 q_6 = 512 := (Exx.n x_211 r_171 (by decide) (ro_ne r_171 r_174 (by decide)) n_176)
  have kn_221 : g_207.2.1 h 0 = .ref q_1 := (Sm.v m_210 r_169 (by decide) rfl kn_177)
  have kn_222 : g_207.2.1 h 1 = .int 0 := (Sm.v m_210 r_169 (by decide) rfl kn_178)
  have kn_223 : g_207.2.1 h 2 = .int 0 := (Sm.v m_210 r_169 (by decide) rfl kn_179)
  have kn_224 : g_207.2.1 h 3 = .ref q_6 := (Sm.v m_210 r_169 (by decide) rfl kn_180)
  have kn_225 : g_207.2.1 h 4 = .int 0 := (Sm.v m_210 r_169 (by decide) rfl kn_181)
  have kn_226 : g_207.2.1 h 5 = .int 0 := (Sm.v m_210 r_169 (by decide) rfl kn_182)
  have kn_227 : g_207.2.1 h 6 = .int 0 := (Sm.v m_210 r_169 (by decide) rfl kn_183)
  have kn_228 : g_207.2.1 h 7 = .int 0 := (Sm.v m_210 r_169 (by decide) rfl kn_184)
  have kn_229 : g_207.2.1 q_16 3 = .int 0 := (Sm.v m_210 r_172 (by decide) rfl kn_185)
  have kn_230 : g_207.2.1 q_16 4 = .int 10 := (Sm.v m_210 r_172 (by decide) rfl kn_186)
  have kn_231 : g_207.2.1 q_86 3 = .int 0 := (Sm.v m_210 r_173 (by decide) rfl kn_187)
  have kn_232 : g_207.2.1 q_86 4 = .int 10 := (Sm.v m_210 r_173 (by decide) rfl kn_188)
  have kn_233 : g_207.2.2.2.2 q_1 0 = some q_16 := ((congrFun (m_210.2 q_1 (by rw [r_170]; decide) (by rw [r_170]; rfl)).2 _).trans kn_204)
  have kn_234 : g_207.2.2.2.2 q_1 1 = some q_86 := ((congrFun (m_210.2 q_1 (by rw [r_170]; decide) (by rw [r_170]; rfl)).2 _).trans kn_205)
  refine W.eq (g2 := F0 m 72 ls [.ref q_168, .int 2, .ref q_1]) rfl ?_
  have i_235 : vp_in (2 : Int32) 6 := (by unfold vp_in; decide)
  refine t_astq hB hT r_214 n_219 (ro_ci r_218 rfl) i_235 dX5_init_72 (fun H locs hT => ?_)
  replace hI : Inv (sQ g_207 q_1 (2 : Int32).toNatClampNeg (some q_168)) := hI.sQ (by rw [r_214]; exact trivial)
  replace hM : Sm md_n_World g (sQ g_207 q_1 (2 : Int32).toNatClampNeg (some q_168)) := hM.tr hE (Sm_sQ (by rw [r_214]; rfl))
  replace hE : Ex g (sQ g_207 q_1 (2 : Int32).toNatClampNeg (some q_168)) := hE
  have r_236 : (sQ g_207 q_1 (2 : Int32).toNatClampNeg (some q_168)).1 h = 16 := r_213
  have r_237 : (sQ g_207 q_1 (2 : Int32).toNatClampNeg (some q_168)).1 q_1 = 44 := r_214
  have r_238 : (sQ g_207 q_1 (2 : Int32).toNatClampNeg (some q_168)).1 q_6 = 50 := r_215
  have r_239 : (sQ g_207 q_1 (2 : Int32).toNatClampNeg (some q_168)).1 q_16 = 10 := r_216
  have r_240 : (sQ g_207 q_1 (2 : Int32).toNatClampNeg (some q_168)).1 q_86 = 10 := r_217
  have r_241 : (sQ g_207 q_1 (2 : Int32).toNatClampNeg (some q_168)).1 q_168 = 10 := r_218
  have n_242 : (sQ g_207 q_1 (2 : Int32).toNatClampNeg (some q_168)).2.2.1 q_1 = 6 := n_219
  have n_243 : (sQ g_207 q_1 (2 : Int32).toNatClampNeg (some q_168)).2.2.1 q_6 = 512 := n_220
  have kn_244 : (sQ g_207 q_1 (2 : Int32).toNatClampNeg (some q_168)).2.1 h 0 = .ref q_1 := kn_221
  have kn_245 : (sQ g_207 q_1 (2 : Int32).toNatClampNeg (some q_168)).2.1 h 1 = .int 0 := kn_222
  have kn_246 : (sQ g_207 q_1 (2 : Int32).toNatClampNeg (some q_168)).2.1 h 2 = .int 0 := kn_223
  have kn_247 : (sQ g_207 q_1 (2 : Int32).toNatClampNeg (some q_168)).2.1 h 3 = .ref q_6 := kn_224
  have kn_248 : (sQ g_207 q_1 (2 : Int32).toNatClampNeg (some q_168)).2.1 h 4 = .int 0 := kn_225
  have kn_249 : (sQ g_207 q_1 (2 : Int32).toNatClampNeg (some q_168)).2.1 h 5 = .int 0 := kn_226
  have kn_250 : (sQ g_207 q_1 (2 : Int32).toNatClampNeg (some q_168)).2.1 h 6 = .int 0 := kn_227
  have kn_251 : (sQ g_207 q_1 (2 : Int32).toNatClampNeg (some q_168)).2.1 h 7 = .int 0 := kn_228
  have kn_252 : (sQ g_207 q_1 (2 : Int32).toNatClampNeg (some q_168)).2.1 q_16 3 = .int 0 := kn_229
  have kn_253 : (sQ g_207 q_1 (2 : Int32).toNatClampNeg (some q_168)).2.1 q_16 4 = .int 10 := kn_230
  have kn_254 : (sQ g_207 q_1 (2 : Int32).toNatClampNeg (some q_168)).2.1 q_86 3 = .int 0 := kn_231
  have kn_255 : (sQ g_207 q_1 (2 : Int32).toNatClampNeg (some q_168)).2.1 q_86 4 = .int 10 := kn_232
  have kn_256 : (sQ g_207 q_1 (2 : Int32).toNatClampNeg (some q_168)).2.1 q_168 3 = .int 0 := f_208
  have kn_257 : (sQ g_207 q_1 (2 : Int32).toNatClampNeg (some q_168)).2.1 q_168 4 = .int 10 := f_209
  have kn_258 : (sQ g_207 q_1 (2 : Int32).toNatClampNeg (some q_168)).2.2.2.2 q_1 0 = some q_16 := (sQ_i kn_233 (by decide))
  have kn_259 : (sQ g_207 q_1 (2 : Int32).toNatClampNeg (some q_168)).2.2.2.2 q_1 1 = some q_86 := (sQ_i kn_234 (by decide))
  have kn_260 : (sQ g_207 q_1 (2 : Int32).toNatClampNeg (some q_168)).2.2.2.2 q_1 2 = some q_168 := sQ_eq
  generalize (sQ g_207 q_1 (2 : Int32).toNatClampNeg (some q_168)) = g_261 at hT hI hM hE r_236 r_237 r_238 r_239 r_240 r_241 n_242 n_243 kn_244 kn_245 kn_246 kn_247 kn_248 kn_249 kn_250 kn_251 kn_252 kn_253 kn_254 kn_255 kn_256 kn_257 kn_258 kn_259 kn_260
  clear kn_221 kn_222 kn_223 kn_224 kn_225 kn_226 kn_227 kn_228 kn_229 kn_230 kn_231 kn_232 kn_233 kn_234 n_219 n_220 r_213 r_214 r_215 r_216 r_217 r_218
  refine lv_iinc (v := 3) (lv' := [(1, .int 3), (0, .ref h)]) hx hb dX5_init_73 hl (k := 0) rfl (by decide) (by decide) rfl (fun ls hl => ?_)
  refine lv_goto (tgt := 54) hx hb dX5_init_76 (by decide) ?_
  refine lv_iload_n hx hb dX5_init_54 rfl (lv_at hl 0 rfl) ?_
  refine lv_bipush (v := 6) hx hb dX5_init_55 (by decide) ?_
  refine lv_icmp_ge (tgt := 79) hx hb dX5_init_57 (by decide) (fun c_ => absurd c_ (by decide)) (fun c_ => ?_)
  refine lv_aload_n hx hb dX5_init_60 rfl (lv_at hl 1 rfl) ?_
  refine t_get (ci := 5) (v := .ref q_1) hB hT (ro_ci r_236 rfl) rfl 0 (by decide) k_199 kn_244 dX5_init_61 ?_
  refine lv_iload_n hx hb dX5_init_64 rfl (lv_at hl 0 rfl) ?_
  refine t_new (ci := 3) (fs := [.null, .null, .int 0, .int 0, .int 0, .int 0, .null, .null, .null, .null, .int 0, .int 0, .null, .null, .int 0]) hB hT rfl (by decide) k_108 k_110 k_60 (fnew_3) (Nat.le_of_ble_eq_true rfl) (Nat.le_of_ble_eq_true rfl) dX5_init_65 (fun q_262 H o_q_262 hT => ?_)
  have z_q_262 : g.1 q_262 = 0 := hE.z0 o_q_262
  replace hI : Inv (sN g_261 q_262 14 (vp_V [.null, .null, .int 0, .int 0, .int 0, .int 0, .null, .null, .null, .null, .int 0, .int 0, .null, .null, .int 0])) := hI.newo o_q_262 (fun _ => rfl) (fun _ => trivial) (fun _ _ => trivial)
  replace hM : Sm md_n_World g (sN g_261 q_262 14 (vp_V [.null, .null, .int 0, .int 0, .int 0, .int 0, .null, .null, .null, .null, .int 0, .int 0, .null, .null, .int 0])) := hM.tr hE (Sm.push o_q_262 sN_g)
  replace hE : Ex g (sN g_261 q_262 14 (vp_V [.null, .null, .int 0, .int 0, .int 0, .int 0, .null, .null, .null, .null, .int 0, .int 0, .null, .null, .int 0])) := hE.tr (Ex.push o_q_262 sN_g)
  have dn_q_16_q_262 : q_16 ≠ q_262 := (ne0 r_239 o_q_262 (by decide))
  have dn_q_86_q_262 : q_86 ≠ q_262 := (ne0 r_240 o_q_262 (by decide))
  have dn_q_168_q_262 : q_168 ≠ q_262 := (ne0 r_241 o_q_262 (by decide))
  have r_263 : (sN g_261 q_262 14 (vp_V [.null, .null, .int 0, .int 0, .int 0, .int 0, .null, .null, .null, .null, .int 0, .int 0, .null, .null, .int 0])).1 h = 16 := ((sN_g h (ne0 r_236 o_q_262 (by decide))).1.trans r_236)
  have r_264 : (sN g_261 q_262 14 (vp_V [.null, .null, .int 0, .int 0, .int 0, .int 0, .null, .null, .null, .null, .int 0, .int 0, .null, .null, .int 0])).1 q_1 = 44 := ((sN_g q_1 (ne0 r_237 o_q_262 (by decide))).1.trans r_237)
  have r_265 : (sN g_261 q_262 14 (vp_V [.null, .null, .int 0, .int 0, .int 0, .int 0, .null, .null, .null, .null, .int 0, .int 0, .null, .null, .int 0])).1 q_6 = 50 := ((sN_g q_6 (ne0 r_238 o_q_262 (by decide))).1.trans r_238)
  have r_266 : (sN g_261 q_262 14 (vp_V [.null, .null, .int 0, .int 0, .int 0, .int 0, .null, .null, .null, .null, .int 0, .int 0, .null, .null, .int 0])).1 q_16 = 10 := ((sN_g q_16 (ne0 r_239 o_q_262 (by decide))).1.trans r_239)
  have r_267 : (sN g_261 q_262 14 (vp_V [.null, .null, .int 0, .int 0, .int 0, .int 0, .null, .null, .null, .null, .int 0, .int 0, .null, .null, .int 0])).1 q_86 = 10 := ((sN_g q_86 (ne0 r_240 o_q_262 (by decide))).1.trans r_240)
  have r_268 : (sN g_261 q_262 14 (vp_V [.null, .null, .int 0, .int 0, .int 0, .int 0, .null, .null, .null, .null, .int 0, .int 0, .null, .null, .int 0])).1 q_168 = 10 := ((sN_g q_168 (ne0 r_241 o_q_262 (by decide))).1.trans r_241)
  have r_269 : (sN g_261 q_262 14 (vp_V [.null, .null, .int 0, .int 0, .int 0, .int 0, .null, .null, .null, .null, .int 0, .int 0, .null, .null, .int 0])).1 q_262 = 14 := sN_r
  have n_270 : (sN g_261 q_262 14 (vp_V [.null, .null, .int 0, .int 0, .int 0, .int 0, .null, .null, .null, .null, .int 0, .int 0, .null, .null, .int 0])).2.2.1 q_1 = 6 := ((sN_g q_1 (ne0 r_237 o_q_262 (by decide))).2.2.1.trans n_242)
  have n_271 : (sN g_261 q_262 14 (vp_V [.null, .null, .int 0, .int 0, .int 0, .int 0, .null, .null, .null, .null, .int 0, .int 0, .null, .null, .int 0])).2.2.1 q_6 = 512 := ((sN_g q_6 (ne0 r_238 o_q_262 (by decide))).2.2.1.trans n_243)
  have kn_272 : (sN g_261 q_262 14 (vp_V [.null, .null, .int 0, .int 0, .int 0, .int 0, .null, .null, .null, .null, .int 0, .int 0, .null, .null, .int 0])).2.1 h 0 = .ref q_1 := ((congrFun (sN_g h (ne0 r_236 o_q_262 (by decide))).2.1 0).trans kn_244)
  have kn_273 : (sN g_261 q_262 14 (vp_V [.null, .null, .int 0, .int 0, .int 0, .int 0, .null, .null, .null, .null, .int 0, .int 0, .null, .null, .int 0])).2.1 h 1 = .int 0 := ((congrFun (sN_g h (ne0 r_236 o_q_262 (by decide))).2.1 1).trans kn_245)
  have kn_274 : (sN g_261 q_262 14 (vp_V [.null, .null, .int 0, .int 0, .int 0, .int 0, .null, .null, .null, .null, .int 0, .int 0, .null, .null, .int 0])).2.1 h 2 = .int 0 := ((congrFun (sN_g h (ne0 r_236 o_q_262 (by decide))).2.1 2).trans kn_246)
  have kn_275 : (sN g_261 q_262 14 (vp_V [.null, .null, .int 0, .int 0, .int 0, .int 0, .null, .null, .null, .null, .int 0, .int 0, .null, .null, .int 0])).2.1 h 3 = .ref q_6 := ((congrFun (sN_g h (ne0 r_236 o_q_262 (by decide))).2.1 3).trans kn_247)
  have kn_276 : (sN g_261 q_262 14 (vp_V [.null, .null, .int 0, .int 0, .int 0, .int 0, .null, .null, .null, .null, .int 0, .int 0, .null, .null, .int 0])).2.1 h 4 = .int 0 := ((congrFun (sN_g h (ne0 r_236 o_q_262 (by decide))).2.1 4).trans kn_248)
  have kn_277 : (sN g_261 q_262 14 (vp_V [.null, .null, .int 0, .int 0, .int 0, .int 0, .null, .null, .null, .null, .int 0, .int 0, .null, .null, .int 0])).2.1 h 5 = .int 0 := ((congrFun (sN_g h (ne0 r_236 o_q_262 (by decide))).2.1 5).trans kn_249)
  have kn_278 : (sN g_261 q_262 14 (vp_V [.null, .null, .int 0, .int 0, .int 0, .int 0, .null, .null, .null, .null, .int 0, .int 0, .null, .null, .int 0])).2.1 h 6 = .int 0 := ((congrFun (sN_g h (ne0 r_236 o_q_262 (by decide))).2.1 6).trans kn_250)
  have kn_279 : (sN g_261 q_262 14 (vp_V [.null, .null, .int 0, .int 0, .int 0, .int 0, .null, .null, .null, .null, .int 0, .int 0, .null, .null, .int 0])).2.1 h 7 = .int 0 := ((congrFun (sN_g h (ne0 r_236 o_q_262 (by decide))).2.1 7).trans kn_251)
  have kn_280 : (sN g_261 q_262 14 (vp_V [.null, .null, .int 0, .int 0, .int 0, .int 0, .null, .null, .null, .null, .int 0, .int 0, .null, .null, .int 0])).2.1 q_16 3 = .int 0 := ((congrFun (sN_g q_16 (ne0 r_239 o_q_262 (by decide))).2.1 3).trans kn_252)
  have kn_281 : (sN g_261 q_262 14 (vp_V [.null, .null, .int 0, .int 0, .int 0, .int 0, .null, .null, .null, .null, .int 0, .int 0, .null, .null, .int 0])).2.1 q_16 4 = .int 10 := ((congrFun (sN_g q_16 (ne0 r_239 o_q_262 (by decide))).2.1 4).trans kn_253)
  have kn_282 : (sN g_261 q_262 14 (vp_V [.null, .null, .int 0, .int 0, .int 0, .int 0, .null, .null, .null, .null, .int 0, .int 0, .null, .null, .int 0])).2.1 q_86 3 = .int 0 := ((congrFun (sN_g q_86 (ne0 r_240 o_q_262 (by decide))).2.1 3).trans kn_254)
  have kn_283 : (sN g_261 q_262 14 (vp_V [.null, .null, .int 0, .int 0, .int 0, .int 0, .null, .null, .null, .null, .int 0, .int 0, .null, .null, .int 0])).2.1 q_86 4 = .int 10 := ((congrFun (sN_g q_86 (ne0 r_240 o_q_262 (by decide))).2.1 4).trans kn_255)
  have kn_284 : (sN g_261 q_262 14 (vp_V [.null, .null, .int 0, .int 0, .int 0, .int 0, .null, .null, .null, .null, .int 0, .int 0, .null, .null, .int 0])).2.1 q_168 3 = .int 0 := ((congrFun (sN_g q_168 (ne0 r_241 o_q_262 (by decide))).2.1 3).trans kn_256)
  have kn_285 : (sN g_261 q_262 14 (vp_V [.null, .null, .int 0, .int 0, .int 0, .int 0, .null, .null, .null, .null, .int 0, .int 0, .null, .null, .int 0])).2.1 q_168 4 = .int 10 := ((congrFun (sN_g q_168 (ne0 r_241 o_q_262 (by decide))).2.1 4).trans kn_257)
  have kn_286 : (sN g_261 q_262 14 (vp_V [.null, .null, .int 0, .int 0, .int 0, .int 0, .null, .null, .null, .null, .int 0, .int 0, .null, .null, .int 0])).2.1 q_262 0 = .null := sN_f
  have kn_287 : (sN g_261 q_262 14 (vp_V [.null, .null, .int 0, .int 0, .int 0, .int 0, .null, .null, .null, .null, .int 0, .int 0, .null, .null, .int 0])).2.1 q_262 1 = .null := sN_f
  have kn_288 : (sN g_261 q_262 14 (vp_V [.null, .null, .int 0, .int 0, .int 0, .int 0, .null, .null, .null, .null, .int 0, .int 0, .null, .null, .int 0])).2.1 q_262 2 = .int 0 := sN_f
  have kn_289 : (sN g_261 q_262 14 (vp_V [.null, .null, .int 0, .int 0, .int 0, .int 0, .null, .null, .null, .null, .int 0, .int 0, .null, .null, .int 0])).2.1 q_262 3 = .int 0 := sN_f
  have kn_290 : (sN g_261 q_262 14 (vp_V [.null, .null, .int 0, .int 0, .int 0, .int 0, .null, .null, .null, .null, .int 0, .int 0, .null, .null, .int 0])).2.1 q_262 4 = .int 0 := sN_f
  have kn_291 : (sN g_261 q_262 14 (vp_V [.null, .null, .int 0, .int 0, .int 0, .int 0, .null, .null, .null, .null, .int 0, .int 0, .null, .null, .int 0])).2.1 q_262 5 = .int 0 := sN_f
  have kn_292 : (sN g_261 q_262 14 (vp_V [.null, .null, .int 0, .int 0, .int 0, .int 0, .null, .null, .null, .null, .int 0, .int 0, .null, .null, .int 0])).2.1 q_262 6 = .null := sN_f
  have kn_293 : (sN g_261 q_262 14 (vp_V [.null, .null, .int 0, .int 0, .int 0, .int 0, .null, .null, .null, .null, .int 0, .int 0, .null, .null, .int 0])).2.1 q_262 7 = .null := sN_f
  have kn_294 : (sN g_261 q_262 14 (vp_V [.null, .null, .int 0, .int 0, .int 0, .int 0, .null, .null, .null, .null, .int 0, .int 0, .null, .null, .int 0])).2.1 q_262 8 = .null := sN_f
  have kn_295 : (sN g_261 q_262 14 (vp_V [.null, .null, .int 0, .int 0, .int 0, .int 0, .null, .null, .null, .null, .int 0, .int 0, .null, .null, .int 0])).2.1 q_262 9 = .null := sN_f
  have kn_296 : (sN g_261 q_262 14 (vp_V [.null, .null, .int 0, .int 0, .int 0, .int 0, .null, .null, .null, .null, .int 0, .int 0, .null, .null, .int 0])).2.1 q_262 10 = .int 0 := sN_f
  have kn_297 : (sN g_261 q_262 14 (vp_V [.null, .null, .int 0, .int 0, .int 0, .int 0, .null, .null, .null, .null, .int 0, .int 0, .null, .null, .int 0])).2.1 q_262 11 = .int 0 := sN_f
  have kn_298 : (sN g_261 q_262 14 (vp_V [.null, .null, .int 0, .int 0, .int 0, .int 0, .null, .null, .null, .null, .int 0, .int 0, .null, .null, .int 0])).2.1 q_262 12 = .null := sN_f
  have kn_299 : (sN g_261 q_262 14 (vp_V [.null, .null, .int 0, .int 0, .int 0, .int 0, .null, .null, .null, .null, .int 0, .int 0, .null, .null, .int 0])).2.1 q_262 13 = .null := sN_f
  have kn_300 : (sN g_261 q_262 14 (vp_V [.null, .null, .int 0, .int 0, .int 0, .int 0, .null, .null, .null, .null, .int 0, .int 0, .null, .null, .int 0])).2.1 q_262 14 = .int 0 := sN_f
  have kn_301 : (sN g_261 q_262 14 (vp_V [.null, .null, .int 0, .int 0, .int 0, .int 0, .null, .null, .null, .null, .int 0, .int 0, .null, .null, .int 0])).2.2.2.2 q_1 0 = some q_16 := ((congrFun (sN_g q_1 (ne0 r_237 o_q_262 (by decide))).2.2.2.2 _).trans kn_258)
  have kn_302 : (sN g_261 q_262 14 (vp_V [.null, .null, .int 0, .int 0, .int 0, .int 0, .null, .null, .null, .null, .int 0, .int 0, .null, .null, .int 0])).2.2.2.2 q_1 1 = some q_86 := ((congrFun (sN_g q_1 (ne0 r_237 o_q_262 (by decide))).2.2.2.2 _).trans kn_259)
  have kn_303 : (sN g_261 q_262 14 (vp_V [.null, .null, .int 0, .int 0, .int 0, .int 0, .null, .null, .null, .null, .int 0, .int 0, .null, .null, .int 0])).2.2.2.2 q_1 2 = some q_168 := ((congrFun (sN_g q_1 (ne0 r_237 o_q_262 (by decide))).2.2.2.2 _).trans kn_260)
  generalize (sN g_261 q_262 14 (vp_V [.null, .null, .int 0, .int 0, .int 0, .int 0, .null, .null, .null, .null, .int 0, .int 0, .null, .null, .int 0])) = g_304 at hT hI hM hE r_263 r_264 r_265 r_266 r_267 r_268 r_269 n_270 n_271 kn_272 kn_273 kn_274 kn_275 kn_276 kn_277 kn_278 kn_279 kn_280 kn_281 kn_282 kn_283 kn_284 kn_285 kn_286 kn_287 kn_288 kn_289 kn_290 kn_291 kn_292 kn_293 kn_294 kn_295 kn_296 kn_297 kn_298 kn_299 kn_300 kn_301 kn_302 kn_303
  clear kn_244 kn_245 kn_246 kn_247 kn_248 kn_249 kn_250 kn_251 kn_252 kn_253 kn_254 kn_255 kn_256 kn_257 kn_258 kn_259 kn_260 n_242 n_243 r_236 r_237 r_238 r_239 r_240 r_241
  refine W.widen (k := 39) (n := 914) (Nat.le_of_ble_eq_true rfl) (Nat.le_of_ble_eq_true rfl) ?_
  refine lv_dup hx hb dX5_init_68 rfl ?_
  refine t_callIN (n := 0) (As := []) (rest := [.ref q_262, .int 3, .ref q_1]) hB hT hl.1 (n_Service l D cI cZ cS cR N0 g_304 hI q_262 r_269) k_113 k_60 hB.2.2.2.2.2.2.2.1.2.1 k_112 rfl (by decide +kernel) ⟨(Nat.le_of_ble_eq_true rfl), (Nat.le_of_ble_eq_true rfl)⟩ rfl (Nat.le_of_ble_eq_true rfl) ⟨(Nat.le_of_ble_eq_true rfl), (Nat.le_of_ble_eq_true rfl)⟩ dX5_init_69 (fun v g_305 H locs hp hT => ?_)
  obtain ⟨rfl, hI, x_309, m_308, r_310, f_306, f_307⟩ := hp
  replace hM : Sm md_n_World g g_305 := hM.tr hE (m_308.mo (fun r k h => mdle_n_World_n_Service h))
  replace hE : Ex g g_305 := hE.trx z_q_262 x_309
  have r_311 : g_305.1 h = 16 := (Exx.r x_309 r_263 (by decide) (ro_ne r_263 r_269 (by decide)))
  have r_312 : g_305.1 q_1 = 44 := (Exx.r x_309 r_264 (by decide) (ro_ne r_264 r_269 (by decide)))
  have r_313 : g_305.1 q_6 = 50 := (Exx.r x_309 r_265 (by decide) (ro_ne r_265 r_269 (by decide)))
  have r_314 : g_305.1 q_16 = 10 := (Exx.r x_309 r_266 (by decide) (ro_ne r_266 r_269 (by decide)))
  have r_315 : g_305.1 q_86 = 10 := (Exx.r x_309 r_267 (by decide) (ro_ne r_267 r_269 (by decide)))
  have r_316 : g_305.1 q_168 = 10 := (Exx.r x_309 r_268 (by decide) (ro_ne r_268 r_269 (by decide)))
  have r_317 : g_305.1 q_262 = 10 := r_310
  have n_318 : g_305.2.2.1 q_1 = 6 := (Exx.n x_309 r_264 (by decide) (ro_ne r_264 r_269 (by decide)) n_270)
  have n_319 : g_305.2.2.1 q_6 = 512 := (Exx.n x_309 r_265 (by decide) (ro_ne r_265 r_269 (by decide)) n_271)
  have kn_320 : g_305.2.1 h 0 = .ref q_1 := (Sm.v m_308 r_263 (by decide) rfl kn_272)
  have kn_321 : g_305.2.1 h 1 = .int 0 := (Sm.v m_308 r_263 (by decide) rfl kn_273)
  have kn_322 : g_305.2.1 h 2 = .int 0 := (Sm.v m_308 r_263 (by decide) rfl kn_274)
  have kn_323 : g_305.2.1 h 3 = .ref q_6 := (Sm.v m_308 r_263 (by decide) rfl kn_275)
  have kn_324 : g_305.2.1 h 4 = .int 0 := (Sm.v m_308 r_263 (by decide) rfl kn_276)
  have kn_325 : g_305.2.1 h 5 = .int 0 := (Sm.v m_308 r_263 (by decide) rfl kn_277)
  have kn_326 : g_305.2.1 h 6 = .int 0 := (Sm.v m_308 r_263 (by decide) rfl kn_278)
  have kn_327 : g_305.2.1 h 7 = .int 0 := (Sm.v m_308 r_263 (by decide) rfl kn_279)
  have kn_328 : g_305.2.1 q_16 3 = .int 0 := (Sm.v m_308 r_266 (by decide) rfl kn_280)
  have kn_329 : g_305.2.1 q_16 4 = .int 10 := (Sm.v m_308 r_266 (by decide) rfl kn_281)
  have kn_330 : g_305.2.1 q_86 3 = .int 0 := (Sm.v m_308 r_267 (by decide) rfl kn_282)
  have kn_331 : g_305.2.1 q_86 4 = .int 10 := (Sm.v m_308 r_267 (by decide) rfl kn_283)
  have kn_332 : g_305.2.1 q_168 3 = .int 0 := (Sm.v m_308 r_268 (by decide) rfl kn_284)
  have kn_333 : g_305.2.1 q_168 4 = .int 10 := (Sm.v m_308 r_268 (by decide) rfl kn_285)
  have kn_334 : g_305.2.2.2.2 q_1 0 = some q_16 := ((congrFun (m_308.2 q_1 (by rw [r_264]; decide) (by rw [r_264]; rfl)).2 _).trans kn_301)
  have kn_335 : g_305.2.2.2.2 q_1 1 = some q_86 := ((congrFun (m_308.2 q_1 (by rw [r_264]; decide) (by rw [r_264]; rfl)).2 _).trans kn_302)
  have kn_336 : g_305.2.2.2.2 q_1 2 = some q_168 := ((congrFun (m_308.2 q_1 (by rw [r_264]; decide) (by rw [r_264]; rfl)).2 _).trans kn_303)
  refine W.eq (g2 := F0 m 72 ls [.ref q_262, .int 3, .ref q_1]) rfl ?_
  have i_337 : vp_in (3 : Int32) 6 := (by unfold vp_in; decide)
  refine t_astq hB hT r_312 n_318 (ro_ci r_317 rfl) i_337 dX5_init_72 (fun H locs hT => ?_)
  replace hI : Inv (sQ g_305 q_1 (3 : Int32).toNatClampNeg (some q_262)) := hI.sQ (by rw [r_312]; exact trivial)
  replace hM : Sm md_n_World g (sQ g_305 q_1 (3 : Int32).toNatClampNeg (some q_262)) := hM.tr hE (Sm_sQ (by rw [r_312]; rfl))
  replace hE : Ex g (sQ g_305 q_1 (3 : Int32).toNatClampNeg (some q_262)) := hE
  have r_338 : (sQ g_305 q_1 (3 : Int32).toNatClampNeg (some q_262)).1 h = 16 := r_311
  have r_339 : (sQ g_305 q_1 (3 : Int32).toNatClampNeg (some q_262)).1 q_1 = 44 := r_312
  have r_340 : (sQ g_305 q_1 (3 : Int32).toNatClampNeg (some q_262)).1 q_6 = 50 := r_313
  have r_341 : (sQ g_305 q_1 (3 : Int32).toNatClampNeg (some q_262)).1 q_16 = 10 := r_314
  have r_342 : (sQ g_305 q_1 (3 : Int32).toNatClampNeg (some q_262)).1 q_86 = 10 := r_315
  have r_343 : (sQ g_305 q_1 (3 : Int32).toNatClampNeg (some q_262)).1 q_168 = 10 := r_316
  have r_344 : (sQ g_305 q_1 (3 : Int32).toNatClampNeg (some q_262)).1 q_262 = 10 := r_317
  have n_345 : (sQ g_305 q_1 (3 : Int32).toNatClampNeg (some q_262)).2.2.1 q_1 = 6 := n_318
  have n_346 : (sQ g_305 q_1 (3 : Int32).toNatClampNeg (some q_262)).2.2.1 q_6 = 512 := n_319
  have kn_347 : (sQ g_305 q_1 (3 : Int32).toNatClampNeg (some q_262)).2.1 h 0 = .ref q_1 := kn_320
  have kn_348 : (sQ g_305 q_1 (3 : Int32).toNatClampNeg (some q_262)).2.1 h 1 = .int 0 := kn_321
  have kn_349 : (sQ g_305 q_1 (3 : Int32).toNatClampNeg (some q_262)).2.1 h 2 = .int 0 := kn_322
  have kn_350 : (sQ g_305 q_1 (3 : Int32).toNatClampNeg (some q_262)).2.1 h 3 = .ref q_6 := kn_323
  have kn_351 : (sQ g_305 q_1 (3 : Int32).toNatClampNeg (some q_262)).2.1 h 4 = .int 0 := kn_324
  have kn_352 : (sQ g_305 q_1 (3 : Int32).toNatClampNeg (some q_262)).2.1 h 5 = .int 0 := kn_325
  have kn_353 : (sQ g_305 q_1 (3 : Int32).toNatClampNeg (some q_262)).2.1 h 6 = .int 0 := kn_326
  have kn_354 : (sQ g_305 q_1 (3 : Int32).toNatClampNeg (some q_262)).2.1 h 7 = .int 0 := kn_327
  have kn_355 : (sQ g_305 q_1 (3 : Int32).toNatClampNeg (some q_262)).2.1 q_16 3 = .int 0 := kn_328
  have kn_356 : (sQ g_305 q_1 (3 : Int32).toNatClampNeg (some q_262)).2.1 q_16 4 = .int 10 := kn_329
  have kn_357 : (sQ g_305 q_1 (3 : Int32).toNatClampNeg (some q_262)).2.1 q_86 3 = .int 0 := kn_330
  have kn_358 : (sQ g_305 q_1 (3 : Int32).toNatClampNeg (some q_262)).2.1 q_86 4 = .int 10 := kn_331
  have kn_359 : (sQ g_305 q_1 (3 : Int32).toNatClampNeg (some q_262)).2.1 q_168 3 = .int 0 := kn_332
  have kn_360 : (sQ g_305 q_1 (3 : Int32).toNatClampNeg (some q_262)).2.1 q_168 4 = .int 10 := kn_333
  have kn_361 : (sQ g_305 q_1 (3 : Int32).toNatClampNeg (some q_262)).2.1 q_262 3 = .int 0 := f_306
  have kn_362 : (sQ g_305 q_1 (3 : Int32).toNatClampNeg (some q_262)).2.1 q_262 4 = .int 10 := f_307
  have kn_363 : (sQ g_305 q_1 (3 : Int32).toNatClampNeg (some q_262)).2.2.2.2 q_1 0 = some q_16 := (sQ_i kn_334 (by decide))
  have kn_364 : (sQ g_305 q_1 (3 : Int32).toNatClampNeg (some q_262)).2.2.2.2 q_1 1 = some q_86 := (sQ_i kn_335 (by decide))
  have kn_365 : (sQ g_305 q_1 (3 : Int32).toNatClampNeg (some q_262)).2.2.2.2 q_1 2 = some q_168 := (sQ_i kn_336 (by decide))
  have kn_366 : (sQ g_305 q_1 (3 : Int32).toNatClampNeg (some q_262)).2.2.2.2 q_1 3 = some q_262 := sQ_eq
  generalize (sQ g_305 q_1 (3 : Int32).toNatClampNeg (some q_262)) = g_367 at hT hI hM hE r_338 r_339 r_340 r_341 r_342 r_343 r_344 n_345 n_346 kn_347 kn_348 kn_349 kn_350 kn_351 kn_352 kn_353 kn_354 kn_355 kn_356 kn_357 kn_358 kn_359 kn_360 kn_361 kn_362 kn_363 kn_364 kn_365 kn_366
  clear kn_320 kn_321 kn_322 kn_323 kn_324 kn_325 kn_326 kn_327 kn_328 kn_329 kn_330 kn_331 kn_332 kn_333 kn_334 kn_335 kn_336 n_318 n_319 r_311 r_312 r_313 r_314 r_315 r_316 r_317
  refine lv_iinc (v := 4) (lv' := [(1, .int 4), (0, .ref h)]) hx hb dX5_init_73 hl (k := 0) rfl (by decide) (by decide) rfl (fun ls hl => ?_)
  refine lv_goto (tgt := 54) hx hb dX5_init_76 (by decide) ?_
  refine lv_iload_n hx hb dX5_init_54 rfl (lv_at hl 0 rfl) ?_
  refine lv_bipush (v := 6) hx hb dX5_init_55 (by decide) ?_
  refine lv_icmp_ge (tgt := 79) hx hb dX5_init_57 (by decide) (fun c_ => absurd c_ (by decide)) (fun c_ => ?_)
  refine lv_aload_n hx hb dX5_init_60 rfl (lv_at hl 1 rfl) ?_
  refine t_get (ci := 5) (v := .ref q_1) hB hT (ro_ci r_338 rfl) rfl 0 (by decide) k_199 kn_347 dX5_init_61 ?_
  refine lv_iload_n hx hb dX5_init_64 rfl (lv_at hl 0 rfl) ?_
  refine t_new (ci := 3) (fs := [.null, .null, .int 0, .int 0, .int 0, .int 0, .null, .null, .null, .null, .int 0, .int 0, .null, .null, .int 0]) hB hT rfl (by decide) k_108 k_110 k_60 (fnew_3) (Nat.le_of_ble_eq_true rfl) (Nat.le_of_ble_eq_true rfl) dX5_init_65 (fun q_368 H o_q_368 hT => ?_)
  have z_q_368 : g.1 q_368 = 0 := hE.z0 o_q_368
  replace hI : Inv (sN g_367 q_368 14 (vp_V [.null, .null, .int 0, .int 0, .int 0, .int 0, .null, .null, .null, .null, .int 0, .int 0, .null, .null, .int 0])) := hI.newo o_q_368 (fun _ => rfl) (fun _ => trivial) (fun _ _ => trivial)
  replace hM : Sm md_n_World g (sN g_367 q_368 14 (vp_V [.null, .null, .int 0, .int 0, .int 0, .int 0, .null, .null, .null, .null, .int 0, .int 0, .null, .null, .int 0])) := hM.tr hE (Sm.push o_q_368 sN_g)
  replace hE : Ex g (sN g_367 q_368 14 (vp_V [.null, .null, .int 0, .int 0, .int 0, .int 0, .null, .null, .null, .null, .int 0, .int 0, .null, .null, .int 0])) := hE.tr (Ex.push o_q_368 sN_g)
  have dn_q_16_q_368 : q_16 ≠ q_368 := (ne0 r_341 o_q_368 (by decide))
  have dn_q_86_q_368 : q_86 ≠ q_368 := (ne0 r_342 o_q_368 (by decide))
  have dn_q_168_q_368 : q_168 ≠ q_368 := (ne0 r_343 o_q_368 (by decide))
  have dn_q_262_q_368 : q_262 ≠ q_368 := (ne0 r_344 o_q_368 (by decide))
  have r_369 : (sN g_367 q_368 14 (vp_V [.null, .null, .int 0, .int 0, .int 0, .int 0, .null, .null, .null, .null, .int 0, .int 0, .null, .null, .int 0])).1 h = 16 := ((sN_g h (ne0 r_338 o_q_368 (by decide))).1.trans r_338)
  have r_370 : (sN g_367 q_368 14 (vp_V [.null, .null, .int 0, .int 0, .int 0, .int 0, .null, .null, .null, .null, .int 0, .int 0, .null, .null, .int 0])).1 q_1 = 44 := ((sN_g q_1 (ne0 r_339 o_q_368 (by decide))).1.trans r_339)
  have r_371 : (sN g_367 q_368 14 (vp_V [.null, .null, .int 0, .int 0, .int 0, .int 0, .null, .null, .null, .null, .int 0, .int 0, .null, .null, .int 0])).1 q_6 = 50 := ((sN_g q_6 (ne0 r_340 o_q_368 (by decide))).1.trans r_340)
  have r_372 : (sN g_367 q_368 14 (vp_V [.null, .null, .int 0, .int 0, .int 0, .int 0, .null, .null, .null, .null, .int 0, .int 0, .null, .null, .int 0])).1 q_16 = 10 := ((sN_g q_16 (ne0 r_341 o_q_368 (by decide))).1.trans r_341)
  have r_373 : (sN g_367 q_368 14 (vp_V [.null, .null, .int 0, .int 0, .int 0, .int 0, .null, .null, .null, .null, .int 0, .int 0, .null, .null, .int 0])).1 q_86 = 10 := ((sN_g q_86 (ne0 r_342 o_q_368 (by decide))).1.trans r_342)
  have r_374 : (sN g_367 q_368 14 (vp_V [.null, .null, .int 0, .int 0, .int 0, .int 0, .null, .null, .null, .null, .int 0, .int 0, .null, .null, .int 0])).1 q_168 = 10 := ((sN_g q_168 (ne0 r_343 o_q_368 (by decide))).1.trans r_343)
  have r_375 : (sN g_367 q_368 14 (vp_V [.null, .null, .int 0, .int 0, .int 0, .int 0, .null, .null, .null, .null, .int 0, .int 0, .null, .null, .int 0])).1 q_262 = 10 := ((sN_g q_262 (ne0 r_344 o_q_368 (by decide))).1.trans r_344)
  have r_376 : (sN g_367 q_368 14 (vp_V [.null, .null, .int 0, .int 0, .int 0, .int 0, .null, .null, .null, .null, .int 0, .int 0, .null, .null, .int 0])).1 q_368 = 14 := sN_r
  have n_377 : (sN g_367 q_368 14 (vp_V [.null, .null, .int 0, .int 0, .int 0, .int 0, .null, .null, .null, .null, .int 0, .int 0, .null, .null, .int 0])).2.2.1 q_1 = 6 := ((sN_g q_1 (ne0 r_339 o_q_368 (by decide))).2.2.1.trans n_345)
  have n_378 : (sN g_367 q_368 14 (vp_V [.null, .null, .int 0, .int 0, .int 0, .int 0, .null, .null, .null, .null, .int 0, .int 0, .null, .null, .int 0])).2.2.1 q_6 = 512 := ((sN_g q_6 (ne0 r_340 o_q_368 (by decide))).2.2.1.trans n_346)
  have kn_379 : (sN g_367 q_368 14 (vp_V [.null, .null, .int 0, .int 0, .int 0, .int 0, .null, .null, .null, .null, .int 0, .int 0, .null, .null, .int 0])).2.1 h 0 = .ref q_1 := ((congrFun (sN_g h (ne0 r_338 o_q_368 (by decide))).2.1 0).trans kn_347)
  have kn_380 : (sN g_367 q_368 14 (vp_V [.null, .null, .int 0, .int 0, .int 0, .int 0, .null, .null, .null, .null, .int 0, .int 0, .null, .null, .int 0])).2.1 h 1 = .int 0 := ((congrFun (sN_g h (ne0 r_338 o_q_368 (by decide))).2.1 1).trans kn_348)
  have kn_381 : (sN g_367 q_368 14 (vp_V [.null, .null, .int 0, .int 0, .int 0, .int 0, .null, .null, .null, .null, .int 0, .int 0, .null, .null, .int 0])).2.1 h 2 = .int 0 := ((congrFun (sN_g h (ne0 r_338 o_q_368 (by decide))).2.1 2).trans kn_349)
  have kn_382 : (sN g_367 q_368 14 (vp_V [.null, .null, .int 0, .int 0, .int 0, .int 0, .null, .null, .null, .null, .int 0, .int 0, .null, .null, .int 0])).2.1 h 3 = .ref q_6 := ((congrFun (sN_g h (ne0 r_338 o_q_368 (by decide))).2.1 3).trans kn_350)
  have kn_383 : (sN g_367 q_368 14 (vp_V [.null, .null, .int 0, .int 0, .int 0, .int 0, .null, .null, .null, .null, .int 0, .int 0, .null, .null, .int 0])).2.1 h 4 = .int 0 := ((congrFun (sN_g h (ne0 r_338 o_q_368 (by decide))).2.1 4).trans kn_351)
  have kn_384 : (sN g_367 q_368 14 (vp_V [.null, .null, .int 0, .int 0, .int 0, .int 0, .null, .null, .null, .null, .int 0, .int 0, .null, .null, .int 0])).2.1 h 5 = .int 0 := ((congrFun (sN_g h (ne0 r_338 o_q_368 (by decide))).2.1 5).trans kn_352)
  have kn_385 : (sN g_367 q_368 14 (vp_V [.null, .null, .int 0, .int 0, .int 0, .int 0, .null, .null, .null, .null, .int 0, .int 0, .null, .null, .int 0])).2.1 h 6 = .int 0 := ((congrFun (sN_g h (ne0 r_338 o_q_368 (by decide))).2.1 6).trans kn_353)
  have kn_386 : (sN g_367 q_368 14 (vp_V [.null, .null, .int 0, .int 0, .int 0, .int 0, .null, .null, .null, .null, .int 0, .int 0, .null, .null, .int 0])).2.1 h 7 = .int 0 := ((congrFun (sN_g h (ne0 r_338 o_q_368 (by decide))).2.1 7).trans kn_354)
  have kn_387 : (sN g_367 q_368 14 (vp_V [.null, .null, .int 0, .int 0, .int 0, .int 0, .null, .null, .null, .null, .int 0, .int 0, .null, .null, .int 0])).2.1 q_16 3 = .int 0 := ((congrFun (sN_g q_16 (ne0 r_341 o_q_368 (by decide))).2.1 3).trans kn_355)
  have kn_388 : (sN g_367 q_368 14 (vp_V [.null, .null, .int 0, .int 0, .int 0, .int 0, .null, .null, .null, .null, .int 0, .int 0, .null, .null, .int 0])).2.1 q_16 4 = .int 10 := ((congrFun (sN_g q_16 (ne0 r_341 o_q_368 (by decide))).2.1 4).trans kn_356)
  have kn_389 : (sN g_367 q_368 14 (vp_V [.null, .null, .int 0, .int 0, .int 0, .int 0, .null, .null, .null, .null, .int 0, .int 0, .null, .null, .int 0])).2.1 q_86 3 = .int 0 := ((congrFun (sN_g q_86 (ne0 r_342 o_q_368 (by decide))).2.1 3).trans kn_357)
  have kn_390 : (sN g_367 q_368 14 (vp_V [.null, .null, .int 0, .int 0, .int 0, .int 0, .null, .null, .null, .null, .int 0, .int 0, .null, .null, .int 0])).2.1 q_86 4 = .int 10 := ((congrFun (sN_g q_86 (ne0 r_342 o_q_368 (by decide))).2.1 4).trans kn_358)
  have kn_391 : (sN g_367 q_368 14 (vp_V [.null, .null, .int 0, .int 0, .int 0, .int 0, .null, .null, .null, .null, .int 0, .int 0, .null, .null, .int 0])).2.1 q_168 3 = .int 0 := ((congrFun (sN_g q_168 (ne0 r_343 o_q_368 (by decide))).2.1 3).trans kn_359)
  have kn_392 : (sN g_367 q_368 14 (vp_V [.null, .null, .int 0, .int 0, .int 0, .int 0, .null, .null, .null, .null, .int 0, .int 0, .null, .null, .int 0])).2.1 q_168 4 = .int 10 := ((congrFun (sN_g q_168 (ne0 r_343 o_q_368 (by decide))).2.1 4).trans kn_360)
  have kn_393 : (sN g_367 q_368 14 (vp_V [.null, .null, .int 0, .int 0, .int 0, .int 0, .null, .null, .null, .null, .int 0, .int 0, .null, .null, .int 0])).2.1 q_262 3 = .int 0 := ((congrFun (sN_g q_262 (ne0 r_344 o_q_368 (by decide))).2.1 3).trans kn_361)
  have kn_394 : (sN g_367 q_368 14 (vp_V [.null, .null, .int 0, .int 0, .int 0, .int 0, .null, .null, .null, .null, .int 0, .int 0, .null, .null, .int 0])).2.1 q_262 4 = .int 10 := ((congrFun (sN_g q_262 (ne0 r_344 o_q_368 (by decide))).2.1 4).trans kn_362)
  have kn_395 : (sN g_367 q_368 14 (vp_V [.null, .null, .int 0, .int 0, .int 0, .int 0, .null, .null, .null, .null, .int 0, .int 0, .null, .null, .int 0])).2.1 q_368 0 = .null := sN_f
  have kn_396 : (sN g_367 q_368 14 (vp_V [.null, .null, .int 0, .int 0, .int 0, .int 0, .null, .null, .null, .null, .int 0, .int 0, .null, .null, .int 0])).2.1 q_368 1 = .null := sN_f
  have kn_397 : (sN g_367 q_368 14 (vp_V [.null, .null, .int 0, .int 0, .int 0, .int 0, .null, .null, .null, .null, .int 0, .int 0, .null, .null, .int 0])).2.1 q_368 2 = .int 0 := sN_f
  have kn_398 : (sN g_367 q_368 14 (vp_V [.null, .null, .int 0, .int 0, .int 0, .int 0, .null, .null, .null, .null, .int 0, .int 0, .null, .null, .int 0])).2.1 q_368 3 = .int 0 := sN_f
  have kn_399 : (sN g_367 q_368 14 (vp_V [.null, .null, .int 0, .int 0, .int 0, .int 0, .null, .null, .null, .null, .int 0, .int 0, .null, .null, .int 0])).2.1 q_368 4 = .int 0 := sN_f
  have kn_400 : (sN g_367 q_368 14 (vp_V [.null, .null, .int 0, .int 0, .int 0, .int 0, .null, .null, .null, .null, .int 0, .int 0, .null, .null, .int 0])).2.1 q_368 5 = .int 0 := sN_f
  have kn_401 : (sN g_367 q_368 14 (vp_V [.null, .null, .int 0, .int 0, .int 0, .int 0, .null, .null, .null, .null, .int 0, .int 0, .null, .null, .int 0])).2.1 q_368 6 = .null := sN_f
  have kn_402 : (sN g_367 q_368 14 (vp_V [.null, .null, .int 0, .int 0, .int 0, .int 0, .null, .null, .null, .null, .int 0, .int 0, .null, .null, .int 0])).2.1 q_368 7 = .null := sN_f
  have kn_403 : (sN g_367 q_368 14 (vp_V [.null, .null, .int 0, .int 0, .int 0, .int 0, .null, .null, .null, .null, .int 0, .int 0, .null, .null, .int 0])).2.1 q_368 8 = .null := sN_f
  have kn_404 : (sN g_367 q_368 14 (vp_V [.null, .null, .int 0, .int 0, .int 0, .int 0, .null, .null, .null, .null, .int 0, .int 0, .null, .null, .int 0])).2.1 q_368 9 = .null := sN_f
  have kn_405 : (sN g_367 q_368 14 (vp_V [.null, .null, .int 0, .int 0, .int 0, .int 0, .null, .null, .null, .null, .int 0, .int 0, .null, .null, .int 0])).2.1 q_368 10 = .int 0 := sN_f
  have kn_406 : (sN g_367 q_368 14 (vp_V [.null, .null, .int 0, .int 0, .int 0, .int 0, .null, .null, .null, .null, .int 0, .int 0, .null, .null, .int 0])).2.1 q_368 11 = .int 0 := sN_f
  have kn_407 : (sN g_367 q_368 14 (vp_V [.null, .null, .int 0, .int 0, .int 0, .int 0, .null, .null, .null, .null, .int 0, .int 0, .null, .null, .int 0])).2.1 q_368 12 = .null := sN_f
  have kn_408 : (sN g_367 q_368 14 (vp_V [.null, .null, .int 0, .int 0, .int 0, .int 0, .null, .null, .null, .null, .int 0, .int 0, .null, .null, .int 0])).2.1 q_368 13 = .null := sN_f
  have kn_409 : (sN g_367 q_368 14 (vp_V [.null, .null, .int 0, .int 0, .int 0, .int 0, .null, .null, .null, .null, .int 0, .int 0, .null, .null, .int 0])).2.1 q_368 14 = .int 0 := sN_f
  have kn_410 : (sN g_367 q_368 14 (vp_V [.null, .null, .int 0, .int 0, .int 0, .int 0, .null, .null, .null, .null, .int 0, .int 0, .null, .null, .int 0])).2.2.2.2 q_1 0 = some q_16 := ((congrFun (sN_g q_1 (ne0 r_339 o_q_368 (by decide))).2.2.2.2 _).trans kn_363)
  have kn_411 : (sN g_367 q_368 14 (vp_V [.null, .null, .int 0, .int 0, .int 0, .int 0, .null, .null, .null, .null, .int 0, .int 0, .null, .null, .int 0])).2.2.2.2 q_1 1 = some q_86 := ((congrFun (sN_g q_1 (ne0 r_339 o_q_368 (by decide))).2.2.2.2 _).trans kn_364)
  have kn_412 : (sN g_367 q_368 14 (vp_V [.null, .null, .int 0, .int 0, .int 0, .int 0, .null, .null, .null, .null, .int 0, .int 0, .null, .null, .int 0])).2.2.2.2 q_1 2 = some q_168 := ((congrFun (sN_g q_1 (ne0 r_339 o_q_368 (by decide))).2.2.2.2 _).trans kn_365)
  have kn_413 : (sN g_367 q_368 14 (vp_V [.null, .null, .int 0, .int 0, .int 0, .int 0, .null, .null, .null, .null, .int 0, .int 0, .null, .null, .int 0])).2.2.2.2 q_1 3 = some q_262 := ((congrFun (sN_g q_1 (ne0 r_339 o_q_368 (by decide))).2.2.2.2 _).trans kn_366)
  generalize (sN g_367 q_368 14 (vp_V [.null, .null, .int 0, .int 0, .int 0, .int 0, .null, .null, .null, .null, .int 0, .int 0, .null, .null, .int 0])) = g_414 at hT hI hM hE r_369 r_370 r_371 r_372 r_373 r_374 r_375 r_376 n_377 n_378 kn_379 kn_380 kn_381 kn_382 kn_383 kn_384 kn_385 kn_386 kn_387 kn_388 kn_389 kn_390 kn_391 kn_392 kn_393 kn_394 kn_395 kn_396 kn_397 kn_398 kn_399 kn_400 kn_401 kn_402 kn_403 kn_404 kn_405 kn_406 kn_407 kn_408 kn_409 kn_410 kn_411 kn_412 kn_413
  clear kn_347 kn_348 kn_349 kn_350 kn_351 kn_352 kn_353 kn_354 kn_355 kn_356 kn_357 kn_358 kn_359 kn_360 kn_361 kn_362 kn_363 kn_364 kn_365 kn_366 n_345 n_346 r_338 r_339 r_340 r_341 r_342 r_343 r_344
  refine W.widen (k := 51) (n := 1041) (Nat.le_of_ble_eq_true rfl) (Nat.le_of_ble_eq_true rfl) ?_
  refine lv_dup hx hb dX5_init_68 rfl ?_
  refine t_callIN (n := 0) (As := []) (rest := [.ref q_368, .int 4, .ref q_1]) hB hT hl.1 (n_Service l D cI cZ cS cR N0 g_414 hI q_368 r_376) k_113 k_60 hB.2.2.2.2.2.2.2.1.2.1 k_112 rfl (by decide +kernel) ⟨(Nat.le_of_ble_eq_true rfl), (Nat.le_of_ble_eq_true rfl)⟩ rfl (Nat.le_of_ble_eq_true rfl) ⟨(Nat.le_of_ble_eq_true rfl), (Nat.le_of_ble_eq_true rfl)⟩ dX5_init_69 (fun v g_415 H locs hp hT => ?_)
  obtain ⟨rfl, hI, x_419, m_418, r_420, f_416, f_417⟩ := hp
  replace hM : Sm md_n_World g g_415 := hM.tr hE (m_418.mo (fun r k h => mdle_n_World_n_Service h))
  replace hE : Ex g g_415 := hE.trx z_q_368 x_419
  have r_421 : g_415.1 h = 16 := (Exx.r x_419 r_369 (by decide) (ro_ne r_369 r_376 (by decide)))
  have r_422 : g_415.1 q_1 = 44 := (Exx.r x_419 r_370 (by decide) (ro_ne r_370 r_376 (by decide)))
  have r_423 : g_415.1 q_6 = 50 := (Exx.r x_419 r_371 (by decide) (ro_ne r_371 r_376 (by decide)))
  have r_424 : g_415.1 q_16 = 10 := (Exx.r x_419 r_372 (by decide) (ro_ne r_372 r_376 (by decide)))
  have r_425 : g_415.1 q_86 = 10 := (Exx.r x_419 r_373 (by decide) (ro_ne r_373 r_376 (by decide)))
  have r_426 : g_415.1 q_168 = 10 := (Exx.r x_419 r_374 (by decide) (ro_ne r_374 r_376 (by decide)))
  have r_427 : g_415.1 q_262 = 10 := (Exx.r x_419 r_375 (by decide) (ro_ne r_375 r_376 (by decide)))
  have r_428 : g_415.1 q_368 = 10 := r_420
  have n_429 : g_415.2.2.1 q_1 = 6 := (Exx.n x_419 r_370 (by decide) (ro_ne r_370 r_376 (by decide)) n_377)
  have n_430 : g_415.2.2.1 q_6 = 512 := (Exx.n x_419 r_371 (by decide) (ro_ne r_371 r_376 (by decide)) n_378)
  have kn_431 : g_415.2.1 h 0 = .ref q_1 := (Sm.v m_418 r_369 (by decide) rfl kn_379)
  have kn_432 : g_415.2.1 h 1 = .int 0 := (Sm.v m_418 r_369 (by decide) rfl kn_380)
  have kn_433 : g_415.2.1 h 2 = .int 0 := (Sm.v m_418 r_369 (by decide) rfl kn_381)
  have kn_434 : g_415.2.1 h 3 = .ref q_6 := (Sm.v m_418 r_369 (by decide) rfl kn_382)
  have kn_435 : g_415.2.1 h 4 = .int 0 := (Sm.v m_418 r_369 (by decide) rfl kn_383)
  have kn_436 : g_415.2.1 h 5 = .int 0 := (Sm.v m_418 r_369 (by decide) rfl kn_384)
  have kn_437 : g_415.2.1 h 6 = .int 0 := (Sm.v m_418 r_369 (by decide) rfl kn_385)
  have kn_438 : g_415.2.1 h 7 = .int 0 := (Sm.v m_418 r_369 (by decide) rfl kn_386)
  have kn_439 : g_415.2.1 q_16 3 = .int 0 := (Sm.v m_418 r_372 (by decide) rfl kn_387)
  have kn_440 : g_415.2.1 q_16 4 = .int 10 := (Sm.v m_418 r_372 (by decide) rfl kn_388)
  have kn_441 : g_415.2.1 q_86 3 = .int 0 := (Sm.v m_418 r_373 (by decide) rfl kn_389)
  have kn_442 : g_415.2.1 q_86 4 = .int 10 := (Sm.v m_418 r_373 (by decide) rfl kn_390)
  have kn_443 : g_415.2.1 q_168 3 = .int 0 := (Sm.v m_418 r_374 (by decide) rfl kn_391)
  have kn_444 : g_415.2.1 q_168 4 = .int 10 := (Sm.v m_418 r_374 (by decide) rfl kn_392)
  have kn_445 : g_415.2.1 q_262 3 = .int 0 := (Sm.v m_418 r_375 (by decide) rfl kn_393)
  have kn_446 : g_415.2.1 q_262 4 = .int 10 := (Sm.v m_418 r_375 (by decide) rfl kn_394)
  have kn_447 : g_415.2.2.2.2 q_1 0 = some q_16 := ((congrFun (m_418.2 q_1 (by rw [r_370]; decide) (by rw [r_370]; rfl)).2 _).trans kn_410)
  have kn_448 : g_415.2.2.2.2 q_1 1 = some q_86 := ((congrFun (m_418.2 q_1 (by rw [r_370]; decide) (by rw [r_370]; rfl)).2 _).trans kn_411)
  have kn_449 : g_415.2.2.2.2 q_1 2 = some q_168 := ((congrFun (m_418.2 q_1 (by rw [r_370]; decide) (by rw [r_370]; rfl)).2 _).trans kn_412)
  have kn_450 : g_415.2.2.2.2 q_1 3 = some q_262 := ((congrFun (m_418.2 q_1 (by rw [r_370]; decide) (by rw [r_370]; rfl)).2 _).trans kn_413)
  refine W.eq (g2 := F0 m 72 ls [.ref q_368, .int 4, .ref q_1]) rfl ?_
  have i_451 : vp_in (4 : Int32) 6 := (by unfold vp_in; decide)
  refine t_astq hB hT r_422 n_429 (ro_ci r_428 rfl) i_451 dX5_init_72 (fun H locs hT => ?_)
  replace hI : Inv (sQ g_415 q_1 (4 : Int32).toNatClampNeg (some q_368)) := hI.sQ (by rw [r_422]; exact trivial)
  replace hM : Sm md_n_World g (sQ g_415 q_1 (4 : Int32).toNatClampNeg (some q_368)) := hM.tr hE (Sm_sQ (by rw [r_422]; rfl))
  replace hE : Ex g (sQ g_415 q_1 (4 : Int32).toNatClampNeg (some q_368)) := hE
  have r_452 : (sQ g_415 q_1 (4 : Int32).toNatClampNeg (some q_368)).1 h = 16 := r_421
  have r_453 : (sQ g_415 q_1 (4 : Int32).toNatClampNeg (some q_368)).1 q_1 = 44 := r_422
  have r_454 : (sQ g_415 q_1 (4 : Int32).toNatClampNeg (some q_368)).1 q_6 = 50 := r_423
  have r_455 : (sQ g_415 q_1 (4 : Int32).toNatClampNeg (some q_368)).1 q_16 = 10 := r_424
  have r_456 : (sQ g_415 q_1 (4 : Int32).toNatClampNeg (some q_368)).1 q_86 = 10 := r_425
  have r_457 : (sQ g_415 q_1 (4 : Int32).toNatClampNeg (some q_368)).1 q_168 = 10 := r_426
  have r_458 : (sQ g_415 q_1 (4 : Int32).toNatClampNeg (some q_368)).1 q_262 = 10 := r_427
  have r_459 : (sQ g_415 q_1 (4 : Int32).toNatClampNeg (some q_368)).1 q_368 = 10 := r_428
  have n_460 : (sQ g_415 q_1 (4 : Int32).toNatClampNeg (some q_368)).2.2.1 q_1 = 6 := n_429
  have n_461 : (sQ g_415 q_1 (4 : Int32).toNatClampNeg (some q_368)).2.2.1 q_6 = 512 := n_430
  have kn_462 : (sQ g_415 q_1 (4 : Int32).toNatClampNeg (some q_368)).2.1 h 0 = .ref q_1 := kn_431
  have kn_463 : (sQ g_415 q_1 (4 : Int32).toNatClampNeg (some q_368)).2.1 h 1 = .int 0 := kn_432
  have kn_464 : (sQ g_415 q_1 (4 : Int32).toNatClampNeg (some q_368)).2.1 h 2 = .int 0 := kn_433
  have kn_465 : (sQ g_415 q_1 (4 : Int32).toNatClampNeg (some q_368)).2.1 h 3 = .ref q_6 := kn_434
  have kn_466 : (sQ g_415 q_1 (4 : Int32).toNatClampNeg (some q_368)).2.1 h 4 = .int 0 := kn_435
  have kn_467 : (sQ g_415 q_1 (4 : Int32).toNatClampNeg (some q_368)).2.1 h 5 = .int 0 := kn_436
  have kn_468 : (sQ g_415 q_1 (4 : Int32).toNatClampNeg (some q_368)).2.1 h 6 = .int 0 := kn_437
  have kn_469 : (sQ g_415 q_1 (4 : Int32).toNatClampNeg (some q_368)).2.1 h 7 = .int 0 := kn_438
  have kn_470 : (sQ g_415 q_1 (4 : Int32).toNatClampNeg (some q_368)).2.1 q_16 3 = .int 0 := kn_439
  have kn_471 : (sQ g_415 q_1 (4 : Int32).toNatClampNeg (some q_368)).2.1 q_16 4 = .int 10 := kn_440
  have kn_472 : (sQ g_415 q_1 (4 : Int32).toNatClampNeg (some q_368)).2.1 q_86 3 = .int 0 := kn_441
  have kn_473 : (sQ g_415 q_1 (4 : Int32).toNatClampNeg (some q_368)).2.1 q_86 4 = .int 10 := kn_442
  have kn_474 : (sQ g_415 q_1 (4 : Int32).toNatClampNeg (some q_368)).2.1 q_168 3 = .int 0 := kn_443
  have kn_475 : (sQ g_415 q_1 (4 : Int32).toNatClampNeg (some q_368)).2.1 q_168 4 = .int 10 := kn_444
  have kn_476 : (sQ g_415 q_1 (4 : Int32).toNatClampNeg (some q_368)).2.1 q_262 3 = .int 0 := kn_445
  have kn_477 : (sQ g_415 q_1 (4 : Int32).toNatClampNeg (some q_368)).2.1 q_262 4 = .int 10 := kn_446
  have kn_478 : (sQ g_415 q_1 (4 : Int32).toNatClampNeg (some q_368)).2.1 q_368 3 = .int 0 := f_416
  have kn_479 : (sQ g_415 q_1 (4 : Int32).toNatClampNeg (some q_368)).2.1 q_368 4 = .int 10 := f_417
  have kn_480 : (sQ g_415 q_1 (4 : Int32).toNatClampNeg (some q_368)).2.2.2.2 q_1 0 = some q_16 := (sQ_i kn_447 (by decide))
  have kn_481 : (sQ g_415 q_1 (4 : Int32).toNatClampNeg (some q_368)).2.2.2.2 q_1 1 = some q_86 := (sQ_i kn_448 (by decide))
  have kn_482 : (sQ g_415 q_1 (4 : Int32).toNatClampNeg (some q_368)).2.2.2.2 q_1 2 = some q_168 := (sQ_i kn_449 (by decide))
  have kn_483 : (sQ g_415 q_1 (4 : Int32).toNatClampNeg (some q_368)).2.2.2.2 q_1 3 = some q_262 := (sQ_i kn_450 (by decide))
  have kn_484 : (sQ g_415 q_1 (4 : Int32).toNatClampNeg (some q_368)).2.2.2.2 q_1 4 = some q_368 := sQ_eq
  generalize (sQ g_415 q_1 (4 : Int32).toNatClampNeg (some q_368)) = g_485 at hT hI hM hE r_452 r_453 r_454 r_455 r_456 r_457 r_458 r_459 n_460 n_461 kn_462 kn_463 kn_464 kn_465 kn_466 kn_467 kn_468 kn_469 kn_470 kn_471 kn_472 kn_473 kn_474 kn_475 kn_476 kn_477 kn_478 kn_479 kn_480 kn_481 kn_482 kn_483 kn_484
  clear kn_431 kn_432 kn_433 kn_434 kn_435 kn_436 kn_437 kn_438 kn_439 kn_440 kn_441 kn_442 kn_443 kn_444 kn_445 kn_446 kn_447 kn_448 kn_449 kn_450 n_429 n_430 r_421 r_422 r_423 r_424 r_425 r_426 r_427 r_428
  refine lv_iinc (v := 5) (lv' := [(1, .int 5), (0, .ref h)]) hx hb dX5_init_73 hl (k := 0) rfl (by decide) (by decide) rfl (fun ls hl => ?_)
  refine lv_goto (tgt := 54) hx hb dX5_init_76 (by decide) ?_
  refine lv_iload_n hx hb dX5_init_54 rfl (lv_at hl 0 rfl) ?_
  refine lv_bipush (v := 6) hx hb dX5_init_55 (by decide) ?_
  refine lv_icmp_ge (tgt := 79) hx hb dX5_init_57 (by decide) (fun c_ => absurd c_ (by decide)) (fun c_ => ?_)
  refine lv_aload_n hx hb dX5_init_60 rfl (lv_at hl 1 rfl) ?_
  refine t_get (ci := 5) (v := .ref q_1) hB hT (ro_ci r_452 rfl) rfl 0 (by decide) k_199 kn_462 dX5_init_61 ?_
  refine lv_iload_n hx hb dX5_init_64 rfl (lv_at hl 0 rfl) ?_
  refine t_new (ci := 3) (fs := [.null, .null, .int 0, .int 0, .int 0, .int 0, .null, .null, .null, .null, .int 0, .int 0, .null, .null, .int 0]) hB hT rfl (by decide) k_108 k_110 k_60 (fnew_3) (Nat.le_of_ble_eq_true rfl) (Nat.le_of_ble_eq_true rfl) dX5_init_65 (fun q_486 H o_q_486 hT => ?_)
  have z_q_486 : g.1 q_486 = 0 := hE.z0 o_q_486
  replace hI : Inv (sN g_485 q_486 14 (vp_V [.null, .null, .int 0, .int 0, .int 0, .int 0, .null, .null, .null, .null, .int 0, .int 0, .null, .null, .int 0])) := hI.newo o_q_486 (fun _ => rfl) (fun _ => trivial) (fun _ _ => trivial)
  replace hM : Sm md_n_World g (sN g_485 q_486 14 (vp_V [.null, .null, .int 0, .int 0, .int 0, .int 0, .null, .null, .null, .null, .int 0, .int 0, .null, .null, .int 0])) := hM.tr hE (Sm.push o_q_486 sN_g)
  replace hE : Ex g (sN g_485 q_486 14 (vp_V [.null, .null, .int 0, .int 0, .int 0, .int 0, .null, .null, .null, .null, .int 0, .int 0, .null, .null, .int 0])) := hE.tr (Ex.push o_q_486 sN_g)
  have dn_q_16_q_486 : q_16 ≠ q_486 := (ne0 r_455 o_q_486 (by decide))
  have dn_q_86_q_486 : q_86 ≠ q_486 := (ne0 r_456 o_q_486 (by decide))
  have dn_q_168_q_486 : q_168 ≠ q_486 := (ne0 r_457 o_q_486 (by decide))
  have dn_q_262_q_486 : q_262 ≠ q_486 := (ne0 r_458 o_q_486 (by decide))
  have dn_q_368_q_486 : q_368 ≠ q_486 := (ne0 r_459 o_q_486 (by decide))
  have r_487 : (sN g_485 q_486 14 (vp_V [.null, .null, .int 0, .int 0, .int 0, .int 0, .null, .null, .null, .null, .int 0, .int 0, .null, .null, .int 0])).1 h = 16 := ((sN_g h (ne0 r_452 o_q_486 (by decide))).1.trans r_452)
  have r_488 : (sN g_485 q_486 14 (vp_V [.null, .null, .int 0, .int 0, .int 0, .int 0, .null, .null, .null, .null, .int 0, .int 0, .null, .null, .int 0])).1 q_1 = 44 := ((sN_g q_1 (ne0 r_453 o_q_486 (by decide))).1.trans r_453)
  have r_489 : (sN g_485 q_486 14 (vp_V [.null, .null, .int 0, .int 0, .int 0, .int 0, .null, .null, .null, .null, .int 0, .int 0, .null, .null, .int 0])).1 q_6 = 50 := ((sN_g q_6 (ne0 r_454 o_q_486 (by decide))).1.trans r_454)
  have r_490 : (sN g_485 q_486 14 (vp_V [.null, .null, .int 0, .int 0, .int 0, .int 0, .null, .null, .null, .null, .int 0, .int 0, .null, .null, .int 0])).1 q_16 = 10 := ((sN_g q_16 (ne0 r_455 o_q_486 (by decide))).1.trans r_455)
  have r_491 : (sN g_485 q_486 14 (vp_V [.null, .null, .int 0, .int 0, .int 0, .int 0, .null, .null, .null, .null, .int 0, .int 0, .null, .null, .int 0])).1 q_86 = 10 := ((sN_g q_86 (ne0 r_456 o_q_486 (by decide))).1.trans r_456)
  have r_492 : (sN g_485 q_486 14 (vp_V [.null, .null, .int 0, .int 0, .int 0, .int 0, .null, .null, .null, .null, .int 0, .int 0, .null, .null, .int 0])).1 q_168 = 10 := ((sN_g q_168 (ne0 r_457 o_q_486 (by decide))).1.trans r_457)
  have r_493 : (sN g_485 q_486 14 (vp_V [.null, .null, .int 0, .int 0, .int 0, .int 0, .null, .null, .null, .null, .int 0, .int 0, .null, .null, .int 0])).1 q_262 = 10 := ((sN_g q_262 (ne0 r_458 o_q_486 (by decide))).1.trans r_458)
  have r_494 : (sN g_485 q_486 14 (vp_V [.null, .null, .int 0, .int 0, .int 0, .int 0, .null, .null, .null, .null, .int 0, .int 0, .null, .null, .int 0])).1 q_368 = 10 := ((sN_g q_368 (ne0 r_459 o_q_486 (by decide))).1.trans r_459)
  have r_495 : (sN g_485 q_486 14 (vp_V [.null, .null, .int 0, .int 0, .int 0, .int 0, .null, .null, .null, .null, .int 0, .int 0, .null, .null, .int 0])).1 q_486 = 14 := sN_r
  have n_496 : (sN g_485 q_486 14 (vp_V [.null, .null, .int 0, .int 0, .int 0, .int 0, .null, .null, .null, .null, .int 0, .int 0, .null, .null, .int 0])).2.2.1 q_1 = 6 := ((sN_g q_1 (ne0 r_453 o_q_486 (by decide))).2.2.1.trans n_460)
  have n_497 : (sN g_485 q_486 14 (vp_V [.null, .null, .int 0, .int 0, .int 0, .int 0, .null, .null, .null, .null, .int 0, .int 0, .null, .null, .int 0])).2.2.1 q_6 = 512 := ((sN_g q_6 (ne0 r_454 o_q_486 (by decide))).2.2.1.trans n_461)
  have kn_498 : (sN g_485 q_486 14 (vp_V [.null, .null, .int 0, .int 0, .int 0, .int 0, .null, .null, .null, .null, .int 0, .int 0, .null, .null, .int 0])).2.1 h 0 = .ref q_1 := ((congrFun (sN_g h (ne0 r_452 o_q_486 (by decide))).2.1 0).trans kn_462)
  have kn_499 : (sN g_485 q_486 14 (vp_V [.null, .null, .int 0, .int 0, .int 0, .int 0, .null, .null, .null, .null, .int 0, .int 0, .null, .null, .int 0])).2.1 h 1 = .int 0 := ((congrFun (sN_g h (ne0 r_452 o_q_486 (by decide))).2.1 1).trans kn_463)
  have kn_500 : (sN g_485 q_486 14 (vp_V [.null, .null, .int 0, .int 0, .int 0, .int 0, .null, .null, .null, .null, .int 0, .int 0, .null, .null, .int 0])).2.1 h 2 = .int 0 := ((congrFun (sN_g h (ne0 r_452 o_q_486 (by decide))).2.1 2).trans kn_464)
  have kn_501 : (sN g_485 q_486 14 (vp_V [.null, .null, .int 0, .int 0, .int 0, .int 0, .null, .null, .null, .null, .int 0, .int 0, .null, .null, .int 0])).2.1 h 3 = .ref q_6 := ((congrFun (sN_g h (ne0 r_452 o_q_486 (by decide))).2.1 3).trans kn_465)
  have kn_502 : (sN g_485 q_486 14 (vp_V [.null, .null, .int 0, .int 0, .int 0, .int 0, .null, .null, .null, .null, .int 0, .int 0, .null, .null, .int 0])).2.1 h 4 = .int 0 := ((congrFun (sN_g h (ne0 r_452 o_q_486 (by decide))).2.1 4).trans kn_466)
  have kn_503 : (sN g_485 q_486 14 (vp_V [.null, .null, .int 0, .int 0, .int 0, .int 0, .null, .null, .null, .null, .int 0, .int 0, .null, .null, .int 0])).2.1 h 5 = .int 0 := ((congrFun (sN_g h (ne0 r_452 o_q_486 (by decide))).2.1 5).trans kn_467)
  have kn_504 : (sN g_485 q_486 14 (vp_V [.null, .null, .int 0, .int 0, .int 0, .int 0, .null, .null, .null, .null, .int 0, .int 0, .null, .null, .int 0])).2.1 h 6 = .int 0 := ((congrFun (sN_g h (ne0 r_452 o_q_486 (by decide))).2.1 6).trans kn_468)
  have kn_505 : (sN g_485 q_486 14 (vp_V [.null, .null, .int 0, .int 0, .int 0, .int 0, .null, .null, .null, .null, .int 0, .int 0, .null, .null, .int 0])).2.1 h 7 = .int 0 := ((congrFun (sN_g h (ne0 r_452 o_q_486 (by decide))).2.1 7).trans kn_469)
  have kn_506 : (sN g_485 q_486 14 (vp_V [.null, .null, .int 0, .int 0, .int 0, .int 0, .null, .null, .null, .null, .int 0, .int 0, .null, .null, .int 0])).2.1 q_16 3 = .int 0 := ((congrFun (sN_g q_16 (ne0 r_455 o_q_486 (by decide))).2.1 3).trans kn_470)
  have kn_507 : (sN g_485 q_486 14 (vp_V [.null, .null, .int 0, .int 0, .int 0, .int 0, .null, .null, .null, .null, .int 0, .int 0, .null, .null, .int 0])).2.1 q_16 4 = .int 10 := ((congrFun (sN_g q_16 (ne0 r_455 o_q_486 (by decide))).2.1 4).trans kn_471)
  have kn_508 : (sN g_485 q_486 14 (vp_V [.null, .null, .int 0, .int 0, .int 0, .int 0, .null, .null, .null, .null, .int 0, .int 0, .null, .null, .int 0])).2.1 q_86 3 = .int 0 := ((congrFun (sN_g q_86 (ne0 r_456 o_q_486 (by decide))).2.1 3).trans kn_472)
  have kn_509 : (sN g_485 q_486 14 (vp_V [.null, .null, .int 0, .int 0, .int 0, .int 0, .null, .null, .null, .null, .int 0, .int 0, .null, .null, .int 0])).2.1 q_86 4 = .int 10 := ((congrFun (sN_g q_86 (ne0 r_456 o_q_486 (by decide))).2.1 4).trans kn_473)
  have kn_510 : (sN g_485 q_486 14 (vp_V [.null, .null, .int 0, .int 0, .int 0, .int 0, .null, .null, .null, .null, .int 0, .int 0, .null, .null, .int 0])).2.1 q_168 3 = .int 0 := ((congrFun (sN_g q_168 (ne0 r_457 o_q_486 (by decide))).2.1 3).trans kn_474)
  have kn_511 : (sN g_485 q_486 14 (vp_V [.null, .null, .int 0, .int 0, .int 0, .int 0, .null, .null, .null, .null, .int 0, .int 0, .null, .null, .int 0])).2.1 q_168 4 = .int 10 := ((congrFun (sN_g q_168 (ne0 r_457 o_q_486 (by decide))).2.1 4).trans kn_475)
  have kn_512 : (sN g_485 q_486 14 (vp_V [.null, .null, .int 0, .int 0, .int 0, .int 0, .null, .null, .null, .null, .int 0, .int 0, .null, .null, .int 0])).2.1 q_262 3 = .int 0 := ((congrFun (sN_g q_262 (ne0 r_458 o_q_486 (by decide))).2.1 3).trans kn_476)
  have kn_513 : (sN g_485 q_486 14 (vp_V [.null, .null, .int 0, .int 0, .int 0, .int 0, .null, .null, .null, .null, .int 0, .int 0, .null, .null, .int 0])).2.1 q_262 4 = .int 10 := ((congrFun (sN_g q_262 (ne0 r_458 o_q_486 (by decide))).2.1 4).trans kn_477)
  have kn_514 : (sN g_485 q_486 14 (vp_V [.null, .null, .int 0, .int 0, .int 0, .int 0, .null, .null, .null, .null, .int 0, .int 0, .null, .null, .int 0])).2.1 q_368 3 = .int 0 := ((congrFun (sN_g q_368 (ne0 r_459 o_q_486 (by decide))).2.1 3).trans kn_478)
  have kn_515 : (sN g_485 q_486 14 (vp_V [.null, .null, .int 0, .int 0, .int 0, .int 0, .null, .null, .null, .null, .int 0, .int 0, .null, .null, .int 0])).2.1 q_368 4 = .int 10 := ((congrFun (sN_g q_368 (ne0 r_459 o_q_486 (by decide))).2.1 4).trans kn_479)
  have kn_516 : (sN g_485 q_486 14 (vp_V [.null, .null, .int 0, .int 0, .int 0, .int 0, .null, .null, .null, .null, .int 0, .int 0, .null, .null, .int 0])).2.1 q_486 0 = .null := sN_f
  have kn_517 : (sN g_485 q_486 14 (vp_V [.null, .null, .int 0, .int 0, .int 0, .int 0, .null, .null, .null, .null, .int 0, .int 0, .null, .null, .int 0])).2.1 q_486 1 = .null := sN_f
  have kn_518 : (sN g_485 q_486 14 (vp_V [.null, .null, .int 0, .int 0, .int 0, .int 0, .null, .null, .null, .null, .int 0, .int 0, .null, .null, .int 0])).2.1 q_486 2 = .int 0 := sN_f
  have kn_519 : (sN g_485 q_486 14 (vp_V [.null, .null, .int 0, .int 0, .int 0, .int 0, .null, .null, .null, .null, .int 0, .int 0, .null, .null, .int 0])).2.1 q_486 3 = .int 0 := sN_f
  have kn_520 : (sN g_485 q_486 14 (vp_V [.null, .null, .int 0, .int 0, .int 0, .int 0, .null, .null, .null, .null, .int 0, .int 0, .null, .null, .int 0])).2.1 q_486 4 = .int 0 := sN_f
  have kn_521 : (sN g_485 q_486 14 (vp_V [.null, .null, .int 0, .int 0, .int 0, .int 0, .null, .null, .null, .null, .int 0, .int 0, .null, .null, .int 0])).2.1 q_486 5 = .int 0 := sN_f
  have kn_522 : (sN g_485 q_486 14 (vp_V [.null, .null, .int 0, .int 0, .int 0, .int 0, .null, .null, .null, .null, .int 0, .int 0, .null, .null, .int 0])).2.1 q_486 6 = .null := sN_f
  have kn_523 : (sN g_485 q_486 14 (vp_V [.null, .null, .int 0, .int 0, .int 0, .int 0, .null, .null, .null, .null, .int 0, .int 0, .null, .null, .int 0])).2.1 q_486 7 = .null := sN_f
  have kn_524 : (sN g_485 q_486 14 (vp_V [.null, .null, .int 0, .int 0, .int 0, .int 0, .null, .null, .null, .null, .int 0, .int 0, .null, .null, .int 0])).2.1 q_486 8 = .null := sN_f
  have kn_525 : (sN g_485 q_486 14 (vp_V [.null, .null, .int 0, .int 0, .int 0, .int 0, .null, .null, .null, .null, .int 0, .int 0, .null, .null, .int 0])).2.1 q_486 9 = .null := sN_f
  have kn_526 : (sN g_485 q_486 14 (vp_V [.null, .null, .int 0, .int 0, .int 0, .int 0, .null, .null, .null, .null, .int 0, .int 0, .null, .null, .int 0])).2.1 q_486 10 = .int 0 := sN_f
  have kn_527 : (sN g_485 q_486 14 (vp_V [.null, .null, .int 0, .int 0, .int 0, .int 0, .null, .null, .null, .null, .int 0, .int 0, .null, .null, .int 0])).2.1 q_486 11 = .int 0 := sN_f
  have kn_528 : (sN g_485 q_486 14 (vp_V [.null, .null, .int 0, .int 0, .int 0, .int 0, .null, .null, .null, .null, .int 0, .int 0, .null, .null, .int 0])).2.1 q_486 12 = .null := sN_f
  have kn_529 : (sN g_485 q_486 14 (vp_V [.null, .null, .int 0, .int 0, .int 0, .int 0, .null, .null, .null, .null, .int 0, .int 0, .null, .null, .int 0])).2.1 q_486 13 = .null := sN_f
  have kn_530 : (sN g_485 q_486 14 (vp_V [.null, .null, .int 0, .int 0, .int 0, .int 0, .null, .null, .null, .null, .int 0, .int 0, .null, .null, .int 0])).2.1 q_486 14 = .int 0 := sN_f
  have kn_531 : (sN g_485 q_486 14 (vp_V [.null, .null, .int 0, .int 0, .int 0, .int 0, .null, .null, .null, .null, .int 0, .int 0, .null, .null, .int 0])).2.2.2.2 q_1 0 = some q_16 := ((congrFun (sN_g q_1 (ne0 r_453 o_q_486 (by decide))).2.2.2.2 _).trans kn_480)
  have kn_532 : (sN g_485 q_486 14 (vp_V [.null, .null, .int 0, .int 0, .int 0, .int 0, .null, .null, .null, .null, .int 0, .int 0, .null, .null, .int 0])).2.2.2.2 q_1 1 = some q_86 := ((congrFun (sN_g q_1 (ne0 r_453 o_q_486 (by decide))).2.2.2.2 _).trans kn_481)
  have kn_533 : (sN g_485 q_486 14 (vp_V [.null, .null, .int 0, .int 0, .int 0, .int 0, .null, .null, .null, .null, .int 0, .int 0, .null, .null, .int 0])).2.2.2.2 q_1 2 = some q_168 := ((congrFun (sN_g q_1 (ne0 r_453 o_q_486 (by decide))).2.2.2.2 _).trans kn_482)
  have kn_534 : (sN g_485 q_486 14 (vp_V [.null, .null, .int 0, .int 0, .int 0, .int 0, .null, .null, .null, .null, .int 0, .int 0, .null, .null, .int 0])).2.2.2.2 q_1 3 = some q_262 := ((congrFun (sN_g q_1 (ne0 r_453 o_q_486 (by decide))).2.2.2.2 _).trans kn_483)
  have kn_535 : (sN g_485 q_486 14 (vp_V [.null, .null, .int 0, .int 0, .int 0, .int 0, .null, .null, .null, .null, .int 0, .int 0, .null, .null, .int 0])).2.2.2.2 q_1 4 = some q_368 := ((congrFun (sN_g q_1 (ne0 r_453 o_q_486 (by decide))).2.2.2.2 _).trans kn_484)
  generalize (sN g_485 q_486 14 (vp_V [.null, .null, .int 0, .int 0, .int 0, .int 0, .null, .null, .null, .null, .int 0, .int 0, .null, .null, .int 0])) = g_536 at hT hI hM hE r_487 r_488 r_489 r_490 r_491 r_492 r_493 r_494 r_495 n_496 n_497 kn_498 kn_499 kn_500 kn_501 kn_502 kn_503 kn_504 kn_505 kn_506 kn_507 kn_508 kn_509 kn_510 kn_511 kn_512 kn_513 kn_514 kn_515 kn_516 kn_517 kn_518 kn_519 kn_520 kn_521 kn_522 kn_523 kn_524 kn_525 kn_526 kn_527 kn_528 kn_529 kn_530 kn_531 kn_532 kn_533 kn_534 kn_535
  clear kn_462 kn_463 kn_464 kn_465 kn_466 kn_467 kn_468 kn_469 kn_470 kn_471 kn_472 kn_473 kn_474 kn_475 kn_476 kn_477 kn_478 kn_479 kn_480 kn_481 kn_482 kn_483 kn_484 n_460 n_461 r_452 r_453 r_454 r_455 r_456 r_457 r_458 r_459
  refine W.widen (k := 63) (n := 1168) (Nat.le_of_ble_eq_true rfl) (Nat.le_of_ble_eq_true rfl) ?_
  refine lv_dup hx hb dX5_init_68 rfl ?_
  refine t_callIN (n := 0) (As := []) (rest := [.ref q_486, .int 5, .ref q_1]) hB hT hl.1 (n_Service l D cI cZ cS cR N0 g_536 hI q_486 r_495) k_113 k_60 hB.2.2.2.2.2.2.2.1.2.1 k_112 rfl (by decide +kernel) ⟨(Nat.le_of_ble_eq_true rfl), (Nat.le_of_ble_eq_true rfl)⟩ rfl (Nat.le_of_ble_eq_true rfl) ⟨(Nat.le_of_ble_eq_true rfl), (Nat.le_of_ble_eq_true rfl)⟩ dX5_init_69 (fun v g_537 H locs hp hT => ?_)
  obtain ⟨rfl, hI, x_541, m_540, r_542, f_538, f_539⟩ := hp
  replace hM : Sm md_n_World g g_537 := hM.tr hE (m_540.mo (fun r k h => mdle_n_World_n_Service h))
  replace hE : Ex g g_537 := hE.trx z_q_486 x_541
  have r_543 : g_537.1 h = 16 := (Exx.r x_541 r_487 (by decide) (ro_ne r_487 r_495 (by decide)))
  have r_544 : g_537.1 q_1 = 44 := (Exx.r x_541 r_488 (by decide) (ro_ne r_488 r_495 (by decide)))
  have r_545 : g_537.1 q_6 = 50 := (Exx.r x_541 r_489 (by decide) (ro_ne r_489 r_495 (by decide)))
  have r_546 : g_537.1 q_16 = 10 := (Exx.r x_541 r_490 (by decide) (ro_ne r_490 r_495 (by decide)))
  have r_547 : g_537.1 q_86 = 10 := (Exx.r x_541 r_491 (by decide) (ro_ne r_491 r_495 (by decide)))
  have r_548 : g_537.1 q_168 = 10 := (Exx.r x_541 r_492 (by decide) (ro_ne r_492 r_495 (by decide)))
  have r_549 : g_537.1 q_262 = 10 := (Exx.r x_541 r_493 (by decide) (ro_ne r_493 r_495 (by decide)))
  have r_550 : g_537.1 q_368 = 10 := (Exx.r x_541 r_494 (by decide) (ro_ne r_494 r_495 (by decide)))
  have r_551 : g_537.1 q_486 = 10 := r_542
  have n_552 : g_537.2.2.1 q_1 = 6 := (Exx.n x_541 r_488 (by decide) (ro_ne r_488 r_495 (by decide)) n_496)
  have n_553 : g_537.2.2.1 q_6 = 512 := (Exx.n x_541 r_489 (by decide) (ro_ne r_489 r_495 (by decide)) n_497)
  have kn_554 : g_537.2.1 h 0 = .ref q_1 := (Sm.v m_540 r_487 (by decide) rfl kn_498)
  have kn_555 : g_537.2.1 h 1 = .int 0 := (Sm.v m_540 r_487 (by decide) rfl kn_499)
  have kn_556 : g_537.2.1 h 2 = .int 0 := (Sm.v m_540 r_487 (by decide) rfl kn_500)
  have kn_557 : g_537.2.1 h 3 = .ref q_6 := (Sm.v m_540 r_487 (by decide) rfl kn_501)
  have kn_558 : g_537.2.1 h 4 = .int 0 := (Sm.v m_540 r_487 (by decide) rfl kn_502)
  have kn_559 : g_537.2.1 h 5 = .int 0 := (Sm.v m_540 r_487 (by decide) rfl kn_503)
  have kn_560 : g_537.2.1 h 6 = .int 0 := (Sm.v m_540 r_487 (by decide) rfl kn_504)
  have kn_561 : g_537.2.1 h 7 = .int 0 := (Sm.v m_540 r_487 (by decide) rfl kn_505)
  have kn_562 : g_537.2.1 q_16 3 = .int 0 := (Sm.v m_540 r_490 (by decide) rfl kn_506)
  have kn_563 : g_537.2.1 q_16 4 = .int 10 := (Sm.v m_540 r_490 (by decide) rfl kn_507)
  have kn_564 : g_537.2.1 q_86 3 = .int 0 := (Sm.v m_540 r_491 (by decide) rfl kn_508)
  have kn_565 : g_537.2.1 q_86 4 = .int 10 := (Sm.v m_540 r_491 (by decide) rfl kn_509)
  have kn_566 : g_537.2.1 q_168 3 = .int 0 := (Sm.v m_540 r_492 (by decide) rfl kn_510)
  have kn_567 : g_537.2.1 q_168 4 = .int 10 := (Sm.v m_540 r_492 (by decide) rfl kn_511)
  have kn_568 : g_537.2.1 q_262 3 = .int 0 := (Sm.v m_540 r_493 (by decide) rfl kn_512)
  have kn_569 : g_537.2.1 q_262 4 = .int 10 := (Sm.v m_540 r_493 (by decide) rfl kn_513)
  have kn_570 : g_537.2.1 q_368 3 = .int 0 := (Sm.v m_540 r_494 (by decide) rfl kn_514)
  have kn_571 : g_537.2.1 q_368 4 = .int 10 := (Sm.v m_540 r_494 (by decide) rfl kn_515)
  have kn_572 : g_537.2.2.2.2 q_1 0 = some q_16 := ((congrFun (m_540.2 q_1 (by rw [r_488]; decide) (by rw [r_488]; rfl)).2 _).trans kn_531)
  have kn_573 : g_537.2.2.2.2 q_1 1 = some q_86 := ((congrFun (m_540.2 q_1 (by rw [r_488]; decide) (by rw [r_488]; rfl)).2 _).trans kn_532)
  have kn_574 : g_537.2.2.2.2 q_1 2 = some q_168 := ((congrFun (m_540.2 q_1 (by rw [r_488]; decide) (by rw [r_488]; rfl)).2 _).trans kn_533)
  have kn_575 : g_537.2.2.2.2 q_1 3 = some q_262 := ((congrFun (m_540.2 q_1 (by rw [r_488]; decide) (by rw [r_488]; rfl)).2 _).trans kn_534)
  have kn_576 : g_537.2.2.2.2 q_1 4 = some q_368 := ((congrFun (m_540.2 q_1 (by rw [r_488]; decide) (by rw [r_488]; rfl)).2 _).trans kn_535)
  refine W.eq (g2 := F0 m 72 ls [.ref q_486, .int 5, .ref q_1]) rfl ?_
  have i_577 : vp_in (5 : Int32) 6 := (by unfold vp_in; decide)
  refine t_astq hB hT r_544 n_552 (ro_ci r_551 rfl) i_577 dX5_init_72 (fun H locs hT => ?_)
  replace hI : Inv (sQ g_537 q_1 (5 : Int32).toNatClampNeg (some q_486)) := hI.sQ (by rw [r_544]; exact trivial)
  replace hM : Sm md_n_World g (sQ g_537 q_1 (5 : Int32).toNatClampNeg (some q_486)) := hM.tr hE (Sm_sQ (by rw [r_544]; rfl))
  replace hE : Ex g (sQ g_537 q_1 (5 : Int32).toNatClampNeg (some q_486)) := hE
  have r_578 : (sQ g_537 q_1 (5 : Int32).toNatClampNeg (some q_486)).1 h = 16 := r_543
  have r_579 : (sQ g_537 q_1 (5 : Int32).toNatClampNeg (some q_486)).1 q_1 = 44 := r_544
  have r_580 : (sQ g_537 q_1 (5 : Int32).toNatClampNeg (some q_486)).1 q_6 = 50 := r_545
  have r_581 : (sQ g_537 q_1 (5 : Int32).toNatClampNeg (some q_486)).1 q_16 = 10 := r_546
  have r_582 : (sQ g_537 q_1 (5 : Int32).toNatClampNeg (some q_486)).1 q_86 = 10 := r_547
  have r_583 : (sQ g_537 q_1 (5 : Int32).toNatClampNeg (some q_486)).1 q_168 = 10 := r_548
  have r_584 : (sQ g_537 q_1 (5 : Int32).toNatClampNeg (some q_486)).1 q_262 = 10 := r_549
  have r_585 : (sQ g_537 q_1 (5 : Int32).toNatClampNeg (some q_486)).1 q_368 = 10 := r_550
  have r_586 : (sQ g_537 q_1 (5 : Int32).toNatClampNeg (some q_486)).1 q_486 = 10 := r_551
  have n_587 : (sQ g_537 q_1 (5 : Int32).toNatClampNeg (some q_486)).2.2.1 q_1 = 6 := n_552
  have n_588 : (sQ g_537 q_1 (5 : Int32).toNatClampNeg (some q_486)).2.2.1 q_6 = 512 := n_553
  have kn_589 : (sQ g_537 q_1 (5 : Int32).toNatClampNeg (some q_486)).2.1 h 0 = .ref q_1 := kn_554
  have kn_590 : (sQ g_537 q_1 (5 : Int32).toNatClampNeg (some q_486)).2.1 h 1 = .int 0 := kn_555
  have kn_591 : (sQ g_537 q_1 (5 : Int32).toNatClampNeg (some q_486)).2.1 h 2 = .int 0 := kn_556
  have kn_592 : (sQ g_537 q_1 (5 : Int32).toNatClampNeg (some q_486)).2.1 h 3 = .ref q_6 := kn_557
  have kn_593 : (sQ g_537 q_1 (5 : Int32).toNatClampNeg (some q_486)).2.1 h 4 = .int 0 := kn_558
  have kn_594 : (sQ g_537 q_1 (5 : Int32).toNatClampNeg (some q_486)).2.1 h 5 = .int 0 := kn_559
  have kn_595 : (sQ g_537 q_1 (5 : Int32).toNatClampNeg (some q_486)).2.1 h 6 = .int 0 := kn_560
  have kn_596 : (sQ g_537 q_1 (5 : Int32).toNatClampNeg (some q_486)).2.1 h 7 = .int 0 := kn_561
  have kn_597 : (sQ g_537 q_1 (5 : Int32).toNatClampNeg (some q_486)).2.1 q_16 3 = .int 0 := kn_562
  have kn_598 : (sQ g_537 q_1 (5 : Int32).toNatClampNeg (some q_486)).2.1 q_16 4 = .int 10 := kn_563
  have kn_599 : (sQ g_537 q_1 (5 : Int32).toNatClampNeg (some q_486)).2.1 q_86 3 = .int 0 := kn_564
  have kn_600 : (sQ g_537 q_1 (5 : Int32).toNatClampNeg (some q_486)).2.1 q_86 4 = .int 10 := kn_565
  have kn_601 : (sQ g_537 q_1 (5 : Int32).toNatClampNeg (some q_486)).2.1 q_168 3 = .int 0 := kn_566
  have kn_602 : (sQ g_537 q_1 (5 : Int32).toNatClampNeg (some q_486)).2.1 q_168 4 = .int 10 := kn_567
  have kn_603 : (sQ g_537 q_1 (5 : Int32).toNatClampNeg (some q_486)).2.1 q_262 3 = .int 0 := kn_568
  have kn_604 : (sQ g_537 q_1 (5 : Int32).toNatClampNeg (some q_486)).2.1 q_262 4 = .int 10 := kn_569
  have kn_605 : (sQ g_537 q_1 (5 : Int32).toNatClampNeg (some q_486)).2.1 q_368 3 = .int 0 := kn_570
  have kn_606 : (sQ g_537 q_1 (5 : Int32).toNatClampNeg (some q_486)).2.1 q_368 4 = .int 10 := kn_571
  have kn_607 : (sQ g_537 q_1 (5 : Int32).toNatClampNeg (some q_486)).2.1 q_486 3 = .int 0 := f_538
  have kn_608 : (sQ g_537 q_1 (5 : Int32).toNatClampNeg (some q_486)).2.1 q_486 4 = .int 10 := f_539
  have kn_609 : (sQ g_537 q_1 (5 : Int32).toNatClampNeg (some q_486)).2.2.2.2 q_1 0 = some q_16 := (sQ_i kn_572 (by decide))
  have kn_610 : (sQ g_537 q_1 (5 : Int32).toNatClampNeg (some q_486)).2.2.2.2 q_1 1 = some q_86 := (sQ_i kn_573 (by decide))
  have kn_611 : (sQ g_537 q_1 (5 : Int32).toNatClampNeg (some q_486)).2.2.2.2 q_1 2 = some q_168 := (sQ_i kn_574 (by decide))
  have kn_612 : (sQ g_537 q_1 (5 : Int32).toNatClampNeg (some q_486)).2.2.2.2 q_1 3 = some q_262 := (sQ_i kn_575 (by decide))
  have kn_613 : (sQ g_537 q_1 (5 : Int32).toNatClampNeg (some q_486)).2.2.2.2 q_1 4 = some q_368 := (sQ_i kn_576 (by decide))
  have kn_614 : (sQ g_537 q_1 (5 : Int32).toNatClampNeg (some q_486)).2.2.2.2 q_1 5 = some q_486 := sQ_eq
  generalize (sQ g_537 q_1 (5 : Int32).toNatClampNeg (some q_486)) = g_615 at hT hI hM hE r_578 r_579 r_580 r_581 r_582 r_583 r_584 r_585 r_586 n_587 n_588 kn_589 kn_590 kn_591 kn_592 kn_593 kn_594 kn_595 kn_596 kn_597 kn_598 kn_599 kn_600 kn_601 kn_602 kn_603 kn_604 kn_605 kn_606 kn_607 kn_608 kn_609 kn_610 kn_611 kn_612 kn_613 kn_614
  clear kn_554 kn_555 kn_556 kn_557 kn_558 kn_559 kn_560 kn_561 kn_562 kn_563 kn_564 kn_565 kn_566 kn_567 kn_568 kn_569 kn_570 kn_571 kn_572 kn_573 kn_574 kn_575 kn_576 n_552 n_553 r_543 r_544 r_545 r_546 r_547 r_548 r_549 r_550 r_551
  refine lv_iinc (v := 6) (lv' := [(1, .int 6), (0, .ref h)]) hx hb dX5_init_73 hl (k := 0) rfl (by decide) (by decide) rfl (fun ls hl => ?_)
  refine lv_goto (tgt := 54) hx hb dX5_init_76 (by decide) ?_
  refine lv_iload_n hx hb dX5_init_54 rfl (lv_at hl 0 rfl) ?_
  refine lv_bipush (v := 6) hx hb dX5_init_55 (by decide) ?_
  refine lv_icmp_ge (tgt := 79) hx hb dX5_init_57 (by decide) (fun c_ => ?_) (fun c_ => absurd (by decide) c_)
  have hT : Tv D cI cZ cS cR N0 s.heap H locs (sR g_615 q_1 42) := ⟨hT.1.promo (by rw [r_579]; decide) (by rw [r_579]; rfl) (Or.inr ⟨r_579, by decide⟩), hT.2⟩
  replace hI : Inv (sR g_615 q_1 42) := hI.promo (by rw [r_579]; decide) (fun _ => (show fsm _ _ ft from trivial)) (fun _ _ => trivial) (fun i hi => match i, (show i < 6 by rw [← n_587]; exact hi) with | 0, _ => (by rw [kn_609]; exact ⟨_, rfl, sR_r r_581 (ro_ne r_581 r_579 (by decide))⟩) | 1, _ => (by rw [kn_610]; exact ⟨_, rfl, sR_r r_582 (ro_ne r_582 r_579 (by decide))⟩) | 2, _ => (by rw [kn_611]; exact ⟨_, rfl, sR_r r_583 (ro_ne r_583 r_579 (by decide))⟩) | 3, _ => (by rw [kn_612]; exact ⟨_, rfl, sR_r r_584 (ro_ne r_584 r_579 (by decide))⟩) | 4, _ => (by rw [kn_613]; exact ⟨_, rfl, sR_r r_585 (ro_ne r_585 r_579 (by decide))⟩) | 5, _ => (by rw [kn_614]; exact ⟨_, rfl, sR_r r_586 (ro_ne r_586 r_579 (by decide))⟩) | k + 6, h => absurd h (by omega))
  replace hM : Sm md_n_World g (sR g_615 q_1 42) := hM
  replace hE : Ex g (sR g_615 q_1 42) := hE.pr0 z_q_1
  have r_616 : (sR g_615 q_1 42).1 h = 16 := (sR_r r_578 (ro_ne r_578 r_579 (by decide)))
  have r_617 : (sR g_615 q_1 42).1 q_1 = 42 := (if_pos rfl)
  have r_618 : (sR g_615 q_1 42).1 q_6 = 50 := (sR_r r_580 (ro_ne r_580 r_579 (by decide)))
  have r_619 : (sR g_615 q_1 42).1 q_16 = 10 := (sR_r r_581 (ro_ne r_581 r_579 (by decide)))
  have r_620 : (sR g_615 q_1 42).1 q_86 = 10 := (sR_r r_582 (ro_ne r_582 r_579 (by decide)))
  have r_621 : (sR g_615 q_1 42).1 q_168 = 10 := (sR_r r_583 (ro_ne r_583 r_579 (by decide)))
  have r_622 : (sR g_615 q_1 42).1 q_262 = 10 := (sR_r r_584 (ro_ne r_584 r_579 (by decide)))
  have r_623 : (sR g_615 q_1 42).1 q_368 = 10 := (sR_r r_585 (ro_ne r_585 r_579 (by decide)))
  have r_624 : (sR g_615 q_1 42).1 q_486 = 10 := (sR_r r_586 (ro_ne r_586 r_579 (by decide)))
  have n_625 : (sR g_615 q_1 42).2.2.1 q_1 = 6 := n_587
  have n_626 : (sR g_615 q_1 42).2.2.1 q_6 = 512 := n_588
  have kn_627 : (sR g_615 q_1 42).2.1 h 0 = .ref q_1 := kn_589
  have kn_628 : (sR g_615 q_1 42).2.1 h 1 = .int 0 := kn_590
  have kn_629 : (sR g_615 q_1 42).2.1 h 2 = .int 0 := kn_591
  have kn_630 : (sR g_615 q_1 42).2.1 h 3 = .ref q_6 := kn_592
  have kn_631 : (sR g_615 q_1 42).2.1 h 4 = .int 0 := kn_593
  have kn_632 : (sR g_615 q_1 42).2.1 h 5 = .int 0 := kn_594
  have kn_633 : (sR g_615 q_1 42).2.1 h 6 = .int 0 := kn_595
  have kn_634 : (sR g_615 q_1 42).2.1 h 7 = .int 0 := kn_596
  have kn_635 : (sR g_615 q_1 42).2.1 q_16 3 = .int 0 := kn_597
  have kn_636 : (sR g_615 q_1 42).2.1 q_16 4 = .int 10 := kn_598
  have kn_637 : (sR g_615 q_1 42).2.1 q_86 3 = .int 0 := kn_599
  have kn_638 : (sR g_615 q_1 42).2.1 q_86 4 = .int 10 := kn_600
  have kn_639 : (sR g_615 q_1 42).2.1 q_168 3 = .int 0 := kn_601
  have kn_640 : (sR g_615 q_1 42).2.1 q_168 4 = .int 10 := kn_602
  have kn_641 : (sR g_615 q_1 42).2.1 q_262 3 = .int 0 := kn_603
  have kn_642 : (sR g_615 q_1 42).2.1 q_262 4 = .int 10 := kn_604
  have kn_643 : (sR g_615 q_1 42).2.1 q_368 3 = .int 0 := kn_605
  have kn_644 : (sR g_615 q_1 42).2.1 q_368 4 = .int 10 := kn_606
  have kn_645 : (sR g_615 q_1 42).2.1 q_486 3 = .int 0 := kn_607
  have kn_646 : (sR g_615 q_1 42).2.1 q_486 4 = .int 10 := kn_608
  have kn_647 : (sR g_615 q_1 42).2.2.2.2 q_1 0 = some q_16 := kn_609
  have kn_648 : (sR g_615 q_1 42).2.2.2.2 q_1 1 = some q_86 := kn_610
  have kn_649 : (sR g_615 q_1 42).2.2.2.2 q_1 2 = some q_168 := kn_611
  have kn_650 : (sR g_615 q_1 42).2.2.2.2 q_1 3 = some q_262 := kn_612
  have kn_651 : (sR g_615 q_1 42).2.2.2.2 q_1 4 = some q_368 := kn_613
  have kn_652 : (sR g_615 q_1 42).2.2.2.2 q_1 5 = some q_486 := kn_614
  generalize (sR g_615 q_1 42) = g_653 at hT hI hM hE r_616 r_617 r_618 r_619 r_620 r_621 r_622 r_623 r_624 n_625 n_626 kn_627 kn_628 kn_629 kn_630 kn_631 kn_632 kn_633 kn_634 kn_635 kn_636 kn_637 kn_638 kn_639 kn_640 kn_641 kn_642 kn_643 kn_644 kn_645 kn_646 kn_647 kn_648 kn_649 kn_650 kn_651 kn_652
  clear kn_589 kn_590 kn_591 kn_592 kn_593 kn_594 kn_595 kn_596 kn_597 kn_598 kn_599 kn_600 kn_601 kn_602 kn_603 kn_604 kn_605 kn_606 kn_607 kn_608 kn_609 kn_610 kn_611 kn_612 kn_613 kn_614 n_587 n_588 r_578 r_579 r_580 r_581 r_582 r_583 r_584 r_585 r_586
  have hF : ∀ k, Fok (sR g_653 h 19) 19 k (g_653.2.1 h k) := fun k => match k with
    | 0 => (by rw [kn_627]; exact q_19_0 ⟨_, rfl, sR_r r_617 (ro_ne r_617 r_616 (by decide)), n_625⟩)
    | 1 => (by rw [kn_628]; exact q_19_1 ⟨_, rfl, by decide, by decide⟩)
    | 2 => (by rw [kn_629]; exact q_19_2 ⟨_, rfl⟩)
    | 3 => (by rw [kn_630]; exact q_19_3 ⟨_, rfl, sR_r r_618 (ro_ne r_618 r_616 (by decide)), n_626⟩)
    | 4 => (by rw [kn_631]; exact q_19_4 ⟨_, rfl⟩)
    | 5 => (by rw [kn_632]; exact q_19_5 ⟨_, rfl⟩)
    | 6 => (by rw [kn_633]; exact q_19_6 ⟨_, rfl⟩)
    | 7 => (by rw [kn_634]; exact q_19_7 ⟨_, rfl, by decide, by decide⟩)
    | k + 8 => (show fsm _ _ ft from trivial)
  have hT : Tv D cI cZ cS cR N0 s.heap H locs (sR g_653 h 19) := ⟨hT.1.promo (by rw [r_616]; decide) (by rw [r_616]; rfl) (Or.inl (by decide)), hT.2⟩
  replace hI : Inv (sR g_653 h 19) := hI.promo (by rw [r_616]; decide) hF (fun _ _ => trivial) (fun _ _ => trivial)
  replace hM : Sm md_n_World g (sR g_653 h 19) := hM
  have hX : Exx h g (sR g_653 h 19) := Exx.promo hE
  exact t_vret hB hr hT (Nat.le_of_ble_eq_true rfl) (Nat.le_of_ble_eq_true rfl) dX5_init_79 ⟨rfl, hI, hX, hM, if_pos rfl, kn_628, ⟨_, kn_627, sR_r r_617 (ro_ne r_617 r_616 (by decide)), n_625, fun i hi => match i, hi with | 0, _ => ⟨_, kn_647, sR_r r_619 (ro_ne r_619 r_616 (by decide)), kn_635, kn_636⟩ | 1, _ => ⟨_, kn_648, sR_r r_620 (ro_ne r_620 r_616 (by decide)), kn_637, kn_638⟩ | 2, _ => ⟨_, kn_649, sR_r r_621 (ro_ne r_621 r_616 (by decide)), kn_639, kn_640⟩ | 3, _ => ⟨_, kn_650, sR_r r_622 (ro_ne r_622 r_616 (by decide)), kn_641, kn_642⟩ | 4, _ => ⟨_, kn_651, sR_r r_623 (ro_ne r_623 r_616 (by decide)), kn_643, kn_644⟩ | 5, _ => ⟨_, kn_652, sR_r r_624 (ro_ne r_624 r_616 (by decide)), kn_645, kn_646⟩ | k + 6, h => absurd h (by omega), six_inj kn_647 kn_648 kn_649 kn_650 kn_651 kn_652 dn_q_16_q_86 dn_q_16_q_168 dn_q_16_q_262 dn_q_16_q_368 dn_q_16_q_486 dn_q_86_q_168 dn_q_86_q_262 dn_q_86_q_368 dn_q_86_q_486 dn_q_168_q_262 dn_q_168_q_368 dn_q_168_q_486 dn_q_262_q_368 dn_q_262_q_486 dn_q_368_q_486⟩⟩
abbrev md_s_CallList : Nat → Nat → Bool := mdf [(11, 0), (11, 1), (11, 2), (11, 3)]
set_option maxHeartbeats 4000000 in
set_option maxRecDepth 100000 in
theorem s_CallList (l : Launch) (D : va_G) (cI cZ cS cR : ClassId) (N0 : NT) (g : GS) (hI : Inv g) (h : Nat) (r_h : g.1 h = 11) : Ty l D cI cZ cS cR N0 yX0_init cX0_init 3 none 0 3 18 [.ref h, .int 6] g (fun v g' => v = none ∧ Inv g' ∧ Exx h g g' ∧ Sm md_s_CallList g g' ∧ g'.1 h = 1 ∧ (g'.2.1 h 3 = .int 0)) := by
  refine t_enter (by decide) (Nat.le_of_ble_eq_true rfl) ?_
  intro p e s m args below meth c ls H locs hB hr hin hl hT
  have hx := hB.1
  have hb := hB.2.1
  have hl : lv_has ls 3 [(0, .ref h), (1, .int 6)] := hl
  replace hE : Ex g g := Ex.rf
  replace hM : Sm md_s_CallList g g := Sm.rf
  refine lv_aload_n hx hb dX0_init_0 rfl (lv_at hl 0 rfl) ?_
  refine t_oinit hB k_239 k_78 k_79 hl.1 dX0_init_1 (Nat.le_of_ble_eq_true rfl) (Nat.le_of_ble_eq_true rfl) ?_
  refine lv_aload_n hx hb dX0_init_4 rfl (lv_at hl 0 rfl) ?_
  refine lv_iconst (v := 0) hx hb dX0_init_5 (by decide) ?_
  refine t_put0 (ci := 0) (v := .int 0) hB hT (ro_ci r_h rfl) (ro_n0 r_h (by decide)) rfl 3 (by decide) k_253 (Or.inl rfl) rfl rfl dX0_init_6 (fun H locs hT => ?_)
  replace hI : Inv (sF g h 3 (.int 0)) := hI.sF (fk r_h (show fsm _ _ ft from trivial))
  replace hM : Sm md_s_CallList g (sF g h 3 (.int 0)) := hM.tr hE (Sm_sF (by rw [r_h]; rfl))
  replace hE : Ex g (sF g h 3 (.int 0)) := hE
  refine lv_iload_n hx hb dX0_init_9 rfl (lv_at hl 1 rfl) ?_
  refine lv_iconst (v := 1) hx hb dX0_init_10 (by decide) ?_
  refine t_max (v := 6) hB k_240 k_241 k_63 k_242 hl.1 (Nat.le_of_ble_eq_true rfl) (Nat.le_of_ble_eq_true rfl) (Nat.le_of_ble_eq_true rfl) (Nat.le_of_ble_eq_true rfl) (by decide) dX0_init_11 ?_
  refine lv_istore_n (lv' := [(2, .int 6), (0, .ref h), (1, .int 6)]) hx hb dX0_init_14 rfl hl (by decide) rfl (fun ls hl => ?_)
  refine lv_aload_n hx hb dX0_init_15 rfl (lv_at hl 1 rfl) ?_
  refine lv_iload_n hx hb dX0_init_16 rfl (lv_at hl 0 rfl) ?_
  refine t_newi (N' := 6) hB hT 61 (by decide) k_101 (by decide) (by decide) (by decide) (Nat.le_of_ble_eq_true rfl) (Nat.le_of_ble_eq_true rfl) dX0_init_17 (fun q_1 H o_q_1 hT => ?_)
  have z_q_1 : g.1 q_1 = 0 := hE.z0 o_q_1
  replace hI : Inv (sA (sF g h 3 (.int 0)) q_1 61 6) := hI.newi o_q_1 (by decide) (fun _ => rfl) ⟨by decide, by decide⟩ (fun _ => trivial)
  replace hM : Sm md_s_CallList g (sA (sF g h 3 (.int 0)) q_1 61 6) := hM.tr hE (Sm.push o_q_1 sA_g)
  replace hE : Ex g (sA (sF g h 3 (.int 0)) q_1 61 6) := hE.tr (Ex.push o_q_1 sA_g)
  have r_2 : (sA (sF g h 3 (.int 0)) q_1 61 6).1 h = 11 := ((sA_g h (ne0 r_h o_q_1 (by decide))).1.trans r_h)
  have r_3 : (sA (sF g h 3 (.int 0)) q_1 61 6).1 q_1 = 61 := sA_r
  have n_4 : (sA (sF g h 3 (.int 0)) q_1 61 6).2.2.1 q_1 = 6 := sA_n
  have kn_5 : (sA (sF g h 3 (.int 0)) q_1 61 6).2.1 h 3 = .int 0 := ((congrFun (sA_g h (ne0 r_h o_q_1 (by decide))).2.1 3).trans sF_eq)
  generalize (sA (sF g h 3 (.int 0)) q_1 61 6) = g_6 at hT hI hM hE r_2 r_3 n_4 kn_5
  refine W.widen (k := 1) (n := 6) (Nat.le_of_ble_eq_true rfl) (Nat.le_of_ble_eq_true rfl) ?_
  refine t_put0 (ci := 0) (v := .ref q_1) hB hT (ro_ci r_2 rfl) (ro_n0 r_2 (by decide)) rfl 0 (by decide) k_243 (Or.inr ⟨hin, rfl⟩) rfl rfl dX0_init_19 (fun H locs hT => ?_)
  replace hI : Inv (sF g_6 h 0 (.ref q_1)) := hI.sF (fk r_2 (show fsm _ _ ft from trivial))
  replace hM : Sm md_s_CallList g (sF g_6 h 0 (.ref q_1)) := hM.tr hE (Sm_sF (by rw [r_2]; rfl))
  replace hE : Ex g (sF g_6 h 0 (.ref q_1)) := hE
  refine lv_aload_n hx hb dX0_init_22 rfl (lv_at hl 1 rfl) ?_
  refine lv_iload_n hx hb dX0_init_23 rfl (lv_at hl 0 rfl) ?_
  refine t_newi (N' := 6) hB hT 62 (by decide) k_101 (by decide) (by decide) (by decide) (Nat.le_of_ble_eq_true rfl) (Nat.le_of_ble_eq_true rfl) dX0_init_24 (fun q_7 H o_q_7 hT => ?_)
  have z_q_7 : g.1 q_7 = 0 := hE.z0 o_q_7
  replace hI : Inv (sA (sF g_6 h 0 (.ref q_1)) q_7 62 6) := hI.newi o_q_7 (by decide) (fun _ => rfl) trivial (fun _ => trivial)
  replace hM : Sm md_s_CallList g (sA (sF g_6 h 0 (.ref q_1)) q_7 62 6) := hM.tr hE (Sm.push o_q_7 sA_g)
  replace hE : Ex g (sA (sF g_6 h 0 (.ref q_1)) q_7 62 6) := hE.tr (Ex.push o_q_7 sA_g)
  have r_8 : (sA (sF g_6 h 0 (.ref q_1)) q_7 62 6).1 h = 11 := ((sA_g h (ne0 r_2 o_q_7 (by decide))).1.trans r_2)
  have r_9 : (sA (sF g_6 h 0 (.ref q_1)) q_7 62 6).1 q_1 = 61 := ((sA_g q_1 (ne0 r_3 o_q_7 (by decide))).1.trans r_3)
  have r_10 : (sA (sF g_6 h 0 (.ref q_1)) q_7 62 6).1 q_7 = 62 := sA_r
  have n_11 : (sA (sF g_6 h 0 (.ref q_1)) q_7 62 6).2.2.1 q_1 = 6 := ((sA_g q_1 (ne0 r_3 o_q_7 (by decide))).2.2.1.trans n_4)
  have n_12 : (sA (sF g_6 h 0 (.ref q_1)) q_7 62 6).2.2.1 q_7 = 6 := sA_n
  have kn_13 : (sA (sF g_6 h 0 (.ref q_1)) q_7 62 6).2.1 h 3 = .int 0 := ((congrFun (sA_g h (ne0 r_2 o_q_7 (by decide))).2.1 3).trans (sF_k kn_5 (by decide)))
  have kn_14 : (sA (sF g_6 h 0 (.ref q_1)) q_7 62 6).2.1 h 0 = .ref q_1 := ((congrFun (sA_g h (ne0 r_2 o_q_7 (by decide))).2.1 0).trans sF_eq)
  generalize (sA (sF g_6 h 0 (.ref q_1)) q_7 62 6) = g_15 at hT hI hM hE r_8 r_9 r_10 n_11 n_12 kn_13 kn_14
  clear kn_5 n_4 r_2 r_3
  refine W.widen (k := 2) (n := 12) (Nat.le_of_ble_eq_true rfl) (Nat.le_of_ble_eq_true rfl) ?_
  refine t_put0 (ci := 0) (v := .ref q_7) hB hT (ro_ci r_8 rfl) (ro_n0 r_8 (by decide)) rfl 1 (by decide) k_247 (Or.inr ⟨hin, rfl⟩) rfl rfl dX0_init_26 (fun H locs hT => ?_)
  replace hI : Inv (sF g_15 h 1 (.ref q_7)) := hI.sF (fk r_8 (show fsm _ _ ft from trivial))
  replace hM : Sm md_s_CallList g (sF g_15 h 1 (.ref q_7)) := hM.tr hE (Sm_sF (by rw [r_8]; rfl))
  replace hE : Ex g (sF g_15 h 1 (.ref q_7)) := hE
  refine lv_aload_n hx hb dX0_init_29 rfl (lv_at hl 1 rfl) ?_
  refine lv_iload_n hx hb dX0_init_30 rfl (lv_at hl 0 rfl) ?_
  refine t_newi (N' := 6) hB hT 63 (by decide) k_101 (by decide) (by decide) (by decide) (Nat.le_of_ble_eq_true rfl) (Nat.le_of_ble_eq_true rfl) dX0_init_31 (fun q_16 H o_q_16 hT => ?_)
  have z_q_16 : g.1 q_16 = 0 := hE.z0 o_q_16
  replace hI : Inv (sA (sF g_15 h 1 (.ref q_7)) q_16 63 6) := hI.newi o_q_16 (by decide) (fun _ => rfl) trivial (fun _ => trivial)
  replace hM : Sm md_s_CallList g (sA (sF g_15 h 1 (.ref q_7)) q_16 63 6) := hM.tr hE (Sm.push o_q_16 sA_g)
  replace hE : Ex g (sA (sF g_15 h 1 (.ref q_7)) q_16 63 6) := hE.tr (Ex.push o_q_16 sA_g)
  have r_17 : (sA (sF g_15 h 1 (.ref q_7)) q_16 63 6).1 h = 11 := ((sA_g h (ne0 r_8 o_q_16 (by decide))).1.trans r_8)
  have r_18 : (sA (sF g_15 h 1 (.ref q_7)) q_16 63 6).1 q_1 = 61 := ((sA_g q_1 (ne0 r_9 o_q_16 (by decide))).1.trans r_9)
  have r_19 : (sA (sF g_15 h 1 (.ref q_7)) q_16 63 6).1 q_7 = 62 := ((sA_g q_7 (ne0 r_10 o_q_16 (by decide))).1.trans r_10)
  have r_20 : (sA (sF g_15 h 1 (.ref q_7)) q_16 63 6).1 q_16 = 63 := sA_r
  have n_21 : (sA (sF g_15 h 1 (.ref q_7)) q_16 63 6).2.2.1 q_1 = 6 := ((sA_g q_1 (ne0 r_9 o_q_16 (by decide))).2.2.1.trans n_11)
  have n_22 : (sA (sF g_15 h 1 (.ref q_7)) q_16 63 6).2.2.1 q_7 = 6 := ((sA_g q_7 (ne0 r_10 o_q_16 (by decide))).2.2.1.trans n_12)
  have n_23 : (sA (sF g_15 h 1 (.ref q_7)) q_16 63 6).2.2.1 q_16 = 6 := sA_n
  have kn_24 : (sA (sF g_15 h 1 (.ref q_7)) q_16 63 6).2.1 h 3 = .int 0 := ((congrFun (sA_g h (ne0 r_8 o_q_16 (by decide))).2.1 3).trans (sF_k kn_13 (by decide)))
  have kn_25 : (sA (sF g_15 h 1 (.ref q_7)) q_16 63 6).2.1 h 0 = .ref q_1 := ((congrFun (sA_g h (ne0 r_8 o_q_16 (by decide))).2.1 0).trans (sF_k kn_14 (by decide)))
  have kn_26 : (sA (sF g_15 h 1 (.ref q_7)) q_16 63 6).2.1 h 1 = .ref q_7 := ((congrFun (sA_g h (ne0 r_8 o_q_16 (by decide))).2.1 1).trans sF_eq)
  generalize (sA (sF g_15 h 1 (.ref q_7)) q_16 63 6) = g_27 at hT hI hM hE r_17 r_18 r_19 r_20 n_21 n_22 n_23 kn_24 kn_25 kn_26
  clear kn_13 kn_14 n_11 n_12 r_10 r_8 r_9
  refine W.widen (k := 3) (n := 18) (Nat.le_of_ble_eq_true rfl) (Nat.le_of_ble_eq_true rfl) ?_
  refine t_put0 (ci := 0) (v := .ref q_16) hB hT (ro_ci r_17 rfl) (ro_n0 r_17 (by decide)) rfl 2 (by decide) k_250 (Or.inr ⟨hin, rfl⟩) rfl rfl dX0_init_33 (fun H locs hT => ?_)
  replace hI : Inv (sF g_27 h 2 (.ref q_16)) := hI.sF (fk r_17 (show fsm _ _ ft from trivial))
  replace hM : Sm md_s_CallList g (sF g_27 h 2 (.ref q_16)) := hM.tr hE (Sm_sF (by rw [r_17]; rfl))
  replace hE : Ex g (sF g_27 h 2 (.ref q_16)) := hE
  have hF : ∀ k, Fok (sR (sF g_27 h 2 (.ref q_16)) h 1) 1 k ((sF g_27 h 2 (.ref q_16)).2.1 h k) := fun k => match k with
    | 0 => (by rw [(sF_k kn_25 (by decide))]; exact q_1_0 ⟨_, rfl, sR_r r_18 (ro_ne r_18 r_17 (by decide)), n_21⟩)
    | 1 => (by rw [(sF_k kn_26 (by decide))]; exact q_1_1 ⟨_, rfl, sR_r r_19 (ro_ne r_19 r_17 (by decide)), n_22⟩)
    | 2 => (by rw [sF_eq]; exact q_1_2 ⟨_, rfl, sR_r r_20 (ro_ne r_20 r_17 (by decide)), n_23⟩)
    | 3 => (by rw [(sF_k kn_24 (by decide))]; exact q_1_3 ⟨_, rfl, by decide, by decide⟩)
    | k + 4 => (show fsm _ _ ft from trivial)
  have hT : Tv D cI cZ cS cR N0 s.heap H locs (sR (sF g_27 h 2 (.ref q_16)) h 1) := ⟨hT.1.promo (by rw [r_17]; decide) (by rw [r_17]; rfl) (Or.inl (by decide)), hT.2⟩
  replace hI : Inv (sR (sF g_27 h 2 (.ref q_16)) h 1) := hI.promo (by rw [r_17]; decide) hF (fun _ _ => trivial) (fun _ _ => trivial)
  replace hM : Sm md_s_CallList g (sR (sF g_27 h 2 (.ref q_16)) h 1) := hM
  have hX : Exx h g (sR (sF g_27 h 2 (.ref q_16)) h 1) := Exx.promo hE
  exact t_vret hB hr hT (Nat.le_of_ble_eq_true rfl) (Nat.le_of_ble_eq_true rfl) dX0_init_36 ⟨rfl, hI, hX, hM, if_pos rfl, (sF_k kn_24 (by decide))⟩
abbrev md_l_CallList : Nat → Nat → Bool := mdf [(11, 0), (11, 1), (11, 2), (11, 3)]
set_option maxHeartbeats 4000000 in
set_option maxRecDepth 100000 in
theorem l_CallList (l : Launch) (D : va_G) (cI cZ cS cR : ClassId) (N0 : NT) (g : GS) (hI : Inv g) (h : Nat) (r_h : g.1 h = 11) : Ty l D cI cZ cS cR N0 yX0_init cX0_init 3 none 0 3 60 [.ref h, .int 20] g (fun v g' => v = none ∧ Inv g' ∧ Exx h g g' ∧ Sm md_l_CallList g g' ∧ g'.1 h = 9 ∧ (g'.2.1 h 3 = .int 0)) := by
  refine t_enter (by decide) (Nat.le_of_ble_eq_true rfl) ?_
  intro p e s m args below meth c ls H locs hB hr hin hl hT
  have hx := hB.1
  have hb := hB.2.1
  have hl : lv_has ls 3 [(0, .ref h), (1, .int 20)] := hl
  replace hE : Ex g g := Ex.rf
  replace hM : Sm md_l_CallList g g := Sm.rf
  refine lv_aload_n hx hb dX0_init_0 rfl (lv_at hl 0 rfl) ?_
  refine t_oinit hB k_239 k_78 k_79 hl.1 dX0_init_1 (Nat.le_of_ble_eq_true rfl) (Nat.le_of_ble_eq_true rfl) ?_
  refine lv_aload_n hx hb dX0_init_4 rfl (lv_at hl 0 rfl) ?_
  refine lv_iconst (v := 0) hx hb dX0_init_5 (by decide) ?_
  refine t_put0 (ci := 0) (v := .int 0) hB hT (ro_ci r_h rfl) (ro_n0 r_h (by decide)) rfl 3 (by decide) k_253 (Or.inl rfl) rfl rfl dX0_init_6 (fun H locs hT => ?_)
  replace hI : Inv (sF g h 3 (.int 0)) := hI.sF (fk r_h (show fsm _ _ ft from trivial))
  replace hM : Sm md_l_CallList g (sF g h 3 (.int 0)) := hM.tr hE (Sm_sF (by rw [r_h]; rfl))
  replace hE : Ex g (sF g h 3 (.int 0)) := hE
  refine lv_iload_n hx hb dX0_init_9 rfl (lv_at hl 1 rfl) ?_
  refine lv_iconst (v := 1) hx hb dX0_init_10 (by decide) ?_
  refine t_max (v := 20) hB k_240 k_241 k_63 k_242 hl.1 (Nat.le_of_ble_eq_true rfl) (Nat.le_of_ble_eq_true rfl) (Nat.le_of_ble_eq_true rfl) (Nat.le_of_ble_eq_true rfl) (by decide) dX0_init_11 ?_
  refine lv_istore_n (lv' := [(2, .int 20), (0, .ref h), (1, .int 20)]) hx hb dX0_init_14 rfl hl (by decide) rfl (fun ls hl => ?_)
  refine lv_aload_n hx hb dX0_init_15 rfl (lv_at hl 1 rfl) ?_
  refine lv_iload_n hx hb dX0_init_16 rfl (lv_at hl 0 rfl) ?_
  refine t_newi (N' := 20) hB hT 64 (by decide) k_101 (by decide) (by decide) (by decide) (Nat.le_of_ble_eq_true rfl) (Nat.le_of_ble_eq_true rfl) dX0_init_17 (fun q_1 H o_q_1 hT => ?_)
  have z_q_1 : g.1 q_1 = 0 := hE.z0 o_q_1
  replace hI : Inv (sA (sF g h 3 (.int 0)) q_1 64 20) := hI.newi o_q_1 (by decide) (fun _ => rfl) ⟨by decide, by decide⟩ (fun _ => trivial)
  replace hM : Sm md_l_CallList g (sA (sF g h 3 (.int 0)) q_1 64 20) := hM.tr hE (Sm.push o_q_1 sA_g)
  replace hE : Ex g (sA (sF g h 3 (.int 0)) q_1 64 20) := hE.tr (Ex.push o_q_1 sA_g)
  have r_2 : (sA (sF g h 3 (.int 0)) q_1 64 20).1 h = 11 := ((sA_g h (ne0 r_h o_q_1 (by decide))).1.trans r_h)
  have r_3 : (sA (sF g h 3 (.int 0)) q_1 64 20).1 q_1 = 64 := sA_r
  have n_4 : (sA (sF g h 3 (.int 0)) q_1 64 20).2.2.1 q_1 = 20 := sA_n
  have kn_5 : (sA (sF g h 3 (.int 0)) q_1 64 20).2.1 h 3 = .int 0 := ((congrFun (sA_g h (ne0 r_h o_q_1 (by decide))).2.1 3).trans sF_eq)
  generalize (sA (sF g h 3 (.int 0)) q_1 64 20) = g_6 at hT hI hM hE r_2 r_3 n_4 kn_5
  refine W.widen (k := 1) (n := 20) (Nat.le_of_ble_eq_true rfl) (Nat.le_of_ble_eq_true rfl) ?_
  refine t_put0 (ci := 0) (v := .ref q_1) hB hT (ro_ci r_2 rfl) (ro_n0 r_2 (by decide)) rfl 0 (by decide) k_243 (Or.inr ⟨hin, rfl⟩) rfl rfl dX0_init_19 (fun H locs hT => ?_)
  replace hI : Inv (sF g_6 h 0 (.ref q_1)) := hI.sF (fk r_2 (show fsm _ _ ft from trivial))
  replace hM : Sm md_l_CallList g (sF g_6 h 0 (.ref q_1)) := hM.tr hE (Sm_sF (by rw [r_2]; rfl))
  replace hE : Ex g (sF g_6 h 0 (.ref q_1)) := hE
  refine lv_aload_n hx hb dX0_init_22 rfl (lv_at hl 1 rfl) ?_
  refine lv_iload_n hx hb dX0_init_23 rfl (lv_at hl 0 rfl) ?_
  refine t_newi (N' := 20) hB hT 65 (by decide) k_101 (by decide) (by decide) (by decide) (Nat.le_of_ble_eq_true rfl) (Nat.le_of_ble_eq_true rfl) dX0_init_24 (fun q_7 H o_q_7 hT => ?_)
  have z_q_7 : g.1 q_7 = 0 := hE.z0 o_q_7
  replace hI : Inv (sA (sF g_6 h 0 (.ref q_1)) q_7 65 20) := hI.newi o_q_7 (by decide) (fun _ => rfl) trivial (fun _ => trivial)
  replace hM : Sm md_l_CallList g (sA (sF g_6 h 0 (.ref q_1)) q_7 65 20) := hM.tr hE (Sm.push o_q_7 sA_g)
  replace hE : Ex g (sA (sF g_6 h 0 (.ref q_1)) q_7 65 20) := hE.tr (Ex.push o_q_7 sA_g)
  have r_8 : (sA (sF g_6 h 0 (.ref q_1)) q_7 65 20).1 h = 11 := ((sA_g h (ne0 r_2 o_q_7 (by decide))).1.trans r_2)
  have r_9 : (sA (sF g_6 h 0 (.ref q_1)) q_7 65 20).1 q_1 = 64 := ((sA_g q_1 (ne0 r_3 o_q_7 (by decide))).1.trans r_3)
  have r_10 : (sA (sF g_6 h 0 (.ref q_1)) q_7 65 20).1 q_7 = 65 := sA_r
  have n_11 : (sA (sF g_6 h 0 (.ref q_1)) q_7 65 20).2.2.1 q_1 = 20 := ((sA_g q_1 (ne0 r_3 o_q_7 (by decide))).2.2.1.trans n_4)
  have n_12 : (sA (sF g_6 h 0 (.ref q_1)) q_7 65 20).2.2.1 q_7 = 20 := sA_n
  have kn_13 : (sA (sF g_6 h 0 (.ref q_1)) q_7 65 20).2.1 h 3 = .int 0 := ((congrFun (sA_g h (ne0 r_2 o_q_7 (by decide))).2.1 3).trans (sF_k kn_5 (by decide)))
  have kn_14 : (sA (sF g_6 h 0 (.ref q_1)) q_7 65 20).2.1 h 0 = .ref q_1 := ((congrFun (sA_g h (ne0 r_2 o_q_7 (by decide))).2.1 0).trans sF_eq)
  generalize (sA (sF g_6 h 0 (.ref q_1)) q_7 65 20) = g_15 at hT hI hM hE r_8 r_9 r_10 n_11 n_12 kn_13 kn_14
  clear kn_5 n_4 r_2 r_3
  refine W.widen (k := 2) (n := 40) (Nat.le_of_ble_eq_true rfl) (Nat.le_of_ble_eq_true rfl) ?_
  refine t_put0 (ci := 0) (v := .ref q_7) hB hT (ro_ci r_8 rfl) (ro_n0 r_8 (by decide)) rfl 1 (by decide) k_247 (Or.inr ⟨hin, rfl⟩) rfl rfl dX0_init_26 (fun H locs hT => ?_)
  replace hI : Inv (sF g_15 h 1 (.ref q_7)) := hI.sF (fk r_8 (show fsm _ _ ft from trivial))
  replace hM : Sm md_l_CallList g (sF g_15 h 1 (.ref q_7)) := hM.tr hE (Sm_sF (by rw [r_8]; rfl))
  replace hE : Ex g (sF g_15 h 1 (.ref q_7)) := hE
  refine lv_aload_n hx hb dX0_init_29 rfl (lv_at hl 1 rfl) ?_
  refine lv_iload_n hx hb dX0_init_30 rfl (lv_at hl 0 rfl) ?_
  refine t_newi (N' := 20) hB hT 66 (by decide) k_101 (by decide) (by decide) (by decide) (Nat.le_of_ble_eq_true rfl) (Nat.le_of_ble_eq_true rfl) dX0_init_31 (fun q_16 H o_q_16 hT => ?_)
  have z_q_16 : g.1 q_16 = 0 := hE.z0 o_q_16
  replace hI : Inv (sA (sF g_15 h 1 (.ref q_7)) q_16 66 20) := hI.newi o_q_16 (by decide) (fun _ => rfl) trivial (fun _ => trivial)
  replace hM : Sm md_l_CallList g (sA (sF g_15 h 1 (.ref q_7)) q_16 66 20) := hM.tr hE (Sm.push o_q_16 sA_g)
  replace hE : Ex g (sA (sF g_15 h 1 (.ref q_7)) q_16 66 20) := hE.tr (Ex.push o_q_16 sA_g)
  have r_17 : (sA (sF g_15 h 1 (.ref q_7)) q_16 66 20).1 h = 11 := ((sA_g h (ne0 r_8 o_q_16 (by decide))).1.trans r_8)
  have r_18 : (sA (sF g_15 h 1 (.ref q_7)) q_16 66 20).1 q_1 = 64 := ((sA_g q_1 (ne0 r_9 o_q_16 (by decide))).1.trans r_9)
  have r_19 : (sA (sF g_15 h 1 (.ref q_7)) q_16 66 20).1 q_7 = 65 := ((sA_g q_7 (ne0 r_10 o_q_16 (by decide))).1.trans r_10)
  have r_20 : (sA (sF g_15 h 1 (.ref q_7)) q_16 66 20).1 q_16 = 66 := sA_r
  have n_21 : (sA (sF g_15 h 1 (.ref q_7)) q_16 66 20).2.2.1 q_1 = 20 := ((sA_g q_1 (ne0 r_9 o_q_16 (by decide))).2.2.1.trans n_11)
  have n_22 : (sA (sF g_15 h 1 (.ref q_7)) q_16 66 20).2.2.1 q_7 = 20 := ((sA_g q_7 (ne0 r_10 o_q_16 (by decide))).2.2.1.trans n_12)
  have n_23 : (sA (sF g_15 h 1 (.ref q_7)) q_16 66 20).2.2.1 q_16 = 20 := sA_n
  have kn_24 : (sA (sF g_15 h 1 (.ref q_7)) q_16 66 20).2.1 h 3 = .int 0 := ((congrFun (sA_g h (ne0 r_8 o_q_16 (by decide))).2.1 3).trans (sF_k kn_13 (by decide)))
  have kn_25 : (sA (sF g_15 h 1 (.ref q_7)) q_16 66 20).2.1 h 0 = .ref q_1 := ((congrFun (sA_g h (ne0 r_8 o_q_16 (by decide))).2.1 0).trans (sF_k kn_14 (by decide)))
  have kn_26 : (sA (sF g_15 h 1 (.ref q_7)) q_16 66 20).2.1 h 1 = .ref q_7 := ((congrFun (sA_g h (ne0 r_8 o_q_16 (by decide))).2.1 1).trans sF_eq)
  generalize (sA (sF g_15 h 1 (.ref q_7)) q_16 66 20) = g_27 at hT hI hM hE r_17 r_18 r_19 r_20 n_21 n_22 n_23 kn_24 kn_25 kn_26
  clear kn_13 kn_14 n_11 n_12 r_10 r_8 r_9
  refine W.widen (k := 3) (n := 60) (Nat.le_of_ble_eq_true rfl) (Nat.le_of_ble_eq_true rfl) ?_
  refine t_put0 (ci := 0) (v := .ref q_16) hB hT (ro_ci r_17 rfl) (ro_n0 r_17 (by decide)) rfl 2 (by decide) k_250 (Or.inr ⟨hin, rfl⟩) rfl rfl dX0_init_33 (fun H locs hT => ?_)
  replace hI : Inv (sF g_27 h 2 (.ref q_16)) := hI.sF (fk r_17 (show fsm _ _ ft from trivial))
  replace hM : Sm md_l_CallList g (sF g_27 h 2 (.ref q_16)) := hM.tr hE (Sm_sF (by rw [r_17]; rfl))
  replace hE : Ex g (sF g_27 h 2 (.ref q_16)) := hE
  have hF : ∀ k, Fok (sR (sF g_27 h 2 (.ref q_16)) h 9) 9 k ((sF g_27 h 2 (.ref q_16)).2.1 h k) := fun k => match k with
    | 0 => (by rw [(sF_k kn_25 (by decide))]; exact q_9_0 ⟨_, rfl, sR_r r_18 (ro_ne r_18 r_17 (by decide)), n_21⟩)
    | 1 => (by rw [(sF_k kn_26 (by decide))]; exact q_9_1 ⟨_, rfl, sR_r r_19 (ro_ne r_19 r_17 (by decide)), n_22⟩)
    | 2 => (by rw [sF_eq]; exact q_9_2 ⟨_, rfl, sR_r r_20 (ro_ne r_20 r_17 (by decide)), n_23⟩)
    | 3 => (by rw [(sF_k kn_24 (by decide))]; exact q_9_3 ⟨_, rfl, by decide, by decide⟩)
    | k + 4 => (show fsm _ _ ft from trivial)
  have hT : Tv D cI cZ cS cR N0 s.heap H locs (sR (sF g_27 h 2 (.ref q_16)) h 9) := ⟨hT.1.promo (by rw [r_17]; decide) (by rw [r_17]; rfl) (Or.inl (by decide)), hT.2⟩
  replace hI : Inv (sR (sF g_27 h 2 (.ref q_16)) h 9) := hI.promo (by rw [r_17]; decide) hF (fun _ _ => trivial) (fun _ _ => trivial)
  replace hM : Sm md_l_CallList g (sR (sF g_27 h 2 (.ref q_16)) h 9) := hM
  have hX : Exx h g (sR (sF g_27 h 2 (.ref q_16)) h 9) := Exx.promo hE
  exact t_vret hB hr hT (Nat.le_of_ble_eq_true rfl) (Nat.le_of_ble_eq_true rfl) dX0_init_36 ⟨rfl, hI, hX, hM, if_pos rfl, (sF_k kn_24 (by decide))⟩
abbrev md_k_Tape : Nat → Nat → Bool := mdf [(15, 0), (15, 1), (15, 2), (15, 3)]
set_option maxHeartbeats 4000000 in
set_option maxRecDepth 100000 in
theorem k_Tape (l : Launch) (D : va_G) (cI cZ cS cR : ClassId) (N0 : NT) (g : GS) (hI : Inv g) (h : Nat) (r_h : g.1 h = 15) : Ty l D cI cZ cS cR N0 yX4_init cX4_init 1 none 0 1 100 [.ref h] g (fun v g' => v = none ∧ Inv g' ∧ Exx h g g' ∧ Sm md_k_Tape g g' ∧ g'.1 h = 5 ∧ (g'.2.1 h 1 = .int 0)) := by
  refine t_enter (by decide) (Nat.le_of_ble_eq_true rfl) ?_
  intro p e s m args below meth c ls H locs hB hr hin hl hT
  have hx := hB.1
  have hb := hB.2.1
  have hl : lv_has ls 1 [(0, .ref h)] := hl
  replace hE : Ex g g := Ex.rf
  replace hM : Sm md_k_Tape g g := Sm.rf
  refine lv_aload_n hx hb dX4_init_0 rfl (lv_at hl 0 rfl) ?_
  refine t_oinit hB k_85 k_78 k_79 hl.1 dX4_init_1 (Nat.le_of_ble_eq_true rfl) (Nat.le_of_ble_eq_true rfl) ?_
  refine lv_aload_n hx hb dX4_init_4 rfl (lv_at hl 0 rfl) ?_
  refine lv_bipush (v := 100) hx hb dX4_init_5 (by decide) ?_
  refine t_newi (N' := 100) hB hT 67 (by decide) k_101 (by decide) (by decide) (by decide) (Nat.le_of_ble_eq_true rfl) (Nat.le_of_ble_eq_true rfl) dX4_init_7 (fun q_1 H o_q_1 hT => ?_)
  have z_q_1 : g.1 q_1 = 0 := hE.z0 o_q_1
  replace hI : Inv (sA g q_1 67 100) := hI.newi o_q_1 (by decide) (fun _ => rfl) ⟨by decide, by decide⟩ (fun _ => trivial)
  replace hM : Sm md_k_Tape g (sA g q_1 67 100) := hM.tr hE (Sm.push o_q_1 sA_g)
  replace hE : Ex g (sA g q_1 67 100) := hE.tr (Ex.push o_q_1 sA_g)
  have r_2 : (sA g q_1 67 100).1 h = 15 := ((sA_g h (ne0 r_h o_q_1 (by decide))).1.trans r_h)
  have r_3 : (sA g q_1 67 100).1 q_1 = 67 := sA_r
  have n_4 : (sA g q_1 67 100).2.2.1 q_1 = 100 := sA_n
  generalize (sA g q_1 67 100) = g_5 at hT hI hM hE r_2 r_3 n_4
  refine W.widen (k := 1) (n := 100) (Nat.le_of_ble_eq_true rfl) (Nat.le_of_ble_eq_true rfl) ?_
  refine t_put0 (ci := 4) (v := .ref q_1) hB hT (ro_ci r_2 rfl) (ro_n0 r_2 (by decide)) rfl 0 (by decide) k_86 (Or.inr ⟨hin, rfl⟩) rfl rfl dX4_init_9 (fun H locs hT => ?_)
  replace hI : Inv (sF g_5 h 0 (.ref q_1)) := hI.sF (fk r_2 (show fsm _ _ ft from trivial))
  replace hM : Sm md_k_Tape g (sF g_5 h 0 (.ref q_1)) := hM.tr hE (Sm_sF (by rw [r_2]; rfl))
  replace hE : Ex g (sF g_5 h 0 (.ref q_1)) := hE
  refine lv_aload_n hx hb dX4_init_12 rfl (lv_at hl 0 rfl) ?_
  refine lv_iconst (v := 0) hx hb dX4_init_13 (by decide) ?_
  refine t_put0 (ci := 4) (v := .int 0) hB hT (ro_ci r_2 rfl) (ro_n0 r_2 (by decide)) rfl 1 (by decide) k_87 (Or.inl rfl) rfl rfl dX4_init_14 (fun H locs hT => ?_)
  replace hI : Inv (sF (sF g_5 h 0 (.ref q_1)) h 1 (.int 0)) := hI.sF (fk r_2 (show fsm _ _ ft from trivial))
  replace hM : Sm md_k_Tape g (sF (sF g_5 h 0 (.ref q_1)) h 1 (.int 0)) := hM.tr hE (Sm_sF (by rw [r_2]; rfl))
  replace hE : Ex g (sF (sF g_5 h 0 (.ref q_1)) h 1 (.int 0)) := hE
  refine lv_aload_n hx hb dX4_init_17 rfl (lv_at hl 0 rfl) ?_
  refine lv_iconst (v := 0) hx hb dX4_init_18 (by decide) ?_
  refine t_put0 (ci := 4) (v := .int 0) hB hT (ro_ci r_2 rfl) (ro_n0 r_2 (by decide)) rfl 2 (by decide) k_89 (Or.inl rfl) rfl rfl dX4_init_19 (fun H locs hT => ?_)
  replace hI : Inv (sF (sF (sF g_5 h 0 (.ref q_1)) h 1 (.int 0)) h 2 (.int 0)) := hI.sF (fk r_2 (show fsm _ _ ft from trivial))
  replace hM : Sm md_k_Tape g (sF (sF (sF g_5 h 0 (.ref q_1)) h 1 (.int 0)) h 2 (.int 0)) := hM.tr hE (Sm_sF (by rw [r_2]; rfl))
  replace hE : Ex g (sF (sF (sF g_5 h 0 (.ref q_1)) h 1 (.int 0)) h 2 (.int 0)) := hE
  refine lv_aload_n hx hb dX4_init_22 rfl (lv_at hl 0 rfl) ?_
  refine lv_iconst (v := 0) hx hb dX4_init_23 (by decide) ?_
  refine t_put0 (ci := 4) (v := .int 0) hB hT (ro_ci r_2 rfl) (ro_n0 r_2 (by decide)) rfl 3 (by decide) k_91 (Or.inl rfl) rfl rfl dX4_init_24 (fun H locs hT => ?_)
  replace hI : Inv (sF (sF (sF (sF g_5 h 0 (.ref q_1)) h 1 (.int 0)) h 2 (.int 0)) h 3 (.int 0)) := hI.sF (fk r_2 (show fsm _ _ ft from trivial))
  replace hM : Sm md_k_Tape g (sF (sF (sF (sF g_5 h 0 (.ref q_1)) h 1 (.int 0)) h 2 (.int 0)) h 3 (.int 0)) := hM.tr hE (Sm_sF (by rw [r_2]; rfl))
  replace hE : Ex g (sF (sF (sF (sF g_5 h 0 (.ref q_1)) h 1 (.int 0)) h 2 (.int 0)) h 3 (.int 0)) := hE
  have hF : ∀ k, Fok (sR (sF (sF (sF (sF g_5 h 0 (.ref q_1)) h 1 (.int 0)) h 2 (.int 0)) h 3 (.int 0)) h 5) 5 k ((sF (sF (sF (sF g_5 h 0 (.ref q_1)) h 1 (.int 0)) h 2 (.int 0)) h 3 (.int 0)).2.1 h k) := fun k => match k with
    | 0 => (by rw [(sF_k (sF_k (sF_k sF_eq (by decide)) (by decide)) (by decide))]; exact q_5_0 ⟨_, rfl, sR_r r_3 (ro_ne r_3 r_2 (by decide)), n_4⟩)
    | 1 => (by rw [(sF_k (sF_k sF_eq (by decide)) (by decide))]; exact q_5_1 ⟨_, rfl, by decide, by decide⟩)
    | 2 => (by rw [(sF_k sF_eq (by decide))]; exact q_5_2 ⟨_, rfl⟩)
    | 3 => (by rw [sF_eq]; exact q_5_3 ⟨_, rfl⟩)
    | k + 4 => (show fsm _ _ ft from trivial)
  have hT : Tv D cI cZ cS cR N0 s.heap H locs (sR (sF (sF (sF (sF g_5 h 0 (.ref q_1)) h 1 (.int 0)) h 2 (.int 0)) h 3 (.int 0)) h 5) := ⟨hT.1.promo (by rw [r_2]; decide) (by rw [r_2]; rfl) (Or.inl (by decide)), hT.2⟩
  replace hI : Inv (sR (sF (sF (sF (sF g_5 h 0 (.ref q_1)) h 1 (.int 0)) h 2 (.int 0)) h 3 (.int 0)) h 5) := hI.promo (by rw [r_2]; decide) hF (fun _ _ => trivial) (fun _ _ => trivial)
  replace hM : Sm md_k_Tape g (sR (sF (sF (sF (sF g_5 h 0 (.ref q_1)) h 1 (.int 0)) h 2 (.int 0)) h 3 (.int 0)) h 5) := hM
  have hX : Exx h g (sR (sF (sF (sF (sF g_5 h 0 (.ref q_1)) h 1 (.int 0)) h 2 (.int 0)) h 3 (.int 0)) h 5) := Exx.promo hE
  exact t_vret hB hr hT (Nat.le_of_ble_eq_true rfl) (Nat.le_of_ble_eq_true rfl) dX4_init_27 ⟨rfl, hI, hX, hM, if_pos rfl, (sF_k (sF_k sF_eq (by decide)) (by decide))⟩
