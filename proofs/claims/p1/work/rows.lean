section
-- ===== PART A: goes FIRST, ahead of the names: the tables' words, and 'selects' of the private methods out of them =====
/-- a private method of a class that the tables say can be made, by its rows of tables_1 -/
def lw_okq (q : MethodName × Nat) : Prop := (q.1.cls ≠ "java/lang/invoke/MethodHandle" ∧ q.1.cls ≠ "java/lang/invoke/VarHandle") ∧ Cond.instantiable q.1.cls q.2 ∈ tables_1 ∧ Cond.privateMethod q.1 ∈ tables_1 ∧ Cond.instanceMethod q.1 ∈ tables_1
theorem lw_p0 : lw_okq (⟨"TwiceOnce$Tape", "readActs", "(LTwiceOnce$Program;)Z"⟩, 4) := ⟨⟨by decide +kernel, by decide +kernel⟩, List.mem_of_getElem? (i := 25) (by decide +kernel), List.mem_of_getElem? (i := 294) (by decide +kernel), List.mem_of_getElem? (i := 295) (by decide +kernel)⟩
theorem lw_p1 : lw_okq (⟨"TwiceOnce$Tape", "readAct", "(LTwiceOnce$Program;)Z"⟩, 4) := ⟨⟨by decide +kernel, by decide +kernel⟩, List.mem_of_getElem? (i := 25) (by decide +kernel), List.mem_of_getElem? (i := 298) (by decide +kernel), List.mem_of_getElem? (i := 299) (by decide +kernel)⟩
theorem lw_p2 : lw_okq (⟨"TwiceOnce$Tape", "readWord", "()I"⟩, 4) := ⟨⟨by decide +kernel, by decide +kernel⟩, List.mem_of_getElem? (i := 25) (by decide +kernel), List.mem_of_getElem? (i := 302) (by decide +kernel), List.mem_of_getElem? (i := 303) (by decide +kernel)⟩
theorem lw_p3 : lw_okq (⟨"TwiceOnce$Tape", "byteAt", "(I)I"⟩, 4) := ⟨⟨by decide +kernel, by decide +kernel⟩, List.mem_of_getElem? (i := 25) (by decide +kernel), List.mem_of_getElem? (i := 308) (by decide +kernel), List.mem_of_getElem? (i := 309) (by decide +kernel)⟩
theorem lw_p4 : lw_okq (⟨"TwiceOnce$Tape", "readDigit", "(I)I"⟩, 4) := ⟨⟨by decide +kernel, by decide +kernel⟩, List.mem_of_getElem? (i := 25) (by decide +kernel), List.mem_of_getElem? (i := 354) (by decide +kernel), List.mem_of_getElem? (i := 355) (by decide +kernel)⟩
theorem lw_p5 : lw_okq (⟨"TwiceOnce$Tape", "pass", "(C)Z"⟩, 4) := ⟨⟨by decide +kernel, by decide +kernel⟩, List.mem_of_getElem? (i := 25) (by decide +kernel), List.mem_of_getElem? (i := 361) (by decide +kernel), List.mem_of_getElem? (i := 362) (by decide +kernel)⟩
theorem lw_p6 : lw_okq (⟨"TwiceOnce$Tape", "readValue", "()I"⟩, 4) := ⟨⟨by decide +kernel, by decide +kernel⟩, List.mem_of_getElem? (i := 25) (by decide +kernel), List.mem_of_getElem? (i := 365) (by decide +kernel), List.mem_of_getElem? (i := 366) (by decide +kernel)⟩
theorem lw_p7 : lw_okq (⟨"TwiceOnce$Service", "isOver", "(II)Z"⟩, 15) := ⟨⟨by decide +kernel, by decide +kernel⟩, List.mem_of_getElem? (i := 54) (by decide +kernel), List.mem_of_getElem? (i := 403) (by decide +kernel), List.mem_of_getElem? (i := 404) (by decide +kernel)⟩
theorem lw_p8 : lw_okq (⟨"TwiceOnce$World", "isSilent", "(I)Z"⟩, 8) := ⟨⟨by decide +kernel, by decide +kernel⟩, List.mem_of_getElem? (i := 47) (by decide +kernel), List.mem_of_getElem? (i := 411) (by decide +kernel), List.mem_of_getElem? (i := 412) (by decide +kernel)⟩
theorem lw_p9 : lw_okq (⟨"TwiceOnce$World", "askedBy", "(I)I"⟩, 8) := ⟨⟨by decide +kernel, by decide +kernel⟩, List.mem_of_getElem? (i := 47) (by decide +kernel), List.mem_of_getElem? (i := 415) (by decide +kernel), List.mem_of_getElem? (i := 416) (by decide +kernel)⟩
theorem lw_p10 : lw_okq (⟨"TwiceOnce$World", "canAsk", "(II)Z"⟩, 8) := ⟨⟨by decide +kernel, by decide +kernel⟩, List.mem_of_getElem? (i := 47) (by decide +kernel), List.mem_of_getElem? (i := 419) (by decide +kernel), List.mem_of_getElem? (i := 420) (by decide +kernel)⟩
theorem lw_p11 : lw_okq (⟨"TwiceOnce$CallList", "dropOldest", "()V"⟩, 4) := ⟨⟨by decide +kernel, by decide +kernel⟩, List.mem_of_getElem? (i := 179) (by decide +kernel), List.mem_of_getElem? (i := 435) (by decide +kernel), List.mem_of_getElem? (i := 436) (by decide +kernel)⟩
theorem lw_p12 : lw_okq (⟨"TwiceOnce$World", "serve", "(III)I"⟩, 8) := ⟨⟨by decide +kernel, by decide +kernel⟩, List.mem_of_getElem? (i := 47) (by decide +kernel), List.mem_of_getElem? (i := 450) (by decide +kernel), List.mem_of_getElem? (i := 451) (by decide +kernel)⟩
theorem lw_p13 : lw_okq (⟨"TwiceOnce$World", "runActs", "(III)I"⟩, 8) := ⟨⟨by decide +kernel, by decide +kernel⟩, List.mem_of_getElem? (i := 47) (by decide +kernel), List.mem_of_getElem? (i := 476) (by decide +kernel), List.mem_of_getElem? (i := 477) (by decide +kernel)⟩
theorem lw_p14 : lw_okq (⟨"TwiceOnce$Judge", "writeOnceEnds", "(LTwiceOnce$CallList;)I"⟩, 10) := ⟨⟨by decide +kernel, by decide +kernel⟩, List.mem_of_getElem? (i := 211) (by decide +kernel), List.mem_of_getElem? (i := 584) (by decide +kernel), List.mem_of_getElem? (i := 585) (by decide +kernel)⟩
theorem lw_p15 : lw_okq (⟨"TwiceOnce$Judge", "isOrder", "(III)Z"⟩, 10) := ⟨⟨by decide +kernel, by decide +kernel⟩, List.mem_of_getElem? (i := 211) (by decide +kernel), List.mem_of_getElem? (i := 591) (by decide +kernel), List.mem_of_getElem? (i := 592) (by decide +kernel)⟩
def lw_privs_1 : List (MethodName × Nat) := [(⟨"TwiceOnce$Tape", "readActs", "(LTwiceOnce$Program;)Z"⟩, 4), (⟨"TwiceOnce$Tape", "readAct", "(LTwiceOnce$Program;)Z"⟩, 4), (⟨"TwiceOnce$Tape", "readWord", "()I"⟩, 4), (⟨"TwiceOnce$Tape", "byteAt", "(I)I"⟩, 4), (⟨"TwiceOnce$Tape", "readDigit", "(I)I"⟩, 4), (⟨"TwiceOnce$Tape", "pass", "(C)Z"⟩, 4), (⟨"TwiceOnce$Tape", "readValue", "()I"⟩, 4), (⟨"TwiceOnce$Service", "isOver", "(II)Z"⟩, 15), (⟨"TwiceOnce$World", "isSilent", "(I)Z"⟩, 8), (⟨"TwiceOnce$World", "askedBy", "(I)I"⟩, 8), (⟨"TwiceOnce$World", "canAsk", "(II)Z"⟩, 8), (⟨"TwiceOnce$CallList", "dropOldest", "()V"⟩, 4), (⟨"TwiceOnce$World", "serve", "(III)I"⟩, 8), (⟨"TwiceOnce$World", "runActs", "(III)I"⟩, 8), (⟨"TwiceOnce$Judge", "writeOnceEnds", "(LTwiceOnce$CallList;)I"⟩, 10), (⟨"TwiceOnce$Judge", "isOrder", "(III)Z"⟩, 10)]
theorem lw_r1 : ∀ q ∈ lw_privs_1, lw_okq q := List.forall_mem_cons.mpr ⟨lw_p0, List.forall_mem_cons.mpr ⟨lw_p1, List.forall_mem_cons.mpr ⟨lw_p2, List.forall_mem_cons.mpr ⟨lw_p3, List.forall_mem_cons.mpr ⟨lw_p4, List.forall_mem_cons.mpr ⟨lw_p5, List.forall_mem_cons.mpr ⟨lw_p6, List.forall_mem_cons.mpr ⟨lw_p7, List.forall_mem_cons.mpr ⟨lw_p8, List.forall_mem_cons.mpr ⟨lw_p9, List.forall_mem_cons.mpr ⟨lw_p10, List.forall_mem_cons.mpr ⟨lw_p11, List.forall_mem_cons.mpr ⟨lw_p12, List.forall_mem_cons.mpr ⟨lw_p13, List.forall_mem_cons.mpr ⟨lw_p14, List.forall_mem_cons.mpr ⟨lw_p15, fun _ h => absurd h List.not_mem_nil⟩⟩⟩⟩⟩⟩⟩⟩⟩⟩⟩⟩⟩⟩⟩⟩
theorem lw_p16 : lw_okq (⟨"TwiceOnce$Judge", "runOrder", "(LTwiceOnce$CallList;I)V"⟩, 10) := ⟨⟨by decide +kernel, by decide +kernel⟩, List.mem_of_getElem? (i := 211) (by decide +kernel), List.mem_of_getElem? (i := 595) (by decide +kernel), List.mem_of_getElem? (i := 596) (by decide +kernel)⟩
theorem lw_p17 : lw_okq (⟨"TwiceOnce$Judge", "writeEnd", "([I)V"⟩, 10) := ⟨⟨by decide +kernel, by decide +kernel⟩, List.mem_of_getElem? (i := 211) (by decide +kernel), List.mem_of_getElem? (i := 599) (by decide +kernel), List.mem_of_getElem? (i := 600) (by decide +kernel)⟩
theorem lw_p18 : lw_okq (⟨"TwiceOnce$Judge", "isAmongEnds", "(I)Z"⟩, 10) := ⟨⟨by decide +kernel, by decide +kernel⟩, List.mem_of_getElem? (i := 211) (by decide +kernel), List.mem_of_getElem? (i := 603) (by decide +kernel), List.mem_of_getElem? (i := 604) (by decide +kernel)⟩
theorem lw_p19 : lw_okq (⟨"TwiceOnce", "cheapestAdditions", "(I)I"⟩, 7) := ⟨⟨by decide +kernel, by decide +kernel⟩, List.mem_of_getElem? (i := 17) (by decide +kernel), List.mem_of_getElem? (i := 636) (by decide +kernel), List.mem_of_getElem? (i := 637) (by decide +kernel)⟩
theorem lw_p20 : lw_okq (⟨"TwiceOnce", "priceOf", "(I)I"⟩, 7) := ⟨⟨by decide +kernel, by decide +kernel⟩, List.mem_of_getElem? (i := 17) (by decide +kernel), List.mem_of_getElem? (i := 648) (by decide +kernel), List.mem_of_getElem? (i := 649) (by decide +kernel)⟩
theorem lw_p21 : lw_okq (⟨"TwiceOnceModel", "reads", "()Z"⟩, 67) := ⟨⟨by decide +kernel, by decide +kernel⟩, List.mem_of_getElem? (i := 684) (by decide +kernel), List.mem_of_getElem? (i := 905) (by decide +kernel), List.mem_of_getElem? (i := 906) (by decide +kernel)⟩
theorem lw_p22 : lw_okq (⟨"TwiceOnceModel", "readsAct", "()V"⟩, 67) := ⟨⟨by decide +kernel, by decide +kernel⟩, List.mem_of_getElem? (i := 684) (by decide +kernel), List.mem_of_getElem? (i := 909) (by decide +kernel), List.mem_of_getElem? (i := 910) (by decide +kernel)⟩
theorem lw_p23 : lw_okq (⟨"TwiceOnceModel", "byteAt", "(I)I"⟩, 67) := ⟨⟨by decide +kernel, by decide +kernel⟩, List.mem_of_getElem? (i := 684) (by decide +kernel), List.mem_of_getElem? (i := 913) (by decide +kernel), List.mem_of_getElem? (i := 914) (by decide +kernel)⟩
theorem lw_p24 : lw_okq (⟨"TwiceOnceModel", "must", "(I)V"⟩, 67) := ⟨⟨by decide +kernel, by decide +kernel⟩, List.mem_of_getElem? (i := 684) (by decide +kernel), List.mem_of_getElem? (i := 917) (by decide +kernel), List.mem_of_getElem? (i := 918) (by decide +kernel)⟩
theorem lw_p25 : lw_okq (⟨"TwiceOnceModel", "readsWorth", "()I"⟩, 67) := ⟨⟨by decide +kernel, by decide +kernel⟩, List.mem_of_getElem? (i := 684) (by decide +kernel), List.mem_of_getElem? (i := 921) (by decide +kernel), List.mem_of_getElem? (i := 922) (by decide +kernel)⟩
theorem lw_p26 : lw_okq (⟨"TwiceOnceModel", "takes", "(I)V"⟩, 67) := ⟨⟨by decide +kernel, by decide +kernel⟩, List.mem_of_getElem? (i := 684) (by decide +kernel), List.mem_of_getElem? (i := 925) (by decide +kernel), List.mem_of_getElem? (i := 926) (by decide +kernel)⟩
theorem lw_p27 : lw_okq (⟨"TwiceOnceModel", "isService", "(I)Z"⟩, 67) := ⟨⟨by decide +kernel, by decide +kernel⟩, List.mem_of_getElem? (i := 684) (by decide +kernel), List.mem_of_getElem? (i := 933) (by decide +kernel), List.mem_of_getElem? (i := 934) (by decide +kernel)⟩
theorem lw_p28 : lw_okq (⟨"TwiceOnceModel", "has", "(II)Z"⟩, 67) := ⟨⟨by decide +kernel, by decide +kernel⟩, List.mem_of_getElem? (i := 684) (by decide +kernel), List.mem_of_getElem? (i := 941) (by decide +kernel), List.mem_of_getElem? (i := 942) (by decide +kernel)⟩
theorem lw_p29 : lw_okq (⟨"TwiceOnceModel", "isOver", "(II)Z"⟩, 67) := ⟨⟨by decide +kernel, by decide +kernel⟩, List.mem_of_getElem? (i := 684) (by decide +kernel), List.mem_of_getElem? (i := 957) (by decide +kernel), List.mem_of_getElem? (i := 958) (by decide +kernel)⟩
theorem lw_p30 : lw_okq (⟨"TwiceOnceModel", "isReader", "(I)Z"⟩, 67) := ⟨⟨by decide +kernel, by decide +kernel⟩, List.mem_of_getElem? (i := 684) (by decide +kernel), List.mem_of_getElem? (i := 961) (by decide +kernel), List.mem_of_getElem? (i := 962) (by decide +kernel)⟩
theorem lw_p31 : lw_okq (⟨"TwiceOnceModel", "canAsk", "(II)Z"⟩, 67) := ⟨⟨by decide +kernel, by decide +kernel⟩, List.mem_of_getElem? (i := 684) (by decide +kernel), List.mem_of_getElem? (i := 965) (by decide +kernel), List.mem_of_getElem? (i := 966) (by decide +kernel)⟩
def lw_privs_2 : List (MethodName × Nat) := [(⟨"TwiceOnce$Judge", "runOrder", "(LTwiceOnce$CallList;I)V"⟩, 10), (⟨"TwiceOnce$Judge", "writeEnd", "([I)V"⟩, 10), (⟨"TwiceOnce$Judge", "isAmongEnds", "(I)Z"⟩, 10), (⟨"TwiceOnce", "cheapestAdditions", "(I)I"⟩, 7), (⟨"TwiceOnce", "priceOf", "(I)I"⟩, 7), (⟨"TwiceOnceModel", "reads", "()Z"⟩, 67), (⟨"TwiceOnceModel", "readsAct", "()V"⟩, 67), (⟨"TwiceOnceModel", "byteAt", "(I)I"⟩, 67), (⟨"TwiceOnceModel", "must", "(I)V"⟩, 67), (⟨"TwiceOnceModel", "readsWorth", "()I"⟩, 67), (⟨"TwiceOnceModel", "takes", "(I)V"⟩, 67), (⟨"TwiceOnceModel", "isService", "(I)Z"⟩, 67), (⟨"TwiceOnceModel", "has", "(II)Z"⟩, 67), (⟨"TwiceOnceModel", "isOver", "(II)Z"⟩, 67), (⟨"TwiceOnceModel", "isReader", "(I)Z"⟩, 67), (⟨"TwiceOnceModel", "canAsk", "(II)Z"⟩, 67)]
theorem lw_r2 : ∀ q ∈ lw_privs_2, lw_okq q := List.forall_mem_cons.mpr ⟨lw_p16, List.forall_mem_cons.mpr ⟨lw_p17, List.forall_mem_cons.mpr ⟨lw_p18, List.forall_mem_cons.mpr ⟨lw_p19, List.forall_mem_cons.mpr ⟨lw_p20, List.forall_mem_cons.mpr ⟨lw_p21, List.forall_mem_cons.mpr ⟨lw_p22, List.forall_mem_cons.mpr ⟨lw_p23, List.forall_mem_cons.mpr ⟨lw_p24, List.forall_mem_cons.mpr ⟨lw_p25, List.forall_mem_cons.mpr ⟨lw_p26, List.forall_mem_cons.mpr ⟨lw_p27, List.forall_mem_cons.mpr ⟨lw_p28, List.forall_mem_cons.mpr ⟨lw_p29, List.forall_mem_cons.mpr ⟨lw_p30, List.forall_mem_cons.mpr ⟨lw_p31, fun _ h => absurd h List.not_mem_nil⟩⟩⟩⟩⟩⟩⟩⟩⟩⟩⟩⟩⟩⟩⟩⟩
theorem lw_p32 : lw_okq (⟨"TwiceOnceModel", "calls", "(IIII)I"⟩, 67) := ⟨⟨by decide +kernel, by decide +kernel⟩, List.mem_of_getElem? (i := 684) (by decide +kernel), List.mem_of_getElem? (i := 977) (by decide +kernel), List.mem_of_getElem? (i := 978) (by decide +kernel)⟩
theorem lw_p33 : lw_okq (⟨"TwiceOnceModel", "ends", "()V"⟩, 67) := ⟨⟨by decide +kernel, by decide +kernel⟩, List.mem_of_getElem? (i := 684) (by decide +kernel), List.mem_of_getElem? (i := 981) (by decide +kernel), List.mem_of_getElem? (i := 982) (by decide +kernel)⟩
theorem lw_p34 : lw_okq (⟨"TwiceOnceModel", "base", "(I)I"⟩, 67) := ⟨⟨by decide +kernel, by decide +kernel⟩, List.mem_of_getElem? (i := 684) (by decide +kernel), List.mem_of_getElem? (i := 985) (by decide +kernel), List.mem_of_getElem? (i := 986) (by decide +kernel)⟩
theorem lw_p35 : lw_okq (⟨"TwiceOnceModel", "goes", "(II)V"⟩, 67) := ⟨⟨by decide +kernel, by decide +kernel⟩, List.mem_of_getElem? (i := 684) (by decide +kernel), List.mem_of_getElem? (i := 989) (by decide +kernel), List.mem_of_getElem? (i := 990) (by decide +kernel)⟩
theorem lw_p36 : lw_okq (⟨"TwiceOnceModel", "moves", "(II)V"⟩, 67) := ⟨⟨by decide +kernel, by decide +kernel⟩, List.mem_of_getElem? (i := 684) (by decide +kernel), List.mem_of_getElem? (i := 993) (by decide +kernel), List.mem_of_getElem? (i := 994) (by decide +kernel)⟩
theorem lw_p37 : lw_okq (⟨"TwiceOnceModel", "begins", "(III)Z"⟩, 67) := ⟨⟨by decide +kernel, by decide +kernel⟩, List.mem_of_getElem? (i := 684) (by decide +kernel), List.mem_of_getElem? (i := 997) (by decide +kernel), List.mem_of_getElem? (i := 998) (by decide +kernel)⟩
theorem lw_p38 : lw_okq (⟨"TwiceOnceModel", "find", "(II)I"⟩, 67) := ⟨⟨by decide +kernel, by decide +kernel⟩, List.mem_of_getElem? (i := 684) (by decide +kernel), List.mem_of_getElem? (i := 1001) (by decide +kernel), List.mem_of_getElem? (i := 1002) (by decide +kernel)⟩
theorem lw_p39 : lw_okq (⟨"TwiceOnceModel", "keeps", "(IIII)V"⟩, 67) := ⟨⟨by decide +kernel, by decide +kernel⟩, List.mem_of_getElem? (i := 684) (by decide +kernel), List.mem_of_getElem? (i := 1005) (by decide +kernel), List.mem_of_getElem? (i := 1006) (by decide +kernel)⟩
theorem lw_p40 : lw_okq (⟨"TwiceOnceModel", "closes", "()V"⟩, 67) := ⟨⟨by decide +kernel, by decide +kernel⟩, List.mem_of_getElem? (i := 684) (by decide +kernel), List.mem_of_getElem? (i := 1009) (by decide +kernel), List.mem_of_getElem? (i := 1010) (by decide +kernel)⟩
theorem lw_p41 : lw_okq (⟨"TwiceOnceModel", "comes", "()V"⟩, 67) := ⟨⟨by decide +kernel, by decide +kernel⟩, List.mem_of_getElem? (i := 684) (by decide +kernel), List.mem_of_getElem? (i := 1013) (by decide +kernel), List.mem_of_getElem? (i := 1014) (by decide +kernel)⟩
theorem lw_p42 : lw_okq (⟨"TwiceOnceModel", "valued", "(II)I"⟩, 67) := ⟨⟨by decide +kernel, by decide +kernel⟩, List.mem_of_getElem? (i := 684) (by decide +kernel), List.mem_of_getElem? (i := 1017) (by decide +kernel), List.mem_of_getElem? (i := 1018) (by decide +kernel)⟩
theorem lw_p43 : lw_okq (⟨"TwiceOnceModel", "puts", "(I)V"⟩, 67) := ⟨⟨by decide +kernel, by decide +kernel⟩, List.mem_of_getElem? (i := 684) (by decide +kernel), List.mem_of_getElem? (i := 1021) (by decide +kernel), List.mem_of_getElem? (i := 1022) (by decide +kernel)⟩
theorem lw_p44 : lw_okq (⟨"TwiceOnceModel", "once", "()V"⟩, 67) := ⟨⟨by decide +kernel, by decide +kernel⟩, List.mem_of_getElem? (i := 684) (by decide +kernel), List.mem_of_getElem? (i := 1045) (by decide +kernel), List.mem_of_getElem? (i := 1046) (by decide +kernel)⟩
theorem lw_p45 : lw_okq (⟨"TwiceOnceModel", "tries", "()V"⟩, 67) := ⟨⟨by decide +kernel, by decide +kernel⟩, List.mem_of_getElem? (i := 684) (by decide +kernel), List.mem_of_getElem? (i := 1049) (by decide +kernel), List.mem_of_getElem? (i := 1050) (by decide +kernel)⟩
theorem lw_p46 : lw_okq (⟨"TwiceOnceModel", "rowCall", "(II)I"⟩, 67) := ⟨⟨by decide +kernel, by decide +kernel⟩, List.mem_of_getElem? (i := 684) (by decide +kernel), List.mem_of_getElem? (i := 1053) (by decide +kernel), List.mem_of_getElem? (i := 1054) (by decide +kernel)⟩
theorem lw_p47 : lw_okq (⟨"TwiceOnceModel", "isSafe", "(III)Z"⟩, 67) := ⟨⟨by decide +kernel, by decide +kernel⟩, List.mem_of_getElem? (i := 684) (by decide +kernel), List.mem_of_getElem? (i := 1057) (by decide +kernel), List.mem_of_getElem? (i := 1058) (by decide +kernel)⟩
def lw_privs_3 : List (MethodName × Nat) := [(⟨"TwiceOnceModel", "calls", "(IIII)I"⟩, 67), (⟨"TwiceOnceModel", "ends", "()V"⟩, 67), (⟨"TwiceOnceModel", "base", "(I)I"⟩, 67), (⟨"TwiceOnceModel", "goes", "(II)V"⟩, 67), (⟨"TwiceOnceModel", "moves", "(II)V"⟩, 67), (⟨"TwiceOnceModel", "begins", "(III)Z"⟩, 67), (⟨"TwiceOnceModel", "find", "(II)I"⟩, 67), (⟨"TwiceOnceModel", "keeps", "(IIII)V"⟩, 67), (⟨"TwiceOnceModel", "closes", "()V"⟩, 67), (⟨"TwiceOnceModel", "comes", "()V"⟩, 67), (⟨"TwiceOnceModel", "valued", "(II)I"⟩, 67), (⟨"TwiceOnceModel", "puts", "(I)V"⟩, 67), (⟨"TwiceOnceModel", "once", "()V"⟩, 67), (⟨"TwiceOnceModel", "tries", "()V"⟩, 67), (⟨"TwiceOnceModel", "rowCall", "(II)I"⟩, 67), (⟨"TwiceOnceModel", "isSafe", "(III)Z"⟩, 67)]
theorem lw_r3 : ∀ q ∈ lw_privs_3, lw_okq q := List.forall_mem_cons.mpr ⟨lw_p32, List.forall_mem_cons.mpr ⟨lw_p33, List.forall_mem_cons.mpr ⟨lw_p34, List.forall_mem_cons.mpr ⟨lw_p35, List.forall_mem_cons.mpr ⟨lw_p36, List.forall_mem_cons.mpr ⟨lw_p37, List.forall_mem_cons.mpr ⟨lw_p38, List.forall_mem_cons.mpr ⟨lw_p39, List.forall_mem_cons.mpr ⟨lw_p40, List.forall_mem_cons.mpr ⟨lw_p41, List.forall_mem_cons.mpr ⟨lw_p42, List.forall_mem_cons.mpr ⟨lw_p43, List.forall_mem_cons.mpr ⟨lw_p44, List.forall_mem_cons.mpr ⟨lw_p45, List.forall_mem_cons.mpr ⟨lw_p46, List.forall_mem_cons.mpr ⟨lw_p47, fun _ h => absurd h List.not_mem_nil⟩⟩⟩⟩⟩⟩⟩⟩⟩⟩⟩⟩⟩⟩⟩⟩
theorem lw_p48 : lw_okq (⟨"TwiceOnceModel", "worstOf", "()I"⟩, 67) := ⟨⟨by decide +kernel, by decide +kernel⟩, List.mem_of_getElem? (i := 684) (by decide +kernel), List.mem_of_getElem? (i := 1065) (by decide +kernel), List.mem_of_getElem? (i := 1066) (by decide +kernel)⟩
theorem lw_p49 : lw_okq (⟨"TwiceOnceModel", "onces", "()I"⟩, 67) := ⟨⟨by decide +kernel, by decide +kernel⟩, List.mem_of_getElem? (i := 684) (by decide +kernel), List.mem_of_getElem? (i := 1073) (by decide +kernel), List.mem_of_getElem? (i := 1074) (by decide +kernel)⟩
theorem lw_p50 : lw_okq (⟨"TwiceOnceModel", "reads", "(II)V"⟩, 67) := ⟨⟨by decide +kernel, by decide +kernel⟩, List.mem_of_getElem? (i := 684) (by decide +kernel), List.mem_of_getElem? (i := 1080) (by decide +kernel), List.mem_of_getElem? (i := 1081) (by decide +kernel)⟩
theorem lw_p51 : lw_okq (⟨"TwiceOnceModel", "isOrder", "(II)Z"⟩, 67) := ⟨⟨by decide +kernel, by decide +kernel⟩, List.mem_of_getElem? (i := 684) (by decide +kernel), List.mem_of_getElem? (i := 1084) (by decide +kernel), List.mem_of_getElem? (i := 1085) (by decide +kernel)⟩
theorem lw_p52 : lw_okq (⟨"TwiceOnceModel", "does", "(I)V"⟩, 67) := ⟨⟨by decide +kernel, by decide +kernel⟩, List.mem_of_getElem? (i := 684) (by decide +kernel), List.mem_of_getElem? (i := 1088) (by decide +kernel), List.mem_of_getElem? (i := 1089) (by decide +kernel)⟩
theorem lw_p53 : lw_okq (⟨"TwiceOnceModel", "endsLike", "(I)Z"⟩, 67) := ⟨⟨by decide +kernel, by decide +kernel⟩, List.mem_of_getElem? (i := 684) (by decide +kernel), List.mem_of_getElem? (i := 1092) (by decide +kernel), List.mem_of_getElem? (i := 1093) (by decide +kernel)⟩
theorem lw_p54 : lw_okq (⟨"TwiceOnceModel", "reached", "()I"⟩, 67) := ⟨⟨by decide +kernel, by decide +kernel⟩, List.mem_of_getElem? (i := 684) (by decide +kernel), List.mem_of_getElem? (i := 1108) (by decide +kernel), List.mem_of_getElem? (i := 1109) (by decide +kernel)⟩
theorem lw_p55 : lw_okq (⟨"TwiceOnceModel", "spread", "(II)I"⟩, 67) := ⟨⟨by decide +kernel, by decide +kernel⟩, List.mem_of_getElem? (i := 684) (by decide +kernel), List.mem_of_getElem? (i := 1115) (by decide +kernel), List.mem_of_getElem? (i := 1116) (by decide +kernel)⟩
def lw_privs_4 : List (MethodName × Nat) := [(⟨"TwiceOnceModel", "worstOf", "()I"⟩, 67), (⟨"TwiceOnceModel", "onces", "()I"⟩, 67), (⟨"TwiceOnceModel", "reads", "(II)V"⟩, 67), (⟨"TwiceOnceModel", "isOrder", "(II)Z"⟩, 67), (⟨"TwiceOnceModel", "does", "(I)V"⟩, 67), (⟨"TwiceOnceModel", "endsLike", "(I)Z"⟩, 67), (⟨"TwiceOnceModel", "reached", "()I"⟩, 67), (⟨"TwiceOnceModel", "spread", "(II)I"⟩, 67)]
theorem lw_r4 : ∀ q ∈ lw_privs_4, lw_okq q := List.forall_mem_cons.mpr ⟨lw_p48, List.forall_mem_cons.mpr ⟨lw_p49, List.forall_mem_cons.mpr ⟨lw_p50, List.forall_mem_cons.mpr ⟨lw_p51, List.forall_mem_cons.mpr ⟨lw_p52, List.forall_mem_cons.mpr ⟨lw_p53, List.forall_mem_cons.mpr ⟨lw_p54, List.forall_mem_cons.mpr ⟨lw_p55, fun _ h => absurd h List.not_mem_nil⟩⟩⟩⟩⟩⟩⟩⟩
def lw_privs : List (MethodName × Nat) := lw_privs_1 ++ (lw_privs_2 ++ (lw_privs_3 ++ (lw_privs_4)))
def lw_tbl : List Cond := k2_sels lw_privs ++ tables_1
theorem lw_privs_ok : ∀ q ∈ lw_privs, lw_okq q := by
  show ∀ q ∈ lw_privs_1 ++ (lw_privs_2 ++ (lw_privs_3 ++ (lw_privs_4))), lw_okq q
  exact List.forall_mem_append.mpr ⟨lw_r1, List.forall_mem_append.mpr ⟨lw_r2, List.forall_mem_append.mpr ⟨lw_r3, lw_r4⟩⟩⟩
end
section
/-! ===== BEGIN words of one list among another's, by their places ===== -/
theorem goodIn_r {big : List Cond} (ws : List Cond) (ps : List Nat) (hp : ws = ps.filterMap (fun i => big[i]?)) (h : ws.all goodWord = true) : GoodIn big ws := by
  intro w hw
  have h1 := List.all_eq_true.mp h w hw
  rw [hp] at hw
  obtain ⟨i, -, hi⟩ := List.mem_filterMap.mp hw
  have hm : w ∈ big := by first | exact List.mem_of_getElem? hi | exact List.getElem?_mem hi
  exact ⟨hm, good_of_word h1⟩
theorem goodIn_app {big a b : List Cond} (ha : GoodIn big a) (hb : GoodIn big b) : GoodIn big (a ++ b) := fun w h => (List.mem_append.mp h).elim (ha w) (hb w)
theorem goodIn_ca {big a b : List Cond} {c : Cond} (ha : GoodIn big (c :: a)) (hb : GoodIn big b) : GoodIn big (c :: (a ++ b)) := fun w h => (List.mem_cons.mp h).elim (fun e => ha w (List.mem_cons.mpr (Or.inl e))) (fun h => (List.mem_append.mp h).elim (fun h => ha w (List.mem_cons.mpr (Or.inr h))) (hb w))
theorem goodIn_sub {big ws : List Cond} (hm : ∀ w ∈ ws, w ∈ big) (h : ws.all goodWord = true) : GoodIn big ws := fun w hw => ⟨hm w hw, good_of_word (List.all_eq_true.mp h w hw)⟩
/-! ===== END ===== -/
/-! ===== BEGIN printed: names, fields, word lists, decode rows ===== -/
def RX0 : String := "TwiceOnce$CallList"
def TX0 : u_T := fun k => match k with
  | 0 => ("TwiceOnce$CallList", "services", "[I", true)
  | 1 => ("TwiceOnce$CallList", "xs", "[I", true)
  | 2 => ("TwiceOnce$CallList", "keys", "[I", true)
  | _ => ("TwiceOnce$CallList", "size", "I", false)
def tyX0 : Nat → FieldType := fun k => match k with
  | 0 => .array .int
  | 1 => .array .int
  | 2 => .array .int
  | _ => .int
abbrev wsX00 : List Cond := u_ws RX0 TX0 4
theorem nmX0 : ∀ a, a < 4 → ∀ b, b < 4 → a ≠ b → (TX0 a).2.1 ≠ (TX0 b).2.1 := by decide +kernel
theorem tyX0_ok : ∀ k, k < 4 → parseFieldDescriptor (TX0 k).2.2.1 = some (tyX0 k) := by decide +kernel
abbrev cX0_init : ByteArray := prog_2_method_1_code
def yX0_init : MethodName := ⟨RX0, "<init>", "(I)V"⟩
abbrev cX0_appendLatest : ByteArray := prog_2_method_2_code
def yX0_appendLatest : MethodName := ⟨RX0, "appendLatest", "(III)V"⟩
abbrev cX0_dropOldest : ByteArray := prog_2_method_3_code
def yX0_dropOldest : MethodName := ⟨RX0, "dropOldest", "()V"⟩
def RX1 : String := "TwiceOnce$Judge"
def TX1 : u_T := fun k => match k with
  | 0 => ("TwiceOnce$Judge", "start", "LTwiceOnce$World;", true)
  | 1 => ("TwiceOnce$Judge", "once", "LTwiceOnce$World;", true)
  | 2 => ("TwiceOnce$Judge", "twice", "LTwiceOnce$World;", true)
  | 3 => ("TwiceOnce$Judge", "onceAnswers", "[I", true)
  | 4 => ("TwiceOnce$Judge", "onceCame", "[I", true)
  | 5 => ("TwiceOnce$Judge", "twiceAnswers", "[I", true)
  | 6 => ("TwiceOnce$Judge", "againAnswer", "I", false)
  | 7 => ("TwiceOnce$Judge", "ends", "[[I", true)
  | 8 => ("TwiceOnce$Judge", "order", "[I", true)
  | _ => ("TwiceOnce$Judge", "comings", "[I", true)
def tyX1 : Nat → FieldType := fun k => match k with
  | 0 => .object "TwiceOnce$World"
  | 1 => .object "TwiceOnce$World"
  | 2 => .object "TwiceOnce$World"
  | 3 => .array .int
  | 4 => .array .int
  | 5 => .array .int
  | 6 => .int
  | 7 => .array (.array .int)
  | 8 => .array .int
  | _ => .array .int
abbrev wsX10 : List Cond := u_ws RX1 TX1 10
theorem nmX1 : ∀ a, a < 10 → ∀ b, b < 10 → a ≠ b → (TX1 a).2.1 ≠ (TX1 b).2.1 := by decide +kernel
theorem tyX1_ok : ∀ k, k < 10 → parseFieldDescriptor (TX1 k).2.2.1 = some (tyX1 k) := by decide +kernel
abbrev cX1_init : ByteArray := prog_3_method_1_code
def yX1_init : MethodName := ⟨RX1, "<init>", "()V"⟩
abbrev cX1_beginAt : ByteArray := prog_3_method_2_code
def yX1_beginAt : MethodName := ⟨RX1, "beginAt", "(LTwiceOnce$World;)V"⟩
abbrev cX1_runOnce : ByteArray := prog_3_method_3_code
def yX1_runOnce : MethodName := ⟨RX1, "runOnce", "(LTwiceOnce$CallList;)V"⟩
abbrev cX1_runTwice : ByteArray := prog_3_method_4_code
def yX1_runTwice : MethodName := ⟨RX1, "runTwice", "(LTwiceOnce$CallList;III)V"⟩
abbrev cX1_isLike : ByteArray := prog_3_method_5_code
def yX1_isLike : MethodName := ⟨RX1, "isLike", "(LTwiceOnce$CallList;IZ)Z"⟩
abbrev cX1_firstUnsafe : ByteArray := prog_3_method_6_code
def yX1_firstUnsafe : MethodName := ⟨RX1, "firstUnsafe", "(LTwiceOnce$CallList;Z)I"⟩
abbrev cX1_ordersOf : ByteArray := prog_3_method_7_code
def yX1_ordersOf : MethodName := ⟨RX1, "ordersOf", "(LTwiceOnce$CallList;IZ)I"⟩
abbrev cX1_writeOnceEnds : ByteArray := prog_3_method_8_code
def yX1_writeOnceEnds : MethodName := ⟨RX1, "writeOnceEnds", "(LTwiceOnce$CallList;)I"⟩
abbrev cX1_power : ByteArray := prog_3_method_9_code
def yX1_power : MethodName := ⟨RX1, "power", "(II)I"⟩
abbrev cX1_isOrder : ByteArray := prog_3_method_10_code
def yX1_isOrder : MethodName := ⟨RX1, "isOrder", "(III)Z"⟩
abbrev cX1_runOrder : ByteArray := prog_3_method_11_code
def yX1_runOrder : MethodName := ⟨RX1, "runOrder", "(LTwiceOnce$CallList;I)V"⟩
abbrev cX1_writeEnd : ByteArray := prog_3_method_12_code
def yX1_writeEnd : MethodName := ⟨RX1, "writeEnd", "([I)V"⟩
abbrev cX1_isAmongEnds : ByteArray := prog_3_method_13_code
def yX1_isAmongEnds : MethodName := ⟨RX1, "isAmongEnds", "(I)Z"⟩
abbrev cX1_isSameEnd : ByteArray := prog_3_method_14_code
def yX1_isSameEnd : MethodName := ⟨RX1, "isSameEnd", "([I[I)Z"⟩
abbrev cX1_isStill : ByteArray := prog_3_method_15_code
def yX1_isStill : MethodName := ⟨RX1, "isStill", "(LTwiceOnce$CallList;)Z"⟩
def RX2 : String := "TwiceOnce$Program"
def TX2 : u_T := fun k => match k with
  | 0 => ("TwiceOnce$Program", "words", "[I", true)
  | 1 => ("TwiceOnce$Program", "targets", "[I", true)
  | 2 => ("TwiceOnce$Program", "values", "[I", true)
  | _ => ("TwiceOnce$Program", "size", "I", false)
def tyX2 : Nat → FieldType := fun k => match k with
  | 0 => .array .int
  | 1 => .array .int
  | 2 => .array .int
  | _ => .int
abbrev wsX20 : List Cond := u_ws RX2 TX2 4
theorem nmX2 : ∀ a, a < 4 → ∀ b, b < 4 → a ≠ b → (TX2 a).2.1 ≠ (TX2 b).2.1 := by decide +kernel
theorem tyX2_ok : ∀ k, k < 4 → parseFieldDescriptor (TX2 k).2.2.1 = some (tyX2 k) := by decide +kernel
abbrev cX2_init : ByteArray := prog_4_method_1_code
def yX2_init : MethodName := ⟨RX2, "<init>", "()V"⟩
abbrev cX2_append : ByteArray := prog_4_method_2_code
def yX2_append : MethodName := ⟨RX2, "append", "(III)V"⟩
abbrev cX2_valueAt : ByteArray := prog_4_method_3_code
def yX2_valueAt : MethodName := ⟨RX2, "valueAt", "(III)I"⟩
def RX3 : String := "TwiceOnce$Service"
def TX3 : u_T := fun k => match k with
  | 0 => ("TwiceOnce$Service", "program", "LTwiceOnce$Program;", false)
  | 1 => ("TwiceOnce$Service", "cells", "[I", true)
  | 2 => ("TwiceOnce$Service", "counter", "I", false)
  | 3 => ("TwiceOnce$Service", "mends", "I", false)
  | 4 => ("TwiceOnce$Service", "holdTicks", "I", false)
  | 5 => ("TwiceOnce$Service", "kept", "I", false)
  | 6 => ("TwiceOnce$Service", "keptKeys", "[I", true)
  | 7 => ("TwiceOnce$Service", "keptXs", "[I", true)
  | 8 => ("TwiceOnce$Service", "keptAnswers", "[I", true)
  | 9 => ("TwiceOnce$Service", "keptTicks", "[I", true)
  | 10 => ("TwiceOnce$Service", "knownX", "I", false)
  | 11 => ("TwiceOnce$Service", "knownKey", "I", false)
  | 12 => ("TwiceOnce$Service", "knownActs", "[I", true)
  | 13 => ("TwiceOnce$Service", "earlierActs", "[I", true)
  | _ => ("TwiceOnce$Service", "holdsBack", "Z", false)
def tyX3 : Nat → FieldType := fun k => match k with
  | 0 => .object "TwiceOnce$Program"
  | 1 => .array .int
  | 2 => .int
  | 3 => .int
  | 4 => .int
  | 5 => .int
  | 6 => .array .int
  | 7 => .array .int
  | 8 => .array .int
  | 9 => .array .int
  | 10 => .int
  | 11 => .int
  | 12 => .array .int
  | 13 => .array .int
  | _ => .boolean
abbrev wsX30 : List Cond := u_ws RX3 TX3 15
theorem nmX3 : ∀ a, a < 15 → ∀ b, b < 15 → a ≠ b → (TX3 a).2.1 ≠ (TX3 b).2.1 := by decide +kernel
theorem tyX3_ok : ∀ k, k < 15 → parseFieldDescriptor (TX3 k).2.2.1 = some (tyX3 k) := by decide +kernel
abbrev cX3_init : ByteArray := prog_5_method_1_code
def yX3_init : MethodName := ⟨RX3, "<init>", "()V"⟩
abbrev cX3_copyFrom : ByteArray := prog_5_method_2_code
def yX3_copyFrom : MethodName := ⟨RX3, "copyFrom", "(LTwiceOnce$Service;)V"⟩
abbrev cX3_makeFresh : ByteArray := prog_5_method_3_code
def yX3_makeFresh : MethodName := ⟨RX3, "makeFresh", "()V"⟩
abbrev cX3_isMended : ByteArray := prog_5_method_4_code
def yX3_isMended : MethodName := ⟨RX3, "isMended", "(I)Z"⟩
abbrev cX3_hasSameStore : ByteArray := prog_5_method_5_code
def yX3_hasSameStore : MethodName := ⟨RX3, "hasSameStore", "(LTwiceOnce$Service;)Z"⟩
abbrev cX3_keysNotOver : ByteArray := prog_5_method_6_code
def yX3_keysNotOver : MethodName := ⟨RX3, "keysNotOver", "(I)I"⟩
abbrev cX3_dropOver : ByteArray := prog_5_method_7_code
def yX3_dropOver : MethodName := ⟨RX3, "dropOver", "(I)V"⟩
abbrev cX3_isOver : ByteArray := prog_5_method_8_code
def yX3_isOver : MethodName := ⟨RX3, "isOver", "(II)Z"⟩
abbrev cX3_placeOfKey : ByteArray := prog_5_method_9_code
def yX3_placeOfKey : MethodName := ⟨RX3, "placeOfKey", "(I)I"⟩
abbrev cX3_keptAnswer : ByteArray := prog_5_method_10_code
def yX3_keptAnswer : MethodName := ⟨RX3, "keptAnswer", "(II)I"⟩
abbrev cX3_keep : ByteArray := prog_5_method_11_code
def yX3_keep : MethodName := ⟨RX3, "keep", "(IIII)V"⟩
abbrev cX3_answerNewest : ByteArray := prog_5_method_12_code
def yX3_answerNewest : MethodName := ⟨RX3, "answerNewest", "(II)V"⟩
abbrev cX3_beginKnown : ByteArray := prog_5_method_13_code
def yX3_beginKnown : MethodName := ⟨RX3, "beginKnown", "(II)V"⟩
abbrev cX3_isHeldBack : ByteArray := prog_5_method_14_code
def yX3_isHeldBack : MethodName := ⟨RX3, "isHeldBack", "(II)Z"⟩
abbrev cX3_perform : ByteArray := prog_5_method_15_code
def yX3_perform : MethodName := ⟨RX3, "perform", "(III)I"⟩
abbrev cX3_passesOver : ByteArray := prog_5_method_16_code
def yX3_passesOver : MethodName := ⟨RX3, "passesOver", "(II)Z"⟩
def RX4 : String := "TwiceOnce$Tape"
def TX4 : u_T := fun k => match k with
  | 0 => ("TwiceOnce$Tape", "bytes", "[I", true)
  | 1 => ("TwiceOnce$Tape", "size", "I", false)
  | 2 => ("TwiceOnce$Tape", "fault", "I", false)
  | _ => ("TwiceOnce$Tape", "place", "I", false)
def tyX4 : Nat → FieldType := fun k => match k with
  | 0 => .array .int
  | 1 => .int
  | 2 => .int
  | _ => .int
abbrev wsX40 : List Cond := u_ws RX4 TX4 4
theorem nmX4 : ∀ a, a < 4 → ∀ b, b < 4 → a ≠ b → (TX4 a).2.1 ≠ (TX4 b).2.1 := by decide +kernel
theorem tyX4_ok : ∀ k, k < 4 → parseFieldDescriptor (TX4 k).2.2.1 = some (tyX4 k) := by decide +kernel
abbrev cX4_init : ByteArray := prog_6_method_1_code
def yX4_init : MethodName := ⟨RX4, "<init>", "()V"⟩
abbrev cX4_append : ByteArray := prog_6_method_2_code
def yX4_append : MethodName := ⟨RX4, "append", "(JI)V"⟩
abbrev cX4_takeProgram : ByteArray := prog_6_method_3_code
def yX4_takeProgram : MethodName := ⟨RX4, "takeProgram", "()LTwiceOnce$Program;"⟩
abbrev cX4_readActs : ByteArray := prog_6_method_4_code
def yX4_readActs : MethodName := ⟨RX4, "readActs", "(LTwiceOnce$Program;)Z"⟩
abbrev cX4_readAct : ByteArray := prog_6_method_5_code
def yX4_readAct : MethodName := ⟨RX4, "readAct", "(LTwiceOnce$Program;)Z"⟩
abbrev cX4_readWord : ByteArray := prog_6_method_6_code
def yX4_readWord : MethodName := ⟨RX4, "readWord", "()I"⟩
abbrev cX4_readDigit : ByteArray := prog_6_method_7_code
def yX4_readDigit : MethodName := ⟨RX4, "readDigit", "(I)I"⟩
abbrev cX4_readValue : ByteArray := prog_6_method_8_code
def yX4_readValue : MethodName := ⟨RX4, "readValue", "()I"⟩
abbrev cX4_pass : ByteArray := prog_6_method_9_code
def yX4_pass : MethodName := ⟨RX4, "pass", "(C)Z"⟩
abbrev cX4_byteAt : ByteArray := prog_6_method_10_code
def yX4_byteAt : MethodName := ⟨RX4, "byteAt", "(I)I"⟩
def RX5 : String := "TwiceOnce$World"
def TX5 : u_T := fun k => match k with
  | 0 => ("TwiceOnce$World", "services", "[LTwiceOnce$Service;", true)
  | 1 => ("TwiceOnce$World", "size", "I", false)
  | 2 => ("TwiceOnce$World", "ticks", "I", false)
  | 3 => ("TwiceOnce$World", "done", "[I", true)
  | 4 => ("TwiceOnce$World", "doneInAll", "I", false)
  | 5 => ("TwiceOnce$World", "came", "I", false)
  | 6 => ("TwiceOnce$World", "breakAt", "I", false)
  | _ => ("TwiceOnce$World", "broken", "Z", false)
def tyX5 : Nat → FieldType := fun k => match k with
  | 0 => .array (.object "TwiceOnce$Service")
  | 1 => .int
  | 2 => .int
  | 3 => .array .int
  | 4 => .int
  | 5 => .int
  | 6 => .int
  | _ => .boolean
abbrev wsX50 : List Cond := u_ws RX5 TX5 8
theorem nmX5 : ∀ a, a < 8 → ∀ b, b < 8 → a ≠ b → (TX5 a).2.1 ≠ (TX5 b).2.1 := by decide +kernel
theorem tyX5_ok : ∀ k, k < 8 → parseFieldDescriptor (TX5 k).2.2.1 = some (tyX5 k) := by decide +kernel
abbrev cX5_init : ByteArray := prog_7_method_1_code
def yX5_init : MethodName := ⟨RX5, "<init>", "()V"⟩
abbrev cX5_copyFrom : ByteArray := prog_7_method_2_code
def yX5_copyFrom : MethodName := ⟨RX5, "copyFrom", "(LTwiceOnce$World;)V"⟩
abbrev cX5_makeFresh : ByteArray := prog_7_method_3_code
def yX5_makeFresh : MethodName := ⟨RX5, "makeFresh", "()V"⟩
abbrev cX5_has : ByteArray := prog_7_method_4_code
def yX5_has : MethodName := ⟨RX5, "has", "(I)Z"⟩
abbrev cX5_holdAll : ByteArray := prog_7_method_5_code
def yX5_holdAll : MethodName := ⟨RX5, "holdAll", "(I)V"⟩
abbrev cX5_addMends : ByteArray := prog_7_method_6_code
def yX5_addMends : MethodName := ⟨RX5, "addMends", "(I)V"⟩
abbrev cX5_reachOf : ByteArray := prog_7_method_7_code
def yX5_reachOf : MethodName := ⟨RX5, "reachOf", "(LTwiceOnce$CallList;)I"⟩
abbrev cX5_askedBy : ByteArray := prog_7_method_8_code
def yX5_askedBy : MethodName := ⟨RX5, "askedBy", "(I)I"⟩
abbrev cX5_canAsk : ByteArray := prog_7_method_9_code
def yX5_canAsk : MethodName := ⟨RX5, "canAsk", "(II)Z"⟩
abbrev cX5_isReader : ByteArray := prog_7_method_10_code
def yX5_isReader : MethodName := ⟨RX5, "isReader", "(I)Z"⟩
abbrev cX5_isSilent : ByteArray := prog_7_method_11_code
def yX5_isSilent : MethodName := ⟨RX5, "isSilent", "(I)Z"⟩
abbrev cX5_fromOutside : ByteArray := prog_7_method_12_code
def yX5_fromOutside : MethodName := ⟨RX5, "fromOutside", "(IIII)I"⟩
abbrev cX5_serve : ByteArray := prog_7_method_13_code
def yX5_serve : MethodName := ⟨RX5, "serve", "(III)I"⟩
abbrev cX5_runActs : ByteArray := prog_7_method_14_code
def yX5_runActs : MethodName := ⟨RX5, "runActs", "(III)I"⟩
abbrev cX5_hasSameStores : ByteArray := prog_7_method_15_code
def yX5_hasSameStores : MethodName := ⟨RX5, "hasSameStores", "(LTwiceOnce$World;)Z"⟩
abbrev cX5_hasSameCounts : ByteArray := prog_7_method_16_code
def yX5_hasSameCounts : MethodName := ⟨RX5, "hasSameCounts", "(LTwiceOnce$World;)Z"⟩
abbrev cX5_didTheSame : ByteArray := prog_7_method_17_code
def yX5_didTheSame : MethodName := ⟨RX5, "didTheSame", "(LTwiceOnce$World;)Z"⟩
def RX6 : String := "TwiceOnce"
def TX6 : u_T := fun k => match k with
  | 0 => ("TwiceOnce", "tape", "LTwiceOnce$Tape;", true)
  | 1 => ("TwiceOnce", "now", "LTwiceOnce$World;", true)
  | 2 => ("TwiceOnce", "rowCalls", "LTwiceOnce$CallList;", true)
  | 3 => ("TwiceOnce", "logCalls", "LTwiceOnce$CallList;", true)
  | 4 => ("TwiceOnce", "judge", "LTwiceOnce$Judge;", true)
  | 5 => ("TwiceOnce", "prices", "[I", true)
  | _ => ("TwiceOnce", "answersFree", "Z", false)
def tyX6 : Nat → FieldType := fun k => match k with
  | 0 => .object "TwiceOnce$Tape"
  | 1 => .object "TwiceOnce$World"
  | 2 => .object "TwiceOnce$CallList"
  | 3 => .object "TwiceOnce$CallList"
  | 4 => .object "TwiceOnce$Judge"
  | 5 => .array .int
  | _ => .boolean
abbrev wsX60 : List Cond := u_ws RX6 TX6 7
theorem nmX6 : ∀ a, a < 7 → ∀ b, b < 7 → a ≠ b → (TX6 a).2.1 ≠ (TX6 b).2.1 := by decide +kernel
theorem tyX6_ok : ∀ k, k < 7 → parseFieldDescriptor (TX6 k).2.2.1 = some (tyX6 k) := by decide +kernel
abbrev cX6_init : ByteArray := prog_1_method_1_code
def yX6_init : MethodName := ⟨RX6, "<init>", "()V"⟩
abbrev cX6_feed : ByteArray := prog_1_method_2_code
def yX6_feed : MethodName := ⟨RX6, "feed", "(JI)I"⟩
abbrev cX6_service : ByteArray := prog_1_method_3_code
def yX6_service : MethodName := ⟨RX6, "service", "()I"⟩
abbrev cX6_change : ByteArray := prog_1_method_4_code
def yX6_change : MethodName := ⟨RX6, "change", "(I)I"⟩
abbrev cX6_mend : ByteArray := prog_1_method_5_code
def yX6_mend : MethodName := ⟨RX6, "mend", "(III)I"⟩
abbrev cX6_hold : ByteArray := prog_1_method_6_code
def yX6_hold : MethodName := ⟨RX6, "hold", "(II)I"⟩
abbrev cX6_set : ByteArray := prog_1_method_7_code
def yX6_set : MethodName := ⟨RX6, "set", "(III)I"⟩
abbrev cX6_about : ByteArray := prog_1_method_8_code
def yX6_about : MethodName := ⟨RX6, "about", "(II)I"⟩
abbrev cX6_act : ByteArray := prog_1_method_9_code
def yX6_act : MethodName := ⟨RX6, "act", "(III)I"⟩
abbrev cX6_call : ByteArray := prog_1_method_10_code
def yX6_call : MethodName := ⟨RX6, "call", "(IIII)I"⟩
abbrev cX6_outside : ByteArray := prog_1_method_11_code
def yX6_outside : MethodName := ⟨RX6, "outside", "(I)I"⟩
abbrev cX6_row : ByteArray := prog_1_method_12_code
def yX6_row : MethodName := ⟨RX6, "row", "(III)I"⟩
abbrev cX6_clear : ByteArray := prog_1_method_13_code
def yX6_clear : MethodName := ⟨RX6, "clear", "()I"⟩
abbrev cX6_free : ByteArray := prog_1_method_14_code
def yX6_free : MethodName := ⟨RX6, "free", "(I)I"⟩
abbrev cX6_safe : ByteArray := prog_1_method_15_code
def yX6_safe : MethodName := ⟨RX6, "safe", "(III)I"⟩
abbrev cX6_worst : ByteArray := prog_1_method_16_code
def yX6_worst : MethodName := ⟨RX6, "worst", "()I"⟩
abbrev cX6_orders : ByteArray := prog_1_method_17_code
def yX6_orders : MethodName := ⟨RX6, "orders", "(II)I"⟩
abbrev cX6_enough : ByteArray := prog_1_method_18_code
def yX6_enough : MethodName := ⟨RX6, "enough", "()I"⟩
abbrev cX6_price : ByteArray := prog_1_method_19_code
def yX6_price : MethodName := ⟨RX6, "price", "(II)I"⟩
abbrev cX6_cheapest : ByteArray := prog_1_method_20_code
def yX6_cheapest : MethodName := ⟨RX6, "cheapest", "(I)I"⟩
abbrev cX6_cheapestAdditions : ByteArray := prog_1_method_21_code
def yX6_cheapestAdditions : MethodName := ⟨RX6, "cheapestAdditions", "(I)I"⟩
abbrev cX6_priceOf : ByteArray := prog_1_method_22_code
def yX6_priceOf : MethodName := ⟨RX6, "priceOf", "(I)I"⟩
abbrev cX6_again : ByteArray := prog_1_method_23_code
def yX6_again : MethodName := ⟨RX6, "again", "()I"⟩
abbrev cX6_log : ByteArray := prog_1_method_24_code
def yX6_log : MethodName := ⟨RX6, "log", "(II)I"⟩
abbrev cX6_reset : ByteArray := prog_1_method_25_code
def yX6_reset : MethodName := ⟨RX6, "reset", "()I"⟩
abbrev cX6_count : ByteArray := prog_1_method_26_code
def yX6_count : MethodName := ⟨RX6, "count", "(I)I"⟩
abbrev cX6_within : ByteArray := prog_1_method_27_code
def yX6_within : MethodName := ⟨RX6, "within", "(II)Z"⟩
def RX7 : String := "TwiceOnceModel"
def TX7 : u_T := fun k => match k with
  | 0 => ("TwiceOnceModel", "services", "I", false)
  | 1 => ("TwiceOnceModel", "acts", "[I", true)
  | 2 => ("TwiceOnceModel", "word", "[I", true)
  | 3 => ("TwiceOnceModel", "place", "[I", true)
  | 4 => ("TwiceOnceModel", "worth", "[I", true)
  | 5 => ("TwiceOnceModel", "mends", "[I", true)
  | 6 => ("TwiceOnceModel", "hold", "[I", true)
  | 7 => ("TwiceOnceModel", "store", "[I", true)
  | 8 => ("TwiceOnceModel", "count", "[I", true)
  | 9 => ("TwiceOnceModel", "kept", "[I", true)
  | 10 => ("TwiceOnceModel", "key", "[I", true)
  | 11 => ("TwiceOnceModel", "keyX", "[I", true)
  | 12 => ("TwiceOnceModel", "keyAnswer", "[I", true)
  | 13 => ("TwiceOnceModel", "keyTick", "[I", true)
  | 14 => ("TwiceOnceModel", "tick", "[I", true)
  | 15 => ("TwiceOnceModel", "knownX", "[I", true)
  | 16 => ("TwiceOnceModel", "knownKey", "[I", true)
  | 17 => ("TwiceOnceModel", "knownWord", "[I", true)
  | 18 => ("TwiceOnceModel", "knownPlace", "[I", true)
  | 19 => ("TwiceOnceModel", "knownWorth", "[I", true)
  | 20 => ("TwiceOnceModel", "isKnown", "[Z", true)
  | 21 => ("TwiceOnceModel", "world", "I", false)
  | 22 => ("TwiceOnceModel", "outs", "I", false)
  | 23 => ("TwiceOnceModel", "out", "[I", true)
  | 24 => ("TwiceOnceModel", "logged", "I", false)
  | 25 => ("TwiceOnceModel", "logS", "[I", true)
  | 26 => ("TwiceOnceModel", "logX", "[I", true)
  | 27 => ("TwiceOnceModel", "logKey", "[I", true)
  | 28 => ("TwiceOnceModel", "tape", "[I", true)
  | 29 => ("TwiceOnceModel", "taped", "I", false)
  | 30 => ("TwiceOnceModel", "rows", "I", false)
  | 31 => ("TwiceOnceModel", "rowS", "[I", true)
  | 32 => ("TwiceOnceModel", "rowX", "[I", true)
  | 33 => ("TwiceOnceModel", "rowKey", "[I", true)
  | 34 => ("TwiceOnceModel", "isFree", "Z", false)
  | 35 => ("TwiceOnceModel", "price", "[I", true)
  | 36 => ("TwiceOnceModel", "spot", "I", false)
  | 37 => ("TwiceOnceModel", "isWrong", "Z", false)
  | 38 => ("TwiceOnceModel", "read", "I", false)
  | 39 => ("TwiceOnceModel", "newWord", "[I", true)
  | 40 => ("TwiceOnceModel", "newPlace", "[I", true)
  | 41 => ("TwiceOnceModel", "newWorth", "[I", true)
  | 42 => ("TwiceOnceModel", "words", "[I", true)
  | 43 => ("TwiceOnceModel", "fS", "[I", true)
  | 44 => ("TwiceOnceModel", "fX", "[I", true)
  | 45 => ("TwiceOnceModel", "fKey", "[I", true)
  | 46 => ("TwiceOnceModel", "fAt", "[I", true)
  | 47 => ("TwiceOnceModel", "fAnswer", "[I", true)
  | 48 => ("TwiceOnceModel", "fSame", "[Z", true)
  | 49 => ("TwiceOnceModel", "depth", "I", false)
  | 50 => ("TwiceOnceModel", "came", "I", false)
  | 51 => ("TwiceOnceModel", "answer", "I", false)
  | 52 => ("TwiceOnceModel", "triedOuts", "I", false)
  | 53 => ("TwiceOnceModel", "triedOut", "[I", true)
  | 54 => ("TwiceOnceModel", "aheadWord", "[I", true)
  | 55 => ("TwiceOnceModel", "aheadPlace", "[I", true)
  | 56 => ("TwiceOnceModel", "aheadWorth", "[I", true)
  | 57 => ("TwiceOnceModel", "onceStore", "[I", true)
  | 58 => ("TwiceOnceModel", "onceOut", "[I", true)
  | 59 => ("TwiceOnceModel", "onceAnswer", "[I", true)
  | 60 => ("TwiceOnceModel", "onceOuts", "I", false)
  | 61 => ("TwiceOnceModel", "order", "[I", true)
  | 62 => ("TwiceOnceModel", "ended", "[I", true)
  | 63 => ("TwiceOnceModel", "heap", "[I", true)
  | 64 => ("TwiceOnceModel", "ownHeap", "[I", true)
  | 65 => ("TwiceOnceModel", "keptHold", "[I", true)
  | _ => ("TwiceOnceModel", "keptMends", "[I", true)
def tyX7 : Nat → FieldType := fun k => match k with
  | 0 => .int
  | 1 => .array .int
  | 2 => .array .int
  | 3 => .array .int
  | 4 => .array .int
  | 5 => .array .int
  | 6 => .array .int
  | 7 => .array .int
  | 8 => .array .int
  | 9 => .array .int
  | 10 => .array .int
  | 11 => .array .int
  | 12 => .array .int
  | 13 => .array .int
  | 14 => .array .int
  | 15 => .array .int
  | 16 => .array .int
  | 17 => .array .int
  | 18 => .array .int
  | 19 => .array .int
  | 20 => .array .boolean
  | 21 => .int
  | 22 => .int
  | 23 => .array .int
  | 24 => .int
  | 25 => .array .int
  | 26 => .array .int
  | 27 => .array .int
  | 28 => .array .int
  | 29 => .int
  | 30 => .int
  | 31 => .array .int
  | 32 => .array .int
  | 33 => .array .int
  | 34 => .boolean
  | 35 => .array .int
  | 36 => .int
  | 37 => .boolean
  | 38 => .int
  | 39 => .array .int
  | 40 => .array .int
  | 41 => .array .int
  | 42 => .array .int
  | 43 => .array .int
  | 44 => .array .int
  | 45 => .array .int
  | 46 => .array .int
  | 47 => .array .int
  | 48 => .array .boolean
  | 49 => .int
  | 50 => .int
  | 51 => .int
  | 52 => .int
  | 53 => .array .int
  | 54 => .array .int
  | 55 => .array .int
  | 56 => .array .int
  | 57 => .array .int
  | 58 => .array .int
  | 59 => .array .int
  | 60 => .int
  | 61 => .array .int
  | 62 => .array .int
  | 63 => .array .int
  | 64 => .array .int
  | 65 => .array .int
  | _ => .array .int
abbrev wsX70 : List Cond := u_ws RX7 TX7 67
theorem nmX7 : ∀ a, a < 67 → ∀ b, b < 67 → a ≠ b → (TX7 a).2.1 ≠ (TX7 b).2.1 := by decide +kernel
theorem tyX7_ok : ∀ k, k < 67 → parseFieldDescriptor (TX7 k).2.2.1 = some (tyX7 k) := by decide +kernel
abbrev cX7_init : ByteArray := prog_9_method_1_code
def yX7_init : MethodName := ⟨RX7, "<init>", "()V"⟩
abbrev cX7_in : ByteArray := prog_9_method_2_code
def yX7_in : MethodName := ⟨RX7, "in", "(III)Z"⟩
abbrev cX7_isService : ByteArray := prog_9_method_3_code
def yX7_isService : MethodName := ⟨RX7, "isService", "(I)Z"⟩
abbrev cX7_has : ByteArray := prog_9_method_4_code
def yX7_has : MethodName := ⟨RX7, "has", "(II)Z"⟩
abbrev cX7_feed : ByteArray := prog_9_method_5_code
def yX7_feed : MethodName := ⟨RX7, "feed", "(JI)I"⟩
abbrev cX7_byteAt : ByteArray := prog_9_method_6_code
def yX7_byteAt : MethodName := ⟨RX7, "byteAt", "(I)I"⟩
abbrev cX7_must : ByteArray := prog_9_method_7_code
def yX7_must : MethodName := ⟨RX7, "must", "(I)V"⟩
abbrev cX7_readsWorth : ByteArray := prog_9_method_8_code
def yX7_readsWorth : MethodName := ⟨RX7, "readsWorth", "()I"⟩
abbrev cX7_readsAct : ByteArray := prog_9_method_9_code
def yX7_readsAct : MethodName := ⟨RX7, "readsAct", "()V"⟩
abbrev cX7_reads : ByteArray := prog_9_method_10_code
def yX7_reads : MethodName := ⟨RX7, "reads", "()Z"⟩
abbrev cX7_takes : ByteArray := prog_9_method_11_code
def yX7_takes : MethodName := ⟨RX7, "takes", "(I)V"⟩
abbrev cX7_service : ByteArray := prog_9_method_12_code
def yX7_service : MethodName := ⟨RX7, "service", "()I"⟩
abbrev cX7_change : ByteArray := prog_9_method_13_code
def yX7_change : MethodName := ⟨RX7, "change", "(I)I"⟩
abbrev cX7_mend : ByteArray := prog_9_method_14_code
def yX7_mend : MethodName := ⟨RX7, "mend", "(III)I"⟩
abbrev cX7_hold : ByteArray := prog_9_method_15_code
def yX7_hold : MethodName := ⟨RX7, "hold", "(II)I"⟩
abbrev cX7_set : ByteArray := prog_9_method_16_code
def yX7_set : MethodName := ⟨RX7, "set", "(III)I"⟩
abbrev cX7_canAsk : ByteArray := prog_9_method_17_code
def yX7_canAsk : MethodName := ⟨RX7, "canAsk", "(II)Z"⟩
abbrev cX7_isReader : ByteArray := prog_9_method_18_code
def yX7_isReader : MethodName := ⟨RX7, "isReader", "(I)Z"⟩
abbrev cX7_isOver : ByteArray := prog_9_method_19_code
def yX7_isOver : MethodName := ⟨RX7, "isOver", "(II)Z"⟩
abbrev cX7_about : ByteArray := prog_9_method_20_code
def yX7_about : MethodName := ⟨RX7, "about", "(II)I"⟩
abbrev cX7_act : ByteArray := prog_9_method_21_code
def yX7_act : MethodName := ⟨RX7, "act", "(III)I"⟩
abbrev cX7_base : ByteArray := prog_9_method_22_code
def yX7_base : MethodName := ⟨RX7, "base", "(I)I"⟩
abbrev cX7_find : ByteArray := prog_9_method_23_code
def yX7_find : MethodName := ⟨RX7, "find", "(II)I"⟩
abbrev cX7_moves : ByteArray := prog_9_method_24_code
def yX7_moves : MethodName := ⟨RX7, "moves", "(II)V"⟩
abbrev cX7_goes : ByteArray := prog_9_method_25_code
def yX7_goes : MethodName := ⟨RX7, "goes", "(II)V"⟩
abbrev cX7_keeps : ByteArray := prog_9_method_26_code
def yX7_keeps : MethodName := ⟨RX7, "keeps", "(IIII)V"⟩
abbrev cX7_ends : ByteArray := prog_9_method_27_code
def yX7_ends : MethodName := ⟨RX7, "ends", "()V"⟩
abbrev cX7_begins : ByteArray := prog_9_method_28_code
def yX7_begins : MethodName := ⟨RX7, "begins", "(III)Z"⟩
abbrev cX7_closes : ByteArray := prog_9_method_29_code
def yX7_closes : MethodName := ⟨RX7, "closes", "()V"⟩
abbrev cX7_puts : ByteArray := prog_9_method_30_code
def yX7_puts : MethodName := ⟨RX7, "puts", "(I)V"⟩
abbrev cX7_valued : ByteArray := prog_9_method_31_code
def yX7_valued : MethodName := ⟨RX7, "valued", "(II)I"⟩
abbrev cX7_comes : ByteArray := prog_9_method_32_code
def yX7_comes : MethodName := ⟨RX7, "comes", "()V"⟩
abbrev cX7_calls : ByteArray := prog_9_method_33_code
def yX7_calls : MethodName := ⟨RX7, "calls", "(IIII)I"⟩
abbrev cX7_call : ByteArray := prog_9_method_34_code
def yX7_call : MethodName := ⟨RX7, "call", "(IIII)I"⟩
abbrev cX7_outside : ByteArray := prog_9_method_35_code
def yX7_outside : MethodName := ⟨RX7, "outside", "(I)I"⟩
abbrev cX7_row : ByteArray := prog_9_method_36_code
def yX7_row : MethodName := ⟨RX7, "row", "(III)I"⟩
abbrev cX7_clear : ByteArray := prog_9_method_37_code
def yX7_clear : MethodName := ⟨RX7, "clear", "()I"⟩
abbrev cX7_free : ByteArray := prog_9_method_38_code
def yX7_free : MethodName := ⟨RX7, "free", "(I)I"⟩
abbrev cX7_tries : ByteArray := prog_9_method_39_code
def yX7_tries : MethodName := ⟨RX7, "tries", "()V"⟩
abbrev cX7_rowCall : ByteArray := prog_9_method_40_code
def yX7_rowCall : MethodName := ⟨RX7, "rowCall", "(II)I"⟩
abbrev cX7_once : ByteArray := prog_9_method_41_code
def yX7_once : MethodName := ⟨RX7, "once", "()V"⟩
abbrev cX7_isSafe : ByteArray := prog_9_method_42_code
def yX7_isSafe : MethodName := ⟨RX7, "isSafe", "(III)Z"⟩
abbrev cX7_safe : ByteArray := prog_9_method_43_code
def yX7_safe : MethodName := ⟨RX7, "safe", "(III)I"⟩
abbrev cX7_worstOf : ByteArray := prog_9_method_44_code
def yX7_worstOf : MethodName := ⟨RX7, "worstOf", "()I"⟩
abbrev cX7_worst : ByteArray := prog_9_method_45_code
def yX7_worst : MethodName := ⟨RX7, "worst", "()I"⟩
abbrev cX7_isOrder : ByteArray := prog_9_method_46_code
def yX7_isOrder : MethodName := ⟨RX7, "isOrder", "(II)Z"⟩
abbrev cX7_reads_ : ByteArray := prog_9_method_47_code
def yX7_reads_ : MethodName := ⟨RX7, "reads", "(II)V"⟩
abbrev cX7_does : ByteArray := prog_9_method_48_code
def yX7_does : MethodName := ⟨RX7, "does", "(I)V"⟩
abbrev cX7_power : ByteArray := prog_9_method_49_code
def yX7_power : MethodName := ⟨RX7, "power", "(II)I"⟩
abbrev cX7_onces : ByteArray := prog_9_method_50_code
def yX7_onces : MethodName := ⟨RX7, "onces", "()I"⟩
abbrev cX7_endsLike : ByteArray := prog_9_method_51_code
def yX7_endsLike : MethodName := ⟨RX7, "endsLike", "(I)Z"⟩
abbrev cX7_orders : ByteArray := prog_9_method_52_code
def yX7_orders : MethodName := ⟨RX7, "orders", "(II)I"⟩
abbrev cX7_enough : ByteArray := prog_9_method_53_code
def yX7_enough : MethodName := ⟨RX7, "enough", "()I"⟩
abbrev cX7_price : ByteArray := prog_9_method_54_code
def yX7_price : MethodName := ⟨RX7, "price", "(II)I"⟩
abbrev cX7_reached : ByteArray := prog_9_method_55_code
def yX7_reached : MethodName := ⟨RX7, "reached", "()I"⟩
abbrev cX7_bits : ByteArray := prog_9_method_56_code
def yX7_bits : MethodName := ⟨RX7, "bits", "(I)I"⟩
abbrev cX7_spread : ByteArray := prog_9_method_57_code
def yX7_spread : MethodName := ⟨RX7, "spread", "(II)I"⟩
abbrev cX7_cheapest : ByteArray := prog_9_method_58_code
def yX7_cheapest : MethodName := ⟨RX7, "cheapest", "(I)I"⟩
abbrev cX7_again : ByteArray := prog_9_method_59_code
def yX7_again : MethodName := ⟨RX7, "again", "()I"⟩
abbrev cX7_log : ByteArray := prog_9_method_60_code
def yX7_log : MethodName := ⟨RX7, "log", "(II)I"⟩
abbrev cX7_reset : ByteArray := prog_9_method_61_code
def yX7_reset : MethodName := ⟨RX7, "reset", "()I"⟩
abbrev cX7_count : ByteArray := prog_9_method_62_code
def yX7_count : MethodName := ⟨RX7, "count", "(I)I"⟩
def RJ6 : String := "java/lang/Integer"
def TJ6 : u_T := fun k => match k with
  | _ => ("", "", "", false)
def tyJ6 : Nat → FieldType := fun k => match k with
  | _ => .int
abbrev wsJ60 : List Cond := u_ws RJ6 TJ6 0
theorem nmJ6 : ∀ a, a < 0 → ∀ b, b < 0 → a ≠ b → (TJ6 a).2.1 ≠ (TJ6 b).2.1 := by decide +kernel
theorem tyJ6_ok : ∀ k, k < 0 → parseFieldDescriptor (TJ6 k).2.2.1 = some (tyJ6 k) := by decide +kernel
abbrev cJ6_numberOfLeadingZeros_0f7a4 : ByteArray := prog_10_method_47_code
def yJ6_numberOfLeadingZeros_0f7a4 : MethodName := ⟨RJ6, "numberOfLeadingZeros", "(I)I"⟩
abbrev cJ6_numberOfTrailingZeros_0f7a4 : ByteArray := prog_10_method_48_code
def yJ6_numberOfTrailingZeros_0f7a4 : MethodName := ⟨RJ6, "numberOfTrailingZeros", "(I)I"⟩
abbrev cJ6_bitCount_0f7a4 : ByteArray := prog_10_method_49_code
def yJ6_bitCount_0f7a4 : MethodName := ⟨RJ6, "bitCount", "(I)I"⟩
def RJ9 : String := "java/lang/Math"
def TJ9 : u_T := fun k => match k with
  | _ => ("", "", "", false)
def tyJ9 : Nat → FieldType := fun k => match k with
  | _ => .int
abbrev wsJ90 : List Cond := u_ws RJ9 TJ9 0
theorem nmJ9 : ∀ a, a < 0 → ∀ b, b < 0 → a ≠ b → (TJ9 a).2.1 ≠ (TJ9 b).2.1 := by decide +kernel
theorem tyJ9_ok : ∀ k, k < 0 → parseFieldDescriptor (TJ9 k).2.2.1 = some (tyJ9 k) := by decide +kernel
abbrev cJ9_max_7cf53 : ByteArray := prog_11_method_65_code
def yJ9_max_7cf53 : MethodName := ⟨RJ9, "max", "(II)I"⟩
abbrev cJ9_min_7cf53 : ByteArray := prog_11_method_69_code
def yJ9_min_7cf53 : MethodName := ⟨RJ9, "min", "(II)I"⟩
def RJ0 : String := "java/lang/String"
def TJ0 : u_T := fun k => match k with
  | _ => ("", "", "", false)
def tyJ0 : Nat → FieldType := fun k => match k with
  | _ => .int
abbrev wsJ00 : List Cond := u_ws RJ0 TJ0 0
theorem nmJ0 : ∀ a, a < 0 → ∀ b, b < 0 → a ≠ b → (TJ0 a).2.1 ≠ (TJ0 b).2.1 := by decide +kernel
theorem tyJ0_ok : ∀ k, k < 0 → parseFieldDescriptor (TJ0 k).2.2.1 = some (tyJ0 k) := by decide +kernel
abbrev cJ0_charAt_5068e : ByteArray := prog_12_method_56_code
def yJ0_charAt_5068e : MethodName := ⟨RJ0, "charAt", "(I)C"⟩
abbrev cJ0_isLatin1_aae02 : ByteArray := prog_12_method_154_code
def yJ0_isLatin1_aae02 : MethodName := ⟨RJ0, "isLatin1", "()Z"⟩
abbrev cJ0_checkIndex_df160 : ByteArray := prog_12_method_155_code
def yJ0_checkIndex_df160 : MethodName := ⟨RJ0, "checkIndex", "(II)V"⟩
def RJ1 : String := "java/lang/StringLatin1"
def TJ1 : u_T := fun k => match k with
  | _ => ("", "", "", false)
def tyJ1 : Nat → FieldType := fun k => match k with
  | _ => .int
abbrev wsJ10 : List Cond := u_ws RJ1 TJ1 0
theorem nmJ1 : ∀ a, a < 0 → ∀ b, b < 0 → a ≠ b → (TJ1 a).2.1 ≠ (TJ1 b).2.1 := by decide +kernel
theorem tyJ1_ok : ∀ k, k < 0 → parseFieldDescriptor (TJ1 k).2.2.1 = some (tyJ1 k) := by decide +kernel
abbrev cJ1_charAt_3b067 : ByteArray := prog_13_method_2_code
def yJ1_charAt_3b067 : MethodName := ⟨RJ1, "charAt", "([BI)C"⟩
def RJ2 : String := "java/lang/StringUTF16"
def TJ2 : u_T := fun k => match k with
  | _ => ("", "", "", false)
def tyJ2 : Nat → FieldType := fun k => match k with
  | _ => .int
abbrev wsJ20 : List Cond := u_ws RJ2 TJ2 0
theorem nmJ2 : ∀ a, a < 0 → ∀ b, b < 0 → a ≠ b → (TJ2 a).2.1 ≠ (TJ2 b).2.1 := by decide +kernel
theorem tyJ2_ok : ∀ k, k < 0 → parseFieldDescriptor (TJ2 k).2.2.1 = some (tyJ2 k) := by decide +kernel
abbrev cJ2_getChar_3b067 : ByteArray := prog_14_method_5_code
def yJ2_getChar_3b067 : MethodName := ⟨RJ2, "getChar", "([BI)C"⟩
abbrev cJ2_length_9d52b : ByteArray := prog_14_method_6_code
def yJ2_length_9d52b : MethodName := ⟨RJ2, "length", "([B)I"⟩
abbrev cJ2_charAt_3b067 : ByteArray := prog_14_method_83_code
def yJ2_charAt_3b067 : MethodName := ⟨RJ2, "charAt", "([BI)C"⟩
abbrev cJ2_checkIndex_2214a : ByteArray := prog_14_method_91_code
def yJ2_checkIndex_2214a : MethodName := ⟨RJ2, "checkIndex", "(I[B)V"⟩
def RJ10 : String := "java/lang/System"
def TJ10 : u_T := fun k => match k with
  | _ => ("", "", "", false)
def tyJ10 : Nat → FieldType := fun k => match k with
  | _ => .int
abbrev wsJ100 : List Cond := u_ws RJ10 TJ10 0
theorem nmJ10 : ∀ a, a < 0 → ∀ b, b < 0 → a ≠ b → (TJ10 a).2.1 ≠ (TJ10 b).2.1 := by decide +kernel
theorem tyJ10_ok : ∀ k, k < 0 → parseFieldDescriptor (TJ10 k).2.2.1 = some (tyJ10 k) := by decide +kernel
def RJ3 : String := "jdk/internal/util/Preconditions"
def TJ3 : u_T := fun k => match k with
  | _ => ("", "", "", false)
def tyJ3 : Nat → FieldType := fun k => match k with
  | _ => .int
abbrev wsJ30 : List Cond := u_ws RJ3 TJ3 0
theorem nmJ3 : ∀ a, a < 0 → ∀ b, b < 0 → a ≠ b → (TJ3 a).2.1 ≠ (TJ3 b).2.1 := by decide +kernel
theorem tyJ3_ok : ∀ k, k < 0 → parseFieldDescriptor (TJ3 k).2.2.1 = some (tyJ3 k) := by decide +kernel
abbrev cJ3_checkIndex_8e157 : ByteArray := prog_16_method_11_code
def yJ3_checkIndex_8e157 : MethodName := ⟨RJ3, "checkIndex", "(IILjava/util/function/BiFunction;)I"⟩
def RL : String := "TwiceOnceLaw"
abbrev cL_law : ByteArray := code
def yL_law : MethodName := ⟨RL, "law", "([I)Z"⟩
abbrev vwCl : List vw_C := [(RX0, TX0, 4), (RX1, TX1, 10), (RX2, TX2, 4), (RX3, TX3, 15), (RX4, TX4, 4), (RX5, TX5, 8), (RX6, TX6, 7), (RX7, TX7, 67)]
end
section
/-! the words that every method of this claim has: the good ones of the tables -/
def tb : List Cond := lw_tbl.filter goodWord
theorem mt {w : Cond} (i : Nat) (h : lw_tbl[i]? = some w) (g : goodWord w = true) : w ∈ tb := List.mem_filter.mpr ⟨List.mem_of_getElem? h, g⟩
theorem tb_sub : ∀ w ∈ tb, w ∈ lw_tbl := fun _ h => (List.mem_filter.mp h).1
theorem tb_good {w : Cond} (h : w ∈ tb) : goodWord w = true := (List.mem_filter.mp h).2
theorem gd {y y' : MethodName} {b b' : ByteArray} {n n' : Nat} {r r' : Option FieldType} (h : Cond.code y' b' n' r' ∈ tb) : GoodIn (Cond.code y b n r :: tb) (Cond.code y' b' n' r' :: tb) := fun w hw => by
  rcases List.mem_cons.mp hw with rfl | hw
  · exact ⟨List.mem_cons_of_mem _ h, good_of_word (tb_good h)⟩
  · exact ⟨List.mem_cons_of_mem _ hw, good_of_word (tb_good hw)⟩
theorem gd0 {y' : MethodName} {b' : ByteArray} {n' : Nat} {r' : Option FieldType} (h : Cond.code y' b' n' r' ∈ tb) : GoodIn tb (Cond.code y' b' n' r' :: tb) := fun w hw => by
  rcases List.mem_cons.mp hw with rfl | hw
  · exact ⟨h, good_of_word (tb_good h)⟩
  · exact ⟨hw, good_of_word (tb_good hw)⟩
theorem ly_X0 : ∀ k, k < 4 → u_lay RX0 TX0 k ∈ tb := by
  intro k hk
  match k, hk with
  | 0, _ => exact mt 257 (by decide +kernel) rfl
  | 1, _ => exact mt 259 (by decide +kernel) rfl
  | 2, _ => exact mt 261 (by decide +kernel) rfl
  | 3, _ => exact mt 263 (by decide +kernel) rfl
  | k + 4, hk => exact absurd hk (by omega)
theorem ly_X1 : ∀ k, k < 10 → u_lay RX1 TX1 k ∈ tb := by
  intro k hk
  match k, hk with
  | 0, _ => exact mt 287 (by decide +kernel) rfl
  | 1, _ => exact mt 289 (by decide +kernel) rfl
  | 2, _ => exact mt 291 (by decide +kernel) rfl
  | 3, _ => exact mt 293 (by decide +kernel) rfl
  | 4, _ => exact mt 295 (by decide +kernel) rfl
  | 5, _ => exact mt 297 (by decide +kernel) rfl
  | 6, _ => exact mt 299 (by decide +kernel) rfl
  | 7, _ => exact mt 301 (by decide +kernel) rfl
  | 8, _ => exact mt 303 (by decide +kernel) rfl
  | 9, _ => exact mt 305 (by decide +kernel) rfl
  | k + 10, hk => exact absurd hk (by omega)
theorem ly_X2 : ∀ k, k < 4 → u_lay RX2 TX2 k ∈ tb := by
  intro k hk
  match k, hk with
  | 0, _ => exact mt 134 (by decide +kernel) rfl
  | 1, _ => exact mt 136 (by decide +kernel) rfl
  | 2, _ => exact mt 138 (by decide +kernel) rfl
  | 3, _ => exact mt 140 (by decide +kernel) rfl
  | k + 4, hk => exact absurd hk (by omega)
theorem ly_X3 : ∀ k, k < 15 → u_lay RX3 TX3 k ∈ tb := by
  intro k hk
  match k, hk with
  | 0, _ => exact mt 168 (by decide +kernel) rfl
  | 1, _ => exact mt 170 (by decide +kernel) rfl
  | 2, _ => exact mt 172 (by decide +kernel) rfl
  | 3, _ => exact mt 174 (by decide +kernel) rfl
  | 4, _ => exact mt 176 (by decide +kernel) rfl
  | 5, _ => exact mt 178 (by decide +kernel) rfl
  | 6, _ => exact mt 180 (by decide +kernel) rfl
  | 7, _ => exact mt 182 (by decide +kernel) rfl
  | 8, _ => exact mt 184 (by decide +kernel) rfl
  | 9, _ => exact mt 186 (by decide +kernel) rfl
  | 10, _ => exact mt 188 (by decide +kernel) rfl
  | 11, _ => exact mt 190 (by decide +kernel) rfl
  | 12, _ => exact mt 192 (by decide +kernel) rfl
  | 13, _ => exact mt 194 (by decide +kernel) rfl
  | 14, _ => exact mt 196 (by decide +kernel) rfl
  | k + 15, hk => exact absurd hk (by omega)
theorem ly_X4 : ∀ k, k < 4 → u_lay RX4 TX4 k ∈ tb := by
  intro k hk
  match k, hk with
  | 0, _ => exact mt 92 (by decide +kernel) rfl
  | 1, _ => exact mt 94 (by decide +kernel) rfl
  | 2, _ => exact mt 96 (by decide +kernel) rfl
  | 3, _ => exact mt 98 (by decide +kernel) rfl
  | k + 4, hk => exact absurd hk (by omega)
theorem ly_X5 : ∀ k, k < 8 → u_lay RX5 TX5 k ∈ tb := by
  intro k hk
  match k, hk with
  | 0, _ => exact mt 217 (by decide +kernel) rfl
  | 1, _ => exact mt 219 (by decide +kernel) rfl
  | 2, _ => exact mt 221 (by decide +kernel) rfl
  | 3, _ => exact mt 223 (by decide +kernel) rfl
  | 4, _ => exact mt 225 (by decide +kernel) rfl
  | 5, _ => exact mt 227 (by decide +kernel) rfl
  | 6, _ => exact mt 229 (by decide +kernel) rfl
  | 7, _ => exact mt 231 (by decide +kernel) rfl
  | k + 8, hk => exact absurd hk (by omega)
theorem ly_X6 : ∀ k, k < 7 → u_lay RX6 TX6 k ∈ tb := by
  intro k hk
  match k, hk with
  | 0, _ => exact mt 315 (by decide +kernel) rfl
  | 1, _ => exact mt 317 (by decide +kernel) rfl
  | 2, _ => exact mt 319 (by decide +kernel) rfl
  | 3, _ => exact mt 321 (by decide +kernel) rfl
  | 4, _ => exact mt 323 (by decide +kernel) rfl
  | 5, _ => exact mt 325 (by decide +kernel) rfl
  | 6, _ => exact mt 327 (by decide +kernel) rfl
  | k + 7, hk => exact absurd hk (by omega)
theorem ly_X7 : ∀ k, k < 67 → u_lay RX7 TX7 k ∈ tb := by
  intro k hk
  match k, hk with
  | 0, _ => exact mt 812 (by decide +kernel) rfl
  | 1, _ => exact mt 814 (by decide +kernel) rfl
  | 2, _ => exact mt 816 (by decide +kernel) rfl
  | 3, _ => exact mt 818 (by decide +kernel) rfl
  | 4, _ => exact mt 820 (by decide +kernel) rfl
  | 5, _ => exact mt 822 (by decide +kernel) rfl
  | 6, _ => exact mt 824 (by decide +kernel) rfl
  | 7, _ => exact mt 826 (by decide +kernel) rfl
  | 8, _ => exact mt 828 (by decide +kernel) rfl
  | 9, _ => exact mt 830 (by decide +kernel) rfl
  | 10, _ => exact mt 832 (by decide +kernel) rfl
  | 11, _ => exact mt 834 (by decide +kernel) rfl
  | 12, _ => exact mt 836 (by decide +kernel) rfl
  | 13, _ => exact mt 838 (by decide +kernel) rfl
  | 14, _ => exact mt 840 (by decide +kernel) rfl
  | 15, _ => exact mt 842 (by decide +kernel) rfl
  | 16, _ => exact mt 844 (by decide +kernel) rfl
  | 17, _ => exact mt 846 (by decide +kernel) rfl
  | 18, _ => exact mt 848 (by decide +kernel) rfl
  | 19, _ => exact mt 850 (by decide +kernel) rfl
  | 20, _ => exact mt 852 (by decide +kernel) rfl
  | 21, _ => exact mt 854 (by decide +kernel) rfl
  | 22, _ => exact mt 856 (by decide +kernel) rfl
  | 23, _ => exact mt 858 (by decide +kernel) rfl
  | 24, _ => exact mt 860 (by decide +kernel) rfl
  | 25, _ => exact mt 862 (by decide +kernel) rfl
  | 26, _ => exact mt 864 (by decide +kernel) rfl
  | 27, _ => exact mt 866 (by decide +kernel) rfl
  | 28, _ => exact mt 868 (by decide +kernel) rfl
  | 29, _ => exact mt 870 (by decide +kernel) rfl
  | 30, _ => exact mt 872 (by decide +kernel) rfl
  | 31, _ => exact mt 874 (by decide +kernel) rfl
  | 32, _ => exact mt 876 (by decide +kernel) rfl
  | 33, _ => exact mt 878 (by decide +kernel) rfl
  | 34, _ => exact mt 880 (by decide +kernel) rfl
  | 35, _ => exact mt 882 (by decide +kernel) rfl
  | 36, _ => exact mt 884 (by decide +kernel) rfl
  | 37, _ => exact mt 886 (by decide +kernel) rfl
  | 38, _ => exact mt 888 (by decide +kernel) rfl
  | 39, _ => exact mt 890 (by decide +kernel) rfl
  | 40, _ => exact mt 892 (by decide +kernel) rfl
  | 41, _ => exact mt 894 (by decide +kernel) rfl
  | 42, _ => exact mt 896 (by decide +kernel) rfl
  | 43, _ => exact mt 898 (by decide +kernel) rfl
  | 44, _ => exact mt 900 (by decide +kernel) rfl
  | 45, _ => exact mt 902 (by decide +kernel) rfl
  | 46, _ => exact mt 904 (by decide +kernel) rfl
  | 47, _ => exact mt 906 (by decide +kernel) rfl
  | 48, _ => exact mt 908 (by decide +kernel) rfl
  | 49, _ => exact mt 910 (by decide +kernel) rfl
  | 50, _ => exact mt 912 (by decide +kernel) rfl
  | 51, _ => exact mt 914 (by decide +kernel) rfl
  | 52, _ => exact mt 916 (by decide +kernel) rfl
  | 53, _ => exact mt 918 (by decide +kernel) rfl
  | 54, _ => exact mt 920 (by decide +kernel) rfl
  | 55, _ => exact mt 922 (by decide +kernel) rfl
  | 56, _ => exact mt 924 (by decide +kernel) rfl
  | 57, _ => exact mt 926 (by decide +kernel) rfl
  | 58, _ => exact mt 928 (by decide +kernel) rfl
  | 59, _ => exact mt 930 (by decide +kernel) rfl
  | 60, _ => exact mt 932 (by decide +kernel) rfl
  | 61, _ => exact mt 934 (by decide +kernel) rfl
  | 62, _ => exact mt 936 (by decide +kernel) rfl
  | 63, _ => exact mt 938 (by decide +kernel) rfl
  | 64, _ => exact mt 940 (by decide +kernel) rfl
  | 65, _ => exact mt 942 (by decide +kernel) rfl
  | 66, _ => exact mt 944 (by decide +kernel) rfl
  | k + 67, hk => exact absurd hk (by omega)
theorem cl_in : ∀ (ci : Nat) (q : vw_C), vwCl[ci]? = some q → ∀ w ∈ u_ws q.1 q.2.1 q.2.2, w ∈ tb := by
  intro ci q hq w hw
  obtain ⟨k, hk, rfl⟩ := List.mem_map.mp hw
  have hk := List.mem_range.mp hk
  match ci, hq with
  | 0, hq => cases hq; exact ly_X0 k hk
  | 1, hq => cases hq; exact ly_X1 k hk
  | 2, hq => cases hq; exact ly_X2 k hk
  | 3, hq => cases hq; exact ly_X3 k hk
  | 4, hq => cases hq; exact ly_X4 k hk
  | 5, hq => cases hq; exact ly_X5 k hk
  | 6, hq => cases hq; exact ly_X6 k hk
  | 7, hq => cases hq; exact ly_X7 k hk
  | ci + 8, hq => simp [vwCl] at hq
def clty : Nat → Nat → FieldType := fun ci => match ci with
  | 0 => tyX0
  | 1 => tyX1
  | 2 => tyX2
  | 3 => tyX3
  | 4 => tyX4
  | 5 => tyX5
  | 6 => tyX6
  | _ => tyX7
theorem cl_ty : ∀ (ci : Nat) (q : vw_C), vwCl[ci]? = some q → ∀ k, k < q.2.2 → parseFieldDescriptor (q.2.1 k).2.2.1 = some (clty ci k) := by
  intro ci q hq
  match ci, hq with
  | 0, hq => cases hq; exact tyX0_ok
  | 1, hq => cases hq; exact tyX1_ok
  | 2, hq => cases hq; exact tyX2_ok
  | 3, hq => cases hq; exact tyX3_ok
  | 4, hq => cases hq; exact tyX4_ok
  | 5, hq => cases hq; exact tyX5_ok
  | 6, hq => cases hq; exact tyX6_ok
  | 7, hq => cases hq; exact tyX7_ok
  | ci + 8, hq => simp [vwCl] at hq
theorem cl_nm : ∀ (ci : Nat) (q : vw_C), vwCl[ci]? = some q → ∀ a, a < q.2.2 → ∀ b, b < q.2.2 → a ≠ b → (q.2.1 a).2.1 ≠ (q.2.1 b).2.1 := by
  intro ci q hq
  match ci, hq with
  | 0, hq => cases hq; exact nmX0
  | 1, hq => cases hq; exact nmX1
  | 2, hq => cases hq; exact nmX2
  | 3, hq => cases hq; exact nmX3
  | 4, hq => cases hq; exact nmX4
  | 5, hq => cases hq; exact nmX5
  | 6, hq => cases hq; exact nmX6
  | 7, hq => cases hq; exact nmX7
  | ci + 8, hq => simp [vwCl] at hq
/-- from where on the heap is ours; the table of words; the text of words, its bytes -/
abbrev NT : Type := Nat × Nat × Nat × Nat
/-! array classes of every world: int[], boolean[], Service[] -/
abbrev ty3 (cI cZ cS : ClassId) : List (ClassId × FieldType) := [(cI, .int), (cZ, .boolean), (cS, .object "TwiceOnce$Service")]
/-! words that no list of good words holds, and what lies in the heap from the start -/
def tabW : Nat → Value := fun j => .int (([0, 4, 8, 12, 16, 20, 24, 27, 30] : List Int32).getD j 0)
def strW : List Int32 := [115, 101, 116, 32, 97, 100, 100, 32, 109, 97, 120, 32, 110, 101, 119, 32, 103, 101, 116, 32, 97, 115, 107, 32, 100, 111, 32, 105, 102, 32]
def Tx (N0 : NT) (U : State) : Prop := va_Z "TwiceOnce$Tape" "WORD_BEGINS" "[I" (.ref N0.2.1) (fun q => N0.1 ≤ q) U U.heap ∧ va_T .int N0.2.1 9 tabW (fun q => N0.1 ≤ q) U U.heap ∧ vk_R "TwiceOnce$Tape" 62 "set add max new get ask do if " N0.2.2.1 U ∧
  va_O "java/lang/String" N0.2.2.1 (fun q => N0.1 ≤ q) U U.heap ∧ va_OF "java/lang/String" "coder" "B" (.int 0) N0.2.2.1 (fun q => N0.1 ≤ q) U U.heap ∧ va_OF "java/lang/String" "value" "[B" (.ref N0.2.2.2) N0.2.2.1 (fun q => N0.1 ≤ q) U U.heap ∧ va_T .byte N0.2.2.2 30 (fun j => .int (strW.getD j 0)) (fun q => N0.1 ≤ q) U U.heap ∧
  va_Z "java/lang/String" "COMPACT_STRINGS" "Z" (.int 1) (fun q => N0.1 ≤ q) U U.heap ∧ va_Zq "jdk/internal/util/Preconditions" "SIOOBE_FORMATTER" "Ljava/util/function/BiFunction;" (fun q => N0.1 ≤ q) U U.heap
def Nb (N0 : NT) (U : State) : Prop :=
  va_Nw (.methodLinkNest RX6 11 yX4_init RX6) U ∧ va_Nw (.methodLinkNest RX5 41 yX3_init RX6) U ∧ va_Nw (.methodLinkNest RX3 11 yX2_init RX6) U ∧ va_Nw (.methodLinkNest RX6 37 yX1_init RX6) U ∧ va_Nw (.methodLinkNest RX4 29 yX2_init RX6) U ∧ va_AO "TwiceOnce$Service" U ∧ (Cond.arrayOver (.array .int)).before #[] U = true ∧ Tx N0 U
theorem Tx.go {N0 : NT} {s U : State} {A : Nat → Prop} {H : Heap} {locs : List Loc} (h : Tx N0 s) (hS : va_S A s.heap H locs) (hA : ∀ q, A q → N0.1 ≤ q) (hU : U.heap = H) (hW : s.WarmedH U.vm) : Tx N0 U := by
  obtain ⟨h1, h2, h3, h4, h5, h6, h7, h8, h9⟩ := h
  have hk : ∀ a : Nat, a < s.heap.size → ¬ (fun q => N0.1 ≤ q) a → U.heap[a]? = s.heap[a]? := fun a ha hn => by rw [hU]; exact hS.2.1 a ha (fun q => hn (hA a q))
  exact ⟨va_Z.moved hW.alike (h1.kept hk), va_T.moved hW.alike (h2.kept hk), vk_R.warm hW h3, va_O.moved hW.alike (h4.kept hk), va_OF.moved hW.alike (h5.kept hk), va_OF.moved hW.alike (h6.kept hk), va_T.moved hW.alike (h7.kept hk), va_Z.moved hW.alike (h8.kept hk), va_Zq.moved hW.alike (h9.kept hk)⟩
theorem aoa_moved {u U : State} {t : FieldType} (hvm : u.vm.Alike U.vm) (h : (Cond.arrayOver (.array t)).before #[] u = true) : (Cond.arrayOver (.array t)).before #[] U = true := by
  obtain ⟨comp, c, k, h1, h2, h3, h4, h5⟩ := arrayOverA_spec h
  obtain ⟨k', hk', he⟩ := hvm.2.2 _ _ h3
  have hkind : k'.kind = .array comp (.array t) := by rw [he]; exact h4
  have f1 : U.vm.findClass (FieldType.array t).toString = some comp := by rw [hvm.findClass]; exact h1
  have f2 : U.vm.findClass ("[" ++ (FieldType.array t).toString) = some c := by rw [hvm.findClass]; exact h5
  unfold Cond.before
  simp only [Cond.holds, Cond.value, f1, Option.bind_some, beq_iff_eq]
  rw [Option.bind_eq_some_iff]
  refine ⟨c, (hvm.findIdx?_eq _ (fun _ => rfl)).trans h2, ?_⟩
  simp [hk', hkind, f2]
theorem Nb.go {N0 : NT} {s U : State} {A : Nat → Prop} {H : Heap} {locs : List Loc} (h : Nb N0 s) (hS : va_S A s.heap H locs) (hA : ∀ q, A q → N0.1 ≤ q) (hU : U.heap = H) (hW : s.WarmedH U.vm) : Nb N0 U := by
  obtain ⟨h1, h2, h3, h4, h5, h6, h7, h8⟩ := h
  exact ⟨h1.warmM hW, h2.warmM hW, h3.warmM hW, h4.warmM hW, h5.warmM hW, h6.moved hW.alike, aoa_moved hW.alike h7, h8.go hS hA hU hW⟩
theorem Nb.calling {N0 : NT} {U : State} {g : JFrame} {mk : MethodId} {a : Array Value} (h : Nb N0 U) : Nb N0 (U.calling g mk a) :=
  Nb.go (A := fun _ => False) (H := U.heap) (locs := []) h ⟨Nat.le_refl _, fun _ _ _ => rfl, fun _ h => by cases h⟩ (fun _ h => h.elim) rfl (State.WarmedH.refl U)
/-! what stays in a walk; what moves -/
def Bx (p : Program) (s : State) (m : MethodId) (meth : Method) (c : Code) (args : Array Value) (cc : ByteArray) (nL : Nat) (own : String) (D : va_G) (cI cZ cS : ClassId) (A : Nat → Prop) (N0 : NT) : Prop :=
  p.tables.exec = Jvm.exec ∧ c.code = cc ∧ c.maxLocals = nL ∧ s.vm.findClass own = some m.cls ∧ (∀ w ∈ tb, w.before args s = true) ∧ va_K D vwCl (ty3 cI cZ cS) s ∧ (∀ q, s.heap.size ≤ q → A q) ∧ (∀ q, A q → N0.1 ≤ q) ∧ Nb N0 s ∧ meth.locks = false
def Vx (D : va_G) (A : Nat → Prop) (H0 H : Heap) (locs : List Loc) (ws : va_W) : Prop := va_P D vwCl ws H ∧ va_D A ws ∧ va_S A H0 H locs
/-- a contract's start: the cells ws, all behind N0; its end: an answer and cells w that the post names -/
def xP (D : va_G) (cI cZ cS : ClassId) (N0 : NT) (av : List Value) (ws : va_W) (sz : Nat) : Array Value → State → Prop := va_Pc av (fun U => U.heap.size = sz ∧ N0.1 ≤ sz ∧ va_P D vwCl ws U.heap ∧ va_K D vwCl (ty3 cI cZ cS) U ∧ va_D (fun q => N0.1 ≤ q) ws ∧ Nb N0 U)
def xQ (D : va_G) (ws : va_W) (sz : Nat) (post : Option Value → va_W → Prop) : Array Value → State → Outcome → State → Prop := fun _ st oc t => (∃ (v : Option Value) (w : va_W), oc = .returned v ∧ post v w ∧ va_P D vwCl w t.heap ∧ va_D (va_A ws sz) w) ∧ va_F (va_A ws sz) st t
abbrev rmx (d mc ms : Nat) : Room := { frames := d + 1, cells := mc, slots := ms, locals := 64 * (d + 1) }
def Mx (l : Launch) (D : va_G) (cI cZ cS : ClassId) (N0 : NT) (y : MethodName) (b : ByteArray) (n : Nat) (r : Option FieldType) (d mc ms : Nat) (av : List Value) (ws : va_W) (post : Option Value → va_W → Prop) : Prop :=
  ∀ sz : Nat, Met l y (Cond.code y b n r :: tb) (rmx d mc ms) (xP D cI cZ cS N0 av ws sz) (xQ D ws sz post) mc ms (va_A ws sz)
theorem x_enter {l : Launch} {D : va_G} {cI cZ cS : ClassId} {N0 : NT} {y : MethodName} {b : ByteArray} {n : Nat} {r : Option FieldType} {d mc ms : Nat} {av : List Value} {ws : va_W} {post : Option Value → va_W → Prop} (hy : plainName y.cls = true) (hn : (lg_sl av).length ≤ n)
    (body : ∀ (p : Program) (e : Env) (s : State) (m : MethodId) (args : Array Value) (below : List Frame) (meth : Method) (c : Code) (A : Nat → Prop) (ls : Array Slot) (H : Heap) (locs : List Loc), Bx p s m meth c args b n y.cls D cI cZ cS A N0 → meth.sig.returnType = r → meth.name = y.name → lv_has ls n (lv_args 0 av) → Vx D A s.heap H locs ws → A = va_A ws s.heap.size →
      W p l e (rmx d mc ms) s m args below meth c H locs 0 0 (MQ below (xQ D ws s.heap.size post) args s mc ms A) (F0 m 0 ls [])) : Mx l D cI cZ cS N0 y b n r d mc ms av ws post := by
  intro sz
  refine Met.ofW (cc := b) (maxL := n) (ret := r) hy rfl ?_
  intro p e s m args below meth c s₁ B hml hv
  obtain ⟨rfl, hsz, hN, hP, hK, hD0, hNb⟩ := hv
  have hts := atoms_spec (ws := Cond.code y b n r :: tb) B.pre
  subst hsz
  have hl := lv_entry av (n := n) hn
  rw [lg_entry_eq]
  generalize (lg_sl av ++ List.replicate (n - (lg_sl av).length) Slot.unset).toArray = ls at hl ⊢
  have hAN : ∀ q, va_A ws s.heap.size q → N0.1 ≤ q := fun q h => by
    rcases h with ⟨k, e, hk⟩ | h
    · exact hD0.2 k _ hk
    · exact Nat.le_trans hN h
  exact body p e s m _ below meth c (va_A ws s.heap.size) ls s.heap [] ⟨B.exec, B.bytes, hml, findClass_of_methodNamed B.named, fun w hw => hts w (List.mem_cons_of_mem _ hw), hK, fun q h => Or.inr h, hAN, hNb, B.notSynchronized⟩ B.returns (name_of_methodNamed B.named B.method).1 hl ⟨hP, hD0.self, va_S.rf⟩ rfl
section XS
variable {p : Program} {l : Launch} {e : Env} {R : Room} {s : State} {m : MethodId} {args : Array Value} {below : List Frame} {meth : Method} {c : Code} {H : Heap} {locs : List Loc} {cells slots : Nat} {Q : State → Prop}
variable {cc : ByteArray} {pc nL : Nat} {ls : Array Slot} {rest : List Value} {own : String} {D : va_G} {cI cZ cS : ClassId} {A : Nat → Prop} {N0 : NT} {a : Nat} {ws : va_W}
theorem x_ev {x y : Int32} (h : x = y) (k : W p l e R s m args below meth c H locs cells slots Q (F0 m pc ls (.int y :: rest))) : W p l e R s m args below meth c H locs cells slots Q (F0 m pc ls (.int x :: rest)) := by rw [h]; exact k
theorem x_get (hB : Bx p s m meth c args cc nL own D cI cZ cS A N0) (hV : Vx D A s.heap H locs ws) (q0 : Nat) {ci N index : Nat} {C : String} {T : u_T} {fs : List Value} {v : Value} (he : ws[q0]? = some (a, .inr (ci, fs))) (hc : vwCl[ci]? = some (C, T, N)) (k : Nat) (hk : k < N) (hl : Cond.fieldLink own index (T k).1 (T k).2.1 (T k).2.2.1 ∈ tb) (hv : fs[k]? = some v) (hdg : decode cc pc = .ok (.getfield index, 3))
    (kk : W p l e R s m args below meth c H locs cells slots Q (F0 m (pc + 3) ls (v :: rest))) : W p l e R s m args below meth c H locs cells slots Q (F0 m pc ls (.ref a :: rest)) :=
  va_get hB.1 hB.2.1 hB.2.2.2.2.1 (cl_in ci _ hc) hB.2.2.2.1 hB.2.2.2.2.2.1 hV.1 q0 he hc k hk (hB.2.2.2.2.1 _ hl) (fun _ h => h) hv hdg kk
theorem x_put (hB : Bx p s m meth c args cc nL own D cI cZ cS A N0) (hV : Vx D A s.heap H locs ws) (q0 : Nat) {ci N index : Nat} {C : String} {T : u_T} {fs : List Value} {v : Value} (he : ws[q0]? = some (a, .inr (ci, fs))) (hc : vwCl[ci]? = some (C, T, N)) (k : Nat) (hk : k < N) (hl : Cond.fieldLink own index (T k).1 (T k).2.1 (T k).2.2.1 ∈ tb) (hfin : (T k).2.2.2 = false) (hn : narrow (clty ci k) v = v) (hfit : fits (clty ci k) v = true) (hlt : k < fs.length) (hdg : decode cc pc = .ok (.putfield index, 3))
    (kk : ∀ (H1 : Heap) (locs1 : List Loc), Vx D A s.heap H1 locs1 (ws.set q0 (a, .inr (ci, fs.set k v))) → W p l e R s m args below meth c H1 locs1 cells slots Q (F0 m (pc + 3) ls rest)) : W p l e R s m args below meth c H locs cells slots Q (F0 m pc ls (v :: .ref a :: rest)) :=
  va_put hB.1 hB.2.1 hB.2.2.2.2.1 (cl_in ci _ hc) (clty ci) (cl_ty ci _ hc) (cl_nm ci _ hc) hB.2.2.2.1 hB.2.2.2.2.2.1 hV.1 hV.2.1 hV.2.2 q0 he hc k hk (hB.2.2.2.2.1 _ hl) (fun _ h => h) hfin (cl_ty ci _ hc k hk) hn hfit hlt hdg (fun H1 l1 h1 h2 h3 => kk H1 l1 ⟨h1, h2, h3⟩)
theorem x_putF (hB : Bx p s m meth c args cc nL own D cI cZ cS A N0) (hV : Vx D A s.heap H locs ws) (hin : meth.name = "<init>") (q0 : Nat) {ci N index : Nat} {C : String} {T : u_T} {fs : List Value} {v : Value} (he : ws[q0]? = some (a, .inr (ci, fs))) (hc : vwCl[ci]? = some (C, T, N)) (k : Nat) (hk : k < N) (hl : Cond.fieldLink own index (T k).1 (T k).2.1 (T k).2.2.1 ∈ tb) (hfin : (T k).2.2.2 = true) (hdecl : (T k).1 = own) (hn : narrow (clty ci k) v = v) (hfit : fits (clty ci k) v = true) (hlt : k < fs.length) (hdg : decode cc pc = .ok (.putfield index, 3))
    (kk : ∀ (H1 : Heap) (locs1 : List Loc), Vx D A s.heap H1 locs1 (ws.set q0 (a, .inr (ci, fs.set k v))) → W p l e R s m args below meth c H1 locs1 cells slots Q (F0 m (pc + 3) ls rest)) : W p l e R s m args below meth c H locs cells slots Q (F0 m pc ls (v :: .ref a :: rest)) :=
  va_putF hB.1 hB.2.1 hB.2.2.2.2.1 (cl_in ci _ hc) (clty ci) (cl_ty ci _ hc) (cl_nm ci _ hc) hB.2.2.2.1 hB.2.2.2.2.2.1 hV.1 hV.2.1 hV.2.2 q0 he hc k hk (hB.2.2.2.2.1 _ hl) (fun _ h => h) hfin hin hdecl (cl_ty ci _ hc k hk) hn hfit hlt hdg (fun H1 l1 h1 h2 h3 => kk H1 l1 ⟨h1, h2, h3⟩)
theorem x_iald (hB : Bx p s m meth c args cc nL own D cI cZ cS A N0) (hV : Vx D A s.heap H locs ws) (q0 : Nat) {n : Nat} {f : Nat → Int32} {i v : Int32} (ha : ws[q0]? = some (a, .inl (cI, n, .inl f))) (hin : vp_in i n) (hv : f i.toNatClampNeg = v) (hdg : decode cc pc = .ok (.iaload, 1))
    (kk : W p l e R s m args below meth c H locs cells slots Q (F0 m (pc + 1) ls (.int v :: rest))) : W p l e R s m args below meth c H locs cells slots Q (F0 m pc ls (.int i :: .ref a :: rest)) := by
  subst hv
  exact va_iald hB.1 hB.2.1 hB.2.2.2.2.2.1 hV.1 q0 0 ha rfl hin hdg kk
theorem x_zald (hB : Bx p s m meth c args cc nL own D cI cZ cS A N0) (hV : Vx D A s.heap H locs ws) (q0 : Nat) {n : Nat} {f : Nat → Int32} {i v : Int32} (ha : ws[q0]? = some (a, .inl (cZ, n, .inl f))) (hin : vp_in i n) (hv : f i.toNatClampNeg = v) (hdg : decode cc pc = .ok (.baload, 1))
    (kk : W p l e R s m args below meth c H locs cells slots Q (F0 m (pc + 1) ls (.int v :: rest))) : W p l e R s m args below meth c H locs cells slots Q (F0 m pc ls (.int i :: .ref a :: rest)) := by
  subst hv
  exact va_zald hB.1 hB.2.1 hB.2.2.2.2.2.1 hV.1 q0 1 ha rfl hin hdg kk
theorem x_iast (hB : Bx p s m meth c args cc nL own D cI cZ cS A N0) (hV : Vx D A s.heap H locs ws) (q0 : Nat) {n : Nat} {f g : Nat → Int32} {i x : Int32} (ha : ws[q0]? = some (a, .inl (cI, n, .inl f))) (hin : vp_in i n) (hg : upd f i.toNatClampNeg x = g) (hdg : decode cc pc = .ok (.iastore, 1))
    (kk : ∀ (H1 : Heap) (locs1 : List Loc), Vx D A s.heap H1 locs1 (ws.set q0 (a, .inl (cI, n, .inl g))) → W p l e R s m args below meth c H1 locs1 cells slots Q (F0 m (pc + 1) ls rest)) : W p l e R s m args below meth c H locs cells slots Q (F0 m pc ls (.int x :: .int i :: .ref a :: rest)) := by
  subst hg
  exact va_iast hB.1 hB.2.1 hB.2.2.2.2.2.1 hV.1 hV.2.1 hV.2.2 q0 0 ha rfl hin hdg (fun H1 l1 h1 h2 h3 => kk H1 l1 ⟨h1, h2, h3⟩)
theorem x_zast (hB : Bx p s m meth c args cc nL own D cI cZ cS A N0) (hV : Vx D A s.heap H locs ws) (q0 : Nat) {n : Nat} {f g : Nat → Int32} {i x : Int32} (ha : ws[q0]? = some (a, .inl (cZ, n, .inl f))) (hin : vp_in i n) (hg : upd f i.toNatClampNeg (vp_nar .boolean x) = g) (hdg : decode cc pc = .ok (.bastore, 1))
    (kk : ∀ (H1 : Heap) (locs1 : List Loc), Vx D A s.heap H1 locs1 (ws.set q0 (a, .inl (cZ, n, .inl g))) → W p l e R s m args below meth c H1 locs1 cells slots Q (F0 m (pc + 1) ls rest)) : W p l e R s m args below meth c H locs cells slots Q (F0 m pc ls (.int x :: .int i :: .ref a :: rest)) := by
  subst hg
  exact va_zast hB.1 hB.2.1 hB.2.2.2.2.2.1 hV.1 hV.2.1 hV.2.2 q0 1 ha rfl hin hdg (fun H1 l1 h1 h2 h3 => kk H1 l1 ⟨h1, h2, h3⟩)
theorem x_alen (hB : Bx p s m meth c args cc nL own D cI cZ cS A N0) (hV : Vx D A s.heap H locs ws) (q0 : Nat) {x : vp_A} {v : Int32} (ha : ws[q0]? = some (a, .inl (cI, x))) (hv : Int32.ofNat x.1 = v) (hdg : decode cc pc = .ok (.arraylength, 1))
    (kk : W p l e R s m args below meth c H locs cells slots Q (F0 m (pc + 1) ls (.int v :: rest))) : W p l e R s m args below meth c H locs cells slots Q (F0 m pc ls (.ref a :: rest)) :=
  va_alen hB.1 hB.2.1 hB.2.2.2.2.2.1 hV.1 q0 0 ha rfl hv hdg kk
/-- a new array of int or boolean: its class is the world's own -/
theorem x_newa (hB : Bx p s m meth c args cc nL own D cI cZ cS A N0) (hV : Vx D A s.heap H locs ws) {atype : ArrayType} {cA : ClassId} {ty : FieldType} (t0 : Nat) (ht : (ty3 cI cZ cS)[t0]? = some (cA, ty)) (hty : newarray.typeOf atype = ty) (hra : ∀ U c, va_RA U c ty = (U.vm.findClass ("[" ++ ty.toString) = some c)) (hd : defaultValue ty = .int 0) (harr : Cond.arrayClass ty ∈ tb) {n : Int32} {N' : Nat} (hn : ¬ n < 0) (hN : n.toNatClampNeg = N') (hb : N' * componentBytes ty ≤ 536870912) (hcells : cells + 1 ≤ R.cells) (hslots : slots + N' ≤ R.slots) (hdg : decode cc pc = .ok (.newarray atype, 2))
    (kk : ∀ (q : Nat) (H1 : Heap), Vx D A s.heap H1 locs (ws ++ [(q, .inl (cA, N', .inl (fun _ => 0)))]) → W p l e R s m args below meth c H1 locs (cells + 1) (slots + N') Q (F0 m (pc + 2) ls (.ref q :: rest))) : W p l e R s m args below meth c H locs cells slots Q (F0 m pc ls (.int n :: rest)) := by
  subst hty
  refine va_newaK hB.1 hB.2.1 (hB.2.2.2.2.1 _ harr) rfl hdg rfl hn hN hb hcells hslots rfl fun H1 cA' e1 z1 o1 hAr hNm => ?_
  have hc : cA' = cA := by
    have h1 := (hB.2.2.2.2.2.1.2 t0 _ ht).2
    rw [hra] at h1
    exact Option.some.inj (hNm.symm.trans h1)
  subst hc
  have hk : ∀ (k : Nat) (x : Nat × va_E), ws[k]? = some x → H1[x.1]? = H[x.1]? := fun k x hx => o1 x.1 ((hV.1 k x hx).lt)
  refine kk H.size H1 ⟨(hV.1.kept hk).app (fun k x hx => ?_), hV.2.1.push hV.1 rfl (hB.2.2.2.2.2.2.1 _ hV.2.2.1), ⟨Nat.le_trans hV.2.2.1 (by omega), fun x h1 h2 => (o1 x (Nat.lt_of_lt_of_le h1 hV.2.2.1)).trans (hV.2.2.2.1 x h1 h2), hV.2.2.2.2⟩⟩
  have hz : k < 1 := (List.getElem?_eq_some_iff.mp hx).1
  rw [show k = 0 by omega] at hx
  cases hx
  show H1[H.size]? = some (vp_cell _ _)
  rw [e1, hd]
  rfl
theorem x_newi (hB : Bx p s m meth c args cc nL own D cI cZ cS A N0) (hV : Vx D A s.heap H locs ws) (harr : Cond.arrayClass .int ∈ tb) {n : Int32} {N' : Nat} (hn : ¬ n < 0) (hN : n.toNatClampNeg = N') (hb : N' * 4 ≤ 536870912) (hcells : cells + 1 ≤ R.cells) (hslots : slots + N' ≤ R.slots) (hdg : decode cc pc = .ok (.newarray .int, 2))
    (kk : ∀ (q : Nat) (H1 : Heap), Vx D A s.heap H1 locs (ws ++ [(q, .inl (cI, N', .inl (fun _ => 0)))]) → W p l e R s m args below meth c H1 locs (cells + 1) (slots + N') Q (F0 m (pc + 2) ls (.ref q :: rest))) : W p l e R s m args below meth c H locs cells slots Q (F0 m pc ls (.int n :: rest)) :=
  x_newa (ty := .int) hB hV 0 rfl rfl (fun _ _ => rfl) rfl harr hn hN hb hcells hslots hdg kk
theorem x_newz (hB : Bx p s m meth c args cc nL own D cI cZ cS A N0) (hV : Vx D A s.heap H locs ws) (harr : Cond.arrayClass .boolean ∈ tb) {n : Int32} {N' : Nat} (hn : ¬ n < 0) (hN : n.toNatClampNeg = N') (hb : N' * 1 ≤ 536870912) (hcells : cells + 1 ≤ R.cells) (hslots : slots + N' ≤ R.slots) (hdg : decode cc pc = .ok (.newarray .boolean, 2))
    (kk : ∀ (q : Nat) (H1 : Heap), Vx D A s.heap H1 locs (ws ++ [(q, .inl (cZ, N', .inl (fun _ => 0)))]) → W p l e R s m args below meth c H1 locs (cells + 1) (slots + N') Q (F0 m (pc + 2) ls (.ref q :: rest))) : W p l e R s m args below meth c H locs cells slots Q (F0 m pc ls (.int n :: rest)) :=
  x_newa (ty := .boolean) hB hV 1 rfl rfl (fun _ _ => rfl) rfl harr hn hN hb hcells hslots hdg kk
theorem x_newq (hB : Bx p s m meth c args cc nL own D cI cZ cS A N0) (hV : Vx D A s.heap H locs ws) {index : Nat} (hcl : Cond.classLink own index "TwiceOnce$Service" ∈ tb) {n : Int32} {N' : Nat} (hn : ¬ n < 0) (hN : n.toNatClampNeg = N') (hb : N' * 4 ≤ 536870912) (hcells : cells + 1 ≤ R.cells) (hslots : slots + N' ≤ R.slots) (hdg : decode cc pc = .ok (.anewarray index, 3))
    (kk : ∀ (q : Nat) (H1 : Heap), Vx D A s.heap H1 locs (ws ++ [(q, .inl (cS, N', .inr (.inr (.inr (.inr (fun _ => none))))))]) → W p l e R s m args below meth c H1 locs (cells + 1) (slots + N') Q (F0 m (pc + 3) ls (.ref q :: rest))) : W p l e R s m args below meth c H locs cells slots Q (F0 m pc ls (.int n :: rest)) := by
  refine va_newq hB.1 hB.2.1 hB.2.2.2.1 (hB.2.2.2.2.1 _ hcl) hB.2.2.2.2.2.2.2.2.1.2.2.2.2.2.1 hB.2.2.2.2.2.1 hV.1 hV.2.1 hV.2.2 hB.2.2.2.2.2.2.1 hn hN hb hcells hslots hdg (fun q cA H1 h0 h1 h2 h3 => ?_)
  have e : cA = cS := by
    obtain ⟨-, -, -, -, -, h4⟩ := (h0.2 3 _ rfl).2
    obtain ⟨-, -, -, -, -, h5⟩ := (hB.2.2.2.2.2.1.2 2 _ rfl).2
    exact Option.some.inj (h4.symm.trans h5)
  subst e
  exact kk q H1 ⟨h1, h2, h3⟩
theorem x_astq (hB : Bx p s m meth c args cc nL own D cI cZ cS A N0) (hV : Vx D A s.heap H locs ws) (q0 qk : Nat) {n v : Nat} {vs : List Value} {f : Nat → Option Nat} (ha : ws[q0]? = some (a, .inl (cS, n, .inr (.inr (.inr (.inr f)))))) (hv : ws[qk]? = some (v, .inr (3, vs))) {i : Int32} (hin : vp_in i n) (hdg : decode cc pc = .ok (.aastore, 1))
    (kk : ∀ (H1 : Heap) (locs1 : List Loc) (g : Nat → Option Nat), Vx D A s.heap H1 locs1 (ws.set q0 (a, .inl (cS, n, .inr (.inr (.inr (.inr g)))))) → W p l e R s m args below meth c H1 locs1 cells slots Q (F0 m (pc + 1) ls rest)) : W p l e R s m args below meth c H locs cells slots Q (F0 m pc ls (.ref v :: .int i :: .ref a :: rest)) :=
  va_astq (r := (RX3, TX3, 15)) hB.1 hB.2.1 hB.2.2.2.2.2.1 hV.1 hV.2.1 hV.2.2 q0 2 qk 3 ha rfl hv rfl hin hdg (fun H1 l1 h1 h2 h3 => kk H1 l1 _ ⟨h1, h2, h3⟩)
theorem x_new (hB : Bx p s m meth c args cc nL own D cI cZ cS A N0) (hV : Vx D A s.heap H locs ws) {ci N index : Nat} {C : String} {T : u_T} {fs : List Value} (hc : vwCl[ci]? = some (C, T, N)) (hcl : Cond.classLink own index C ∈ tb) (hi : Cond.instantiable C N ∈ tb) (hini : Cond.initialized C ∈ tb) (hfs : ∀ j, j < N → defaultValue (clty ci j) = vp_V fs j) (hcells : cells + 1 ≤ R.cells) (hslots : slots + N ≤ R.slots) (hdg : decode cc pc = .ok (.new index, 3))
    (kk : ∀ (q : Nat) (H1 : Heap), Vx D A s.heap H1 locs (ws ++ [(q, .inr (ci, fs))]) → W p l e R s m args below meth c H1 locs (cells + 1) (slots + N) Q (F0 m (pc + 3) ls (.ref q :: rest))) : W p l e R s m args below meth c H locs cells slots Q (F0 m pc ls rest) :=
  va_new hB.1 hB.2.1 hB.2.2.2.2.1 (cl_in ci _ hc) (clty ci) (cl_ty ci _ hc) hB.2.2.2.1 (hB.2.2.2.2.1 _ hcl) (hB.2.2.2.2.1 _ hi) (hB.2.2.2.2.1 _ hini) hB.2.2.2.2.2.1 hV.1 hV.2.1 hV.2.2 hB.2.2.2.2.2.2.1 hc hfs hcells hslots hdg (fun q H1 h1 h2 h3 => kk q H1 ⟨h1, h2, h3⟩)
theorem x_oinit (hB : Bx p s m meth c args cc nL own D cI cZ cS A N0) {idx : Nat} (hl : Cond.methodLink own idx Lib.objectInit ∈ tb) (hi : Cond.instanceMethod Lib.objectInit ∈ tb) (hc : Cond.code Lib.objectInit ⟨#[0xb1]⟩ 1 none ∈ tb) (hsz : ls.size = nL) (hd : decode cc pc = .ok (.invokespecial idx, 3)) (hframes : 1 ≤ R.frames) (hlocals : (rest.map fun v => v.category).sum + 12 ≤ R.locals)
    (kk : W p l e R s m args below meth c H locs cells slots Q (F0 m (pc + 3) ls rest)) : W p l e R s m args below meth c H locs cells slots Q (F0 m pc ls (.ref a :: rest)) :=
  W.objInit hB.1 hB.2.1 hB.2.2.2.1 (hB.2.2.2.2.1 _ hl) (hB.2.2.2.2.1 _ hi) (hB.2.2.2.2.1 _ hc) rfl (by rw [hB.2.2.1]; exact hsz) rfl hd hframes (by show 2 * 0 + _ + 12 ≤ _; omega) kk
/-- the cells of places isC go into the call; what comes back stands behind the rest -/
theorem x_back {y : MethodName} {b : ByteArray} {n' : Nat} {r : Option FieldType} {mc ms : Nat} {st0 : List Value} {wc wr : va_W} {post : Option Value → va_W → Prop} {av : Array Value} (hB : Bx p s m meth c args cc nL own D cI cZ cS A N0) (hV : Vx D A s.heap H locs ws) (isC isR : List Nat) (hC : isC.map (fun i => ws[i]?) = wc.map some) (hR : isR.map (fun i => ws[i]?) = wr.map some) (hnd : va_nd isR = true) (hdis : ∀ i ∈ isR, i ∉ isC)
    (hr : va_Run p l e R s m args below meth c H locs cells slots mc ms (F0 m pc ls st0) rest (xQ D wc H.size post av) (va_A wc H.size))
    (kk : ∀ (v : Option Value) (w : va_W) (H1 : Heap) (locs1 : List Loc), post v w → Vx D A s.heap H1 locs1 (wr ++ w) → W p l e R s m args below meth c H1 locs1 (cells + mc) (slots + ms) Q (F0 m (pc + 3) ls (v.toList ++ rest))) : W p l e R s m args below meth c H locs cells slots Q (F0 m pc ls st0) := by
  have hFc := va_free (wc := wc) hV.2.1 hV.2.2 hB.2.2.2.2.2.2.1 isC hC
  intro T hT X
  obtain ⟨v, st₀, t, T', L, h0, X', hL, e1, e2, ⟨⟨v', w, hv, hp, hP1, hD1⟩, hz, hk⟩, st⟩ := hr T hT X
  cases hv
  rw [h0] at hz hk
  have hk' : ∀ q : Nat, q < H.size → ¬ va_A wc H.size q → t.heap[q]? = H[q]? := hk
  obtain ⟨hP, hD⟩ := va_join (w1 := w) hV.1 hV.2.1 isC isR hC hR hnd hdis hk' hFc hP1 hD1
  obtain ⟨t2, a1, b1⟩ := kk v w t.heap (locs ++ L) hp ⟨hP, hD, Nat.le_trans hV.2.2.1 hz, fun q h1 h2 => (hk' q (Nat.lt_of_lt_of_le h1 hV.2.2.1) (fun z => h2 (hFc q z))).trans (hV.2.2.2.1 q h1 h2), fun q hq => by
    rcases List.mem_append.mp hq with h | h
    · exact hV.2.2.2.2 q h
    · exact hFc _ (hL q h)⟩ T' e1 X'
  exact ⟨t2, st t2 a1, b1⟩
theorem x_pre {av : List Value} {wc : va_W} (hB : Bx p s m meth c args cc nL own D cI cZ cS A N0) (hV : Vx D A s.heap H locs ws) (hN : N0.1 ≤ s.heap.size) (isC : List Nat) (hC : isC.map (fun i => ws[i]?) = wc.map some) (hC2 : isC.filterMap (fun i => ws[i]?) = wc) (hndC : va_nd isC = true) : PreS s H (xP D cI cZ cS N0 av wc H.size) av :=
  ⟨fun a U g mk q => by
    obtain ⟨q0, q1, q2, q3, q4, q5, q6⟩ := q
    exact ⟨q0, q1, q2, q3, va_K.moved (u := U) (U := U.calling g mk a) (Vm.Alike.refl U.vm) q4, q5, q6.calling⟩,
   fun U hU hW => ⟨rfl, by rw [hU], Nat.le_trans hN hV.2.2.1, by rw [hU]; exact hV.1.sub isC hC2, va_K.moved hW.alike hB.2.2.2.2.2.1, (hV.2.1.sub isC hndC hC).weaken (fun _ _ _ h => hB.2.2.2.2.2.2.2.1 _ h), hB.2.2.2.2.2.2.2.2.1.go hV.2.2 hB.2.2.2.2.2.2.2.1 hU hW⟩⟩
end XS
end
section
section XC
variable {p : Program} {l : Launch} {e : Env} {R : Room} {s : State} {m : MethodId} {args : Array Value} {below : List Frame} {meth : Method} {c : Code} {H : Heap} {locs : List Loc} {cells slots : Nat} {Q : State → Prop}
variable {cc : ByteArray} {pc nL : Nat} {ls : Array Slot} {rest : List Value} {own : String} {D : va_G} {cI cZ cS : ClassId} {A : Nat → Prop} {N0 : NT} {a : Nat} {ws : va_W}
theorem x_pay {y : MethodName} {b : ByteArray} {n' : Nat} {r : Option FieldType} (hB : Bx p s m meth c args cc nL own D cI cZ cS A N0) (hc : Cond.code y b n' r ∈ tb) : ∀ w ∈ Cond.code y b n' r :: tb, ∀ (a' : Array Value) (U : State), s.WarmedH U.vm → w.before a' U = true := pay_in hB.2.2.2.2.1 (gd0 hc)
theorem x_cb {y : MethodName} {b : ByteArray} {n' d mc ms n index : Nat} {r : Option FieldType} (hB : Bx p s m meth c args cc nL own D cI cZ cS A N0) (hc : Cond.code y b n' r ∈ tb) (hini : Cond.initialized y.cls ∈ tb) (hl : Cond.methodLink own index y ∈ tb) (hd : y.cls ≠ "java/lang/invoke/MethodHandle" ∧ y.cls ≠ "java/lang/invoke/VarHandle" ∧ (parseMethodDescriptor y.desc).map (fun d => d.parameters.length) = some n) (hR : d + 1 + 1 ≤ R.frames ∧ 8 + (n' + 11) + 64 * (d + 1) ≤ R.locals) : CallB R s args own index y b n' r (Cond.code y b n' r :: tb) (rmx d mc ms) mc ms n :=
  callB_of n hB.2.2.2.2.1 (gd0 hc) rfl rfl rfl (hB.2.2.2.2.1 _ hini) (hB.2.2.2.2.1 _ hl) hd hR
theorem x_cn {y : MethodName} {b : ByteArray} {n' d mc ms n index : Nat} {r : Option FieldType} {host : String} (hB : Bx p s m meth c args cc nL own D cI cZ cS A N0) (hc : Cond.code y b n' r ∈ tb) (hini : Cond.initialized y.cls ∈ tb) (hl : va_Nw (.methodLinkNest own index y host) s) (hd : y.cls ≠ "java/lang/invoke/MethodHandle" ∧ y.cls ≠ "java/lang/invoke/VarHandle" ∧ (parseMethodDescriptor y.desc).map (fun d => d.parameters.length) = some n) (hR : d + 1 + 1 ≤ R.frames ∧ 8 + (n' + 11) + 64 * (d + 1) ≤ R.locals) : va_CN R s args own index y host b n' r (Cond.code y b n' r :: tb) (rmx d mc ms) mc ms n :=
  va_cnB n hB.2.2.2.2.1 (gd0 hc) rfl rfl rfl hl (hB.2.2.2.2.1 _ hini) hd hR
/-- a virtual call of a method of our own -/
theorem x_callV {y : MethodName} {b : ByteArray} {n' d mc ms n index ci q0 : Nat} {r : Option FieldType} {As : List Value} {wc wr : va_W} {post : Option Value → va_W → Prop} {fs : List Value} {C : String} {T : u_T} {N : Nat} (hB : Bx p s m meth c args cc nL own D cI cZ cS A N0) (hV : Vx D A s.heap H locs ws) (hN : N0.1 ≤ s.heap.size) (hsz : ls.size = nL)
    (hM : Mx l D cI cZ cS N0 y b n' r d mc ms (.ref a :: As) wc post) (he : ws[q0]? = some (a, .inr (ci, fs))) (hcl : vwCl[ci]? = some (C, T, N)) (hc : Cond.code y b n' r ∈ tb) (hini : Cond.initialized y.cls ∈ tb) (hl : Cond.methodLink own index y ∈ tb) (hi : Cond.instanceMethod y ∈ tb) (hsel : Cond.selects C y y ∈ tb) (hd : y.cls ≠ "java/lang/invoke/MethodHandle" ∧ y.cls ≠ "java/lang/invoke/VarHandle" ∧ (parseMethodDescriptor y.desc).map (fun d => d.parameters.length) = some n) (hR : d + 1 + 1 ≤ R.frames ∧ 8 + (n' + 11) + 64 * (d + 1) ≤ R.locals) (hn : As.length = n) (hW : (rest.map fun v => v.category).sum ≤ 8) (hf : cells + mc ≤ R.cells ∧ slots + ms ≤ R.slots)
    (isC isR : List Nat) (hC : isC.map (fun i => ws[i]?) = wc.map some) (hC2 : isC.filterMap (fun i => ws[i]?) = wc) (hR2 : isR.map (fun i => ws[i]?) = wr.map some) (hnd : va_nd isC = true ∧ va_nd isR = true ∧ ∀ i ∈ isR, i ∉ isC) (hdg : decode cc pc = .ok (.invokevirtual index, 3))
    (kk : ∀ (v : Option Value) (w : va_W) (H1 : Heap) (locs1 : List Loc), post v w → Vx D A s.heap H1 locs1 (wr ++ w) → W p l e R s m args below meth c H1 locs1 (cells + mc) (slots + ms) Q (F0 m (pc + 3) ls (v.toList ++ rest))) : W p l e R s m args below meth c H locs cells slots Q (F0 m pc ls (As.reverse ++ .ref a :: rest)) := by
  have hp := x_pre (av := .ref a :: As) hB hV hN isC hC hC2 hnd.1
  exact x_back (y := y) (b := b) (n' := n') (r := r) hB hV isC isR hC hR2 hnd.2.1 hnd.2.2 (va_runV (As := As) (rest := rest) (nL := nL) ⟨hB.1, hB.2.1, hB.2.2.1, hB.2.2.2.1, hB.2.2.2.2.1⟩ (hM H.size) ⟨x_cb hB hc hini hl hd hR, hB.2.2.2.2.1 _ hi, hB.2.2.2.2.1 _ hsel⟩ ⟨hp.1, va_recv hB.2.2.2.2.2.1 hV.1 (ci := ci) (q0 := q0) hcl he, hp.2⟩ rfl hn hsz rfl (lv_room hW) hdg hf) kk
theorem x_callS {y : MethodName} {b : ByteArray} {n' d mc ms n index : Nat} {r : Option FieldType} {As : List Value} {wc wr : va_W} {post : Option Value → va_W → Prop} (hB : Bx p s m meth c args cc nL own D cI cZ cS A N0) (hV : Vx D A s.heap H locs ws) (hN : N0.1 ≤ s.heap.size) (hsz : ls.size = nL)
    (hM : Mx l D cI cZ cS N0 y b n' r d mc ms As wc post) (hc : Cond.code y b n' r ∈ tb) (hini : Cond.initialized y.cls ∈ tb) (hl : Cond.methodLink own index y ∈ tb) (hst : Cond.static y ∈ tb) (hd : y.cls ≠ "java/lang/invoke/MethodHandle" ∧ y.cls ≠ "java/lang/invoke/VarHandle" ∧ (parseMethodDescriptor y.desc).map (fun d => d.parameters.length) = some n) (hR : d + 1 + 1 ≤ R.frames ∧ 8 + (n' + 11) + 64 * (d + 1) ≤ R.locals) (hn : As.length = n) (hW : (rest.map fun v => v.category).sum ≤ 8) (hf : cells + mc ≤ R.cells ∧ slots + ms ≤ R.slots)
    (isC isR : List Nat) (hC : isC.map (fun i => ws[i]?) = wc.map some) (hC2 : isC.filterMap (fun i => ws[i]?) = wc) (hR2 : isR.map (fun i => ws[i]?) = wr.map some) (hnd : va_nd isC = true ∧ va_nd isR = true ∧ ∀ i ∈ isR, i ∉ isC) (hdg : decode cc pc = .ok (.invokestatic index, 3))
    (kk : ∀ (v : Option Value) (w : va_W) (H1 : Heap) (locs1 : List Loc), post v w → Vx D A s.heap H1 locs1 (wr ++ w) → W p l e R s m args below meth c H1 locs1 (cells + mc) (slots + ms) Q (F0 m (pc + 3) ls (v.toList ++ rest))) : W p l e R s m args below meth c H locs cells slots Q (F0 m pc ls (As.reverse ++ rest)) :=
  x_back (y := y) (b := b) (n' := n') (r := r) hB hV isC isR hC hR2 hnd.2.1 hnd.2.2 (va_runS (As := As) (rest := rest) (nL := nL) ⟨hB.1, hB.2.1, hB.2.2.1, hB.2.2.2.1, hB.2.2.2.2.1⟩ (hM H.size) ⟨x_cb hB hc hini hl hd hR, hB.2.2.2.2.1 _ hst⟩ (x_pre hB hV hN isC hC hC2 hnd.1) rfl hn hsz rfl (lv_room hW) hdg hf) kk
theorem x_callI {y : MethodName} {b : ByteArray} {n' d mc ms n index : Nat} {As : List Value} {wc wr : va_W} {post : Option Value → va_W → Prop} (hB : Bx p s m meth c args cc nL own D cI cZ cS A N0) (hV : Vx D A s.heap H locs ws) (hN : N0.1 ≤ s.heap.size) (hsz : ls.size = nL)
    (hM : Mx l D cI cZ cS N0 y b n' none d mc ms (.ref a :: As) wc post) (hc : Cond.code y b n' none ∈ tb) (hini : Cond.initialized y.cls ∈ tb) (hl : Cond.methodLink own index y ∈ tb) (hi : Cond.instanceMethod y ∈ tb) (hy : y.name = "<init>") (hd : y.cls ≠ "java/lang/invoke/MethodHandle" ∧ y.cls ≠ "java/lang/invoke/VarHandle" ∧ (parseMethodDescriptor y.desc).map (fun d => d.parameters.length) = some n) (hR : d + 1 + 1 ≤ R.frames ∧ 8 + (n' + 11) + 64 * (d + 1) ≤ R.locals) (hn : As.length = n) (hW : (rest.map fun v => v.category).sum ≤ 8) (hf : cells + mc ≤ R.cells ∧ slots + ms ≤ R.slots)
    (isC isR : List Nat) (hC : isC.map (fun i => ws[i]?) = wc.map some) (hC2 : isC.filterMap (fun i => ws[i]?) = wc) (hR2 : isR.map (fun i => ws[i]?) = wr.map some) (hnd : va_nd isC = true ∧ va_nd isR = true ∧ ∀ i ∈ isR, i ∉ isC) (hdg : decode cc pc = .ok (.invokespecial index, 3))
    (kk : ∀ (v : Option Value) (w : va_W) (H1 : Heap) (locs1 : List Loc), post v w → Vx D A s.heap H1 locs1 (wr ++ w) → W p l e R s m args below meth c H1 locs1 (cells + mc) (slots + ms) Q (F0 m (pc + 3) ls (v.toList ++ rest))) : W p l e R s m args below meth c H locs cells slots Q (F0 m pc ls (As.reverse ++ .ref a :: rest)) :=
  x_back (y := y) (b := b) (n' := n') (r := none) hB hV isC isR hC hR2 hnd.2.1 hnd.2.2 (va_runI (As := As) (rest := rest) (nL := nL) ⟨hB.1, hB.2.1, hB.2.2.1, hB.2.2.2.1, hB.2.2.2.2.1⟩ (hM H.size) ⟨x_cb hB hc hini hl hd hR, hy, hB.2.2.2.2.1 _ hi⟩ (x_pre hB hV hN isC hC hC2 hnd.1) rfl hn hsz rfl (lv_room hW) hdg hf) kk
theorem x_callIN {y : MethodName} {b : ByteArray} {n' d mc ms n index : Nat} {host : String} {As : List Value} {wc wr : va_W} {post : Option Value → va_W → Prop} (hB : Bx p s m meth c args cc nL own D cI cZ cS A N0) (hV : Vx D A s.heap H locs ws) (hN : N0.1 ≤ s.heap.size) (hsz : ls.size = nL)
    (hM : Mx l D cI cZ cS N0 y b n' none d mc ms (.ref a :: As) wc post) (hc : Cond.code y b n' none ∈ tb) (hini : Cond.initialized y.cls ∈ tb) (hl : va_Nw (.methodLinkNest own index y host) s) (hi : Cond.instanceMethod y ∈ tb) (hy : y.name = "<init>") (hd : y.cls ≠ "java/lang/invoke/MethodHandle" ∧ y.cls ≠ "java/lang/invoke/VarHandle" ∧ (parseMethodDescriptor y.desc).map (fun d => d.parameters.length) = some n) (hR : d + 1 + 1 ≤ R.frames ∧ 8 + (n' + 11) + 64 * (d + 1) ≤ R.locals) (hn : As.length = n) (hW : (rest.map fun v => v.category).sum ≤ 8) (hf : cells + mc ≤ R.cells ∧ slots + ms ≤ R.slots)
    (isC isR : List Nat) (hC : isC.map (fun i => ws[i]?) = wc.map some) (hC2 : isC.filterMap (fun i => ws[i]?) = wc) (hR2 : isR.map (fun i => ws[i]?) = wr.map some) (hnd : va_nd isC = true ∧ va_nd isR = true ∧ ∀ i ∈ isR, i ∉ isC) (hdg : decode cc pc = .ok (.invokespecial index, 3))
    (kk : ∀ (v : Option Value) (w : va_W) (H1 : Heap) (locs1 : List Loc), post v w → Vx D A s.heap H1 locs1 (wr ++ w) → W p l e R s m args below meth c H1 locs1 (cells + mc) (slots + ms) Q (F0 m (pc + 3) ls (v.toList ++ rest))) : W p l e R s m args below meth c H locs cells slots Q (F0 m pc ls (As.reverse ++ .ref a :: rest)) :=
  x_back (y := y) (b := b) (n' := n') (r := none) hB hV isC isR hC hR2 hnd.2.1 hnd.2.2 (va_runIN (As := As) (rest := rest) (nL := nL) ⟨hB.1, hB.2.1, hB.2.2.1, hB.2.2.2.1, hB.2.2.2.2.1⟩ (hM H.size) ⟨x_cn hB hc hini hl hd hR, hy, hB.2.2.2.2.1 _ hi⟩ (x_pre hB hV hN isC hC hC2 hnd.1) rfl hn hsz rfl (lv_room hW) hdg hf) kk
/-- ends -/
theorem x_end {v : Option Value} {w0 w : va_W} {post : Option Value → va_W → Prop} (hV : Vx D A s.heap H locs ws) (hA : A = va_A w0 s.heap.size) (hp : post v w) (is : List Nat) (h1 : is.filterMap (fun i => ws[i]?) = w) (h2 : is.map (fun i => ws[i]?) = w.map some) (h3 : va_nd is = true) : ∀ t : State, t.heap = H → s.WarmedH t.vm → xQ D w0 s.heap.size post args s (.returned v) t := fun t ht _ => by
  subst hA
  exact ⟨⟨v, w, rfl, hp, by rw [ht]; exact hV.1.sub is h1, hV.2.1.sub is h3 h2⟩, hV.2.2.F ht⟩
theorem x_iret {v : Int32} {w0 w : va_W} {post : Option Value → va_W → Prop} {mc ms : Nat} (hB : Bx p s m meth c args cc nL own D cI cZ cS A N0) (hr : meth.sig.returnType = some .int) (hV : Vx D A s.heap H locs ws) (hA : A = va_A w0 s.heap.size) (h1 : cells ≤ mc) (h2 : slots ≤ ms) (is : List Nat) (h3 : is.filterMap (fun i => ws[i]?) = w) (h4 : is.map (fun i => ws[i]?) = w.map some) (h5 : va_nd is = true) (hdg : decode cc pc = .ok (.ireturn, 1)) (hp : post (some (.int v)) w) :
    W p l e R s m args below meth c H locs cells slots (MQ below (xQ D w0 s.heap.size post) args s mc ms A) (F0 m pc ls [.int v]) :=
  W.widen h1 h2 (W.iret hB.1 hB.2.1 hr (x_end hV hA hp is h3 h4 h5) hV.2.2.2.2 hdg hB.2.2.2.2.2.2.2.2.2)
theorem x_zret {v : Int32} {ty : FieldType} {w0 w : va_W} {post : Option Value → va_W → Prop} {mc ms : Nat} (hB : Bx p s m meth c args cc nL own D cI cZ cS A N0) (hr : meth.sig.returnType = some ty) (hn : narrow ty (.int v) = .int v) (hV : Vx D A s.heap H locs ws) (hA : A = va_A w0 s.heap.size) (h1 : cells ≤ mc) (h2 : slots ≤ ms) (is : List Nat) (h3 : is.filterMap (fun i => ws[i]?) = w) (h4 : is.map (fun i => ws[i]?) = w.map some) (h5 : va_nd is = true) (hdg : decode cc pc = .ok (.ireturn, 1)) (hp : post (some (.int v)) w) :
    W p l e R s m args below meth c H locs cells slots (MQ below (xQ D w0 s.heap.size post) args s mc ms A) (F0 m pc ls [.int v]) :=
  W.widen h1 h2 (W.zret hB.1 hB.2.1 hr hn (x_end hV hA hp is h3 h4 h5) hV.2.2.2.2 hdg hB.2.2.2.2.2.2.2.2.2)
theorem x_vret {w0 w : va_W} {post : Option Value → va_W → Prop} {mc ms : Nat} (hB : Bx p s m meth c args cc nL own D cI cZ cS A N0) (hr : meth.sig.returnType = none) (hV : Vx D A s.heap H locs ws) (hA : A = va_A w0 s.heap.size) (h1 : cells ≤ mc) (h2 : slots ≤ ms) (is : List Nat) (h3 : is.filterMap (fun i => ws[i]?) = w) (h4 : is.map (fun i => ws[i]?) = w.map some) (h5 : va_nd is = true) (hdg : decode cc pc = .ok (.return_, 1)) (hp : post none w) :
    W p l e R s m args below meth c H locs cells slots (MQ below (xQ D w0 s.heap.size post) args s mc ms A) (F0 m pc ls []) :=
  W.widen h1 h2 (W.vret hB.1 hB.2.1 hr (x_end hV hA hp is h3 h4 h5) hV.2.2.2.2 hdg hB.2.2.2.2.2.2.2.2.2)
theorem x_aret {v : Value} {rt : FieldType} {w0 w : va_W} {post : Option Value → va_W → Prop} {mc ms : Nat} (hB : Bx p s m meth c args cc nL own D cI cZ cS A N0) (hr : meth.sig.returnType = some rt) (hrt : (∃ n, rt = .object n) ∨ ∃ t, rt = .array t) (hv : v = .null ∨ ∃ a, v = .ref a) (hV : Vx D A s.heap H locs ws) (hA : A = va_A w0 s.heap.size) (h1 : cells ≤ mc) (h2 : slots ≤ ms) (is : List Nat) (h3 : is.filterMap (fun i => ws[i]?) = w) (h4 : is.map (fun i => ws[i]?) = w.map some) (h5 : va_nd is = true) (hdg : decode cc pc = .ok (.areturn, 1)) (hp : post (some v) w) :
    W p l e R s m args below meth c H locs cells slots (MQ below (xQ D w0 s.heap.size post) args s mc ms A) (F0 m pc ls [v]) :=
  W.widen h1 h2 (W.aret hB.1 hB.2.1 hr hrt hv (x_end hV hA hp is h3 h4 h5) hV.2.2.2.2 hdg hB.2.2.2.2.2.2.2.2.2)
theorem x_max {x y : Int32} {v : Int32} {index : Nat} (hB : Bx p s m meth c args cc nL own D cI cZ cS A N0) (hl : Cond.methodLink own index Lib.Math.max.name ∈ tb) (hst : Cond.static Lib.Math.max.name ∈ tb) (hini : Cond.initialized "java/lang/Math" ∈ tb) (hc : Cond.code Lib.Math.max.name Lib.Math.max.code 2 (some .int) ∈ tb) (hsz : ls.size = nL) (hfr : 1 ≤ R.frames) (hlo : (rest.map fun v => v.category).sum + 13 ≤ R.locals) (h1 : cells ≤ R.cells) (h2 : slots ≤ R.slots) (hv : (if x < y then y else x) = v) (hdg : decode cc pc = .ok (.invokestatic index, 3))
    (kk : W p l e R s m args below meth c H locs cells slots Q (F0 m (pc + 3) ls (.int v :: rest))) : W p l e R s m args below meth c H locs cells slots Q (F0 m pc ls (.int y :: .int x :: rest)) := by
  subst hv
  exact va_mmax hB.1 hB.2.1 (by rw [hB.2.2.1, hsz]) hB.2.2.2.1 (hB.2.2.2.2.1 _ hl) (hB.2.2.2.2.1 _ hst) (hB.2.2.2.2.1 _ hini) (hB.2.2.2.2.1 _ hc) hfr hlo h1 h2 hdg kk
theorem x_min {x y : Int32} {v : Int32} {index : Nat} (hB : Bx p s m meth c args cc nL own D cI cZ cS A N0) (hl : Cond.methodLink own index Lib.Math.min.name ∈ tb) (hst : Cond.static Lib.Math.min.name ∈ tb) (hini : Cond.initialized "java/lang/Math" ∈ tb) (hc : Cond.code Lib.Math.min.name Lib.Math.min.code 2 (some .int) ∈ tb) (hsz : ls.size = nL) (hfr : 1 ≤ R.frames) (hlo : (rest.map fun v => v.category).sum + 13 ≤ R.locals) (h1 : cells ≤ R.cells) (h2 : slots ≤ R.slots) (hv : (if y < x then y else x) = v) (hdg : decode cc pc = .ok (.invokestatic index, 3))
    (kk : W p l e R s m args below meth c H locs cells slots Q (F0 m (pc + 3) ls (.int v :: rest))) : W p l e R s m args below meth c H locs cells slots Q (F0 m pc ls (.int y :: .int x :: rest)) := by
  subst hv
  exact va_mmin hB.1 hB.2.1 (by rw [hB.2.2.1, hsz]) hB.2.2.2.1 (hB.2.2.2.2.1 _ hl) (hB.2.2.2.2.1 _ hst) (hB.2.2.2.2.1 _ hini) (hB.2.2.2.2.1 _ hc) hfr hlo h1 h2 hdg kk
end XC
end
section
/-! multianewarray of two dimensions: of the cells made nothing is kept but that they are new -/
def mn_oc (cA : ClassId) (N h : Nat) : Nat → Cell
  | 0 => { cls := cA, slots := Array.replicate N .null, vm := .none }
  | i + 1 => (mn_oc cA N h i).setSlot i (.ref (h + 1 + i))
def mn_ro (co : ClassId) (M : Nat) (dv : Value) : Cell := { cls := co, slots := Array.replicate M dv, vm := .none }
def mn_st (S : State) (cA co : ClassId) (N M : Nat) (dv : Value) : Nat → State
  | 0 => S.pushCell (mn_oc cA N S.heap.size 0)
  | i + 1 => ((mn_st S cA co N M dv i).pushCell (mn_ro co M dv)).setCell S.heap.size (mn_oc cA N S.heap.size (i + 1))
theorem mn_ocf (cA : ClassId) (N h : Nat) : ∀ i, (mn_oc cA N h i).cls = cA ∧ (mn_oc cA N h i).vm = .none ∧ (mn_oc cA N h i).slots.size = N
  | 0 => ⟨rfl, rfl, by simp [mn_oc]⟩
  | i + 1 => by
    obtain ⟨x, y, z⟩ := mn_ocf cA N h i
    exact ⟨by simp [mn_oc, Cell.setSlot, x], by simp [mn_oc, Cell.setSlot, y], by simp [mn_oc, Cell.setSlot, z]⟩
theorem mn_sf (S : State) (cA co : ClassId) (N M : Nat) (dv : Value) : ∀ i, (mn_st S cA co N M dv i).heap.size = S.heap.size + 1 + i ∧ (mn_st S cA co N M dv i).heap[S.heap.size]? = some (mn_oc cA N S.heap.size i) ∧ (mn_st S cA co N M dv i).vm = S.vm ∧ (mn_st S cA co N M dv i).slotsUsed = S.slotsUsed + N + i * M ∧ ∀ a : Nat, a < S.heap.size → (mn_st S cA co N M dv i).heap[a]? = S.heap[a]?
  | 0 => ⟨by simp [mn_st], by simp [mn_st], rfl, by simp [mn_st, mn_oc], fun a ha => State.heap_pushCell_of_lt _ _ ha⟩
  | i + 1 => by
    obtain ⟨f1, f2, f3, f4, f5⟩ := mn_sf S cA co N M dv i
    have hlt : S.heap.size < (mn_st S cA co N M dv i).heap.size := by omega
    have hc : ((mn_st S cA co N M dv i).pushCell (mn_ro co M dv)).heap[S.heap.size]? = some (mn_oc cA N S.heap.size i) := by rw [State.heap_pushCell_of_lt (h := hlt)]; exact f2
    refine ⟨?_, State.heap_setCell_self hc, by simp [mn_st, f3], ?_, fun a ha => ?_⟩
    · simp [mn_st, State.setCell, f1]; omega
    · simp [mn_st, f4, mn_ro, Nat.succ_mul]; omega
    · show (((mn_st S cA co N M dv i).pushCell (mn_ro co M dv)).setCell S.heap.size _).heap[a]? = _
      have hla : a < (mn_st S cA co N M dv i).heap.size := by omega
      rw [State.heap_setCell_other (Nat.ne_of_gt ha), State.heap_pushCell_of_lt (h := hla)]
      exact f5 a ha
theorem mn_top (S : State) (f : JFrame) (cA co : ClassId) (N M : Nat) (dv : Value) : ∀ i, mn_st (S.setTop f) cA co N M dv i = (mn_st S cA co N M dv i).setTop f
  | 0 => rfl
  | i + 1 => by simp only [mn_st, mn_top S f cA co N M dv i, State.heap_setTop, State.pushCell_setTop, State.setCell_setTop]
theorem mn_stand {p : Program} {l : Launch} {e : Env} {R : Room} {s : State} {m : MethodId} {args : Array Value} {below : List Frame} {meth : Method} {c : Code} {S : State} {locs : List Loc} {cells slots : Nat} (X : Stand p l e R s m args below meth c S locs cells slots) (cA co : ClassId) (N M : Nat) (dv : Value) : ∀ i, Stand p l e R s m args below meth c (mn_st S cA co N M dv i) (locs ++ (List.range i).map fun j => ⟨S.heap.size, j⟩) (cells + 1 + i) (slots + N + i * M)
  | 0 => by
    have h := X.pushed (mn_oc cA N S.heap.size 0)
    rw [(mn_ocf cA N S.heap.size 0).2.2] at h
    simpa [mn_st] using h
  | i + 1 => by
    have Y := mn_stand X cA co N M dv i
    obtain ⟨f1, f2, f3, f4, f5⟩ := mn_sf S cA co N M dv i
    have hlt : S.heap.size < (mn_st S cA co N M dv i).heap.size := by omega
    have hc : ((mn_st S cA co N M dv i).pushCell (mn_ro co M dv)).heap[S.heap.size]? = some (mn_oc cA N S.heap.size i) := by rw [State.heap_pushCell_of_lt (h := hlt)]; exact f2
    have h := (Y.pushed (mn_ro co M dv)).stored hc i (.ref (S.heap.size + 1 + i))
    have e1 : (mn_ro co M dv).slots.size = M := by simp [mn_ro]
    rw [e1] at h
    have e2 : (locs ++ (List.range (i + 1)).map fun j => (⟨S.heap.size, j⟩ : Loc)) = (locs ++ (List.range i).map fun j => (⟨S.heap.size, j⟩ : Loc)) ++ [⟨S.heap.size, i⟩] := by simp [List.range_succ, List.append_assoc]
    have e3 : slots + N + (i + 1) * M = slots + N + i * M + M := by rw [Nat.succ_mul]; omega
    rw [e2, e3]
    exact h
section MN
variable {E : CtlPost} {e : Env} {d : Bool} {acts : List Action} {s : State}
theorem mn_new {c comp : ClassId} {k : Class} {type : FieldType} {len : Nat} {init : Value} {Q : Addr → Pre} (hk : s.vm.classes[c]? = some k) (hkind : k.kind = .array comp type) (hlimit : ¬ len > e.platform.arrayLengthLimit) (hheap : ¬ len * componentBytes type > e.platform.maxHeapBytes) (hfit : fits type init = true) (hdef : init.isDefault = true) (h1 : s.heap.size < e.platform.maxCells) (h2 : s.slotsUsed + len ≤ e.platform.maxSlots)
    (hq : Q s.heap.size d acts (s.pushCell { cls := c, slots := Array.replicate len init, vm := .none })) : wp (Jvm.newArray c len init) Q E e d acts s := by
  have hfits : ∀ i v, (Array.replicate len init)[i]? = some v → s.fitsSlot c .none i v = true := by
    intro i v hv
    rw [Array.getElem?_replicate] at hv
    split at hv
    · cases hv
      simp [State.fitsSlot, State.slotType?, hk, hkind, hfit]
    · cases hv
  have hda : allocActs (Array.replicate len init) s.heap.size acts = acts := by
    have hall : ((Array.replicate len init).all (·.isDefault)) = true := by
      rw [Array.all_replicate]
      split <;> simp [hdef]
    unfold allocActs
    rw [if_pos hall]
  simp only [Jvm.newArray, Jvm.arrayFits, wp_bind', W.ask, W.ite, hlimit, if_false, wp_pure', W.theClass, hk, hkind, hheap, W.alloc, W.stop, Option.some.injEq, exists_eq_left', Array.size_replicate, hda]
  rw [if_neg (by omega)]
  exact ⟨h1, h2, hfits, hq⟩
end MN
section MN2
variable {p : Program} {l : Launch} {e : Env} {R : Room} {s : State} {m : MethodId} {args : Array Value} {below : List Frame} {meth : Method} {c : Code} {H : Heap} {locs : List Loc} {cells slots : Nat} {Q : State → Prop}
variable {cc : ByteArray} {pc nL : Nat} {ls : Array Slot} {rest : List Value} {own : String} {D : va_G} {cI cZ cS : ClassId} {A : Nat → Prop} {N0 : NT} {a : Nat} {ws : va_W}
set_option maxHeartbeats 4000000 in
theorem mn_step (hexec : p.tables.exec = Jvm.exec) (hb : c.code = cc) {index : Nat} {ty : FieldType} (hown : s.vm.findClass own = some m.cls) (hclink : (Cond.classLink own index ("[" ++ (FieldType.array ty).toString)).before args s = true) (hover : (Cond.arrayOver (.array ty)).before #[] s = true) (harr : (Cond.arrayClass ty).before args s = true)
    {n k : Int32} (hn : ¬ n < 0) (hk : ¬ k < 0) (hb1 : n.toNatClampNeg * 4 ≤ 536870912) (hb2 : k.toNatClampNeg * componentBytes ty ≤ 536870912) (hb3 : k.toNatClampNeg ≤ 536870912) (hdf : fits ty (defaultValue ty) = true) (hdd : (defaultValue ty).isDefault = true)
    (hcells : cells + (1 + n.toNatClampNeg) ≤ R.cells) (hslots : slots + (n.toNatClampNeg + n.toNatClampNeg * k.toNatClampNeg) ≤ R.slots) (hdg : decode cc pc = .ok (.multianewarray index 2, 4))
    (kk : ∀ H1 : Heap, H.size ≤ H1.size → (∀ q : Nat, q < H.size → H1[q]? = H[q]?) → W p l e R s m args below meth c H1 (locs ++ (List.range n.toNatClampNeg).map fun j => ⟨H.size, j⟩) (cells + 1 + n.toNatClampNeg) (slots + n.toNatClampNeg + n.toNatClampNeg * k.toNatClampNeg) Q (F0 m (pc + 4) ls (.ref H.size :: rest))) :
    W p l e R s m args below meth c H locs cells slots Q (F0 m pc ls (.int k :: .int n :: rest)) := by
  intro T hT X
  subst hT; subst hb
  have hpl : e.platform.magicAccessors = ({} : Platform).magicAccessors := by rw [X.admits.platform]
  obtain ⟨comp, cA, kA, hcomp, -, hkA, hkindA, hnameA⟩ := arrayOverA_spec hover
  obtain ⟨comp', kC, co, hcomp', hkC, hkindC⟩ := Cond.arrayClass_spec harr
  have ecomp : comp' = comp := Option.some.inj (hcomp'.symm.trans hcomp)
  subst ecomp
  obtain ⟨c0, hfc0, hcl⟩ := Cond.classLink_spec hown hclink e.platform hpl
  cases hnameA.symm.trans hfc0
  obtain ⟨hg₁, hwarm₁, hready₁⟩ := State.classEntry (e := e) X.warmed hcl
  generalize T.vm.noted m.cls index (.cls cA) = vm₁ at hg₁ hwarm₁ hready₁
  have hal : s.vm.Alike vm₁ := hwarm₁.alike
  obtain ⟨kA₁, hkA₁, heA⟩ := hal.2.2 _ _ hkA
  obtain ⟨kC₁, hkC₁, heC⟩ := hal.2.2 _ _ hkC
  have hkindA₁ : kA₁.kind = .array comp' (.array ty) := by rw [heA]; exact hkindA
  have hkindC₁ : kC₁.kind = .array co ty := by rw [heC]; exact hkindC
  have X₁ := X.noted hwarm₁
  obtain ⟨hr1, hr2⟩ := X.roomAbove hcells hslots
  have hl1 : ¬ n.toNatClampNeg > e.platform.arrayLengthLimit := by rw [Launch.admits_arrayLengthLimit X.admits]; omega
  have hh1 : ¬ n.toNatClampNeg * componentBytes (.array ty) > e.platform.maxHeapBytes := by
    rw [Launch.admits_maxHeapBytes X.admits]; show ¬ n.toNatClampNeg * 4 > 536870912; omega
  have hl2 : ¬ k.toNatClampNeg > e.platform.arrayLengthLimit := by rw [Launch.admits_arrayLengthLimit X.admits]; omega
  have hh2 : ¬ k.toNatClampNeg * componentBytes ty > e.platform.maxHeapBytes := by rw [Launch.admits_maxHeapBytes X.admits]; omega
  have XF := mn_stand X₁ cA comp' n.toNatClampNeg k.toNatClampNeg (defaultValue ty) n.toNatClampNeg
  obtain ⟨g1, g2, g3, g4, g5⟩ := mn_sf (T.setVm vm₁) cA comp' n.toNatClampNeg k.toNatClampNeg (defaultValue ty) n.toNatClampNeg
  obtain ⟨t, a1, b1⟩ := kk (mn_st (T.setVm vm₁) cA comp' n.toNatClampNeg k.toNatClampNeg (defaultValue ty) n.toNatClampNeg).heap (by rw [g1]; show T.heap.size ≤ T.heap.size + 1 + _; omega) g5 _ rfl XF
  refine ⟨t, ?_, b1⟩
  have href : ∀ v : Value, v = .null ∨ (∃ a, v = .ref a) → fits (.array ty) v = true := fun v hv => by rcases hv with rfl | ⟨a, rfl⟩ <;> rfl
  have hfind : ([k].find? (· < 0)) = none := by simp [hk]
  jvm_step X.here [hexec, hdg]
  simp only [multianewarray.sem, wp_bind', W.resolveClassAt_links (State.method?_setTop (F0 m pc ls (.int k :: .int n :: rest)) X.here.top) hg₁]
  rw [W.popN, if_neg (by decide)]
  refine ⟨F0 m pc ls (.int k :: .int n :: rest), State.topJava?_setTop' (s := T.setVm vm₁) _ X.here.top, [.int n, .int k], rest, rfl, rfl, ?_⟩
  simp only [List.mapM_cons, List.mapM_nil, wp_bind', wp_pure']
  have eS : ((T.setTop (F0 m pc ls (.int k :: .int n :: rest))).setVm vm₁).setTop { F0 m pc ls (.int k :: .int n :: rest) with stack := rest } = (T.setVm vm₁).setTop (F0 m pc ls rest) := by
    show ((T.setVm vm₁).setTop _).setTop _ = _
    rw [State.setTop_setTop]
  rw [eS, multianewarray.make]
  simp only [wp_bind', W.ite, hn, if_false, wp_pure', W.theClass, State.vm_setTop, State.vm_setVm, hkA₁, hkindA₁, Option.some.injEq, exists_eq_left']
  refine mn_new (s := (T.setVm vm₁).setTop (F0 m pc ls rest)) (k := kA₁) (comp := comp') (type := .array ty) hkA₁ hkindA₁ hl1 hh1 (href _ (Or.inl rfl)) rfl (by show T.heap.size < _; omega) (by show T.slotsUsed + _ ≤ _; have := Nat.zero_le (n.toNatClampNeg * k.toNatClampNeg); omega) ?_
  simp only [hfind]
  rw [ite_self, wp_bind', Std.Legacy.Range.forIn_eq_forIn_range']
  have hsz : ([:n.toNatClampNeg] : Std.Legacy.Range).size = n.toNatClampNeg := by simp [Std.Legacy.Range.size]
  rw [hsz]
  show wp (forIn (List.range' 0 n.toNatClampNeg 1) PUnit.unit _) _ _ e _ _ _
  refine wp_forIn_inv (fun rst S' => ∃ i, i ≤ n.toNatClampNeg ∧ rst = List.range' i (n.toNatClampNeg - i) ∧ S' = (mn_st (T.setVm vm₁) cA comp' n.toNatClampNeg k.toNatClampNeg (defaultValue ty) i).setTop (F0 m pc ls rest)) _ _ ⟨0, Nat.zero_le _, rfl, rfl⟩ ?_ ?_
  · rintro x rst S' d' acts' Q' ⟨i, hi, hl, rfl⟩ hnext
    have hlt : i < n.toNatClampNeg := by
      rcases Nat.lt_or_ge i n.toNatClampNeg with h | h
      · exact h
      · rw [show n.toNatClampNeg - i = 0 from by omega] at hl; simp at hl
    obtain ⟨rfl, hrst⟩ : x = i ∧ rst = List.range' (i + 1) (n.toNatClampNeg - (i + 1)) := by
      rw [show n.toNatClampNeg - i = (n.toNatClampNeg - (i + 1)) + 1 from by omega, List.range'_succ] at hl
      exact ⟨(List.cons.inj hl).1, (List.cons.inj hl).2⟩
    obtain ⟨f1, f2, f3, f4, f5⟩ := mn_sf (T.setVm vm₁) cA comp' n.toNatClampNeg k.toNatClampNeg (defaultValue ty) x
    obtain ⟨o1, o2, o3⟩ := mn_ocf cA n.toNatClampNeg (T.setVm vm₁).heap.size x
    have hmul : x * k.toNatClampNeg + k.toNatClampNeg ≤ n.toNatClampNeg * k.toNatClampNeg := by
      have := Nat.mul_le_mul_right k.toNatClampNeg (show x + 1 ≤ n.toNatClampNeg from hlt)
      rw [Nat.succ_mul] at this; exact this
    have f1' : (mn_st (T.setVm vm₁) cA comp' n.toNatClampNeg k.toNatClampNeg (defaultValue ty) x).heap.size = T.heap.size + 1 + x := f1
    have f4' : (mn_st (T.setVm vm₁) cA comp' n.toNatClampNeg k.toNatClampNeg (defaultValue ty) x).slotsUsed = T.slotsUsed + n.toNatClampNeg + x * k.toNatClampNeg := f4
    have hlt0 : (T.setVm vm₁).heap.size < (mn_st (T.setVm vm₁) cA comp' n.toNatClampNeg k.toNatClampNeg (defaultValue ty) x).heap.size := by rw [f1]; omega
    simp only [wp_bind']
    rw [multianewarray.make]
    simp only [wp_bind', W.ite, hk, if_false, wp_pure', W.theClass, State.vm_setTop, f3, State.vm_setVm, hkC₁, hkindC₁, Option.some.injEq, exists_eq_left']
    refine mn_new (k := kC₁) (comp := co) (type := ty) (by show (mn_st _ _ _ _ _ _ _).vm.classes[_]? = _; rw [f3]; exact hkC₁) hkindC₁ hl2 hh2 hdf hdd (by show (mn_st _ _ _ _ _ _ _).heap.size < _; omega) (by show (mn_st _ _ _ _ _ _ _).slotsUsed + _ ≤ _; omega) ?_
    simp only [wp_bind', W.writeLoc, wp_pure']
    refine ⟨mn_oc cA n.toNatClampNeg (T.setVm vm₁).heap.size x, ?_, by rw [o2]; simp, by rw [o3]; exact hlt, ?_, hnext _ _ _ ⟨x + 1, hlt, hrst, ?_⟩⟩
    · show ((mn_st (T.setVm vm₁) cA comp' n.toNatClampNeg k.toNatClampNeg (defaultValue ty) x).pushCell _).heap[(T.setVm vm₁).heap.size]? = _
      rw [State.heap_pushCell_of_lt (h := hlt0)]
      exact f2
    · rw [o1, o2]
      simp [State.fitsSlot, State.slotType?, f3, hkA₁, hkindA₁, href _ (Or.inr ⟨_, rfl⟩)]
    · simp only [State.pushCell_setTop, State.setCell_setTop, State.heap_setTop]
      rw [f1]
      rfl
  · rintro S' d' acts' ⟨i, hi, hl, rfl⟩
    have hiN : i = n.toNatClampNeg := by
      rcases Nat.lt_or_ge i n.toNatClampNeg with h | h
      · rw [show n.toNatClampNeg - i = (n.toNatClampNeg - (i + 1)) + 1 from by omega, List.range'_succ] at hl; cases hl
      · omega
    subst hiN
    simp only [wp_pure', wp_bind', W.mark, W.pushRef, State.topJava?_setTop' _ XF.here.top, Option.some.injEq, exists_eq_left', State.setTop_setTop, State.heap_setTop]
    intro acts
    simp [jvm, XF.here.top]
    exact a1
theorem x_mna (hB : Bx p s m meth c args cc nL own D cI cZ cS A N0) (hV : Vx D A s.heap H locs ws) {index : Nat} (hcl : Cond.classLink own index "[[I" ∈ tb) (harr : Cond.arrayClass .int ∈ tb) {n k : Int32} {N' K' : Nat} (hn : ¬ n < 0) (hk : ¬ k < 0) (hN : n.toNatClampNeg = N') (hM : k.toNatClampNeg = K') (hb1 : N' * 4 ≤ 536870912) (hb2 : K' * 4 ≤ 536870912) (hcells : cells + (1 + N') ≤ R.cells) (hslots : slots + (N' + N' * K') ≤ R.slots) (hdg : decode cc pc = .ok (.multianewarray index 2, 4))
    (kk : ∀ (q : Nat) (H1 : Heap) (locs1 : List Loc), Vx D A s.heap H1 locs1 ws → W p l e R s m args below meth c H1 locs1 (cells + 1 + N') (slots + N' + N' * K') Q (F0 m (pc + 4) ls (.ref q :: rest))) : W p l e R s m args below meth c H locs cells slots Q (F0 m pc ls (.int k :: .int n :: rest)) := by
  subst hN
  subst hM
  refine mn_step (ty := .int) hB.1 hB.2.1 hB.2.2.2.1 (hB.2.2.2.2.1 _ hcl) hB.2.2.2.2.2.2.2.2.1.2.2.2.2.2.2.1 (hB.2.2.2.2.1 _ harr) hn hk hb1 hb2 (by omega) rfl rfl hcells hslots hdg (fun H1 hz ho => ?_)
  refine kk H.size H1 _ ⟨hV.1.kept (fun k x hx => ho x.1 ((hV.1 k x hx).lt)), hV.2.1, Nat.le_trans hV.2.2.1 hz, fun q h1 h2 => (ho q (Nat.lt_of_lt_of_le h1 hV.2.2.1)).trans (hV.2.2.2.1 q h1 h2), fun q hq => ?_⟩
  rcases List.mem_append.mp hq with h | h
  · exact hV.2.2.2.2 q h
  · obtain ⟨j, -, rfl⟩ := List.mem_map.mp h
    exact hB.2.2.2.2.2.2.1 _ hV.2.2.1
theorem x_N (hB : Bx p s m meth c args cc nL own D cI cZ cS A N0) : N0.1 ≤ s.heap.size := hB.2.2.2.2.2.2.2.1 _ (hB.2.2.2.2.2.2.1 _ (Nat.le_refl _))
end MN2
end
section
theorem fs_lt {fs : List Value} {k : Nat} {v : Value} (h : fs[k]? = some v) : k < fs.length := (List.getElem?_eq_some_iff.mp h).1
theorem fs_ls {fs : List Value} {k j : Nat} {v : Value} (h : k < fs.length) : k < (fs.set j v).length := by rw [List.length_set]; exact h
theorem fs_eq {fs : List Value} {k : Nat} {v : Value} (h : k < fs.length) : (fs.set k v)[k]? = some v := by rw [List.getElem?_set_self h]
theorem fs_ne {fs : List Value} {k j : Nat} {v w : Value} (h : fs[j]? = some w) (n : k ≠ j) : (fs.set k v)[j]? = some w := by rw [List.getElem?_set_ne n]; exact h
theorem upd00 {k : Nat} : upd (fun _ => (0 : Int32)) k 0 = fun _ => 0 := by
  funext j
  simp [upd]
theorem updz0 {k : Nat} : upd (fun _ => (0 : Int32)) k (vp_nar .boolean 0) = fun _ => 0 := by
  funext j
  have h : vp_nar .boolean 0 = 0 := rfl
  rw [h]
  simp [upd]
theorem Vx_sub {D : va_G} {A : Nat → Prop} {H0 H : Heap} {locs : List Loc} {ws w : va_W} (hV : Vx D A H0 H locs ws) (is : List Nat) (h1 : is.filterMap (fun i => ws[i]?) = w) (h2 : is.map (fun i => ws[i]?) = w.map some) (h3 : va_nd is = true) : Vx D A H0 H locs w := ⟨hV.1.sub is h1, hV.2.1.sub is h3 h2, hV.2.2⟩
theorem fnew_0 : ∀ j, j < 4 → defaultValue (clty 0 j) = vp_V [.null, .null, .null, .int 0] j := by
  intro j hj
  match j, hj with
  | 0, _ => rfl
  | 1, _ => rfl
  | 2, _ => rfl
  | 3, _ => rfl
  | j + 4, hj => exact absurd hj (by omega)
theorem fnew_1 : ∀ j, j < 10 → defaultValue (clty 1 j) = vp_V [.null, .null, .null, .null, .null, .null, .int 0, .null, .null, .null] j := by
  intro j hj
  match j, hj with
  | 0, _ => rfl
  | 1, _ => rfl
  | 2, _ => rfl
  | 3, _ => rfl
  | 4, _ => rfl
  | 5, _ => rfl
  | 6, _ => rfl
  | 7, _ => rfl
  | 8, _ => rfl
  | 9, _ => rfl
  | j + 10, hj => exact absurd hj (by omega)
theorem fnew_2 : ∀ j, j < 4 → defaultValue (clty 2 j) = vp_V [.null, .null, .null, .int 0] j := by
  intro j hj
  match j, hj with
  | 0, _ => rfl
  | 1, _ => rfl
  | 2, _ => rfl
  | 3, _ => rfl
  | j + 4, hj => exact absurd hj (by omega)
theorem fnew_3 : ∀ j, j < 15 → defaultValue (clty 3 j) = vp_V [.null, .null, .int 0, .int 0, .int 0, .int 0, .null, .null, .null, .null, .int 0, .int 0, .null, .null, .int 0] j := by
  intro j hj
  match j, hj with
  | 0, _ => rfl
  | 1, _ => rfl
  | 2, _ => rfl
  | 3, _ => rfl
  | 4, _ => rfl
  | 5, _ => rfl
  | 6, _ => rfl
  | 7, _ => rfl
  | 8, _ => rfl
  | 9, _ => rfl
  | 10, _ => rfl
  | 11, _ => rfl
  | 12, _ => rfl
  | 13, _ => rfl
  | 14, _ => rfl
  | j + 15, hj => exact absurd hj (by omega)
theorem fnew_4 : ∀ j, j < 4 → defaultValue (clty 4 j) = vp_V [.null, .int 0, .int 0, .int 0] j := by
  intro j hj
  match j, hj with
  | 0, _ => rfl
  | 1, _ => rfl
  | 2, _ => rfl
  | 3, _ => rfl
  | j + 4, hj => exact absurd hj (by omega)
theorem fnew_5 : ∀ j, j < 8 → defaultValue (clty 5 j) = vp_V [.null, .int 0, .int 0, .null, .int 0, .int 0, .int 0, .int 0] j := by
  intro j hj
  match j, hj with
  | 0, _ => rfl
  | 1, _ => rfl
  | 2, _ => rfl
  | 3, _ => rfl
  | 4, _ => rfl
  | 5, _ => rfl
  | 6, _ => rfl
  | 7, _ => rfl
  | j + 8, hj => exact absurd hj (by omega)
theorem fnew_6 : ∀ j, j < 7 → defaultValue (clty 6 j) = vp_V [.null, .null, .null, .null, .null, .null, .int 0] j := by
  intro j hj
  match j, hj with
  | 0, _ => rfl
  | 1, _ => rfl
  | 2, _ => rfl
  | 3, _ => rfl
  | 4, _ => rfl
  | 5, _ => rfl
  | 6, _ => rfl
  | j + 7, hj => exact absurd hj (by omega)
theorem fnew_7 : ∀ j, j < 67 → defaultValue (clty 7 j) = vp_V [.int 0, .null, .null, .null, .null, .null, .null, .null, .null, .null, .null, .null, .null, .null, .null, .null, .null, .null, .null, .null, .null, .int 0, .int 0, .null, .int 0, .null, .null, .null, .null, .int 0, .int 0, .null, .null, .null, .int 0, .null, .int 0, .int 0, .int 0, .null, .null, .null, .null, .null, .null, .null, .null, .null, .null, .int 0, .int 0, .int 0, .int 0, .null, .null, .null, .null, .null, .null, .null, .int 0, .null, .null, .null, .null, .null, .null] j := by
  intro j hj
  match j, hj with
  | 0, _ => rfl
  | 1, _ => rfl
  | 2, _ => rfl
  | 3, _ => rfl
  | 4, _ => rfl
  | 5, _ => rfl
  | 6, _ => rfl
  | 7, _ => rfl
  | 8, _ => rfl
  | 9, _ => rfl
  | 10, _ => rfl
  | 11, _ => rfl
  | 12, _ => rfl
  | 13, _ => rfl
  | 14, _ => rfl
  | 15, _ => rfl
  | 16, _ => rfl
  | 17, _ => rfl
  | 18, _ => rfl
  | 19, _ => rfl
  | 20, _ => rfl
  | 21, _ => rfl
  | 22, _ => rfl
  | 23, _ => rfl
  | 24, _ => rfl
  | 25, _ => rfl
  | 26, _ => rfl
  | 27, _ => rfl
  | 28, _ => rfl
  | 29, _ => rfl
  | 30, _ => rfl
  | 31, _ => rfl
  | 32, _ => rfl
  | 33, _ => rfl
  | 34, _ => rfl
  | 35, _ => rfl
  | 36, _ => rfl
  | 37, _ => rfl
  | 38, _ => rfl
  | 39, _ => rfl
  | 40, _ => rfl
  | 41, _ => rfl
  | 42, _ => rfl
  | 43, _ => rfl
  | 44, _ => rfl
  | 45, _ => rfl
  | 46, _ => rfl
  | 47, _ => rfl
  | 48, _ => rfl
  | 49, _ => rfl
  | 50, _ => rfl
  | 51, _ => rfl
  | 52, _ => rfl
  | 53, _ => rfl
  | 54, _ => rfl
  | 55, _ => rfl
  | 56, _ => rfl
  | 57, _ => rfl
  | 58, _ => rfl
  | 59, _ => rfl
  | 60, _ => rfl
  | 61, _ => rfl
  | 62, _ => rfl
  | 63, _ => rfl
  | 64, _ => rfl
  | 65, _ => rfl
  | 66, _ => rfl
  | j + 67, hj => exact absurd hj (by omega)
end
section
theorem k_58 : Cond.initialized RX4 ∈ tb := mt 58 (by decide +kernel) rfl
theorem k_59 : Cond.initialized RX5 ∈ tb := mt 59 (by decide +kernel) rfl
theorem k_60 : Cond.initialized RX3 ∈ tb := mt 60 (by decide +kernel) rfl
theorem k_61 : Cond.initialized RX2 ∈ tb := mt 61 (by decide +kernel) rfl
theorem k_62 : Cond.initialized RX0 ∈ tb := mt 62 (by decide +kernel) rfl
theorem k_63 : Cond.initialized RJ9 ∈ tb := mt 63 (by decide +kernel) rfl
theorem k_64 : Cond.initialized RX1 ∈ tb := mt 64 (by decide +kernel) rfl
theorem k_77 : Cond.methodLink RX6 3 Lib.objectInit ∈ tb := mt 77 (by decide +kernel) rfl
theorem k_78 : Cond.instanceMethod Lib.objectInit ∈ tb := mt 78 (by decide +kernel) rfl
set_option maxRecDepth 20000 in
theorem k_79 : Cond.code Lib.objectInit ⟨#[0xb1]⟩ 1 none ∈ tb := mt 79 rfl rfl
theorem k_80 : Cond.classLink RX6 9 RX4 ∈ tb := mt 80 (by decide +kernel) rfl
theorem k_81 : Cond.instantiable RX4 4 ∈ tb := mt 81 (by decide +kernel) rfl
theorem k_83 : Cond.instanceMethod yX4_init ∈ tb := mt 83 (by decide +kernel) rfl
set_option maxRecDepth 20000 in
theorem k_84 : Cond.code yX4_init cX4_init 1 none ∈ tb := mt 84 rfl rfl
theorem k_85 : Cond.methodLink RX4 3 Lib.objectInit ∈ tb := mt 85 (by decide +kernel) rfl
theorem k_86 : Cond.fieldLink RX4 9 "TwiceOnce$Tape" "bytes" "[I" ∈ tb := mt 86 (by decide +kernel) rfl
theorem k_87 : Cond.fieldLink RX4 15 "TwiceOnce$Tape" "size" "I" ∈ tb := mt 87 (by decide +kernel) rfl
theorem k_89 : Cond.fieldLink RX4 19 "TwiceOnce$Tape" "fault" "I" ∈ tb := mt 89 (by decide +kernel) rfl
theorem k_91 : Cond.fieldLink RX4 22 "TwiceOnce$Tape" "place" "I" ∈ tb := mt 91 (by decide +kernel) rfl
theorem k_101 : Cond.arrayClass .int ∈ tb := mt 101 (by decide +kernel) rfl
theorem k_102 : Cond.classLink RX6 16 RX5 ∈ tb := mt 102 (by decide +kernel) rfl
theorem k_103 : Cond.instantiable RX5 8 ∈ tb := mt 103 (by decide +kernel) rfl
theorem k_104 : Cond.methodLink RX6 18 yX5_init ∈ tb := mt 104 (by decide +kernel) rfl
theorem k_105 : Cond.instanceMethod yX5_init ∈ tb := mt 105 (by decide +kernel) rfl
set_option maxRecDepth 20000 in
theorem k_106 : Cond.code yX5_init cX5_init 2 none ∈ tb := mt 106 rfl rfl
theorem k_107 : Cond.methodLink RX5 3 Lib.objectInit ∈ tb := mt 107 (by decide +kernel) rfl
theorem k_108 : Cond.classLink RX5 9 "TwiceOnce$Service" ∈ tb := mt 108 (by decide +kernel) rfl
theorem k_110 : Cond.instantiable RX3 15 ∈ tb := mt 110 (by decide +kernel) rfl
theorem k_112 : Cond.instanceMethod yX3_init ∈ tb := mt 112 (by decide +kernel) rfl
set_option maxRecDepth 20000 in
theorem k_113 : Cond.code yX3_init cX3_init 1 none ∈ tb := mt 113 rfl rfl
theorem k_114 : Cond.methodLink RX3 3 Lib.objectInit ∈ tb := mt 114 (by decide +kernel) rfl
theorem k_115 : Cond.classLink RX3 9 RX2 ∈ tb := mt 115 (by decide +kernel) rfl
theorem k_116 : Cond.instantiable RX2 4 ∈ tb := mt 116 (by decide +kernel) rfl
theorem k_118 : Cond.instanceMethod yX2_init ∈ tb := mt 118 (by decide +kernel) rfl
set_option maxRecDepth 20000 in
theorem k_119 : Cond.code yX2_init cX2_init 1 none ∈ tb := mt 119 rfl rfl
theorem k_120 : Cond.methodLink RX2 3 Lib.objectInit ∈ tb := mt 120 (by decide +kernel) rfl
theorem k_121 : Cond.fieldLink RX2 9 "TwiceOnce$Program" "words" "[I" ∈ tb := mt 121 (by decide +kernel) rfl
theorem k_125 : Cond.fieldLink RX2 15 "TwiceOnce$Program" "targets" "[I" ∈ tb := mt 125 (by decide +kernel) rfl
theorem k_129 : Cond.fieldLink RX2 18 "TwiceOnce$Program" "values" "[I" ∈ tb := mt 129 (by decide +kernel) rfl
theorem k_131 : Cond.fieldLink RX2 21 "TwiceOnce$Program" "size" "I" ∈ tb := mt 131 (by decide +kernel) rfl
theorem k_143 : Cond.fieldLink RX3 12 "TwiceOnce$Service" "program" "LTwiceOnce$Program;" ∈ tb := mt 143 (by decide +kernel) rfl
theorem k_146 : Cond.fieldLink RX3 18 "TwiceOnce$Service" "cells" "[I" ∈ tb := mt 146 (by decide +kernel) rfl
theorem k_149 : Cond.fieldLink RX3 22 "TwiceOnce$Service" "counter" "I" ∈ tb := mt 149 (by decide +kernel) rfl
theorem k_152 : Cond.fieldLink RX3 26 "TwiceOnce$Service" "mends" "I" ∈ tb := mt 152 (by decide +kernel) rfl
theorem k_155 : Cond.fieldLink RX3 29 "TwiceOnce$Service" "holdTicks" "I" ∈ tb := mt 155 (by decide +kernel) rfl
theorem k_158 : Cond.fieldLink RX3 32 "TwiceOnce$Service" "kept" "I" ∈ tb := mt 158 (by decide +kernel) rfl
theorem k_159 : Cond.fieldLink RX3 35 "TwiceOnce$Service" "keptKeys" "[I" ∈ tb := mt 159 (by decide +kernel) rfl
theorem k_160 : Cond.fieldLink RX3 38 "TwiceOnce$Service" "keptXs" "[I" ∈ tb := mt 160 (by decide +kernel) rfl
theorem k_161 : Cond.fieldLink RX3 41 "TwiceOnce$Service" "keptAnswers" "[I" ∈ tb := mt 161 (by decide +kernel) rfl
theorem k_162 : Cond.fieldLink RX3 44 "TwiceOnce$Service" "keptTicks" "[I" ∈ tb := mt 162 (by decide +kernel) rfl
theorem k_163 : Cond.fieldLink RX3 47 "TwiceOnce$Service" "knownX" "I" ∈ tb := mt 163 (by decide +kernel) rfl
theorem k_164 : Cond.fieldLink RX3 50 "TwiceOnce$Service" "knownKey" "I" ∈ tb := mt 164 (by decide +kernel) rfl
theorem k_165 : Cond.fieldLink RX3 53 "TwiceOnce$Service" "knownActs" "[I" ∈ tb := mt 165 (by decide +kernel) rfl
theorem k_166 : Cond.fieldLink RX3 56 "TwiceOnce$Service" "earlierActs" "[I" ∈ tb := mt 166 (by decide +kernel) rfl
theorem k_167 : Cond.fieldLink RX3 59 "TwiceOnce$Service" "holdsBack" "Z" ∈ tb := mt 167 (by decide +kernel) rfl
theorem k_199 : Cond.fieldLink RX5 11 "TwiceOnce$World" "services" "[LTwiceOnce$Service;" ∈ tb := mt 199 (by decide +kernel) rfl
theorem k_202 : Cond.fieldLink RX5 17 "TwiceOnce$World" "size" "I" ∈ tb := mt 202 (by decide +kernel) rfl
theorem k_205 : Cond.fieldLink RX5 21 "TwiceOnce$World" "ticks" "I" ∈ tb := mt 205 (by decide +kernel) rfl
theorem k_207 : Cond.fieldLink RX5 24 "TwiceOnce$World" "done" "[I" ∈ tb := mt 207 (by decide +kernel) rfl
theorem k_210 : Cond.fieldLink RX5 28 "TwiceOnce$World" "doneInAll" "I" ∈ tb := mt 210 (by decide +kernel) rfl
theorem k_213 : Cond.fieldLink RX5 31 "TwiceOnce$World" "came" "I" ∈ tb := mt 213 (by decide +kernel) rfl
theorem k_215 : Cond.fieldLink RX5 34 "TwiceOnce$World" "breakAt" "I" ∈ tb := mt 215 (by decide +kernel) rfl
theorem k_216 : Cond.fieldLink RX5 37 "TwiceOnce$World" "broken" "Z" ∈ tb := mt 216 (by decide +kernel) rfl
theorem k_234 : Cond.classLink RX6 23 RX0 ∈ tb := mt 234 (by decide +kernel) rfl
theorem k_235 : Cond.instantiable RX0 4 ∈ tb := mt 235 (by decide +kernel) rfl
theorem k_236 : Cond.methodLink RX6 25 yX0_init ∈ tb := mt 236 (by decide +kernel) rfl
theorem k_237 : Cond.instanceMethod yX0_init ∈ tb := mt 237 (by decide +kernel) rfl
set_option maxRecDepth 20000 in
theorem k_238 : Cond.code yX0_init cX0_init 3 none ∈ tb := mt 238 rfl rfl
theorem k_239 : Cond.methodLink RX0 1 Lib.objectInit ∈ tb := mt 239 (by decide +kernel) rfl
theorem k_240 : Cond.methodLink RX0 13 Lib.Math.max.name ∈ tb := mt 240 (by decide +kernel) rfl
theorem k_241 : Cond.static Lib.Math.max.name ∈ tb := mt 241 (by decide +kernel) rfl
set_option maxRecDepth 20000 in
theorem k_242 : Cond.code Lib.Math.max.name Lib.Math.max.code 2 (some .int) ∈ tb := mt 242 rfl rfl
theorem k_243 : Cond.fieldLink RX0 19 "TwiceOnce$CallList" "services" "[I" ∈ tb := mt 243 (by decide +kernel) rfl
theorem k_247 : Cond.fieldLink RX0 23 "TwiceOnce$CallList" "xs" "[I" ∈ tb := mt 247 (by decide +kernel) rfl
theorem k_250 : Cond.fieldLink RX0 26 "TwiceOnce$CallList" "keys" "[I" ∈ tb := mt 250 (by decide +kernel) rfl
theorem k_253 : Cond.fieldLink RX0 7 "TwiceOnce$CallList" "size" "I" ∈ tb := mt 253 (by decide +kernel) rfl
theorem k_266 : Cond.classLink RX6 35 RX1 ∈ tb := mt 266 (by decide +kernel) rfl
theorem k_267 : Cond.instantiable RX1 10 ∈ tb := mt 267 (by decide +kernel) rfl
theorem k_269 : Cond.instanceMethod yX1_init ∈ tb := mt 269 (by decide +kernel) rfl
set_option maxRecDepth 20000 in
theorem k_270 : Cond.code yX1_init cX1_init 1 none ∈ tb := mt 270 rfl rfl
theorem k_271 : Cond.methodLink RX1 3 Lib.objectInit ∈ tb := mt 271 (by decide +kernel) rfl
theorem k_272 : Cond.classLink RX1 9 RX5 ∈ tb := mt 272 (by decide +kernel) rfl
theorem k_273 : Cond.methodLink RX1 11 yX5_init ∈ tb := mt 273 (by decide +kernel) rfl
theorem k_274 : Cond.classLink RX1 38 "[[I" ∈ tb := mt 274 (by decide +kernel) rfl
theorem k_276 : Cond.fieldLink RX1 12 "TwiceOnce$Judge" "start" "LTwiceOnce$World;" ∈ tb := mt 276 (by decide +kernel) rfl
theorem k_278 : Cond.fieldLink RX1 18 "TwiceOnce$Judge" "once" "LTwiceOnce$World;" ∈ tb := mt 278 (by decide +kernel) rfl
theorem k_279 : Cond.fieldLink RX1 21 "TwiceOnce$Judge" "twice" "LTwiceOnce$World;" ∈ tb := mt 279 (by decide +kernel) rfl
theorem k_280 : Cond.fieldLink RX1 24 "TwiceOnce$Judge" "onceAnswers" "[I" ∈ tb := mt 280 (by decide +kernel) rfl
theorem k_281 : Cond.fieldLink RX1 28 "TwiceOnce$Judge" "onceCame" "[I" ∈ tb := mt 281 (by decide +kernel) rfl
theorem k_282 : Cond.fieldLink RX1 31 "TwiceOnce$Judge" "twiceAnswers" "[I" ∈ tb := mt 282 (by decide +kernel) rfl
theorem k_283 : Cond.fieldLink RX1 34 "TwiceOnce$Judge" "againAnswer" "I" ∈ tb := mt 283 (by decide +kernel) rfl
theorem k_284 : Cond.fieldLink RX1 40 "TwiceOnce$Judge" "ends" "[[I" ∈ tb := mt 284 (by decide +kernel) rfl
theorem k_285 : Cond.fieldLink RX1 43 "TwiceOnce$Judge" "order" "[I" ∈ tb := mt 285 (by decide +kernel) rfl
theorem k_286 : Cond.fieldLink RX1 46 "TwiceOnce$Judge" "comings" "[I" ∈ tb := mt 286 (by decide +kernel) rfl
theorem k_308 : Cond.fieldLink RX6 12 "TwiceOnce" "tape" "LTwiceOnce$Tape;" ∈ tb := mt 308 (by decide +kernel) rfl
theorem k_309 : Cond.fieldLink RX6 19 "TwiceOnce" "now" "LTwiceOnce$World;" ∈ tb := mt 309 (by decide +kernel) rfl
theorem k_310 : Cond.fieldLink RX6 28 "TwiceOnce" "rowCalls" "LTwiceOnce$CallList;" ∈ tb := mt 310 (by decide +kernel) rfl
theorem k_311 : Cond.fieldLink RX6 32 "TwiceOnce" "logCalls" "LTwiceOnce$CallList;" ∈ tb := mt 311 (by decide +kernel) rfl
theorem k_312 : Cond.fieldLink RX6 38 "TwiceOnce" "judge" "LTwiceOnce$Judge;" ∈ tb := mt 312 (by decide +kernel) rfl
theorem k_313 : Cond.fieldLink RX6 42 "TwiceOnce" "prices" "[I" ∈ tb := mt 313 (by decide +kernel) rfl
theorem k_314 : Cond.fieldLink RX6 46 "TwiceOnce" "answersFree" "Z" ∈ tb := mt 314 (by decide +kernel) rfl
theorem dX2_init_0 : decode cX2_init 0 = .ok (.aload_n 0, 1) := by decide +kernel
theorem dX2_init_1 : decode cX2_init 1 = .ok (.invokespecial 3, 3) := by decide +kernel
theorem dX2_init_4 : decode cX2_init 4 = .ok (.aload_n 0, 1) := by decide +kernel
theorem dX2_init_5 : decode cX2_init 5 = .ok (.bipush 8, 2) := by decide +kernel
theorem dX2_init_7 : decode cX2_init 7 = .ok (.newarray .int, 2) := by decide +kernel
theorem dX2_init_9 : decode cX2_init 9 = .ok (.putfield 9, 3) := by decide +kernel
theorem dX2_init_12 : decode cX2_init 12 = .ok (.aload_n 0, 1) := by decide +kernel
theorem dX2_init_13 : decode cX2_init 13 = .ok (.bipush 8, 2) := by decide +kernel
theorem dX2_init_15 : decode cX2_init 15 = .ok (.newarray .int, 2) := by decide +kernel
theorem dX2_init_17 : decode cX2_init 17 = .ok (.putfield 15, 3) := by decide +kernel
theorem dX2_init_20 : decode cX2_init 20 = .ok (.aload_n 0, 1) := by decide +kernel
theorem dX2_init_21 : decode cX2_init 21 = .ok (.bipush 8, 2) := by decide +kernel
theorem dX2_init_23 : decode cX2_init 23 = .ok (.newarray .int, 2) := by decide +kernel
theorem dX2_init_25 : decode cX2_init 25 = .ok (.putfield 18, 3) := by decide +kernel
theorem dX2_init_28 : decode cX2_init 28 = .ok (.aload_n 0, 1) := by decide +kernel
theorem dX2_init_29 : decode cX2_init 29 = .ok (.iconst 0, 1) := by decide +kernel
theorem dX2_init_30 : decode cX2_init 30 = .ok (.putfield 21, 3) := by decide +kernel
theorem dX2_init_33 : decode cX2_init 33 = .ok (.return_, 1) := by decide +kernel
theorem dX3_init_0 : decode cX3_init 0 = .ok (.aload_n 0, 1) := by decide +kernel
theorem dX3_init_1 : decode cX3_init 1 = .ok (.invokespecial 3, 3) := by decide +kernel
theorem dX3_init_4 : decode cX3_init 4 = .ok (.aload_n 0, 1) := by decide +kernel
theorem dX3_init_5 : decode cX3_init 5 = .ok (.new 9, 3) := by decide +kernel
theorem dX3_init_8 : decode cX3_init 8 = .ok (.dup, 1) := by decide +kernel
theorem dX3_init_9 : decode cX3_init 9 = .ok (.invokespecial 11, 3) := by decide +kernel
theorem dX3_init_12 : decode cX3_init 12 = .ok (.putfield 12, 3) := by decide +kernel
theorem dX3_init_15 : decode cX3_init 15 = .ok (.aload_n 0, 1) := by decide +kernel
theorem dX3_init_16 : decode cX3_init 16 = .ok (.iconst 4, 1) := by decide +kernel
theorem dX3_init_17 : decode cX3_init 17 = .ok (.newarray .int, 2) := by decide +kernel
theorem dX3_init_19 : decode cX3_init 19 = .ok (.putfield 18, 3) := by decide +kernel
theorem dX3_init_22 : decode cX3_init 22 = .ok (.aload_n 0, 1) := by decide +kernel
theorem dX3_init_23 : decode cX3_init 23 = .ok (.iconst 0, 1) := by decide +kernel
theorem dX3_init_24 : decode cX3_init 24 = .ok (.putfield 22, 3) := by decide +kernel
theorem dX3_init_27 : decode cX3_init 27 = .ok (.aload_n 0, 1) := by decide +kernel
theorem dX3_init_28 : decode cX3_init 28 = .ok (.iconst 0, 1) := by decide +kernel
theorem dX3_init_29 : decode cX3_init 29 = .ok (.putfield 26, 3) := by decide +kernel
theorem dX3_init_32 : decode cX3_init 32 = .ok (.aload_n 0, 1) := by decide +kernel
theorem dX3_init_33 : decode cX3_init 33 = .ok (.bipush 10, 2) := by decide +kernel
theorem dX3_init_35 : decode cX3_init 35 = .ok (.putfield 29, 3) := by decide +kernel
theorem dX3_init_38 : decode cX3_init 38 = .ok (.aload_n 0, 1) := by decide +kernel
theorem dX3_init_39 : decode cX3_init 39 = .ok (.iconst 0, 1) := by decide +kernel
theorem dX3_init_40 : decode cX3_init 40 = .ok (.putfield 32, 3) := by decide +kernel
theorem dX3_init_43 : decode cX3_init 43 = .ok (.aload_n 0, 1) := by decide +kernel
theorem dX3_init_44 : decode cX3_init 44 = .ok (.bipush 16, 2) := by decide +kernel
theorem dX3_init_46 : decode cX3_init 46 = .ok (.newarray .int, 2) := by decide +kernel
theorem dX3_init_48 : decode cX3_init 48 = .ok (.putfield 35, 3) := by decide +kernel
theorem dX3_init_51 : decode cX3_init 51 = .ok (.aload_n 0, 1) := by decide +kernel
theorem dX3_init_52 : decode cX3_init 52 = .ok (.bipush 16, 2) := by decide +kernel
theorem dX3_init_54 : decode cX3_init 54 = .ok (.newarray .int, 2) := by decide +kernel
theorem dX3_init_56 : decode cX3_init 56 = .ok (.putfield 38, 3) := by decide +kernel
theorem dX3_init_59 : decode cX3_init 59 = .ok (.aload_n 0, 1) := by decide +kernel
theorem dX3_init_60 : decode cX3_init 60 = .ok (.bipush 16, 2) := by decide +kernel
theorem dX3_init_62 : decode cX3_init 62 = .ok (.newarray .int, 2) := by decide +kernel
theorem dX3_init_64 : decode cX3_init 64 = .ok (.putfield 41, 3) := by decide +kernel
theorem dX3_init_67 : decode cX3_init 67 = .ok (.aload_n 0, 1) := by decide +kernel
theorem dX3_init_68 : decode cX3_init 68 = .ok (.bipush 16, 2) := by decide +kernel
theorem dX3_init_70 : decode cX3_init 70 = .ok (.newarray .int, 2) := by decide +kernel
theorem dX3_init_72 : decode cX3_init 72 = .ok (.putfield 44, 3) := by decide +kernel
theorem dX3_init_75 : decode cX3_init 75 = .ok (.aload_n 0, 1) := by decide +kernel
theorem dX3_init_76 : decode cX3_init 76 = .ok (.iconst (-1), 1) := by decide +kernel
theorem dX3_init_77 : decode cX3_init 77 = .ok (.putfield 47, 3) := by decide +kernel
theorem dX3_init_80 : decode cX3_init 80 = .ok (.aload_n 0, 1) := by decide +kernel
theorem dX3_init_81 : decode cX3_init 81 = .ok (.iconst (-1), 1) := by decide +kernel
theorem dX3_init_82 : decode cX3_init 82 = .ok (.putfield 50, 3) := by decide +kernel
theorem dX3_init_85 : decode cX3_init 85 = .ok (.aload_n 0, 1) := by decide +kernel
theorem dX3_init_86 : decode cX3_init 86 = .ok (.bipush 8, 2) := by decide +kernel
theorem dX3_init_88 : decode cX3_init 88 = .ok (.newarray .int, 2) := by decide +kernel
theorem dX3_init_90 : decode cX3_init 90 = .ok (.putfield 53, 3) := by decide +kernel
theorem dX3_init_93 : decode cX3_init 93 = .ok (.aload_n 0, 1) := by decide +kernel
theorem dX3_init_94 : decode cX3_init 94 = .ok (.bipush 8, 2) := by decide +kernel
theorem dX3_init_96 : decode cX3_init 96 = .ok (.newarray .int, 2) := by decide +kernel
theorem dX3_init_98 : decode cX3_init 98 = .ok (.putfield 56, 3) := by decide +kernel
theorem dX3_init_101 : decode cX3_init 101 = .ok (.aload_n 0, 1) := by decide +kernel
theorem dX3_init_102 : decode cX3_init 102 = .ok (.iconst 0, 1) := by decide +kernel
theorem dX3_init_103 : decode cX3_init 103 = .ok (.putfield 59, 3) := by decide +kernel
theorem dX3_init_106 : decode cX3_init 106 = .ok (.return_, 1) := by decide +kernel
theorem dX5_init_0 : decode cX5_init 0 = .ok (.aload_n 0, 1) := by decide +kernel
theorem dX5_init_1 : decode cX5_init 1 = .ok (.invokespecial 3, 3) := by decide +kernel
theorem dX5_init_4 : decode cX5_init 4 = .ok (.aload_n 0, 1) := by decide +kernel
theorem dX5_init_5 : decode cX5_init 5 = .ok (.bipush 6, 2) := by decide +kernel
theorem dX5_init_7 : decode cX5_init 7 = .ok (.anewarray 9, 3) := by decide +kernel
theorem dX5_init_10 : decode cX5_init 10 = .ok (.putfield 11, 3) := by decide +kernel
theorem dX5_init_13 : decode cX5_init 13 = .ok (.aload_n 0, 1) := by decide +kernel
theorem dX5_init_14 : decode cX5_init 14 = .ok (.iconst 0, 1) := by decide +kernel
theorem dX5_init_15 : decode cX5_init 15 = .ok (.putfield 17, 3) := by decide +kernel
theorem dX5_init_18 : decode cX5_init 18 = .ok (.aload_n 0, 1) := by decide +kernel
theorem dX5_init_19 : decode cX5_init 19 = .ok (.iconst 0, 1) := by decide +kernel
theorem dX5_init_20 : decode cX5_init 20 = .ok (.putfield 21, 3) := by decide +kernel
theorem dX5_init_23 : decode cX5_init 23 = .ok (.aload_n 0, 1) := by decide +kernel
theorem dX5_init_24 : decode cX5_init 24 = .ok (.sipush 512, 3) := by decide +kernel
theorem dX5_init_27 : decode cX5_init 27 = .ok (.newarray .int, 2) := by decide +kernel
theorem dX5_init_29 : decode cX5_init 29 = .ok (.putfield 24, 3) := by decide +kernel
theorem dX5_init_32 : decode cX5_init 32 = .ok (.aload_n 0, 1) := by decide +kernel
theorem dX5_init_33 : decode cX5_init 33 = .ok (.iconst 0, 1) := by decide +kernel
theorem dX5_init_34 : decode cX5_init 34 = .ok (.putfield 28, 3) := by decide +kernel
theorem dX5_init_37 : decode cX5_init 37 = .ok (.aload_n 0, 1) := by decide +kernel
theorem dX5_init_38 : decode cX5_init 38 = .ok (.iconst 0, 1) := by decide +kernel
theorem dX5_init_39 : decode cX5_init 39 = .ok (.putfield 31, 3) := by decide +kernel
theorem dX5_init_42 : decode cX5_init 42 = .ok (.aload_n 0, 1) := by decide +kernel
theorem dX5_init_43 : decode cX5_init 43 = .ok (.iconst 0, 1) := by decide +kernel
theorem dX5_init_44 : decode cX5_init 44 = .ok (.putfield 34, 3) := by decide +kernel
theorem dX5_init_47 : decode cX5_init 47 = .ok (.aload_n 0, 1) := by decide +kernel
theorem dX5_init_48 : decode cX5_init 48 = .ok (.iconst 0, 1) := by decide +kernel
theorem dX5_init_49 : decode cX5_init 49 = .ok (.putfield 37, 3) := by decide +kernel
theorem dX5_init_52 : decode cX5_init 52 = .ok (.iconst 0, 1) := by decide +kernel
theorem dX5_init_53 : decode cX5_init 53 = .ok (.istore_n 1, 1) := by decide +kernel
theorem dX5_init_54 : decode cX5_init 54 = .ok (.iload_n 1, 1) := by decide +kernel
theorem dX5_init_55 : decode cX5_init 55 = .ok (.bipush 6, 2) := by decide +kernel
theorem dX5_init_57 : decode cX5_init 57 = .ok (.if_icmp .ge 22, 3) := by decide +kernel
theorem dX5_init_60 : decode cX5_init 60 = .ok (.aload_n 0, 1) := by decide +kernel
theorem dX5_init_61 : decode cX5_init 61 = .ok (.getfield 11, 3) := by decide +kernel
theorem dX5_init_64 : decode cX5_init 64 = .ok (.iload_n 1, 1) := by decide +kernel
theorem dX5_init_65 : decode cX5_init 65 = .ok (.new 9, 3) := by decide +kernel
theorem dX5_init_68 : decode cX5_init 68 = .ok (.dup, 1) := by decide +kernel
theorem dX5_init_69 : decode cX5_init 69 = .ok (.invokespecial 41, 3) := by decide +kernel
theorem dX5_init_72 : decode cX5_init 72 = .ok (.aastore, 1) := by decide +kernel
theorem dX5_init_73 : decode cX5_init 73 = .ok (.iinc 1 1, 3) := by decide +kernel
theorem dX5_init_76 : decode cX5_init 76 = .ok (.goto (-22), 3) := by decide +kernel
theorem dX5_init_79 : decode cX5_init 79 = .ok (.return_, 1) := by decide +kernel
theorem dX0_init_0 : decode cX0_init 0 = .ok (.aload_n 0, 1) := by decide +kernel
theorem dX0_init_1 : decode cX0_init 1 = .ok (.invokespecial 1, 3) := by decide +kernel
theorem dX0_init_4 : decode cX0_init 4 = .ok (.aload_n 0, 1) := by decide +kernel
theorem dX0_init_5 : decode cX0_init 5 = .ok (.iconst 0, 1) := by decide +kernel
theorem dX0_init_6 : decode cX0_init 6 = .ok (.putfield 7, 3) := by decide +kernel
theorem dX0_init_9 : decode cX0_init 9 = .ok (.iload_n 1, 1) := by decide +kernel
theorem dX0_init_10 : decode cX0_init 10 = .ok (.iconst 1, 1) := by decide +kernel
theorem dX0_init_11 : decode cX0_init 11 = .ok (.invokestatic 13, 3) := by decide +kernel
theorem dX0_init_14 : decode cX0_init 14 = .ok (.istore_n 2, 1) := by decide +kernel
theorem dX0_init_15 : decode cX0_init 15 = .ok (.aload_n 0, 1) := by decide +kernel
theorem dX0_init_16 : decode cX0_init 16 = .ok (.iload_n 2, 1) := by decide +kernel
theorem dX0_init_17 : decode cX0_init 17 = .ok (.newarray .int, 2) := by decide +kernel
theorem dX0_init_19 : decode cX0_init 19 = .ok (.putfield 19, 3) := by decide +kernel
theorem dX0_init_22 : decode cX0_init 22 = .ok (.aload_n 0, 1) := by decide +kernel
theorem dX0_init_23 : decode cX0_init 23 = .ok (.iload_n 2, 1) := by decide +kernel
theorem dX0_init_24 : decode cX0_init 24 = .ok (.newarray .int, 2) := by decide +kernel
theorem dX0_init_26 : decode cX0_init 26 = .ok (.putfield 23, 3) := by decide +kernel
theorem dX0_init_29 : decode cX0_init 29 = .ok (.aload_n 0, 1) := by decide +kernel
theorem dX0_init_30 : decode cX0_init 30 = .ok (.iload_n 2, 1) := by decide +kernel
theorem dX0_init_31 : decode cX0_init 31 = .ok (.newarray .int, 2) := by decide +kernel
theorem dX0_init_33 : decode cX0_init 33 = .ok (.putfield 26, 3) := by decide +kernel
theorem dX0_init_36 : decode cX0_init 36 = .ok (.return_, 1) := by decide +kernel
theorem dX4_init_0 : decode cX4_init 0 = .ok (.aload_n 0, 1) := by decide +kernel
theorem dX4_init_1 : decode cX4_init 1 = .ok (.invokespecial 3, 3) := by decide +kernel
theorem dX4_init_4 : decode cX4_init 4 = .ok (.aload_n 0, 1) := by decide +kernel
theorem dX4_init_5 : decode cX4_init 5 = .ok (.bipush 100, 2) := by decide +kernel
theorem dX4_init_7 : decode cX4_init 7 = .ok (.newarray .int, 2) := by decide +kernel
theorem dX4_init_9 : decode cX4_init 9 = .ok (.putfield 9, 3) := by decide +kernel
theorem dX4_init_12 : decode cX4_init 12 = .ok (.aload_n 0, 1) := by decide +kernel
theorem dX4_init_13 : decode cX4_init 13 = .ok (.iconst 0, 1) := by decide +kernel
theorem dX4_init_14 : decode cX4_init 14 = .ok (.putfield 15, 3) := by decide +kernel
theorem dX4_init_17 : decode cX4_init 17 = .ok (.aload_n 0, 1) := by decide +kernel
theorem dX4_init_18 : decode cX4_init 18 = .ok (.iconst 0, 1) := by decide +kernel
theorem dX4_init_19 : decode cX4_init 19 = .ok (.putfield 19, 3) := by decide +kernel
theorem dX4_init_22 : decode cX4_init 22 = .ok (.aload_n 0, 1) := by decide +kernel
theorem dX4_init_23 : decode cX4_init 23 = .ok (.iconst 0, 1) := by decide +kernel
theorem dX4_init_24 : decode cX4_init 24 = .ok (.putfield 22, 3) := by decide +kernel
theorem dX4_init_27 : decode cX4_init 27 = .ok (.return_, 1) := by decide +kernel
theorem dX1_init_0 : decode cX1_init 0 = .ok (.aload_n 0, 1) := by decide +kernel
theorem dX1_init_1 : decode cX1_init 1 = .ok (.invokespecial 3, 3) := by decide +kernel
theorem dX1_init_4 : decode cX1_init 4 = .ok (.aload_n 0, 1) := by decide +kernel
theorem dX1_init_5 : decode cX1_init 5 = .ok (.new 9, 3) := by decide +kernel
theorem dX1_init_8 : decode cX1_init 8 = .ok (.dup, 1) := by decide +kernel
theorem dX1_init_9 : decode cX1_init 9 = .ok (.invokespecial 11, 3) := by decide +kernel
theorem dX1_init_12 : decode cX1_init 12 = .ok (.putfield 12, 3) := by decide +kernel
theorem dX1_init_15 : decode cX1_init 15 = .ok (.aload_n 0, 1) := by decide +kernel
theorem dX1_init_16 : decode cX1_init 16 = .ok (.new 9, 3) := by decide +kernel
theorem dX1_init_19 : decode cX1_init 19 = .ok (.dup, 1) := by decide +kernel
theorem dX1_init_20 : decode cX1_init 20 = .ok (.invokespecial 11, 3) := by decide +kernel
theorem dX1_init_23 : decode cX1_init 23 = .ok (.putfield 18, 3) := by decide +kernel
theorem dX1_init_26 : decode cX1_init 26 = .ok (.aload_n 0, 1) := by decide +kernel
theorem dX1_init_27 : decode cX1_init 27 = .ok (.new 9, 3) := by decide +kernel
theorem dX1_init_30 : decode cX1_init 30 = .ok (.dup, 1) := by decide +kernel
theorem dX1_init_31 : decode cX1_init 31 = .ok (.invokespecial 11, 3) := by decide +kernel
theorem dX1_init_34 : decode cX1_init 34 = .ok (.putfield 21, 3) := by decide +kernel
theorem dX1_init_37 : decode cX1_init 37 = .ok (.aload_n 0, 1) := by decide +kernel
theorem dX1_init_38 : decode cX1_init 38 = .ok (.bipush 6, 2) := by decide +kernel
theorem dX1_init_40 : decode cX1_init 40 = .ok (.newarray .int, 2) := by decide +kernel
theorem dX1_init_42 : decode cX1_init 42 = .ok (.putfield 24, 3) := by decide +kernel
theorem dX1_init_45 : decode cX1_init 45 = .ok (.aload_n 0, 1) := by decide +kernel
theorem dX1_init_46 : decode cX1_init 46 = .ok (.bipush 6, 2) := by decide +kernel
theorem dX1_init_48 : decode cX1_init 48 = .ok (.newarray .int, 2) := by decide +kernel
theorem dX1_init_50 : decode cX1_init 50 = .ok (.putfield 28, 3) := by decide +kernel
theorem dX1_init_53 : decode cX1_init 53 = .ok (.aload_n 0, 1) := by decide +kernel
theorem dX1_init_54 : decode cX1_init 54 = .ok (.bipush 6, 2) := by decide +kernel
theorem dX1_init_56 : decode cX1_init 56 = .ok (.newarray .int, 2) := by decide +kernel
theorem dX1_init_58 : decode cX1_init 58 = .ok (.putfield 31, 3) := by decide +kernel
theorem dX1_init_61 : decode cX1_init 61 = .ok (.aload_n 0, 1) := by decide +kernel
theorem dX1_init_62 : decode cX1_init 62 = .ok (.iconst 0, 1) := by decide +kernel
theorem dX1_init_63 : decode cX1_init 63 = .ok (.putfield 34, 3) := by decide +kernel
theorem dX1_init_66 : decode cX1_init 66 = .ok (.aload_n 0, 1) := by decide +kernel
theorem dX1_init_67 : decode cX1_init 67 = .ok (.bipush 25, 2) := by decide +kernel
theorem dX1_init_69 : decode cX1_init 69 = .ok (.sipush 325, 3) := by decide +kernel
theorem dX1_init_72 : decode cX1_init 72 = .ok (.multianewarray 38 2, 4) := by decide +kernel
theorem dX1_init_76 : decode cX1_init 76 = .ok (.putfield 40, 3) := by decide +kernel
theorem dX1_init_79 : decode cX1_init 79 = .ok (.aload_n 0, 1) := by decide +kernel
theorem dX1_init_80 : decode cX1_init 80 = .ok (.iconst 5, 1) := by decide +kernel
theorem dX1_init_81 : decode cX1_init 81 = .ok (.newarray .int, 2) := by decide +kernel
theorem dX1_init_83 : decode cX1_init 83 = .ok (.putfield 43, 3) := by decide +kernel
theorem dX1_init_86 : decode cX1_init 86 = .ok (.aload_n 0, 1) := by decide +kernel
theorem dX1_init_87 : decode cX1_init 87 = .ok (.iconst 4, 1) := by decide +kernel
theorem dX1_init_88 : decode cX1_init 88 = .ok (.newarray .int, 2) := by decide +kernel
theorem dX1_init_90 : decode cX1_init 90 = .ok (.putfield 46, 3) := by decide +kernel
theorem dX1_init_93 : decode cX1_init 93 = .ok (.return_, 1) := by decide +kernel
theorem dX6_init_0 : decode cX6_init 0 = .ok (.aload_n 0, 1) := by decide +kernel
theorem dX6_init_1 : decode cX6_init 1 = .ok (.invokespecial 3, 3) := by decide +kernel
theorem dX6_init_4 : decode cX6_init 4 = .ok (.aload_n 0, 1) := by decide +kernel
theorem dX6_init_5 : decode cX6_init 5 = .ok (.new 9, 3) := by decide +kernel
theorem dX6_init_8 : decode cX6_init 8 = .ok (.dup, 1) := by decide +kernel
theorem dX6_init_9 : decode cX6_init 9 = .ok (.invokespecial 11, 3) := by decide +kernel
theorem dX6_init_12 : decode cX6_init 12 = .ok (.putfield 12, 3) := by decide +kernel
theorem dX6_init_15 : decode cX6_init 15 = .ok (.aload_n 0, 1) := by decide +kernel
theorem dX6_init_16 : decode cX6_init 16 = .ok (.new 16, 3) := by decide +kernel
theorem dX6_init_19 : decode cX6_init 19 = .ok (.dup, 1) := by decide +kernel
theorem dX6_init_20 : decode cX6_init 20 = .ok (.invokespecial 18, 3) := by decide +kernel
theorem dX6_init_23 : decode cX6_init 23 = .ok (.putfield 19, 3) := by decide +kernel
theorem dX6_init_26 : decode cX6_init 26 = .ok (.aload_n 0, 1) := by decide +kernel
theorem dX6_init_27 : decode cX6_init 27 = .ok (.new 23, 3) := by decide +kernel
theorem dX6_init_30 : decode cX6_init 30 = .ok (.dup, 1) := by decide +kernel
theorem dX6_init_31 : decode cX6_init 31 = .ok (.bipush 6, 2) := by decide +kernel
theorem dX6_init_33 : decode cX6_init 33 = .ok (.invokespecial 25, 3) := by decide +kernel
theorem dX6_init_36 : decode cX6_init 36 = .ok (.putfield 28, 3) := by decide +kernel
theorem dX6_init_39 : decode cX6_init 39 = .ok (.aload_n 0, 1) := by decide +kernel
theorem dX6_init_40 : decode cX6_init 40 = .ok (.new 23, 3) := by decide +kernel
theorem dX6_init_43 : decode cX6_init 43 = .ok (.dup, 1) := by decide +kernel
theorem dX6_init_44 : decode cX6_init 44 = .ok (.bipush 20, 2) := by decide +kernel
theorem dX6_init_46 : decode cX6_init 46 = .ok (.invokespecial 25, 3) := by decide +kernel
theorem dX6_init_49 : decode cX6_init 49 = .ok (.putfield 32, 3) := by decide +kernel
theorem dX6_init_52 : decode cX6_init 52 = .ok (.aload_n 0, 1) := by decide +kernel
theorem dX6_init_53 : decode cX6_init 53 = .ok (.new 35, 3) := by decide +kernel
theorem dX6_init_56 : decode cX6_init 56 = .ok (.dup, 1) := by decide +kernel
theorem dX6_init_57 : decode cX6_init 57 = .ok (.invokespecial 37, 3) := by decide +kernel
theorem dX6_init_60 : decode cX6_init 60 = .ok (.putfield 38, 3) := by decide +kernel
theorem dX6_init_63 : decode cX6_init 63 = .ok (.aload_n 0, 1) := by decide +kernel
theorem dX6_init_64 : decode cX6_init 64 = .ok (.iconst 4, 1) := by decide +kernel
theorem dX6_init_65 : decode cX6_init 65 = .ok (.newarray .int, 2) := by decide +kernel
theorem dX6_init_67 : decode cX6_init 67 = .ok (.putfield 42, 3) := by decide +kernel
theorem dX6_init_70 : decode cX6_init 70 = .ok (.aload_n 0, 1) := by decide +kernel
theorem dX6_init_71 : decode cX6_init 71 = .ok (.iconst 0, 1) := by decide +kernel
theorem dX6_init_72 : decode cX6_init 72 = .ok (.putfield 46, 3) := by decide +kernel
theorem dX6_init_75 : decode cX6_init 75 = .ok (.iconst 0, 1) := by decide +kernel
theorem dX6_init_76 : decode cX6_init 76 = .ok (.istore_n 1, 1) := by decide +kernel
theorem dX6_init_77 : decode cX6_init 77 = .ok (.iload_n 1, 1) := by decide +kernel
theorem dX6_init_78 : decode cX6_init 78 = .ok (.iconst 4, 1) := by decide +kernel
theorem dX6_init_79 : decode cX6_init 79 = .ok (.if_icmp .ge 16, 3) := by decide +kernel
theorem dX6_init_82 : decode cX6_init 82 = .ok (.aload_n 0, 1) := by decide +kernel
theorem dX6_init_83 : decode cX6_init 83 = .ok (.getfield 42, 3) := by decide +kernel
theorem dX6_init_86 : decode cX6_init 86 = .ok (.iload_n 1, 1) := by decide +kernel
theorem dX6_init_87 : decode cX6_init 87 = .ok (.iconst 1, 1) := by decide +kernel
theorem dX6_init_88 : decode cX6_init 88 = .ok (.iastore, 1) := by decide +kernel
theorem dX6_init_89 : decode cX6_init 89 = .ok (.iinc 1 1, 3) := by decide +kernel
theorem dX6_init_92 : decode cX6_init 92 = .ok (.goto (-15), 3) := by decide +kernel
theorem dX6_init_95 : decode cX6_init 95 = .ok (.return_, 1) := by decide +kernel
set_option maxHeartbeats 4000000 in
set_option maxRecDepth 100000 in
theorem c_Program_init (l : Launch) (D : va_G) (cI cZ cS : ClassId) (N0 : NT) (h : Nat)  : Mx l D cI cZ cS N0 yX2_init cX2_init 1 none 1 3 24 [.ref h] [(h, .inr (2, [.null, .null, .null, .int 0]))] (fun v w => ∃ (a1 : Nat) (a2 : Nat) (a3 : Nat), v = none ∧ w = ([(h, .inr (2, [.ref a1, .ref a2, .ref a3, .int 0]))] : va_W)) := by
  refine x_enter (by decide) (Nat.le_of_ble_eq_true rfl) ?_
  intro p e s m args below meth c A ls H locs hB hr hin hl hV hA
  have hx := hB.1
  have hb := hB.2.1
  have hl : lv_has ls 1 [(0, .ref h)] := hl
  refine lv_aload_n hx hb dX2_init_0 rfl (lv_at hl 0 rfl) ?_
  refine x_oinit hB k_120 k_78 k_79 hl.1 dX2_init_1 (Nat.le_of_ble_eq_true rfl) (Nat.le_of_ble_eq_true rfl) ?_
  refine lv_aload_n hx hb dX2_init_4 rfl (lv_at hl 0 rfl) ?_
  refine lv_bipush (v := 8) hx hb dX2_init_5 (by decide) ?_
  refine x_newi (N' := 8) hB hV k_101 (by decide) (by decide) (by decide) (Nat.le_of_ble_eq_true rfl) (Nat.le_of_ble_eq_true rfl) dX2_init_7 (fun q_1 H hV => ?_)
  have hV : Vx D A s.heap H locs [(h, .inr (2, [.null, .null, .null, .int 0])), (q_1, .inl (cI, 8, .inl (fun _ => 0)))] := hV
  refine W.widen (k := 1) (n := 8) (Nat.le_of_ble_eq_true rfl) (Nat.le_of_ble_eq_true rfl) ?_
  refine x_putF (v := .ref q_1) hB hV hin 0 rfl rfl 0 (by decide) k_121 rfl rfl rfl rfl (Nat.le_of_ble_eq_true rfl) dX2_init_9 (fun H locs hV => ?_)
  have hV : Vx D A s.heap H locs [(h, .inr (2, [.ref q_1, .null, .null, .int 0])), (q_1, .inl (cI, 8, .inl (fun _ => 0)))] := hV
  refine lv_aload_n hx hb dX2_init_12 rfl (lv_at hl 0 rfl) ?_
  refine lv_bipush (v := 8) hx hb dX2_init_13 (by decide) ?_
  refine x_newi (N' := 8) hB hV k_101 (by decide) (by decide) (by decide) (Nat.le_of_ble_eq_true rfl) (Nat.le_of_ble_eq_true rfl) dX2_init_15 (fun q_2 H hV => ?_)
  have hV : Vx D A s.heap H locs [(h, .inr (2, [.ref q_1, .null, .null, .int 0])), (q_1, .inl (cI, 8, .inl (fun _ => 0))), (q_2, .inl (cI, 8, .inl (fun _ => 0)))] := hV
  refine W.widen (k := 2) (n := 16) (Nat.le_of_ble_eq_true rfl) (Nat.le_of_ble_eq_true rfl) ?_
  refine x_putF (v := .ref q_2) hB hV hin 0 rfl rfl 1 (by decide) k_125 rfl rfl rfl rfl (Nat.le_of_ble_eq_true rfl) dX2_init_17 (fun H locs hV => ?_)
  have hV : Vx D A s.heap H locs [(h, .inr (2, [.ref q_1, .ref q_2, .null, .int 0])), (q_1, .inl (cI, 8, .inl (fun _ => 0))), (q_2, .inl (cI, 8, .inl (fun _ => 0)))] := hV
  refine lv_aload_n hx hb dX2_init_20 rfl (lv_at hl 0 rfl) ?_
  refine lv_bipush (v := 8) hx hb dX2_init_21 (by decide) ?_
  refine x_newi (N' := 8) hB hV k_101 (by decide) (by decide) (by decide) (Nat.le_of_ble_eq_true rfl) (Nat.le_of_ble_eq_true rfl) dX2_init_23 (fun q_3 H hV => ?_)
  have hV : Vx D A s.heap H locs [(h, .inr (2, [.ref q_1, .ref q_2, .null, .int 0])), (q_1, .inl (cI, 8, .inl (fun _ => 0))), (q_2, .inl (cI, 8, .inl (fun _ => 0))), (q_3, .inl (cI, 8, .inl (fun _ => 0)))] := hV
  refine W.widen (k := 3) (n := 24) (Nat.le_of_ble_eq_true rfl) (Nat.le_of_ble_eq_true rfl) ?_
  refine x_putF (v := .ref q_3) hB hV hin 0 rfl rfl 2 (by decide) k_129 rfl rfl rfl rfl (Nat.le_of_ble_eq_true rfl) dX2_init_25 (fun H locs hV => ?_)
  have hV : Vx D A s.heap H locs [(h, .inr (2, [.ref q_1, .ref q_2, .ref q_3, .int 0])), (q_1, .inl (cI, 8, .inl (fun _ => 0))), (q_2, .inl (cI, 8, .inl (fun _ => 0))), (q_3, .inl (cI, 8, .inl (fun _ => 0)))] := hV
  refine lv_aload_n hx hb dX2_init_28 rfl (lv_at hl 0 rfl) ?_
  refine lv_iconst (v := 0) hx hb dX2_init_29 (by decide) ?_
  refine x_put (v := .int 0) hB hV 0 rfl rfl 3 (by decide) k_131 rfl rfl rfl (Nat.le_of_ble_eq_true rfl) dX2_init_30 (fun H locs hV => ?_)
  have hV : Vx D A s.heap H locs [(h, .inr (2, [.ref q_1, .ref q_2, .ref q_3, .int 0])), (q_1, .inl (cI, 8, .inl (fun _ => 0))), (q_2, .inl (cI, 8, .inl (fun _ => 0))), (q_3, .inl (cI, 8, .inl (fun _ => 0)))] := hV
  exact x_vret (w := [(h, .inr (2, [.ref q_1, .ref q_2, .ref q_3, .int 0]))]) hB hr hV hA (Nat.le_of_ble_eq_true rfl) (Nat.le_of_ble_eq_true rfl) [0] rfl rfl (by decide) dX2_init_33 ⟨q_1, q_2, q_3, rfl, rfl⟩
set_option maxHeartbeats 4000000 in
set_option maxRecDepth 100000 in
theorem c_Service_init (l : Launch) (D : va_G) (cI cZ cS : ClassId) (N0 : NT) (h : Nat)  : Mx l D cI cZ cS N0 yX3_init cX3_init 1 none 2 11 112 [.ref h] [(h, .inr (3, [.null, .null, .int 0, .int 0, .int 0, .int 0, .null, .null, .null, .null, .int 0, .int 0, .null, .null, .int 0]))] (fun v w => ∃ (a1 : Nat) (a2 : Nat) (a3 : Nat) (a4 : Nat) (a5 : Nat) (a6 : Nat) (a7 : Nat) (a8 : Nat), v = none ∧ w = ([(h, .inr (3, [.ref a1, .ref a2, .int 0, .int 0, .int 10, .int 0, .ref a3, .ref a4, .ref a5, .ref a6, .int (-1), .int (-1), .ref a7, .ref a8, .int 0]))] : va_W)) := by
  refine x_enter (by decide) (Nat.le_of_ble_eq_true rfl) ?_
  intro p e s m args below meth c A ls H locs hB hr hin hl hV hA
  have hx := hB.1
  have hb := hB.2.1
  have hl : lv_has ls 1 [(0, .ref h)] := hl
  refine lv_aload_n hx hb dX3_init_0 rfl (lv_at hl 0 rfl) ?_
  refine x_oinit hB k_114 k_78 k_79 hl.1 dX3_init_1 (Nat.le_of_ble_eq_true rfl) (Nat.le_of_ble_eq_true rfl) ?_
  refine lv_aload_n hx hb dX3_init_4 rfl (lv_at hl 0 rfl) ?_
  refine x_new (ci := 2) (fs := [.null, .null, .null, .int 0]) hB hV rfl k_115 k_116 k_61 (fnew_2) (Nat.le_of_ble_eq_true rfl) (Nat.le_of_ble_eq_true rfl) dX3_init_5 (fun q_1 H hV => ?_)
  have hV : Vx D A s.heap H locs [(h, .inr (3, [.null, .null, .int 0, .int 0, .int 0, .int 0, .null, .null, .null, .null, .int 0, .int 0, .null, .null, .int 0])), (q_1, .inr (2, [.null, .null, .null, .int 0]))] := hV
  refine W.widen (k := 1) (n := 4) (Nat.le_of_ble_eq_true rfl) (Nat.le_of_ble_eq_true rfl) ?_
  refine lv_dup hx hb dX3_init_8 rfl ?_
  refine x_callIN (n := 0) (host := RX6) (wr := [(h, .inr (3, [.null, .null, .int 0, .int 0, .int 0, .int 0, .null, .null, .null, .null, .int 0, .int 0, .null, .null, .int 0]))]) (As := []) (rest := [.ref q_1, .ref h]) hB hV (x_N hB) hl.1 (c_Program_init l D cI cZ cS N0 q_1 ) k_119 k_61 hB.2.2.2.2.2.2.2.2.1.2.2.1 k_118 rfl (by decide +kernel) ⟨(Nat.le_of_ble_eq_true rfl), (Nat.le_of_ble_eq_true rfl)⟩ rfl (Nat.le_of_ble_eq_true rfl) ⟨(Nat.le_of_ble_eq_true rfl), (Nat.le_of_ble_eq_true rfl)⟩ [1] [0] rfl rfl rfl ⟨by decide, by decide, by decide⟩ dX3_init_9 (fun v w H locs hp hV => ?_)
  obtain ⟨a1_2, a2_3, a3_4, rfl, rfl⟩ := hp
  have hV : Vx D A s.heap H locs [(h, .inr (3, [.null, .null, .int 0, .int 0, .int 0, .int 0, .null, .null, .null, .null, .int 0, .int 0, .null, .null, .int 0])), (q_1, .inr (2, [.ref a1_2, .ref a2_3, .ref a3_4, .int 0]))] := hV
  refine W.eq (g2 := F0 m 12 ls [.ref q_1, .ref h]) rfl ?_
  refine x_put (v := .ref q_1) hB hV 0 rfl rfl 0 (by decide) k_143 rfl rfl rfl (Nat.le_of_ble_eq_true rfl) dX3_init_12 (fun H locs hV => ?_)
  have hV : Vx D A s.heap H locs [(h, .inr (3, [.ref q_1, .null, .int 0, .int 0, .int 0, .int 0, .null, .null, .null, .null, .int 0, .int 0, .null, .null, .int 0])), (q_1, .inr (2, [.ref a1_2, .ref a2_3, .ref a3_4, .int 0]))] := hV
  refine lv_aload_n hx hb dX3_init_15 rfl (lv_at hl 0 rfl) ?_
  refine lv_iconst (v := 4) hx hb dX3_init_16 (by decide) ?_
  refine x_newi (N' := 4) hB hV k_101 (by decide) (by decide) (by decide) (Nat.le_of_ble_eq_true rfl) (Nat.le_of_ble_eq_true rfl) dX3_init_17 (fun q_5 H hV => ?_)
  have hV : Vx D A s.heap H locs [(h, .inr (3, [.ref q_1, .null, .int 0, .int 0, .int 0, .int 0, .null, .null, .null, .null, .int 0, .int 0, .null, .null, .int 0])), (q_1, .inr (2, [.ref a1_2, .ref a2_3, .ref a3_4, .int 0])), (q_5, .inl (cI, 4, .inl (fun _ => 0)))] := hV
  refine W.widen (k := 5) (n := 32) (Nat.le_of_ble_eq_true rfl) (Nat.le_of_ble_eq_true rfl) ?_
  refine x_putF (v := .ref q_5) hB hV hin 0 rfl rfl 1 (by decide) k_146 rfl rfl rfl rfl (Nat.le_of_ble_eq_true rfl) dX3_init_19 (fun H locs hV => ?_)
  have hV : Vx D A s.heap H locs [(h, .inr (3, [.ref q_1, .ref q_5, .int 0, .int 0, .int 0, .int 0, .null, .null, .null, .null, .int 0, .int 0, .null, .null, .int 0])), (q_1, .inr (2, [.ref a1_2, .ref a2_3, .ref a3_4, .int 0])), (q_5, .inl (cI, 4, .inl (fun _ => 0)))] := hV
  refine lv_aload_n hx hb dX3_init_22 rfl (lv_at hl 0 rfl) ?_
  refine lv_iconst (v := 0) hx hb dX3_init_23 (by decide) ?_
  refine x_put (v := .int 0) hB hV 0 rfl rfl 2 (by decide) k_149 rfl rfl rfl (Nat.le_of_ble_eq_true rfl) dX3_init_24 (fun H locs hV => ?_)
  have hV : Vx D A s.heap H locs [(h, .inr (3, [.ref q_1, .ref q_5, .int 0, .int 0, .int 0, .int 0, .null, .null, .null, .null, .int 0, .int 0, .null, .null, .int 0])), (q_1, .inr (2, [.ref a1_2, .ref a2_3, .ref a3_4, .int 0])), (q_5, .inl (cI, 4, .inl (fun _ => 0)))] := hV
  refine lv_aload_n hx hb dX3_init_27 rfl (lv_at hl 0 rfl) ?_
  refine lv_iconst (v := 0) hx hb dX3_init_28 (by decide) ?_
  refine x_put (v := .int 0) hB hV 0 rfl rfl 3 (by decide) k_152 rfl rfl rfl (Nat.le_of_ble_eq_true rfl) dX3_init_29 (fun H locs hV => ?_)
  have hV : Vx D A s.heap H locs [(h, .inr (3, [.ref q_1, .ref q_5, .int 0, .int 0, .int 0, .int 0, .null, .null, .null, .null, .int 0, .int 0, .null, .null, .int 0])), (q_1, .inr (2, [.ref a1_2, .ref a2_3, .ref a3_4, .int 0])), (q_5, .inl (cI, 4, .inl (fun _ => 0)))] := hV
  refine lv_aload_n hx hb dX3_init_32 rfl (lv_at hl 0 rfl) ?_
  refine lv_bipush (v := 10) hx hb dX3_init_33 (by decide) ?_
  refine x_put (v := .int 10) hB hV 0 rfl rfl 4 (by decide) k_155 rfl rfl rfl (Nat.le_of_ble_eq_true rfl) dX3_init_35 (fun H locs hV => ?_)
  have hV : Vx D A s.heap H locs [(h, .inr (3, [.ref q_1, .ref q_5, .int 0, .int 0, .int 10, .int 0, .null, .null, .null, .null, .int 0, .int 0, .null, .null, .int 0])), (q_1, .inr (2, [.ref a1_2, .ref a2_3, .ref a3_4, .int 0])), (q_5, .inl (cI, 4, .inl (fun _ => 0)))] := hV
  refine lv_aload_n hx hb dX3_init_38 rfl (lv_at hl 0 rfl) ?_
  refine lv_iconst (v := 0) hx hb dX3_init_39 (by decide) ?_
  refine x_put (v := .int 0) hB hV 0 rfl rfl 5 (by decide) k_158 rfl rfl rfl (Nat.le_of_ble_eq_true rfl) dX3_init_40 (fun H locs hV => ?_)
  have hV : Vx D A s.heap H locs [(h, .inr (3, [.ref q_1, .ref q_5, .int 0, .int 0, .int 10, .int 0, .null, .null, .null, .null, .int 0, .int 0, .null, .null, .int 0])), (q_1, .inr (2, [.ref a1_2, .ref a2_3, .ref a3_4, .int 0])), (q_5, .inl (cI, 4, .inl (fun _ => 0)))] := hV
  refine lv_aload_n hx hb dX3_init_43 rfl (lv_at hl 0 rfl) ?_
  refine lv_bipush (v := 16) hx hb dX3_init_44 (by decide) ?_
  refine x_newi (N' := 16) hB hV k_101 (by decide) (by decide) (by decide) (Nat.le_of_ble_eq_true rfl) (Nat.le_of_ble_eq_true rfl) dX3_init_46 (fun q_6 H hV => ?_)
  have hV : Vx D A s.heap H locs [(h, .inr (3, [.ref q_1, .ref q_5, .int 0, .int 0, .int 10, .int 0, .null, .null, .null, .null, .int 0, .int 0, .null, .null, .int 0])), (q_1, .inr (2, [.ref a1_2, .ref a2_3, .ref a3_4, .int 0])), (q_5, .inl (cI, 4, .inl (fun _ => 0))), (q_6, .inl (cI, 16, .inl (fun _ => 0)))] := hV
  refine W.widen (k := 6) (n := 48) (Nat.le_of_ble_eq_true rfl) (Nat.le_of_ble_eq_true rfl) ?_
  refine x_putF (v := .ref q_6) hB hV hin 0 rfl rfl 6 (by decide) k_159 rfl rfl rfl rfl (Nat.le_of_ble_eq_true rfl) dX3_init_48 (fun H locs hV => ?_)
  have hV : Vx D A s.heap H locs [(h, .inr (3, [.ref q_1, .ref q_5, .int 0, .int 0, .int 10, .int 0, .ref q_6, .null, .null, .null, .int 0, .int 0, .null, .null, .int 0])), (q_1, .inr (2, [.ref a1_2, .ref a2_3, .ref a3_4, .int 0])), (q_5, .inl (cI, 4, .inl (fun _ => 0))), (q_6, .inl (cI, 16, .inl (fun _ => 0)))] := hV
  refine lv_aload_n hx hb dX3_init_51 rfl (lv_at hl 0 rfl) ?_
  refine lv_bipush (v := 16) hx hb dX3_init_52 (by decide) ?_
  refine x_newi (N' := 16) hB hV k_101 (by decide) (by decide) (by decide) (Nat.le_of_ble_eq_true rfl) (Nat.le_of_ble_eq_true rfl) dX3_init_54 (fun q_7 H hV => ?_)
  have hV : Vx D A s.heap H locs [(h, .inr (3, [.ref q_1, .ref q_5, .int 0, .int 0, .int 10, .int 0, .ref q_6, .null, .null, .null, .int 0, .int 0, .null, .null, .int 0])), (q_1, .inr (2, [.ref a1_2, .ref a2_3, .ref a3_4, .int 0])), (q_5, .inl (cI, 4, .inl (fun _ => 0))), (q_6, .inl (cI, 16, .inl (fun _ => 0))), (q_7, .inl (cI, 16, .inl (fun _ => 0)))] := hV
  refine W.widen (k := 7) (n := 64) (Nat.le_of_ble_eq_true rfl) (Nat.le_of_ble_eq_true rfl) ?_
  refine x_putF (v := .ref q_7) hB hV hin 0 rfl rfl 7 (by decide) k_160 rfl rfl rfl rfl (Nat.le_of_ble_eq_true rfl) dX3_init_56 (fun H locs hV => ?_)
  have hV : Vx D A s.heap H locs [(h, .inr (3, [.ref q_1, .ref q_5, .int 0, .int 0, .int 10, .int 0, .ref q_6, .ref q_7, .null, .null, .int 0, .int 0, .null, .null, .int 0])), (q_1, .inr (2, [.ref a1_2, .ref a2_3, .ref a3_4, .int 0])), (q_5, .inl (cI, 4, .inl (fun _ => 0))), (q_6, .inl (cI, 16, .inl (fun _ => 0))), (q_7, .inl (cI, 16, .inl (fun _ => 0)))] := hV
  refine lv_aload_n hx hb dX3_init_59 rfl (lv_at hl 0 rfl) ?_
  refine lv_bipush (v := 16) hx hb dX3_init_60 (by decide) ?_
  refine x_newi (N' := 16) hB hV k_101 (by decide) (by decide) (by decide) (Nat.le_of_ble_eq_true rfl) (Nat.le_of_ble_eq_true rfl) dX3_init_62 (fun q_8 H hV => ?_)
  have hV : Vx D A s.heap H locs [(h, .inr (3, [.ref q_1, .ref q_5, .int 0, .int 0, .int 10, .int 0, .ref q_6, .ref q_7, .null, .null, .int 0, .int 0, .null, .null, .int 0])), (q_1, .inr (2, [.ref a1_2, .ref a2_3, .ref a3_4, .int 0])), (q_5, .inl (cI, 4, .inl (fun _ => 0))), (q_6, .inl (cI, 16, .inl (fun _ => 0))), (q_7, .inl (cI, 16, .inl (fun _ => 0))), (q_8, .inl (cI, 16, .inl (fun _ => 0)))] := hV
  refine W.widen (k := 8) (n := 80) (Nat.le_of_ble_eq_true rfl) (Nat.le_of_ble_eq_true rfl) ?_
  refine x_putF (v := .ref q_8) hB hV hin 0 rfl rfl 8 (by decide) k_161 rfl rfl rfl rfl (Nat.le_of_ble_eq_true rfl) dX3_init_64 (fun H locs hV => ?_)
  have hV : Vx D A s.heap H locs [(h, .inr (3, [.ref q_1, .ref q_5, .int 0, .int 0, .int 10, .int 0, .ref q_6, .ref q_7, .ref q_8, .null, .int 0, .int 0, .null, .null, .int 0])), (q_1, .inr (2, [.ref a1_2, .ref a2_3, .ref a3_4, .int 0])), (q_5, .inl (cI, 4, .inl (fun _ => 0))), (q_6, .inl (cI, 16, .inl (fun _ => 0))), (q_7, .inl (cI, 16, .inl (fun _ => 0))), (q_8, .inl (cI, 16, .inl (fun _ => 0)))] := hV
  refine lv_aload_n hx hb dX3_init_67 rfl (lv_at hl 0 rfl) ?_
  refine lv_bipush (v := 16) hx hb dX3_init_68 (by decide) ?_
  refine x_newi (N' := 16) hB hV k_101 (by decide) (by decide) (by decide) (Nat.le_of_ble_eq_true rfl) (Nat.le_of_ble_eq_true rfl) dX3_init_70 (fun q_9 H hV => ?_)
  have hV : Vx D A s.heap H locs [(h, .inr (3, [.ref q_1, .ref q_5, .int 0, .int 0, .int 10, .int 0, .ref q_6, .ref q_7, .ref q_8, .null, .int 0, .int 0, .null, .null, .int 0])), (q_1, .inr (2, [.ref a1_2, .ref a2_3, .ref a3_4, .int 0])), (q_5, .inl (cI, 4, .inl (fun _ => 0))), (q_6, .inl (cI, 16, .inl (fun _ => 0))), (q_7, .inl (cI, 16, .inl (fun _ => 0))), (q_8, .inl (cI, 16, .inl (fun _ => 0))), (q_9, .inl (cI, 16, .inl (fun _ => 0)))] := hV
  refine W.widen (k := 9) (n := 96) (Nat.le_of_ble_eq_true rfl) (Nat.le_of_ble_eq_true rfl) ?_
  refine x_putF (v := .ref q_9) hB hV hin 0 rfl rfl 9 (by decide) k_162 rfl rfl rfl rfl (Nat.le_of_ble_eq_true rfl) dX3_init_72 (fun H locs hV => ?_)
  have hV : Vx D A s.heap H locs [(h, .inr (3, [.ref q_1, .ref q_5, .int 0, .int 0, .int 10, .int 0, .ref q_6, .ref q_7, .ref q_8, .ref q_9, .int 0, .int 0, .null, .null, .int 0])), (q_1, .inr (2, [.ref a1_2, .ref a2_3, .ref a3_4, .int 0])), (q_5, .inl (cI, 4, .inl (fun _ => 0))), (q_6, .inl (cI, 16, .inl (fun _ => 0))), (q_7, .inl (cI, 16, .inl (fun _ => 0))), (q_8, .inl (cI, 16, .inl (fun _ => 0))), (q_9, .inl (cI, 16, .inl (fun _ => 0)))] := hV
  refine lv_aload_n hx hb dX3_init_75 rfl (lv_at hl 0 rfl) ?_
  refine lv_iconst (v := (-1)) hx hb dX3_init_76 (by decide) ?_
  refine x_put (v := .int (-1)) hB hV 0 rfl rfl 10 (by decide) k_163 rfl rfl rfl (Nat.le_of_ble_eq_true rfl) dX3_init_77 (fun H locs hV => ?_)
  have hV : Vx D A s.heap H locs [(h, .inr (3, [.ref q_1, .ref q_5, .int 0, .int 0, .int 10, .int 0, .ref q_6, .ref q_7, .ref q_8, .ref q_9, .int (-1), .int 0, .null, .null, .int 0])), (q_1, .inr (2, [.ref a1_2, .ref a2_3, .ref a3_4, .int 0])), (q_5, .inl (cI, 4, .inl (fun _ => 0))), (q_6, .inl (cI, 16, .inl (fun _ => 0))), (q_7, .inl (cI, 16, .inl (fun _ => 0))), (q_8, .inl (cI, 16, .inl (fun _ => 0))), (q_9, .inl (cI, 16, .inl (fun _ => 0)))] := hV
  refine lv_aload_n hx hb dX3_init_80 rfl (lv_at hl 0 rfl) ?_
  refine lv_iconst (v := (-1)) hx hb dX3_init_81 (by decide) ?_
  refine x_put (v := .int (-1)) hB hV 0 rfl rfl 11 (by decide) k_164 rfl rfl rfl (Nat.le_of_ble_eq_true rfl) dX3_init_82 (fun H locs hV => ?_)
  have hV : Vx D A s.heap H locs [(h, .inr (3, [.ref q_1, .ref q_5, .int 0, .int 0, .int 10, .int 0, .ref q_6, .ref q_7, .ref q_8, .ref q_9, .int (-1), .int (-1), .null, .null, .int 0])), (q_1, .inr (2, [.ref a1_2, .ref a2_3, .ref a3_4, .int 0])), (q_5, .inl (cI, 4, .inl (fun _ => 0))), (q_6, .inl (cI, 16, .inl (fun _ => 0))), (q_7, .inl (cI, 16, .inl (fun _ => 0))), (q_8, .inl (cI, 16, .inl (fun _ => 0))), (q_9, .inl (cI, 16, .inl (fun _ => 0)))] := hV
  refine lv_aload_n hx hb dX3_init_85 rfl (lv_at hl 0 rfl) ?_
  refine lv_bipush (v := 8) hx hb dX3_init_86 (by decide) ?_
  refine x_newi (N' := 8) hB hV k_101 (by decide) (by decide) (by decide) (Nat.le_of_ble_eq_true rfl) (Nat.le_of_ble_eq_true rfl) dX3_init_88 (fun q_10 H hV => ?_)
  have hV : Vx D A s.heap H locs [(h, .inr (3, [.ref q_1, .ref q_5, .int 0, .int 0, .int 10, .int 0, .ref q_6, .ref q_7, .ref q_8, .ref q_9, .int (-1), .int (-1), .null, .null, .int 0])), (q_1, .inr (2, [.ref a1_2, .ref a2_3, .ref a3_4, .int 0])), (q_5, .inl (cI, 4, .inl (fun _ => 0))), (q_6, .inl (cI, 16, .inl (fun _ => 0))), (q_7, .inl (cI, 16, .inl (fun _ => 0))), (q_8, .inl (cI, 16, .inl (fun _ => 0))), (q_9, .inl (cI, 16, .inl (fun _ => 0))), (q_10, .inl (cI, 8, .inl (fun _ => 0)))] := hV
  refine W.widen (k := 10) (n := 104) (Nat.le_of_ble_eq_true rfl) (Nat.le_of_ble_eq_true rfl) ?_
  refine x_putF (v := .ref q_10) hB hV hin 0 rfl rfl 12 (by decide) k_165 rfl rfl rfl rfl (Nat.le_of_ble_eq_true rfl) dX3_init_90 (fun H locs hV => ?_)
  have hV : Vx D A s.heap H locs [(h, .inr (3, [.ref q_1, .ref q_5, .int 0, .int 0, .int 10, .int 0, .ref q_6, .ref q_7, .ref q_8, .ref q_9, .int (-1), .int (-1), .ref q_10, .null, .int 0])), (q_1, .inr (2, [.ref a1_2, .ref a2_3, .ref a3_4, .int 0])), (q_5, .inl (cI, 4, .inl (fun _ => 0))), (q_6, .inl (cI, 16, .inl (fun _ => 0))), (q_7, .inl (cI, 16, .inl (fun _ => 0))), (q_8, .inl (cI, 16, .inl (fun _ => 0))), (q_9, .inl (cI, 16, .inl (fun _ => 0))), (q_10, .inl (cI, 8, .inl (fun _ => 0)))] := hV
  refine lv_aload_n hx hb dX3_init_93 rfl (lv_at hl 0 rfl) ?_
  refine lv_bipush (v := 8) hx hb dX3_init_94 (by decide) ?_
  refine x_newi (N' := 8) hB hV k_101 (by decide) (by decide) (by decide) (Nat.le_of_ble_eq_true rfl) (Nat.le_of_ble_eq_true rfl) dX3_init_96 (fun q_11 H hV => ?_)
  have hV : Vx D A s.heap H locs [(h, .inr (3, [.ref q_1, .ref q_5, .int 0, .int 0, .int 10, .int 0, .ref q_6, .ref q_7, .ref q_8, .ref q_9, .int (-1), .int (-1), .ref q_10, .null, .int 0])), (q_1, .inr (2, [.ref a1_2, .ref a2_3, .ref a3_4, .int 0])), (q_5, .inl (cI, 4, .inl (fun _ => 0))), (q_6, .inl (cI, 16, .inl (fun _ => 0))), (q_7, .inl (cI, 16, .inl (fun _ => 0))), (q_8, .inl (cI, 16, .inl (fun _ => 0))), (q_9, .inl (cI, 16, .inl (fun _ => 0))), (q_10, .inl (cI, 8, .inl (fun _ => 0))), (q_11, .inl (cI, 8, .inl (fun _ => 0)))] := hV
  refine W.widen (k := 11) (n := 112) (Nat.le_of_ble_eq_true rfl) (Nat.le_of_ble_eq_true rfl) ?_
  refine x_putF (v := .ref q_11) hB hV hin 0 rfl rfl 13 (by decide) k_166 rfl rfl rfl rfl (Nat.le_of_ble_eq_true rfl) dX3_init_98 (fun H locs hV => ?_)
  have hV : Vx D A s.heap H locs [(h, .inr (3, [.ref q_1, .ref q_5, .int 0, .int 0, .int 10, .int 0, .ref q_6, .ref q_7, .ref q_8, .ref q_9, .int (-1), .int (-1), .ref q_10, .ref q_11, .int 0])), (q_1, .inr (2, [.ref a1_2, .ref a2_3, .ref a3_4, .int 0])), (q_5, .inl (cI, 4, .inl (fun _ => 0))), (q_6, .inl (cI, 16, .inl (fun _ => 0))), (q_7, .inl (cI, 16, .inl (fun _ => 0))), (q_8, .inl (cI, 16, .inl (fun _ => 0))), (q_9, .inl (cI, 16, .inl (fun _ => 0))), (q_10, .inl (cI, 8, .inl (fun _ => 0))), (q_11, .inl (cI, 8, .inl (fun _ => 0)))] := hV
  refine lv_aload_n hx hb dX3_init_101 rfl (lv_at hl 0 rfl) ?_
  refine lv_iconst (v := 0) hx hb dX3_init_102 (by decide) ?_
  refine x_put (v := .int 0) hB hV 0 rfl rfl 14 (by decide) k_167 rfl rfl rfl (Nat.le_of_ble_eq_true rfl) dX3_init_103 (fun H locs hV => ?_)
  have hV : Vx D A s.heap H locs [(h, .inr (3, [.ref q_1, .ref q_5, .int 0, .int 0, .int 10, .int 0, .ref q_6, .ref q_7, .ref q_8, .ref q_9, .int (-1), .int (-1), .ref q_10, .ref q_11, .int 0])), (q_1, .inr (2, [.ref a1_2, .ref a2_3, .ref a3_4, .int 0])), (q_5, .inl (cI, 4, .inl (fun _ => 0))), (q_6, .inl (cI, 16, .inl (fun _ => 0))), (q_7, .inl (cI, 16, .inl (fun _ => 0))), (q_8, .inl (cI, 16, .inl (fun _ => 0))), (q_9, .inl (cI, 16, .inl (fun _ => 0))), (q_10, .inl (cI, 8, .inl (fun _ => 0))), (q_11, .inl (cI, 8, .inl (fun _ => 0)))] := hV
  exact x_vret (w := [(h, .inr (3, [.ref q_1, .ref q_5, .int 0, .int 0, .int 10, .int 0, .ref q_6, .ref q_7, .ref q_8, .ref q_9, .int (-1), .int (-1), .ref q_10, .ref q_11, .int 0]))]) hB hr hV hA (Nat.le_of_ble_eq_true rfl) (Nat.le_of_ble_eq_true rfl) [0] rfl rfl (by decide) dX3_init_106 ⟨q_1, q_5, q_6, q_7, q_8, q_9, q_10, q_11, rfl, rfl⟩
set_option maxHeartbeats 4000000 in
set_option maxRecDepth 100000 in
theorem c_World_init (l : Launch) (D : va_G) (cI cZ cS : ClassId) (N0 : NT) (h : Nat)  : Mx l D cI cZ cS N0 yX5_init cX5_init 2 none 3 74 1280 [.ref h] [(h, .inr (5, [.null, .int 0, .int 0, .null, .int 0, .int 0, .int 0, .int 0]))] (fun v w => ∃ (a1 : Nat) (a2 : Nat), v = none ∧ w = ([(h, .inr (5, [.ref a1, .int 0, .int 0, .ref a2, .int 0, .int 0, .int 0, .int 0]))] : va_W)) := by
  refine x_enter (by decide) (Nat.le_of_ble_eq_true rfl) ?_
  intro p e s m args below meth c A ls H locs hB hr hin hl hV hA
  have hx := hB.1
  have hb := hB.2.1
  have hl : lv_has ls 2 [(0, .ref h)] := hl
  refine lv_aload_n hx hb dX5_init_0 rfl (lv_at hl 0 rfl) ?_
  refine x_oinit hB k_107 k_78 k_79 hl.1 dX5_init_1 (Nat.le_of_ble_eq_true rfl) (Nat.le_of_ble_eq_true rfl) ?_
  refine lv_aload_n hx hb dX5_init_4 rfl (lv_at hl 0 rfl) ?_
  refine lv_bipush (v := 6) hx hb dX5_init_5 (by decide) ?_
  refine x_newq (N' := 6) hB hV k_108 (by decide) (by decide) (by decide) (Nat.le_of_ble_eq_true rfl) (Nat.le_of_ble_eq_true rfl) dX5_init_7 (fun q_1 H hV => ?_)
  have hV : Vx D A s.heap H locs [(h, .inr (5, [.null, .int 0, .int 0, .null, .int 0, .int 0, .int 0, .int 0])), (q_1, .inl (cS, 6, .inr (.inr (.inr (.inr (fun _ => none))))))] := hV
  refine W.widen (k := 1) (n := 6) (Nat.le_of_ble_eq_true rfl) (Nat.le_of_ble_eq_true rfl) ?_
  refine x_putF (v := .ref q_1) hB hV hin 0 rfl rfl 0 (by decide) k_199 rfl rfl rfl rfl (Nat.le_of_ble_eq_true rfl) dX5_init_10 (fun H locs hV => ?_)
  have hV : Vx D A s.heap H locs [(h, .inr (5, [.ref q_1, .int 0, .int 0, .null, .int 0, .int 0, .int 0, .int 0])), (q_1, .inl (cS, 6, .inr (.inr (.inr (.inr (fun _ => none))))))] := hV
  refine lv_aload_n hx hb dX5_init_13 rfl (lv_at hl 0 rfl) ?_
  refine lv_iconst (v := 0) hx hb dX5_init_14 (by decide) ?_
  refine x_put (v := .int 0) hB hV 0 rfl rfl 1 (by decide) k_202 rfl rfl rfl (Nat.le_of_ble_eq_true rfl) dX5_init_15 (fun H locs hV => ?_)
  have hV : Vx D A s.heap H locs [(h, .inr (5, [.ref q_1, .int 0, .int 0, .null, .int 0, .int 0, .int 0, .int 0])), (q_1, .inl (cS, 6, .inr (.inr (.inr (.inr (fun _ => none))))))] := hV
  refine lv_aload_n hx hb dX5_init_18 rfl (lv_at hl 0 rfl) ?_
  refine lv_iconst (v := 0) hx hb dX5_init_19 (by decide) ?_
  refine x_put (v := .int 0) hB hV 0 rfl rfl 2 (by decide) k_205 rfl rfl rfl (Nat.le_of_ble_eq_true rfl) dX5_init_20 (fun H locs hV => ?_)
  have hV : Vx D A s.heap H locs [(h, .inr (5, [.ref q_1, .int 0, .int 0, .null, .int 0, .int 0, .int 0, .int 0])), (q_1, .inl (cS, 6, .inr (.inr (.inr (.inr (fun _ => none))))))] := hV
  refine lv_aload_n hx hb dX5_init_23 rfl (lv_at hl 0 rfl) ?_
  refine lv_sipush (v := 512) hx hb dX5_init_24 (by decide) ?_
  refine x_newi (N' := 512) hB hV k_101 (by decide) (by decide) (by decide) (Nat.le_of_ble_eq_true rfl) (Nat.le_of_ble_eq_true rfl) dX5_init_27 (fun q_2 H hV => ?_)
  have hV : Vx D A s.heap H locs [(h, .inr (5, [.ref q_1, .int 0, .int 0, .null, .int 0, .int 0, .int 0, .int 0])), (q_1, .inl (cS, 6, .inr (.inr (.inr (.inr (fun _ => none)))))), (q_2, .inl (cI, 512, .inl (fun _ => 0)))] := hV
  refine W.widen (k := 2) (n := 518) (Nat.le_of_ble_eq_true rfl) (Nat.le_of_ble_eq_true rfl) ?_
  refine x_putF (v := .ref q_2) hB hV hin 0 rfl rfl 3 (by decide) k_207 rfl rfl rfl rfl (Nat.le_of_ble_eq_true rfl) dX5_init_29 (fun H locs hV => ?_)
  have hV : Vx D A s.heap H locs [(h, .inr (5, [.ref q_1, .int 0, .int 0, .ref q_2, .int 0, .int 0, .int 0, .int 0])), (q_1, .inl (cS, 6, .inr (.inr (.inr (.inr (fun _ => none)))))), (q_2, .inl (cI, 512, .inl (fun _ => 0)))] := hV
  refine lv_aload_n hx hb dX5_init_32 rfl (lv_at hl 0 rfl) ?_
  refine lv_iconst (v := 0) hx hb dX5_init_33 (by decide) ?_
  refine x_put (v := .int 0) hB hV 0 rfl rfl 4 (by decide) k_210 rfl rfl rfl (Nat.le_of_ble_eq_true rfl) dX5_init_34 (fun H locs hV => ?_)
  have hV : Vx D A s.heap H locs [(h, .inr (5, [.ref q_1, .int 0, .int 0, .ref q_2, .int 0, .int 0, .int 0, .int 0])), (q_1, .inl (cS, 6, .inr (.inr (.inr (.inr (fun _ => none)))))), (q_2, .inl (cI, 512, .inl (fun _ => 0)))] := hV
  refine lv_aload_n hx hb dX5_init_37 rfl (lv_at hl 0 rfl) ?_
  refine lv_iconst (v := 0) hx hb dX5_init_38 (by decide) ?_
  refine x_put (v := .int 0) hB hV 0 rfl rfl 5 (by decide) k_213 rfl rfl rfl (Nat.le_of_ble_eq_true rfl) dX5_init_39 (fun H locs hV => ?_)
  have hV : Vx D A s.heap H locs [(h, .inr (5, [.ref q_1, .int 0, .int 0, .ref q_2, .int 0, .int 0, .int 0, .int 0])), (q_1, .inl (cS, 6, .inr (.inr (.inr (.inr (fun _ => none)))))), (q_2, .inl (cI, 512, .inl (fun _ => 0)))] := hV
  refine lv_aload_n hx hb dX5_init_42 rfl (lv_at hl 0 rfl) ?_
  refine lv_iconst (v := 0) hx hb dX5_init_43 (by decide) ?_
  refine x_put (v := .int 0) hB hV 0 rfl rfl 6 (by decide) k_215 rfl rfl rfl (Nat.le_of_ble_eq_true rfl) dX5_init_44 (fun H locs hV => ?_)
  have hV : Vx D A s.heap H locs [(h, .inr (5, [.ref q_1, .int 0, .int 0, .ref q_2, .int 0, .int 0, .int 0, .int 0])), (q_1, .inl (cS, 6, .inr (.inr (.inr (.inr (fun _ => none)))))), (q_2, .inl (cI, 512, .inl (fun _ => 0)))] := hV
  refine lv_aload_n hx hb dX5_init_47 rfl (lv_at hl 0 rfl) ?_
  refine lv_iconst (v := 0) hx hb dX5_init_48 (by decide) ?_
  refine x_put (v := .int 0) hB hV 0 rfl rfl 7 (by decide) k_216 rfl rfl rfl (Nat.le_of_ble_eq_true rfl) dX5_init_49 (fun H locs hV => ?_)
  have hV : Vx D A s.heap H locs [(h, .inr (5, [.ref q_1, .int 0, .int 0, .ref q_2, .int 0, .int 0, .int 0, .int 0])), (q_1, .inl (cS, 6, .inr (.inr (.inr (.inr (fun _ => none)))))), (q_2, .inl (cI, 512, .inl (fun _ => 0)))] := hV
  refine lv_iconst (v := 0) hx hb dX5_init_52 (by decide) ?_
  refine lv_istore_n (lv' := [(1, .int 0), (0, .ref h)]) hx hb dX5_init_53 rfl hl (by decide) rfl (fun ls hl => ?_)
  refine lv_iload_n hx hb dX5_init_54 rfl (lv_at hl 0 rfl) ?_
  refine lv_bipush (v := 6) hx hb dX5_init_55 (by decide) ?_
  refine lv_icmp_ge (tgt := 79) hx hb dX5_init_57 (by decide) (fun c_ => absurd c_ (by decide)) (fun c_ => ?_)
  refine lv_aload_n hx hb dX5_init_60 rfl (lv_at hl 1 rfl) ?_
  refine x_get (v := .ref q_1) hB hV 0 rfl rfl 0 (by decide) k_199 rfl dX5_init_61 ?_
  refine lv_iload_n hx hb dX5_init_64 rfl (lv_at hl 0 rfl) ?_
  refine x_new (ci := 3) (fs := [.null, .null, .int 0, .int 0, .int 0, .int 0, .null, .null, .null, .null, .int 0, .int 0, .null, .null, .int 0]) hB hV rfl k_108 k_110 k_60 (fnew_3) (Nat.le_of_ble_eq_true rfl) (Nat.le_of_ble_eq_true rfl) dX5_init_65 (fun q_3 H hV => ?_)
  have hV : Vx D A s.heap H locs [(h, .inr (5, [.ref q_1, .int 0, .int 0, .ref q_2, .int 0, .int 0, .int 0, .int 0])), (q_1, .inl (cS, 6, .inr (.inr (.inr (.inr (fun _ => none)))))), (q_2, .inl (cI, 512, .inl (fun _ => 0))), (q_3, .inr (3, [.null, .null, .int 0, .int 0, .int 0, .int 0, .null, .null, .null, .null, .int 0, .int 0, .null, .null, .int 0]))] := hV
  refine W.widen (k := 3) (n := 533) (Nat.le_of_ble_eq_true rfl) (Nat.le_of_ble_eq_true rfl) ?_
  refine lv_dup hx hb dX5_init_68 rfl ?_
  refine x_callIN (n := 0) (host := RX6) (wr := [(h, .inr (5, [.ref q_1, .int 0, .int 0, .ref q_2, .int 0, .int 0, .int 0, .int 0])), (q_1, .inl (cS, 6, .inr (.inr (.inr (.inr (fun _ => none)))))), (q_2, .inl (cI, 512, .inl (fun _ => 0)))]) (As := []) (rest := [.ref q_3, .int 0, .ref q_1]) hB hV (x_N hB) hl.1 (c_Service_init l D cI cZ cS N0 q_3 ) k_113 k_60 hB.2.2.2.2.2.2.2.2.1.2.1 k_112 rfl (by decide +kernel) ⟨(Nat.le_of_ble_eq_true rfl), (Nat.le_of_ble_eq_true rfl)⟩ rfl (Nat.le_of_ble_eq_true rfl) ⟨(Nat.le_of_ble_eq_true rfl), (Nat.le_of_ble_eq_true rfl)⟩ [3] [0, 1, 2] rfl rfl rfl ⟨by decide, by decide, by decide⟩ dX5_init_69 (fun v w H locs hp hV => ?_)
  obtain ⟨a1_4, a2_5, a3_6, a4_7, a5_8, a6_9, a7_10, a8_11, rfl, rfl⟩ := hp
  have hV : Vx D A s.heap H locs [(h, .inr (5, [.ref q_1, .int 0, .int 0, .ref q_2, .int 0, .int 0, .int 0, .int 0])), (q_1, .inl (cS, 6, .inr (.inr (.inr (.inr (fun _ => none)))))), (q_2, .inl (cI, 512, .inl (fun _ => 0))), (q_3, .inr (3, [.ref a1_4, .ref a2_5, .int 0, .int 0, .int 10, .int 0, .ref a3_6, .ref a4_7, .ref a5_8, .ref a6_9, .int (-1), .int (-1), .ref a7_10, .ref a8_11, .int 0]))] := hV
  refine W.eq (g2 := F0 m 72 ls [.ref q_3, .int 0, .ref q_1]) rfl ?_
  refine x_astq hB hV 1 3 rfl rfl (by unfold vp_in; decide) dX5_init_72 (fun H locs g_12 hV => ?_)
  have hV : Vx D A s.heap H locs [(h, .inr (5, [.ref q_1, .int 0, .int 0, .ref q_2, .int 0, .int 0, .int 0, .int 0])), (q_1, .inl (cS, 6, .inr (.inr (.inr (.inr g_12))))), (q_2, .inl (cI, 512, .inl (fun _ => 0))), (q_3, .inr (3, [.ref a1_4, .ref a2_5, .int 0, .int 0, .int 10, .int 0, .ref a3_6, .ref a4_7, .ref a5_8, .ref a6_9, .int (-1), .int (-1), .ref a7_10, .ref a8_11, .int 0]))] := hV
  have hV := Vx_sub (w := [(h, .inr (5, [.ref q_1, .int 0, .int 0, .ref q_2, .int 0, .int 0, .int 0, .int 0])), (q_1, .inl (cS, 6, .inr (.inr (.inr (.inr g_12))))), (q_2, .inl (cI, 512, .inl (fun _ => 0)))]) hV [0, 1, 2] rfl rfl (by decide)
  refine lv_iinc (v := 1) (lv' := [(1, .int 1), (0, .ref h)]) hx hb dX5_init_73 hl (k := 0) rfl (by decide) (by decide) rfl (fun ls hl => ?_)
  refine lv_goto (tgt := 54) hx hb dX5_init_76 (by decide) ?_
  refine lv_iload_n hx hb dX5_init_54 rfl (lv_at hl 0 rfl) ?_
  refine lv_bipush (v := 6) hx hb dX5_init_55 (by decide) ?_
  refine lv_icmp_ge (tgt := 79) hx hb dX5_init_57 (by decide) (fun c_ => absurd c_ (by decide)) (fun c_ => ?_)
  refine lv_aload_n hx hb dX5_init_60 rfl (lv_at hl 1 rfl) ?_
  refine x_get (v := .ref q_1) hB hV 0 rfl rfl 0 (by decide) k_199 rfl dX5_init_61 ?_
  refine lv_iload_n hx hb dX5_init_64 rfl (lv_at hl 0 rfl) ?_
  refine x_new (ci := 3) (fs := [.null, .null, .int 0, .int 0, .int 0, .int 0, .null, .null, .null, .null, .int 0, .int 0, .null, .null, .int 0]) hB hV rfl k_108 k_110 k_60 (fnew_3) (Nat.le_of_ble_eq_true rfl) (Nat.le_of_ble_eq_true rfl) dX5_init_65 (fun q_13 H hV => ?_)
  have hV : Vx D A s.heap H locs [(h, .inr (5, [.ref q_1, .int 0, .int 0, .ref q_2, .int 0, .int 0, .int 0, .int 0])), (q_1, .inl (cS, 6, .inr (.inr (.inr (.inr g_12))))), (q_2, .inl (cI, 512, .inl (fun _ => 0))), (q_13, .inr (3, [.null, .null, .int 0, .int 0, .int 0, .int 0, .null, .null, .null, .null, .int 0, .int 0, .null, .null, .int 0]))] := hV
  refine W.widen (k := 15) (n := 660) (Nat.le_of_ble_eq_true rfl) (Nat.le_of_ble_eq_true rfl) ?_
  refine lv_dup hx hb dX5_init_68 rfl ?_
  refine x_callIN (n := 0) (host := RX6) (wr := [(h, .inr (5, [.ref q_1, .int 0, .int 0, .ref q_2, .int 0, .int 0, .int 0, .int 0])), (q_1, .inl (cS, 6, .inr (.inr (.inr (.inr g_12))))), (q_2, .inl (cI, 512, .inl (fun _ => 0)))]) (As := []) (rest := [.ref q_13, .int 1, .ref q_1]) hB hV (x_N hB) hl.1 (c_Service_init l D cI cZ cS N0 q_13 ) k_113 k_60 hB.2.2.2.2.2.2.2.2.1.2.1 k_112 rfl (by decide +kernel) ⟨(Nat.le_of_ble_eq_true rfl), (Nat.le_of_ble_eq_true rfl)⟩ rfl (Nat.le_of_ble_eq_true rfl) ⟨(Nat.le_of_ble_eq_true rfl), (Nat.le_of_ble_eq_true rfl)⟩ [3] [0, 1, 2] rfl rfl rfl ⟨by decide, by decide, by decide⟩ dX5_init_69 (fun v w H locs hp hV => ?_)
  obtain ⟨a1_14, a2_15, a3_16, a4_17, a5_18, a6_19, a7_20, a8_21, rfl, rfl⟩ := hp
  have hV : Vx D A s.heap H locs [(h, .inr (5, [.ref q_1, .int 0, .int 0, .ref q_2, .int 0, .int 0, .int 0, .int 0])), (q_1, .inl (cS, 6, .inr (.inr (.inr (.inr g_12))))), (q_2, .inl (cI, 512, .inl (fun _ => 0))), (q_13, .inr (3, [.ref a1_14, .ref a2_15, .int 0, .int 0, .int 10, .int 0, .ref a3_16, .ref a4_17, .ref a5_18, .ref a6_19, .int (-1), .int (-1), .ref a7_20, .ref a8_21, .int 0]))] := hV
  refine W.eq (g2 := F0 m 72 ls [.ref q_13, .int 1, .ref q_1]) rfl ?_
  refine x_astq hB hV 1 3 rfl rfl (by unfold vp_in; decide) dX5_init_72 (fun H locs g_22 hV => ?_)
  have hV : Vx D A s.heap H locs [(h, .inr (5, [.ref q_1, .int 0, .int 0, .ref q_2, .int 0, .int 0, .int 0, .int 0])), (q_1, .inl (cS, 6, .inr (.inr (.inr (.inr g_22))))), (q_2, .inl (cI, 512, .inl (fun _ => 0))), (q_13, .inr (3, [.ref a1_14, .ref a2_15, .int 0, .int 0, .int 10, .int 0, .ref a3_16, .ref a4_17, .ref a5_18, .ref a6_19, .int (-1), .int (-1), .ref a7_20, .ref a8_21, .int 0]))] := hV
  have hV := Vx_sub (w := [(h, .inr (5, [.ref q_1, .int 0, .int 0, .ref q_2, .int 0, .int 0, .int 0, .int 0])), (q_1, .inl (cS, 6, .inr (.inr (.inr (.inr g_22))))), (q_2, .inl (cI, 512, .inl (fun _ => 0)))]) hV [0, 1, 2] rfl rfl (by decide)
  refine lv_iinc (v := 2) (lv' := [(1, .int 2), (0, .ref h)]) hx hb dX5_init_73 hl (k := 0) rfl (by decide) (by decide) rfl (fun ls hl => ?_)
  refine lv_goto (tgt := 54) hx hb dX5_init_76 (by decide) ?_
  refine lv_iload_n hx hb dX5_init_54 rfl (lv_at hl 0 rfl) ?_
  refine lv_bipush (v := 6) hx hb dX5_init_55 (by decide) ?_
  refine lv_icmp_ge (tgt := 79) hx hb dX5_init_57 (by decide) (fun c_ => absurd c_ (by decide)) (fun c_ => ?_)
  refine lv_aload_n hx hb dX5_init_60 rfl (lv_at hl 1 rfl) ?_
  refine x_get (v := .ref q_1) hB hV 0 rfl rfl 0 (by decide) k_199 rfl dX5_init_61 ?_
  refine lv_iload_n hx hb dX5_init_64 rfl (lv_at hl 0 rfl) ?_
  refine x_new (ci := 3) (fs := [.null, .null, .int 0, .int 0, .int 0, .int 0, .null, .null, .null, .null, .int 0, .int 0, .null, .null, .int 0]) hB hV rfl k_108 k_110 k_60 (fnew_3) (Nat.le_of_ble_eq_true rfl) (Nat.le_of_ble_eq_true rfl) dX5_init_65 (fun q_23 H hV => ?_)
  have hV : Vx D A s.heap H locs [(h, .inr (5, [.ref q_1, .int 0, .int 0, .ref q_2, .int 0, .int 0, .int 0, .int 0])), (q_1, .inl (cS, 6, .inr (.inr (.inr (.inr g_22))))), (q_2, .inl (cI, 512, .inl (fun _ => 0))), (q_23, .inr (3, [.null, .null, .int 0, .int 0, .int 0, .int 0, .null, .null, .null, .null, .int 0, .int 0, .null, .null, .int 0]))] := hV
  refine W.widen (k := 27) (n := 787) (Nat.le_of_ble_eq_true rfl) (Nat.le_of_ble_eq_true rfl) ?_
  refine lv_dup hx hb dX5_init_68 rfl ?_
  refine x_callIN (n := 0) (host := RX6) (wr := [(h, .inr (5, [.ref q_1, .int 0, .int 0, .ref q_2, .int 0, .int 0, .int 0, .int 0])), (q_1, .inl (cS, 6, .inr (.inr (.inr (.inr g_22))))), (q_2, .inl (cI, 512, .inl (fun _ => 0)))]) (As := []) (rest := [.ref q_23, .int 2, .ref q_1]) hB hV (x_N hB) hl.1 (c_Service_init l D cI cZ cS N0 q_23 ) k_113 k_60 hB.2.2.2.2.2.2.2.2.1.2.1 k_112 rfl (by decide +kernel) ⟨(Nat.le_of_ble_eq_true rfl), (Nat.le_of_ble_eq_true rfl)⟩ rfl (Nat.le_of_ble_eq_true rfl) ⟨(Nat.le_of_ble_eq_true rfl), (Nat.le_of_ble_eq_true rfl)⟩ [3] [0, 1, 2] rfl rfl rfl ⟨by decide, by decide, by decide⟩ dX5_init_69 (fun v w H locs hp hV => ?_)
  obtain ⟨a1_24, a2_25, a3_26, a4_27, a5_28, a6_29, a7_30, a8_31, rfl, rfl⟩ := hp
  have hV : Vx D A s.heap H locs [(h, .inr (5, [.ref q_1, .int 0, .int 0, .ref q_2, .int 0, .int 0, .int 0, .int 0])), (q_1, .inl (cS, 6, .inr (.inr (.inr (.inr g_22))))), (q_2, .inl (cI, 512, .inl (fun _ => 0))), (q_23, .inr (3, [.ref a1_24, .ref a2_25, .int 0, .int 0, .int 10, .int 0, .ref a3_26, .ref a4_27, .ref a5_28, .ref a6_29, .int (-1), .int (-1), .ref a7_30, .ref a8_31, .int 0]))] := hV
  refine W.eq (g2 := F0 m 72 ls [.ref q_23, .int 2, .ref q_1]) rfl ?_
  refine x_astq hB hV 1 3 rfl rfl (by unfold vp_in; decide) dX5_init_72 (fun H locs g_32 hV => ?_)
  have hV : Vx D A s.heap H locs [(h, .inr (5, [.ref q_1, .int 0, .int 0, .ref q_2, .int 0, .int 0, .int 0, .int 0])), (q_1, .inl (cS, 6, .inr (.inr (.inr (.inr g_32))))), (q_2, .inl (cI, 512, .inl (fun _ => 0))), (q_23, .inr (3, [.ref a1_24, .ref a2_25, .int 0, .int 0, .int 10, .int 0, .ref a3_26, .ref a4_27, .ref a5_28, .ref a6_29, .int (-1), .int (-1), .ref a7_30, .ref a8_31, .int 0]))] := hV
  have hV := Vx_sub (w := [(h, .inr (5, [.ref q_1, .int 0, .int 0, .ref q_2, .int 0, .int 0, .int 0, .int 0])), (q_1, .inl (cS, 6, .inr (.inr (.inr (.inr g_32))))), (q_2, .inl (cI, 512, .inl (fun _ => 0)))]) hV [0, 1, 2] rfl rfl (by decide)
  refine lv_iinc (v := 3) (lv' := [(1, .int 3), (0, .ref h)]) hx hb dX5_init_73 hl (k := 0) rfl (by decide) (by decide) rfl (fun ls hl => ?_)
  refine lv_goto (tgt := 54) hx hb dX5_init_76 (by decide) ?_
  refine lv_iload_n hx hb dX5_init_54 rfl (lv_at hl 0 rfl) ?_
  refine lv_bipush (v := 6) hx hb dX5_init_55 (by decide) ?_
  refine lv_icmp_ge (tgt := 79) hx hb dX5_init_57 (by decide) (fun c_ => absurd c_ (by decide)) (fun c_ => ?_)
  refine lv_aload_n hx hb dX5_init_60 rfl (lv_at hl 1 rfl) ?_
  refine x_get (v := .ref q_1) hB hV 0 rfl rfl 0 (by decide) k_199 rfl dX5_init_61 ?_
  refine lv_iload_n hx hb dX5_init_64 rfl (lv_at hl 0 rfl) ?_
  refine x_new (ci := 3) (fs := [.null, .null, .int 0, .int 0, .int 0, .int 0, .null, .null, .null, .null, .int 0, .int 0, .null, .null, .int 0]) hB hV rfl k_108 k_110 k_60 (fnew_3) (Nat.le_of_ble_eq_true rfl) (Nat.le_of_ble_eq_true rfl) dX5_init_65 (fun q_33 H hV => ?_)
  have hV : Vx D A s.heap H locs [(h, .inr (5, [.ref q_1, .int 0, .int 0, .ref q_2, .int 0, .int 0, .int 0, .int 0])), (q_1, .inl (cS, 6, .inr (.inr (.inr (.inr g_32))))), (q_2, .inl (cI, 512, .inl (fun _ => 0))), (q_33, .inr (3, [.null, .null, .int 0, .int 0, .int 0, .int 0, .null, .null, .null, .null, .int 0, .int 0, .null, .null, .int 0]))] := hV
  refine W.widen (k := 39) (n := 914) (Nat.le_of_ble_eq_true rfl) (Nat.le_of_ble_eq_true rfl) ?_
  refine lv_dup hx hb dX5_init_68 rfl ?_
  refine x_callIN (n := 0) (host := RX6) (wr := [(h, .inr (5, [.ref q_1, .int 0, .int 0, .ref q_2, .int 0, .int 0, .int 0, .int 0])), (q_1, .inl (cS, 6, .inr (.inr (.inr (.inr g_32))))), (q_2, .inl (cI, 512, .inl (fun _ => 0)))]) (As := []) (rest := [.ref q_33, .int 3, .ref q_1]) hB hV (x_N hB) hl.1 (c_Service_init l D cI cZ cS N0 q_33 ) k_113 k_60 hB.2.2.2.2.2.2.2.2.1.2.1 k_112 rfl (by decide +kernel) ⟨(Nat.le_of_ble_eq_true rfl), (Nat.le_of_ble_eq_true rfl)⟩ rfl (Nat.le_of_ble_eq_true rfl) ⟨(Nat.le_of_ble_eq_true rfl), (Nat.le_of_ble_eq_true rfl)⟩ [3] [0, 1, 2] rfl rfl rfl ⟨by decide, by decide, by decide⟩ dX5_init_69 (fun v w H locs hp hV => ?_)
  obtain ⟨a1_34, a2_35, a3_36, a4_37, a5_38, a6_39, a7_40, a8_41, rfl, rfl⟩ := hp
  have hV : Vx D A s.heap H locs [(h, .inr (5, [.ref q_1, .int 0, .int 0, .ref q_2, .int 0, .int 0, .int 0, .int 0])), (q_1, .inl (cS, 6, .inr (.inr (.inr (.inr g_32))))), (q_2, .inl (cI, 512, .inl (fun _ => 0))), (q_33, .inr (3, [.ref a1_34, .ref a2_35, .int 0, .int 0, .int 10, .int 0, .ref a3_36, .ref a4_37, .ref a5_38, .ref a6_39, .int (-1), .int (-1), .ref a7_40, .ref a8_41, .int 0]))] := hV
  refine W.eq (g2 := F0 m 72 ls [.ref q_33, .int 3, .ref q_1]) rfl ?_
  refine x_astq hB hV 1 3 rfl rfl (by unfold vp_in; decide) dX5_init_72 (fun H locs g_42 hV => ?_)
  have hV : Vx D A s.heap H locs [(h, .inr (5, [.ref q_1, .int 0, .int 0, .ref q_2, .int 0, .int 0, .int 0, .int 0])), (q_1, .inl (cS, 6, .inr (.inr (.inr (.inr g_42))))), (q_2, .inl (cI, 512, .inl (fun _ => 0))), (q_33, .inr (3, [.ref a1_34, .ref a2_35, .int 0, .int 0, .int 10, .int 0, .ref a3_36, .ref a4_37, .ref a5_38, .ref a6_39, .int (-1), .int (-1), .ref a7_40, .ref a8_41, .int 0]))] := hV
  have hV := Vx_sub (w := [(h, .inr (5, [.ref q_1, .int 0, .int 0, .ref q_2, .int 0, .int 0, .int 0, .int 0])), (q_1, .inl (cS, 6, .inr (.inr (.inr (.inr g_42))))), (q_2, .inl (cI, 512, .inl (fun _ => 0)))]) hV [0, 1, 2] rfl rfl (by decide)
  refine lv_iinc (v := 4) (lv' := [(1, .int 4), (0, .ref h)]) hx hb dX5_init_73 hl (k := 0) rfl (by decide) (by decide) rfl (fun ls hl => ?_)
  refine lv_goto (tgt := 54) hx hb dX5_init_76 (by decide) ?_
  refine lv_iload_n hx hb dX5_init_54 rfl (lv_at hl 0 rfl) ?_
  refine lv_bipush (v := 6) hx hb dX5_init_55 (by decide) ?_
  refine lv_icmp_ge (tgt := 79) hx hb dX5_init_57 (by decide) (fun c_ => absurd c_ (by decide)) (fun c_ => ?_)
  refine lv_aload_n hx hb dX5_init_60 rfl (lv_at hl 1 rfl) ?_
  refine x_get (v := .ref q_1) hB hV 0 rfl rfl 0 (by decide) k_199 rfl dX5_init_61 ?_
  refine lv_iload_n hx hb dX5_init_64 rfl (lv_at hl 0 rfl) ?_
  refine x_new (ci := 3) (fs := [.null, .null, .int 0, .int 0, .int 0, .int 0, .null, .null, .null, .null, .int 0, .int 0, .null, .null, .int 0]) hB hV rfl k_108 k_110 k_60 (fnew_3) (Nat.le_of_ble_eq_true rfl) (Nat.le_of_ble_eq_true rfl) dX5_init_65 (fun q_43 H hV => ?_)
  have hV : Vx D A s.heap H locs [(h, .inr (5, [.ref q_1, .int 0, .int 0, .ref q_2, .int 0, .int 0, .int 0, .int 0])), (q_1, .inl (cS, 6, .inr (.inr (.inr (.inr g_42))))), (q_2, .inl (cI, 512, .inl (fun _ => 0))), (q_43, .inr (3, [.null, .null, .int 0, .int 0, .int 0, .int 0, .null, .null, .null, .null, .int 0, .int 0, .null, .null, .int 0]))] := hV
  refine W.widen (k := 51) (n := 1041) (Nat.le_of_ble_eq_true rfl) (Nat.le_of_ble_eq_true rfl) ?_
  refine lv_dup hx hb dX5_init_68 rfl ?_
  refine x_callIN (n := 0) (host := RX6) (wr := [(h, .inr (5, [.ref q_1, .int 0, .int 0, .ref q_2, .int 0, .int 0, .int 0, .int 0])), (q_1, .inl (cS, 6, .inr (.inr (.inr (.inr g_42))))), (q_2, .inl (cI, 512, .inl (fun _ => 0)))]) (As := []) (rest := [.ref q_43, .int 4, .ref q_1]) hB hV (x_N hB) hl.1 (c_Service_init l D cI cZ cS N0 q_43 ) k_113 k_60 hB.2.2.2.2.2.2.2.2.1.2.1 k_112 rfl (by decide +kernel) ⟨(Nat.le_of_ble_eq_true rfl), (Nat.le_of_ble_eq_true rfl)⟩ rfl (Nat.le_of_ble_eq_true rfl) ⟨(Nat.le_of_ble_eq_true rfl), (Nat.le_of_ble_eq_true rfl)⟩ [3] [0, 1, 2] rfl rfl rfl ⟨by decide, by decide, by decide⟩ dX5_init_69 (fun v w H locs hp hV => ?_)
  obtain ⟨a1_44, a2_45, a3_46, a4_47, a5_48, a6_49, a7_50, a8_51, rfl, rfl⟩ := hp
  have hV : Vx D A s.heap H locs [(h, .inr (5, [.ref q_1, .int 0, .int 0, .ref q_2, .int 0, .int 0, .int 0, .int 0])), (q_1, .inl (cS, 6, .inr (.inr (.inr (.inr g_42))))), (q_2, .inl (cI, 512, .inl (fun _ => 0))), (q_43, .inr (3, [.ref a1_44, .ref a2_45, .int 0, .int 0, .int 10, .int 0, .ref a3_46, .ref a4_47, .ref a5_48, .ref a6_49, .int (-1), .int (-1), .ref a7_50, .ref a8_51, .int 0]))] := hV
  refine W.eq (g2 := F0 m 72 ls [.ref q_43, .int 4, .ref q_1]) rfl ?_
  refine x_astq hB hV 1 3 rfl rfl (by unfold vp_in; decide) dX5_init_72 (fun H locs g_52 hV => ?_)
  have hV : Vx D A s.heap H locs [(h, .inr (5, [.ref q_1, .int 0, .int 0, .ref q_2, .int 0, .int 0, .int 0, .int 0])), (q_1, .inl (cS, 6, .inr (.inr (.inr (.inr g_52))))), (q_2, .inl (cI, 512, .inl (fun _ => 0))), (q_43, .inr (3, [.ref a1_44, .ref a2_45, .int 0, .int 0, .int 10, .int 0, .ref a3_46, .ref a4_47, .ref a5_48, .ref a6_49, .int (-1), .int (-1), .ref a7_50, .ref a8_51, .int 0]))] := hV
  have hV := Vx_sub (w := [(h, .inr (5, [.ref q_1, .int 0, .int 0, .ref q_2, .int 0, .int 0, .int 0, .int 0])), (q_1, .inl (cS, 6, .inr (.inr (.inr (.inr g_52))))), (q_2, .inl (cI, 512, .inl (fun _ => 0)))]) hV [0, 1, 2] rfl rfl (by decide)
  refine lv_iinc (v := 5) (lv' := [(1, .int 5), (0, .ref h)]) hx hb dX5_init_73 hl (k := 0) rfl (by decide) (by decide) rfl (fun ls hl => ?_)
  refine lv_goto (tgt := 54) hx hb dX5_init_76 (by decide) ?_
  refine lv_iload_n hx hb dX5_init_54 rfl (lv_at hl 0 rfl) ?_
  refine lv_bipush (v := 6) hx hb dX5_init_55 (by decide) ?_
  refine lv_icmp_ge (tgt := 79) hx hb dX5_init_57 (by decide) (fun c_ => absurd c_ (by decide)) (fun c_ => ?_)
  refine lv_aload_n hx hb dX5_init_60 rfl (lv_at hl 1 rfl) ?_
  refine x_get (v := .ref q_1) hB hV 0 rfl rfl 0 (by decide) k_199 rfl dX5_init_61 ?_
  refine lv_iload_n hx hb dX5_init_64 rfl (lv_at hl 0 rfl) ?_
  refine x_new (ci := 3) (fs := [.null, .null, .int 0, .int 0, .int 0, .int 0, .null, .null, .null, .null, .int 0, .int 0, .null, .null, .int 0]) hB hV rfl k_108 k_110 k_60 (fnew_3) (Nat.le_of_ble_eq_true rfl) (Nat.le_of_ble_eq_true rfl) dX5_init_65 (fun q_53 H hV => ?_)
  have hV : Vx D A s.heap H locs [(h, .inr (5, [.ref q_1, .int 0, .int 0, .ref q_2, .int 0, .int 0, .int 0, .int 0])), (q_1, .inl (cS, 6, .inr (.inr (.inr (.inr g_52))))), (q_2, .inl (cI, 512, .inl (fun _ => 0))), (q_53, .inr (3, [.null, .null, .int 0, .int 0, .int 0, .int 0, .null, .null, .null, .null, .int 0, .int 0, .null, .null, .int 0]))] := hV
  refine W.widen (k := 63) (n := 1168) (Nat.le_of_ble_eq_true rfl) (Nat.le_of_ble_eq_true rfl) ?_
  refine lv_dup hx hb dX5_init_68 rfl ?_
  refine x_callIN (n := 0) (host := RX6) (wr := [(h, .inr (5, [.ref q_1, .int 0, .int 0, .ref q_2, .int 0, .int 0, .int 0, .int 0])), (q_1, .inl (cS, 6, .inr (.inr (.inr (.inr g_52))))), (q_2, .inl (cI, 512, .inl (fun _ => 0)))]) (As := []) (rest := [.ref q_53, .int 5, .ref q_1]) hB hV (x_N hB) hl.1 (c_Service_init l D cI cZ cS N0 q_53 ) k_113 k_60 hB.2.2.2.2.2.2.2.2.1.2.1 k_112 rfl (by decide +kernel) ⟨(Nat.le_of_ble_eq_true rfl), (Nat.le_of_ble_eq_true rfl)⟩ rfl (Nat.le_of_ble_eq_true rfl) ⟨(Nat.le_of_ble_eq_true rfl), (Nat.le_of_ble_eq_true rfl)⟩ [3] [0, 1, 2] rfl rfl rfl ⟨by decide, by decide, by decide⟩ dX5_init_69 (fun v w H locs hp hV => ?_)
  obtain ⟨a1_54, a2_55, a3_56, a4_57, a5_58, a6_59, a7_60, a8_61, rfl, rfl⟩ := hp
  have hV : Vx D A s.heap H locs [(h, .inr (5, [.ref q_1, .int 0, .int 0, .ref q_2, .int 0, .int 0, .int 0, .int 0])), (q_1, .inl (cS, 6, .inr (.inr (.inr (.inr g_52))))), (q_2, .inl (cI, 512, .inl (fun _ => 0))), (q_53, .inr (3, [.ref a1_54, .ref a2_55, .int 0, .int 0, .int 10, .int 0, .ref a3_56, .ref a4_57, .ref a5_58, .ref a6_59, .int (-1), .int (-1), .ref a7_60, .ref a8_61, .int 0]))] := hV
  refine W.eq (g2 := F0 m 72 ls [.ref q_53, .int 5, .ref q_1]) rfl ?_
  refine x_astq hB hV 1 3 rfl rfl (by unfold vp_in; decide) dX5_init_72 (fun H locs g_62 hV => ?_)
  have hV : Vx D A s.heap H locs [(h, .inr (5, [.ref q_1, .int 0, .int 0, .ref q_2, .int 0, .int 0, .int 0, .int 0])), (q_1, .inl (cS, 6, .inr (.inr (.inr (.inr g_62))))), (q_2, .inl (cI, 512, .inl (fun _ => 0))), (q_53, .inr (3, [.ref a1_54, .ref a2_55, .int 0, .int 0, .int 10, .int 0, .ref a3_56, .ref a4_57, .ref a5_58, .ref a6_59, .int (-1), .int (-1), .ref a7_60, .ref a8_61, .int 0]))] := hV
  have hV := Vx_sub (w := [(h, .inr (5, [.ref q_1, .int 0, .int 0, .ref q_2, .int 0, .int 0, .int 0, .int 0])), (q_1, .inl (cS, 6, .inr (.inr (.inr (.inr g_62))))), (q_2, .inl (cI, 512, .inl (fun _ => 0)))]) hV [0, 1, 2] rfl rfl (by decide)
  refine lv_iinc (v := 6) (lv' := [(1, .int 6), (0, .ref h)]) hx hb dX5_init_73 hl (k := 0) rfl (by decide) (by decide) rfl (fun ls hl => ?_)
  refine lv_goto (tgt := 54) hx hb dX5_init_76 (by decide) ?_
  refine lv_iload_n hx hb dX5_init_54 rfl (lv_at hl 0 rfl) ?_
  refine lv_bipush (v := 6) hx hb dX5_init_55 (by decide) ?_
  refine lv_icmp_ge (tgt := 79) hx hb dX5_init_57 (by decide) (fun c_ => ?_) (fun c_ => absurd (by decide) c_)
  exact x_vret (w := [(h, .inr (5, [.ref q_1, .int 0, .int 0, .ref q_2, .int 0, .int 0, .int 0, .int 0]))]) hB hr hV hA (Nat.le_of_ble_eq_true rfl) (Nat.le_of_ble_eq_true rfl) [0] rfl rfl (by decide) dX5_init_79 ⟨q_1, q_2, rfl, rfl⟩
set_option maxHeartbeats 4000000 in
set_option maxRecDepth 100000 in
theorem c_CallList_init (l : Launch) (D : va_G) (cI cZ cS : ClassId) (N0 : NT) (h : Nat)  : Mx l D cI cZ cS N0 yX0_init cX0_init 3 none 1 3 18 [.ref h, .int 6] [(h, .inr (0, [.null, .null, .null, .int 0]))] (fun v w => ∃ (a1 : Nat) (a2 : Nat) (a3 : Nat), v = none ∧ w = ([(h, .inr (0, [.ref a1, .ref a2, .ref a3, .int 0]))] : va_W)) := by
  refine x_enter (by decide) (Nat.le_of_ble_eq_true rfl) ?_
  intro p e s m args below meth c A ls H locs hB hr hin hl hV hA
  have hx := hB.1
  have hb := hB.2.1
  have hl : lv_has ls 3 [(0, .ref h), (1, .int 6)] := hl
  refine lv_aload_n hx hb dX0_init_0 rfl (lv_at hl 0 rfl) ?_
  refine x_oinit hB k_239 k_78 k_79 hl.1 dX0_init_1 (Nat.le_of_ble_eq_true rfl) (Nat.le_of_ble_eq_true rfl) ?_
  refine lv_aload_n hx hb dX0_init_4 rfl (lv_at hl 0 rfl) ?_
  refine lv_iconst (v := 0) hx hb dX0_init_5 (by decide) ?_
  refine x_put (v := .int 0) hB hV 0 rfl rfl 3 (by decide) k_253 rfl rfl rfl (Nat.le_of_ble_eq_true rfl) dX0_init_6 (fun H locs hV => ?_)
  have hV : Vx D A s.heap H locs [(h, .inr (0, [.null, .null, .null, .int 0]))] := hV
  refine lv_iload_n hx hb dX0_init_9 rfl (lv_at hl 1 rfl) ?_
  refine lv_iconst (v := 1) hx hb dX0_init_10 (by decide) ?_
  refine x_max (v := 6) hB k_240 k_241 k_63 k_242 hl.1 (Nat.le_of_ble_eq_true rfl) (Nat.le_of_ble_eq_true rfl) (Nat.le_of_ble_eq_true rfl) (Nat.le_of_ble_eq_true rfl) (by decide) dX0_init_11 ?_
  refine lv_istore_n (lv' := [(2, .int 6), (0, .ref h), (1, .int 6)]) hx hb dX0_init_14 rfl hl (by decide) rfl (fun ls hl => ?_)
  refine lv_aload_n hx hb dX0_init_15 rfl (lv_at hl 1 rfl) ?_
  refine lv_iload_n hx hb dX0_init_16 rfl (lv_at hl 0 rfl) ?_
  refine x_newi (N' := 6) hB hV k_101 (by decide) (by decide) (by decide) (Nat.le_of_ble_eq_true rfl) (Nat.le_of_ble_eq_true rfl) dX0_init_17 (fun q_1 H hV => ?_)
  have hV : Vx D A s.heap H locs [(h, .inr (0, [.null, .null, .null, .int 0])), (q_1, .inl (cI, 6, .inl (fun _ => 0)))] := hV
  refine W.widen (k := 1) (n := 6) (Nat.le_of_ble_eq_true rfl) (Nat.le_of_ble_eq_true rfl) ?_
  refine x_putF (v := .ref q_1) hB hV hin 0 rfl rfl 0 (by decide) k_243 rfl rfl rfl rfl (Nat.le_of_ble_eq_true rfl) dX0_init_19 (fun H locs hV => ?_)
  have hV : Vx D A s.heap H locs [(h, .inr (0, [.ref q_1, .null, .null, .int 0])), (q_1, .inl (cI, 6, .inl (fun _ => 0)))] := hV
  refine lv_aload_n hx hb dX0_init_22 rfl (lv_at hl 1 rfl) ?_
  refine lv_iload_n hx hb dX0_init_23 rfl (lv_at hl 0 rfl) ?_
  refine x_newi (N' := 6) hB hV k_101 (by decide) (by decide) (by decide) (Nat.le_of_ble_eq_true rfl) (Nat.le_of_ble_eq_true rfl) dX0_init_24 (fun q_2 H hV => ?_)
  have hV : Vx D A s.heap H locs [(h, .inr (0, [.ref q_1, .null, .null, .int 0])), (q_1, .inl (cI, 6, .inl (fun _ => 0))), (q_2, .inl (cI, 6, .inl (fun _ => 0)))] := hV
  refine W.widen (k := 2) (n := 12) (Nat.le_of_ble_eq_true rfl) (Nat.le_of_ble_eq_true rfl) ?_
  refine x_putF (v := .ref q_2) hB hV hin 0 rfl rfl 1 (by decide) k_247 rfl rfl rfl rfl (Nat.le_of_ble_eq_true rfl) dX0_init_26 (fun H locs hV => ?_)
  have hV : Vx D A s.heap H locs [(h, .inr (0, [.ref q_1, .ref q_2, .null, .int 0])), (q_1, .inl (cI, 6, .inl (fun _ => 0))), (q_2, .inl (cI, 6, .inl (fun _ => 0)))] := hV
  refine lv_aload_n hx hb dX0_init_29 rfl (lv_at hl 1 rfl) ?_
  refine lv_iload_n hx hb dX0_init_30 rfl (lv_at hl 0 rfl) ?_
  refine x_newi (N' := 6) hB hV k_101 (by decide) (by decide) (by decide) (Nat.le_of_ble_eq_true rfl) (Nat.le_of_ble_eq_true rfl) dX0_init_31 (fun q_3 H hV => ?_)
  have hV : Vx D A s.heap H locs [(h, .inr (0, [.ref q_1, .ref q_2, .null, .int 0])), (q_1, .inl (cI, 6, .inl (fun _ => 0))), (q_2, .inl (cI, 6, .inl (fun _ => 0))), (q_3, .inl (cI, 6, .inl (fun _ => 0)))] := hV
  refine W.widen (k := 3) (n := 18) (Nat.le_of_ble_eq_true rfl) (Nat.le_of_ble_eq_true rfl) ?_
  refine x_putF (v := .ref q_3) hB hV hin 0 rfl rfl 2 (by decide) k_250 rfl rfl rfl rfl (Nat.le_of_ble_eq_true rfl) dX0_init_33 (fun H locs hV => ?_)
  have hV : Vx D A s.heap H locs [(h, .inr (0, [.ref q_1, .ref q_2, .ref q_3, .int 0])), (q_1, .inl (cI, 6, .inl (fun _ => 0))), (q_2, .inl (cI, 6, .inl (fun _ => 0))), (q_3, .inl (cI, 6, .inl (fun _ => 0)))] := hV
  exact x_vret (w := [(h, .inr (0, [.ref q_1, .ref q_2, .ref q_3, .int 0]))]) hB hr hV hA (Nat.le_of_ble_eq_true rfl) (Nat.le_of_ble_eq_true rfl) [0] rfl rfl (by decide) dX0_init_36 ⟨q_1, q_2, q_3, rfl, rfl⟩
set_option maxHeartbeats 4000000 in
set_option maxRecDepth 100000 in
theorem c_CallList_init20 (l : Launch) (D : va_G) (cI cZ cS : ClassId) (N0 : NT) (h : Nat)  : Mx l D cI cZ cS N0 yX0_init cX0_init 3 none 1 3 60 [.ref h, .int 20] [(h, .inr (0, [.null, .null, .null, .int 0]))] (fun v w => ∃ (a1 : Nat) (a2 : Nat) (a3 : Nat), v = none ∧ w = ([(h, .inr (0, [.ref a1, .ref a2, .ref a3, .int 0]))] : va_W)) := by
  refine x_enter (by decide) (Nat.le_of_ble_eq_true rfl) ?_
  intro p e s m args below meth c A ls H locs hB hr hin hl hV hA
  have hx := hB.1
  have hb := hB.2.1
  have hl : lv_has ls 3 [(0, .ref h), (1, .int 20)] := hl
  refine lv_aload_n hx hb dX0_init_0 rfl (lv_at hl 0 rfl) ?_
  refine x_oinit hB k_239 k_78 k_79 hl.1 dX0_init_1 (Nat.le_of_ble_eq_true rfl) (Nat.le_of_ble_eq_true rfl) ?_
  refine lv_aload_n hx hb dX0_init_4 rfl (lv_at hl 0 rfl) ?_
  refine lv_iconst (v := 0) hx hb dX0_init_5 (by decide) ?_
  refine x_put (v := .int 0) hB hV 0 rfl rfl 3 (by decide) k_253 rfl rfl rfl (Nat.le_of_ble_eq_true rfl) dX0_init_6 (fun H locs hV => ?_)
  have hV : Vx D A s.heap H locs [(h, .inr (0, [.null, .null, .null, .int 0]))] := hV
  refine lv_iload_n hx hb dX0_init_9 rfl (lv_at hl 1 rfl) ?_
  refine lv_iconst (v := 1) hx hb dX0_init_10 (by decide) ?_
  refine x_max (v := 20) hB k_240 k_241 k_63 k_242 hl.1 (Nat.le_of_ble_eq_true rfl) (Nat.le_of_ble_eq_true rfl) (Nat.le_of_ble_eq_true rfl) (Nat.le_of_ble_eq_true rfl) (by decide) dX0_init_11 ?_
  refine lv_istore_n (lv' := [(2, .int 20), (0, .ref h), (1, .int 20)]) hx hb dX0_init_14 rfl hl (by decide) rfl (fun ls hl => ?_)
  refine lv_aload_n hx hb dX0_init_15 rfl (lv_at hl 1 rfl) ?_
  refine lv_iload_n hx hb dX0_init_16 rfl (lv_at hl 0 rfl) ?_
  refine x_newi (N' := 20) hB hV k_101 (by decide) (by decide) (by decide) (Nat.le_of_ble_eq_true rfl) (Nat.le_of_ble_eq_true rfl) dX0_init_17 (fun q_1 H hV => ?_)
  have hV : Vx D A s.heap H locs [(h, .inr (0, [.null, .null, .null, .int 0])), (q_1, .inl (cI, 20, .inl (fun _ => 0)))] := hV
  refine W.widen (k := 1) (n := 20) (Nat.le_of_ble_eq_true rfl) (Nat.le_of_ble_eq_true rfl) ?_
  refine x_putF (v := .ref q_1) hB hV hin 0 rfl rfl 0 (by decide) k_243 rfl rfl rfl rfl (Nat.le_of_ble_eq_true rfl) dX0_init_19 (fun H locs hV => ?_)
  have hV : Vx D A s.heap H locs [(h, .inr (0, [.ref q_1, .null, .null, .int 0])), (q_1, .inl (cI, 20, .inl (fun _ => 0)))] := hV
  refine lv_aload_n hx hb dX0_init_22 rfl (lv_at hl 1 rfl) ?_
  refine lv_iload_n hx hb dX0_init_23 rfl (lv_at hl 0 rfl) ?_
  refine x_newi (N' := 20) hB hV k_101 (by decide) (by decide) (by decide) (Nat.le_of_ble_eq_true rfl) (Nat.le_of_ble_eq_true rfl) dX0_init_24 (fun q_2 H hV => ?_)
  have hV : Vx D A s.heap H locs [(h, .inr (0, [.ref q_1, .null, .null, .int 0])), (q_1, .inl (cI, 20, .inl (fun _ => 0))), (q_2, .inl (cI, 20, .inl (fun _ => 0)))] := hV
  refine W.widen (k := 2) (n := 40) (Nat.le_of_ble_eq_true rfl) (Nat.le_of_ble_eq_true rfl) ?_
  refine x_putF (v := .ref q_2) hB hV hin 0 rfl rfl 1 (by decide) k_247 rfl rfl rfl rfl (Nat.le_of_ble_eq_true rfl) dX0_init_26 (fun H locs hV => ?_)
  have hV : Vx D A s.heap H locs [(h, .inr (0, [.ref q_1, .ref q_2, .null, .int 0])), (q_1, .inl (cI, 20, .inl (fun _ => 0))), (q_2, .inl (cI, 20, .inl (fun _ => 0)))] := hV
  refine lv_aload_n hx hb dX0_init_29 rfl (lv_at hl 1 rfl) ?_
  refine lv_iload_n hx hb dX0_init_30 rfl (lv_at hl 0 rfl) ?_
  refine x_newi (N' := 20) hB hV k_101 (by decide) (by decide) (by decide) (Nat.le_of_ble_eq_true rfl) (Nat.le_of_ble_eq_true rfl) dX0_init_31 (fun q_3 H hV => ?_)
  have hV : Vx D A s.heap H locs [(h, .inr (0, [.ref q_1, .ref q_2, .null, .int 0])), (q_1, .inl (cI, 20, .inl (fun _ => 0))), (q_2, .inl (cI, 20, .inl (fun _ => 0))), (q_3, .inl (cI, 20, .inl (fun _ => 0)))] := hV
  refine W.widen (k := 3) (n := 60) (Nat.le_of_ble_eq_true rfl) (Nat.le_of_ble_eq_true rfl) ?_
  refine x_putF (v := .ref q_3) hB hV hin 0 rfl rfl 2 (by decide) k_250 rfl rfl rfl rfl (Nat.le_of_ble_eq_true rfl) dX0_init_33 (fun H locs hV => ?_)
  have hV : Vx D A s.heap H locs [(h, .inr (0, [.ref q_1, .ref q_2, .ref q_3, .int 0])), (q_1, .inl (cI, 20, .inl (fun _ => 0))), (q_2, .inl (cI, 20, .inl (fun _ => 0))), (q_3, .inl (cI, 20, .inl (fun _ => 0)))] := hV
  exact x_vret (w := [(h, .inr (0, [.ref q_1, .ref q_2, .ref q_3, .int 0]))]) hB hr hV hA (Nat.le_of_ble_eq_true rfl) (Nat.le_of_ble_eq_true rfl) [0] rfl rfl (by decide) dX0_init_36 ⟨q_1, q_2, q_3, rfl, rfl⟩
set_option maxHeartbeats 4000000 in
set_option maxRecDepth 100000 in
theorem c_Tape_init (l : Launch) (D : va_G) (cI cZ cS : ClassId) (N0 : NT) (h : Nat)  : Mx l D cI cZ cS N0 yX4_init cX4_init 1 none 1 1 100 [.ref h] [(h, .inr (4, [.null, .int 0, .int 0, .int 0]))] (fun v w => ∃ (a1 : Nat), v = none ∧ w = ([(h, .inr (4, [.ref a1, .int 0, .int 0, .int 0])), (a1, .inl (cI, 100, .inl (fun _ => 0)))] : va_W)) := by
  refine x_enter (by decide) (Nat.le_of_ble_eq_true rfl) ?_
  intro p e s m args below meth c A ls H locs hB hr hin hl hV hA
  have hx := hB.1
  have hb := hB.2.1
  have hl : lv_has ls 1 [(0, .ref h)] := hl
  refine lv_aload_n hx hb dX4_init_0 rfl (lv_at hl 0 rfl) ?_
  refine x_oinit hB k_85 k_78 k_79 hl.1 dX4_init_1 (Nat.le_of_ble_eq_true rfl) (Nat.le_of_ble_eq_true rfl) ?_
  refine lv_aload_n hx hb dX4_init_4 rfl (lv_at hl 0 rfl) ?_
  refine lv_bipush (v := 100) hx hb dX4_init_5 (by decide) ?_
  refine x_newi (N' := 100) hB hV k_101 (by decide) (by decide) (by decide) (Nat.le_of_ble_eq_true rfl) (Nat.le_of_ble_eq_true rfl) dX4_init_7 (fun q_1 H hV => ?_)
  have hV : Vx D A s.heap H locs [(h, .inr (4, [.null, .int 0, .int 0, .int 0])), (q_1, .inl (cI, 100, .inl (fun _ => 0)))] := hV
  refine W.widen (k := 1) (n := 100) (Nat.le_of_ble_eq_true rfl) (Nat.le_of_ble_eq_true rfl) ?_
  refine x_putF (v := .ref q_1) hB hV hin 0 rfl rfl 0 (by decide) k_86 rfl rfl rfl rfl (Nat.le_of_ble_eq_true rfl) dX4_init_9 (fun H locs hV => ?_)
  have hV : Vx D A s.heap H locs [(h, .inr (4, [.ref q_1, .int 0, .int 0, .int 0])), (q_1, .inl (cI, 100, .inl (fun _ => 0)))] := hV
  refine lv_aload_n hx hb dX4_init_12 rfl (lv_at hl 0 rfl) ?_
  refine lv_iconst (v := 0) hx hb dX4_init_13 (by decide) ?_
  refine x_put (v := .int 0) hB hV 0 rfl rfl 1 (by decide) k_87 rfl rfl rfl (Nat.le_of_ble_eq_true rfl) dX4_init_14 (fun H locs hV => ?_)
  have hV : Vx D A s.heap H locs [(h, .inr (4, [.ref q_1, .int 0, .int 0, .int 0])), (q_1, .inl (cI, 100, .inl (fun _ => 0)))] := hV
  refine lv_aload_n hx hb dX4_init_17 rfl (lv_at hl 0 rfl) ?_
  refine lv_iconst (v := 0) hx hb dX4_init_18 (by decide) ?_
  refine x_put (v := .int 0) hB hV 0 rfl rfl 2 (by decide) k_89 rfl rfl rfl (Nat.le_of_ble_eq_true rfl) dX4_init_19 (fun H locs hV => ?_)
  have hV : Vx D A s.heap H locs [(h, .inr (4, [.ref q_1, .int 0, .int 0, .int 0])), (q_1, .inl (cI, 100, .inl (fun _ => 0)))] := hV
  refine lv_aload_n hx hb dX4_init_22 rfl (lv_at hl 0 rfl) ?_
  refine lv_iconst (v := 0) hx hb dX4_init_23 (by decide) ?_
  refine x_put (v := .int 0) hB hV 0 rfl rfl 3 (by decide) k_91 rfl rfl rfl (Nat.le_of_ble_eq_true rfl) dX4_init_24 (fun H locs hV => ?_)
  have hV : Vx D A s.heap H locs [(h, .inr (4, [.ref q_1, .int 0, .int 0, .int 0])), (q_1, .inl (cI, 100, .inl (fun _ => 0)))] := hV
  exact x_vret (w := [(h, .inr (4, [.ref q_1, .int 0, .int 0, .int 0])), (q_1, .inl (cI, 100, .inl (fun _ => 0)))]) hB hr hV hA (Nat.le_of_ble_eq_true rfl) (Nat.le_of_ble_eq_true rfl) [0, 1] rfl rfl (by decide) dX4_init_27 ⟨q_1, rfl, rfl⟩
set_option maxHeartbeats 4000000 in
set_option maxRecDepth 100000 in
theorem c_Judge_init (l : Launch) (D : va_G) (cI cZ cS : ClassId) (N0 : NT) (h : Nat)  : Mx l D cI cZ cS N0 yX1_init cX1_init 1 none 4 256 12041 [.ref h] [(h, .inr (1, [.null, .null, .null, .null, .null, .null, .int 0, .null, .null, .null]))] (fun v w => ∃ (s1 : Nat) (s2 : Nat) (s3 : Nat) (s4 : Nat) (s5 : Nat) (s6 : Nat) (s7 : Nat) (s8 : Nat) (s9 : Nat) (b1 : Nat) (b2 : Nat) (b3 : Nat) (b4 : Nat) (b5 : Nat) (b6 : Nat), v = none ∧ w = ([(h, .inr (1, [.ref s1, .ref s2, .ref s3, .ref b1, .ref b2, .ref b3, .int 0, .ref b4, .ref b5, .ref b6])), (s1, .inr (5, [.ref s4, .int 0, .int 0, .ref s5, .int 0, .int 0, .int 0, .int 0])), (s2, .inr (5, [.ref s6, .int 0, .int 0, .ref s7, .int 0, .int 0, .int 0, .int 0])), (s3, .inr (5, [.ref s8, .int 0, .int 0, .ref s9, .int 0, .int 0, .int 0, .int 0]))] : va_W)) := by
  refine x_enter (by decide) (Nat.le_of_ble_eq_true rfl) ?_
  intro p e s m args below meth c A ls H locs hB hr hin hl hV hA
  have hx := hB.1
  have hb := hB.2.1
  have hl : lv_has ls 1 [(0, .ref h)] := hl
  refine lv_aload_n hx hb dX1_init_0 rfl (lv_at hl 0 rfl) ?_
  refine x_oinit hB k_271 k_78 k_79 hl.1 dX1_init_1 (Nat.le_of_ble_eq_true rfl) (Nat.le_of_ble_eq_true rfl) ?_
  refine lv_aload_n hx hb dX1_init_4 rfl (lv_at hl 0 rfl) ?_
  refine x_new (ci := 5) (fs := [.null, .int 0, .int 0, .null, .int 0, .int 0, .int 0, .int 0]) hB hV rfl k_272 k_103 k_59 (fnew_5) (Nat.le_of_ble_eq_true rfl) (Nat.le_of_ble_eq_true rfl) dX1_init_5 (fun q_1 H hV => ?_)
  have hV : Vx D A s.heap H locs [(h, .inr (1, [.null, .null, .null, .null, .null, .null, .int 0, .null, .null, .null])), (q_1, .inr (5, [.null, .int 0, .int 0, .null, .int 0, .int 0, .int 0, .int 0]))] := hV
  refine W.widen (k := 1) (n := 8) (Nat.le_of_ble_eq_true rfl) (Nat.le_of_ble_eq_true rfl) ?_
  refine lv_dup hx hb dX1_init_8 rfl ?_
  refine x_callI (n := 0) (wr := [(h, .inr (1, [.null, .null, .null, .null, .null, .null, .int 0, .null, .null, .null]))]) (As := []) (rest := [.ref q_1, .ref h]) hB hV (x_N hB) hl.1 (c_World_init l D cI cZ cS N0 q_1 ) k_106 k_59 k_273 k_105 rfl (by decide +kernel) ⟨(Nat.le_of_ble_eq_true rfl), (Nat.le_of_ble_eq_true rfl)⟩ rfl (Nat.le_of_ble_eq_true rfl) ⟨(Nat.le_of_ble_eq_true rfl), (Nat.le_of_ble_eq_true rfl)⟩ [1] [0] rfl rfl rfl ⟨by decide, by decide, by decide⟩ dX1_init_9 (fun v w H locs hp hV => ?_)
  obtain ⟨a1_2, a2_3, rfl, rfl⟩ := hp
  have hV : Vx D A s.heap H locs [(h, .inr (1, [.null, .null, .null, .null, .null, .null, .int 0, .null, .null, .null])), (q_1, .inr (5, [.ref a1_2, .int 0, .int 0, .ref a2_3, .int 0, .int 0, .int 0, .int 0]))] := hV
  refine W.eq (g2 := F0 m 12 ls [.ref q_1, .ref h]) rfl ?_
  refine x_putF (v := .ref q_1) hB hV hin 0 rfl rfl 0 (by decide) k_276 rfl rfl rfl rfl (Nat.le_of_ble_eq_true rfl) dX1_init_12 (fun H locs hV => ?_)
  have hV : Vx D A s.heap H locs [(h, .inr (1, [.ref q_1, .null, .null, .null, .null, .null, .int 0, .null, .null, .null])), (q_1, .inr (5, [.ref a1_2, .int 0, .int 0, .ref a2_3, .int 0, .int 0, .int 0, .int 0]))] := hV
  refine lv_aload_n hx hb dX1_init_15 rfl (lv_at hl 0 rfl) ?_
  refine x_new (ci := 5) (fs := [.null, .int 0, .int 0, .null, .int 0, .int 0, .int 0, .int 0]) hB hV rfl k_272 k_103 k_59 (fnew_5) (Nat.le_of_ble_eq_true rfl) (Nat.le_of_ble_eq_true rfl) dX1_init_16 (fun q_4 H hV => ?_)
  have hV : Vx D A s.heap H locs [(h, .inr (1, [.ref q_1, .null, .null, .null, .null, .null, .int 0, .null, .null, .null])), (q_1, .inr (5, [.ref a1_2, .int 0, .int 0, .ref a2_3, .int 0, .int 0, .int 0, .int 0])), (q_4, .inr (5, [.null, .int 0, .int 0, .null, .int 0, .int 0, .int 0, .int 0]))] := hV
  refine W.widen (k := 76) (n := 1296) (Nat.le_of_ble_eq_true rfl) (Nat.le_of_ble_eq_true rfl) ?_
  refine lv_dup hx hb dX1_init_19 rfl ?_
  refine x_callI (n := 0) (wr := [(h, .inr (1, [.ref q_1, .null, .null, .null, .null, .null, .int 0, .null, .null, .null])), (q_1, .inr (5, [.ref a1_2, .int 0, .int 0, .ref a2_3, .int 0, .int 0, .int 0, .int 0]))]) (As := []) (rest := [.ref q_4, .ref h]) hB hV (x_N hB) hl.1 (c_World_init l D cI cZ cS N0 q_4 ) k_106 k_59 k_273 k_105 rfl (by decide +kernel) ⟨(Nat.le_of_ble_eq_true rfl), (Nat.le_of_ble_eq_true rfl)⟩ rfl (Nat.le_of_ble_eq_true rfl) ⟨(Nat.le_of_ble_eq_true rfl), (Nat.le_of_ble_eq_true rfl)⟩ [2] [0, 1] rfl rfl rfl ⟨by decide, by decide, by decide⟩ dX1_init_20 (fun v w H locs hp hV => ?_)
  obtain ⟨a1_5, a2_6, rfl, rfl⟩ := hp
  have hV : Vx D A s.heap H locs [(h, .inr (1, [.ref q_1, .null, .null, .null, .null, .null, .int 0, .null, .null, .null])), (q_1, .inr (5, [.ref a1_2, .int 0, .int 0, .ref a2_3, .int 0, .int 0, .int 0, .int 0])), (q_4, .inr (5, [.ref a1_5, .int 0, .int 0, .ref a2_6, .int 0, .int 0, .int 0, .int 0]))] := hV
  refine W.eq (g2 := F0 m 23 ls [.ref q_4, .ref h]) rfl ?_
  refine x_putF (v := .ref q_4) hB hV hin 0 rfl rfl 1 (by decide) k_278 rfl rfl rfl rfl (Nat.le_of_ble_eq_true rfl) dX1_init_23 (fun H locs hV => ?_)
  have hV : Vx D A s.heap H locs [(h, .inr (1, [.ref q_1, .ref q_4, .null, .null, .null, .null, .int 0, .null, .null, .null])), (q_1, .inr (5, [.ref a1_2, .int 0, .int 0, .ref a2_3, .int 0, .int 0, .int 0, .int 0])), (q_4, .inr (5, [.ref a1_5, .int 0, .int 0, .ref a2_6, .int 0, .int 0, .int 0, .int 0]))] := hV
  refine lv_aload_n hx hb dX1_init_26 rfl (lv_at hl 0 rfl) ?_
  refine x_new (ci := 5) (fs := [.null, .int 0, .int 0, .null, .int 0, .int 0, .int 0, .int 0]) hB hV rfl k_272 k_103 k_59 (fnew_5) (Nat.le_of_ble_eq_true rfl) (Nat.le_of_ble_eq_true rfl) dX1_init_27 (fun q_7 H hV => ?_)
  have hV : Vx D A s.heap H locs [(h, .inr (1, [.ref q_1, .ref q_4, .null, .null, .null, .null, .int 0, .null, .null, .null])), (q_1, .inr (5, [.ref a1_2, .int 0, .int 0, .ref a2_3, .int 0, .int 0, .int 0, .int 0])), (q_4, .inr (5, [.ref a1_5, .int 0, .int 0, .ref a2_6, .int 0, .int 0, .int 0, .int 0])), (q_7, .inr (5, [.null, .int 0, .int 0, .null, .int 0, .int 0, .int 0, .int 0]))] := hV
  refine W.widen (k := 151) (n := 2584) (Nat.le_of_ble_eq_true rfl) (Nat.le_of_ble_eq_true rfl) ?_
  refine lv_dup hx hb dX1_init_30 rfl ?_
  refine x_callI (n := 0) (wr := [(h, .inr (1, [.ref q_1, .ref q_4, .null, .null, .null, .null, .int 0, .null, .null, .null])), (q_1, .inr (5, [.ref a1_2, .int 0, .int 0, .ref a2_3, .int 0, .int 0, .int 0, .int 0])), (q_4, .inr (5, [.ref a1_5, .int 0, .int 0, .ref a2_6, .int 0, .int 0, .int 0, .int 0]))]) (As := []) (rest := [.ref q_7, .ref h]) hB hV (x_N hB) hl.1 (c_World_init l D cI cZ cS N0 q_7 ) k_106 k_59 k_273 k_105 rfl (by decide +kernel) ⟨(Nat.le_of_ble_eq_true rfl), (Nat.le_of_ble_eq_true rfl)⟩ rfl (Nat.le_of_ble_eq_true rfl) ⟨(Nat.le_of_ble_eq_true rfl), (Nat.le_of_ble_eq_true rfl)⟩ [3] [0, 1, 2] rfl rfl rfl ⟨by decide, by decide, by decide⟩ dX1_init_31 (fun v w H locs hp hV => ?_)
  obtain ⟨a1_8, a2_9, rfl, rfl⟩ := hp
  have hV : Vx D A s.heap H locs [(h, .inr (1, [.ref q_1, .ref q_4, .null, .null, .null, .null, .int 0, .null, .null, .null])), (q_1, .inr (5, [.ref a1_2, .int 0, .int 0, .ref a2_3, .int 0, .int 0, .int 0, .int 0])), (q_4, .inr (5, [.ref a1_5, .int 0, .int 0, .ref a2_6, .int 0, .int 0, .int 0, .int 0])), (q_7, .inr (5, [.ref a1_8, .int 0, .int 0, .ref a2_9, .int 0, .int 0, .int 0, .int 0]))] := hV
  refine W.eq (g2 := F0 m 34 ls [.ref q_7, .ref h]) rfl ?_
  refine x_putF (v := .ref q_7) hB hV hin 0 rfl rfl 2 (by decide) k_279 rfl rfl rfl rfl (Nat.le_of_ble_eq_true rfl) dX1_init_34 (fun H locs hV => ?_)
  have hV : Vx D A s.heap H locs [(h, .inr (1, [.ref q_1, .ref q_4, .ref q_7, .null, .null, .null, .int 0, .null, .null, .null])), (q_1, .inr (5, [.ref a1_2, .int 0, .int 0, .ref a2_3, .int 0, .int 0, .int 0, .int 0])), (q_4, .inr (5, [.ref a1_5, .int 0, .int 0, .ref a2_6, .int 0, .int 0, .int 0, .int 0])), (q_7, .inr (5, [.ref a1_8, .int 0, .int 0, .ref a2_9, .int 0, .int 0, .int 0, .int 0]))] := hV
  refine lv_aload_n hx hb dX1_init_37 rfl (lv_at hl 0 rfl) ?_
  refine lv_bipush (v := 6) hx hb dX1_init_38 (by decide) ?_
  refine x_newi (N' := 6) hB hV k_101 (by decide) (by decide) (by decide) (Nat.le_of_ble_eq_true rfl) (Nat.le_of_ble_eq_true rfl) dX1_init_40 (fun q_10 H hV => ?_)
  have hV : Vx D A s.heap H locs [(h, .inr (1, [.ref q_1, .ref q_4, .ref q_7, .null, .null, .null, .int 0, .null, .null, .null])), (q_1, .inr (5, [.ref a1_2, .int 0, .int 0, .ref a2_3, .int 0, .int 0, .int 0, .int 0])), (q_4, .inr (5, [.ref a1_5, .int 0, .int 0, .ref a2_6, .int 0, .int 0, .int 0, .int 0])), (q_7, .inr (5, [.ref a1_8, .int 0, .int 0, .ref a2_9, .int 0, .int 0, .int 0, .int 0])), (q_10, .inl (cI, 6, .inl (fun _ => 0)))] := hV
  refine W.widen (k := 226) (n := 3870) (Nat.le_of_ble_eq_true rfl) (Nat.le_of_ble_eq_true rfl) ?_
  refine x_putF (v := .ref q_10) hB hV hin 0 rfl rfl 3 (by decide) k_280 rfl rfl rfl rfl (Nat.le_of_ble_eq_true rfl) dX1_init_42 (fun H locs hV => ?_)
  have hV : Vx D A s.heap H locs [(h, .inr (1, [.ref q_1, .ref q_4, .ref q_7, .ref q_10, .null, .null, .int 0, .null, .null, .null])), (q_1, .inr (5, [.ref a1_2, .int 0, .int 0, .ref a2_3, .int 0, .int 0, .int 0, .int 0])), (q_4, .inr (5, [.ref a1_5, .int 0, .int 0, .ref a2_6, .int 0, .int 0, .int 0, .int 0])), (q_7, .inr (5, [.ref a1_8, .int 0, .int 0, .ref a2_9, .int 0, .int 0, .int 0, .int 0])), (q_10, .inl (cI, 6, .inl (fun _ => 0)))] := hV
  refine lv_aload_n hx hb dX1_init_45 rfl (lv_at hl 0 rfl) ?_
  refine lv_bipush (v := 6) hx hb dX1_init_46 (by decide) ?_
  refine x_newi (N' := 6) hB hV k_101 (by decide) (by decide) (by decide) (Nat.le_of_ble_eq_true rfl) (Nat.le_of_ble_eq_true rfl) dX1_init_48 (fun q_11 H hV => ?_)
  have hV : Vx D A s.heap H locs [(h, .inr (1, [.ref q_1, .ref q_4, .ref q_7, .ref q_10, .null, .null, .int 0, .null, .null, .null])), (q_1, .inr (5, [.ref a1_2, .int 0, .int 0, .ref a2_3, .int 0, .int 0, .int 0, .int 0])), (q_4, .inr (5, [.ref a1_5, .int 0, .int 0, .ref a2_6, .int 0, .int 0, .int 0, .int 0])), (q_7, .inr (5, [.ref a1_8, .int 0, .int 0, .ref a2_9, .int 0, .int 0, .int 0, .int 0])), (q_10, .inl (cI, 6, .inl (fun _ => 0))), (q_11, .inl (cI, 6, .inl (fun _ => 0)))] := hV
  refine W.widen (k := 227) (n := 3876) (Nat.le_of_ble_eq_true rfl) (Nat.le_of_ble_eq_true rfl) ?_
  refine x_putF (v := .ref q_11) hB hV hin 0 rfl rfl 4 (by decide) k_281 rfl rfl rfl rfl (Nat.le_of_ble_eq_true rfl) dX1_init_50 (fun H locs hV => ?_)
  have hV : Vx D A s.heap H locs [(h, .inr (1, [.ref q_1, .ref q_4, .ref q_7, .ref q_10, .ref q_11, .null, .int 0, .null, .null, .null])), (q_1, .inr (5, [.ref a1_2, .int 0, .int 0, .ref a2_3, .int 0, .int 0, .int 0, .int 0])), (q_4, .inr (5, [.ref a1_5, .int 0, .int 0, .ref a2_6, .int 0, .int 0, .int 0, .int 0])), (q_7, .inr (5, [.ref a1_8, .int 0, .int 0, .ref a2_9, .int 0, .int 0, .int 0, .int 0])), (q_10, .inl (cI, 6, .inl (fun _ => 0))), (q_11, .inl (cI, 6, .inl (fun _ => 0)))] := hV
  refine lv_aload_n hx hb dX1_init_53 rfl (lv_at hl 0 rfl) ?_
  refine lv_bipush (v := 6) hx hb dX1_init_54 (by decide) ?_
  refine x_newi (N' := 6) hB hV k_101 (by decide) (by decide) (by decide) (Nat.le_of_ble_eq_true rfl) (Nat.le_of_ble_eq_true rfl) dX1_init_56 (fun q_12 H hV => ?_)
  have hV : Vx D A s.heap H locs [(h, .inr (1, [.ref q_1, .ref q_4, .ref q_7, .ref q_10, .ref q_11, .null, .int 0, .null, .null, .null])), (q_1, .inr (5, [.ref a1_2, .int 0, .int 0, .ref a2_3, .int 0, .int 0, .int 0, .int 0])), (q_4, .inr (5, [.ref a1_5, .int 0, .int 0, .ref a2_6, .int 0, .int 0, .int 0, .int 0])), (q_7, .inr (5, [.ref a1_8, .int 0, .int 0, .ref a2_9, .int 0, .int 0, .int 0, .int 0])), (q_10, .inl (cI, 6, .inl (fun _ => 0))), (q_11, .inl (cI, 6, .inl (fun _ => 0))), (q_12, .inl (cI, 6, .inl (fun _ => 0)))] := hV
  refine W.widen (k := 228) (n := 3882) (Nat.le_of_ble_eq_true rfl) (Nat.le_of_ble_eq_true rfl) ?_
  refine x_putF (v := .ref q_12) hB hV hin 0 rfl rfl 5 (by decide) k_282 rfl rfl rfl rfl (Nat.le_of_ble_eq_true rfl) dX1_init_58 (fun H locs hV => ?_)
  have hV : Vx D A s.heap H locs [(h, .inr (1, [.ref q_1, .ref q_4, .ref q_7, .ref q_10, .ref q_11, .ref q_12, .int 0, .null, .null, .null])), (q_1, .inr (5, [.ref a1_2, .int 0, .int 0, .ref a2_3, .int 0, .int 0, .int 0, .int 0])), (q_4, .inr (5, [.ref a1_5, .int 0, .int 0, .ref a2_6, .int 0, .int 0, .int 0, .int 0])), (q_7, .inr (5, [.ref a1_8, .int 0, .int 0, .ref a2_9, .int 0, .int 0, .int 0, .int 0])), (q_10, .inl (cI, 6, .inl (fun _ => 0))), (q_11, .inl (cI, 6, .inl (fun _ => 0))), (q_12, .inl (cI, 6, .inl (fun _ => 0)))] := hV
  refine lv_aload_n hx hb dX1_init_61 rfl (lv_at hl 0 rfl) ?_
  refine lv_iconst (v := 0) hx hb dX1_init_62 (by decide) ?_
  refine x_put (v := .int 0) hB hV 0 rfl rfl 6 (by decide) k_283 rfl rfl rfl (Nat.le_of_ble_eq_true rfl) dX1_init_63 (fun H locs hV => ?_)
  have hV : Vx D A s.heap H locs [(h, .inr (1, [.ref q_1, .ref q_4, .ref q_7, .ref q_10, .ref q_11, .ref q_12, .int 0, .null, .null, .null])), (q_1, .inr (5, [.ref a1_2, .int 0, .int 0, .ref a2_3, .int 0, .int 0, .int 0, .int 0])), (q_4, .inr (5, [.ref a1_5, .int 0, .int 0, .ref a2_6, .int 0, .int 0, .int 0, .int 0])), (q_7, .inr (5, [.ref a1_8, .int 0, .int 0, .ref a2_9, .int 0, .int 0, .int 0, .int 0])), (q_10, .inl (cI, 6, .inl (fun _ => 0))), (q_11, .inl (cI, 6, .inl (fun _ => 0))), (q_12, .inl (cI, 6, .inl (fun _ => 0)))] := hV
  refine lv_aload_n hx hb dX1_init_66 rfl (lv_at hl 0 rfl) ?_
  refine lv_bipush (v := 25) hx hb dX1_init_67 (by decide) ?_
  refine lv_sipush (v := 325) hx hb dX1_init_69 (by decide) ?_
  refine x_mna (N' := 25) (K' := 325) hB hV k_274 k_101 (by decide) (by decide) (by decide) (by decide) (by decide) (by decide) (Nat.le_of_ble_eq_true rfl) (Nat.le_of_ble_eq_true rfl) dX1_init_72 (fun q_13 H locs hV => ?_)
  refine W.widen (k := 254) (n := 12032) (Nat.le_of_ble_eq_true rfl) (Nat.le_of_ble_eq_true rfl) ?_
  refine x_putF (v := .ref q_13) hB hV hin 0 rfl rfl 7 (by decide) k_284 rfl rfl rfl rfl (Nat.le_of_ble_eq_true rfl) dX1_init_76 (fun H locs hV => ?_)
  have hV : Vx D A s.heap H locs [(h, .inr (1, [.ref q_1, .ref q_4, .ref q_7, .ref q_10, .ref q_11, .ref q_12, .int 0, .ref q_13, .null, .null])), (q_1, .inr (5, [.ref a1_2, .int 0, .int 0, .ref a2_3, .int 0, .int 0, .int 0, .int 0])), (q_4, .inr (5, [.ref a1_5, .int 0, .int 0, .ref a2_6, .int 0, .int 0, .int 0, .int 0])), (q_7, .inr (5, [.ref a1_8, .int 0, .int 0, .ref a2_9, .int 0, .int 0, .int 0, .int 0])), (q_10, .inl (cI, 6, .inl (fun _ => 0))), (q_11, .inl (cI, 6, .inl (fun _ => 0))), (q_12, .inl (cI, 6, .inl (fun _ => 0)))] := hV
  refine lv_aload_n hx hb dX1_init_79 rfl (lv_at hl 0 rfl) ?_
  refine lv_iconst (v := 5) hx hb dX1_init_80 (by decide) ?_
  refine x_newi (N' := 5) hB hV k_101 (by decide) (by decide) (by decide) (Nat.le_of_ble_eq_true rfl) (Nat.le_of_ble_eq_true rfl) dX1_init_81 (fun q_14 H hV => ?_)
  have hV : Vx D A s.heap H locs [(h, .inr (1, [.ref q_1, .ref q_4, .ref q_7, .ref q_10, .ref q_11, .ref q_12, .int 0, .ref q_13, .null, .null])), (q_1, .inr (5, [.ref a1_2, .int 0, .int 0, .ref a2_3, .int 0, .int 0, .int 0, .int 0])), (q_4, .inr (5, [.ref a1_5, .int 0, .int 0, .ref a2_6, .int 0, .int 0, .int 0, .int 0])), (q_7, .inr (5, [.ref a1_8, .int 0, .int 0, .ref a2_9, .int 0, .int 0, .int 0, .int 0])), (q_10, .inl (cI, 6, .inl (fun _ => 0))), (q_11, .inl (cI, 6, .inl (fun _ => 0))), (q_12, .inl (cI, 6, .inl (fun _ => 0))), (q_14, .inl (cI, 5, .inl (fun _ => 0)))] := hV
  refine W.widen (k := 255) (n := 12037) (Nat.le_of_ble_eq_true rfl) (Nat.le_of_ble_eq_true rfl) ?_
  refine x_putF (v := .ref q_14) hB hV hin 0 rfl rfl 8 (by decide) k_285 rfl rfl rfl rfl (Nat.le_of_ble_eq_true rfl) dX1_init_83 (fun H locs hV => ?_)
  have hV : Vx D A s.heap H locs [(h, .inr (1, [.ref q_1, .ref q_4, .ref q_7, .ref q_10, .ref q_11, .ref q_12, .int 0, .ref q_13, .ref q_14, .null])), (q_1, .inr (5, [.ref a1_2, .int 0, .int 0, .ref a2_3, .int 0, .int 0, .int 0, .int 0])), (q_4, .inr (5, [.ref a1_5, .int 0, .int 0, .ref a2_6, .int 0, .int 0, .int 0, .int 0])), (q_7, .inr (5, [.ref a1_8, .int 0, .int 0, .ref a2_9, .int 0, .int 0, .int 0, .int 0])), (q_10, .inl (cI, 6, .inl (fun _ => 0))), (q_11, .inl (cI, 6, .inl (fun _ => 0))), (q_12, .inl (cI, 6, .inl (fun _ => 0))), (q_14, .inl (cI, 5, .inl (fun _ => 0)))] := hV
  refine lv_aload_n hx hb dX1_init_86 rfl (lv_at hl 0 rfl) ?_
  refine lv_iconst (v := 4) hx hb dX1_init_87 (by decide) ?_
  refine x_newi (N' := 4) hB hV k_101 (by decide) (by decide) (by decide) (Nat.le_of_ble_eq_true rfl) (Nat.le_of_ble_eq_true rfl) dX1_init_88 (fun q_15 H hV => ?_)
  have hV : Vx D A s.heap H locs [(h, .inr (1, [.ref q_1, .ref q_4, .ref q_7, .ref q_10, .ref q_11, .ref q_12, .int 0, .ref q_13, .ref q_14, .null])), (q_1, .inr (5, [.ref a1_2, .int 0, .int 0, .ref a2_3, .int 0, .int 0, .int 0, .int 0])), (q_4, .inr (5, [.ref a1_5, .int 0, .int 0, .ref a2_6, .int 0, .int 0, .int 0, .int 0])), (q_7, .inr (5, [.ref a1_8, .int 0, .int 0, .ref a2_9, .int 0, .int 0, .int 0, .int 0])), (q_10, .inl (cI, 6, .inl (fun _ => 0))), (q_11, .inl (cI, 6, .inl (fun _ => 0))), (q_12, .inl (cI, 6, .inl (fun _ => 0))), (q_14, .inl (cI, 5, .inl (fun _ => 0))), (q_15, .inl (cI, 4, .inl (fun _ => 0)))] := hV
  refine W.widen (k := 256) (n := 12041) (Nat.le_of_ble_eq_true rfl) (Nat.le_of_ble_eq_true rfl) ?_
  refine x_putF (v := .ref q_15) hB hV hin 0 rfl rfl 9 (by decide) k_286 rfl rfl rfl rfl (Nat.le_of_ble_eq_true rfl) dX1_init_90 (fun H locs hV => ?_)
  have hV : Vx D A s.heap H locs [(h, .inr (1, [.ref q_1, .ref q_4, .ref q_7, .ref q_10, .ref q_11, .ref q_12, .int 0, .ref q_13, .ref q_14, .ref q_15])), (q_1, .inr (5, [.ref a1_2, .int 0, .int 0, .ref a2_3, .int 0, .int 0, .int 0, .int 0])), (q_4, .inr (5, [.ref a1_5, .int 0, .int 0, .ref a2_6, .int 0, .int 0, .int 0, .int 0])), (q_7, .inr (5, [.ref a1_8, .int 0, .int 0, .ref a2_9, .int 0, .int 0, .int 0, .int 0])), (q_10, .inl (cI, 6, .inl (fun _ => 0))), (q_11, .inl (cI, 6, .inl (fun _ => 0))), (q_12, .inl (cI, 6, .inl (fun _ => 0))), (q_14, .inl (cI, 5, .inl (fun _ => 0))), (q_15, .inl (cI, 4, .inl (fun _ => 0)))] := hV
  exact x_vret (w := [(h, .inr (1, [.ref q_1, .ref q_4, .ref q_7, .ref q_10, .ref q_11, .ref q_12, .int 0, .ref q_13, .ref q_14, .ref q_15])), (q_1, .inr (5, [.ref a1_2, .int 0, .int 0, .ref a2_3, .int 0, .int 0, .int 0, .int 0])), (q_4, .inr (5, [.ref a1_5, .int 0, .int 0, .ref a2_6, .int 0, .int 0, .int 0, .int 0])), (q_7, .inr (5, [.ref a1_8, .int 0, .int 0, .ref a2_9, .int 0, .int 0, .int 0, .int 0]))]) hB hr hV hA (Nat.le_of_ble_eq_true rfl) (Nat.le_of_ble_eq_true rfl) [0, 1, 2, 3] rfl rfl (by decide) dX1_init_93 ⟨q_1, q_4, q_7, a1_2, a2_3, a1_5, a2_6, a1_8, a2_9, q_10, q_11, q_12, q_13, q_14, q_15, rfl, rfl⟩
set_option maxHeartbeats 4000000 in
set_option maxRecDepth 100000 in
theorem c_TwiceOnce_init (l : Launch) (D : va_G) (cI cZ cS : ClassId) (N0 : NT) (h : Nat)  : Mx l D cI cZ cS N0 yX6_init cX6_init 2 none 5 343 13533 [.ref h] [(h, .inr (6, [.null, .null, .null, .null, .null, .null, .int 0]))] (fun v w => ∃ (tp : Nat) (nw : Nat) (rw : Nat) (lg : Nat) (jd : Nat) (pr : Nat) (byt : Nat) (n1 : Nat) (n2 : Nat) (r1 : Nat) (r2 : Nat) (r3 : Nat) (l1 : Nat) (l2 : Nat) (l3 : Nat) (s1 : Nat) (s2 : Nat) (s3 : Nat) (s4 : Nat) (s5 : Nat) (s6 : Nat) (s7 : Nat) (s8 : Nat) (s9 : Nat) (b1 : Nat) (b2 : Nat) (b3 : Nat) (b4 : Nat) (b5 : Nat) (b6 : Nat), v = none ∧ w = ([(h, .inr (6, [.ref tp, .ref nw, .ref rw, .ref lg, .ref jd, .ref pr, .int 0])), (tp, .inr (4, [.ref byt, .int 0, .int 0, .int 0])), (byt, .inl (cI, 100, .inl (fun _ => 0))), (nw, .inr (5, [.ref n1, .int 0, .int 0, .ref n2, .int 0, .int 0, .int 0, .int 0])), (rw, .inr (0, [.ref r1, .ref r2, .ref r3, .int 0])), (lg, .inr (0, [.ref l1, .ref l2, .ref l3, .int 0])), (jd, .inr (1, [.ref s1, .ref s2, .ref s3, .ref b1, .ref b2, .ref b3, .int 0, .ref b4, .ref b5, .ref b6])), (s1, .inr (5, [.ref s4, .int 0, .int 0, .ref s5, .int 0, .int 0, .int 0, .int 0])), (s2, .inr (5, [.ref s6, .int 0, .int 0, .ref s7, .int 0, .int 0, .int 0, .int 0])), (s3, .inr (5, [.ref s8, .int 0, .int 0, .ref s9, .int 0, .int 0, .int 0, .int 0])), (pr, .inl (cI, 4, .inl (upd (upd (upd (upd (fun _ => 0) 0 1) 1 1) 2 1) 3 1)))] : va_W)) := by
  refine x_enter (by decide) (Nat.le_of_ble_eq_true rfl) ?_
  intro p e s m args below meth c A ls H locs hB hr hin hl hV hA
  have hx := hB.1
  have hb := hB.2.1
  have hl : lv_has ls 2 [(0, .ref h)] := hl
  refine lv_aload_n hx hb dX6_init_0 rfl (lv_at hl 0 rfl) ?_
  refine x_oinit hB k_77 k_78 k_79 hl.1 dX6_init_1 (Nat.le_of_ble_eq_true rfl) (Nat.le_of_ble_eq_true rfl) ?_
  refine lv_aload_n hx hb dX6_init_4 rfl (lv_at hl 0 rfl) ?_
  refine x_new (ci := 4) (fs := [.null, .int 0, .int 0, .int 0]) hB hV rfl k_80 k_81 k_58 (fnew_4) (Nat.le_of_ble_eq_true rfl) (Nat.le_of_ble_eq_true rfl) dX6_init_5 (fun q_1 H hV => ?_)
  have hV : Vx D A s.heap H locs [(h, .inr (6, [.null, .null, .null, .null, .null, .null, .int 0])), (q_1, .inr (4, [.null, .int 0, .int 0, .int 0]))] := hV
  refine W.widen (k := 1) (n := 4) (Nat.le_of_ble_eq_true rfl) (Nat.le_of_ble_eq_true rfl) ?_
  refine lv_dup hx hb dX6_init_8 rfl ?_
  refine x_callIN (n := 0) (host := RX6) (wr := [(h, .inr (6, [.null, .null, .null, .null, .null, .null, .int 0]))]) (As := []) (rest := [.ref q_1, .ref h]) hB hV (x_N hB) hl.1 (c_Tape_init l D cI cZ cS N0 q_1 ) k_84 k_58 hB.2.2.2.2.2.2.2.2.1.1 k_83 rfl (by decide +kernel) ⟨(Nat.le_of_ble_eq_true rfl), (Nat.le_of_ble_eq_true rfl)⟩ rfl (Nat.le_of_ble_eq_true rfl) ⟨(Nat.le_of_ble_eq_true rfl), (Nat.le_of_ble_eq_true rfl)⟩ [1] [0] rfl rfl rfl ⟨by decide, by decide, by decide⟩ dX6_init_9 (fun v w H locs hp hV => ?_)
  obtain ⟨a1_2, rfl, rfl⟩ := hp
  have hV : Vx D A s.heap H locs [(h, .inr (6, [.null, .null, .null, .null, .null, .null, .int 0])), (q_1, .inr (4, [.ref a1_2, .int 0, .int 0, .int 0])), (a1_2, .inl (cI, 100, .inl (fun _ => 0)))] := hV
  refine W.eq (g2 := F0 m 12 ls [.ref q_1, .ref h]) rfl ?_
  refine x_putF (v := .ref q_1) hB hV hin 0 rfl rfl 0 (by decide) k_308 rfl rfl rfl rfl (Nat.le_of_ble_eq_true rfl) dX6_init_12 (fun H locs hV => ?_)
  have hV : Vx D A s.heap H locs [(h, .inr (6, [.ref q_1, .null, .null, .null, .null, .null, .int 0])), (q_1, .inr (4, [.ref a1_2, .int 0, .int 0, .int 0])), (a1_2, .inl (cI, 100, .inl (fun _ => 0)))] := hV
  refine lv_aload_n hx hb dX6_init_15 rfl (lv_at hl 0 rfl) ?_
  refine x_new (ci := 5) (fs := [.null, .int 0, .int 0, .null, .int 0, .int 0, .int 0, .int 0]) hB hV rfl k_102 k_103 k_59 (fnew_5) (Nat.le_of_ble_eq_true rfl) (Nat.le_of_ble_eq_true rfl) dX6_init_16 (fun q_3 H hV => ?_)
  have hV : Vx D A s.heap H locs [(h, .inr (6, [.ref q_1, .null, .null, .null, .null, .null, .int 0])), (q_1, .inr (4, [.ref a1_2, .int 0, .int 0, .int 0])), (a1_2, .inl (cI, 100, .inl (fun _ => 0))), (q_3, .inr (5, [.null, .int 0, .int 0, .null, .int 0, .int 0, .int 0, .int 0]))] := hV
  refine W.widen (k := 3) (n := 112) (Nat.le_of_ble_eq_true rfl) (Nat.le_of_ble_eq_true rfl) ?_
  refine lv_dup hx hb dX6_init_19 rfl ?_
  refine x_callI (n := 0) (wr := [(h, .inr (6, [.ref q_1, .null, .null, .null, .null, .null, .int 0])), (q_1, .inr (4, [.ref a1_2, .int 0, .int 0, .int 0])), (a1_2, .inl (cI, 100, .inl (fun _ => 0)))]) (As := []) (rest := [.ref q_3, .ref h]) hB hV (x_N hB) hl.1 (c_World_init l D cI cZ cS N0 q_3 ) k_106 k_59 k_104 k_105 rfl (by decide +kernel) ⟨(Nat.le_of_ble_eq_true rfl), (Nat.le_of_ble_eq_true rfl)⟩ rfl (Nat.le_of_ble_eq_true rfl) ⟨(Nat.le_of_ble_eq_true rfl), (Nat.le_of_ble_eq_true rfl)⟩ [3] [0, 1, 2] rfl rfl rfl ⟨by decide, by decide, by decide⟩ dX6_init_20 (fun v w H locs hp hV => ?_)
  obtain ⟨a1_4, a2_5, rfl, rfl⟩ := hp
  have hV : Vx D A s.heap H locs [(h, .inr (6, [.ref q_1, .null, .null, .null, .null, .null, .int 0])), (q_1, .inr (4, [.ref a1_2, .int 0, .int 0, .int 0])), (a1_2, .inl (cI, 100, .inl (fun _ => 0))), (q_3, .inr (5, [.ref a1_4, .int 0, .int 0, .ref a2_5, .int 0, .int 0, .int 0, .int 0]))] := hV
  refine W.eq (g2 := F0 m 23 ls [.ref q_3, .ref h]) rfl ?_
  refine x_putF (v := .ref q_3) hB hV hin 0 rfl rfl 1 (by decide) k_309 rfl rfl rfl rfl (Nat.le_of_ble_eq_true rfl) dX6_init_23 (fun H locs hV => ?_)
  have hV : Vx D A s.heap H locs [(h, .inr (6, [.ref q_1, .ref q_3, .null, .null, .null, .null, .int 0])), (q_1, .inr (4, [.ref a1_2, .int 0, .int 0, .int 0])), (a1_2, .inl (cI, 100, .inl (fun _ => 0))), (q_3, .inr (5, [.ref a1_4, .int 0, .int 0, .ref a2_5, .int 0, .int 0, .int 0, .int 0]))] := hV
  refine lv_aload_n hx hb dX6_init_26 rfl (lv_at hl 0 rfl) ?_
  refine x_new (ci := 0) (fs := [.null, .null, .null, .int 0]) hB hV rfl k_234 k_235 k_62 (fnew_0) (Nat.le_of_ble_eq_true rfl) (Nat.le_of_ble_eq_true rfl) dX6_init_27 (fun q_6 H hV => ?_)
  have hV : Vx D A s.heap H locs [(h, .inr (6, [.ref q_1, .ref q_3, .null, .null, .null, .null, .int 0])), (q_1, .inr (4, [.ref a1_2, .int 0, .int 0, .int 0])), (a1_2, .inl (cI, 100, .inl (fun _ => 0))), (q_3, .inr (5, [.ref a1_4, .int 0, .int 0, .ref a2_5, .int 0, .int 0, .int 0, .int 0])), (q_6, .inr (0, [.null, .null, .null, .int 0]))] := hV
  refine W.widen (k := 78) (n := 1396) (Nat.le_of_ble_eq_true rfl) (Nat.le_of_ble_eq_true rfl) ?_
  refine lv_dup hx hb dX6_init_30 rfl ?_
  refine lv_bipush (v := 6) hx hb dX6_init_31 (by decide) ?_
  refine x_callI (n := 1) (wr := [(h, .inr (6, [.ref q_1, .ref q_3, .null, .null, .null, .null, .int 0])), (q_1, .inr (4, [.ref a1_2, .int 0, .int 0, .int 0])), (a1_2, .inl (cI, 100, .inl (fun _ => 0))), (q_3, .inr (5, [.ref a1_4, .int 0, .int 0, .ref a2_5, .int 0, .int 0, .int 0, .int 0]))]) (As := [.int 6]) (rest := [.ref q_6, .ref h]) hB hV (x_N hB) hl.1 (c_CallList_init l D cI cZ cS N0 q_6 ) k_238 k_62 k_236 k_237 rfl (by decide +kernel) ⟨(Nat.le_of_ble_eq_true rfl), (Nat.le_of_ble_eq_true rfl)⟩ rfl (Nat.le_of_ble_eq_true rfl) ⟨(Nat.le_of_ble_eq_true rfl), (Nat.le_of_ble_eq_true rfl)⟩ [4] [0, 1, 2, 3] rfl rfl rfl ⟨by decide, by decide, by decide⟩ dX6_init_33 (fun v w H locs hp hV => ?_)
  obtain ⟨a1_7, a2_8, a3_9, rfl, rfl⟩ := hp
  have hV : Vx D A s.heap H locs [(h, .inr (6, [.ref q_1, .ref q_3, .null, .null, .null, .null, .int 0])), (q_1, .inr (4, [.ref a1_2, .int 0, .int 0, .int 0])), (a1_2, .inl (cI, 100, .inl (fun _ => 0))), (q_3, .inr (5, [.ref a1_4, .int 0, .int 0, .ref a2_5, .int 0, .int 0, .int 0, .int 0])), (q_6, .inr (0, [.ref a1_7, .ref a2_8, .ref a3_9, .int 0]))] := hV
  refine W.eq (g2 := F0 m 36 ls [.ref q_6, .ref h]) rfl ?_
  refine x_putF (v := .ref q_6) hB hV hin 0 rfl rfl 2 (by decide) k_310 rfl rfl rfl rfl (Nat.le_of_ble_eq_true rfl) dX6_init_36 (fun H locs hV => ?_)
  have hV : Vx D A s.heap H locs [(h, .inr (6, [.ref q_1, .ref q_3, .ref q_6, .null, .null, .null, .int 0])), (q_1, .inr (4, [.ref a1_2, .int 0, .int 0, .int 0])), (a1_2, .inl (cI, 100, .inl (fun _ => 0))), (q_3, .inr (5, [.ref a1_4, .int 0, .int 0, .ref a2_5, .int 0, .int 0, .int 0, .int 0])), (q_6, .inr (0, [.ref a1_7, .ref a2_8, .ref a3_9, .int 0]))] := hV
  refine lv_aload_n hx hb dX6_init_39 rfl (lv_at hl 0 rfl) ?_
  refine x_new (ci := 0) (fs := [.null, .null, .null, .int 0]) hB hV rfl k_234 k_235 k_62 (fnew_0) (Nat.le_of_ble_eq_true rfl) (Nat.le_of_ble_eq_true rfl) dX6_init_40 (fun q_10 H hV => ?_)
  have hV : Vx D A s.heap H locs [(h, .inr (6, [.ref q_1, .ref q_3, .ref q_6, .null, .null, .null, .int 0])), (q_1, .inr (4, [.ref a1_2, .int 0, .int 0, .int 0])), (a1_2, .inl (cI, 100, .inl (fun _ => 0))), (q_3, .inr (5, [.ref a1_4, .int 0, .int 0, .ref a2_5, .int 0, .int 0, .int 0, .int 0])), (q_6, .inr (0, [.ref a1_7, .ref a2_8, .ref a3_9, .int 0])), (q_10, .inr (0, [.null, .null, .null, .int 0]))] := hV
  refine W.widen (k := 82) (n := 1418) (Nat.le_of_ble_eq_true rfl) (Nat.le_of_ble_eq_true rfl) ?_
  refine lv_dup hx hb dX6_init_43 rfl ?_
  refine lv_bipush (v := 20) hx hb dX6_init_44 (by decide) ?_
  refine x_callI (n := 1) (wr := [(h, .inr (6, [.ref q_1, .ref q_3, .ref q_6, .null, .null, .null, .int 0])), (q_1, .inr (4, [.ref a1_2, .int 0, .int 0, .int 0])), (a1_2, .inl (cI, 100, .inl (fun _ => 0))), (q_3, .inr (5, [.ref a1_4, .int 0, .int 0, .ref a2_5, .int 0, .int 0, .int 0, .int 0])), (q_6, .inr (0, [.ref a1_7, .ref a2_8, .ref a3_9, .int 0]))]) (As := [.int 20]) (rest := [.ref q_10, .ref h]) hB hV (x_N hB) hl.1 (c_CallList_init20 l D cI cZ cS N0 q_10 ) k_238 k_62 k_236 k_237 rfl (by decide +kernel) ⟨(Nat.le_of_ble_eq_true rfl), (Nat.le_of_ble_eq_true rfl)⟩ rfl (Nat.le_of_ble_eq_true rfl) ⟨(Nat.le_of_ble_eq_true rfl), (Nat.le_of_ble_eq_true rfl)⟩ [5] [0, 1, 2, 3, 4] rfl rfl rfl ⟨by decide, by decide, by decide⟩ dX6_init_46 (fun v w H locs hp hV => ?_)
  obtain ⟨a1_11, a2_12, a3_13, rfl, rfl⟩ := hp
  have hV : Vx D A s.heap H locs [(h, .inr (6, [.ref q_1, .ref q_3, .ref q_6, .null, .null, .null, .int 0])), (q_1, .inr (4, [.ref a1_2, .int 0, .int 0, .int 0])), (a1_2, .inl (cI, 100, .inl (fun _ => 0))), (q_3, .inr (5, [.ref a1_4, .int 0, .int 0, .ref a2_5, .int 0, .int 0, .int 0, .int 0])), (q_6, .inr (0, [.ref a1_7, .ref a2_8, .ref a3_9, .int 0])), (q_10, .inr (0, [.ref a1_11, .ref a2_12, .ref a3_13, .int 0]))] := hV
  refine W.eq (g2 := F0 m 49 ls [.ref q_10, .ref h]) rfl ?_
  refine x_putF (v := .ref q_10) hB hV hin 0 rfl rfl 3 (by decide) k_311 rfl rfl rfl rfl (Nat.le_of_ble_eq_true rfl) dX6_init_49 (fun H locs hV => ?_)
  have hV : Vx D A s.heap H locs [(h, .inr (6, [.ref q_1, .ref q_3, .ref q_6, .ref q_10, .null, .null, .int 0])), (q_1, .inr (4, [.ref a1_2, .int 0, .int 0, .int 0])), (a1_2, .inl (cI, 100, .inl (fun _ => 0))), (q_3, .inr (5, [.ref a1_4, .int 0, .int 0, .ref a2_5, .int 0, .int 0, .int 0, .int 0])), (q_6, .inr (0, [.ref a1_7, .ref a2_8, .ref a3_9, .int 0])), (q_10, .inr (0, [.ref a1_11, .ref a2_12, .ref a3_13, .int 0]))] := hV
  refine lv_aload_n hx hb dX6_init_52 rfl (lv_at hl 0 rfl) ?_
  refine x_new (ci := 1) (fs := [.null, .null, .null, .null, .null, .null, .int 0, .null, .null, .null]) hB hV rfl k_266 k_267 k_64 (fnew_1) (Nat.le_of_ble_eq_true rfl) (Nat.le_of_ble_eq_true rfl) dX6_init_53 (fun q_14 H hV => ?_)
  have hV : Vx D A s.heap H locs [(h, .inr (6, [.ref q_1, .ref q_3, .ref q_6, .ref q_10, .null, .null, .int 0])), (q_1, .inr (4, [.ref a1_2, .int 0, .int 0, .int 0])), (a1_2, .inl (cI, 100, .inl (fun _ => 0))), (q_3, .inr (5, [.ref a1_4, .int 0, .int 0, .ref a2_5, .int 0, .int 0, .int 0, .int 0])), (q_6, .inr (0, [.ref a1_7, .ref a2_8, .ref a3_9, .int 0])), (q_10, .inr (0, [.ref a1_11, .ref a2_12, .ref a3_13, .int 0])), (q_14, .inr (1, [.null, .null, .null, .null, .null, .null, .int 0, .null, .null, .null]))] := hV
  refine W.widen (k := 86) (n := 1488) (Nat.le_of_ble_eq_true rfl) (Nat.le_of_ble_eq_true rfl) ?_
  refine lv_dup hx hb dX6_init_56 rfl ?_
  refine x_callIN (n := 0) (host := RX6) (wr := [(h, .inr (6, [.ref q_1, .ref q_3, .ref q_6, .ref q_10, .null, .null, .int 0])), (q_1, .inr (4, [.ref a1_2, .int 0, .int 0, .int 0])), (a1_2, .inl (cI, 100, .inl (fun _ => 0))), (q_3, .inr (5, [.ref a1_4, .int 0, .int 0, .ref a2_5, .int 0, .int 0, .int 0, .int 0])), (q_6, .inr (0, [.ref a1_7, .ref a2_8, .ref a3_9, .int 0])), (q_10, .inr (0, [.ref a1_11, .ref a2_12, .ref a3_13, .int 0]))]) (As := []) (rest := [.ref q_14, .ref h]) hB hV (x_N hB) hl.1 (c_Judge_init l D cI cZ cS N0 q_14 ) k_270 k_64 hB.2.2.2.2.2.2.2.2.1.2.2.2.1 k_269 rfl (by decide +kernel) ⟨(Nat.le_of_ble_eq_true rfl), (Nat.le_of_ble_eq_true rfl)⟩ rfl (Nat.le_of_ble_eq_true rfl) ⟨(Nat.le_of_ble_eq_true rfl), (Nat.le_of_ble_eq_true rfl)⟩ [6] [0, 1, 2, 3, 4, 5] rfl rfl rfl ⟨by decide, by decide, by decide⟩ dX6_init_57 (fun v w H locs hp hV => ?_)
  obtain ⟨s1_15, s2_16, s3_17, s4_18, s5_19, s6_20, s7_21, s8_22, s9_23, b1_24, b2_25, b3_26, b4_27, b5_28, b6_29, rfl, rfl⟩ := hp
  have hV : Vx D A s.heap H locs [(h, .inr (6, [.ref q_1, .ref q_3, .ref q_6, .ref q_10, .null, .null, .int 0])), (q_1, .inr (4, [.ref a1_2, .int 0, .int 0, .int 0])), (a1_2, .inl (cI, 100, .inl (fun _ => 0))), (q_3, .inr (5, [.ref a1_4, .int 0, .int 0, .ref a2_5, .int 0, .int 0, .int 0, .int 0])), (q_6, .inr (0, [.ref a1_7, .ref a2_8, .ref a3_9, .int 0])), (q_10, .inr (0, [.ref a1_11, .ref a2_12, .ref a3_13, .int 0])), (q_14, .inr (1, [.ref s1_15, .ref s2_16, .ref s3_17, .ref b1_24, .ref b2_25, .ref b3_26, .int 0, .ref b4_27, .ref b5_28, .ref b6_29])), (s1_15, .inr (5, [.ref s4_18, .int 0, .int 0, .ref s5_19, .int 0, .int 0, .int 0, .int 0])), (s2_16, .inr (5, [.ref s6_20, .int 0, .int 0, .ref s7_21, .int 0, .int 0, .int 0, .int 0])), (s3_17, .inr (5, [.ref s8_22, .int 0, .int 0, .ref s9_23, .int 0, .int 0, .int 0, .int 0]))] := hV
  refine W.eq (g2 := F0 m 60 ls [.ref q_14, .ref h]) rfl ?_
  refine x_putF (v := .ref q_14) hB hV hin 0 rfl rfl 4 (by decide) k_312 rfl rfl rfl rfl (Nat.le_of_ble_eq_true rfl) dX6_init_60 (fun H locs hV => ?_)
  have hV : Vx D A s.heap H locs [(h, .inr (6, [.ref q_1, .ref q_3, .ref q_6, .ref q_10, .ref q_14, .null, .int 0])), (q_1, .inr (4, [.ref a1_2, .int 0, .int 0, .int 0])), (a1_2, .inl (cI, 100, .inl (fun _ => 0))), (q_3, .inr (5, [.ref a1_4, .int 0, .int 0, .ref a2_5, .int 0, .int 0, .int 0, .int 0])), (q_6, .inr (0, [.ref a1_7, .ref a2_8, .ref a3_9, .int 0])), (q_10, .inr (0, [.ref a1_11, .ref a2_12, .ref a3_13, .int 0])), (q_14, .inr (1, [.ref s1_15, .ref s2_16, .ref s3_17, .ref b1_24, .ref b2_25, .ref b3_26, .int 0, .ref b4_27, .ref b5_28, .ref b6_29])), (s1_15, .inr (5, [.ref s4_18, .int 0, .int 0, .ref s5_19, .int 0, .int 0, .int 0, .int 0])), (s2_16, .inr (5, [.ref s6_20, .int 0, .int 0, .ref s7_21, .int 0, .int 0, .int 0, .int 0])), (s3_17, .inr (5, [.ref s8_22, .int 0, .int 0, .ref s9_23, .int 0, .int 0, .int 0, .int 0]))] := hV
  refine lv_aload_n hx hb dX6_init_63 rfl (lv_at hl 0 rfl) ?_
  refine lv_iconst (v := 4) hx hb dX6_init_64 (by decide) ?_
  refine x_newi (N' := 4) hB hV k_101 (by decide) (by decide) (by decide) (Nat.le_of_ble_eq_true rfl) (Nat.le_of_ble_eq_true rfl) dX6_init_65 (fun q_30 H hV => ?_)
  have hV : Vx D A s.heap H locs [(h, .inr (6, [.ref q_1, .ref q_3, .ref q_6, .ref q_10, .ref q_14, .null, .int 0])), (q_1, .inr (4, [.ref a1_2, .int 0, .int 0, .int 0])), (a1_2, .inl (cI, 100, .inl (fun _ => 0))), (q_3, .inr (5, [.ref a1_4, .int 0, .int 0, .ref a2_5, .int 0, .int 0, .int 0, .int 0])), (q_6, .inr (0, [.ref a1_7, .ref a2_8, .ref a3_9, .int 0])), (q_10, .inr (0, [.ref a1_11, .ref a2_12, .ref a3_13, .int 0])), (q_14, .inr (1, [.ref s1_15, .ref s2_16, .ref s3_17, .ref b1_24, .ref b2_25, .ref b3_26, .int 0, .ref b4_27, .ref b5_28, .ref b6_29])), (s1_15, .inr (5, [.ref s4_18, .int 0, .int 0, .ref s5_19, .int 0, .int 0, .int 0, .int 0])), (s2_16, .inr (5, [.ref s6_20, .int 0, .int 0, .ref s7_21, .int 0, .int 0, .int 0, .int 0])), (s3_17, .inr (5, [.ref s8_22, .int 0, .int 0, .ref s9_23, .int 0, .int 0, .int 0, .int 0])), (q_30, .inl (cI, 4, .inl (fun _ => 0)))] := hV
  refine W.widen (k := 343) (n := 13533) (Nat.le_of_ble_eq_true rfl) (Nat.le_of_ble_eq_true rfl) ?_
  refine x_putF (v := .ref q_30) hB hV hin 0 rfl rfl 5 (by decide) k_313 rfl rfl rfl rfl (Nat.le_of_ble_eq_true rfl) dX6_init_67 (fun H locs hV => ?_)
  have hV : Vx D A s.heap H locs [(h, .inr (6, [.ref q_1, .ref q_3, .ref q_6, .ref q_10, .ref q_14, .ref q_30, .int 0])), (q_1, .inr (4, [.ref a1_2, .int 0, .int 0, .int 0])), (a1_2, .inl (cI, 100, .inl (fun _ => 0))), (q_3, .inr (5, [.ref a1_4, .int 0, .int 0, .ref a2_5, .int 0, .int 0, .int 0, .int 0])), (q_6, .inr (0, [.ref a1_7, .ref a2_8, .ref a3_9, .int 0])), (q_10, .inr (0, [.ref a1_11, .ref a2_12, .ref a3_13, .int 0])), (q_14, .inr (1, [.ref s1_15, .ref s2_16, .ref s3_17, .ref b1_24, .ref b2_25, .ref b3_26, .int 0, .ref b4_27, .ref b5_28, .ref b6_29])), (s1_15, .inr (5, [.ref s4_18, .int 0, .int 0, .ref s5_19, .int 0, .int 0, .int 0, .int 0])), (s2_16, .inr (5, [.ref s6_20, .int 0, .int 0, .ref s7_21, .int 0, .int 0, .int 0, .int 0])), (s3_17, .inr (5, [.ref s8_22, .int 0, .int 0, .ref s9_23, .int 0, .int 0, .int 0, .int 0])), (q_30, .inl (cI, 4, .inl (fun _ => 0)))] := hV
  refine lv_aload_n hx hb dX6_init_70 rfl (lv_at hl 0 rfl) ?_
  refine lv_iconst (v := 0) hx hb dX6_init_71 (by decide) ?_
  refine x_put (v := .int 0) hB hV 0 rfl rfl 6 (by decide) k_314 rfl rfl rfl (Nat.le_of_ble_eq_true rfl) dX6_init_72 (fun H locs hV => ?_)
  have hV : Vx D A s.heap H locs [(h, .inr (6, [.ref q_1, .ref q_3, .ref q_6, .ref q_10, .ref q_14, .ref q_30, .int 0])), (q_1, .inr (4, [.ref a1_2, .int 0, .int 0, .int 0])), (a1_2, .inl (cI, 100, .inl (fun _ => 0))), (q_3, .inr (5, [.ref a1_4, .int 0, .int 0, .ref a2_5, .int 0, .int 0, .int 0, .int 0])), (q_6, .inr (0, [.ref a1_7, .ref a2_8, .ref a3_9, .int 0])), (q_10, .inr (0, [.ref a1_11, .ref a2_12, .ref a3_13, .int 0])), (q_14, .inr (1, [.ref s1_15, .ref s2_16, .ref s3_17, .ref b1_24, .ref b2_25, .ref b3_26, .int 0, .ref b4_27, .ref b5_28, .ref b6_29])), (s1_15, .inr (5, [.ref s4_18, .int 0, .int 0, .ref s5_19, .int 0, .int 0, .int 0, .int 0])), (s2_16, .inr (5, [.ref s6_20, .int 0, .int 0, .ref s7_21, .int 0, .int 0, .int 0, .int 0])), (s3_17, .inr (5, [.ref s8_22, .int 0, .int 0, .ref s9_23, .int 0, .int 0, .int 0, .int 0])), (q_30, .inl (cI, 4, .inl (fun _ => 0)))] := hV
  refine lv_iconst (v := 0) hx hb dX6_init_75 (by decide) ?_
  refine lv_istore_n (lv' := [(1, .int 0), (0, .ref h)]) hx hb dX6_init_76 rfl hl (by decide) rfl (fun ls hl => ?_)
  refine lv_iload_n hx hb dX6_init_77 rfl (lv_at hl 0 rfl) ?_
  refine lv_iconst (v := 4) hx hb dX6_init_78 (by decide) ?_
  refine lv_icmp_ge (tgt := 95) hx hb dX6_init_79 (by decide) (fun c_ => absurd c_ (by decide)) (fun c_ => ?_)
  refine lv_aload_n hx hb dX6_init_82 rfl (lv_at hl 1 rfl) ?_
  refine x_get (v := .ref q_30) hB hV 0 rfl rfl 5 (by decide) k_313 rfl dX6_init_83 ?_
  refine lv_iload_n hx hb dX6_init_86 rfl (lv_at hl 0 rfl) ?_
  refine lv_iconst (v := 1) hx hb dX6_init_87 (by decide) ?_
  refine x_iast (g := (upd (fun _ => 0) 0 1)) hB hV 10 rfl (by unfold vp_in; decide) rfl dX6_init_88 (fun H locs hV => ?_)
  have hV : Vx D A s.heap H locs [(h, .inr (6, [.ref q_1, .ref q_3, .ref q_6, .ref q_10, .ref q_14, .ref q_30, .int 0])), (q_1, .inr (4, [.ref a1_2, .int 0, .int 0, .int 0])), (a1_2, .inl (cI, 100, .inl (fun _ => 0))), (q_3, .inr (5, [.ref a1_4, .int 0, .int 0, .ref a2_5, .int 0, .int 0, .int 0, .int 0])), (q_6, .inr (0, [.ref a1_7, .ref a2_8, .ref a3_9, .int 0])), (q_10, .inr (0, [.ref a1_11, .ref a2_12, .ref a3_13, .int 0])), (q_14, .inr (1, [.ref s1_15, .ref s2_16, .ref s3_17, .ref b1_24, .ref b2_25, .ref b3_26, .int 0, .ref b4_27, .ref b5_28, .ref b6_29])), (s1_15, .inr (5, [.ref s4_18, .int 0, .int 0, .ref s5_19, .int 0, .int 0, .int 0, .int 0])), (s2_16, .inr (5, [.ref s6_20, .int 0, .int 0, .ref s7_21, .int 0, .int 0, .int 0, .int 0])), (s3_17, .inr (5, [.ref s8_22, .int 0, .int 0, .ref s9_23, .int 0, .int 0, .int 0, .int 0])), (q_30, .inl (cI, 4, .inl (upd (fun _ => 0) 0 1)))] := hV
  refine lv_iinc (v := 1) (lv' := [(1, .int 1), (0, .ref h)]) hx hb dX6_init_89 hl (k := 0) rfl (by decide) (by decide) rfl (fun ls hl => ?_)
  refine lv_goto (tgt := 77) hx hb dX6_init_92 (by decide) ?_
  refine lv_iload_n hx hb dX6_init_77 rfl (lv_at hl 0 rfl) ?_
  refine lv_iconst (v := 4) hx hb dX6_init_78 (by decide) ?_
  refine lv_icmp_ge (tgt := 95) hx hb dX6_init_79 (by decide) (fun c_ => absurd c_ (by decide)) (fun c_ => ?_)
  refine lv_aload_n hx hb dX6_init_82 rfl (lv_at hl 1 rfl) ?_
  refine x_get (v := .ref q_30) hB hV 0 rfl rfl 5 (by decide) k_313 rfl dX6_init_83 ?_
  refine lv_iload_n hx hb dX6_init_86 rfl (lv_at hl 0 rfl) ?_
  refine lv_iconst (v := 1) hx hb dX6_init_87 (by decide) ?_
  refine x_iast (g := (upd (upd (fun _ => 0) 0 1) 1 1)) hB hV 10 rfl (by unfold vp_in; decide) rfl dX6_init_88 (fun H locs hV => ?_)
  have hV : Vx D A s.heap H locs [(h, .inr (6, [.ref q_1, .ref q_3, .ref q_6, .ref q_10, .ref q_14, .ref q_30, .int 0])), (q_1, .inr (4, [.ref a1_2, .int 0, .int 0, .int 0])), (a1_2, .inl (cI, 100, .inl (fun _ => 0))), (q_3, .inr (5, [.ref a1_4, .int 0, .int 0, .ref a2_5, .int 0, .int 0, .int 0, .int 0])), (q_6, .inr (0, [.ref a1_7, .ref a2_8, .ref a3_9, .int 0])), (q_10, .inr (0, [.ref a1_11, .ref a2_12, .ref a3_13, .int 0])), (q_14, .inr (1, [.ref s1_15, .ref s2_16, .ref s3_17, .ref b1_24, .ref b2_25, .ref b3_26, .int 0, .ref b4_27, .ref b5_28, .ref b6_29])), (s1_15, .inr (5, [.ref s4_18, .int 0, .int 0, .ref s5_19, .int 0, .int 0, .int 0, .int 0])), (s2_16, .inr (5, [.ref s6_20, .int 0, .int 0, .ref s7_21, .int 0, .int 0, .int 0, .int 0])), (s3_17, .inr (5, [.ref s8_22, .int 0, .int 0, .ref s9_23, .int 0, .int 0, .int 0, .int 0])), (q_30, .inl (cI, 4, .inl (upd (upd (fun _ => 0) 0 1) 1 1)))] := hV
  refine lv_iinc (v := 2) (lv' := [(1, .int 2), (0, .ref h)]) hx hb dX6_init_89 hl (k := 0) rfl (by decide) (by decide) rfl (fun ls hl => ?_)
  refine lv_goto (tgt := 77) hx hb dX6_init_92 (by decide) ?_
  refine lv_iload_n hx hb dX6_init_77 rfl (lv_at hl 0 rfl) ?_
  refine lv_iconst (v := 4) hx hb dX6_init_78 (by decide) ?_
  refine lv_icmp_ge (tgt := 95) hx hb dX6_init_79 (by decide) (fun c_ => absurd c_ (by decide)) (fun c_ => ?_)
  refine lv_aload_n hx hb dX6_init_82 rfl (lv_at hl 1 rfl) ?_
  refine x_get (v := .ref q_30) hB hV 0 rfl rfl 5 (by decide) k_313 rfl dX6_init_83 ?_
  refine lv_iload_n hx hb dX6_init_86 rfl (lv_at hl 0 rfl) ?_
  refine lv_iconst (v := 1) hx hb dX6_init_87 (by decide) ?_
  refine x_iast (g := (upd (upd (upd (fun _ => 0) 0 1) 1 1) 2 1)) hB hV 10 rfl (by unfold vp_in; decide) rfl dX6_init_88 (fun H locs hV => ?_)
  have hV : Vx D A s.heap H locs [(h, .inr (6, [.ref q_1, .ref q_3, .ref q_6, .ref q_10, .ref q_14, .ref q_30, .int 0])), (q_1, .inr (4, [.ref a1_2, .int 0, .int 0, .int 0])), (a1_2, .inl (cI, 100, .inl (fun _ => 0))), (q_3, .inr (5, [.ref a1_4, .int 0, .int 0, .ref a2_5, .int 0, .int 0, .int 0, .int 0])), (q_6, .inr (0, [.ref a1_7, .ref a2_8, .ref a3_9, .int 0])), (q_10, .inr (0, [.ref a1_11, .ref a2_12, .ref a3_13, .int 0])), (q_14, .inr (1, [.ref s1_15, .ref s2_16, .ref s3_17, .ref b1_24, .ref b2_25, .ref b3_26, .int 0, .ref b4_27, .ref b5_28, .ref b6_29])), (s1_15, .inr (5, [.ref s4_18, .int 0, .int 0, .ref s5_19, .int 0, .int 0, .int 0, .int 0])), (s2_16, .inr (5, [.ref s6_20, .int 0, .int 0, .ref s7_21, .int 0, .int 0, .int 0, .int 0])), (s3_17, .inr (5, [.ref s8_22, .int 0, .int 0, .ref s9_23, .int 0, .int 0, .int 0, .int 0])), (q_30, .inl (cI, 4, .inl (upd (upd (upd (fun _ => 0) 0 1) 1 1) 2 1)))] := hV
  refine lv_iinc (v := 3) (lv' := [(1, .int 3), (0, .ref h)]) hx hb dX6_init_89 hl (k := 0) rfl (by decide) (by decide) rfl (fun ls hl => ?_)
  refine lv_goto (tgt := 77) hx hb dX6_init_92 (by decide) ?_
  refine lv_iload_n hx hb dX6_init_77 rfl (lv_at hl 0 rfl) ?_
  refine lv_iconst (v := 4) hx hb dX6_init_78 (by decide) ?_
  refine lv_icmp_ge (tgt := 95) hx hb dX6_init_79 (by decide) (fun c_ => absurd c_ (by decide)) (fun c_ => ?_)
  refine lv_aload_n hx hb dX6_init_82 rfl (lv_at hl 1 rfl) ?_
  refine x_get (v := .ref q_30) hB hV 0 rfl rfl 5 (by decide) k_313 rfl dX6_init_83 ?_
  refine lv_iload_n hx hb dX6_init_86 rfl (lv_at hl 0 rfl) ?_
  refine lv_iconst (v := 1) hx hb dX6_init_87 (by decide) ?_
  refine x_iast (g := (upd (upd (upd (upd (fun _ => 0) 0 1) 1 1) 2 1) 3 1)) hB hV 10 rfl (by unfold vp_in; decide) rfl dX6_init_88 (fun H locs hV => ?_)
  have hV : Vx D A s.heap H locs [(h, .inr (6, [.ref q_1, .ref q_3, .ref q_6, .ref q_10, .ref q_14, .ref q_30, .int 0])), (q_1, .inr (4, [.ref a1_2, .int 0, .int 0, .int 0])), (a1_2, .inl (cI, 100, .inl (fun _ => 0))), (q_3, .inr (5, [.ref a1_4, .int 0, .int 0, .ref a2_5, .int 0, .int 0, .int 0, .int 0])), (q_6, .inr (0, [.ref a1_7, .ref a2_8, .ref a3_9, .int 0])), (q_10, .inr (0, [.ref a1_11, .ref a2_12, .ref a3_13, .int 0])), (q_14, .inr (1, [.ref s1_15, .ref s2_16, .ref s3_17, .ref b1_24, .ref b2_25, .ref b3_26, .int 0, .ref b4_27, .ref b5_28, .ref b6_29])), (s1_15, .inr (5, [.ref s4_18, .int 0, .int 0, .ref s5_19, .int 0, .int 0, .int 0, .int 0])), (s2_16, .inr (5, [.ref s6_20, .int 0, .int 0, .ref s7_21, .int 0, .int 0, .int 0, .int 0])), (s3_17, .inr (5, [.ref s8_22, .int 0, .int 0, .ref s9_23, .int 0, .int 0, .int 0, .int 0])), (q_30, .inl (cI, 4, .inl (upd (upd (upd (upd (fun _ => 0) 0 1) 1 1) 2 1) 3 1)))] := hV
  refine lv_iinc (v := 4) (lv' := [(1, .int 4), (0, .ref h)]) hx hb dX6_init_89 hl (k := 0) rfl (by decide) (by decide) rfl (fun ls hl => ?_)
  refine lv_goto (tgt := 77) hx hb dX6_init_92 (by decide) ?_
  refine lv_iload_n hx hb dX6_init_77 rfl (lv_at hl 0 rfl) ?_
  refine lv_iconst (v := 4) hx hb dX6_init_78 (by decide) ?_
  refine lv_icmp_ge (tgt := 95) hx hb dX6_init_79 (by decide) (fun c_ => ?_) (fun c_ => absurd (by decide) c_)
  exact x_vret (w := [(h, .inr (6, [.ref q_1, .ref q_3, .ref q_6, .ref q_10, .ref q_14, .ref q_30, .int 0])), (q_1, .inr (4, [.ref a1_2, .int 0, .int 0, .int 0])), (a1_2, .inl (cI, 100, .inl (fun _ => 0))), (q_3, .inr (5, [.ref a1_4, .int 0, .int 0, .ref a2_5, .int 0, .int 0, .int 0, .int 0])), (q_6, .inr (0, [.ref a1_7, .ref a2_8, .ref a3_9, .int 0])), (q_10, .inr (0, [.ref a1_11, .ref a2_12, .ref a3_13, .int 0])), (q_14, .inr (1, [.ref s1_15, .ref s2_16, .ref s3_17, .ref b1_24, .ref b2_25, .ref b3_26, .int 0, .ref b4_27, .ref b5_28, .ref b6_29])), (s1_15, .inr (5, [.ref s4_18, .int 0, .int 0, .ref s5_19, .int 0, .int 0, .int 0, .int 0])), (s2_16, .inr (5, [.ref s6_20, .int 0, .int 0, .ref s7_21, .int 0, .int 0, .int 0, .int 0])), (s3_17, .inr (5, [.ref s8_22, .int 0, .int 0, .ref s9_23, .int 0, .int 0, .int 0, .int 0])), (q_30, .inl (cI, 4, .inl (upd (upd (upd (upd (fun _ => 0) 0 1) 1 1) 2 1) 3 1)))]) hB hr hV hA (Nat.le_of_ble_eq_true rfl) (Nat.le_of_ble_eq_true rfl) [0, 1, 2, 3, 4, 5, 6, 7, 8, 9, 10] rfl rfl (by decide) dX6_init_95 ⟨q_1, q_3, q_6, q_10, q_14, q_30, a1_2, a1_4, a2_5, a1_7, a2_8, a3_9, a1_11, a2_12, a3_13, s1_15, s2_16, s3_17, s4_18, s5_19, s6_20, s7_21, s8_22, s9_23, b1_24, b2_25, b3_26, b4_27, b5_28, b6_29, rfl, rfl⟩
end
section
theorem k_212 : Cond.fieldLink RX1 125 "TwiceOnce$World" "doneInAll" "I" ∈ tb := mt 212 (by decide +kernel) rfl
theorem k_254 : Cond.fieldLink RX1 53 "TwiceOnce$CallList" "size" "I" ∈ tb := mt 254 (by decide +kernel) rfl
theorem k_255 : Cond.fieldLink RX5 55 "TwiceOnce$CallList" "size" "I" ∈ tb := mt 255 (by decide +kernel) rfl
theorem k_582 : Cond.methodLink RX1 49 yX5_copyFrom ∈ tb := mt 582 (by decide +kernel) rfl
theorem k_583 : Cond.instanceMethod yX5_copyFrom ∈ tb := mt 583 (by decide +kernel) rfl
theorem k_584 : Cond.selects RX5 yX5_copyFrom yX5_copyFrom ∈ tb := mt 584 (by decide +kernel) rfl
set_option maxRecDepth 20000 in
theorem k_585 : Cond.code yX5_copyFrom cX5_copyFrom 3 none ∈ tb := mt 585 rfl rfl
theorem k_591 : Cond.instanceMethod yX1_runOnce ∈ tb := mt 591 (by decide +kernel) rfl
theorem k_592 : Cond.selects RX1 yX1_runOnce yX1_runOnce ∈ tb := mt 592 (by decide +kernel) rfl
set_option maxRecDepth 20000 in
theorem k_593 : Cond.code yX1_runOnce cX1_runOnce 3 none ∈ tb := mt 593 rfl rfl
theorem k_603 : Cond.methodLink RX1 74 yX5_hasSameStores ∈ tb := mt 603 (by decide +kernel) rfl
theorem k_604 : Cond.instanceMethod yX5_hasSameStores ∈ tb := mt 604 (by decide +kernel) rfl
theorem k_605 : Cond.selects RX5 yX5_hasSameStores yX5_hasSameStores ∈ tb := mt 605 (by decide +kernel) rfl
set_option maxRecDepth 20000 in
theorem k_606 : Cond.code yX5_hasSameStores cX5_hasSameStores 3 (some .boolean) ∈ tb := mt 606 rfl rfl
theorem k_611 : Cond.methodLink RX1 78 yX5_hasSameCounts ∈ tb := mt 611 (by decide +kernel) rfl
theorem k_612 : Cond.instanceMethod yX5_hasSameCounts ∈ tb := mt 612 (by decide +kernel) rfl
theorem k_613 : Cond.selects RX5 yX5_hasSameCounts yX5_hasSameCounts ∈ tb := mt 613 (by decide +kernel) rfl
set_option maxRecDepth 20000 in
theorem k_614 : Cond.code yX5_hasSameCounts cX5_hasSameCounts 3 (some .boolean) ∈ tb := mt 614 rfl rfl
theorem k_627 : Cond.methodLink RX1 84 yX1_runOnce ∈ tb := mt 627 (by decide +kernel) rfl
theorem k_688 : Cond.constant RJ6 265 1431655765 ∈ tb := mt 688 (by decide +kernel) rfl
theorem k_689 : Cond.constant RJ6 266 858993459 ∈ tb := mt 689 (by decide +kernel) rfl
theorem k_690 : Cond.constant RJ6 267 252645135 ∈ tb := mt 690 (by decide +kernel) rfl
theorem dX6_within_0 : decode cX6_within 0 = .ok (.iload_n 0, 1) := by decide +kernel
theorem dX6_within_1 : decode cX6_within 1 = .ok (.ifCond .lt 12, 3) := by decide +kernel
theorem dX6_within_13 : decode cX6_within 13 = .ok (.iconst 0, 1) := by decide +kernel
theorem dX6_within_14 : decode cX6_within 14 = .ok (.ireturn, 1) := by decide +kernel
theorem dX6_within_4 : decode cX6_within 4 = .ok (.iload_n 0, 1) := by decide +kernel
theorem dX6_within_5 : decode cX6_within 5 = .ok (.iload_n 1, 1) := by decide +kernel
theorem dX6_within_6 : decode cX6_within 6 = .ok (.if_icmp .gt 7, 3) := by decide +kernel
theorem dX6_within_9 : decode cX6_within 9 = .ok (.iconst 1, 1) := by decide +kernel
theorem dX6_within_10 : decode cX6_within 10 = .ok (.goto 4, 3) := by decide +kernel
theorem dX5_has_0 : decode cX5_has 0 = .ok (.iload_n 1, 1) := by decide +kernel
theorem dX5_has_1 : decode cX5_has 1 = .ok (.ifCond .lt 15, 3) := by decide +kernel
theorem dX5_has_16 : decode cX5_has 16 = .ok (.iconst 0, 1) := by decide +kernel
theorem dX5_has_17 : decode cX5_has 17 = .ok (.ireturn, 1) := by decide +kernel
theorem dX5_has_4 : decode cX5_has 4 = .ok (.iload_n 1, 1) := by decide +kernel
theorem dX5_has_5 : decode cX5_has 5 = .ok (.aload_n 0, 1) := by decide +kernel
theorem dX5_has_6 : decode cX5_has 6 = .ok (.getfield 17, 3) := by decide +kernel
theorem dX5_has_9 : decode cX5_has 9 = .ok (.if_icmp .ge 7, 3) := by decide +kernel
theorem dX5_copyFrom_0 : decode cX5_copyFrom 0 = .ok (.aload_n 0, 1) := by decide +kernel
theorem dX5_copyFrom_1 : decode cX5_copyFrom 1 = .ok (.aload_n 1, 1) := by decide +kernel
theorem dX5_copyFrom_2 : decode cX5_copyFrom 2 = .ok (.getfield 17, 3) := by decide +kernel
theorem dX5_copyFrom_5 : decode cX5_copyFrom 5 = .ok (.putfield 17, 3) := by decide +kernel
theorem dX5_copyFrom_8 : decode cX5_copyFrom 8 = .ok (.aload_n 0, 1) := by decide +kernel
theorem dX5_copyFrom_9 : decode cX5_copyFrom 9 = .ok (.aload_n 1, 1) := by decide +kernel
theorem dX5_copyFrom_10 : decode cX5_copyFrom 10 = .ok (.getfield 21, 3) := by decide +kernel
theorem dX5_copyFrom_13 : decode cX5_copyFrom 13 = .ok (.putfield 21, 3) := by decide +kernel
theorem dX5_copyFrom_16 : decode cX5_copyFrom 16 = .ok (.aload_n 0, 1) := by decide +kernel
theorem dX5_copyFrom_17 : decode cX5_copyFrom 17 = .ok (.iconst 0, 1) := by decide +kernel
theorem dX5_copyFrom_18 : decode cX5_copyFrom 18 = .ok (.putfield 28, 3) := by decide +kernel
theorem dX5_copyFrom_21 : decode cX5_copyFrom 21 = .ok (.iconst 0, 1) := by decide +kernel
theorem dX5_copyFrom_22 : decode cX5_copyFrom 22 = .ok (.istore_n 2, 1) := by decide +kernel
theorem dX5_copyFrom_23 : decode cX5_copyFrom 23 = .ok (.iload_n 2, 1) := by decide +kernel
theorem dX5_copyFrom_24 : decode cX5_copyFrom 24 = .ok (.aload_n 0, 1) := by decide +kernel
theorem dX5_copyFrom_25 : decode cX5_copyFrom 25 = .ok (.getfield 17, 3) := by decide +kernel
theorem dX5_copyFrom_28 : decode cX5_copyFrom 28 = .ok (.if_icmp .ge 24, 3) := by decide +kernel
theorem dX5_copyFrom_52 : decode cX5_copyFrom 52 = .ok (.return_, 1) := by decide +kernel
theorem dX5_makeFresh_0 : decode cX5_makeFresh 0 = .ok (.aload_n 0, 1) := by decide +kernel
theorem dX5_makeFresh_1 : decode cX5_makeFresh 1 = .ok (.iconst 0, 1) := by decide +kernel
theorem dX5_makeFresh_2 : decode cX5_makeFresh 2 = .ok (.putfield 21, 3) := by decide +kernel
theorem dX5_makeFresh_5 : decode cX5_makeFresh 5 = .ok (.aload_n 0, 1) := by decide +kernel
theorem dX5_makeFresh_6 : decode cX5_makeFresh 6 = .ok (.iconst 0, 1) := by decide +kernel
theorem dX5_makeFresh_7 : decode cX5_makeFresh 7 = .ok (.putfield 28, 3) := by decide +kernel
theorem dX5_makeFresh_10 : decode cX5_makeFresh 10 = .ok (.iconst 0, 1) := by decide +kernel
theorem dX5_makeFresh_11 : decode cX5_makeFresh 11 = .ok (.istore_n 1, 1) := by decide +kernel
theorem dX5_makeFresh_12 : decode cX5_makeFresh 12 = .ok (.iload_n 1, 1) := by decide +kernel
theorem dX5_makeFresh_13 : decode cX5_makeFresh 13 = .ok (.aload_n 0, 1) := by decide +kernel
theorem dX5_makeFresh_14 : decode cX5_makeFresh 14 = .ok (.getfield 17, 3) := by decide +kernel
theorem dX5_makeFresh_17 : decode cX5_makeFresh 17 = .ok (.if_icmp .ge 18, 3) := by decide +kernel
theorem dX5_makeFresh_35 : decode cX5_makeFresh 35 = .ok (.return_, 1) := by decide +kernel
theorem dX5_holdAll_0 : decode cX5_holdAll 0 = .ok (.iconst 0, 1) := by decide +kernel
theorem dX5_holdAll_1 : decode cX5_holdAll 1 = .ok (.istore_n 2, 1) := by decide +kernel
theorem dX5_holdAll_2 : decode cX5_holdAll 2 = .ok (.iload_n 2, 1) := by decide +kernel
theorem dX5_holdAll_3 : decode cX5_holdAll 3 = .ok (.aload_n 0, 1) := by decide +kernel
theorem dX5_holdAll_4 : decode cX5_holdAll 4 = .ok (.getfield 17, 3) := by decide +kernel
theorem dX5_holdAll_7 : decode cX5_holdAll 7 = .ok (.if_icmp .ge 19, 3) := by decide +kernel
theorem dX5_holdAll_26 : decode cX5_holdAll 26 = .ok (.return_, 1) := by decide +kernel
theorem dX5_addMends_0 : decode cX5_addMends 0 = .ok (.iconst 0, 1) := by decide +kernel
theorem dX5_addMends_1 : decode cX5_addMends 1 = .ok (.istore_n 2, 1) := by decide +kernel
theorem dX5_addMends_2 : decode cX5_addMends 2 = .ok (.iload_n 2, 1) := by decide +kernel
theorem dX5_addMends_3 : decode cX5_addMends 3 = .ok (.aload_n 0, 1) := by decide +kernel
theorem dX5_addMends_4 : decode cX5_addMends 4 = .ok (.getfield 17, 3) := by decide +kernel
theorem dX5_addMends_7 : decode cX5_addMends 7 = .ok (.if_icmp .ge 31, 3) := by decide +kernel
theorem dX5_addMends_38 : decode cX5_addMends 38 = .ok (.return_, 1) := by decide +kernel
theorem dX5_reachOf_0 : decode cX5_reachOf 0 = .ok (.iconst 0, 1) := by decide +kernel
theorem dX5_reachOf_1 : decode cX5_reachOf 1 = .ok (.istore_n 2, 1) := by decide +kernel
theorem dX5_reachOf_2 : decode cX5_reachOf 2 = .ok (.iconst 0, 1) := by decide +kernel
theorem dX5_reachOf_3 : decode cX5_reachOf 3 = .ok (.istore_n 3, 1) := by decide +kernel
theorem dX5_reachOf_4 : decode cX5_reachOf 4 = .ok (.iload_n 3, 1) := by decide +kernel
theorem dX5_reachOf_5 : decode cX5_reachOf 5 = .ok (.aload_n 1, 1) := by decide +kernel
theorem dX5_reachOf_6 : decode cX5_reachOf 6 = .ok (.getfield 55, 3) := by decide +kernel
theorem dX5_reachOf_9 : decode cX5_reachOf 9 = .ok (.if_icmp .ge 20, 3) := by decide +kernel
theorem dX5_reachOf_29 : decode cX5_reachOf 29 = .ok (.iconst 0, 1) := by decide +kernel
theorem dX5_reachOf_30 : decode cX5_reachOf 30 = .ok (.istore_n 3, 1) := by decide +kernel
theorem dX5_reachOf_31 : decode cX5_reachOf 31 = .ok (.iload_n 3, 1) := by decide +kernel
theorem dX5_reachOf_32 : decode cX5_reachOf 32 = .ok (.aload_n 0, 1) := by decide +kernel
theorem dX5_reachOf_33 : decode cX5_reachOf 33 = .ok (.getfield 17, 3) := by decide +kernel
theorem dX5_reachOf_36 : decode cX5_reachOf 36 = .ok (.if_icmp .ge 26, 3) := by decide +kernel
theorem dX5_reachOf_62 : decode cX5_reachOf 62 = .ok (.iload_n 2, 1) := by decide +kernel
theorem dX5_reachOf_63 : decode cX5_reachOf 63 = .ok (.ireturn, 1) := by decide +kernel
theorem dX5_hasSameStores_0 : decode cX5_hasSameStores 0 = .ok (.iconst 0, 1) := by decide +kernel
theorem dX5_hasSameStores_1 : decode cX5_hasSameStores 1 = .ok (.istore_n 2, 1) := by decide +kernel
theorem dX5_hasSameStores_2 : decode cX5_hasSameStores 2 = .ok (.iload_n 2, 1) := by decide +kernel
theorem dX5_hasSameStores_3 : decode cX5_hasSameStores 3 = .ok (.aload_n 0, 1) := by decide +kernel
theorem dX5_hasSameStores_4 : decode cX5_hasSameStores 4 = .ok (.getfield 17, 3) := by decide +kernel
theorem dX5_hasSameStores_7 : decode cX5_hasSameStores 7 = .ok (.if_icmp .ge 29, 3) := by decide +kernel
theorem dX5_hasSameStores_36 : decode cX5_hasSameStores 36 = .ok (.iconst 1, 1) := by decide +kernel
theorem dX5_hasSameStores_37 : decode cX5_hasSameStores 37 = .ok (.ireturn, 1) := by decide +kernel
theorem dX5_hasSameCounts_0 : decode cX5_hasSameCounts 0 = .ok (.iconst 0, 1) := by decide +kernel
theorem dX5_hasSameCounts_1 : decode cX5_hasSameCounts 1 = .ok (.istore_n 2, 1) := by decide +kernel
theorem dX5_hasSameCounts_2 : decode cX5_hasSameCounts 2 = .ok (.iload_n 2, 1) := by decide +kernel
theorem dX5_hasSameCounts_3 : decode cX5_hasSameCounts 3 = .ok (.aload_n 0, 1) := by decide +kernel
theorem dX5_hasSameCounts_4 : decode cX5_hasSameCounts 4 = .ok (.getfield 17, 3) := by decide +kernel
theorem dX5_hasSameCounts_7 : decode cX5_hasSameCounts 7 = .ok (.if_icmp .ge 32, 3) := by decide +kernel
theorem dX5_hasSameCounts_39 : decode cX5_hasSameCounts 39 = .ok (.iconst 1, 1) := by decide +kernel
theorem dX5_hasSameCounts_40 : decode cX5_hasSameCounts 40 = .ok (.ireturn, 1) := by decide +kernel
theorem dX1_beginAt_0 : decode cX1_beginAt 0 = .ok (.aload_n 0, 1) := by decide +kernel
theorem dX1_beginAt_1 : decode cX1_beginAt 1 = .ok (.getfield 12, 3) := by decide +kernel
theorem dX1_beginAt_4 : decode cX1_beginAt 4 = .ok (.aload_n 1, 1) := by decide +kernel
theorem dX1_beginAt_5 : decode cX1_beginAt 5 = .ok (.invokevirtual 49, 3) := by decide +kernel
theorem dX1_beginAt_8 : decode cX1_beginAt 8 = .ok (.return_, 1) := by decide +kernel
theorem dX1_runOnce_0 : decode cX1_runOnce 0 = .ok (.aload_n 0, 1) := by decide +kernel
theorem dX1_runOnce_1 : decode cX1_runOnce 1 = .ok (.getfield 18, 3) := by decide +kernel
theorem dX1_runOnce_4 : decode cX1_runOnce 4 = .ok (.aload_n 0, 1) := by decide +kernel
theorem dX1_runOnce_5 : decode cX1_runOnce 5 = .ok (.getfield 12, 3) := by decide +kernel
theorem dX1_runOnce_8 : decode cX1_runOnce 8 = .ok (.invokevirtual 49, 3) := by decide +kernel
theorem dX1_runOnce_11 : decode cX1_runOnce 11 = .ok (.iconst 0, 1) := by decide +kernel
theorem dX1_runOnce_12 : decode cX1_runOnce 12 = .ok (.istore_n 2, 1) := by decide +kernel
theorem dX1_runOnce_13 : decode cX1_runOnce 13 = .ok (.iload_n 2, 1) := by decide +kernel
theorem dX1_runOnce_14 : decode cX1_runOnce 14 = .ok (.aload_n 1, 1) := by decide +kernel
theorem dX1_runOnce_15 : decode cX1_runOnce 15 = .ok (.getfield 53, 3) := by decide +kernel
theorem dX1_runOnce_18 : decode cX1_runOnce 18 = .ok (.if_icmp .ge 54, 3) := by decide +kernel
theorem dX1_runOnce_72 : decode cX1_runOnce 72 = .ok (.return_, 1) := by decide +kernel
theorem dX1_firstUnsafe_0 : decode cX1_firstUnsafe 0 = .ok (.aload_n 0, 1) := by decide +kernel
theorem dX1_firstUnsafe_1 : decode cX1_firstUnsafe 1 = .ok (.aload_n 1, 1) := by decide +kernel
theorem dX1_firstUnsafe_2 : decode cX1_firstUnsafe 2 = .ok (.invokevirtual 84, 3) := by decide +kernel
theorem dX1_firstUnsafe_5 : decode cX1_firstUnsafe 5 = .ok (.iconst 0, 1) := by decide +kernel
theorem dX1_firstUnsafe_6 : decode cX1_firstUnsafe 6 = .ok (.istore_n 3, 1) := by decide +kernel
theorem dX1_firstUnsafe_7 : decode cX1_firstUnsafe 7 = .ok (.iload_n 3, 1) := by decide +kernel
theorem dX1_firstUnsafe_8 : decode cX1_firstUnsafe 8 = .ok (.aload_n 1, 1) := by decide +kernel
theorem dX1_firstUnsafe_9 : decode cX1_firstUnsafe 9 = .ok (.getfield 53, 3) := by decide +kernel
theorem dX1_firstUnsafe_12 : decode cX1_firstUnsafe 12 = .ok (.if_icmp .ge 92, 3) := by decide +kernel
theorem dX1_firstUnsafe_104 : decode cX1_firstUnsafe 104 = .ok (.iconst (-1), 1) := by decide +kernel
theorem dX1_firstUnsafe_105 : decode cX1_firstUnsafe 105 = .ok (.ireturn, 1) := by decide +kernel
theorem dX1_isStill_0 : decode cX1_isStill 0 = .ok (.aload_n 0, 1) := by decide +kernel
theorem dX1_isStill_1 : decode cX1_isStill 1 = .ok (.getfield 21, 3) := by decide +kernel
theorem dX1_isStill_4 : decode cX1_isStill 4 = .ok (.aload_n 0, 1) := by decide +kernel
theorem dX1_isStill_5 : decode cX1_isStill 5 = .ok (.getfield 12, 3) := by decide +kernel
theorem dX1_isStill_8 : decode cX1_isStill 8 = .ok (.invokevirtual 49, 3) := by decide +kernel
theorem dX1_isStill_11 : decode cX1_isStill 11 = .ok (.iconst 0, 1) := by decide +kernel
theorem dX1_isStill_12 : decode cX1_isStill 12 = .ok (.istore_n 2, 1) := by decide +kernel
theorem dX1_isStill_13 : decode cX1_isStill 13 = .ok (.iload_n 2, 1) := by decide +kernel
theorem dX1_isStill_14 : decode cX1_isStill 14 = .ok (.aload_n 1, 1) := by decide +kernel
theorem dX1_isStill_15 : decode cX1_isStill 15 = .ok (.getfield 53, 3) := by decide +kernel
theorem dX1_isStill_18 : decode cX1_isStill 18 = .ok (.if_icmp .ge 36, 3) := by decide +kernel
theorem dX1_isStill_54 : decode cX1_isStill 54 = .ok (.aload_n 0, 1) := by decide +kernel
theorem dX1_isStill_55 : decode cX1_isStill 55 = .ok (.getfield 21, 3) := by decide +kernel
theorem dX1_isStill_58 : decode cX1_isStill 58 = .ok (.getfield 125, 3) := by decide +kernel
theorem dX1_isStill_61 : decode cX1_isStill 61 = .ok (.ifCond .ne 35, 3) := by decide +kernel
theorem dX1_isStill_64 : decode cX1_isStill 64 = .ok (.aload_n 0, 1) := by decide +kernel
theorem dX1_isStill_65 : decode cX1_isStill 65 = .ok (.getfield 21, 3) := by decide +kernel
theorem dX1_isStill_68 : decode cX1_isStill 68 = .ok (.aload_n 0, 1) := by decide +kernel
theorem dX1_isStill_69 : decode cX1_isStill 69 = .ok (.getfield 12, 3) := by decide +kernel
theorem dX1_isStill_72 : decode cX1_isStill 72 = .ok (.invokevirtual 74, 3) := by decide +kernel
theorem dX1_isStill_75 : decode cX1_isStill 75 = .ok (.ifCond .eq 21, 3) := by decide +kernel
theorem dX1_isStill_78 : decode cX1_isStill 78 = .ok (.aload_n 0, 1) := by decide +kernel
theorem dX1_isStill_79 : decode cX1_isStill 79 = .ok (.getfield 21, 3) := by decide +kernel
theorem dX1_isStill_82 : decode cX1_isStill 82 = .ok (.aload_n 0, 1) := by decide +kernel
theorem dX1_isStill_83 : decode cX1_isStill 83 = .ok (.getfield 12, 3) := by decide +kernel
theorem dX1_isStill_86 : decode cX1_isStill 86 = .ok (.invokevirtual 78, 3) := by decide +kernel
theorem dX1_isStill_89 : decode cX1_isStill 89 = .ok (.ifCond .eq 7, 3) := by decide +kernel
theorem dX1_isStill_92 : decode cX1_isStill 92 = .ok (.iconst 1, 1) := by decide +kernel
theorem dX1_isStill_93 : decode cX1_isStill 93 = .ok (.goto 4, 3) := by decide +kernel
theorem dX1_isStill_97 : decode cX1_isStill 97 = .ok (.ireturn, 1) := by decide +kernel
theorem dJ6_bitCount_0f7a4_0 : decode cJ6_bitCount_0f7a4 0 = .ok (.iload_n 0, 1) := by decide +kernel
theorem dJ6_bitCount_0f7a4_1 : decode cJ6_bitCount_0f7a4 1 = .ok (.iload_n 0, 1) := by decide +kernel
theorem dJ6_bitCount_0f7a4_2 : decode cJ6_bitCount_0f7a4 2 = .ok (.iconst 1, 1) := by decide +kernel
theorem dJ6_bitCount_0f7a4_3 : decode cJ6_bitCount_0f7a4 3 = .ok (.iushr, 1) := by decide +kernel
theorem dJ6_bitCount_0f7a4_4 : decode cJ6_bitCount_0f7a4 4 = .ok (.ldc_w 265, 3) := by decide +kernel
theorem dJ6_bitCount_0f7a4_7 : decode cJ6_bitCount_0f7a4 7 = .ok (.iand, 1) := by decide +kernel
theorem dJ6_bitCount_0f7a4_8 : decode cJ6_bitCount_0f7a4 8 = .ok (.isub, 1) := by decide +kernel
theorem dJ6_bitCount_0f7a4_9 : decode cJ6_bitCount_0f7a4 9 = .ok (.istore_n 0, 1) := by decide +kernel
theorem dJ6_bitCount_0f7a4_10 : decode cJ6_bitCount_0f7a4 10 = .ok (.iload_n 0, 1) := by decide +kernel
theorem dJ6_bitCount_0f7a4_11 : decode cJ6_bitCount_0f7a4 11 = .ok (.ldc_w 266, 3) := by decide +kernel
theorem dJ6_bitCount_0f7a4_14 : decode cJ6_bitCount_0f7a4 14 = .ok (.iand, 1) := by decide +kernel
theorem dJ6_bitCount_0f7a4_15 : decode cJ6_bitCount_0f7a4 15 = .ok (.iload_n 0, 1) := by decide +kernel
theorem dJ6_bitCount_0f7a4_16 : decode cJ6_bitCount_0f7a4 16 = .ok (.iconst 2, 1) := by decide +kernel
theorem dJ6_bitCount_0f7a4_17 : decode cJ6_bitCount_0f7a4 17 = .ok (.iushr, 1) := by decide +kernel
theorem dJ6_bitCount_0f7a4_18 : decode cJ6_bitCount_0f7a4 18 = .ok (.ldc_w 266, 3) := by decide +kernel
theorem dJ6_bitCount_0f7a4_21 : decode cJ6_bitCount_0f7a4 21 = .ok (.iand, 1) := by decide +kernel
theorem dJ6_bitCount_0f7a4_22 : decode cJ6_bitCount_0f7a4 22 = .ok (.iadd, 1) := by decide +kernel
theorem dJ6_bitCount_0f7a4_23 : decode cJ6_bitCount_0f7a4 23 = .ok (.istore_n 0, 1) := by decide +kernel
theorem dJ6_bitCount_0f7a4_24 : decode cJ6_bitCount_0f7a4 24 = .ok (.iload_n 0, 1) := by decide +kernel
theorem dJ6_bitCount_0f7a4_25 : decode cJ6_bitCount_0f7a4 25 = .ok (.iload_n 0, 1) := by decide +kernel
theorem dJ6_bitCount_0f7a4_26 : decode cJ6_bitCount_0f7a4 26 = .ok (.iconst 4, 1) := by decide +kernel
theorem dJ6_bitCount_0f7a4_27 : decode cJ6_bitCount_0f7a4 27 = .ok (.iushr, 1) := by decide +kernel
theorem dJ6_bitCount_0f7a4_28 : decode cJ6_bitCount_0f7a4 28 = .ok (.iadd, 1) := by decide +kernel
theorem dJ6_bitCount_0f7a4_29 : decode cJ6_bitCount_0f7a4 29 = .ok (.ldc_w 267, 3) := by decide +kernel
theorem dJ6_bitCount_0f7a4_32 : decode cJ6_bitCount_0f7a4 32 = .ok (.iand, 1) := by decide +kernel
theorem dJ6_bitCount_0f7a4_33 : decode cJ6_bitCount_0f7a4 33 = .ok (.istore_n 0, 1) := by decide +kernel
theorem dJ6_bitCount_0f7a4_34 : decode cJ6_bitCount_0f7a4 34 = .ok (.iload_n 0, 1) := by decide +kernel
theorem dJ6_bitCount_0f7a4_35 : decode cJ6_bitCount_0f7a4 35 = .ok (.iload_n 0, 1) := by decide +kernel
theorem dJ6_bitCount_0f7a4_36 : decode cJ6_bitCount_0f7a4 36 = .ok (.bipush 8, 2) := by decide +kernel
theorem dJ6_bitCount_0f7a4_38 : decode cJ6_bitCount_0f7a4 38 = .ok (.iushr, 1) := by decide +kernel
theorem dJ6_bitCount_0f7a4_39 : decode cJ6_bitCount_0f7a4 39 = .ok (.iadd, 1) := by decide +kernel
theorem dJ6_bitCount_0f7a4_40 : decode cJ6_bitCount_0f7a4 40 = .ok (.istore_n 0, 1) := by decide +kernel
theorem dJ6_bitCount_0f7a4_41 : decode cJ6_bitCount_0f7a4 41 = .ok (.iload_n 0, 1) := by decide +kernel
theorem dJ6_bitCount_0f7a4_42 : decode cJ6_bitCount_0f7a4 42 = .ok (.iload_n 0, 1) := by decide +kernel
theorem dJ6_bitCount_0f7a4_43 : decode cJ6_bitCount_0f7a4 43 = .ok (.bipush 16, 2) := by decide +kernel
theorem dJ6_bitCount_0f7a4_45 : decode cJ6_bitCount_0f7a4 45 = .ok (.iushr, 1) := by decide +kernel
theorem dJ6_bitCount_0f7a4_46 : decode cJ6_bitCount_0f7a4 46 = .ok (.iadd, 1) := by decide +kernel
theorem dJ6_bitCount_0f7a4_47 : decode cJ6_bitCount_0f7a4 47 = .ok (.istore_n 0, 1) := by decide +kernel
theorem dJ6_bitCount_0f7a4_48 : decode cJ6_bitCount_0f7a4 48 = .ok (.iload_n 0, 1) := by decide +kernel
theorem dJ6_bitCount_0f7a4_49 : decode cJ6_bitCount_0f7a4 49 = .ok (.bipush 63, 2) := by decide +kernel
theorem dJ6_bitCount_0f7a4_51 : decode cJ6_bitCount_0f7a4 51 = .ok (.iand, 1) := by decide +kernel
theorem dJ6_bitCount_0f7a4_52 : decode cJ6_bitCount_0f7a4 52 = .ok (.ireturn, 1) := by decide +kernel
theorem dJ6_numberOfTrailingZeros_0f7a4_0 : decode cJ6_numberOfTrailingZeros_0f7a4 0 = .ok (.iload_n 0, 1) := by decide +kernel
theorem dJ6_numberOfTrailingZeros_0f7a4_1 : decode cJ6_numberOfTrailingZeros_0f7a4 1 = .ok (.iconst (-1), 1) := by decide +kernel
theorem dJ6_numberOfTrailingZeros_0f7a4_2 : decode cJ6_numberOfTrailingZeros_0f7a4 2 = .ok (.ixor, 1) := by decide +kernel
theorem dJ6_numberOfTrailingZeros_0f7a4_3 : decode cJ6_numberOfTrailingZeros_0f7a4 3 = .ok (.iload_n 0, 1) := by decide +kernel
theorem dJ6_numberOfTrailingZeros_0f7a4_4 : decode cJ6_numberOfTrailingZeros_0f7a4 4 = .ok (.iconst 1, 1) := by decide +kernel
theorem dJ6_numberOfTrailingZeros_0f7a4_5 : decode cJ6_numberOfTrailingZeros_0f7a4 5 = .ok (.isub, 1) := by decide +kernel
theorem dJ6_numberOfTrailingZeros_0f7a4_6 : decode cJ6_numberOfTrailingZeros_0f7a4 6 = .ok (.iand, 1) := by decide +kernel
theorem dJ6_numberOfTrailingZeros_0f7a4_7 : decode cJ6_numberOfTrailingZeros_0f7a4 7 = .ok (.istore_n 0, 1) := by decide +kernel
theorem dJ6_numberOfTrailingZeros_0f7a4_8 : decode cJ6_numberOfTrailingZeros_0f7a4 8 = .ok (.iload_n 0, 1) := by decide +kernel
theorem dJ6_numberOfTrailingZeros_0f7a4_9 : decode cJ6_numberOfTrailingZeros_0f7a4 9 = .ok (.ifCond .gt 8, 3) := by decide +kernel
theorem dJ6_numberOfTrailingZeros_0f7a4_12 : decode cJ6_numberOfTrailingZeros_0f7a4 12 = .ok (.iload_n 0, 1) := by decide +kernel
theorem dJ6_numberOfTrailingZeros_0f7a4_13 : decode cJ6_numberOfTrailingZeros_0f7a4 13 = .ok (.bipush 32, 2) := by decide +kernel
theorem dJ6_numberOfTrailingZeros_0f7a4_15 : decode cJ6_numberOfTrailingZeros_0f7a4 15 = .ok (.iand, 1) := by decide +kernel
theorem dJ6_numberOfTrailingZeros_0f7a4_16 : decode cJ6_numberOfTrailingZeros_0f7a4 16 = .ok (.ireturn, 1) := by decide +kernel
theorem dJ6_numberOfLeadingZeros_0f7a4_0 : decode cJ6_numberOfLeadingZeros_0f7a4 0 = .ok (.iload_n 0, 1) := by decide +kernel
theorem dJ6_numberOfLeadingZeros_0f7a4_1 : decode cJ6_numberOfLeadingZeros_0f7a4 1 = .ok (.ifCond .gt 14, 3) := by decide +kernel
theorem dJ6_numberOfLeadingZeros_0f7a4_4 : decode cJ6_numberOfLeadingZeros_0f7a4 4 = .ok (.iload_n 0, 1) := by decide +kernel
theorem dJ6_numberOfLeadingZeros_0f7a4_5 : decode cJ6_numberOfLeadingZeros_0f7a4 5 = .ok (.ifCond .ne 8, 3) := by decide +kernel
theorem dJ6_numberOfLeadingZeros_0f7a4_8 : decode cJ6_numberOfLeadingZeros_0f7a4 8 = .ok (.bipush 32, 2) := by decide +kernel
theorem dJ6_numberOfLeadingZeros_0f7a4_10 : decode cJ6_numberOfLeadingZeros_0f7a4 10 = .ok (.goto 4, 3) := by decide +kernel
theorem dJ6_numberOfLeadingZeros_0f7a4_14 : decode cJ6_numberOfLeadingZeros_0f7a4 14 = .ok (.ireturn, 1) := by decide +kernel
theorem gt_m1 {n : Int32} (h : ¬ n < 0) : (-1 : Int32) < n := by
  rw [Int32.lt_iff_toInt_lt] at h ⊢
  have h0 : (0 : Int32).toInt = 0 := by decide
  have h1 : (-1 : Int32).toInt = -1 := by decide
  omega
theorem ge_0 {n : Int32} (h : ¬ n < 0) : (0 : Int32) ≤ n := Int32.not_lt.mp h
theorem sw_out {x M : Int32} {lo hi : Int} (h : x < 0 ∨ M < x) (hl : (0 : Int32).toInt = lo := by decide) (hh : M.toInt = hi := by decide) : x.toInt < lo ∨ hi < x.toInt := by
  rcases h with h | h
  · exact Or.inl (by rw [← hl]; exact Int32.lt_iff_toInt_lt.mp h)
  · exact Or.inr (by rw [← hh]; exact Int32.lt_iff_toInt_lt.mp h)
theorem sw_in {x M : Int32} {n : Nat} (hM : M.toInt + 1 = n) (h : ¬ (x < 0 ∨ M < x)) : ∃ j : Nat, j < n ∧ x = nI j := by
  have h1 : ¬ x < 0 := fun q => h (Or.inl q)
  have h2 : x ≤ M := Int32.not_lt.mp (fun q => h (Or.inr q))
  obtain ⟨j, hj, rfl⟩ := nI_of h1
  rw [Int32.le_iff_toInt_le, nI_toInt hj] at h2
  exact ⟨j, by omega, rfl⟩
def dn : Nat → Int32
  | 0 => -1
  | k + 1 => nI k
theorem dn_dec (k : Nat) : nI k + Int32.ofInt (-1) = dn k := by
  cases k with
  | zero => decide
  | succ k => exact pk_m1 k
theorem pr_one {j : Nat} (h : j < 4) : ((upd (upd (upd (upd (fun _ => 0) 0 1) 1 1) 2 1) 3 1) : Nat → Int32) (nI j).toNatClampNeg = 1 := by
  rw [nI_clamp (by omega)]
  rcases (show j = 0 ∨ j = 1 ∨ j = 2 ∨ j = 3 by omega) with rfl | rfl | rfl | rfl <;> rfl
set_option maxHeartbeats 4000000 in
set_option maxRecDepth 100000 in
theorem c_within (l : Launch) (D : va_G) (cI cZ cS : ClassId) (N0 : NT) (n : Int32) (b : Int32)  : Mx l D cI cZ cS N0 yX6_within cX6_within 2 (some .boolean) 0 0 0 [.int n, .int b] [] (fun v w => ∃ (r : Int32), v = some (.int r) ∧ w = ([] : va_W) ∧ ((r = 1 ∧ ¬ (n < 0 ∨ b < n)) ∨ (r = 0 ∧ (n < 0 ∨ b < n)))) := by
  refine x_enter (by decide) (Nat.le_of_ble_eq_true rfl) ?_
  intro p e s m args below meth c A ls H locs hB hr hin hl hV hA
  have hx := hB.1
  have hb := hB.2.1
  have hl : lv_has ls 2 [(0, .int n), (1, .int b)] := hl
  refine lv_iload_n hx hb dX6_within_0 rfl (lv_at hl 0 rfl) ?_
  refine lv_if_lt (tgt := 13) hx hb dX6_within_1 (by decide) (fun c1 => ?_) (fun c1 => ?_)
  · refine lv_iconst (v := 0) hx hb dX6_within_13 (by decide) ?_
    exact x_zret (w := []) hB hr rfl hV hA (Nat.le_of_ble_eq_true rfl) (Nat.le_of_ble_eq_true rfl) [] rfl rfl (by decide) dX6_within_14 ⟨0, rfl, rfl, (Or.inr ⟨rfl, Or.inl c1⟩)⟩
  · refine lv_iload_n hx hb dX6_within_4 rfl (lv_at hl 0 rfl) ?_
    refine lv_iload_n hx hb dX6_within_5 rfl (lv_at hl 1 rfl) ?_
    refine lv_icmp_gt (tgt := 13) hx hb dX6_within_6 (by decide) (fun c2 => ?_) (fun c2 => ?_)
    · refine lv_iconst (v := 0) hx hb dX6_within_13 (by decide) ?_
      exact x_zret (w := []) hB hr rfl hV hA (Nat.le_of_ble_eq_true rfl) (Nat.le_of_ble_eq_true rfl) [] rfl rfl (by decide) dX6_within_14 ⟨0, rfl, rfl, (Or.inr ⟨rfl, Or.inr c2⟩)⟩
    · refine lv_iconst (v := 1) hx hb dX6_within_9 (by decide) ?_
      refine lv_goto (tgt := 14) hx hb dX6_within_10 (by decide) ?_
      exact x_zret (w := []) hB hr rfl hV hA (Nat.le_of_ble_eq_true rfl) (Nat.le_of_ble_eq_true rfl) [] rfl rfl (by decide) dX6_within_14 ⟨1, rfl, rfl, (Or.inl ⟨rfl, fun q => q.elim c1 c2⟩)⟩
set_option maxHeartbeats 4000000 in
set_option maxRecDepth 100000 in
theorem c_within_m1 (l : Launch) (D : va_G) (cI cZ cS : ClassId) (N0 : NT) (n : Int32)  : Mx l D cI cZ cS N0 yX6_within cX6_within 2 (some .boolean) 0 0 0 [.int n, .int (-1)] [] (fun v w => v = some (.int 0) ∧ w = ([] : va_W)) := by
  refine x_enter (by decide) (Nat.le_of_ble_eq_true rfl) ?_
  intro p e s m args below meth c A ls H locs hB hr hin hl hV hA
  have hx := hB.1
  have hb := hB.2.1
  have hl : lv_has ls 2 [(0, .int n), (1, .int (-1))] := hl
  refine lv_iload_n hx hb dX6_within_0 rfl (lv_at hl 0 rfl) ?_
  refine lv_if_lt (tgt := 13) hx hb dX6_within_1 (by decide) (fun c1 => ?_) (fun c1 => ?_)
  · refine lv_iconst (v := 0) hx hb dX6_within_13 (by decide) ?_
    exact x_zret (w := []) hB hr rfl hV hA (Nat.le_of_ble_eq_true rfl) (Nat.le_of_ble_eq_true rfl) [] rfl rfl (by decide) dX6_within_14 ⟨rfl, rfl⟩
  · refine lv_iload_n hx hb dX6_within_4 rfl (lv_at hl 0 rfl) ?_
    refine lv_iload_n hx hb dX6_within_5 rfl (lv_at hl 1 rfl) ?_
    refine lv_icmp_gt (tgt := 13) hx hb dX6_within_6 (by decide) (fun c_ => ?_) (fun c_ => absurd (gt_m1 c1) c_)
    refine lv_iconst (v := 0) hx hb dX6_within_13 (by decide) ?_
    exact x_zret (w := []) hB hr rfl hV hA (Nat.le_of_ble_eq_true rfl) (Nat.le_of_ble_eq_true rfl) [] rfl rfl (by decide) dX6_within_14 ⟨rfl, rfl⟩
set_option maxHeartbeats 4000000 in
set_option maxRecDepth 100000 in
theorem c_has (l : Launch) (D : va_G) (cI cZ cS : ClassId) (N0 : NT) (h : Nat) (n1 : Nat) (n2 : Nat) (n : Int32)  : Mx l D cI cZ cS N0 yX5_has cX5_has 2 (some .boolean) 0 0 0 [.ref h, .int n] [(h, .inr (5, [.ref n1, .int 0, .int 0, .ref n2, .int 0, .int 0, .int 0, .int 0]))] (fun v w => v = some (.int 0) ∧ w = ([(h, .inr (5, [.ref n1, .int 0, .int 0, .ref n2, .int 0, .int 0, .int 0, .int 0]))] : va_W)) := by
  refine x_enter (by decide) (Nat.le_of_ble_eq_true rfl) ?_
  intro p e s m args below meth c A ls H locs hB hr hin hl hV hA
  have hx := hB.1
  have hb := hB.2.1
  have hl : lv_has ls 2 [(0, .ref h), (1, .int n)] := hl
  refine lv_iload_n hx hb dX5_has_0 rfl (lv_at hl 1 rfl) ?_
  refine lv_if_lt (tgt := 16) hx hb dX5_has_1 (by decide) (fun c1 => ?_) (fun c1 => ?_)
  · refine lv_iconst (v := 0) hx hb dX5_has_16 (by decide) ?_
    exact x_zret (w := [(h, .inr (5, [.ref n1, .int 0, .int 0, .ref n2, .int 0, .int 0, .int 0, .int 0]))]) hB hr rfl hV hA (Nat.le_of_ble_eq_true rfl) (Nat.le_of_ble_eq_true rfl) [0] rfl rfl (by decide) dX5_has_17 ⟨rfl, rfl⟩
  · refine lv_iload_n hx hb dX5_has_4 rfl (lv_at hl 1 rfl) ?_
    refine lv_aload_n hx hb dX5_has_5 rfl (lv_at hl 0 rfl) ?_
    refine x_get (v := .int 0) hB hV 0 rfl rfl 1 (by decide) k_202 rfl dX5_has_6 ?_
    refine lv_icmp_ge (tgt := 16) hx hb dX5_has_9 (by decide) (fun c_ => ?_) (fun c_ => absurd (ge_0 c1) c_)
    refine lv_iconst (v := 0) hx hb dX5_has_16 (by decide) ?_
    exact x_zret (w := [(h, .inr (5, [.ref n1, .int 0, .int 0, .ref n2, .int 0, .int 0, .int 0, .int 0]))]) hB hr rfl hV hA (Nat.le_of_ble_eq_true rfl) (Nat.le_of_ble_eq_true rfl) [0] rfl rfl (by decide) dX5_has_17 ⟨rfl, rfl⟩
set_option maxHeartbeats 4000000 in
set_option maxRecDepth 100000 in
theorem c_copyFrom (l : Launch) (D : va_G) (cI cZ cS : ClassId) (N0 : NT) (h : Nat) (n1 : Nat) (n2 : Nat) (o : Nat) (o1 : Nat) (o2 : Nat)  : Mx l D cI cZ cS N0 yX5_copyFrom cX5_copyFrom 3 none 1 0 0 [.ref h, .ref o] [(h, .inr (5, [.ref n1, .int 0, .int 0, .ref n2, .int 0, .int 0, .int 0, .int 0])), (o, .inr (5, [.ref o1, .int 0, .int 0, .ref o2, .int 0, .int 0, .int 0, .int 0]))] (fun v w => v = none ∧ w = ([(h, .inr (5, [.ref n1, .int 0, .int 0, .ref n2, .int 0, .int 0, .int 0, .int 0])), (o, .inr (5, [.ref o1, .int 0, .int 0, .ref o2, .int 0, .int 0, .int 0, .int 0]))] : va_W)) := by
  refine x_enter (by decide) (Nat.le_of_ble_eq_true rfl) ?_
  intro p e s m args below meth c A ls H locs hB hr hin hl hV hA
  have hx := hB.1
  have hb := hB.2.1
  have hl : lv_has ls 3 [(0, .ref h), (1, .ref o)] := hl
  refine lv_aload_n hx hb dX5_copyFrom_0 rfl (lv_at hl 0 rfl) ?_
  refine lv_aload_n hx hb dX5_copyFrom_1 rfl (lv_at hl 1 rfl) ?_
  refine x_get (v := .int 0) hB hV 1 rfl rfl 1 (by decide) k_202 rfl dX5_copyFrom_2 ?_
  refine x_put (v := .int 0) hB hV 0 rfl rfl 1 (by decide) k_202 rfl rfl rfl (Nat.le_of_ble_eq_true rfl) dX5_copyFrom_5 (fun H locs hV => ?_)
  have hV : Vx D A s.heap H locs [(h, .inr (5, [.ref n1, .int 0, .int 0, .ref n2, .int 0, .int 0, .int 0, .int 0])), (o, .inr (5, [.ref o1, .int 0, .int 0, .ref o2, .int 0, .int 0, .int 0, .int 0]))] := hV
  refine lv_aload_n hx hb dX5_copyFrom_8 rfl (lv_at hl 0 rfl) ?_
  refine lv_aload_n hx hb dX5_copyFrom_9 rfl (lv_at hl 1 rfl) ?_
  refine x_get (v := .int 0) hB hV 1 rfl rfl 2 (by decide) k_205 rfl dX5_copyFrom_10 ?_
  refine x_put (v := .int 0) hB hV 0 rfl rfl 2 (by decide) k_205 rfl rfl rfl (Nat.le_of_ble_eq_true rfl) dX5_copyFrom_13 (fun H locs hV => ?_)
  have hV : Vx D A s.heap H locs [(h, .inr (5, [.ref n1, .int 0, .int 0, .ref n2, .int 0, .int 0, .int 0, .int 0])), (o, .inr (5, [.ref o1, .int 0, .int 0, .ref o2, .int 0, .int 0, .int 0, .int 0]))] := hV
  refine lv_aload_n hx hb dX5_copyFrom_16 rfl (lv_at hl 0 rfl) ?_
  refine lv_iconst (v := 0) hx hb dX5_copyFrom_17 (by decide) ?_
  refine x_put (v := .int 0) hB hV 0 rfl rfl 4 (by decide) k_210 rfl rfl rfl (Nat.le_of_ble_eq_true rfl) dX5_copyFrom_18 (fun H locs hV => ?_)
  have hV : Vx D A s.heap H locs [(h, .inr (5, [.ref n1, .int 0, .int 0, .ref n2, .int 0, .int 0, .int 0, .int 0])), (o, .inr (5, [.ref o1, .int 0, .int 0, .ref o2, .int 0, .int 0, .int 0, .int 0]))] := hV
  refine lv_iconst (v := 0) hx hb dX5_copyFrom_21 (by decide) ?_
  refine lv_istore_n (lv' := [(2, .int 0), (0, .ref h), (1, .ref o)]) hx hb dX5_copyFrom_22 rfl hl (by decide) rfl (fun ls hl => ?_)
  refine lv_iload_n hx hb dX5_copyFrom_23 rfl (lv_at hl 0 rfl) ?_
  refine lv_aload_n hx hb dX5_copyFrom_24 rfl (lv_at hl 1 rfl) ?_
  refine x_get (v := .int 0) hB hV 0 rfl rfl 1 (by decide) k_202 rfl dX5_copyFrom_25 ?_
  refine lv_icmp_ge (tgt := 52) hx hb dX5_copyFrom_28 (by decide) (fun c_ => ?_) (fun c_ => absurd (by decide) c_)
  exact x_vret (w := [(h, .inr (5, [.ref n1, .int 0, .int 0, .ref n2, .int 0, .int 0, .int 0, .int 0])), (o, .inr (5, [.ref o1, .int 0, .int 0, .ref o2, .int 0, .int 0, .int 0, .int 0]))]) hB hr hV hA (Nat.le_of_ble_eq_true rfl) (Nat.le_of_ble_eq_true rfl) [0, 1] rfl rfl (by decide) dX5_copyFrom_52 ⟨rfl, rfl⟩
set_option maxHeartbeats 4000000 in
set_option maxRecDepth 100000 in
theorem c_makeFresh (l : Launch) (D : va_G) (cI cZ cS : ClassId) (N0 : NT) (h : Nat) (n1 : Nat) (n2 : Nat)  : Mx l D cI cZ cS N0 yX5_makeFresh cX5_makeFresh 2 none 1 0 0 [.ref h] [(h, .inr (5, [.ref n1, .int 0, .int 0, .ref n2, .int 0, .int 0, .int 0, .int 0]))] (fun v w => v = none ∧ w = ([(h, .inr (5, [.ref n1, .int 0, .int 0, .ref n2, .int 0, .int 0, .int 0, .int 0]))] : va_W)) := by
  refine x_enter (by decide) (Nat.le_of_ble_eq_true rfl) ?_
  intro p e s m args below meth c A ls H locs hB hr hin hl hV hA
  have hx := hB.1
  have hb := hB.2.1
  have hl : lv_has ls 2 [(0, .ref h)] := hl
  refine lv_aload_n hx hb dX5_makeFresh_0 rfl (lv_at hl 0 rfl) ?_
  refine lv_iconst (v := 0) hx hb dX5_makeFresh_1 (by decide) ?_
  refine x_put (v := .int 0) hB hV 0 rfl rfl 2 (by decide) k_205 rfl rfl rfl (Nat.le_of_ble_eq_true rfl) dX5_makeFresh_2 (fun H locs hV => ?_)
  have hV : Vx D A s.heap H locs [(h, .inr (5, [.ref n1, .int 0, .int 0, .ref n2, .int 0, .int 0, .int 0, .int 0]))] := hV
  refine lv_aload_n hx hb dX5_makeFresh_5 rfl (lv_at hl 0 rfl) ?_
  refine lv_iconst (v := 0) hx hb dX5_makeFresh_6 (by decide) ?_
  refine x_put (v := .int 0) hB hV 0 rfl rfl 4 (by decide) k_210 rfl rfl rfl (Nat.le_of_ble_eq_true rfl) dX5_makeFresh_7 (fun H locs hV => ?_)
  have hV : Vx D A s.heap H locs [(h, .inr (5, [.ref n1, .int 0, .int 0, .ref n2, .int 0, .int 0, .int 0, .int 0]))] := hV
  refine lv_iconst (v := 0) hx hb dX5_makeFresh_10 (by decide) ?_
  refine lv_istore_n (lv' := [(1, .int 0), (0, .ref h)]) hx hb dX5_makeFresh_11 rfl hl (by decide) rfl (fun ls hl => ?_)
  refine lv_iload_n hx hb dX5_makeFresh_12 rfl (lv_at hl 0 rfl) ?_
  refine lv_aload_n hx hb dX5_makeFresh_13 rfl (lv_at hl 1 rfl) ?_
  refine x_get (v := .int 0) hB hV 0 rfl rfl 1 (by decide) k_202 rfl dX5_makeFresh_14 ?_
  refine lv_icmp_ge (tgt := 35) hx hb dX5_makeFresh_17 (by decide) (fun c_ => ?_) (fun c_ => absurd (by decide) c_)
  exact x_vret (w := [(h, .inr (5, [.ref n1, .int 0, .int 0, .ref n2, .int 0, .int 0, .int 0, .int 0]))]) hB hr hV hA (Nat.le_of_ble_eq_true rfl) (Nat.le_of_ble_eq_true rfl) [0] rfl rfl (by decide) dX5_makeFresh_35 ⟨rfl, rfl⟩
set_option maxHeartbeats 4000000 in
set_option maxRecDepth 100000 in
theorem c_holdAll (l : Launch) (D : va_G) (cI cZ cS : ClassId) (N0 : NT) (h : Nat) (n1 : Nat) (n2 : Nat) (t : Int32)  : Mx l D cI cZ cS N0 yX5_holdAll cX5_holdAll 3 none 1 0 0 [.ref h, .int t] [(h, .inr (5, [.ref n1, .int 0, .int 0, .ref n2, .int 0, .int 0, .int 0, .int 0]))] (fun v w => v = none ∧ w = ([(h, .inr (5, [.ref n1, .int 0, .int 0, .ref n2, .int 0, .int 0, .int 0, .int 0]))] : va_W)) := by
  refine x_enter (by decide) (Nat.le_of_ble_eq_true rfl) ?_
  intro p e s m args below meth c A ls H locs hB hr hin hl hV hA
  have hx := hB.1
  have hb := hB.2.1
  have hl : lv_has ls 3 [(0, .ref h), (1, .int t)] := hl
  refine lv_iconst (v := 0) hx hb dX5_holdAll_0 (by decide) ?_
  refine lv_istore_n (lv' := [(2, .int 0), (0, .ref h), (1, .int t)]) hx hb dX5_holdAll_1 rfl hl (by decide) rfl (fun ls hl => ?_)
  refine lv_iload_n hx hb dX5_holdAll_2 rfl (lv_at hl 0 rfl) ?_
  refine lv_aload_n hx hb dX5_holdAll_3 rfl (lv_at hl 1 rfl) ?_
  refine x_get (v := .int 0) hB hV 0 rfl rfl 1 (by decide) k_202 rfl dX5_holdAll_4 ?_
  refine lv_icmp_ge (tgt := 26) hx hb dX5_holdAll_7 (by decide) (fun c_ => ?_) (fun c_ => absurd (by decide) c_)
  exact x_vret (w := [(h, .inr (5, [.ref n1, .int 0, .int 0, .ref n2, .int 0, .int 0, .int 0, .int 0]))]) hB hr hV hA (Nat.le_of_ble_eq_true rfl) (Nat.le_of_ble_eq_true rfl) [0] rfl rfl (by decide) dX5_holdAll_26 ⟨rfl, rfl⟩
set_option maxHeartbeats 4000000 in
set_option maxRecDepth 100000 in
theorem c_addMends (l : Launch) (D : va_G) (cI cZ cS : ClassId) (N0 : NT) (h : Nat) (n1 : Nat) (n2 : Nat) (t : Int32)  : Mx l D cI cZ cS N0 yX5_addMends cX5_addMends 3 none 1 0 0 [.ref h, .int t] [(h, .inr (5, [.ref n1, .int 0, .int 0, .ref n2, .int 0, .int 0, .int 0, .int 0]))] (fun v w => v = none ∧ w = ([(h, .inr (5, [.ref n1, .int 0, .int 0, .ref n2, .int 0, .int 0, .int 0, .int 0]))] : va_W)) := by
  refine x_enter (by decide) (Nat.le_of_ble_eq_true rfl) ?_
  intro p e s m args below meth c A ls H locs hB hr hin hl hV hA
  have hx := hB.1
  have hb := hB.2.1
  have hl : lv_has ls 3 [(0, .ref h), (1, .int t)] := hl
  refine lv_iconst (v := 0) hx hb dX5_addMends_0 (by decide) ?_
  refine lv_istore_n (lv' := [(2, .int 0), (0, .ref h), (1, .int t)]) hx hb dX5_addMends_1 rfl hl (by decide) rfl (fun ls hl => ?_)
  refine lv_iload_n hx hb dX5_addMends_2 rfl (lv_at hl 0 rfl) ?_
  refine lv_aload_n hx hb dX5_addMends_3 rfl (lv_at hl 1 rfl) ?_
  refine x_get (v := .int 0) hB hV 0 rfl rfl 1 (by decide) k_202 rfl dX5_addMends_4 ?_
  refine lv_icmp_ge (tgt := 38) hx hb dX5_addMends_7 (by decide) (fun c_ => ?_) (fun c_ => absurd (by decide) c_)
  exact x_vret (w := [(h, .inr (5, [.ref n1, .int 0, .int 0, .ref n2, .int 0, .int 0, .int 0, .int 0]))]) hB hr hV hA (Nat.le_of_ble_eq_true rfl) (Nat.le_of_ble_eq_true rfl) [0] rfl rfl (by decide) dX5_addMends_38 ⟨rfl, rfl⟩
set_option maxHeartbeats 4000000 in
set_option maxRecDepth 100000 in
theorem c_reachOf (l : Launch) (D : va_G) (cI cZ cS : ClassId) (N0 : NT) (h : Nat) (n1 : Nat) (n2 : Nat) (r : Nat) (r1 : Nat) (r2 : Nat) (r3 : Nat)  : Mx l D cI cZ cS N0 yX5_reachOf cX5_reachOf 4 (some .int) 1 0 0 [.ref h, .ref r] [(h, .inr (5, [.ref n1, .int 0, .int 0, .ref n2, .int 0, .int 0, .int 0, .int 0])), (r, .inr (0, [.ref r1, .ref r2, .ref r3, .int 0]))] (fun v w => v = some (.int 0) ∧ w = ([(h, .inr (5, [.ref n1, .int 0, .int 0, .ref n2, .int 0, .int 0, .int 0, .int 0])), (r, .inr (0, [.ref r1, .ref r2, .ref r3, .int 0]))] : va_W)) := by
  refine x_enter (by decide) (Nat.le_of_ble_eq_true rfl) ?_
  intro p e s m args below meth c A ls H locs hB hr hin hl hV hA
  have hx := hB.1
  have hb := hB.2.1
  have hl : lv_has ls 4 [(0, .ref h), (1, .ref r)] := hl
  refine lv_iconst (v := 0) hx hb dX5_reachOf_0 (by decide) ?_
  refine lv_istore_n (lv' := [(2, .int 0), (0, .ref h), (1, .ref r)]) hx hb dX5_reachOf_1 rfl hl (by decide) rfl (fun ls hl => ?_)
  refine lv_iconst (v := 0) hx hb dX5_reachOf_2 (by decide) ?_
  refine lv_istore_n (lv' := [(3, .int 0), (2, .int 0), (0, .ref h), (1, .ref r)]) hx hb dX5_reachOf_3 rfl hl (by decide) rfl (fun ls hl => ?_)
  refine lv_iload_n hx hb dX5_reachOf_4 rfl (lv_at hl 0 rfl) ?_
  refine lv_aload_n hx hb dX5_reachOf_5 rfl (lv_at hl 3 rfl) ?_
  refine x_get (v := .int 0) hB hV 1 rfl rfl 3 (by decide) k_255 rfl dX5_reachOf_6 ?_
  refine lv_icmp_ge (tgt := 29) hx hb dX5_reachOf_9 (by decide) (fun c_ => ?_) (fun c_ => absurd (by decide) c_)
  refine lv_iconst (v := 0) hx hb dX5_reachOf_29 (by decide) ?_
  refine lv_istore_n (lv' := [(3, .int 0), (2, .int 0), (0, .ref h), (1, .ref r)]) hx hb dX5_reachOf_30 rfl hl (by decide) rfl (fun ls hl => ?_)
  refine lv_iload_n hx hb dX5_reachOf_31 rfl (lv_at hl 0 rfl) ?_
  refine lv_aload_n hx hb dX5_reachOf_32 rfl (lv_at hl 2 rfl) ?_
  refine x_get (v := .int 0) hB hV 0 rfl rfl 1 (by decide) k_202 rfl dX5_reachOf_33 ?_
  refine lv_icmp_ge (tgt := 62) hx hb dX5_reachOf_36 (by decide) (fun c_ => ?_) (fun c_ => absurd (by decide) c_)
  refine lv_iload_n hx hb dX5_reachOf_62 rfl (lv_at hl 1 rfl) ?_
  exact x_iret (w := [(h, .inr (5, [.ref n1, .int 0, .int 0, .ref n2, .int 0, .int 0, .int 0, .int 0])), (r, .inr (0, [.ref r1, .ref r2, .ref r3, .int 0]))]) hB hr hV hA (Nat.le_of_ble_eq_true rfl) (Nat.le_of_ble_eq_true rfl) [0, 1] rfl rfl (by decide) dX5_reachOf_63 ⟨rfl, rfl⟩
set_option maxHeartbeats 4000000 in
set_option maxRecDepth 100000 in
theorem c_sameStores (l : Launch) (D : va_G) (cI cZ cS : ClassId) (N0 : NT) (h : Nat) (n1 : Nat) (n2 : Nat) (o : Nat) (o1 : Nat) (o2 : Nat)  : Mx l D cI cZ cS N0 yX5_hasSameStores cX5_hasSameStores 3 (some .boolean) 1 0 0 [.ref h, .ref o] [(h, .inr (5, [.ref n1, .int 0, .int 0, .ref n2, .int 0, .int 0, .int 0, .int 0])), (o, .inr (5, [.ref o1, .int 0, .int 0, .ref o2, .int 0, .int 0, .int 0, .int 0]))] (fun v w => v = some (.int 1) ∧ w = ([(h, .inr (5, [.ref n1, .int 0, .int 0, .ref n2, .int 0, .int 0, .int 0, .int 0])), (o, .inr (5, [.ref o1, .int 0, .int 0, .ref o2, .int 0, .int 0, .int 0, .int 0]))] : va_W)) := by
  refine x_enter (by decide) (Nat.le_of_ble_eq_true rfl) ?_
  intro p e s m args below meth c A ls H locs hB hr hin hl hV hA
  have hx := hB.1
  have hb := hB.2.1
  have hl : lv_has ls 3 [(0, .ref h), (1, .ref o)] := hl
  refine lv_iconst (v := 0) hx hb dX5_hasSameStores_0 (by decide) ?_
  refine lv_istore_n (lv' := [(2, .int 0), (0, .ref h), (1, .ref o)]) hx hb dX5_hasSameStores_1 rfl hl (by decide) rfl (fun ls hl => ?_)
  refine lv_iload_n hx hb dX5_hasSameStores_2 rfl (lv_at hl 0 rfl) ?_
  refine lv_aload_n hx hb dX5_hasSameStores_3 rfl (lv_at hl 1 rfl) ?_
  refine x_get (v := .int 0) hB hV 0 rfl rfl 1 (by decide) k_202 rfl dX5_hasSameStores_4 ?_
  refine lv_icmp_ge (tgt := 36) hx hb dX5_hasSameStores_7 (by decide) (fun c_ => ?_) (fun c_ => absurd (by decide) c_)
  refine lv_iconst (v := 1) hx hb dX5_hasSameStores_36 (by decide) ?_
  exact x_zret (w := [(h, .inr (5, [.ref n1, .int 0, .int 0, .ref n2, .int 0, .int 0, .int 0, .int 0])), (o, .inr (5, [.ref o1, .int 0, .int 0, .ref o2, .int 0, .int 0, .int 0, .int 0]))]) hB hr rfl hV hA (Nat.le_of_ble_eq_true rfl) (Nat.le_of_ble_eq_true rfl) [0, 1] rfl rfl (by decide) dX5_hasSameStores_37 ⟨rfl, rfl⟩
set_option maxHeartbeats 4000000 in
set_option maxRecDepth 100000 in
theorem c_sameCounts (l : Launch) (D : va_G) (cI cZ cS : ClassId) (N0 : NT) (h : Nat) (n1 : Nat) (n2 : Nat) (o : Nat) (o1 : Nat) (o2 : Nat)  : Mx l D cI cZ cS N0 yX5_hasSameCounts cX5_hasSameCounts 3 (some .boolean) 1 0 0 [.ref h, .ref o] [(h, .inr (5, [.ref n1, .int 0, .int 0, .ref n2, .int 0, .int 0, .int 0, .int 0])), (o, .inr (5, [.ref o1, .int 0, .int 0, .ref o2, .int 0, .int 0, .int 0, .int 0]))] (fun v w => v = some (.int 1) ∧ w = ([(h, .inr (5, [.ref n1, .int 0, .int 0, .ref n2, .int 0, .int 0, .int 0, .int 0])), (o, .inr (5, [.ref o1, .int 0, .int 0, .ref o2, .int 0, .int 0, .int 0, .int 0]))] : va_W)) := by
  refine x_enter (by decide) (Nat.le_of_ble_eq_true rfl) ?_
  intro p e s m args below meth c A ls H locs hB hr hin hl hV hA
  have hx := hB.1
  have hb := hB.2.1
  have hl : lv_has ls 3 [(0, .ref h), (1, .ref o)] := hl
  refine lv_iconst (v := 0) hx hb dX5_hasSameCounts_0 (by decide) ?_
  refine lv_istore_n (lv' := [(2, .int 0), (0, .ref h), (1, .ref o)]) hx hb dX5_hasSameCounts_1 rfl hl (by decide) rfl (fun ls hl => ?_)
  refine lv_iload_n hx hb dX5_hasSameCounts_2 rfl (lv_at hl 0 rfl) ?_
  refine lv_aload_n hx hb dX5_hasSameCounts_3 rfl (lv_at hl 1 rfl) ?_
  refine x_get (v := .int 0) hB hV 0 rfl rfl 1 (by decide) k_202 rfl dX5_hasSameCounts_4 ?_
  refine lv_icmp_ge (tgt := 39) hx hb dX5_hasSameCounts_7 (by decide) (fun c_ => ?_) (fun c_ => absurd (by decide) c_)
  refine lv_iconst (v := 1) hx hb dX5_hasSameCounts_39 (by decide) ?_
  exact x_zret (w := [(h, .inr (5, [.ref n1, .int 0, .int 0, .ref n2, .int 0, .int 0, .int 0, .int 0])), (o, .inr (5, [.ref o1, .int 0, .int 0, .ref o2, .int 0, .int 0, .int 0, .int 0]))]) hB hr rfl hV hA (Nat.le_of_ble_eq_true rfl) (Nat.le_of_ble_eq_true rfl) [0, 1] rfl rfl (by decide) dX5_hasSameCounts_40 ⟨rfl, rfl⟩
set_option maxHeartbeats 4000000 in
set_option maxRecDepth 100000 in
theorem c_beginAt (l : Launch) (D : va_G) (cI cZ cS : ClassId) (N0 : NT) (j : Nat) (s1 : Nat) (s2 : Nat) (s3 : Nat) (s4 : Nat) (s5 : Nat) (s6 : Nat) (s7 : Nat) (s8 : Nat) (s9 : Nat) (b1 : Nat) (b2 : Nat) (b3 : Nat) (b4 : Nat) (b5 : Nat) (b6 : Nat) (nw : Nat) (n1 : Nat) (n2 : Nat)  : Mx l D cI cZ cS N0 yX1_beginAt cX1_beginAt 2 none 2 0 0 [.ref j, .ref nw] [(j, .inr (1, [.ref s1, .ref s2, .ref s3, .ref b1, .ref b2, .ref b3, .int 0, .ref b4, .ref b5, .ref b6])), (s1, .inr (5, [.ref s4, .int 0, .int 0, .ref s5, .int 0, .int 0, .int 0, .int 0])), (nw, .inr (5, [.ref n1, .int 0, .int 0, .ref n2, .int 0, .int 0, .int 0, .int 0]))] (fun v w => v = none ∧ w = ([(j, .inr (1, [.ref s1, .ref s2, .ref s3, .ref b1, .ref b2, .ref b3, .int 0, .ref b4, .ref b5, .ref b6])), (s1, .inr (5, [.ref s4, .int 0, .int 0, .ref s5, .int 0, .int 0, .int 0, .int 0])), (nw, .inr (5, [.ref n1, .int 0, .int 0, .ref n2, .int 0, .int 0, .int 0, .int 0]))] : va_W)) := by
  refine x_enter (by decide) (Nat.le_of_ble_eq_true rfl) ?_
  intro p e s m args below meth c A ls H locs hB hr hin hl hV hA
  have hx := hB.1
  have hb := hB.2.1
  have hl : lv_has ls 2 [(0, .ref j), (1, .ref nw)] := hl
  refine lv_aload_n hx hb dX1_beginAt_0 rfl (lv_at hl 0 rfl) ?_
  refine x_get (v := .ref s1) hB hV 0 rfl rfl 0 (by decide) k_276 rfl dX1_beginAt_1 ?_
  refine lv_aload_n hx hb dX1_beginAt_4 rfl (lv_at hl 1 rfl) ?_
  refine x_callV (n := 1) (wr := [(j, .inr (1, [.ref s1, .ref s2, .ref s3, .ref b1, .ref b2, .ref b3, .int 0, .ref b4, .ref b5, .ref b6]))]) (q0 := 1) (As := [.ref nw]) (rest := []) hB hV (x_N hB) hl.1 (c_copyFrom l D cI cZ cS N0 s1 s4 s5 nw n1 n2 ) rfl rfl k_585 k_59 k_582 k_583 k_584 (by decide +kernel) ⟨(Nat.le_of_ble_eq_true rfl), (Nat.le_of_ble_eq_true rfl)⟩ rfl (Nat.le_of_ble_eq_true rfl) ⟨(Nat.le_of_ble_eq_true rfl), (Nat.le_of_ble_eq_true rfl)⟩ [1, 2] [0] rfl rfl rfl ⟨by decide, by decide, by decide⟩ dX1_beginAt_5 (fun v w H locs hp hV => ?_)
  obtain ⟨rfl, rfl⟩ := hp
  have hV : Vx D A s.heap H locs [(j, .inr (1, [.ref s1, .ref s2, .ref s3, .ref b1, .ref b2, .ref b3, .int 0, .ref b4, .ref b5, .ref b6])), (s1, .inr (5, [.ref s4, .int 0, .int 0, .ref s5, .int 0, .int 0, .int 0, .int 0])), (nw, .inr (5, [.ref n1, .int 0, .int 0, .ref n2, .int 0, .int 0, .int 0, .int 0]))] := hV
  refine W.eq (g2 := F0 m 8 ls []) rfl ?_
  exact x_vret (w := [(j, .inr (1, [.ref s1, .ref s2, .ref s3, .ref b1, .ref b2, .ref b3, .int 0, .ref b4, .ref b5, .ref b6])), (s1, .inr (5, [.ref s4, .int 0, .int 0, .ref s5, .int 0, .int 0, .int 0, .int 0])), (nw, .inr (5, [.ref n1, .int 0, .int 0, .ref n2, .int 0, .int 0, .int 0, .int 0]))]) hB hr hV hA (Nat.le_of_ble_eq_true rfl) (Nat.le_of_ble_eq_true rfl) [0, 1, 2] rfl rfl (by decide) dX1_beginAt_8 ⟨rfl, rfl⟩
set_option maxHeartbeats 4000000 in
set_option maxRecDepth 100000 in
theorem c_runOnce (l : Launch) (D : va_G) (cI cZ cS : ClassId) (N0 : NT) (j : Nat) (s1 : Nat) (s2 : Nat) (s3 : Nat) (s4 : Nat) (s5 : Nat) (s6 : Nat) (s7 : Nat) (s8 : Nat) (s9 : Nat) (b1 : Nat) (b2 : Nat) (b3 : Nat) (b4 : Nat) (b5 : Nat) (b6 : Nat) (r : Nat) (r1 : Nat) (r2 : Nat) (r3 : Nat)  : Mx l D cI cZ cS N0 yX1_runOnce cX1_runOnce 3 none 2 0 0 [.ref j, .ref r] [(j, .inr (1, [.ref s1, .ref s2, .ref s3, .ref b1, .ref b2, .ref b3, .int 0, .ref b4, .ref b5, .ref b6])), (s1, .inr (5, [.ref s4, .int 0, .int 0, .ref s5, .int 0, .int 0, .int 0, .int 0])), (s2, .inr (5, [.ref s6, .int 0, .int 0, .ref s7, .int 0, .int 0, .int 0, .int 0])), (s3, .inr (5, [.ref s8, .int 0, .int 0, .ref s9, .int 0, .int 0, .int 0, .int 0])), (r, .inr (0, [.ref r1, .ref r2, .ref r3, .int 0]))] (fun v w => v = none ∧ w = ([(j, .inr (1, [.ref s1, .ref s2, .ref s3, .ref b1, .ref b2, .ref b3, .int 0, .ref b4, .ref b5, .ref b6])), (s1, .inr (5, [.ref s4, .int 0, .int 0, .ref s5, .int 0, .int 0, .int 0, .int 0])), (s2, .inr (5, [.ref s6, .int 0, .int 0, .ref s7, .int 0, .int 0, .int 0, .int 0])), (s3, .inr (5, [.ref s8, .int 0, .int 0, .ref s9, .int 0, .int 0, .int 0, .int 0])), (r, .inr (0, [.ref r1, .ref r2, .ref r3, .int 0]))] : va_W)) := by
  refine x_enter (by decide) (Nat.le_of_ble_eq_true rfl) ?_
  intro p e s m args below meth c A ls H locs hB hr hin hl hV hA
  have hx := hB.1
  have hb := hB.2.1
  have hl : lv_has ls 3 [(0, .ref j), (1, .ref r)] := hl
  refine lv_aload_n hx hb dX1_runOnce_0 rfl (lv_at hl 0 rfl) ?_
  refine x_get (v := .ref s2) hB hV 0 rfl rfl 1 (by decide) k_278 rfl dX1_runOnce_1 ?_
  refine lv_aload_n hx hb dX1_runOnce_4 rfl (lv_at hl 0 rfl) ?_
  refine x_get (v := .ref s1) hB hV 0 rfl rfl 0 (by decide) k_276 rfl dX1_runOnce_5 ?_
  refine x_callV (n := 1) (wr := [(j, .inr (1, [.ref s1, .ref s2, .ref s3, .ref b1, .ref b2, .ref b3, .int 0, .ref b4, .ref b5, .ref b6])), (s3, .inr (5, [.ref s8, .int 0, .int 0, .ref s9, .int 0, .int 0, .int 0, .int 0])), (r, .inr (0, [.ref r1, .ref r2, .ref r3, .int 0]))]) (q0 := 2) (As := [.ref s1]) (rest := []) hB hV (x_N hB) hl.1 (c_copyFrom l D cI cZ cS N0 s2 s6 s7 s1 s4 s5 ) rfl rfl k_585 k_59 k_582 k_583 k_584 (by decide +kernel) ⟨(Nat.le_of_ble_eq_true rfl), (Nat.le_of_ble_eq_true rfl)⟩ rfl (Nat.le_of_ble_eq_true rfl) ⟨(Nat.le_of_ble_eq_true rfl), (Nat.le_of_ble_eq_true rfl)⟩ [2, 1] [0, 3, 4] rfl rfl rfl ⟨by decide, by decide, by decide⟩ dX1_runOnce_8 (fun v w H locs hp hV => ?_)
  obtain ⟨rfl, rfl⟩ := hp
  have hV : Vx D A s.heap H locs [(j, .inr (1, [.ref s1, .ref s2, .ref s3, .ref b1, .ref b2, .ref b3, .int 0, .ref b4, .ref b5, .ref b6])), (s3, .inr (5, [.ref s8, .int 0, .int 0, .ref s9, .int 0, .int 0, .int 0, .int 0])), (r, .inr (0, [.ref r1, .ref r2, .ref r3, .int 0])), (s2, .inr (5, [.ref s6, .int 0, .int 0, .ref s7, .int 0, .int 0, .int 0, .int 0])), (s1, .inr (5, [.ref s4, .int 0, .int 0, .ref s5, .int 0, .int 0, .int 0, .int 0]))] := hV
  refine W.eq (g2 := F0 m 11 ls []) rfl ?_
  refine lv_iconst (v := 0) hx hb dX1_runOnce_11 (by decide) ?_
  refine lv_istore_n (lv' := [(2, .int 0), (0, .ref j), (1, .ref r)]) hx hb dX1_runOnce_12 rfl hl (by decide) rfl (fun ls hl => ?_)
  refine lv_iload_n hx hb dX1_runOnce_13 rfl (lv_at hl 0 rfl) ?_
  refine lv_aload_n hx hb dX1_runOnce_14 rfl (lv_at hl 2 rfl) ?_
  refine x_get (v := .int 0) hB hV 2 rfl rfl 3 (by decide) k_254 rfl dX1_runOnce_15 ?_
  refine lv_icmp_ge (tgt := 72) hx hb dX1_runOnce_18 (by decide) (fun c_ => ?_) (fun c_ => absurd (by decide) c_)
  exact x_vret (w := [(j, .inr (1, [.ref s1, .ref s2, .ref s3, .ref b1, .ref b2, .ref b3, .int 0, .ref b4, .ref b5, .ref b6])), (s1, .inr (5, [.ref s4, .int 0, .int 0, .ref s5, .int 0, .int 0, .int 0, .int 0])), (s2, .inr (5, [.ref s6, .int 0, .int 0, .ref s7, .int 0, .int 0, .int 0, .int 0])), (s3, .inr (5, [.ref s8, .int 0, .int 0, .ref s9, .int 0, .int 0, .int 0, .int 0])), (r, .inr (0, [.ref r1, .ref r2, .ref r3, .int 0]))]) hB hr hV hA (Nat.le_of_ble_eq_true rfl) (Nat.le_of_ble_eq_true rfl) [0, 4, 3, 1, 2] rfl rfl (by decide) dX1_runOnce_72 ⟨rfl, rfl⟩
set_option maxHeartbeats 4000000 in
set_option maxRecDepth 100000 in
theorem c_firstUnsafe (l : Launch) (D : va_G) (cI cZ cS : ClassId) (N0 : NT) (j : Nat) (s1 : Nat) (s2 : Nat) (s3 : Nat) (s4 : Nat) (s5 : Nat) (s6 : Nat) (s7 : Nat) (s8 : Nat) (s9 : Nat) (b1 : Nat) (b2 : Nat) (b3 : Nat) (b4 : Nat) (b5 : Nat) (b6 : Nat) (r : Nat) (r1 : Nat) (r2 : Nat) (r3 : Nat)  : Mx l D cI cZ cS N0 yX1_firstUnsafe cX1_firstUnsafe 7 (some .int) 3 0 0 [.ref j, .ref r, .int 0] [(j, .inr (1, [.ref s1, .ref s2, .ref s3, .ref b1, .ref b2, .ref b3, .int 0, .ref b4, .ref b5, .ref b6])), (s1, .inr (5, [.ref s4, .int 0, .int 0, .ref s5, .int 0, .int 0, .int 0, .int 0])), (s2, .inr (5, [.ref s6, .int 0, .int 0, .ref s7, .int 0, .int 0, .int 0, .int 0])), (s3, .inr (5, [.ref s8, .int 0, .int 0, .ref s9, .int 0, .int 0, .int 0, .int 0])), (r, .inr (0, [.ref r1, .ref r2, .ref r3, .int 0]))] (fun v w => v = some (.int (-1)) ∧ w = ([(j, .inr (1, [.ref s1, .ref s2, .ref s3, .ref b1, .ref b2, .ref b3, .int 0, .ref b4, .ref b5, .ref b6])), (s1, .inr (5, [.ref s4, .int 0, .int 0, .ref s5, .int 0, .int 0, .int 0, .int 0])), (s2, .inr (5, [.ref s6, .int 0, .int 0, .ref s7, .int 0, .int 0, .int 0, .int 0])), (s3, .inr (5, [.ref s8, .int 0, .int 0, .ref s9, .int 0, .int 0, .int 0, .int 0])), (r, .inr (0, [.ref r1, .ref r2, .ref r3, .int 0]))] : va_W)) := by
  refine x_enter (by decide) (Nat.le_of_ble_eq_true rfl) ?_
  intro p e s m args below meth c A ls H locs hB hr hin hl hV hA
  have hx := hB.1
  have hb := hB.2.1
  have hl : lv_has ls 7 [(0, .ref j), (1, .ref r), (2, .int 0)] := hl
  refine lv_aload_n hx hb dX1_firstUnsafe_0 rfl (lv_at hl 0 rfl) ?_
  refine lv_aload_n hx hb dX1_firstUnsafe_1 rfl (lv_at hl 1 rfl) ?_
  refine x_callV (n := 1) (wr := []) (q0 := 0) (As := [.ref r]) (rest := []) hB hV (x_N hB) hl.1 (c_runOnce l D cI cZ cS N0 j s1 s2 s3 s4 s5 s6 s7 s8 s9 b1 b2 b3 b4 b5 b6 r r1 r2 r3 ) rfl rfl k_593 k_64 k_627 k_591 k_592 (by decide +kernel) ⟨(Nat.le_of_ble_eq_true rfl), (Nat.le_of_ble_eq_true rfl)⟩ rfl (Nat.le_of_ble_eq_true rfl) ⟨(Nat.le_of_ble_eq_true rfl), (Nat.le_of_ble_eq_true rfl)⟩ [0, 1, 2, 3, 4] [] rfl rfl rfl ⟨by decide, by decide, by decide⟩ dX1_firstUnsafe_2 (fun v w H locs hp hV => ?_)
  obtain ⟨rfl, rfl⟩ := hp
  have hV : Vx D A s.heap H locs [(j, .inr (1, [.ref s1, .ref s2, .ref s3, .ref b1, .ref b2, .ref b3, .int 0, .ref b4, .ref b5, .ref b6])), (s1, .inr (5, [.ref s4, .int 0, .int 0, .ref s5, .int 0, .int 0, .int 0, .int 0])), (s2, .inr (5, [.ref s6, .int 0, .int 0, .ref s7, .int 0, .int 0, .int 0, .int 0])), (s3, .inr (5, [.ref s8, .int 0, .int 0, .ref s9, .int 0, .int 0, .int 0, .int 0])), (r, .inr (0, [.ref r1, .ref r2, .ref r3, .int 0]))] := hV
  refine W.eq (g2 := F0 m 5 ls []) rfl ?_
  refine lv_iconst (v := 0) hx hb dX1_firstUnsafe_5 (by decide) ?_
  refine lv_istore_n (lv' := [(3, .int 0), (0, .ref j), (1, .ref r), (2, .int 0)]) hx hb dX1_firstUnsafe_6 rfl hl (by decide) rfl (fun ls hl => ?_)
  refine lv_iload_n hx hb dX1_firstUnsafe_7 rfl (lv_at hl 0 rfl) ?_
  refine lv_aload_n hx hb dX1_firstUnsafe_8 rfl (lv_at hl 2 rfl) ?_
  refine x_get (v := .int 0) hB hV 4 rfl rfl 3 (by decide) k_254 rfl dX1_firstUnsafe_9 ?_
  refine lv_icmp_ge (tgt := 104) hx hb dX1_firstUnsafe_12 (by decide) (fun c_ => ?_) (fun c_ => absurd (by decide) c_)
  refine lv_iconst (v := (-1)) hx hb dX1_firstUnsafe_104 (by decide) ?_
  exact x_iret (w := [(j, .inr (1, [.ref s1, .ref s2, .ref s3, .ref b1, .ref b2, .ref b3, .int 0, .ref b4, .ref b5, .ref b6])), (s1, .inr (5, [.ref s4, .int 0, .int 0, .ref s5, .int 0, .int 0, .int 0, .int 0])), (s2, .inr (5, [.ref s6, .int 0, .int 0, .ref s7, .int 0, .int 0, .int 0, .int 0])), (s3, .inr (5, [.ref s8, .int 0, .int 0, .ref s9, .int 0, .int 0, .int 0, .int 0])), (r, .inr (0, [.ref r1, .ref r2, .ref r3, .int 0]))]) hB hr hV hA (Nat.le_of_ble_eq_true rfl) (Nat.le_of_ble_eq_true rfl) [0, 1, 2, 3, 4] rfl rfl (by decide) dX1_firstUnsafe_105 ⟨rfl, rfl⟩
set_option maxHeartbeats 4000000 in
set_option maxRecDepth 100000 in
theorem c_isStill (l : Launch) (D : va_G) (cI cZ cS : ClassId) (N0 : NT) (j : Nat) (s1 : Nat) (s2 : Nat) (s3 : Nat) (s4 : Nat) (s5 : Nat) (s6 : Nat) (s7 : Nat) (s8 : Nat) (s9 : Nat) (b1 : Nat) (b2 : Nat) (b3 : Nat) (b4 : Nat) (b5 : Nat) (b6 : Nat) (r : Nat) (r1 : Nat) (r2 : Nat) (r3 : Nat)  : Mx l D cI cZ cS N0 yX1_isStill cX1_isStill 3 (some .boolean) 3 0 0 [.ref j, .ref r] [(j, .inr (1, [.ref s1, .ref s2, .ref s3, .ref b1, .ref b2, .ref b3, .int 0, .ref b4, .ref b5, .ref b6])), (s1, .inr (5, [.ref s4, .int 0, .int 0, .ref s5, .int 0, .int 0, .int 0, .int 0])), (s2, .inr (5, [.ref s6, .int 0, .int 0, .ref s7, .int 0, .int 0, .int 0, .int 0])), (s3, .inr (5, [.ref s8, .int 0, .int 0, .ref s9, .int 0, .int 0, .int 0, .int 0])), (r, .inr (0, [.ref r1, .ref r2, .ref r3, .int 0]))] (fun v w => v = some (.int 1) ∧ w = ([(j, .inr (1, [.ref s1, .ref s2, .ref s3, .ref b1, .ref b2, .ref b3, .int 0, .ref b4, .ref b5, .ref b6])), (s1, .inr (5, [.ref s4, .int 0, .int 0, .ref s5, .int 0, .int 0, .int 0, .int 0])), (s2, .inr (5, [.ref s6, .int 0, .int 0, .ref s7, .int 0, .int 0, .int 0, .int 0])), (s3, .inr (5, [.ref s8, .int 0, .int 0, .ref s9, .int 0, .int 0, .int 0, .int 0])), (r, .inr (0, [.ref r1, .ref r2, .ref r3, .int 0]))] : va_W)) := by
  refine x_enter (by decide) (Nat.le_of_ble_eq_true rfl) ?_
  intro p e s m args below meth c A ls H locs hB hr hin hl hV hA
  have hx := hB.1
  have hb := hB.2.1
  have hl : lv_has ls 3 [(0, .ref j), (1, .ref r)] := hl
  refine lv_aload_n hx hb dX1_isStill_0 rfl (lv_at hl 0 rfl) ?_
  refine x_get (v := .ref s3) hB hV 0 rfl rfl 2 (by decide) k_279 rfl dX1_isStill_1 ?_
  refine lv_aload_n hx hb dX1_isStill_4 rfl (lv_at hl 0 rfl) ?_
  refine x_get (v := .ref s1) hB hV 0 rfl rfl 0 (by decide) k_276 rfl dX1_isStill_5 ?_
  refine x_callV (n := 1) (wr := [(j, .inr (1, [.ref s1, .ref s2, .ref s3, .ref b1, .ref b2, .ref b3, .int 0, .ref b4, .ref b5, .ref b6])), (s2, .inr (5, [.ref s6, .int 0, .int 0, .ref s7, .int 0, .int 0, .int 0, .int 0])), (r, .inr (0, [.ref r1, .ref r2, .ref r3, .int 0]))]) (q0 := 3) (As := [.ref s1]) (rest := []) hB hV (x_N hB) hl.1 (c_copyFrom l D cI cZ cS N0 s3 s8 s9 s1 s4 s5 ) rfl rfl k_585 k_59 k_582 k_583 k_584 (by decide +kernel) ⟨(Nat.le_of_ble_eq_true rfl), (Nat.le_of_ble_eq_true rfl)⟩ rfl (Nat.le_of_ble_eq_true rfl) ⟨(Nat.le_of_ble_eq_true rfl), (Nat.le_of_ble_eq_true rfl)⟩ [3, 1] [0, 2, 4] rfl rfl rfl ⟨by decide, by decide, by decide⟩ dX1_isStill_8 (fun v w H locs hp hV => ?_)
  obtain ⟨rfl, rfl⟩ := hp
  have hV : Vx D A s.heap H locs [(j, .inr (1, [.ref s1, .ref s2, .ref s3, .ref b1, .ref b2, .ref b3, .int 0, .ref b4, .ref b5, .ref b6])), (s2, .inr (5, [.ref s6, .int 0, .int 0, .ref s7, .int 0, .int 0, .int 0, .int 0])), (r, .inr (0, [.ref r1, .ref r2, .ref r3, .int 0])), (s3, .inr (5, [.ref s8, .int 0, .int 0, .ref s9, .int 0, .int 0, .int 0, .int 0])), (s1, .inr (5, [.ref s4, .int 0, .int 0, .ref s5, .int 0, .int 0, .int 0, .int 0]))] := hV
  refine W.eq (g2 := F0 m 11 ls []) rfl ?_
  refine lv_iconst (v := 0) hx hb dX1_isStill_11 (by decide) ?_
  refine lv_istore_n (lv' := [(2, .int 0), (0, .ref j), (1, .ref r)]) hx hb dX1_isStill_12 rfl hl (by decide) rfl (fun ls hl => ?_)
  refine lv_iload_n hx hb dX1_isStill_13 rfl (lv_at hl 0 rfl) ?_
  refine lv_aload_n hx hb dX1_isStill_14 rfl (lv_at hl 2 rfl) ?_
  refine x_get (v := .int 0) hB hV 2 rfl rfl 3 (by decide) k_254 rfl dX1_isStill_15 ?_
  refine lv_icmp_ge (tgt := 54) hx hb dX1_isStill_18 (by decide) (fun c_ => ?_) (fun c_ => absurd (by decide) c_)
  refine lv_aload_n hx hb dX1_isStill_54 rfl (lv_at hl 1 rfl) ?_
  refine x_get (v := .ref s3) hB hV 0 rfl rfl 2 (by decide) k_279 rfl dX1_isStill_55 ?_
  refine x_get (v := .int 0) hB hV 3 rfl rfl 4 (by decide) k_212 rfl dX1_isStill_58 ?_
  refine lv_if_ne (tgt := 96) hx hb dX1_isStill_61 (by decide) (fun c_ => absurd (by decide) c_) (fun c_ => ?_)
  refine lv_aload_n hx hb dX1_isStill_64 rfl (lv_at hl 1 rfl) ?_
  refine x_get (v := .ref s3) hB hV 0 rfl rfl 2 (by decide) k_279 rfl dX1_isStill_65 ?_
  refine lv_aload_n hx hb dX1_isStill_68 rfl (lv_at hl 1 rfl) ?_
  refine x_get (v := .ref s1) hB hV 0 rfl rfl 0 (by decide) k_276 rfl dX1_isStill_69 ?_
  refine x_callV (n := 1) (wr := [(j, .inr (1, [.ref s1, .ref s2, .ref s3, .ref b1, .ref b2, .ref b3, .int 0, .ref b4, .ref b5, .ref b6])), (s2, .inr (5, [.ref s6, .int 0, .int 0, .ref s7, .int 0, .int 0, .int 0, .int 0])), (r, .inr (0, [.ref r1, .ref r2, .ref r3, .int 0]))]) (q0 := 3) (As := [.ref s1]) (rest := []) hB hV (x_N hB) hl.1 (c_sameStores l D cI cZ cS N0 s3 s8 s9 s1 s4 s5 ) rfl rfl k_606 k_59 k_603 k_604 k_605 (by decide +kernel) ⟨(Nat.le_of_ble_eq_true rfl), (Nat.le_of_ble_eq_true rfl)⟩ rfl (Nat.le_of_ble_eq_true rfl) ⟨(Nat.le_of_ble_eq_true rfl), (Nat.le_of_ble_eq_true rfl)⟩ [3, 4] [0, 1, 2] rfl rfl rfl ⟨by decide, by decide, by decide⟩ dX1_isStill_72 (fun v w H locs hp hV => ?_)
  obtain ⟨rfl, rfl⟩ := hp
  have hV : Vx D A s.heap H locs [(j, .inr (1, [.ref s1, .ref s2, .ref s3, .ref b1, .ref b2, .ref b3, .int 0, .ref b4, .ref b5, .ref b6])), (s2, .inr (5, [.ref s6, .int 0, .int 0, .ref s7, .int 0, .int 0, .int 0, .int 0])), (r, .inr (0, [.ref r1, .ref r2, .ref r3, .int 0])), (s3, .inr (5, [.ref s8, .int 0, .int 0, .ref s9, .int 0, .int 0, .int 0, .int 0])), (s1, .inr (5, [.ref s4, .int 0, .int 0, .ref s5, .int 0, .int 0, .int 0, .int 0]))] := hV
  refine W.eq (g2 := F0 m 75 ls [.int 1]) rfl ?_
  refine lv_if_eq (tgt := 96) hx hb dX1_isStill_75 (by decide) (fun c_ => absurd c_ (by decide)) (fun c_ => ?_)
  refine lv_aload_n hx hb dX1_isStill_78 rfl (lv_at hl 1 rfl) ?_
  refine x_get (v := .ref s3) hB hV 0 rfl rfl 2 (by decide) k_279 rfl dX1_isStill_79 ?_
  refine lv_aload_n hx hb dX1_isStill_82 rfl (lv_at hl 1 rfl) ?_
  refine x_get (v := .ref s1) hB hV 0 rfl rfl 0 (by decide) k_276 rfl dX1_isStill_83 ?_
  refine x_callV (n := 1) (wr := [(j, .inr (1, [.ref s1, .ref s2, .ref s3, .ref b1, .ref b2, .ref b3, .int 0, .ref b4, .ref b5, .ref b6])), (s2, .inr (5, [.ref s6, .int 0, .int 0, .ref s7, .int 0, .int 0, .int 0, .int 0])), (r, .inr (0, [.ref r1, .ref r2, .ref r3, .int 0]))]) (q0 := 3) (As := [.ref s1]) (rest := []) hB hV (x_N hB) hl.1 (c_sameCounts l D cI cZ cS N0 s3 s8 s9 s1 s4 s5 ) rfl rfl k_614 k_59 k_611 k_612 k_613 (by decide +kernel) ⟨(Nat.le_of_ble_eq_true rfl), (Nat.le_of_ble_eq_true rfl)⟩ rfl (Nat.le_of_ble_eq_true rfl) ⟨(Nat.le_of_ble_eq_true rfl), (Nat.le_of_ble_eq_true rfl)⟩ [3, 4] [0, 1, 2] rfl rfl rfl ⟨by decide, by decide, by decide⟩ dX1_isStill_86 (fun v w H locs hp hV => ?_)
  obtain ⟨rfl, rfl⟩ := hp
  have hV : Vx D A s.heap H locs [(j, .inr (1, [.ref s1, .ref s2, .ref s3, .ref b1, .ref b2, .ref b3, .int 0, .ref b4, .ref b5, .ref b6])), (s2, .inr (5, [.ref s6, .int 0, .int 0, .ref s7, .int 0, .int 0, .int 0, .int 0])), (r, .inr (0, [.ref r1, .ref r2, .ref r3, .int 0])), (s3, .inr (5, [.ref s8, .int 0, .int 0, .ref s9, .int 0, .int 0, .int 0, .int 0])), (s1, .inr (5, [.ref s4, .int 0, .int 0, .ref s5, .int 0, .int 0, .int 0, .int 0]))] := hV
  refine W.eq (g2 := F0 m 89 ls [.int 1]) rfl ?_
  refine lv_if_eq (tgt := 96) hx hb dX1_isStill_89 (by decide) (fun c_ => absurd c_ (by decide)) (fun c_ => ?_)
  refine lv_iconst (v := 1) hx hb dX1_isStill_92 (by decide) ?_
  refine lv_goto (tgt := 97) hx hb dX1_isStill_93 (by decide) ?_
  exact x_zret (w := [(j, .inr (1, [.ref s1, .ref s2, .ref s3, .ref b1, .ref b2, .ref b3, .int 0, .ref b4, .ref b5, .ref b6])), (s1, .inr (5, [.ref s4, .int 0, .int 0, .ref s5, .int 0, .int 0, .int 0, .int 0])), (s2, .inr (5, [.ref s6, .int 0, .int 0, .ref s7, .int 0, .int 0, .int 0, .int 0])), (s3, .inr (5, [.ref s8, .int 0, .int 0, .ref s9, .int 0, .int 0, .int 0, .int 0])), (r, .inr (0, [.ref r1, .ref r2, .ref r3, .int 0]))]) hB hr rfl hV hA (Nat.le_of_ble_eq_true rfl) (Nat.le_of_ble_eq_true rfl) [0, 4, 1, 3, 2] rfl rfl (by decide) dX1_isStill_97 ⟨rfl, rfl⟩
set_option maxHeartbeats 4000000 in
set_option maxRecDepth 100000 in
theorem c_bitCount (l : Launch) (D : va_G) (cI cZ cS : ClassId) (N0 : NT)   : Mx l D cI cZ cS N0 yJ6_bitCount_0f7a4 cJ6_bitCount_0f7a4 1 (some .int) 0 0 0 [.int 0] [] (fun v w => v = some (.int 0) ∧ w = ([] : va_W)) := by
  refine x_enter (by decide) (Nat.le_of_ble_eq_true rfl) ?_
  intro p e s m args below meth c A ls H locs hB hr hin hl hV hA
  have hx := hB.1
  have hb := hB.2.1
  have hl : lv_has ls 1 [(0, .int 0)] := hl
  refine lv_iload_n hx hb dJ6_bitCount_0f7a4_0 rfl (lv_at hl 0 rfl) ?_
  refine lv_iload_n hx hb dJ6_bitCount_0f7a4_1 rfl (lv_at hl 0 rfl) ?_
  refine lv_iconst (v := 1) hx hb dJ6_bitCount_0f7a4_2 (by decide) ?_
  refine lv_iushr (v := 0) hx hb dJ6_bitCount_0f7a4_3 (by decide) ?_
  refine lv_ldcw (v := 1431655765) hx hb hB.2.2.2.1 (hB.2.2.2.2.1 _ k_688) dJ6_bitCount_0f7a4_4 ?_
  refine lv_iand hx hb dJ6_bitCount_0f7a4_7 ?_
  refine x_ev (y := 0) (by decide) ?_
  refine lv_isub hx hb dJ6_bitCount_0f7a4_8 ?_
  refine x_ev (y := 0) (by decide) ?_
  refine lv_istore_n (lv' := [(0, .int 0)]) hx hb dJ6_bitCount_0f7a4_9 rfl hl (by decide) rfl (fun ls hl => ?_)
  refine lv_iload_n hx hb dJ6_bitCount_0f7a4_10 rfl (lv_at hl 0 rfl) ?_
  refine lv_ldcw (v := 858993459) hx hb hB.2.2.2.1 (hB.2.2.2.2.1 _ k_689) dJ6_bitCount_0f7a4_11 ?_
  refine lv_iand hx hb dJ6_bitCount_0f7a4_14 ?_
  refine x_ev (y := 0) (by decide) ?_
  refine lv_iload_n hx hb dJ6_bitCount_0f7a4_15 rfl (lv_at hl 0 rfl) ?_
  refine lv_iconst (v := 2) hx hb dJ6_bitCount_0f7a4_16 (by decide) ?_
  refine lv_iushr (v := 0) hx hb dJ6_bitCount_0f7a4_17 (by decide) ?_
  refine lv_ldcw (v := 858993459) hx hb hB.2.2.2.1 (hB.2.2.2.2.1 _ k_689) dJ6_bitCount_0f7a4_18 ?_
  refine lv_iand hx hb dJ6_bitCount_0f7a4_21 ?_
  refine x_ev (y := 0) (by decide) ?_
  refine lv_iadd hx hb dJ6_bitCount_0f7a4_22 ?_
  refine x_ev (y := 0) (by decide) ?_
  refine lv_istore_n (lv' := [(0, .int 0)]) hx hb dJ6_bitCount_0f7a4_23 rfl hl (by decide) rfl (fun ls hl => ?_)
  refine lv_iload_n hx hb dJ6_bitCount_0f7a4_24 rfl (lv_at hl 0 rfl) ?_
  refine lv_iload_n hx hb dJ6_bitCount_0f7a4_25 rfl (lv_at hl 0 rfl) ?_
  refine lv_iconst (v := 4) hx hb dJ6_bitCount_0f7a4_26 (by decide) ?_
  refine lv_iushr (v := 0) hx hb dJ6_bitCount_0f7a4_27 (by decide) ?_
  refine lv_iadd hx hb dJ6_bitCount_0f7a4_28 ?_
  refine x_ev (y := 0) (by decide) ?_
  refine lv_ldcw (v := 252645135) hx hb hB.2.2.2.1 (hB.2.2.2.2.1 _ k_690) dJ6_bitCount_0f7a4_29 ?_
  refine lv_iand hx hb dJ6_bitCount_0f7a4_32 ?_
  refine x_ev (y := 0) (by decide) ?_
  refine lv_istore_n (lv' := [(0, .int 0)]) hx hb dJ6_bitCount_0f7a4_33 rfl hl (by decide) rfl (fun ls hl => ?_)
  refine lv_iload_n hx hb dJ6_bitCount_0f7a4_34 rfl (lv_at hl 0 rfl) ?_
  refine lv_iload_n hx hb dJ6_bitCount_0f7a4_35 rfl (lv_at hl 0 rfl) ?_
  refine lv_bipush (v := 8) hx hb dJ6_bitCount_0f7a4_36 (by decide) ?_
  refine lv_iushr (v := 0) hx hb dJ6_bitCount_0f7a4_38 (by decide) ?_
  refine lv_iadd hx hb dJ6_bitCount_0f7a4_39 ?_
  refine x_ev (y := 0) (by decide) ?_
  refine lv_istore_n (lv' := [(0, .int 0)]) hx hb dJ6_bitCount_0f7a4_40 rfl hl (by decide) rfl (fun ls hl => ?_)
  refine lv_iload_n hx hb dJ6_bitCount_0f7a4_41 rfl (lv_at hl 0 rfl) ?_
  refine lv_iload_n hx hb dJ6_bitCount_0f7a4_42 rfl (lv_at hl 0 rfl) ?_
  refine lv_bipush (v := 16) hx hb dJ6_bitCount_0f7a4_43 (by decide) ?_
  refine lv_iushr (v := 0) hx hb dJ6_bitCount_0f7a4_45 (by decide) ?_
  refine lv_iadd hx hb dJ6_bitCount_0f7a4_46 ?_
  refine x_ev (y := 0) (by decide) ?_
  refine lv_istore_n (lv' := [(0, .int 0)]) hx hb dJ6_bitCount_0f7a4_47 rfl hl (by decide) rfl (fun ls hl => ?_)
  refine lv_iload_n hx hb dJ6_bitCount_0f7a4_48 rfl (lv_at hl 0 rfl) ?_
  refine lv_bipush (v := 63) hx hb dJ6_bitCount_0f7a4_49 (by decide) ?_
  refine lv_iand hx hb dJ6_bitCount_0f7a4_51 ?_
  refine x_ev (y := 0) (by decide) ?_
  exact x_iret (w := []) hB hr hV hA (Nat.le_of_ble_eq_true rfl) (Nat.le_of_ble_eq_true rfl) [] rfl rfl (by decide) dJ6_bitCount_0f7a4_52 ⟨rfl, rfl⟩
set_option maxHeartbeats 4000000 in
set_option maxRecDepth 100000 in
theorem c_numberOfTrailingZeros (l : Launch) (D : va_G) (cI cZ cS : ClassId) (N0 : NT)   : Mx l D cI cZ cS N0 yJ6_numberOfTrailingZeros_0f7a4 cJ6_numberOfTrailingZeros_0f7a4 2 (some .int) 0 0 0 [.int 0] [] (fun v w => v = some (.int 32) ∧ w = ([] : va_W)) := by
  refine x_enter (by decide) (Nat.le_of_ble_eq_true rfl) ?_
  intro p e s m args below meth c A ls H locs hB hr hin hl hV hA
  have hx := hB.1
  have hb := hB.2.1
  have hl : lv_has ls 2 [(0, .int 0)] := hl
  refine lv_iload_n hx hb dJ6_numberOfTrailingZeros_0f7a4_0 rfl (lv_at hl 0 rfl) ?_
  refine lv_iconst (v := (-1)) hx hb dJ6_numberOfTrailingZeros_0f7a4_1 (by decide) ?_
  refine lv_ixor hx hb dJ6_numberOfTrailingZeros_0f7a4_2 ?_
  refine x_ev (y := (-1)) (by decide) ?_
  refine lv_iload_n hx hb dJ6_numberOfTrailingZeros_0f7a4_3 rfl (lv_at hl 0 rfl) ?_
  refine lv_iconst (v := 1) hx hb dJ6_numberOfTrailingZeros_0f7a4_4 (by decide) ?_
  refine lv_isub hx hb dJ6_numberOfTrailingZeros_0f7a4_5 ?_
  refine x_ev (y := (-1)) (by decide) ?_
  refine lv_iand hx hb dJ6_numberOfTrailingZeros_0f7a4_6 ?_
  refine x_ev (y := (-1)) (by decide) ?_
  refine lv_istore_n (lv' := [(0, .int (-1))]) hx hb dJ6_numberOfTrailingZeros_0f7a4_7 rfl hl (by decide) rfl (fun ls hl => ?_)
  refine lv_iload_n hx hb dJ6_numberOfTrailingZeros_0f7a4_8 rfl (lv_at hl 0 rfl) ?_
  refine lv_if_gt (tgt := 17) hx hb dJ6_numberOfTrailingZeros_0f7a4_9 (by decide) (fun c_ => absurd c_ (by decide)) (fun c_ => ?_)
  refine lv_iload_n hx hb dJ6_numberOfTrailingZeros_0f7a4_12 rfl (lv_at hl 0 rfl) ?_
  refine lv_bipush (v := 32) hx hb dJ6_numberOfTrailingZeros_0f7a4_13 (by decide) ?_
  refine lv_iand hx hb dJ6_numberOfTrailingZeros_0f7a4_15 ?_
  refine x_ev (y := 32) (by decide) ?_
  exact x_iret (w := []) hB hr hV hA (Nat.le_of_ble_eq_true rfl) (Nat.le_of_ble_eq_true rfl) [] rfl rfl (by decide) dJ6_numberOfTrailingZeros_0f7a4_16 ⟨rfl, rfl⟩
set_option maxHeartbeats 4000000 in
set_option maxRecDepth 100000 in
theorem c_numberOfLeadingZeros (l : Launch) (D : va_G) (cI cZ cS : ClassId) (N0 : NT)   : Mx l D cI cZ cS N0 yJ6_numberOfLeadingZeros_0f7a4 cJ6_numberOfLeadingZeros_0f7a4 2 (some .int) 0 0 0 [.int 0] [] (fun v w => v = some (.int 32) ∧ w = ([] : va_W)) := by
  refine x_enter (by decide) (Nat.le_of_ble_eq_true rfl) ?_
  intro p e s m args below meth c A ls H locs hB hr hin hl hV hA
  have hx := hB.1
  have hb := hB.2.1
  have hl : lv_has ls 2 [(0, .int 0)] := hl
  refine lv_iload_n hx hb dJ6_numberOfLeadingZeros_0f7a4_0 rfl (lv_at hl 0 rfl) ?_
  refine lv_if_gt (tgt := 15) hx hb dJ6_numberOfLeadingZeros_0f7a4_1 (by decide) (fun c_ => absurd c_ (by decide)) (fun c_ => ?_)
  refine lv_iload_n hx hb dJ6_numberOfLeadingZeros_0f7a4_4 rfl (lv_at hl 0 rfl) ?_
  refine lv_if_ne (tgt := 13) hx hb dJ6_numberOfLeadingZeros_0f7a4_5 (by decide) (fun c_ => absurd (by decide) c_) (fun c_ => ?_)
  refine lv_bipush (v := 32) hx hb dJ6_numberOfLeadingZeros_0f7a4_8 (by decide) ?_
  refine lv_goto (tgt := 14) hx hb dJ6_numberOfLeadingZeros_0f7a4_10 (by decide) ?_
  exact x_iret (w := []) hB hr hV hA (Nat.le_of_ble_eq_true rfl) (Nat.le_of_ble_eq_true rfl) [] rfl rfl (by decide) dJ6_numberOfLeadingZeros_0f7a4_14 ⟨rfl, rfl⟩
end
section
theorem k_19 : Cond.selects RX6 yX6_cheapestAdditions yX6_cheapestAdditions ∈ tb := mt 19 (by decide +kernel) rfl
theorem k_20 : Cond.selects RX6 yX6_priceOf yX6_priceOf ∈ tb := mt 20 (by decide +kernel) rfl
theorem k_57 : Cond.initialized RX6 ∈ tb := mt 57 (by decide +kernel) rfl
theorem k_71 : Cond.initialized RJ6 ∈ tb := mt 71 (by decide +kernel) rfl
theorem k_88 : Cond.fieldLink RX6 50 "TwiceOnce$Tape" "size" "I" ∈ tb := mt 88 (by decide +kernel) rfl
theorem k_203 : Cond.fieldLink RX6 58 "TwiceOnce$World" "size" "I" ∈ tb := mt 203 (by decide +kernel) rfl
theorem k_206 : Cond.fieldLink RX6 99 "TwiceOnce$World" "ticks" "I" ∈ tb := mt 206 (by decide +kernel) rfl
theorem k_211 : Cond.fieldLink RX6 126 "TwiceOnce$World" "doneInAll" "I" ∈ tb := mt 211 (by decide +kernel) rfl
theorem k_256 : Cond.fieldLink RX6 138 "TwiceOnce$CallList" "size" "I" ∈ tb := mt 256 (by decide +kernel) rfl
theorem k_277 : Cond.fieldLink RX6 163 "TwiceOnce$Judge" "start" "LTwiceOnce$World;" ∈ tb := mt 277 (by decide +kernel) rfl
theorem k_414 : Cond.static yX6_within ∈ tb := mt 414 (by decide +kernel) rfl
set_option maxRecDepth 20000 in
theorem k_415 : Cond.code yX6_within cX6_within 2 (some .boolean) ∈ tb := mt 415 rfl rfl
theorem k_433 : Cond.methodLink RX6 76 yX5_has ∈ tb := mt 433 (by decide +kernel) rfl
theorem k_434 : Cond.instanceMethod yX5_has ∈ tb := mt 434 (by decide +kernel) rfl
theorem k_435 : Cond.selects RX5 yX5_has yX5_has ∈ tb := mt 435 (by decide +kernel) rfl
set_option maxRecDepth 20000 in
theorem k_436 : Cond.code yX5_has cX5_has 2 (some .boolean) ∈ tb := mt 436 rfl rfl
theorem k_441 : Cond.methodLink RX6 83 yX6_within ∈ tb := mt 441 (by decide +kernel) rfl
theorem k_559 : Cond.methodLink RX6 129 Lib.Math.min.name ∈ tb := mt 559 (by decide +kernel) rfl
theorem k_560 : Cond.static Lib.Math.min.name ∈ tb := mt 560 (by decide +kernel) rfl
set_option maxRecDepth 20000 in
theorem k_561 : Cond.code Lib.Math.min.name Lib.Math.min.code 2 (some .int) ∈ tb := mt 561 rfl rfl
theorem k_578 : Cond.methodLink RX6 139 yX1_beginAt ∈ tb := mt 578 (by decide +kernel) rfl
theorem k_579 : Cond.instanceMethod yX1_beginAt ∈ tb := mt 579 (by decide +kernel) rfl
theorem k_580 : Cond.selects RX1 yX1_beginAt yX1_beginAt ∈ tb := mt 580 (by decide +kernel) rfl
set_option maxRecDepth 20000 in
theorem k_581 : Cond.code yX1_beginAt cX1_beginAt 2 none ∈ tb := mt 581 rfl rfl
theorem k_623 : Cond.methodLink RX6 155 yX1_firstUnsafe ∈ tb := mt 623 (by decide +kernel) rfl
theorem k_624 : Cond.instanceMethod yX1_firstUnsafe ∈ tb := mt 624 (by decide +kernel) rfl
theorem k_625 : Cond.selects RX1 yX1_firstUnsafe yX1_firstUnsafe ∈ tb := mt 625 (by decide +kernel) rfl
set_option maxRecDepth 20000 in
theorem k_626 : Cond.code yX1_firstUnsafe cX1_firstUnsafe 7 (some .int) ∈ tb := mt 626 rfl rfl
theorem k_669 : Cond.methodLink RX6 166 yX5_holdAll ∈ tb := mt 669 (by decide +kernel) rfl
theorem k_670 : Cond.instanceMethod yX5_holdAll ∈ tb := mt 670 (by decide +kernel) rfl
theorem k_671 : Cond.selects RX5 yX5_holdAll yX5_holdAll ∈ tb := mt 671 (by decide +kernel) rfl
set_option maxRecDepth 20000 in
theorem k_672 : Cond.code yX5_holdAll cX5_holdAll 3 none ∈ tb := mt 672 rfl rfl
theorem k_681 : Cond.methodLink RX6 169 yX5_reachOf ∈ tb := mt 681 (by decide +kernel) rfl
theorem k_682 : Cond.instanceMethod yX5_reachOf ∈ tb := mt 682 (by decide +kernel) rfl
theorem k_683 : Cond.selects RX5 yX5_reachOf yX5_reachOf ∈ tb := mt 683 (by decide +kernel) rfl
set_option maxRecDepth 20000 in
theorem k_684 : Cond.code yX5_reachOf cX5_reachOf 4 (some .int) ∈ tb := mt 684 rfl rfl
theorem k_685 : Cond.methodLink RX6 173 yJ6_bitCount_0f7a4 ∈ tb := mt 685 (by decide +kernel) rfl
theorem k_686 : Cond.static yJ6_bitCount_0f7a4 ∈ tb := mt 686 (by decide +kernel) rfl
set_option maxRecDepth 20000 in
theorem k_687 : Cond.code yJ6_bitCount_0f7a4 cJ6_bitCount_0f7a4 1 (some .int) ∈ tb := mt 687 rfl rfl
theorem k_691 : Cond.methodLink RX6 178 yX6_cheapestAdditions ∈ tb := mt 691 (by decide +kernel) rfl
theorem k_693 : Cond.instanceMethod yX6_cheapestAdditions ∈ tb := mt 693 (by decide +kernel) rfl
set_option maxRecDepth 20000 in
theorem k_694 : Cond.code yX6_cheapestAdditions cX6_cheapestAdditions 10 (some .int) ∈ tb := mt 694 rfl rfl
theorem k_695 : Cond.methodLink RX6 184 yJ6_numberOfTrailingZeros_0f7a4 ∈ tb := mt 695 (by decide +kernel) rfl
theorem k_696 : Cond.static yJ6_numberOfTrailingZeros_0f7a4 ∈ tb := mt 696 (by decide +kernel) rfl
set_option maxRecDepth 20000 in
theorem k_697 : Cond.code yJ6_numberOfTrailingZeros_0f7a4 cJ6_numberOfTrailingZeros_0f7a4 2 (some .int) ∈ tb := mt 697 rfl rfl
theorem k_699 : Cond.methodLink RX6 187 yJ6_numberOfLeadingZeros_0f7a4 ∈ tb := mt 699 (by decide +kernel) rfl
theorem k_700 : Cond.static yJ6_numberOfLeadingZeros_0f7a4 ∈ tb := mt 700 (by decide +kernel) rfl
set_option maxRecDepth 20000 in
theorem k_701 : Cond.code yJ6_numberOfLeadingZeros_0f7a4 cJ6_numberOfLeadingZeros_0f7a4 2 (some .int) ∈ tb := mt 701 rfl rfl
theorem k_702 : Cond.methodLink RX6 190 Lib.Math.max.name ∈ tb := mt 702 (by decide +kernel) rfl
theorem k_703 : Cond.methodLink RX6 181 yX6_priceOf ∈ tb := mt 703 (by decide +kernel) rfl
theorem k_705 : Cond.instanceMethod yX6_priceOf ∈ tb := mt 705 (by decide +kernel) rfl
set_option maxRecDepth 20000 in
theorem k_706 : Cond.code yX6_priceOf cX6_priceOf 4 (some .int) ∈ tb := mt 706 rfl rfl
theorem k_707 : Cond.methodLink RX6 193 yX5_addMends ∈ tb := mt 707 (by decide +kernel) rfl
theorem k_708 : Cond.instanceMethod yX5_addMends ∈ tb := mt 708 (by decide +kernel) rfl
theorem k_709 : Cond.selects RX5 yX5_addMends yX5_addMends ∈ tb := mt 709 (by decide +kernel) rfl
set_option maxRecDepth 20000 in
theorem k_710 : Cond.code yX5_addMends cX5_addMends 3 none ∈ tb := mt 710 rfl rfl
theorem k_715 : Cond.methodLink RX6 196 yX1_isStill ∈ tb := mt 715 (by decide +kernel) rfl
theorem k_716 : Cond.instanceMethod yX1_isStill ∈ tb := mt 716 (by decide +kernel) rfl
theorem k_717 : Cond.selects RX1 yX1_isStill yX1_isStill ∈ tb := mt 717 (by decide +kernel) rfl
set_option maxRecDepth 20000 in
theorem k_718 : Cond.code yX1_isStill cX1_isStill 3 (some .boolean) ∈ tb := mt 718 rfl rfl
theorem k_727 : Cond.methodLink RX6 208 yX5_makeFresh ∈ tb := mt 727 (by decide +kernel) rfl
theorem k_728 : Cond.instanceMethod yX5_makeFresh ∈ tb := mt 728 (by decide +kernel) rfl
theorem k_729 : Cond.selects RX5 yX5_makeFresh yX5_makeFresh ∈ tb := mt 729 (by decide +kernel) rfl
set_option maxRecDepth 20000 in
theorem k_730 : Cond.code yX5_makeFresh cX5_makeFresh 2 none ∈ tb := mt 730 rfl rfl
theorem dX6_change_0 : decode cX6_change 0 = .ok (.aload_n 0, 1) := by decide +kernel
theorem dX6_change_1 : decode cX6_change 1 = .ok (.getfield 19, 3) := by decide +kernel
theorem dX6_change_4 : decode cX6_change 4 = .ok (.iload_n 1, 1) := by decide +kernel
theorem dX6_change_5 : decode cX6_change 5 = .ok (.invokevirtual 76, 3) := by decide +kernel
theorem dX6_change_8 : decode cX6_change 8 = .ok (.ifCond .ne 5, 3) := by decide +kernel
theorem dX6_change_11 : decode cX6_change 11 = .ok (.iconst (-1), 1) := by decide +kernel
theorem dX6_change_12 : decode cX6_change 12 = .ok (.ireturn, 1) := by decide +kernel
theorem dX6_mend_0 : decode cX6_mend 0 = .ok (.aload_n 0, 1) := by decide +kernel
theorem dX6_mend_1 : decode cX6_mend 1 = .ok (.getfield 19, 3) := by decide +kernel
theorem dX6_mend_4 : decode cX6_mend 4 = .ok (.iload_n 1, 1) := by decide +kernel
theorem dX6_mend_5 : decode cX6_mend 5 = .ok (.invokevirtual 76, 3) := by decide +kernel
theorem dX6_mend_8 : decode cX6_mend 8 = .ok (.ifCond .eq 11, 3) := by decide +kernel
theorem dX6_mend_19 : decode cX6_mend 19 = .ok (.iconst (-1), 1) := by decide +kernel
theorem dX6_mend_20 : decode cX6_mend 20 = .ok (.ireturn, 1) := by decide +kernel
theorem dX6_hold_0 : decode cX6_hold 0 = .ok (.aload_n 0, 1) := by decide +kernel
theorem dX6_hold_1 : decode cX6_hold 1 = .ok (.getfield 19, 3) := by decide +kernel
theorem dX6_hold_4 : decode cX6_hold 4 = .ok (.iload_n 1, 1) := by decide +kernel
theorem dX6_hold_5 : decode cX6_hold 5 = .ok (.invokevirtual 76, 3) := by decide +kernel
theorem dX6_hold_8 : decode cX6_hold 8 = .ok (.ifCond .ne 5, 3) := by decide +kernel
theorem dX6_hold_11 : decode cX6_hold 11 = .ok (.iconst (-1), 1) := by decide +kernel
theorem dX6_hold_12 : decode cX6_hold 12 = .ok (.ireturn, 1) := by decide +kernel
theorem dX6_set_0 : decode cX6_set 0 = .ok (.aload_n 0, 1) := by decide +kernel
theorem dX6_set_1 : decode cX6_set 1 = .ok (.getfield 19, 3) := by decide +kernel
theorem dX6_set_4 : decode cX6_set 4 = .ok (.iload_n 1, 1) := by decide +kernel
theorem dX6_set_5 : decode cX6_set 5 = .ok (.invokevirtual 76, 3) := by decide +kernel
theorem dX6_set_8 : decode cX6_set 8 = .ok (.ifCond .eq 11, 3) := by decide +kernel
theorem dX6_set_19 : decode cX6_set 19 = .ok (.iconst (-1), 1) := by decide +kernel
theorem dX6_set_20 : decode cX6_set 20 = .ok (.ireturn, 1) := by decide +kernel
theorem dX6_about_0 : decode cX6_about 0 = .ok (.aload_n 0, 1) := by decide +kernel
theorem dX6_about_1 : decode cX6_about 1 = .ok (.getfield 19, 3) := by decide +kernel
theorem dX6_about_4 : decode cX6_about 4 = .ok (.iload_n 1, 1) := by decide +kernel
theorem dX6_about_5 : decode cX6_about 5 = .ok (.invokevirtual 76, 3) := by decide +kernel
theorem dX6_about_8 : decode cX6_about 8 = .ok (.ifCond .eq 12, 3) := by decide +kernel
theorem dX6_about_20 : decode cX6_about 20 = .ok (.iconst (-1), 1) := by decide +kernel
theorem dX6_about_21 : decode cX6_about 21 = .ok (.ireturn, 1) := by decide +kernel
theorem dX6_act_0 : decode cX6_act 0 = .ok (.aload_n 0, 1) := by decide +kernel
theorem dX6_act_1 : decode cX6_act 1 = .ok (.getfield 19, 3) := by decide +kernel
theorem dX6_act_4 : decode cX6_act 4 = .ok (.iload_n 1, 1) := by decide +kernel
theorem dX6_act_5 : decode cX6_act 5 = .ok (.invokevirtual 76, 3) := by decide +kernel
theorem dX6_act_8 : decode cX6_act 8 = .ok (.ifCond .ne 5, 3) := by decide +kernel
theorem dX6_act_11 : decode cX6_act 11 = .ok (.iconst (-1), 1) := by decide +kernel
theorem dX6_act_12 : decode cX6_act 12 = .ok (.ireturn, 1) := by decide +kernel
theorem dX6_call_0 : decode cX6_call 0 = .ok (.aload_n 0, 1) := by decide +kernel
theorem dX6_call_1 : decode cX6_call 1 = .ok (.getfield 19, 3) := by decide +kernel
theorem dX6_call_4 : decode cX6_call 4 = .ok (.iload_n 1, 1) := by decide +kernel
theorem dX6_call_5 : decode cX6_call 5 = .ok (.invokevirtual 76, 3) := by decide +kernel
theorem dX6_call_8 : decode cX6_call 8 = .ok (.ifCond .ne 6, 3) := by decide +kernel
theorem dX6_call_11 : decode cX6_call 11 = .ok (.bipush (-3), 2) := by decide +kernel
theorem dX6_call_13 : decode cX6_call 13 = .ok (.ireturn, 1) := by decide +kernel
theorem dX6_row_0 : decode cX6_row 0 = .ok (.aload_n 0, 1) := by decide +kernel
theorem dX6_row_1 : decode cX6_row 1 = .ok (.getfield 19, 3) := by decide +kernel
theorem dX6_row_4 : decode cX6_row 4 = .ok (.iload_n 1, 1) := by decide +kernel
theorem dX6_row_5 : decode cX6_row 5 = .ok (.invokevirtual 76, 3) := by decide +kernel
theorem dX6_row_8 : decode cX6_row 8 = .ok (.ifCond .ne 5, 3) := by decide +kernel
theorem dX6_row_11 : decode cX6_row 11 = .ok (.iconst (-1), 1) := by decide +kernel
theorem dX6_row_12 : decode cX6_row 12 = .ok (.ireturn, 1) := by decide +kernel
theorem dX6_outside_0 : decode cX6_outside 0 = .ok (.iload_n 1, 1) := by decide +kernel
theorem dX6_outside_1 : decode cX6_outside 1 = .ok (.aload_n 0, 1) := by decide +kernel
theorem dX6_outside_2 : decode cX6_outside 2 = .ok (.getfield 19, 3) := by decide +kernel
theorem dX6_outside_5 : decode cX6_outside 5 = .ok (.getfield 126, 3) := by decide +kernel
theorem dX6_outside_8 : decode cX6_outside 8 = .ok (.bipush 40, 2) := by decide +kernel
theorem dX6_outside_10 : decode cX6_outside 10 = .ok (.invokestatic 129, 3) := by decide +kernel
theorem dX6_outside_13 : decode cX6_outside 13 = .ok (.iconst 1, 1) := by decide +kernel
theorem dX6_outside_14 : decode cX6_outside 14 = .ok (.isub, 1) := by decide +kernel
theorem dX6_outside_15 : decode cX6_outside 15 = .ok (.invokestatic 83, 3) := by decide +kernel
theorem dX6_outside_18 : decode cX6_outside 18 = .ok (.ifCond .ne 5, 3) := by decide +kernel
theorem dX6_outside_21 : decode cX6_outside 21 = .ok (.iconst (-1), 1) := by decide +kernel
theorem dX6_outside_22 : decode cX6_outside 22 = .ok (.ireturn, 1) := by decide +kernel
theorem dX6_clear_0 : decode cX6_clear 0 = .ok (.aload_n 0, 1) := by decide +kernel
theorem dX6_clear_1 : decode cX6_clear 1 = .ok (.getfield 28, 3) := by decide +kernel
theorem dX6_clear_4 : decode cX6_clear 4 = .ok (.getfield 138, 3) := by decide +kernel
theorem dX6_clear_7 : decode cX6_clear 7 = .ok (.istore_n 1, 1) := by decide +kernel
theorem dX6_clear_8 : decode cX6_clear 8 = .ok (.aload_n 0, 1) := by decide +kernel
theorem dX6_clear_9 : decode cX6_clear 9 = .ok (.getfield 28, 3) := by decide +kernel
theorem dX6_clear_12 : decode cX6_clear 12 = .ok (.iconst 0, 1) := by decide +kernel
theorem dX6_clear_13 : decode cX6_clear 13 = .ok (.putfield 138, 3) := by decide +kernel
theorem dX6_clear_16 : decode cX6_clear 16 = .ok (.iload_n 1, 1) := by decide +kernel
theorem dX6_clear_17 : decode cX6_clear 17 = .ok (.ireturn, 1) := by decide +kernel
theorem dX6_free_0 : decode cX6_free 0 = .ok (.iload_n 1, 1) := by decide +kernel
theorem dX6_free_1 : decode cX6_free 1 = .ok (.iconst 1, 1) := by decide +kernel
theorem dX6_free_2 : decode cX6_free 2 = .ok (.invokestatic 83, 3) := by decide +kernel
theorem dX6_free_5 : decode cX6_free 5 = .ok (.ifCond .ne 6, 3) := by decide +kernel
theorem dX6_free_11 : decode cX6_free 11 = .ok (.aload_n 0, 1) := by decide +kernel
theorem dX6_free_12 : decode cX6_free 12 = .ok (.getfield 46, 3) := by decide +kernel
theorem dX6_free_15 : decode cX6_free 15 = .ok (.ifCond .eq 7, 3) := by decide +kernel
theorem dX6_free_22 : decode cX6_free 22 = .ok (.iconst 0, 1) := by decide +kernel
theorem dX6_free_23 : decode cX6_free 23 = .ok (.istore_n 2, 1) := by decide +kernel
theorem dX6_free_24 : decode cX6_free 24 = .ok (.aload_n 0, 1) := by decide +kernel
theorem dX6_free_25 : decode cX6_free 25 = .ok (.iload_n 1, 1) := by decide +kernel
theorem dX6_free_26 : decode cX6_free 26 = .ok (.iconst 1, 1) := by decide +kernel
theorem dX6_free_27 : decode cX6_free 27 = .ok (.if_icmp .ne 7, 3) := by decide +kernel
theorem dX6_free_34 : decode cX6_free 34 = .ok (.iconst 0, 1) := by decide +kernel
theorem dX6_free_35 : decode cX6_free 35 = .ok (.putfield 46, 3) := by decide +kernel
theorem dX6_free_38 : decode cX6_free 38 = .ok (.iload_n 2, 1) := by decide +kernel
theorem dX6_free_39 : decode cX6_free 39 = .ok (.ireturn, 1) := by decide +kernel
theorem dX6_free_30 : decode cX6_free 30 = .ok (.iconst 1, 1) := by decide +kernel
theorem dX6_free_31 : decode cX6_free 31 = .ok (.goto 4, 3) := by decide +kernel
theorem dX6_free_8 : decode cX6_free 8 = .ok (.bipush (-2), 2) := by decide +kernel
theorem dX6_free_10 : decode cX6_free 10 = .ok (.ireturn, 1) := by decide +kernel
theorem dX6_safe_0 : decode cX6_safe 0 = .ok (.iload_n 1, 1) := by decide +kernel
theorem dX6_safe_1 : decode cX6_safe 1 = .ok (.aload_n 0, 1) := by decide +kernel
theorem dX6_safe_2 : decode cX6_safe 2 = .ok (.getfield 28, 3) := by decide +kernel
theorem dX6_safe_5 : decode cX6_safe 5 = .ok (.getfield 138, 3) := by decide +kernel
theorem dX6_safe_8 : decode cX6_safe 8 = .ok (.iconst 1, 1) := by decide +kernel
theorem dX6_safe_9 : decode cX6_safe 9 = .ok (.isub, 1) := by decide +kernel
theorem dX6_safe_10 : decode cX6_safe 10 = .ok (.invokestatic 83, 3) := by decide +kernel
theorem dX6_safe_13 : decode cX6_safe 13 = .ok (.ifCond .ne 5, 3) := by decide +kernel
theorem dX6_safe_16 : decode cX6_safe 16 = .ok (.iconst (-1), 1) := by decide +kernel
theorem dX6_safe_17 : decode cX6_safe 17 = .ok (.ireturn, 1) := by decide +kernel
theorem dX6_orders_0 : decode cX6_orders 0 = .ok (.iload_n 1, 1) := by decide +kernel
theorem dX6_orders_1 : decode cX6_orders 1 = .ok (.aload_n 0, 1) := by decide +kernel
theorem dX6_orders_2 : decode cX6_orders 2 = .ok (.getfield 28, 3) := by decide +kernel
theorem dX6_orders_5 : decode cX6_orders 5 = .ok (.getfield 138, 3) := by decide +kernel
theorem dX6_orders_8 : decode cX6_orders 8 = .ok (.iconst 1, 1) := by decide +kernel
theorem dX6_orders_9 : decode cX6_orders 9 = .ok (.isub, 1) := by decide +kernel
theorem dX6_orders_10 : decode cX6_orders 10 = .ok (.invokestatic 83, 3) := by decide +kernel
theorem dX6_orders_13 : decode cX6_orders 13 = .ok (.ifCond .eq 11, 3) := by decide +kernel
theorem dX6_orders_24 : decode cX6_orders 24 = .ok (.iconst (-1), 1) := by decide +kernel
theorem dX6_orders_25 : decode cX6_orders 25 = .ok (.ireturn, 1) := by decide +kernel
theorem dX6_log_0 : decode cX6_log 0 = .ok (.iload_n 1, 1) := by decide +kernel
theorem dX6_log_1 : decode cX6_log 1 = .ok (.aload_n 0, 1) := by decide +kernel
theorem dX6_log_2 : decode cX6_log 2 = .ok (.getfield 32, 3) := by decide +kernel
theorem dX6_log_5 : decode cX6_log 5 = .ok (.getfield 138, 3) := by decide +kernel
theorem dX6_log_8 : decode cX6_log 8 = .ok (.iconst 1, 1) := by decide +kernel
theorem dX6_log_9 : decode cX6_log 9 = .ok (.isub, 1) := by decide +kernel
theorem dX6_log_10 : decode cX6_log 10 = .ok (.invokestatic 83, 3) := by decide +kernel
theorem dX6_log_13 : decode cX6_log 13 = .ok (.ifCond .ne 5, 3) := by decide +kernel
theorem dX6_log_16 : decode cX6_log 16 = .ok (.iconst (-1), 1) := by decide +kernel
theorem dX6_log_17 : decode cX6_log 17 = .ok (.ireturn, 1) := by decide +kernel
theorem dX6_worst_0 : decode cX6_worst 0 = .ok (.aload_n 0, 1) := by decide +kernel
theorem dX6_worst_1 : decode cX6_worst 1 = .ok (.getfield 38, 3) := by decide +kernel
theorem dX6_worst_4 : decode cX6_worst 4 = .ok (.aload_n 0, 1) := by decide +kernel
theorem dX6_worst_5 : decode cX6_worst 5 = .ok (.getfield 19, 3) := by decide +kernel
theorem dX6_worst_8 : decode cX6_worst 8 = .ok (.invokevirtual 139, 3) := by decide +kernel
theorem dX6_worst_11 : decode cX6_worst 11 = .ok (.aload_n 0, 1) := by decide +kernel
theorem dX6_worst_12 : decode cX6_worst 12 = .ok (.getfield 38, 3) := by decide +kernel
theorem dX6_worst_15 : decode cX6_worst 15 = .ok (.aload_n 0, 1) := by decide +kernel
theorem dX6_worst_16 : decode cX6_worst 16 = .ok (.getfield 28, 3) := by decide +kernel
theorem dX6_worst_19 : decode cX6_worst 19 = .ok (.aload_n 0, 1) := by decide +kernel
theorem dX6_worst_20 : decode cX6_worst 20 = .ok (.getfield 46, 3) := by decide +kernel
theorem dX6_worst_23 : decode cX6_worst 23 = .ok (.invokevirtual 155, 3) := by decide +kernel
theorem dX6_worst_26 : decode cX6_worst 26 = .ok (.ireturn, 1) := by decide +kernel
theorem dX6_enough_0 : decode cX6_enough 0 = .ok (.iconst 0, 1) := by decide +kernel
theorem dX6_enough_1 : decode cX6_enough 1 = .ok (.istore_n 1, 1) := by decide +kernel
theorem dX6_enough_2 : decode cX6_enough 2 = .ok (.iload_n 1, 1) := by decide +kernel
theorem dX6_enough_3 : decode cX6_enough 3 = .ok (.bipush 20, 2) := by decide +kernel
theorem dX6_enough_5 : decode cX6_enough 5 = .ok (.if_icmp .gt 52, 3) := by decide +kernel
theorem dX6_enough_8 : decode cX6_enough 8 = .ok (.aload_n 0, 1) := by decide +kernel
theorem dX6_enough_9 : decode cX6_enough 9 = .ok (.getfield 38, 3) := by decide +kernel
theorem dX6_enough_12 : decode cX6_enough 12 = .ok (.aload_n 0, 1) := by decide +kernel
theorem dX6_enough_13 : decode cX6_enough 13 = .ok (.getfield 19, 3) := by decide +kernel
theorem dX6_enough_16 : decode cX6_enough 16 = .ok (.invokevirtual 139, 3) := by decide +kernel
theorem dX6_enough_19 : decode cX6_enough 19 = .ok (.aload_n 0, 1) := by decide +kernel
theorem dX6_enough_20 : decode cX6_enough 20 = .ok (.getfield 38, 3) := by decide +kernel
theorem dX6_enough_23 : decode cX6_enough 23 = .ok (.getfield 163, 3) := by decide +kernel
theorem dX6_enough_26 : decode cX6_enough 26 = .ok (.iload_n 1, 1) := by decide +kernel
theorem dX6_enough_27 : decode cX6_enough 27 = .ok (.invokevirtual 166, 3) := by decide +kernel
theorem dX6_enough_30 : decode cX6_enough 30 = .ok (.aload_n 0, 1) := by decide +kernel
theorem dX6_enough_31 : decode cX6_enough 31 = .ok (.getfield 38, 3) := by decide +kernel
theorem dX6_enough_34 : decode cX6_enough 34 = .ok (.aload_n 0, 1) := by decide +kernel
theorem dX6_enough_35 : decode cX6_enough 35 = .ok (.getfield 28, 3) := by decide +kernel
theorem dX6_enough_38 : decode cX6_enough 38 = .ok (.aload_n 0, 1) := by decide +kernel
theorem dX6_enough_39 : decode cX6_enough 39 = .ok (.getfield 46, 3) := by decide +kernel
theorem dX6_enough_42 : decode cX6_enough 42 = .ok (.invokevirtual 155, 3) := by decide +kernel
theorem dX6_enough_45 : decode cX6_enough 45 = .ok (.iconst (-1), 1) := by decide +kernel
theorem dX6_enough_46 : decode cX6_enough 46 = .ok (.if_icmp .ne 5, 3) := by decide +kernel
theorem dX6_enough_49 : decode cX6_enough 49 = .ok (.iload_n 1, 1) := by decide +kernel
theorem dX6_enough_50 : decode cX6_enough 50 = .ok (.ireturn, 1) := by decide +kernel
theorem dX6_again_0 : decode cX6_again 0 = .ok (.aload_n 0, 1) := by decide +kernel
theorem dX6_again_1 : decode cX6_again 1 = .ok (.getfield 38, 3) := by decide +kernel
theorem dX6_again_4 : decode cX6_again 4 = .ok (.aload_n 0, 1) := by decide +kernel
theorem dX6_again_5 : decode cX6_again 5 = .ok (.getfield 19, 3) := by decide +kernel
theorem dX6_again_8 : decode cX6_again 8 = .ok (.invokevirtual 139, 3) := by decide +kernel
theorem dX6_again_11 : decode cX6_again 11 = .ok (.aload_n 0, 1) := by decide +kernel
theorem dX6_again_12 : decode cX6_again 12 = .ok (.getfield 38, 3) := by decide +kernel
theorem dX6_again_15 : decode cX6_again 15 = .ok (.aload_n 0, 1) := by decide +kernel
theorem dX6_again_16 : decode cX6_again 16 = .ok (.getfield 32, 3) := by decide +kernel
theorem dX6_again_19 : decode cX6_again 19 = .ok (.invokevirtual 196, 3) := by decide +kernel
theorem dX6_again_22 : decode cX6_again 22 = .ok (.ifCond .eq 7, 3) := by decide +kernel
theorem dX6_again_25 : decode cX6_again 25 = .ok (.iconst 1, 1) := by decide +kernel
theorem dX6_again_26 : decode cX6_again 26 = .ok (.goto 4, 3) := by decide +kernel
theorem dX6_again_30 : decode cX6_again 30 = .ok (.ireturn, 1) := by decide +kernel
theorem dX6_reset_0 : decode cX6_reset 0 = .ok (.aload_n 0, 1) := by decide +kernel
theorem dX6_reset_1 : decode cX6_reset 1 = .ok (.getfield 32, 3) := by decide +kernel
theorem dX6_reset_4 : decode cX6_reset 4 = .ok (.getfield 138, 3) := by decide +kernel
theorem dX6_reset_7 : decode cX6_reset 7 = .ok (.istore_n 1, 1) := by decide +kernel
theorem dX6_reset_8 : decode cX6_reset 8 = .ok (.aload_n 0, 1) := by decide +kernel
theorem dX6_reset_9 : decode cX6_reset 9 = .ok (.getfield 32, 3) := by decide +kernel
theorem dX6_reset_12 : decode cX6_reset 12 = .ok (.iconst 0, 1) := by decide +kernel
theorem dX6_reset_13 : decode cX6_reset 13 = .ok (.putfield 138, 3) := by decide +kernel
theorem dX6_reset_16 : decode cX6_reset 16 = .ok (.aload_n 0, 1) := by decide +kernel
theorem dX6_reset_17 : decode cX6_reset 17 = .ok (.getfield 19, 3) := by decide +kernel
theorem dX6_reset_20 : decode cX6_reset 20 = .ok (.invokevirtual 208, 3) := by decide +kernel
theorem dX6_reset_23 : decode cX6_reset 23 = .ok (.iload_n 1, 1) := by decide +kernel
theorem dX6_reset_24 : decode cX6_reset 24 = .ok (.ireturn, 1) := by decide +kernel
theorem dX6_price_0 : decode cX6_price 0 = .ok (.iload_n 1, 1) := by decide +kernel
theorem dX6_price_1 : decode cX6_price 1 = .ok (.iconst 3, 1) := by decide +kernel
theorem dX6_price_2 : decode cX6_price 2 = .ok (.invokestatic 83, 3) := by decide +kernel
theorem dX6_price_5 : decode cX6_price 5 = .ok (.ifCond .ne 5, 3) := by decide +kernel
theorem dX6_price_10 : decode cX6_price 10 = .ok (.iload_n 2, 1) := by decide +kernel
theorem dX6_price_11 : decode cX6_price 11 = .ok (.bipush 99, 2) := by decide +kernel
theorem dX6_price_13 : decode cX6_price 13 = .ok (.invokestatic 83, 3) := by decide +kernel
theorem dX6_price_16 : decode cX6_price 16 = .ok (.ifCond .ne 6, 3) := by decide +kernel
theorem dX6_price_22 : decode cX6_price 22 = .ok (.aload_n 0, 1) := by decide +kernel
theorem dX6_price_23 : decode cX6_price 23 = .ok (.getfield 42, 3) := by decide +kernel
theorem dX6_price_26 : decode cX6_price 26 = .ok (.iload_n 1, 1) := by decide +kernel
theorem dX6_price_27 : decode cX6_price 27 = .ok (.iaload, 1) := by decide +kernel
theorem dX6_price_28 : decode cX6_price 28 = .ok (.istore_n 3, 1) := by decide +kernel
theorem dX6_price_29 : decode cX6_price 29 = .ok (.aload_n 0, 1) := by decide +kernel
theorem dX6_price_30 : decode cX6_price 30 = .ok (.getfield 42, 3) := by decide +kernel
theorem dX6_price_33 : decode cX6_price 33 = .ok (.iload_n 1, 1) := by decide +kernel
theorem dX6_price_34 : decode cX6_price 34 = .ok (.iload_n 2, 1) := by decide +kernel
theorem dX6_price_35 : decode cX6_price 35 = .ok (.iastore, 1) := by decide +kernel
theorem dX6_price_36 : decode cX6_price 36 = .ok (.iload_n 3, 1) := by decide +kernel
theorem dX6_price_37 : decode cX6_price 37 = .ok (.ireturn, 1) := by decide +kernel
theorem dX6_price_19 : decode cX6_price 19 = .ok (.bipush (-2), 2) := by decide +kernel
theorem dX6_price_21 : decode cX6_price 21 = .ok (.ireturn, 1) := by decide +kernel
theorem dX6_price_8 : decode cX6_price 8 = .ok (.iconst (-1), 1) := by decide +kernel
theorem dX6_price_9 : decode cX6_price 9 = .ok (.ireturn, 1) := by decide +kernel
theorem dX6_priceOf_0 : decode cX6_priceOf 0 = .ok (.iconst 0, 1) := by decide +kernel
theorem dX6_priceOf_1 : decode cX6_priceOf 1 = .ok (.istore_n 2, 1) := by decide +kernel
theorem dX6_priceOf_2 : decode cX6_priceOf 2 = .ok (.iconst 0, 1) := by decide +kernel
theorem dX6_priceOf_3 : decode cX6_priceOf 3 = .ok (.istore_n 3, 1) := by decide +kernel
theorem dX6_priceOf_4 : decode cX6_priceOf 4 = .ok (.iload_n 3, 1) := by decide +kernel
theorem dX6_priceOf_5 : decode cX6_priceOf 5 = .ok (.bipush 24, 2) := by decide +kernel
theorem dX6_priceOf_7 : decode cX6_priceOf 7 = .ok (.if_icmp .ge 29, 3) := by decide +kernel
theorem dX6_priceOf_10 : decode cX6_priceOf 10 = .ok (.iload_n 1, 1) := by decide +kernel
theorem dX6_priceOf_11 : decode cX6_priceOf 11 = .ok (.iload_n 3, 1) := by decide +kernel
theorem dX6_priceOf_12 : decode cX6_priceOf 12 = .ok (.ishr, 1) := by decide +kernel
theorem dX6_priceOf_13 : decode cX6_priceOf 13 = .ok (.iconst 1, 1) := by decide +kernel
theorem dX6_priceOf_14 : decode cX6_priceOf 14 = .ok (.iand, 1) := by decide +kernel
theorem dX6_priceOf_15 : decode cX6_priceOf 15 = .ok (.iconst 1, 1) := by decide +kernel
theorem dX6_priceOf_16 : decode cX6_priceOf 16 = .ok (.if_icmp .ne 14, 3) := by decide +kernel
theorem dX6_priceOf_30 : decode cX6_priceOf 30 = .ok (.iinc 3 1, 3) := by decide +kernel
theorem dX6_priceOf_33 : decode cX6_priceOf 33 = .ok (.goto (-29), 3) := by decide +kernel
theorem dX6_priceOf_36 : decode cX6_priceOf 36 = .ok (.iload_n 2, 1) := by decide +kernel
theorem dX6_priceOf_37 : decode cX6_priceOf 37 = .ok (.ireturn, 1) := by decide +kernel
theorem dX6_cheapestAdditions_0 : decode cX6_cheapestAdditions 0 = .ok (.iload_n 1, 1) := by decide +kernel
theorem dX6_cheapestAdditions_1 : decode cX6_cheapestAdditions 1 = .ok (.invokestatic 184, 3) := by decide +kernel
theorem dX6_cheapestAdditions_4 : decode cX6_cheapestAdditions 4 = .ok (.iconst 5, 1) := by decide +kernel
theorem dX6_cheapestAdditions_5 : decode cX6_cheapestAdditions 5 = .ok (.invokestatic 129, 3) := by decide +kernel
theorem dX6_cheapestAdditions_8 : decode cX6_cheapestAdditions 8 = .ok (.istore_n 2, 1) := by decide +kernel
theorem dX6_cheapestAdditions_9 : decode cX6_cheapestAdditions 9 = .ok (.bipush 31, 2) := by decide +kernel
theorem dX6_cheapestAdditions_11 : decode cX6_cheapestAdditions 11 = .ok (.iload_n 1, 1) := by decide +kernel
theorem dX6_cheapestAdditions_12 : decode cX6_cheapestAdditions 12 = .ok (.invokestatic 187, 3) := by decide +kernel
theorem dX6_cheapestAdditions_15 : decode cX6_cheapestAdditions 15 = .ok (.isub, 1) := by decide +kernel
theorem dX6_cheapestAdditions_16 : decode cX6_cheapestAdditions 16 = .ok (.iconst 0, 1) := by decide +kernel
theorem dX6_cheapestAdditions_17 : decode cX6_cheapestAdditions 17 = .ok (.invokestatic 190, 3) := by decide +kernel
theorem dX6_cheapestAdditions_20 : decode cX6_cheapestAdditions 20 = .ok (.istore_n 3, 1) := by decide +kernel
theorem dX6_cheapestAdditions_21 : decode cX6_cheapestAdditions 21 = .ok (.iconst 1, 1) := by decide +kernel
theorem dX6_cheapestAdditions_22 : decode cX6_cheapestAdditions 22 = .ok (.iconst 4, 1) := by decide +kernel
theorem dX6_cheapestAdditions_23 : decode cX6_cheapestAdditions 23 = .ok (.iload_n 1, 1) := by decide +kernel
theorem dX6_cheapestAdditions_24 : decode cX6_cheapestAdditions 24 = .ok (.invokestatic 173, 3) := by decide +kernel
theorem dX6_cheapestAdditions_27 : decode cX6_cheapestAdditions 27 = .ok (.imul, 1) := by decide +kernel
theorem dX6_cheapestAdditions_28 : decode cX6_cheapestAdditions 28 = .ok (.ishl, 1) := by decide +kernel
theorem dX6_cheapestAdditions_29 : decode cX6_cheapestAdditions 29 = .ok (.istore 4, 2) := by decide +kernel
theorem dX6_cheapestAdditions_31 : decode cX6_cheapestAdditions 31 = .ok (.iconst (-1), 1) := by decide +kernel
theorem dX6_cheapestAdditions_32 : decode cX6_cheapestAdditions 32 = .ok (.istore 5, 2) := by decide +kernel
theorem dX6_cheapestAdditions_34 : decode cX6_cheapestAdditions 34 = .ok (.iconst 0, 1) := by decide +kernel
theorem dX6_cheapestAdditions_35 : decode cX6_cheapestAdditions 35 = .ok (.istore 6, 2) := by decide +kernel
theorem dX6_cheapestAdditions_37 : decode cX6_cheapestAdditions 37 = .ok (.iload 6, 2) := by decide +kernel
theorem dX6_cheapestAdditions_39 : decode cX6_cheapestAdditions 39 = .ok (.iload 4, 2) := by decide +kernel
theorem dX6_cheapestAdditions_41 : decode cX6_cheapestAdditions 41 = .ok (.if_icmp .ge 107, 3) := by decide +kernel
theorem dX6_cheapestAdditions_44 : decode cX6_cheapestAdditions 44 = .ok (.iload 6, 2) := by decide +kernel
theorem dX6_cheapestAdditions_46 : decode cX6_cheapestAdditions 46 = .ok (.bipush 15, 2) := by decide +kernel
theorem dX6_cheapestAdditions_48 : decode cX6_cheapestAdditions 48 = .ok (.iand, 1) := by decide +kernel
theorem dX6_cheapestAdditions_49 : decode cX6_cheapestAdditions 49 = .ok (.istore 7, 2) := by decide +kernel
theorem dX6_cheapestAdditions_51 : decode cX6_cheapestAdditions 51 = .ok (.iload 6, 2) := by decide +kernel
theorem dX6_cheapestAdditions_53 : decode cX6_cheapestAdditions 53 = .ok (.iconst 4, 1) := by decide +kernel
theorem dX6_cheapestAdditions_54 : decode cX6_cheapestAdditions 54 = .ok (.ishr, 1) := by decide +kernel
theorem dX6_cheapestAdditions_55 : decode cX6_cheapestAdditions 55 = .ok (.istore 8, 2) := by decide +kernel
theorem dX6_cheapestAdditions_57 : decode cX6_cheapestAdditions 57 = .ok (.iload 7, 2) := by decide +kernel
theorem dX6_cheapestAdditions_59 : decode cX6_cheapestAdditions 59 = .ok (.iconst 4, 1) := by decide +kernel
theorem dX6_cheapestAdditions_60 : decode cX6_cheapestAdditions 60 = .ok (.iload_n 2, 1) := by decide +kernel
theorem dX6_cheapestAdditions_61 : decode cX6_cheapestAdditions 61 = .ok (.imul, 1) := by decide +kernel
theorem dX6_cheapestAdditions_62 : decode cX6_cheapestAdditions 62 = .ok (.ishl, 1) := by decide +kernel
theorem dX6_cheapestAdditions_63 : decode cX6_cheapestAdditions 63 = .ok (.iload 8, 2) := by decide +kernel
theorem dX6_cheapestAdditions_65 : decode cX6_cheapestAdditions 65 = .ok (.iconst 4, 1) := by decide +kernel
theorem dX6_cheapestAdditions_66 : decode cX6_cheapestAdditions 66 = .ok (.iload_n 3, 1) := by decide +kernel
theorem dX6_cheapestAdditions_67 : decode cX6_cheapestAdditions 67 = .ok (.imul, 1) := by decide +kernel
theorem dX6_cheapestAdditions_68 : decode cX6_cheapestAdditions 68 = .ok (.ishl, 1) := by decide +kernel
theorem dX6_cheapestAdditions_69 : decode cX6_cheapestAdditions 69 = .ok (.ior, 1) := by decide +kernel
theorem dX6_cheapestAdditions_70 : decode cX6_cheapestAdditions 70 = .ok (.istore 9, 2) := by decide +kernel
theorem dX6_cheapestAdditions_72 : decode cX6_cheapestAdditions 72 = .ok (.iload 5, 2) := by decide +kernel
theorem dX6_cheapestAdditions_74 : decode cX6_cheapestAdditions 74 = .ok (.iconst (-1), 1) := by decide +kernel
theorem dX6_cheapestAdditions_75 : decode cX6_cheapestAdditions 75 = .ok (.if_icmp .eq 21, 3) := by decide +kernel
theorem dX6_cheapestAdditions_96 : decode cX6_cheapestAdditions 96 = .ok (.aload_n 0, 1) := by decide +kernel
theorem dX6_cheapestAdditions_97 : decode cX6_cheapestAdditions 97 = .ok (.getfield 38, 3) := by decide +kernel
theorem dX6_cheapestAdditions_100 : decode cX6_cheapestAdditions 100 = .ok (.aload_n 0, 1) := by decide +kernel
theorem dX6_cheapestAdditions_101 : decode cX6_cheapestAdditions 101 = .ok (.getfield 19, 3) := by decide +kernel
theorem dX6_cheapestAdditions_104 : decode cX6_cheapestAdditions 104 = .ok (.invokevirtual 139, 3) := by decide +kernel
theorem dX6_cheapestAdditions_107 : decode cX6_cheapestAdditions 107 = .ok (.aload_n 0, 1) := by decide +kernel
theorem dX6_cheapestAdditions_108 : decode cX6_cheapestAdditions 108 = .ok (.getfield 38, 3) := by decide +kernel
theorem dX6_cheapestAdditions_111 : decode cX6_cheapestAdditions 111 = .ok (.getfield 163, 3) := by decide +kernel
theorem dX6_cheapestAdditions_114 : decode cX6_cheapestAdditions 114 = .ok (.iload 9, 2) := by decide +kernel
theorem dX6_cheapestAdditions_116 : decode cX6_cheapestAdditions 116 = .ok (.invokevirtual 193, 3) := by decide +kernel
theorem dX6_cheapestAdditions_119 : decode cX6_cheapestAdditions 119 = .ok (.aload_n 0, 1) := by decide +kernel
theorem dX6_cheapestAdditions_120 : decode cX6_cheapestAdditions 120 = .ok (.getfield 38, 3) := by decide +kernel
theorem dX6_cheapestAdditions_123 : decode cX6_cheapestAdditions 123 = .ok (.aload_n 0, 1) := by decide +kernel
theorem dX6_cheapestAdditions_124 : decode cX6_cheapestAdditions 124 = .ok (.getfield 28, 3) := by decide +kernel
theorem dX6_cheapestAdditions_127 : decode cX6_cheapestAdditions 127 = .ok (.aload_n 0, 1) := by decide +kernel
theorem dX6_cheapestAdditions_128 : decode cX6_cheapestAdditions 128 = .ok (.getfield 46, 3) := by decide +kernel
theorem dX6_cheapestAdditions_131 : decode cX6_cheapestAdditions 131 = .ok (.invokevirtual 155, 3) := by decide +kernel
theorem dX6_cheapestAdditions_134 : decode cX6_cheapestAdditions 134 = .ok (.iconst (-1), 1) := by decide +kernel
theorem dX6_cheapestAdditions_135 : decode cX6_cheapestAdditions 135 = .ok (.if_icmp .ne 7, 3) := by decide +kernel
theorem dX6_cheapestAdditions_138 : decode cX6_cheapestAdditions 138 = .ok (.iload 9, 2) := by decide +kernel
theorem dX6_cheapestAdditions_140 : decode cX6_cheapestAdditions 140 = .ok (.istore 5, 2) := by decide +kernel
theorem dX6_cheapestAdditions_142 : decode cX6_cheapestAdditions 142 = .ok (.iinc 6 1, 3) := by decide +kernel
theorem dX6_cheapestAdditions_145 : decode cX6_cheapestAdditions 145 = .ok (.goto (-108), 3) := by decide +kernel
theorem dX6_cheapestAdditions_148 : decode cX6_cheapestAdditions 148 = .ok (.iload 5, 2) := by decide +kernel
theorem dX6_cheapestAdditions_150 : decode cX6_cheapestAdditions 150 = .ok (.ireturn, 1) := by decide +kernel
theorem dX6_cheapest_0 : decode cX6_cheapest 0 = .ok (.iload_n 1, 1) := by decide +kernel
theorem dX6_cheapest_1 : decode cX6_cheapest 1 = .ok (.iconst 1, 1) := by decide +kernel
theorem dX6_cheapest_2 : decode cX6_cheapest 2 = .ok (.invokestatic 83, 3) := by decide +kernel
theorem dX6_cheapest_5 : decode cX6_cheapest 5 = .ok (.ifCond .ne 5, 3) := by decide +kernel
theorem dX6_cheapest_10 : decode cX6_cheapest 10 = .ok (.aload_n 0, 1) := by decide +kernel
theorem dX6_cheapest_11 : decode cX6_cheapest 11 = .ok (.getfield 28, 3) := by decide +kernel
theorem dX6_cheapest_14 : decode cX6_cheapest 14 = .ok (.getfield 138, 3) := by decide +kernel
theorem dX6_cheapest_17 : decode cX6_cheapest 17 = .ok (.iconst 3, 1) := by decide +kernel
theorem dX6_cheapest_18 : decode cX6_cheapest 18 = .ok (.if_icmp .le 6, 3) := by decide +kernel
theorem dX6_cheapest_24 : decode cX6_cheapest 24 = .ok (.aload_n 0, 1) := by decide +kernel
theorem dX6_cheapest_25 : decode cX6_cheapest 25 = .ok (.getfield 19, 3) := by decide +kernel
theorem dX6_cheapest_28 : decode cX6_cheapest 28 = .ok (.aload_n 0, 1) := by decide +kernel
theorem dX6_cheapest_29 : decode cX6_cheapest 29 = .ok (.getfield 28, 3) := by decide +kernel
theorem dX6_cheapest_32 : decode cX6_cheapest 32 = .ok (.invokevirtual 169, 3) := by decide +kernel
theorem dX6_cheapest_35 : decode cX6_cheapest 35 = .ok (.istore_n 2, 1) := by decide +kernel
theorem dX6_cheapest_36 : decode cX6_cheapest 36 = .ok (.iload_n 2, 1) := by decide +kernel
theorem dX6_cheapest_37 : decode cX6_cheapest 37 = .ok (.invokestatic 173, 3) := by decide +kernel
theorem dX6_cheapest_40 : decode cX6_cheapest 40 = .ok (.iconst 2, 1) := by decide +kernel
theorem dX6_cheapest_41 : decode cX6_cheapest 41 = .ok (.if_icmp .le 6, 3) := by decide +kernel
theorem dX6_cheapest_47 : decode cX6_cheapest 47 = .ok (.aload_n 0, 1) := by decide +kernel
theorem dX6_cheapest_48 : decode cX6_cheapest 48 = .ok (.iload_n 2, 1) := by decide +kernel
theorem dX6_cheapest_49 : decode cX6_cheapest 49 = .ok (.invokevirtual 178, 3) := by decide +kernel
theorem dX6_cheapest_52 : decode cX6_cheapest 52 = .ok (.istore_n 3, 1) := by decide +kernel
theorem dX6_cheapest_53 : decode cX6_cheapest 53 = .ok (.iload_n 3, 1) := by decide +kernel
theorem dX6_cheapest_54 : decode cX6_cheapest 54 = .ok (.iconst (-1), 1) := by decide +kernel
theorem dX6_cheapest_55 : decode cX6_cheapest 55 = .ok (.if_icmp .eq 8, 3) := by decide +kernel
theorem dX6_cheapest_58 : decode cX6_cheapest 58 = .ok (.iload_n 1, 1) := by decide +kernel
theorem dX6_cheapest_59 : decode cX6_cheapest 59 = .ok (.iconst 1, 1) := by decide +kernel
theorem dX6_cheapest_60 : decode cX6_cheapest 60 = .ok (.if_icmp .ne 7, 3) := by decide +kernel
theorem dX6_cheapest_67 : decode cX6_cheapest 67 = .ok (.aload_n 0, 1) := by decide +kernel
theorem dX6_cheapest_68 : decode cX6_cheapest 68 = .ok (.iload_n 3, 1) := by decide +kernel
theorem dX6_cheapest_69 : decode cX6_cheapest 69 = .ok (.invokevirtual 181, 3) := by decide +kernel
theorem dX6_cheapest_72 : decode cX6_cheapest 72 = .ok (.ireturn, 1) := by decide +kernel
theorem dX6_cheapest_63 : decode cX6_cheapest 63 = .ok (.iload_n 3, 1) := by decide +kernel
theorem dX6_cheapest_64 : decode cX6_cheapest 64 = .ok (.goto 8, 3) := by decide +kernel
theorem dX6_cheapest_8 : decode cX6_cheapest 8 = .ok (.iconst (-1), 1) := by decide +kernel
theorem dX6_cheapest_9 : decode cX6_cheapest 9 = .ok (.ireturn, 1) := by decide +kernel
theorem dX6_count_0 : decode cX6_count 0 = .ok (.iload_n 1, 1) := by decide +kernel
theorem dX6_count_1 : decode cX6_count 1 = .ok (.tableswitch 87 0 5 #[39, 47, 55, 63, 71, 79], 39) := by decide +kernel
theorem dX6_count_88 : decode cX6_count 88 = .ok (.iconst (-1), 1) := by decide +kernel
theorem dX6_count_89 : decode cX6_count 89 = .ok (.ireturn, 1) := by decide +kernel
theorem dX6_count_40 : decode cX6_count 40 = .ok (.aload_n 0, 1) := by decide +kernel
theorem dX6_count_41 : decode cX6_count 41 = .ok (.getfield 19, 3) := by decide +kernel
theorem dX6_count_44 : decode cX6_count 44 = .ok (.getfield 58, 3) := by decide +kernel
theorem dX6_count_47 : decode cX6_count 47 = .ok (.ireturn, 1) := by decide +kernel
theorem dX6_count_48 : decode cX6_count 48 = .ok (.aload_n 0, 1) := by decide +kernel
theorem dX6_count_49 : decode cX6_count 49 = .ok (.getfield 28, 3) := by decide +kernel
theorem dX6_count_52 : decode cX6_count 52 = .ok (.getfield 138, 3) := by decide +kernel
theorem dX6_count_55 : decode cX6_count 55 = .ok (.ireturn, 1) := by decide +kernel
theorem dX6_count_56 : decode cX6_count 56 = .ok (.aload_n 0, 1) := by decide +kernel
theorem dX6_count_57 : decode cX6_count 57 = .ok (.getfield 19, 3) := by decide +kernel
theorem dX6_count_60 : decode cX6_count 60 = .ok (.getfield 126, 3) := by decide +kernel
theorem dX6_count_63 : decode cX6_count 63 = .ok (.ireturn, 1) := by decide +kernel
theorem dX6_count_64 : decode cX6_count 64 = .ok (.aload_n 0, 1) := by decide +kernel
theorem dX6_count_65 : decode cX6_count 65 = .ok (.getfield 19, 3) := by decide +kernel
theorem dX6_count_68 : decode cX6_count 68 = .ok (.getfield 99, 3) := by decide +kernel
theorem dX6_count_71 : decode cX6_count 71 = .ok (.ireturn, 1) := by decide +kernel
theorem dX6_count_72 : decode cX6_count 72 = .ok (.aload_n 0, 1) := by decide +kernel
theorem dX6_count_73 : decode cX6_count 73 = .ok (.getfield 32, 3) := by decide +kernel
theorem dX6_count_76 : decode cX6_count 76 = .ok (.getfield 138, 3) := by decide +kernel
theorem dX6_count_79 : decode cX6_count 79 = .ok (.ireturn, 1) := by decide +kernel
theorem dX6_count_80 : decode cX6_count 80 = .ok (.aload_n 0, 1) := by decide +kernel
theorem dX6_count_81 : decode cX6_count 81 = .ok (.getfield 12, 3) := by decide +kernel
theorem dX6_count_84 : decode cX6_count 84 = .ok (.getfield 50, 3) := by decide +kernel
theorem dX6_count_87 : decode cX6_count 87 = .ok (.ireturn, 1) := by decide +kernel
def sp_free (x : Int32) : Int32 := if (x < 0 ∨ 1 < x) then -2 else 0
def sp_price (x y : Int32) : Int32 := if (x < 0 ∨ 3 < x) then -1 else if (y < 0 ∨ 99 < y) then -2 else 1
def sp_cheap (x : Int32) : Int32 := if (x < 0 ∨ 1 < x) then -1 else 0
def sp_count (x : Int32) : Int32 := if (x < 0 ∨ 5 < x) then -1 else 0
def sp_feed (x : Int32) : Int32 := if (x < 1 ∨ 8 < x) then -2 else x
set_option maxHeartbeats 4000000 in
set_option maxRecDepth 100000 in
theorem p_change (l : Launch) (D : va_G) (cI cZ cS : ClassId) (N0 : NT) (h : Nat) (tp : Nat) (nw : Nat) (rw : Nat) (lg : Nat) (jd : Nat) (pr : Nat) (n1 : Nat) (n2 : Nat) (x1 : Int32)  : Mx l D cI cZ cS N0 yX6_change cX6_change 3 (some .int) 1 0 0 [.ref h, .int x1] [(h, .inr (6, [.ref tp, .ref nw, .ref rw, .ref lg, .ref jd, .ref pr, .int 0])), (nw, .inr (5, [.ref n1, .int 0, .int 0, .ref n2, .int 0, .int 0, .int 0, .int 0]))] (fun v w => v = some (.int (-1)) ∧ w = ([] : va_W)) := by
  refine x_enter (by decide) (Nat.le_of_ble_eq_true rfl) ?_
  intro p e s m args below meth c A ls H locs hB hr hin hl hV hA
  have hx := hB.1
  have hb := hB.2.1
  have hl : lv_has ls 3 [(0, .ref h), (1, .int x1)] := hl
  refine lv_aload_n hx hb dX6_change_0 rfl (lv_at hl 0 rfl) ?_
  refine x_get (v := .ref nw) hB hV 0 rfl rfl 1 (by decide) k_309 rfl dX6_change_1 ?_
  refine lv_iload_n hx hb dX6_change_4 rfl (lv_at hl 1 rfl) ?_
  refine x_callV (n := 1) (wr := [(h, .inr (6, [.ref tp, .ref nw, .ref rw, .ref lg, .ref jd, .ref pr, .int 0]))]) (q0 := 1) (As := [.int x1]) (rest := []) hB hV (x_N hB) hl.1 (c_has l D cI cZ cS N0 nw n1 n2 x1 ) rfl rfl k_436 k_59 k_433 k_434 k_435 (by decide +kernel) ⟨(Nat.le_of_ble_eq_true rfl), (Nat.le_of_ble_eq_true rfl)⟩ rfl (Nat.le_of_ble_eq_true rfl) ⟨(Nat.le_of_ble_eq_true rfl), (Nat.le_of_ble_eq_true rfl)⟩ [1] [0] rfl rfl rfl ⟨by decide, by decide, by decide⟩ dX6_change_5 (fun v w H locs hp hV => ?_)
  obtain ⟨rfl, rfl⟩ := hp
  have hV : Vx D A s.heap H locs [(h, .inr (6, [.ref tp, .ref nw, .ref rw, .ref lg, .ref jd, .ref pr, .int 0])), (nw, .inr (5, [.ref n1, .int 0, .int 0, .ref n2, .int 0, .int 0, .int 0, .int 0]))] := hV
  refine W.eq (g2 := F0 m 8 ls [.int 0]) rfl ?_
  refine lv_if_ne (tgt := 13) hx hb dX6_change_8 (by decide) (fun c_ => absurd (by decide) c_) (fun c_ => ?_)
  refine lv_iconst (v := (-1)) hx hb dX6_change_11 (by decide) ?_
  exact x_iret (w := []) hB hr hV hA (Nat.le_of_ble_eq_true rfl) (Nat.le_of_ble_eq_true rfl) [] rfl rfl (by decide) dX6_change_12 ⟨rfl, rfl⟩
set_option maxHeartbeats 4000000 in
set_option maxRecDepth 100000 in
theorem p_mend (l : Launch) (D : va_G) (cI cZ cS : ClassId) (N0 : NT) (h : Nat) (tp : Nat) (nw : Nat) (rw : Nat) (lg : Nat) (jd : Nat) (pr : Nat) (n1 : Nat) (n2 : Nat) (x1 : Int32) (x2 : Int32) (x3 : Int32)  : Mx l D cI cZ cS N0 yX6_mend cX6_mend 6 (some .int) 1 0 0 [.ref h, .int x1, .int x2, .int x3] [(h, .inr (6, [.ref tp, .ref nw, .ref rw, .ref lg, .ref jd, .ref pr, .int 0])), (nw, .inr (5, [.ref n1, .int 0, .int 0, .ref n2, .int 0, .int 0, .int 0, .int 0]))] (fun v w => v = some (.int (-1)) ∧ w = ([] : va_W)) := by
  refine x_enter (by decide) (Nat.le_of_ble_eq_true rfl) ?_
  intro p e s m args below meth c A ls H locs hB hr hin hl hV hA
  have hx := hB.1
  have hb := hB.2.1
  have hl : lv_has ls 6 [(0, .ref h), (1, .int x1), (2, .int x2), (3, .int x3)] := hl
  refine lv_aload_n hx hb dX6_mend_0 rfl (lv_at hl 0 rfl) ?_
  refine x_get (v := .ref nw) hB hV 0 rfl rfl 1 (by decide) k_309 rfl dX6_mend_1 ?_
  refine lv_iload_n hx hb dX6_mend_4 rfl (lv_at hl 1 rfl) ?_
  refine x_callV (n := 1) (wr := [(h, .inr (6, [.ref tp, .ref nw, .ref rw, .ref lg, .ref jd, .ref pr, .int 0]))]) (q0 := 1) (As := [.int x1]) (rest := []) hB hV (x_N hB) hl.1 (c_has l D cI cZ cS N0 nw n1 n2 x1 ) rfl rfl k_436 k_59 k_433 k_434 k_435 (by decide +kernel) ⟨(Nat.le_of_ble_eq_true rfl), (Nat.le_of_ble_eq_true rfl)⟩ rfl (Nat.le_of_ble_eq_true rfl) ⟨(Nat.le_of_ble_eq_true rfl), (Nat.le_of_ble_eq_true rfl)⟩ [1] [0] rfl rfl rfl ⟨by decide, by decide, by decide⟩ dX6_mend_5 (fun v w H locs hp hV => ?_)
  obtain ⟨rfl, rfl⟩ := hp
  have hV : Vx D A s.heap H locs [(h, .inr (6, [.ref tp, .ref nw, .ref rw, .ref lg, .ref jd, .ref pr, .int 0])), (nw, .inr (5, [.ref n1, .int 0, .int 0, .ref n2, .int 0, .int 0, .int 0, .int 0]))] := hV
  refine W.eq (g2 := F0 m 8 ls [.int 0]) rfl ?_
  refine lv_if_eq (tgt := 19) hx hb dX6_mend_8 (by decide) (fun c_ => ?_) (fun c_ => absurd (by decide) c_)
  refine lv_iconst (v := (-1)) hx hb dX6_mend_19 (by decide) ?_
  exact x_iret (w := []) hB hr hV hA (Nat.le_of_ble_eq_true rfl) (Nat.le_of_ble_eq_true rfl) [] rfl rfl (by decide) dX6_mend_20 ⟨rfl, rfl⟩
set_option maxHeartbeats 4000000 in
set_option maxRecDepth 100000 in
theorem p_hold (l : Launch) (D : va_G) (cI cZ cS : ClassId) (N0 : NT) (h : Nat) (tp : Nat) (nw : Nat) (rw : Nat) (lg : Nat) (jd : Nat) (pr : Nat) (n1 : Nat) (n2 : Nat) (x1 : Int32) (x2 : Int32)  : Mx l D cI cZ cS N0 yX6_hold cX6_hold 4 (some .int) 1 0 0 [.ref h, .int x1, .int x2] [(h, .inr (6, [.ref tp, .ref nw, .ref rw, .ref lg, .ref jd, .ref pr, .int 0])), (nw, .inr (5, [.ref n1, .int 0, .int 0, .ref n2, .int 0, .int 0, .int 0, .int 0]))] (fun v w => v = some (.int (-1)) ∧ w = ([] : va_W)) := by
  refine x_enter (by decide) (Nat.le_of_ble_eq_true rfl) ?_
  intro p e s m args below meth c A ls H locs hB hr hin hl hV hA
  have hx := hB.1
  have hb := hB.2.1
  have hl : lv_has ls 4 [(0, .ref h), (1, .int x1), (2, .int x2)] := hl
  refine lv_aload_n hx hb dX6_hold_0 rfl (lv_at hl 0 rfl) ?_
  refine x_get (v := .ref nw) hB hV 0 rfl rfl 1 (by decide) k_309 rfl dX6_hold_1 ?_
  refine lv_iload_n hx hb dX6_hold_4 rfl (lv_at hl 1 rfl) ?_
  refine x_callV (n := 1) (wr := [(h, .inr (6, [.ref tp, .ref nw, .ref rw, .ref lg, .ref jd, .ref pr, .int 0]))]) (q0 := 1) (As := [.int x1]) (rest := []) hB hV (x_N hB) hl.1 (c_has l D cI cZ cS N0 nw n1 n2 x1 ) rfl rfl k_436 k_59 k_433 k_434 k_435 (by decide +kernel) ⟨(Nat.le_of_ble_eq_true rfl), (Nat.le_of_ble_eq_true rfl)⟩ rfl (Nat.le_of_ble_eq_true rfl) ⟨(Nat.le_of_ble_eq_true rfl), (Nat.le_of_ble_eq_true rfl)⟩ [1] [0] rfl rfl rfl ⟨by decide, by decide, by decide⟩ dX6_hold_5 (fun v w H locs hp hV => ?_)
  obtain ⟨rfl, rfl⟩ := hp
  have hV : Vx D A s.heap H locs [(h, .inr (6, [.ref tp, .ref nw, .ref rw, .ref lg, .ref jd, .ref pr, .int 0])), (nw, .inr (5, [.ref n1, .int 0, .int 0, .ref n2, .int 0, .int 0, .int 0, .int 0]))] := hV
  refine W.eq (g2 := F0 m 8 ls [.int 0]) rfl ?_
  refine lv_if_ne (tgt := 13) hx hb dX6_hold_8 (by decide) (fun c_ => absurd (by decide) c_) (fun c_ => ?_)
  refine lv_iconst (v := (-1)) hx hb dX6_hold_11 (by decide) ?_
  exact x_iret (w := []) hB hr hV hA (Nat.le_of_ble_eq_true rfl) (Nat.le_of_ble_eq_true rfl) [] rfl rfl (by decide) dX6_hold_12 ⟨rfl, rfl⟩
set_option maxHeartbeats 4000000 in
set_option maxRecDepth 100000 in
theorem p_set (l : Launch) (D : va_G) (cI cZ cS : ClassId) (N0 : NT) (h : Nat) (tp : Nat) (nw : Nat) (rw : Nat) (lg : Nat) (jd : Nat) (pr : Nat) (n1 : Nat) (n2 : Nat) (x1 : Int32) (x2 : Int32) (x3 : Int32)  : Mx l D cI cZ cS N0 yX6_set cX6_set 5 (some .int) 1 0 0 [.ref h, .int x1, .int x2, .int x3] [(h, .inr (6, [.ref tp, .ref nw, .ref rw, .ref lg, .ref jd, .ref pr, .int 0])), (nw, .inr (5, [.ref n1, .int 0, .int 0, .ref n2, .int 0, .int 0, .int 0, .int 0]))] (fun v w => v = some (.int (-1)) ∧ w = ([] : va_W)) := by
  refine x_enter (by decide) (Nat.le_of_ble_eq_true rfl) ?_
  intro p e s m args below meth c A ls H locs hB hr hin hl hV hA
  have hx := hB.1
  have hb := hB.2.1
  have hl : lv_has ls 5 [(0, .ref h), (1, .int x1), (2, .int x2), (3, .int x3)] := hl
  refine lv_aload_n hx hb dX6_set_0 rfl (lv_at hl 0 rfl) ?_
  refine x_get (v := .ref nw) hB hV 0 rfl rfl 1 (by decide) k_309 rfl dX6_set_1 ?_
  refine lv_iload_n hx hb dX6_set_4 rfl (lv_at hl 1 rfl) ?_
  refine x_callV (n := 1) (wr := [(h, .inr (6, [.ref tp, .ref nw, .ref rw, .ref lg, .ref jd, .ref pr, .int 0]))]) (q0 := 1) (As := [.int x1]) (rest := []) hB hV (x_N hB) hl.1 (c_has l D cI cZ cS N0 nw n1 n2 x1 ) rfl rfl k_436 k_59 k_433 k_434 k_435 (by decide +kernel) ⟨(Nat.le_of_ble_eq_true rfl), (Nat.le_of_ble_eq_true rfl)⟩ rfl (Nat.le_of_ble_eq_true rfl) ⟨(Nat.le_of_ble_eq_true rfl), (Nat.le_of_ble_eq_true rfl)⟩ [1] [0] rfl rfl rfl ⟨by decide, by decide, by decide⟩ dX6_set_5 (fun v w H locs hp hV => ?_)
  obtain ⟨rfl, rfl⟩ := hp
  have hV : Vx D A s.heap H locs [(h, .inr (6, [.ref tp, .ref nw, .ref rw, .ref lg, .ref jd, .ref pr, .int 0])), (nw, .inr (5, [.ref n1, .int 0, .int 0, .ref n2, .int 0, .int 0, .int 0, .int 0]))] := hV
  refine W.eq (g2 := F0 m 8 ls [.int 0]) rfl ?_
  refine lv_if_eq (tgt := 19) hx hb dX6_set_8 (by decide) (fun c_ => ?_) (fun c_ => absurd (by decide) c_)
  refine lv_iconst (v := (-1)) hx hb dX6_set_19 (by decide) ?_
  exact x_iret (w := []) hB hr hV hA (Nat.le_of_ble_eq_true rfl) (Nat.le_of_ble_eq_true rfl) [] rfl rfl (by decide) dX6_set_20 ⟨rfl, rfl⟩
set_option maxHeartbeats 4000000 in
set_option maxRecDepth 100000 in
theorem p_about (l : Launch) (D : va_G) (cI cZ cS : ClassId) (N0 : NT) (h : Nat) (tp : Nat) (nw : Nat) (rw : Nat) (lg : Nat) (jd : Nat) (pr : Nat) (n1 : Nat) (n2 : Nat) (x1 : Int32) (x2 : Int32)  : Mx l D cI cZ cS N0 yX6_about cX6_about 4 (some .int) 1 0 0 [.ref h, .int x1, .int x2] [(h, .inr (6, [.ref tp, .ref nw, .ref rw, .ref lg, .ref jd, .ref pr, .int 0])), (nw, .inr (5, [.ref n1, .int 0, .int 0, .ref n2, .int 0, .int 0, .int 0, .int 0]))] (fun v w => v = some (.int (-1)) ∧ w = ([] : va_W)) := by
  refine x_enter (by decide) (Nat.le_of_ble_eq_true rfl) ?_
  intro p e s m args below meth c A ls H locs hB hr hin hl hV hA
  have hx := hB.1
  have hb := hB.2.1
  have hl : lv_has ls 4 [(0, .ref h), (1, .int x1), (2, .int x2)] := hl
  refine lv_aload_n hx hb dX6_about_0 rfl (lv_at hl 0 rfl) ?_
  refine x_get (v := .ref nw) hB hV 0 rfl rfl 1 (by decide) k_309 rfl dX6_about_1 ?_
  refine lv_iload_n hx hb dX6_about_4 rfl (lv_at hl 1 rfl) ?_
  refine x_callV (n := 1) (wr := [(h, .inr (6, [.ref tp, .ref nw, .ref rw, .ref lg, .ref jd, .ref pr, .int 0]))]) (q0 := 1) (As := [.int x1]) (rest := []) hB hV (x_N hB) hl.1 (c_has l D cI cZ cS N0 nw n1 n2 x1 ) rfl rfl k_436 k_59 k_433 k_434 k_435 (by decide +kernel) ⟨(Nat.le_of_ble_eq_true rfl), (Nat.le_of_ble_eq_true rfl)⟩ rfl (Nat.le_of_ble_eq_true rfl) ⟨(Nat.le_of_ble_eq_true rfl), (Nat.le_of_ble_eq_true rfl)⟩ [1] [0] rfl rfl rfl ⟨by decide, by decide, by decide⟩ dX6_about_5 (fun v w H locs hp hV => ?_)
  obtain ⟨rfl, rfl⟩ := hp
  have hV : Vx D A s.heap H locs [(h, .inr (6, [.ref tp, .ref nw, .ref rw, .ref lg, .ref jd, .ref pr, .int 0])), (nw, .inr (5, [.ref n1, .int 0, .int 0, .ref n2, .int 0, .int 0, .int 0, .int 0]))] := hV
  refine W.eq (g2 := F0 m 8 ls [.int 0]) rfl ?_
  refine lv_if_eq (tgt := 20) hx hb dX6_about_8 (by decide) (fun c_ => ?_) (fun c_ => absurd (by decide) c_)
  refine lv_iconst (v := (-1)) hx hb dX6_about_20 (by decide) ?_
  exact x_iret (w := []) hB hr hV hA (Nat.le_of_ble_eq_true rfl) (Nat.le_of_ble_eq_true rfl) [] rfl rfl (by decide) dX6_about_21 ⟨rfl, rfl⟩
set_option maxHeartbeats 4000000 in
set_option maxRecDepth 100000 in
theorem p_act (l : Launch) (D : va_G) (cI cZ cS : ClassId) (N0 : NT) (h : Nat) (tp : Nat) (nw : Nat) (rw : Nat) (lg : Nat) (jd : Nat) (pr : Nat) (n1 : Nat) (n2 : Nat) (x1 : Int32) (x2 : Int32) (x3 : Int32)  : Mx l D cI cZ cS N0 yX6_act cX6_act 5 (some .int) 1 0 0 [.ref h, .int x1, .int x2, .int x3] [(h, .inr (6, [.ref tp, .ref nw, .ref rw, .ref lg, .ref jd, .ref pr, .int 0])), (nw, .inr (5, [.ref n1, .int 0, .int 0, .ref n2, .int 0, .int 0, .int 0, .int 0]))] (fun v w => v = some (.int (-1)) ∧ w = ([] : va_W)) := by
  refine x_enter (by decide) (Nat.le_of_ble_eq_true rfl) ?_
  intro p e s m args below meth c A ls H locs hB hr hin hl hV hA
  have hx := hB.1
  have hb := hB.2.1
  have hl : lv_has ls 5 [(0, .ref h), (1, .int x1), (2, .int x2), (3, .int x3)] := hl
  refine lv_aload_n hx hb dX6_act_0 rfl (lv_at hl 0 rfl) ?_
  refine x_get (v := .ref nw) hB hV 0 rfl rfl 1 (by decide) k_309 rfl dX6_act_1 ?_
  refine lv_iload_n hx hb dX6_act_4 rfl (lv_at hl 1 rfl) ?_
  refine x_callV (n := 1) (wr := [(h, .inr (6, [.ref tp, .ref nw, .ref rw, .ref lg, .ref jd, .ref pr, .int 0]))]) (q0 := 1) (As := [.int x1]) (rest := []) hB hV (x_N hB) hl.1 (c_has l D cI cZ cS N0 nw n1 n2 x1 ) rfl rfl k_436 k_59 k_433 k_434 k_435 (by decide +kernel) ⟨(Nat.le_of_ble_eq_true rfl), (Nat.le_of_ble_eq_true rfl)⟩ rfl (Nat.le_of_ble_eq_true rfl) ⟨(Nat.le_of_ble_eq_true rfl), (Nat.le_of_ble_eq_true rfl)⟩ [1] [0] rfl rfl rfl ⟨by decide, by decide, by decide⟩ dX6_act_5 (fun v w H locs hp hV => ?_)
  obtain ⟨rfl, rfl⟩ := hp
  have hV : Vx D A s.heap H locs [(h, .inr (6, [.ref tp, .ref nw, .ref rw, .ref lg, .ref jd, .ref pr, .int 0])), (nw, .inr (5, [.ref n1, .int 0, .int 0, .ref n2, .int 0, .int 0, .int 0, .int 0]))] := hV
  refine W.eq (g2 := F0 m 8 ls [.int 0]) rfl ?_
  refine lv_if_ne (tgt := 13) hx hb dX6_act_8 (by decide) (fun c_ => absurd (by decide) c_) (fun c_ => ?_)
  refine lv_iconst (v := (-1)) hx hb dX6_act_11 (by decide) ?_
  exact x_iret (w := []) hB hr hV hA (Nat.le_of_ble_eq_true rfl) (Nat.le_of_ble_eq_true rfl) [] rfl rfl (by decide) dX6_act_12 ⟨rfl, rfl⟩
set_option maxHeartbeats 4000000 in
set_option maxRecDepth 100000 in
theorem p_call (l : Launch) (D : va_G) (cI cZ cS : ClassId) (N0 : NT) (h : Nat) (tp : Nat) (nw : Nat) (rw : Nat) (lg : Nat) (jd : Nat) (pr : Nat) (n1 : Nat) (n2 : Nat) (x1 : Int32) (x2 : Int32) (x3 : Int32) (x4 : Int32)  : Mx l D cI cZ cS N0 yX6_call cX6_call 5 (some .int) 1 0 0 [.ref h, .int x1, .int x2, .int x3, .int x4] [(h, .inr (6, [.ref tp, .ref nw, .ref rw, .ref lg, .ref jd, .ref pr, .int 0])), (nw, .inr (5, [.ref n1, .int 0, .int 0, .ref n2, .int 0, .int 0, .int 0, .int 0]))] (fun v w => v = some (.int (-3)) ∧ w = ([] : va_W)) := by
  refine x_enter (by decide) (Nat.le_of_ble_eq_true rfl) ?_
  intro p e s m args below meth c A ls H locs hB hr hin hl hV hA
  have hx := hB.1
  have hb := hB.2.1
  have hl : lv_has ls 5 [(0, .ref h), (1, .int x1), (2, .int x2), (3, .int x3), (4, .int x4)] := hl
  refine lv_aload_n hx hb dX6_call_0 rfl (lv_at hl 0 rfl) ?_
  refine x_get (v := .ref nw) hB hV 0 rfl rfl 1 (by decide) k_309 rfl dX6_call_1 ?_
  refine lv_iload_n hx hb dX6_call_4 rfl (lv_at hl 1 rfl) ?_
  refine x_callV (n := 1) (wr := [(h, .inr (6, [.ref tp, .ref nw, .ref rw, .ref lg, .ref jd, .ref pr, .int 0]))]) (q0 := 1) (As := [.int x1]) (rest := []) hB hV (x_N hB) hl.1 (c_has l D cI cZ cS N0 nw n1 n2 x1 ) rfl rfl k_436 k_59 k_433 k_434 k_435 (by decide +kernel) ⟨(Nat.le_of_ble_eq_true rfl), (Nat.le_of_ble_eq_true rfl)⟩ rfl (Nat.le_of_ble_eq_true rfl) ⟨(Nat.le_of_ble_eq_true rfl), (Nat.le_of_ble_eq_true rfl)⟩ [1] [0] rfl rfl rfl ⟨by decide, by decide, by decide⟩ dX6_call_5 (fun v w H locs hp hV => ?_)
  obtain ⟨rfl, rfl⟩ := hp
  have hV : Vx D A s.heap H locs [(h, .inr (6, [.ref tp, .ref nw, .ref rw, .ref lg, .ref jd, .ref pr, .int 0])), (nw, .inr (5, [.ref n1, .int 0, .int 0, .ref n2, .int 0, .int 0, .int 0, .int 0]))] := hV
  refine W.eq (g2 := F0 m 8 ls [.int 0]) rfl ?_
  refine lv_if_ne (tgt := 14) hx hb dX6_call_8 (by decide) (fun c_ => absurd (by decide) c_) (fun c_ => ?_)
  refine lv_bipush (v := (-3)) hx hb dX6_call_11 (by decide) ?_
  exact x_iret (w := []) hB hr hV hA (Nat.le_of_ble_eq_true rfl) (Nat.le_of_ble_eq_true rfl) [] rfl rfl (by decide) dX6_call_13 ⟨rfl, rfl⟩
set_option maxHeartbeats 4000000 in
set_option maxRecDepth 100000 in
theorem p_row (l : Launch) (D : va_G) (cI cZ cS : ClassId) (N0 : NT) (h : Nat) (tp : Nat) (nw : Nat) (rw : Nat) (lg : Nat) (jd : Nat) (pr : Nat) (n1 : Nat) (n2 : Nat) (x1 : Int32) (x2 : Int32) (x3 : Int32)  : Mx l D cI cZ cS N0 yX6_row cX6_row 4 (some .int) 1 0 0 [.ref h, .int x1, .int x2, .int x3] [(h, .inr (6, [.ref tp, .ref nw, .ref rw, .ref lg, .ref jd, .ref pr, .int 0])), (nw, .inr (5, [.ref n1, .int 0, .int 0, .ref n2, .int 0, .int 0, .int 0, .int 0]))] (fun v w => v = some (.int (-1)) ∧ w = ([] : va_W)) := by
  refine x_enter (by decide) (Nat.le_of_ble_eq_true rfl) ?_
  intro p e s m args below meth c A ls H locs hB hr hin hl hV hA
  have hx := hB.1
  have hb := hB.2.1
  have hl : lv_has ls 4 [(0, .ref h), (1, .int x1), (2, .int x2), (3, .int x3)] := hl
  refine lv_aload_n hx hb dX6_row_0 rfl (lv_at hl 0 rfl) ?_
  refine x_get (v := .ref nw) hB hV 0 rfl rfl 1 (by decide) k_309 rfl dX6_row_1 ?_
  refine lv_iload_n hx hb dX6_row_4 rfl (lv_at hl 1 rfl) ?_
  refine x_callV (n := 1) (wr := [(h, .inr (6, [.ref tp, .ref nw, .ref rw, .ref lg, .ref jd, .ref pr, .int 0]))]) (q0 := 1) (As := [.int x1]) (rest := []) hB hV (x_N hB) hl.1 (c_has l D cI cZ cS N0 nw n1 n2 x1 ) rfl rfl k_436 k_59 k_433 k_434 k_435 (by decide +kernel) ⟨(Nat.le_of_ble_eq_true rfl), (Nat.le_of_ble_eq_true rfl)⟩ rfl (Nat.le_of_ble_eq_true rfl) ⟨(Nat.le_of_ble_eq_true rfl), (Nat.le_of_ble_eq_true rfl)⟩ [1] [0] rfl rfl rfl ⟨by decide, by decide, by decide⟩ dX6_row_5 (fun v w H locs hp hV => ?_)
  obtain ⟨rfl, rfl⟩ := hp
  have hV : Vx D A s.heap H locs [(h, .inr (6, [.ref tp, .ref nw, .ref rw, .ref lg, .ref jd, .ref pr, .int 0])), (nw, .inr (5, [.ref n1, .int 0, .int 0, .ref n2, .int 0, .int 0, .int 0, .int 0]))] := hV
  refine W.eq (g2 := F0 m 8 ls [.int 0]) rfl ?_
  refine lv_if_ne (tgt := 13) hx hb dX6_row_8 (by decide) (fun c_ => absurd (by decide) c_) (fun c_ => ?_)
  refine lv_iconst (v := (-1)) hx hb dX6_row_11 (by decide) ?_
  exact x_iret (w := []) hB hr hV hA (Nat.le_of_ble_eq_true rfl) (Nat.le_of_ble_eq_true rfl) [] rfl rfl (by decide) dX6_row_12 ⟨rfl, rfl⟩
set_option maxHeartbeats 4000000 in
set_option maxRecDepth 100000 in
theorem p_outside (l : Launch) (D : va_G) (cI cZ cS : ClassId) (N0 : NT) (h : Nat) (tp : Nat) (nw : Nat) (rw : Nat) (lg : Nat) (jd : Nat) (pr : Nat) (n1 : Nat) (n2 : Nat) (x1 : Int32)  : Mx l D cI cZ cS N0 yX6_outside cX6_outside 2 (some .int) 1 0 0 [.ref h, .int x1] [(h, .inr (6, [.ref tp, .ref nw, .ref rw, .ref lg, .ref jd, .ref pr, .int 0])), (nw, .inr (5, [.ref n1, .int 0, .int 0, .ref n2, .int 0, .int 0, .int 0, .int 0]))] (fun v w => v = some (.int (-1)) ∧ w = ([] : va_W)) := by
  refine x_enter (by decide) (Nat.le_of_ble_eq_true rfl) ?_
  intro p e s m args below meth c A ls H locs hB hr hin hl hV hA
  have hx := hB.1
  have hb := hB.2.1
  have hl : lv_has ls 2 [(0, .ref h), (1, .int x1)] := hl
  refine lv_iload_n hx hb dX6_outside_0 rfl (lv_at hl 1 rfl) ?_
  refine lv_aload_n hx hb dX6_outside_1 rfl (lv_at hl 0 rfl) ?_
  refine x_get (v := .ref nw) hB hV 0 rfl rfl 1 (by decide) k_309 rfl dX6_outside_2 ?_
  refine x_get (v := .int 0) hB hV 1 rfl rfl 4 (by decide) k_211 rfl dX6_outside_5 ?_
  refine lv_bipush (v := 40) hx hb dX6_outside_8 (by decide) ?_
  refine x_min (v := 0) hB k_559 k_560 k_63 k_561 hl.1 (Nat.le_of_ble_eq_true rfl) (Nat.le_of_ble_eq_true rfl) (Nat.le_of_ble_eq_true rfl) (Nat.le_of_ble_eq_true rfl) (by decide) dX6_outside_10 ?_
  refine lv_iconst (v := 1) hx hb dX6_outside_13 (by decide) ?_
  refine lv_isub hx hb dX6_outside_14 ?_
  refine x_ev (y := (-1)) (by decide) ?_
  refine x_callS (n := 2) (wr := [(h, .inr (6, [.ref tp, .ref nw, .ref rw, .ref lg, .ref jd, .ref pr, .int 0])), (nw, .inr (5, [.ref n1, .int 0, .int 0, .ref n2, .int 0, .int 0, .int 0, .int 0]))]) (As := [.int x1, .int (-1)]) (rest := []) hB hV (x_N hB) hl.1 (c_within_m1 l D cI cZ cS N0 x1 ) k_415 k_57 k_441 k_414 (by decide +kernel) ⟨(Nat.le_of_ble_eq_true rfl), (Nat.le_of_ble_eq_true rfl)⟩ rfl (Nat.le_of_ble_eq_true rfl) ⟨(Nat.le_of_ble_eq_true rfl), (Nat.le_of_ble_eq_true rfl)⟩ [] [0, 1] rfl rfl rfl ⟨by decide, by decide, by decide⟩ dX6_outside_15 (fun v w H locs hp hV => ?_)
  obtain ⟨rfl, rfl⟩ := hp
  have hV : Vx D A s.heap H locs [(h, .inr (6, [.ref tp, .ref nw, .ref rw, .ref lg, .ref jd, .ref pr, .int 0])), (nw, .inr (5, [.ref n1, .int 0, .int 0, .ref n2, .int 0, .int 0, .int 0, .int 0]))] := hV
  refine W.eq (g2 := F0 m 18 ls [.int 0]) rfl ?_
  refine lv_if_ne (tgt := 23) hx hb dX6_outside_18 (by decide) (fun c_ => absurd (by decide) c_) (fun c_ => ?_)
  refine lv_iconst (v := (-1)) hx hb dX6_outside_21 (by decide) ?_
  exact x_iret (w := []) hB hr hV hA (Nat.le_of_ble_eq_true rfl) (Nat.le_of_ble_eq_true rfl) [] rfl rfl (by decide) dX6_outside_22 ⟨rfl, rfl⟩
set_option maxHeartbeats 4000000 in
set_option maxRecDepth 100000 in
theorem p_clear (l : Launch) (D : va_G) (cI cZ cS : ClassId) (N0 : NT) (h : Nat) (tp : Nat) (nw : Nat) (rw : Nat) (lg : Nat) (jd : Nat) (pr : Nat) (r1 : Nat) (r2 : Nat) (r3 : Nat)  : Mx l D cI cZ cS N0 yX6_clear cX6_clear 2 (some .int) 1 0 0 [.ref h] [(h, .inr (6, [.ref tp, .ref nw, .ref rw, .ref lg, .ref jd, .ref pr, .int 0])), (rw, .inr (0, [.ref r1, .ref r2, .ref r3, .int 0]))] (fun v w => v = some (.int 0) ∧ w = ([] : va_W)) := by
  refine x_enter (by decide) (Nat.le_of_ble_eq_true rfl) ?_
  intro p e s m args below meth c A ls H locs hB hr hin hl hV hA
  have hx := hB.1
  have hb := hB.2.1
  have hl : lv_has ls 2 [(0, .ref h)] := hl
  refine lv_aload_n hx hb dX6_clear_0 rfl (lv_at hl 0 rfl) ?_
  refine x_get (v := .ref rw) hB hV 0 rfl rfl 2 (by decide) k_310 rfl dX6_clear_1 ?_
  refine x_get (v := .int 0) hB hV 1 rfl rfl 3 (by decide) k_256 rfl dX6_clear_4 ?_
  refine lv_istore_n (lv' := [(1, .int 0), (0, .ref h)]) hx hb dX6_clear_7 rfl hl (by decide) rfl (fun ls hl => ?_)
  refine lv_aload_n hx hb dX6_clear_8 rfl (lv_at hl 1 rfl) ?_
  refine x_get (v := .ref rw) hB hV 0 rfl rfl 2 (by decide) k_310 rfl dX6_clear_9 ?_
  refine lv_iconst (v := 0) hx hb dX6_clear_12 (by decide) ?_
  refine x_put (v := .int 0) hB hV 1 rfl rfl 3 (by decide) k_256 rfl rfl rfl (Nat.le_of_ble_eq_true rfl) dX6_clear_13 (fun H locs hV => ?_)
  have hV : Vx D A s.heap H locs [(h, .inr (6, [.ref tp, .ref nw, .ref rw, .ref lg, .ref jd, .ref pr, .int 0])), (rw, .inr (0, [.ref r1, .ref r2, .ref r3, .int 0]))] := hV
  refine lv_iload_n hx hb dX6_clear_16 rfl (lv_at hl 0 rfl) ?_
  exact x_iret (w := []) hB hr hV hA (Nat.le_of_ble_eq_true rfl) (Nat.le_of_ble_eq_true rfl) [] rfl rfl (by decide) dX6_clear_17 ⟨rfl, rfl⟩
set_option maxHeartbeats 4000000 in
set_option maxRecDepth 100000 in
theorem p_free (l : Launch) (D : va_G) (cI cZ cS : ClassId) (N0 : NT) (h : Nat) (tp : Nat) (nw : Nat) (rw : Nat) (lg : Nat) (jd : Nat) (pr : Nat) (x1 : Int32)  : Mx l D cI cZ cS N0 yX6_free cX6_free 3 (some .int) 1 0 0 [.ref h, .int x1] [(h, .inr (6, [.ref tp, .ref nw, .ref rw, .ref lg, .ref jd, .ref pr, .int 0]))] (fun v w => ∃ (r : Int32), v = some (.int r) ∧ w = ([] : va_W) ∧ (r = sp_free x1)) := by
  refine x_enter (by decide) (Nat.le_of_ble_eq_true rfl) ?_
  intro p e s m args below meth c A ls H locs hB hr hin hl hV hA
  have hx := hB.1
  have hb := hB.2.1
  have hl : lv_has ls 3 [(0, .ref h), (1, .int x1)] := hl
  refine lv_iload_n hx hb dX6_free_0 rfl (lv_at hl 1 rfl) ?_
  refine lv_iconst (v := 1) hx hb dX6_free_1 (by decide) ?_
  refine x_callS (n := 2) (wr := [(h, .inr (6, [.ref tp, .ref nw, .ref rw, .ref lg, .ref jd, .ref pr, .int 0]))]) (As := [.int x1, .int 1]) (rest := []) hB hV (x_N hB) hl.1 (c_within l D cI cZ cS N0 x1 1 ) k_415 k_57 k_441 k_414 (by decide +kernel) ⟨(Nat.le_of_ble_eq_true rfl), (Nat.le_of_ble_eq_true rfl)⟩ rfl (Nat.le_of_ble_eq_true rfl) ⟨(Nat.le_of_ble_eq_true rfl), (Nat.le_of_ble_eq_true rfl)⟩ [] [0] rfl rfl rfl ⟨by decide, by decide, by decide⟩ dX6_free_2 (fun v w H locs hp hV => ?_)
  obtain ⟨r_1, rfl, rfl, f_2⟩ := hp
  have hV : Vx D A s.heap H locs [(h, .inr (6, [.ref tp, .ref nw, .ref rw, .ref lg, .ref jd, .ref pr, .int 0]))] := hV
  refine W.eq (g2 := F0 m 5 ls [.int r_1]) rfl ?_
  rcases f_2 with ⟨rfl, hw_3⟩ | ⟨rfl, hw_3⟩
  · refine W.eq (g2 := F0 m 5 ls [.int 1]) rfl ?_
    refine lv_if_ne (tgt := 11) hx hb dX6_free_5 (by decide) (fun c_ => ?_) (fun c_ => absurd c_ (by decide))
    refine lv_aload_n hx hb dX6_free_11 rfl (lv_at hl 0 rfl) ?_
    refine x_get (v := .int 0) hB hV 0 rfl rfl 6 (by decide) k_314 rfl dX6_free_12 ?_
    refine lv_if_eq (tgt := 22) hx hb dX6_free_15 (by decide) (fun c_ => ?_) (fun c_ => absurd (by decide) c_)
    refine lv_iconst (v := 0) hx hb dX6_free_22 (by decide) ?_
    refine lv_istore_n (lv' := [(2, .int 0), (0, .ref h), (1, .int x1)]) hx hb dX6_free_23 rfl hl (by decide) rfl (fun ls hl => ?_)
    refine lv_aload_n hx hb dX6_free_24 rfl (lv_at hl 1 rfl) ?_
    refine lv_iload_n hx hb dX6_free_25 rfl (lv_at hl 2 rfl) ?_
    refine lv_iconst (v := 1) hx hb dX6_free_26 (by decide) ?_
    refine lv_icmp_ne (tgt := 34) hx hb dX6_free_27 (by decide) (fun c5 => ?_) (fun c5 => ?_)
    · refine lv_iconst (v := 0) hx hb dX6_free_34 (by decide) ?_
      refine x_put (v := .int 0) hB hV 0 rfl rfl 6 (by decide) k_314 rfl rfl rfl (Nat.le_of_ble_eq_true rfl) dX6_free_35 (fun H locs hV => ?_)
      have hV : Vx D A s.heap H locs [(h, .inr (6, [.ref tp, .ref nw, .ref rw, .ref lg, .ref jd, .ref pr, .int 0]))] := hV
      refine lv_iload_n hx hb dX6_free_38 rfl (lv_at hl 0 rfl) ?_
      exact x_iret (w := []) hB hr hV hA (Nat.le_of_ble_eq_true rfl) (Nat.le_of_ble_eq_true rfl) [] rfl rfl (by decide) dX6_free_39 ⟨0, rfl, rfl, (if_neg hw_3).symm⟩
    · refine lv_iconst (v := 1) hx hb dX6_free_30 (by decide) ?_
      refine lv_goto (tgt := 35) hx hb dX6_free_31 (by decide) ?_
      refine x_put (v := .int 1) hB hV 0 rfl rfl 6 (by decide) k_314 rfl rfl rfl (Nat.le_of_ble_eq_true rfl) dX6_free_35 (fun H locs hV => ?_)
      have hV : Vx D A s.heap H locs [(h, .inr (6, [.ref tp, .ref nw, .ref rw, .ref lg, .ref jd, .ref pr, .int 1]))] := hV
      refine lv_iload_n hx hb dX6_free_38 rfl (lv_at hl 0 rfl) ?_
      exact x_iret (w := []) hB hr hV hA (Nat.le_of_ble_eq_true rfl) (Nat.le_of_ble_eq_true rfl) [] rfl rfl (by decide) dX6_free_39 ⟨0, rfl, rfl, (if_neg hw_3).symm⟩
  · refine W.eq (g2 := F0 m 5 ls [.int 0]) rfl ?_
    refine lv_if_ne (tgt := 11) hx hb dX6_free_5 (by decide) (fun c_ => absurd (by decide) c_) (fun c_ => ?_)
    refine lv_bipush (v := (-2)) hx hb dX6_free_8 (by decide) ?_
    exact x_iret (w := []) hB hr hV hA (Nat.le_of_ble_eq_true rfl) (Nat.le_of_ble_eq_true rfl) [] rfl rfl (by decide) dX6_free_10 ⟨(-2), rfl, rfl, (if_pos hw_3).symm⟩
set_option maxHeartbeats 4000000 in
set_option maxRecDepth 100000 in
theorem p_safe (l : Launch) (D : va_G) (cI cZ cS : ClassId) (N0 : NT) (h : Nat) (tp : Nat) (nw : Nat) (rw : Nat) (lg : Nat) (jd : Nat) (pr : Nat) (r1 : Nat) (r2 : Nat) (r3 : Nat) (x1 : Int32) (x2 : Int32) (x3 : Int32)  : Mx l D cI cZ cS N0 yX6_safe cX6_safe 4 (some .int) 1 0 0 [.ref h, .int x1, .int x2, .int x3] [(h, .inr (6, [.ref tp, .ref nw, .ref rw, .ref lg, .ref jd, .ref pr, .int 0])), (rw, .inr (0, [.ref r1, .ref r2, .ref r3, .int 0]))] (fun v w => v = some (.int (-1)) ∧ w = ([] : va_W)) := by
  refine x_enter (by decide) (Nat.le_of_ble_eq_true rfl) ?_
  intro p e s m args below meth c A ls H locs hB hr hin hl hV hA
  have hx := hB.1
  have hb := hB.2.1
  have hl : lv_has ls 4 [(0, .ref h), (1, .int x1), (2, .int x2), (3, .int x3)] := hl
  refine lv_iload_n hx hb dX6_safe_0 rfl (lv_at hl 1 rfl) ?_
  refine lv_aload_n hx hb dX6_safe_1 rfl (lv_at hl 0 rfl) ?_
  refine x_get (v := .ref rw) hB hV 0 rfl rfl 2 (by decide) k_310 rfl dX6_safe_2 ?_
  refine x_get (v := .int 0) hB hV 1 rfl rfl 3 (by decide) k_256 rfl dX6_safe_5 ?_
  refine lv_iconst (v := 1) hx hb dX6_safe_8 (by decide) ?_
  refine lv_isub hx hb dX6_safe_9 ?_
  refine x_ev (y := (-1)) (by decide) ?_
  refine x_callS (n := 2) (wr := [(h, .inr (6, [.ref tp, .ref nw, .ref rw, .ref lg, .ref jd, .ref pr, .int 0])), (rw, .inr (0, [.ref r1, .ref r2, .ref r3, .int 0]))]) (As := [.int x1, .int (-1)]) (rest := []) hB hV (x_N hB) hl.1 (c_within_m1 l D cI cZ cS N0 x1 ) k_415 k_57 k_441 k_414 (by decide +kernel) ⟨(Nat.le_of_ble_eq_true rfl), (Nat.le_of_ble_eq_true rfl)⟩ rfl (Nat.le_of_ble_eq_true rfl) ⟨(Nat.le_of_ble_eq_true rfl), (Nat.le_of_ble_eq_true rfl)⟩ [] [0, 1] rfl rfl rfl ⟨by decide, by decide, by decide⟩ dX6_safe_10 (fun v w H locs hp hV => ?_)
  obtain ⟨rfl, rfl⟩ := hp
  have hV : Vx D A s.heap H locs [(h, .inr (6, [.ref tp, .ref nw, .ref rw, .ref lg, .ref jd, .ref pr, .int 0])), (rw, .inr (0, [.ref r1, .ref r2, .ref r3, .int 0]))] := hV
  refine W.eq (g2 := F0 m 13 ls [.int 0]) rfl ?_
  refine lv_if_ne (tgt := 18) hx hb dX6_safe_13 (by decide) (fun c_ => absurd (by decide) c_) (fun c_ => ?_)
  refine lv_iconst (v := (-1)) hx hb dX6_safe_16 (by decide) ?_
  exact x_iret (w := []) hB hr hV hA (Nat.le_of_ble_eq_true rfl) (Nat.le_of_ble_eq_true rfl) [] rfl rfl (by decide) dX6_safe_17 ⟨rfl, rfl⟩
set_option maxHeartbeats 4000000 in
set_option maxRecDepth 100000 in
theorem p_orders (l : Launch) (D : va_G) (cI cZ cS : ClassId) (N0 : NT) (h : Nat) (tp : Nat) (nw : Nat) (rw : Nat) (lg : Nat) (jd : Nat) (pr : Nat) (r1 : Nat) (r2 : Nat) (r3 : Nat) (x1 : Int32) (x2 : Int32)  : Mx l D cI cZ cS N0 yX6_orders cX6_orders 3 (some .int) 1 0 0 [.ref h, .int x1, .int x2] [(h, .inr (6, [.ref tp, .ref nw, .ref rw, .ref lg, .ref jd, .ref pr, .int 0])), (rw, .inr (0, [.ref r1, .ref r2, .ref r3, .int 0]))] (fun v w => v = some (.int (-1)) ∧ w = ([] : va_W)) := by
  refine x_enter (by decide) (Nat.le_of_ble_eq_true rfl) ?_
  intro p e s m args below meth c A ls H locs hB hr hin hl hV hA
  have hx := hB.1
  have hb := hB.2.1
  have hl : lv_has ls 3 [(0, .ref h), (1, .int x1), (2, .int x2)] := hl
  refine lv_iload_n hx hb dX6_orders_0 rfl (lv_at hl 1 rfl) ?_
  refine lv_aload_n hx hb dX6_orders_1 rfl (lv_at hl 0 rfl) ?_
  refine x_get (v := .ref rw) hB hV 0 rfl rfl 2 (by decide) k_310 rfl dX6_orders_2 ?_
  refine x_get (v := .int 0) hB hV 1 rfl rfl 3 (by decide) k_256 rfl dX6_orders_5 ?_
  refine lv_iconst (v := 1) hx hb dX6_orders_8 (by decide) ?_
  refine lv_isub hx hb dX6_orders_9 ?_
  refine x_ev (y := (-1)) (by decide) ?_
  refine x_callS (n := 2) (wr := [(h, .inr (6, [.ref tp, .ref nw, .ref rw, .ref lg, .ref jd, .ref pr, .int 0])), (rw, .inr (0, [.ref r1, .ref r2, .ref r3, .int 0]))]) (As := [.int x1, .int (-1)]) (rest := []) hB hV (x_N hB) hl.1 (c_within_m1 l D cI cZ cS N0 x1 ) k_415 k_57 k_441 k_414 (by decide +kernel) ⟨(Nat.le_of_ble_eq_true rfl), (Nat.le_of_ble_eq_true rfl)⟩ rfl (Nat.le_of_ble_eq_true rfl) ⟨(Nat.le_of_ble_eq_true rfl), (Nat.le_of_ble_eq_true rfl)⟩ [] [0, 1] rfl rfl rfl ⟨by decide, by decide, by decide⟩ dX6_orders_10 (fun v w H locs hp hV => ?_)
  obtain ⟨rfl, rfl⟩ := hp
  have hV : Vx D A s.heap H locs [(h, .inr (6, [.ref tp, .ref nw, .ref rw, .ref lg, .ref jd, .ref pr, .int 0])), (rw, .inr (0, [.ref r1, .ref r2, .ref r3, .int 0]))] := hV
  refine W.eq (g2 := F0 m 13 ls [.int 0]) rfl ?_
  refine lv_if_eq (tgt := 24) hx hb dX6_orders_13 (by decide) (fun c_ => ?_) (fun c_ => absurd (by decide) c_)
  refine lv_iconst (v := (-1)) hx hb dX6_orders_24 (by decide) ?_
  exact x_iret (w := []) hB hr hV hA (Nat.le_of_ble_eq_true rfl) (Nat.le_of_ble_eq_true rfl) [] rfl rfl (by decide) dX6_orders_25 ⟨rfl, rfl⟩
set_option maxHeartbeats 4000000 in
set_option maxRecDepth 100000 in
theorem p_log (l : Launch) (D : va_G) (cI cZ cS : ClassId) (N0 : NT) (h : Nat) (tp : Nat) (nw : Nat) (rw : Nat) (lg : Nat) (jd : Nat) (pr : Nat) (l1 : Nat) (l2 : Nat) (l3 : Nat) (x1 : Int32) (x2 : Int32)  : Mx l D cI cZ cS N0 yX6_log cX6_log 3 (some .int) 1 0 0 [.ref h, .int x1, .int x2] [(h, .inr (6, [.ref tp, .ref nw, .ref rw, .ref lg, .ref jd, .ref pr, .int 0])), (lg, .inr (0, [.ref l1, .ref l2, .ref l3, .int 0]))] (fun v w => v = some (.int (-1)) ∧ w = ([] : va_W)) := by
  refine x_enter (by decide) (Nat.le_of_ble_eq_true rfl) ?_
  intro p e s m args below meth c A ls H locs hB hr hin hl hV hA
  have hx := hB.1
  have hb := hB.2.1
  have hl : lv_has ls 3 [(0, .ref h), (1, .int x1), (2, .int x2)] := hl
  refine lv_iload_n hx hb dX6_log_0 rfl (lv_at hl 1 rfl) ?_
  refine lv_aload_n hx hb dX6_log_1 rfl (lv_at hl 0 rfl) ?_
  refine x_get (v := .ref lg) hB hV 0 rfl rfl 3 (by decide) k_311 rfl dX6_log_2 ?_
  refine x_get (v := .int 0) hB hV 1 rfl rfl 3 (by decide) k_256 rfl dX6_log_5 ?_
  refine lv_iconst (v := 1) hx hb dX6_log_8 (by decide) ?_
  refine lv_isub hx hb dX6_log_9 ?_
  refine x_ev (y := (-1)) (by decide) ?_
  refine x_callS (n := 2) (wr := [(h, .inr (6, [.ref tp, .ref nw, .ref rw, .ref lg, .ref jd, .ref pr, .int 0])), (lg, .inr (0, [.ref l1, .ref l2, .ref l3, .int 0]))]) (As := [.int x1, .int (-1)]) (rest := []) hB hV (x_N hB) hl.1 (c_within_m1 l D cI cZ cS N0 x1 ) k_415 k_57 k_441 k_414 (by decide +kernel) ⟨(Nat.le_of_ble_eq_true rfl), (Nat.le_of_ble_eq_true rfl)⟩ rfl (Nat.le_of_ble_eq_true rfl) ⟨(Nat.le_of_ble_eq_true rfl), (Nat.le_of_ble_eq_true rfl)⟩ [] [0, 1] rfl rfl rfl ⟨by decide, by decide, by decide⟩ dX6_log_10 (fun v w H locs hp hV => ?_)
  obtain ⟨rfl, rfl⟩ := hp
  have hV : Vx D A s.heap H locs [(h, .inr (6, [.ref tp, .ref nw, .ref rw, .ref lg, .ref jd, .ref pr, .int 0])), (lg, .inr (0, [.ref l1, .ref l2, .ref l3, .int 0]))] := hV
  refine W.eq (g2 := F0 m 13 ls [.int 0]) rfl ?_
  refine lv_if_ne (tgt := 18) hx hb dX6_log_13 (by decide) (fun c_ => absurd (by decide) c_) (fun c_ => ?_)
  refine lv_iconst (v := (-1)) hx hb dX6_log_16 (by decide) ?_
  exact x_iret (w := []) hB hr hV hA (Nat.le_of_ble_eq_true rfl) (Nat.le_of_ble_eq_true rfl) [] rfl rfl (by decide) dX6_log_17 ⟨rfl, rfl⟩
set_option maxHeartbeats 4000000 in
set_option maxRecDepth 100000 in
theorem p_worst (l : Launch) (D : va_G) (cI cZ cS : ClassId) (N0 : NT) (h : Nat) (tp : Nat) (nw : Nat) (rw : Nat) (lg : Nat) (jd : Nat) (pr : Nat) (n1 : Nat) (n2 : Nat) (r1 : Nat) (r2 : Nat) (r3 : Nat) (s1 : Nat) (s2 : Nat) (s3 : Nat) (s4 : Nat) (s5 : Nat) (s6 : Nat) (s7 : Nat) (s8 : Nat) (s9 : Nat) (b1 : Nat) (b2 : Nat) (b3 : Nat) (b4 : Nat) (b5 : Nat) (b6 : Nat)  : Mx l D cI cZ cS N0 yX6_worst cX6_worst 1 (some .int) 4 0 0 [.ref h] [(h, .inr (6, [.ref tp, .ref nw, .ref rw, .ref lg, .ref jd, .ref pr, .int 0])), (nw, .inr (5, [.ref n1, .int 0, .int 0, .ref n2, .int 0, .int 0, .int 0, .int 0])), (rw, .inr (0, [.ref r1, .ref r2, .ref r3, .int 0])), (jd, .inr (1, [.ref s1, .ref s2, .ref s3, .ref b1, .ref b2, .ref b3, .int 0, .ref b4, .ref b5, .ref b6])), (s1, .inr (5, [.ref s4, .int 0, .int 0, .ref s5, .int 0, .int 0, .int 0, .int 0])), (s2, .inr (5, [.ref s6, .int 0, .int 0, .ref s7, .int 0, .int 0, .int 0, .int 0])), (s3, .inr (5, [.ref s8, .int 0, .int 0, .ref s9, .int 0, .int 0, .int 0, .int 0]))] (fun v w => v = some (.int (-1)) ∧ w = ([] : va_W)) := by
  refine x_enter (by decide) (Nat.le_of_ble_eq_true rfl) ?_
  intro p e s m args below meth c A ls H locs hB hr hin hl hV hA
  have hx := hB.1
  have hb := hB.2.1
  have hl : lv_has ls 1 [(0, .ref h)] := hl
  refine lv_aload_n hx hb dX6_worst_0 rfl (lv_at hl 0 rfl) ?_
  refine x_get (v := .ref jd) hB hV 0 rfl rfl 4 (by decide) k_312 rfl dX6_worst_1 ?_
  refine lv_aload_n hx hb dX6_worst_4 rfl (lv_at hl 0 rfl) ?_
  refine x_get (v := .ref nw) hB hV 0 rfl rfl 1 (by decide) k_309 rfl dX6_worst_5 ?_
  refine x_callV (n := 1) (wr := [(h, .inr (6, [.ref tp, .ref nw, .ref rw, .ref lg, .ref jd, .ref pr, .int 0])), (rw, .inr (0, [.ref r1, .ref r2, .ref r3, .int 0])), (s2, .inr (5, [.ref s6, .int 0, .int 0, .ref s7, .int 0, .int 0, .int 0, .int 0])), (s3, .inr (5, [.ref s8, .int 0, .int 0, .ref s9, .int 0, .int 0, .int 0, .int 0]))]) (q0 := 3) (As := [.ref nw]) (rest := []) hB hV (x_N hB) hl.1 (c_beginAt l D cI cZ cS N0 jd s1 s2 s3 s4 s5 0 0 0 0 b1 b2 b3 b4 b5 b6 nw n1 n2 ) rfl rfl k_581 k_64 k_578 k_579 k_580 (by decide +kernel) ⟨(Nat.le_of_ble_eq_true rfl), (Nat.le_of_ble_eq_true rfl)⟩ rfl (Nat.le_of_ble_eq_true rfl) ⟨(Nat.le_of_ble_eq_true rfl), (Nat.le_of_ble_eq_true rfl)⟩ [3, 4, 1] [0, 2, 5, 6] rfl rfl rfl ⟨by decide, by decide, by decide⟩ dX6_worst_8 (fun v w H locs hp hV => ?_)
  obtain ⟨rfl, rfl⟩ := hp
  have hV : Vx D A s.heap H locs [(h, .inr (6, [.ref tp, .ref nw, .ref rw, .ref lg, .ref jd, .ref pr, .int 0])), (rw, .inr (0, [.ref r1, .ref r2, .ref r3, .int 0])), (s2, .inr (5, [.ref s6, .int 0, .int 0, .ref s7, .int 0, .int 0, .int 0, .int 0])), (s3, .inr (5, [.ref s8, .int 0, .int 0, .ref s9, .int 0, .int 0, .int 0, .int 0])), (jd, .inr (1, [.ref s1, .ref s2, .ref s3, .ref b1, .ref b2, .ref b3, .int 0, .ref b4, .ref b5, .ref b6])), (s1, .inr (5, [.ref s4, .int 0, .int 0, .ref s5, .int 0, .int 0, .int 0, .int 0])), (nw, .inr (5, [.ref n1, .int 0, .int 0, .ref n2, .int 0, .int 0, .int 0, .int 0]))] := hV
  refine W.eq (g2 := F0 m 11 ls []) rfl ?_
  refine lv_aload_n hx hb dX6_worst_11 rfl (lv_at hl 0 rfl) ?_
  refine x_get (v := .ref jd) hB hV 0 rfl rfl 4 (by decide) k_312 rfl dX6_worst_12 ?_
  refine lv_aload_n hx hb dX6_worst_15 rfl (lv_at hl 0 rfl) ?_
  refine x_get (v := .ref rw) hB hV 0 rfl rfl 2 (by decide) k_310 rfl dX6_worst_16 ?_
  refine lv_aload_n hx hb dX6_worst_19 rfl (lv_at hl 0 rfl) ?_
  refine x_get (v := .int 0) hB hV 0 rfl rfl 6 (by decide) k_314 rfl dX6_worst_20 ?_
  refine x_callV (n := 2) (wr := [(h, .inr (6, [.ref tp, .ref nw, .ref rw, .ref lg, .ref jd, .ref pr, .int 0])), (nw, .inr (5, [.ref n1, .int 0, .int 0, .ref n2, .int 0, .int 0, .int 0, .int 0]))]) (q0 := 4) (As := [.ref rw, .int 0]) (rest := []) hB hV (x_N hB) hl.1 (c_firstUnsafe l D cI cZ cS N0 jd s1 s2 s3 s4 s5 s6 s7 s8 s9 b1 b2 b3 b4 b5 b6 rw r1 r2 r3 ) rfl rfl k_626 k_64 k_623 k_624 k_625 (by decide +kernel) ⟨(Nat.le_of_ble_eq_true rfl), (Nat.le_of_ble_eq_true rfl)⟩ rfl (Nat.le_of_ble_eq_true rfl) ⟨(Nat.le_of_ble_eq_true rfl), (Nat.le_of_ble_eq_true rfl)⟩ [4, 5, 2, 3, 1] [0, 6] rfl rfl rfl ⟨by decide, by decide, by decide⟩ dX6_worst_23 (fun v w H locs hp hV => ?_)
  obtain ⟨rfl, rfl⟩ := hp
  have hV : Vx D A s.heap H locs [(h, .inr (6, [.ref tp, .ref nw, .ref rw, .ref lg, .ref jd, .ref pr, .int 0])), (nw, .inr (5, [.ref n1, .int 0, .int 0, .ref n2, .int 0, .int 0, .int 0, .int 0])), (jd, .inr (1, [.ref s1, .ref s2, .ref s3, .ref b1, .ref b2, .ref b3, .int 0, .ref b4, .ref b5, .ref b6])), (s1, .inr (5, [.ref s4, .int 0, .int 0, .ref s5, .int 0, .int 0, .int 0, .int 0])), (s2, .inr (5, [.ref s6, .int 0, .int 0, .ref s7, .int 0, .int 0, .int 0, .int 0])), (s3, .inr (5, [.ref s8, .int 0, .int 0, .ref s9, .int 0, .int 0, .int 0, .int 0])), (rw, .inr (0, [.ref r1, .ref r2, .ref r3, .int 0]))] := hV
  refine W.eq (g2 := F0 m 26 ls [.int (-1)]) rfl ?_
  exact x_iret (w := []) hB hr hV hA (Nat.le_of_ble_eq_true rfl) (Nat.le_of_ble_eq_true rfl) [] rfl rfl (by decide) dX6_worst_26 ⟨rfl, rfl⟩
set_option maxHeartbeats 4000000 in
set_option maxRecDepth 100000 in
theorem p_enough (l : Launch) (D : va_G) (cI cZ cS : ClassId) (N0 : NT) (h : Nat) (tp : Nat) (nw : Nat) (rw : Nat) (lg : Nat) (jd : Nat) (pr : Nat) (n1 : Nat) (n2 : Nat) (r1 : Nat) (r2 : Nat) (r3 : Nat) (s1 : Nat) (s2 : Nat) (s3 : Nat) (s4 : Nat) (s5 : Nat) (s6 : Nat) (s7 : Nat) (s8 : Nat) (s9 : Nat) (b1 : Nat) (b2 : Nat) (b3 : Nat) (b4 : Nat) (b5 : Nat) (b6 : Nat)  : Mx l D cI cZ cS N0 yX6_enough cX6_enough 2 (some .int) 4 0 0 [.ref h] [(h, .inr (6, [.ref tp, .ref nw, .ref rw, .ref lg, .ref jd, .ref pr, .int 0])), (nw, .inr (5, [.ref n1, .int 0, .int 0, .ref n2, .int 0, .int 0, .int 0, .int 0])), (rw, .inr (0, [.ref r1, .ref r2, .ref r3, .int 0])), (jd, .inr (1, [.ref s1, .ref s2, .ref s3, .ref b1, .ref b2, .ref b3, .int 0, .ref b4, .ref b5, .ref b6])), (s1, .inr (5, [.ref s4, .int 0, .int 0, .ref s5, .int 0, .int 0, .int 0, .int 0])), (s2, .inr (5, [.ref s6, .int 0, .int 0, .ref s7, .int 0, .int 0, .int 0, .int 0])), (s3, .inr (5, [.ref s8, .int 0, .int 0, .ref s9, .int 0, .int 0, .int 0, .int 0]))] (fun v w => v = some (.int 0) ∧ w = ([] : va_W)) := by
  refine x_enter (by decide) (Nat.le_of_ble_eq_true rfl) ?_
  intro p e s m args below meth c A ls H locs hB hr hin hl hV hA
  have hx := hB.1
  have hb := hB.2.1
  have hl : lv_has ls 2 [(0, .ref h)] := hl
  refine lv_iconst (v := 0) hx hb dX6_enough_0 (by decide) ?_
  refine lv_istore_n (lv' := [(1, .int 0), (0, .ref h)]) hx hb dX6_enough_1 rfl hl (by decide) rfl (fun ls hl => ?_)
  refine lv_iload_n hx hb dX6_enough_2 rfl (lv_at hl 0 rfl) ?_
  refine lv_bipush (v := 20) hx hb dX6_enough_3 (by decide) ?_
  refine lv_icmp_gt (tgt := 57) hx hb dX6_enough_5 (by decide) (fun c_ => absurd c_ (by decide)) (fun c_ => ?_)
  refine lv_aload_n hx hb dX6_enough_8 rfl (lv_at hl 1 rfl) ?_
  refine x_get (v := .ref jd) hB hV 0 rfl rfl 4 (by decide) k_312 rfl dX6_enough_9 ?_
  refine lv_aload_n hx hb dX6_enough_12 rfl (lv_at hl 1 rfl) ?_
  refine x_get (v := .ref nw) hB hV 0 rfl rfl 1 (by decide) k_309 rfl dX6_enough_13 ?_
  refine x_callV (n := 1) (wr := [(h, .inr (6, [.ref tp, .ref nw, .ref rw, .ref lg, .ref jd, .ref pr, .int 0])), (rw, .inr (0, [.ref r1, .ref r2, .ref r3, .int 0])), (s2, .inr (5, [.ref s6, .int 0, .int 0, .ref s7, .int 0, .int 0, .int 0, .int 0])), (s3, .inr (5, [.ref s8, .int 0, .int 0, .ref s9, .int 0, .int 0, .int 0, .int 0]))]) (q0 := 3) (As := [.ref nw]) (rest := []) hB hV (x_N hB) hl.1 (c_beginAt l D cI cZ cS N0 jd s1 s2 s3 s4 s5 0 0 0 0 b1 b2 b3 b4 b5 b6 nw n1 n2 ) rfl rfl k_581 k_64 k_578 k_579 k_580 (by decide +kernel) ⟨(Nat.le_of_ble_eq_true rfl), (Nat.le_of_ble_eq_true rfl)⟩ rfl (Nat.le_of_ble_eq_true rfl) ⟨(Nat.le_of_ble_eq_true rfl), (Nat.le_of_ble_eq_true rfl)⟩ [3, 4, 1] [0, 2, 5, 6] rfl rfl rfl ⟨by decide, by decide, by decide⟩ dX6_enough_16 (fun v w H locs hp hV => ?_)
  obtain ⟨rfl, rfl⟩ := hp
  have hV : Vx D A s.heap H locs [(h, .inr (6, [.ref tp, .ref nw, .ref rw, .ref lg, .ref jd, .ref pr, .int 0])), (rw, .inr (0, [.ref r1, .ref r2, .ref r3, .int 0])), (s2, .inr (5, [.ref s6, .int 0, .int 0, .ref s7, .int 0, .int 0, .int 0, .int 0])), (s3, .inr (5, [.ref s8, .int 0, .int 0, .ref s9, .int 0, .int 0, .int 0, .int 0])), (jd, .inr (1, [.ref s1, .ref s2, .ref s3, .ref b1, .ref b2, .ref b3, .int 0, .ref b4, .ref b5, .ref b6])), (s1, .inr (5, [.ref s4, .int 0, .int 0, .ref s5, .int 0, .int 0, .int 0, .int 0])), (nw, .inr (5, [.ref n1, .int 0, .int 0, .ref n2, .int 0, .int 0, .int 0, .int 0]))] := hV
  refine W.eq (g2 := F0 m 19 ls []) rfl ?_
  refine lv_aload_n hx hb dX6_enough_19 rfl (lv_at hl 1 rfl) ?_
  refine x_get (v := .ref jd) hB hV 0 rfl rfl 4 (by decide) k_312 rfl dX6_enough_20 ?_
  refine x_get (v := .ref s1) hB hV 4 rfl rfl 0 (by decide) k_277 rfl dX6_enough_23 ?_
  refine lv_iload_n hx hb dX6_enough_26 rfl (lv_at hl 0 rfl) ?_
  refine x_callV (n := 1) (wr := [(h, .inr (6, [.ref tp, .ref nw, .ref rw, .ref lg, .ref jd, .ref pr, .int 0])), (rw, .inr (0, [.ref r1, .ref r2, .ref r3, .int 0])), (s2, .inr (5, [.ref s6, .int 0, .int 0, .ref s7, .int 0, .int 0, .int 0, .int 0])), (s3, .inr (5, [.ref s8, .int 0, .int 0, .ref s9, .int 0, .int 0, .int 0, .int 0])), (jd, .inr (1, [.ref s1, .ref s2, .ref s3, .ref b1, .ref b2, .ref b3, .int 0, .ref b4, .ref b5, .ref b6])), (nw, .inr (5, [.ref n1, .int 0, .int 0, .ref n2, .int 0, .int 0, .int 0, .int 0]))]) (q0 := 5) (As := [.int 0]) (rest := []) hB hV (x_N hB) hl.1 (c_holdAll l D cI cZ cS N0 s1 s4 s5 0 ) rfl rfl k_672 k_59 k_669 k_670 k_671 (by decide +kernel) ⟨(Nat.le_of_ble_eq_true rfl), (Nat.le_of_ble_eq_true rfl)⟩ rfl (Nat.le_of_ble_eq_true rfl) ⟨(Nat.le_of_ble_eq_true rfl), (Nat.le_of_ble_eq_true rfl)⟩ [5] [0, 1, 2, 3, 4, 6] rfl rfl rfl ⟨by decide, by decide, by decide⟩ dX6_enough_27 (fun v w H locs hp hV => ?_)
  obtain ⟨rfl, rfl⟩ := hp
  have hV : Vx D A s.heap H locs [(h, .inr (6, [.ref tp, .ref nw, .ref rw, .ref lg, .ref jd, .ref pr, .int 0])), (rw, .inr (0, [.ref r1, .ref r2, .ref r3, .int 0])), (s2, .inr (5, [.ref s6, .int 0, .int 0, .ref s7, .int 0, .int 0, .int 0, .int 0])), (s3, .inr (5, [.ref s8, .int 0, .int 0, .ref s9, .int 0, .int 0, .int 0, .int 0])), (jd, .inr (1, [.ref s1, .ref s2, .ref s3, .ref b1, .ref b2, .ref b3, .int 0, .ref b4, .ref b5, .ref b6])), (nw, .inr (5, [.ref n1, .int 0, .int 0, .ref n2, .int 0, .int 0, .int 0, .int 0])), (s1, .inr (5, [.ref s4, .int 0, .int 0, .ref s5, .int 0, .int 0, .int 0, .int 0]))] := hV
  refine W.eq (g2 := F0 m 30 ls []) rfl ?_
  refine lv_aload_n hx hb dX6_enough_30 rfl (lv_at hl 1 rfl) ?_
  refine x_get (v := .ref jd) hB hV 0 rfl rfl 4 (by decide) k_312 rfl dX6_enough_31 ?_
  refine lv_aload_n hx hb dX6_enough_34 rfl (lv_at hl 1 rfl) ?_
  refine x_get (v := .ref rw) hB hV 0 rfl rfl 2 (by decide) k_310 rfl dX6_enough_35 ?_
  refine lv_aload_n hx hb dX6_enough_38 rfl (lv_at hl 1 rfl) ?_
  refine x_get (v := .int 0) hB hV 0 rfl rfl 6 (by decide) k_314 rfl dX6_enough_39 ?_
  refine x_callV (n := 2) (wr := [(h, .inr (6, [.ref tp, .ref nw, .ref rw, .ref lg, .ref jd, .ref pr, .int 0])), (nw, .inr (5, [.ref n1, .int 0, .int 0, .ref n2, .int 0, .int 0, .int 0, .int 0]))]) (q0 := 4) (As := [.ref rw, .int 0]) (rest := []) hB hV (x_N hB) hl.1 (c_firstUnsafe l D cI cZ cS N0 jd s1 s2 s3 s4 s5 s6 s7 s8 s9 b1 b2 b3 b4 b5 b6 rw r1 r2 r3 ) rfl rfl k_626 k_64 k_623 k_624 k_625 (by decide +kernel) ⟨(Nat.le_of_ble_eq_true rfl), (Nat.le_of_ble_eq_true rfl)⟩ rfl (Nat.le_of_ble_eq_true rfl) ⟨(Nat.le_of_ble_eq_true rfl), (Nat.le_of_ble_eq_true rfl)⟩ [4, 6, 2, 3, 1] [0, 5] rfl rfl rfl ⟨by decide, by decide, by decide⟩ dX6_enough_42 (fun v w H locs hp hV => ?_)
  obtain ⟨rfl, rfl⟩ := hp
  have hV : Vx D A s.heap H locs [(h, .inr (6, [.ref tp, .ref nw, .ref rw, .ref lg, .ref jd, .ref pr, .int 0])), (nw, .inr (5, [.ref n1, .int 0, .int 0, .ref n2, .int 0, .int 0, .int 0, .int 0])), (jd, .inr (1, [.ref s1, .ref s2, .ref s3, .ref b1, .ref b2, .ref b3, .int 0, .ref b4, .ref b5, .ref b6])), (s1, .inr (5, [.ref s4, .int 0, .int 0, .ref s5, .int 0, .int 0, .int 0, .int 0])), (s2, .inr (5, [.ref s6, .int 0, .int 0, .ref s7, .int 0, .int 0, .int 0, .int 0])), (s3, .inr (5, [.ref s8, .int 0, .int 0, .ref s9, .int 0, .int 0, .int 0, .int 0])), (rw, .inr (0, [.ref r1, .ref r2, .ref r3, .int 0]))] := hV
  refine W.eq (g2 := F0 m 45 ls [.int (-1)]) rfl ?_
  refine lv_iconst (v := (-1)) hx hb dX6_enough_45 (by decide) ?_
  refine lv_icmp_ne (tgt := 51) hx hb dX6_enough_46 (by decide) (fun c_ => absurd (by decide) c_) (fun c_ => ?_)
  refine lv_iload_n hx hb dX6_enough_49 rfl (lv_at hl 0 rfl) ?_
  exact x_iret (w := []) hB hr hV hA (Nat.le_of_ble_eq_true rfl) (Nat.le_of_ble_eq_true rfl) [] rfl rfl (by decide) dX6_enough_50 ⟨rfl, rfl⟩
set_option maxHeartbeats 4000000 in
set_option maxRecDepth 100000 in
theorem p_again (l : Launch) (D : va_G) (cI cZ cS : ClassId) (N0 : NT) (h : Nat) (tp : Nat) (nw : Nat) (rw : Nat) (lg : Nat) (jd : Nat) (pr : Nat) (n1 : Nat) (n2 : Nat) (l1 : Nat) (l2 : Nat) (l3 : Nat) (s1 : Nat) (s2 : Nat) (s3 : Nat) (s4 : Nat) (s5 : Nat) (s6 : Nat) (s7 : Nat) (s8 : Nat) (s9 : Nat) (b1 : Nat) (b2 : Nat) (b3 : Nat) (b4 : Nat) (b5 : Nat) (b6 : Nat)  : Mx l D cI cZ cS N0 yX6_again cX6_again 1 (some .int) 4 0 0 [.ref h] [(h, .inr (6, [.ref tp, .ref nw, .ref rw, .ref lg, .ref jd, .ref pr, .int 0])), (nw, .inr (5, [.ref n1, .int 0, .int 0, .ref n2, .int 0, .int 0, .int 0, .int 0])), (lg, .inr (0, [.ref l1, .ref l2, .ref l3, .int 0])), (jd, .inr (1, [.ref s1, .ref s2, .ref s3, .ref b1, .ref b2, .ref b3, .int 0, .ref b4, .ref b5, .ref b6])), (s1, .inr (5, [.ref s4, .int 0, .int 0, .ref s5, .int 0, .int 0, .int 0, .int 0])), (s2, .inr (5, [.ref s6, .int 0, .int 0, .ref s7, .int 0, .int 0, .int 0, .int 0])), (s3, .inr (5, [.ref s8, .int 0, .int 0, .ref s9, .int 0, .int 0, .int 0, .int 0]))] (fun v w => v = some (.int 1) ∧ w = ([] : va_W)) := by
  refine x_enter (by decide) (Nat.le_of_ble_eq_true rfl) ?_
  intro p e s m args below meth c A ls H locs hB hr hin hl hV hA
  have hx := hB.1
  have hb := hB.2.1
  have hl : lv_has ls 1 [(0, .ref h)] := hl
  refine lv_aload_n hx hb dX6_again_0 rfl (lv_at hl 0 rfl) ?_
  refine x_get (v := .ref jd) hB hV 0 rfl rfl 4 (by decide) k_312 rfl dX6_again_1 ?_
  refine lv_aload_n hx hb dX6_again_4 rfl (lv_at hl 0 rfl) ?_
  refine x_get (v := .ref nw) hB hV 0 rfl rfl 1 (by decide) k_309 rfl dX6_again_5 ?_
  refine x_callV (n := 1) (wr := [(h, .inr (6, [.ref tp, .ref nw, .ref rw, .ref lg, .ref jd, .ref pr, .int 0])), (lg, .inr (0, [.ref l1, .ref l2, .ref l3, .int 0])), (s2, .inr (5, [.ref s6, .int 0, .int 0, .ref s7, .int 0, .int 0, .int 0, .int 0])), (s3, .inr (5, [.ref s8, .int 0, .int 0, .ref s9, .int 0, .int 0, .int 0, .int 0]))]) (q0 := 3) (As := [.ref nw]) (rest := []) hB hV (x_N hB) hl.1 (c_beginAt l D cI cZ cS N0 jd s1 s2 s3 s4 s5 0 0 0 0 b1 b2 b3 b4 b5 b6 nw n1 n2 ) rfl rfl k_581 k_64 k_578 k_579 k_580 (by decide +kernel) ⟨(Nat.le_of_ble_eq_true rfl), (Nat.le_of_ble_eq_true rfl)⟩ rfl (Nat.le_of_ble_eq_true rfl) ⟨(Nat.le_of_ble_eq_true rfl), (Nat.le_of_ble_eq_true rfl)⟩ [3, 4, 1] [0, 2, 5, 6] rfl rfl rfl ⟨by decide, by decide, by decide⟩ dX6_again_8 (fun v w H locs hp hV => ?_)
  obtain ⟨rfl, rfl⟩ := hp
  have hV : Vx D A s.heap H locs [(h, .inr (6, [.ref tp, .ref nw, .ref rw, .ref lg, .ref jd, .ref pr, .int 0])), (lg, .inr (0, [.ref l1, .ref l2, .ref l3, .int 0])), (s2, .inr (5, [.ref s6, .int 0, .int 0, .ref s7, .int 0, .int 0, .int 0, .int 0])), (s3, .inr (5, [.ref s8, .int 0, .int 0, .ref s9, .int 0, .int 0, .int 0, .int 0])), (jd, .inr (1, [.ref s1, .ref s2, .ref s3, .ref b1, .ref b2, .ref b3, .int 0, .ref b4, .ref b5, .ref b6])), (s1, .inr (5, [.ref s4, .int 0, .int 0, .ref s5, .int 0, .int 0, .int 0, .int 0])), (nw, .inr (5, [.ref n1, .int 0, .int 0, .ref n2, .int 0, .int 0, .int 0, .int 0]))] := hV
  refine W.eq (g2 := F0 m 11 ls []) rfl ?_
  refine lv_aload_n hx hb dX6_again_11 rfl (lv_at hl 0 rfl) ?_
  refine x_get (v := .ref jd) hB hV 0 rfl rfl 4 (by decide) k_312 rfl dX6_again_12 ?_
  refine lv_aload_n hx hb dX6_again_15 rfl (lv_at hl 0 rfl) ?_
  refine x_get (v := .ref lg) hB hV 0 rfl rfl 3 (by decide) k_311 rfl dX6_again_16 ?_
  refine x_callV (n := 1) (wr := [(h, .inr (6, [.ref tp, .ref nw, .ref rw, .ref lg, .ref jd, .ref pr, .int 0])), (nw, .inr (5, [.ref n1, .int 0, .int 0, .ref n2, .int 0, .int 0, .int 0, .int 0]))]) (q0 := 4) (As := [.ref lg]) (rest := []) hB hV (x_N hB) hl.1 (c_isStill l D cI cZ cS N0 jd s1 s2 s3 s4 s5 s6 s7 s8 s9 b1 b2 b3 b4 b5 b6 lg l1 l2 l3 ) rfl rfl k_718 k_64 k_715 k_716 k_717 (by decide +kernel) ⟨(Nat.le_of_ble_eq_true rfl), (Nat.le_of_ble_eq_true rfl)⟩ rfl (Nat.le_of_ble_eq_true rfl) ⟨(Nat.le_of_ble_eq_true rfl), (Nat.le_of_ble_eq_true rfl)⟩ [4, 5, 2, 3, 1] [0, 6] rfl rfl rfl ⟨by decide, by decide, by decide⟩ dX6_again_19 (fun v w H locs hp hV => ?_)
  obtain ⟨rfl, rfl⟩ := hp
  have hV : Vx D A s.heap H locs [(h, .inr (6, [.ref tp, .ref nw, .ref rw, .ref lg, .ref jd, .ref pr, .int 0])), (nw, .inr (5, [.ref n1, .int 0, .int 0, .ref n2, .int 0, .int 0, .int 0, .int 0])), (jd, .inr (1, [.ref s1, .ref s2, .ref s3, .ref b1, .ref b2, .ref b3, .int 0, .ref b4, .ref b5, .ref b6])), (s1, .inr (5, [.ref s4, .int 0, .int 0, .ref s5, .int 0, .int 0, .int 0, .int 0])), (s2, .inr (5, [.ref s6, .int 0, .int 0, .ref s7, .int 0, .int 0, .int 0, .int 0])), (s3, .inr (5, [.ref s8, .int 0, .int 0, .ref s9, .int 0, .int 0, .int 0, .int 0])), (lg, .inr (0, [.ref l1, .ref l2, .ref l3, .int 0]))] := hV
  refine W.eq (g2 := F0 m 22 ls [.int 1]) rfl ?_
  refine lv_if_eq (tgt := 29) hx hb dX6_again_22 (by decide) (fun c_ => absurd c_ (by decide)) (fun c_ => ?_)
  refine lv_iconst (v := 1) hx hb dX6_again_25 (by decide) ?_
  refine lv_goto (tgt := 30) hx hb dX6_again_26 (by decide) ?_
  exact x_iret (w := []) hB hr hV hA (Nat.le_of_ble_eq_true rfl) (Nat.le_of_ble_eq_true rfl) [] rfl rfl (by decide) dX6_again_30 ⟨rfl, rfl⟩
set_option maxHeartbeats 4000000 in
set_option maxRecDepth 100000 in
theorem p_reset (l : Launch) (D : va_G) (cI cZ cS : ClassId) (N0 : NT) (h : Nat) (tp : Nat) (nw : Nat) (rw : Nat) (lg : Nat) (jd : Nat) (pr : Nat) (n1 : Nat) (n2 : Nat) (l1 : Nat) (l2 : Nat) (l3 : Nat)  : Mx l D cI cZ cS N0 yX6_reset cX6_reset 2 (some .int) 2 0 0 [.ref h] [(h, .inr (6, [.ref tp, .ref nw, .ref rw, .ref lg, .ref jd, .ref pr, .int 0])), (nw, .inr (5, [.ref n1, .int 0, .int 0, .ref n2, .int 0, .int 0, .int 0, .int 0])), (lg, .inr (0, [.ref l1, .ref l2, .ref l3, .int 0]))] (fun v w => v = some (.int 0) ∧ w = ([] : va_W)) := by
  refine x_enter (by decide) (Nat.le_of_ble_eq_true rfl) ?_
  intro p e s m args below meth c A ls H locs hB hr hin hl hV hA
  have hx := hB.1
  have hb := hB.2.1
  have hl : lv_has ls 2 [(0, .ref h)] := hl
  refine lv_aload_n hx hb dX6_reset_0 rfl (lv_at hl 0 rfl) ?_
  refine x_get (v := .ref lg) hB hV 0 rfl rfl 3 (by decide) k_311 rfl dX6_reset_1 ?_
  refine x_get (v := .int 0) hB hV 2 rfl rfl 3 (by decide) k_256 rfl dX6_reset_4 ?_
  refine lv_istore_n (lv' := [(1, .int 0), (0, .ref h)]) hx hb dX6_reset_7 rfl hl (by decide) rfl (fun ls hl => ?_)
  refine lv_aload_n hx hb dX6_reset_8 rfl (lv_at hl 1 rfl) ?_
  refine x_get (v := .ref lg) hB hV 0 rfl rfl 3 (by decide) k_311 rfl dX6_reset_9 ?_
  refine lv_iconst (v := 0) hx hb dX6_reset_12 (by decide) ?_
  refine x_put (v := .int 0) hB hV 2 rfl rfl 3 (by decide) k_256 rfl rfl rfl (Nat.le_of_ble_eq_true rfl) dX6_reset_13 (fun H locs hV => ?_)
  have hV : Vx D A s.heap H locs [(h, .inr (6, [.ref tp, .ref nw, .ref rw, .ref lg, .ref jd, .ref pr, .int 0])), (nw, .inr (5, [.ref n1, .int 0, .int 0, .ref n2, .int 0, .int 0, .int 0, .int 0])), (lg, .inr (0, [.ref l1, .ref l2, .ref l3, .int 0]))] := hV
  refine lv_aload_n hx hb dX6_reset_16 rfl (lv_at hl 1 rfl) ?_
  refine x_get (v := .ref nw) hB hV 0 rfl rfl 1 (by decide) k_309 rfl dX6_reset_17 ?_
  refine x_callV (n := 0) (wr := [(h, .inr (6, [.ref tp, .ref nw, .ref rw, .ref lg, .ref jd, .ref pr, .int 0])), (lg, .inr (0, [.ref l1, .ref l2, .ref l3, .int 0]))]) (q0 := 1) (As := []) (rest := []) hB hV (x_N hB) hl.1 (c_makeFresh l D cI cZ cS N0 nw n1 n2 ) rfl rfl k_730 k_59 k_727 k_728 k_729 (by decide +kernel) ⟨(Nat.le_of_ble_eq_true rfl), (Nat.le_of_ble_eq_true rfl)⟩ rfl (Nat.le_of_ble_eq_true rfl) ⟨(Nat.le_of_ble_eq_true rfl), (Nat.le_of_ble_eq_true rfl)⟩ [1] [0, 2] rfl rfl rfl ⟨by decide, by decide, by decide⟩ dX6_reset_20 (fun v w H locs hp hV => ?_)
  obtain ⟨rfl, rfl⟩ := hp
  have hV : Vx D A s.heap H locs [(h, .inr (6, [.ref tp, .ref nw, .ref rw, .ref lg, .ref jd, .ref pr, .int 0])), (lg, .inr (0, [.ref l1, .ref l2, .ref l3, .int 0])), (nw, .inr (5, [.ref n1, .int 0, .int 0, .ref n2, .int 0, .int 0, .int 0, .int 0]))] := hV
  refine W.eq (g2 := F0 m 23 ls []) rfl ?_
  refine lv_iload_n hx hb dX6_reset_23 rfl (lv_at hl 0 rfl) ?_
  exact x_iret (w := []) hB hr hV hA (Nat.le_of_ble_eq_true rfl) (Nat.le_of_ble_eq_true rfl) [] rfl rfl (by decide) dX6_reset_24 ⟨rfl, rfl⟩
set_option maxHeartbeats 4000000 in
set_option maxRecDepth 100000 in
theorem p_price (l : Launch) (D : va_G) (cI cZ cS : ClassId) (N0 : NT) (h : Nat) (tp : Nat) (nw : Nat) (rw : Nat) (lg : Nat) (jd : Nat) (pr : Nat) (x1 : Int32) (x2 : Int32)  : Mx l D cI cZ cS N0 yX6_price cX6_price 4 (some .int) 1 0 0 [.ref h, .int x1, .int x2] [(h, .inr (6, [.ref tp, .ref nw, .ref rw, .ref lg, .ref jd, .ref pr, .int 0])), (pr, .inl (cI, 4, .inl (upd (upd (upd (upd (fun _ => 0) 0 1) 1 1) 2 1) 3 1)))] (fun v w => ∃ (r : Int32), v = some (.int r) ∧ w = ([] : va_W) ∧ (r = sp_price x1 x2)) := by
  refine x_enter (by decide) (Nat.le_of_ble_eq_true rfl) ?_
  intro p e s m args below meth c A ls H locs hB hr hin hl hV hA
  have hx := hB.1
  have hb := hB.2.1
  have hl : lv_has ls 4 [(0, .ref h), (1, .int x1), (2, .int x2)] := hl
  refine lv_iload_n hx hb dX6_price_0 rfl (lv_at hl 1 rfl) ?_
  refine lv_iconst (v := 3) hx hb dX6_price_1 (by decide) ?_
  refine x_callS (n := 2) (wr := [(h, .inr (6, [.ref tp, .ref nw, .ref rw, .ref lg, .ref jd, .ref pr, .int 0])), (pr, .inl (cI, 4, .inl (upd (upd (upd (upd (fun _ => 0) 0 1) 1 1) 2 1) 3 1)))]) (As := [.int x1, .int 3]) (rest := []) hB hV (x_N hB) hl.1 (c_within l D cI cZ cS N0 x1 3 ) k_415 k_57 k_441 k_414 (by decide +kernel) ⟨(Nat.le_of_ble_eq_true rfl), (Nat.le_of_ble_eq_true rfl)⟩ rfl (Nat.le_of_ble_eq_true rfl) ⟨(Nat.le_of_ble_eq_true rfl), (Nat.le_of_ble_eq_true rfl)⟩ [] [0, 1] rfl rfl rfl ⟨by decide, by decide, by decide⟩ dX6_price_2 (fun v w H locs hp hV => ?_)
  obtain ⟨r_1, rfl, rfl, f_2⟩ := hp
  have hV : Vx D A s.heap H locs [(h, .inr (6, [.ref tp, .ref nw, .ref rw, .ref lg, .ref jd, .ref pr, .int 0])), (pr, .inl (cI, 4, .inl (upd (upd (upd (upd (fun _ => 0) 0 1) 1 1) 2 1) 3 1)))] := hV
  refine W.eq (g2 := F0 m 5 ls [.int r_1]) rfl ?_
  rcases f_2 with ⟨rfl, hw_3⟩ | ⟨rfl, hw_3⟩
  · refine W.eq (g2 := F0 m 5 ls [.int 1]) rfl ?_
    refine lv_if_ne (tgt := 10) hx hb dX6_price_5 (by decide) (fun c_ => ?_) (fun c_ => absurd c_ (by decide))
    refine lv_iload_n hx hb dX6_price_10 rfl (lv_at hl 2 rfl) ?_
    refine lv_bipush (v := 99) hx hb dX6_price_11 (by decide) ?_
    refine x_callS (n := 2) (wr := [(h, .inr (6, [.ref tp, .ref nw, .ref rw, .ref lg, .ref jd, .ref pr, .int 0])), (pr, .inl (cI, 4, .inl (upd (upd (upd (upd (fun _ => 0) 0 1) 1 1) 2 1) 3 1)))]) (As := [.int x2, .int 99]) (rest := []) hB hV (x_N hB) hl.1 (c_within l D cI cZ cS N0 x2 99 ) k_415 k_57 k_441 k_414 (by decide +kernel) ⟨(Nat.le_of_ble_eq_true rfl), (Nat.le_of_ble_eq_true rfl)⟩ rfl (Nat.le_of_ble_eq_true rfl) ⟨(Nat.le_of_ble_eq_true rfl), (Nat.le_of_ble_eq_true rfl)⟩ [] [0, 1] rfl rfl rfl ⟨by decide, by decide, by decide⟩ dX6_price_13 (fun v w H locs hp hV => ?_)
    obtain ⟨r_4, rfl, rfl, f_5⟩ := hp
    have hV : Vx D A s.heap H locs [(h, .inr (6, [.ref tp, .ref nw, .ref rw, .ref lg, .ref jd, .ref pr, .int 0])), (pr, .inl (cI, 4, .inl (upd (upd (upd (upd (fun _ => 0) 0 1) 1 1) 2 1) 3 1)))] := hV
    refine W.eq (g2 := F0 m 16 ls [.int r_4]) rfl ?_
    rcases f_5 with ⟨rfl, hw_6⟩ | ⟨rfl, hw_6⟩
    · refine W.eq (g2 := F0 m 16 ls [.int 1]) rfl ?_
      refine lv_if_ne (tgt := 22) hx hb dX6_price_16 (by decide) (fun c_ => ?_) (fun c_ => absurd c_ (by decide))
      obtain ⟨j, hj, rfl⟩ := sw_in (n := 4) rfl hw_3
      refine lv_aload_n hx hb dX6_price_22 rfl (lv_at hl 0 rfl) ?_
      refine x_get (v := .ref pr) hB hV 0 rfl rfl 5 (by decide) k_313 rfl dX6_price_23 ?_
      refine lv_iload_n hx hb dX6_price_26 rfl (lv_at hl 1 rfl) ?_
      refine x_iald (v := 1) hB hV 1 rfl (vp_in_nI (by omega) (by decide)) (pr_one hj) dX6_price_27 ?_
      refine lv_istore_n (lv' := [(3, .int 1), (0, .ref h), (1, .int (nI j)), (2, .int x2)]) hx hb dX6_price_28 rfl hl (by decide) rfl (fun ls hl => ?_)
      refine lv_aload_n hx hb dX6_price_29 rfl (lv_at hl 1 rfl) ?_
      refine x_get (v := .ref pr) hB hV 0 rfl rfl 5 (by decide) k_313 rfl dX6_price_30 ?_
      refine lv_iload_n hx hb dX6_price_33 rfl (lv_at hl 2 rfl) ?_
      refine lv_iload_n hx hb dX6_price_34 rfl (lv_at hl 3 rfl) ?_
      refine x_iast (g := (upd (upd (upd (upd (upd (fun _ => 0) 0 1) 1 1) 2 1) 3 1) (nI j).toNatClampNeg x2)) hB hV 1 rfl (vp_in_nI (by omega) (by decide)) rfl dX6_price_35 (fun H locs hV => ?_)
      have hV : Vx D A s.heap H locs [(h, .inr (6, [.ref tp, .ref nw, .ref rw, .ref lg, .ref jd, .ref pr, .int 0])), (pr, .inl (cI, 4, .inl (upd (upd (upd (upd (upd (fun _ => 0) 0 1) 1 1) 2 1) 3 1) (nI j).toNatClampNeg x2)))] := hV
      refine lv_iload_n hx hb dX6_price_36 rfl (lv_at hl 0 rfl) ?_
      exact x_iret (w := []) hB hr hV hA (Nat.le_of_ble_eq_true rfl) (Nat.le_of_ble_eq_true rfl) [] rfl rfl (by decide) dX6_price_37 ⟨1, rfl, rfl, ((if_neg hw_3).trans (if_neg hw_6)).symm⟩
    · refine W.eq (g2 := F0 m 16 ls [.int 0]) rfl ?_
      refine lv_if_ne (tgt := 22) hx hb dX6_price_16 (by decide) (fun c_ => absurd (by decide) c_) (fun c_ => ?_)
      refine lv_bipush (v := (-2)) hx hb dX6_price_19 (by decide) ?_
      exact x_iret (w := []) hB hr hV hA (Nat.le_of_ble_eq_true rfl) (Nat.le_of_ble_eq_true rfl) [] rfl rfl (by decide) dX6_price_21 ⟨(-2), rfl, rfl, ((if_neg hw_3).trans (if_pos hw_6)).symm⟩
  · refine W.eq (g2 := F0 m 5 ls [.int 0]) rfl ?_
    refine lv_if_ne (tgt := 10) hx hb dX6_price_5 (by decide) (fun c_ => absurd (by decide) c_) (fun c_ => ?_)
    refine lv_iconst (v := (-1)) hx hb dX6_price_8 (by decide) ?_
    exact x_iret (w := []) hB hr hV hA (Nat.le_of_ble_eq_true rfl) (Nat.le_of_ble_eq_true rfl) [] rfl rfl (by decide) dX6_price_9 ⟨(-1), rfl, rfl, (if_pos hw_3).symm⟩
set_option maxHeartbeats 4000000 in
set_option maxRecDepth 100000 in
theorem c_priceOf (l : Launch) (D : va_G) (cI cZ cS : ClassId) (N0 : NT) (h : Nat) (tp : Nat) (nw : Nat) (rw : Nat) (lg : Nat) (jd : Nat) (pr : Nat)  : Mx l D cI cZ cS N0 yX6_priceOf cX6_priceOf 4 (some .int) 1 0 0 [.ref h, .int 0] [(h, .inr (6, [.ref tp, .ref nw, .ref rw, .ref lg, .ref jd, .ref pr, .int 0]))] (fun v w => v = some (.int 0) ∧ w = ([(h, .inr (6, [.ref tp, .ref nw, .ref rw, .ref lg, .ref jd, .ref pr, .int 0]))] : va_W)) := by
  refine x_enter (by decide) (Nat.le_of_ble_eq_true rfl) ?_
  intro p e s m args below meth c A ls H locs hB hr hin hl hV hA
  have hx := hB.1
  have hb := hB.2.1
  have hl : lv_has ls 4 [(0, .ref h), (1, .int 0)] := hl
  refine lv_iconst (v := 0) hx hb dX6_priceOf_0 (by decide) ?_
  refine lv_istore_n (lv' := [(2, .int 0), (0, .ref h), (1, .int 0)]) hx hb dX6_priceOf_1 rfl hl (by decide) rfl (fun ls hl => ?_)
  refine lv_iconst (v := 0) hx hb dX6_priceOf_2 (by decide) ?_
  refine lv_istore_n (lv' := [(3, .int 0), (2, .int 0), (0, .ref h), (1, .int 0)]) hx hb dX6_priceOf_3 rfl hl (by decide) rfl (fun ls hl => ?_)
  refine lv_iload_n hx hb dX6_priceOf_4 rfl (lv_at hl 0 rfl) ?_
  refine lv_bipush (v := 24) hx hb dX6_priceOf_5 (by decide) ?_
  refine lv_icmp_ge (tgt := 36) hx hb dX6_priceOf_7 (by decide) (fun c_ => absurd c_ (by decide)) (fun c_ => ?_)
  refine lv_iload_n hx hb dX6_priceOf_10 rfl (lv_at hl 3 rfl) ?_
  refine lv_iload_n hx hb dX6_priceOf_11 rfl (lv_at hl 0 rfl) ?_
  refine lv_ishr hx hb dX6_priceOf_12 ?_
  refine x_ev (y := 0) (by decide) ?_
  refine lv_iconst (v := 1) hx hb dX6_priceOf_13 (by decide) ?_
  refine lv_iand hx hb dX6_priceOf_14 ?_
  refine x_ev (y := 0) (by decide) ?_
  refine lv_iconst (v := 1) hx hb dX6_priceOf_15 (by decide) ?_
  refine lv_icmp_ne (tgt := 30) hx hb dX6_priceOf_16 (by decide) (fun c_ => ?_) (fun c_ => absurd c_ (by decide))
  refine lv_iinc (v := 1) (lv' := [(3, .int 1), (2, .int 0), (0, .ref h), (1, .int 0)]) hx hb dX6_priceOf_30 hl (k := 0) rfl (by decide) (by decide) rfl (fun ls hl => ?_)
  refine lv_goto (tgt := 4) hx hb dX6_priceOf_33 (by decide) ?_
  refine lv_iload_n hx hb dX6_priceOf_4 rfl (lv_at hl 0 rfl) ?_
  refine lv_bipush (v := 24) hx hb dX6_priceOf_5 (by decide) ?_
  refine lv_icmp_ge (tgt := 36) hx hb dX6_priceOf_7 (by decide) (fun c_ => absurd c_ (by decide)) (fun c_ => ?_)
  refine lv_iload_n hx hb dX6_priceOf_10 rfl (lv_at hl 3 rfl) ?_
  refine lv_iload_n hx hb dX6_priceOf_11 rfl (lv_at hl 0 rfl) ?_
  refine lv_ishr hx hb dX6_priceOf_12 ?_
  refine x_ev (y := 0) (by decide) ?_
  refine lv_iconst (v := 1) hx hb dX6_priceOf_13 (by decide) ?_
  refine lv_iand hx hb dX6_priceOf_14 ?_
  refine x_ev (y := 0) (by decide) ?_
  refine lv_iconst (v := 1) hx hb dX6_priceOf_15 (by decide) ?_
  refine lv_icmp_ne (tgt := 30) hx hb dX6_priceOf_16 (by decide) (fun c_ => ?_) (fun c_ => absurd c_ (by decide))
  refine lv_iinc (v := 2) (lv' := [(3, .int 2), (2, .int 0), (0, .ref h), (1, .int 0)]) hx hb dX6_priceOf_30 hl (k := 0) rfl (by decide) (by decide) rfl (fun ls hl => ?_)
  refine lv_goto (tgt := 4) hx hb dX6_priceOf_33 (by decide) ?_
  refine lv_iload_n hx hb dX6_priceOf_4 rfl (lv_at hl 0 rfl) ?_
  refine lv_bipush (v := 24) hx hb dX6_priceOf_5 (by decide) ?_
  refine lv_icmp_ge (tgt := 36) hx hb dX6_priceOf_7 (by decide) (fun c_ => absurd c_ (by decide)) (fun c_ => ?_)
  refine lv_iload_n hx hb dX6_priceOf_10 rfl (lv_at hl 3 rfl) ?_
  refine lv_iload_n hx hb dX6_priceOf_11 rfl (lv_at hl 0 rfl) ?_
  refine lv_ishr hx hb dX6_priceOf_12 ?_
  refine x_ev (y := 0) (by decide) ?_
  refine lv_iconst (v := 1) hx hb dX6_priceOf_13 (by decide) ?_
  refine lv_iand hx hb dX6_priceOf_14 ?_
  refine x_ev (y := 0) (by decide) ?_
  refine lv_iconst (v := 1) hx hb dX6_priceOf_15 (by decide) ?_
  refine lv_icmp_ne (tgt := 30) hx hb dX6_priceOf_16 (by decide) (fun c_ => ?_) (fun c_ => absurd c_ (by decide))
  refine lv_iinc (v := 3) (lv' := [(3, .int 3), (2, .int 0), (0, .ref h), (1, .int 0)]) hx hb dX6_priceOf_30 hl (k := 0) rfl (by decide) (by decide) rfl (fun ls hl => ?_)
  refine lv_goto (tgt := 4) hx hb dX6_priceOf_33 (by decide) ?_
  refine lv_iload_n hx hb dX6_priceOf_4 rfl (lv_at hl 0 rfl) ?_
  refine lv_bipush (v := 24) hx hb dX6_priceOf_5 (by decide) ?_
  refine lv_icmp_ge (tgt := 36) hx hb dX6_priceOf_7 (by decide) (fun c_ => absurd c_ (by decide)) (fun c_ => ?_)
  refine lv_iload_n hx hb dX6_priceOf_10 rfl (lv_at hl 3 rfl) ?_
  refine lv_iload_n hx hb dX6_priceOf_11 rfl (lv_at hl 0 rfl) ?_
  refine lv_ishr hx hb dX6_priceOf_12 ?_
  refine x_ev (y := 0) (by decide) ?_
  refine lv_iconst (v := 1) hx hb dX6_priceOf_13 (by decide) ?_
  refine lv_iand hx hb dX6_priceOf_14 ?_
  refine x_ev (y := 0) (by decide) ?_
  refine lv_iconst (v := 1) hx hb dX6_priceOf_15 (by decide) ?_
  refine lv_icmp_ne (tgt := 30) hx hb dX6_priceOf_16 (by decide) (fun c_ => ?_) (fun c_ => absurd c_ (by decide))
  refine lv_iinc (v := 4) (lv' := [(3, .int 4), (2, .int 0), (0, .ref h), (1, .int 0)]) hx hb dX6_priceOf_30 hl (k := 0) rfl (by decide) (by decide) rfl (fun ls hl => ?_)
  refine lv_goto (tgt := 4) hx hb dX6_priceOf_33 (by decide) ?_
  refine lv_iload_n hx hb dX6_priceOf_4 rfl (lv_at hl 0 rfl) ?_
  refine lv_bipush (v := 24) hx hb dX6_priceOf_5 (by decide) ?_
  refine lv_icmp_ge (tgt := 36) hx hb dX6_priceOf_7 (by decide) (fun c_ => absurd c_ (by decide)) (fun c_ => ?_)
  refine lv_iload_n hx hb dX6_priceOf_10 rfl (lv_at hl 3 rfl) ?_
  refine lv_iload_n hx hb dX6_priceOf_11 rfl (lv_at hl 0 rfl) ?_
  refine lv_ishr hx hb dX6_priceOf_12 ?_
  refine x_ev (y := 0) (by decide) ?_
  refine lv_iconst (v := 1) hx hb dX6_priceOf_13 (by decide) ?_
  refine lv_iand hx hb dX6_priceOf_14 ?_
  refine x_ev (y := 0) (by decide) ?_
  refine lv_iconst (v := 1) hx hb dX6_priceOf_15 (by decide) ?_
  refine lv_icmp_ne (tgt := 30) hx hb dX6_priceOf_16 (by decide) (fun c_ => ?_) (fun c_ => absurd c_ (by decide))
  refine lv_iinc (v := 5) (lv' := [(3, .int 5), (2, .int 0), (0, .ref h), (1, .int 0)]) hx hb dX6_priceOf_30 hl (k := 0) rfl (by decide) (by decide) rfl (fun ls hl => ?_)
  refine lv_goto (tgt := 4) hx hb dX6_priceOf_33 (by decide) ?_
  refine lv_iload_n hx hb dX6_priceOf_4 rfl (lv_at hl 0 rfl) ?_
  refine lv_bipush (v := 24) hx hb dX6_priceOf_5 (by decide) ?_
  refine lv_icmp_ge (tgt := 36) hx hb dX6_priceOf_7 (by decide) (fun c_ => absurd c_ (by decide)) (fun c_ => ?_)
  refine lv_iload_n hx hb dX6_priceOf_10 rfl (lv_at hl 3 rfl) ?_
  refine lv_iload_n hx hb dX6_priceOf_11 rfl (lv_at hl 0 rfl) ?_
  refine lv_ishr hx hb dX6_priceOf_12 ?_
  refine x_ev (y := 0) (by decide) ?_
  refine lv_iconst (v := 1) hx hb dX6_priceOf_13 (by decide) ?_
  refine lv_iand hx hb dX6_priceOf_14 ?_
  refine x_ev (y := 0) (by decide) ?_
  refine lv_iconst (v := 1) hx hb dX6_priceOf_15 (by decide) ?_
  refine lv_icmp_ne (tgt := 30) hx hb dX6_priceOf_16 (by decide) (fun c_ => ?_) (fun c_ => absurd c_ (by decide))
  refine lv_iinc (v := 6) (lv' := [(3, .int 6), (2, .int 0), (0, .ref h), (1, .int 0)]) hx hb dX6_priceOf_30 hl (k := 0) rfl (by decide) (by decide) rfl (fun ls hl => ?_)
  refine lv_goto (tgt := 4) hx hb dX6_priceOf_33 (by decide) ?_
  refine lv_iload_n hx hb dX6_priceOf_4 rfl (lv_at hl 0 rfl) ?_
  refine lv_bipush (v := 24) hx hb dX6_priceOf_5 (by decide) ?_
  refine lv_icmp_ge (tgt := 36) hx hb dX6_priceOf_7 (by decide) (fun c_ => absurd c_ (by decide)) (fun c_ => ?_)
  refine lv_iload_n hx hb dX6_priceOf_10 rfl (lv_at hl 3 rfl) ?_
  refine lv_iload_n hx hb dX6_priceOf_11 rfl (lv_at hl 0 rfl) ?_
  refine lv_ishr hx hb dX6_priceOf_12 ?_
  refine x_ev (y := 0) (by decide) ?_
  refine lv_iconst (v := 1) hx hb dX6_priceOf_13 (by decide) ?_
  refine lv_iand hx hb dX6_priceOf_14 ?_
  refine x_ev (y := 0) (by decide) ?_
  refine lv_iconst (v := 1) hx hb dX6_priceOf_15 (by decide) ?_
  refine lv_icmp_ne (tgt := 30) hx hb dX6_priceOf_16 (by decide) (fun c_ => ?_) (fun c_ => absurd c_ (by decide))
  refine lv_iinc (v := 7) (lv' := [(3, .int 7), (2, .int 0), (0, .ref h), (1, .int 0)]) hx hb dX6_priceOf_30 hl (k := 0) rfl (by decide) (by decide) rfl (fun ls hl => ?_)
  refine lv_goto (tgt := 4) hx hb dX6_priceOf_33 (by decide) ?_
  refine lv_iload_n hx hb dX6_priceOf_4 rfl (lv_at hl 0 rfl) ?_
  refine lv_bipush (v := 24) hx hb dX6_priceOf_5 (by decide) ?_
  refine lv_icmp_ge (tgt := 36) hx hb dX6_priceOf_7 (by decide) (fun c_ => absurd c_ (by decide)) (fun c_ => ?_)
  refine lv_iload_n hx hb dX6_priceOf_10 rfl (lv_at hl 3 rfl) ?_
  refine lv_iload_n hx hb dX6_priceOf_11 rfl (lv_at hl 0 rfl) ?_
  refine lv_ishr hx hb dX6_priceOf_12 ?_
  refine x_ev (y := 0) (by decide) ?_
  refine lv_iconst (v := 1) hx hb dX6_priceOf_13 (by decide) ?_
  refine lv_iand hx hb dX6_priceOf_14 ?_
  refine x_ev (y := 0) (by decide) ?_
  refine lv_iconst (v := 1) hx hb dX6_priceOf_15 (by decide) ?_
  refine lv_icmp_ne (tgt := 30) hx hb dX6_priceOf_16 (by decide) (fun c_ => ?_) (fun c_ => absurd c_ (by decide))
  refine lv_iinc (v := 8) (lv' := [(3, .int 8), (2, .int 0), (0, .ref h), (1, .int 0)]) hx hb dX6_priceOf_30 hl (k := 0) rfl (by decide) (by decide) rfl (fun ls hl => ?_)
  refine lv_goto (tgt := 4) hx hb dX6_priceOf_33 (by decide) ?_
  refine lv_iload_n hx hb dX6_priceOf_4 rfl (lv_at hl 0 rfl) ?_
  refine lv_bipush (v := 24) hx hb dX6_priceOf_5 (by decide) ?_
  refine lv_icmp_ge (tgt := 36) hx hb dX6_priceOf_7 (by decide) (fun c_ => absurd c_ (by decide)) (fun c_ => ?_)
  refine lv_iload_n hx hb dX6_priceOf_10 rfl (lv_at hl 3 rfl) ?_
  refine lv_iload_n hx hb dX6_priceOf_11 rfl (lv_at hl 0 rfl) ?_
  refine lv_ishr hx hb dX6_priceOf_12 ?_
  refine x_ev (y := 0) (by decide) ?_
  refine lv_iconst (v := 1) hx hb dX6_priceOf_13 (by decide) ?_
  refine lv_iand hx hb dX6_priceOf_14 ?_
  refine x_ev (y := 0) (by decide) ?_
  refine lv_iconst (v := 1) hx hb dX6_priceOf_15 (by decide) ?_
  refine lv_icmp_ne (tgt := 30) hx hb dX6_priceOf_16 (by decide) (fun c_ => ?_) (fun c_ => absurd c_ (by decide))
  refine lv_iinc (v := 9) (lv' := [(3, .int 9), (2, .int 0), (0, .ref h), (1, .int 0)]) hx hb dX6_priceOf_30 hl (k := 0) rfl (by decide) (by decide) rfl (fun ls hl => ?_)
  refine lv_goto (tgt := 4) hx hb dX6_priceOf_33 (by decide) ?_
  refine lv_iload_n hx hb dX6_priceOf_4 rfl (lv_at hl 0 rfl) ?_
  refine lv_bipush (v := 24) hx hb dX6_priceOf_5 (by decide) ?_
  refine lv_icmp_ge (tgt := 36) hx hb dX6_priceOf_7 (by decide) (fun c_ => absurd c_ (by decide)) (fun c_ => ?_)
  refine lv_iload_n hx hb dX6_priceOf_10 rfl (lv_at hl 3 rfl) ?_
  refine lv_iload_n hx hb dX6_priceOf_11 rfl (lv_at hl 0 rfl) ?_
  refine lv_ishr hx hb dX6_priceOf_12 ?_
  refine x_ev (y := 0) (by decide) ?_
  refine lv_iconst (v := 1) hx hb dX6_priceOf_13 (by decide) ?_
  refine lv_iand hx hb dX6_priceOf_14 ?_
  refine x_ev (y := 0) (by decide) ?_
  refine lv_iconst (v := 1) hx hb dX6_priceOf_15 (by decide) ?_
  refine lv_icmp_ne (tgt := 30) hx hb dX6_priceOf_16 (by decide) (fun c_ => ?_) (fun c_ => absurd c_ (by decide))
  refine lv_iinc (v := 10) (lv' := [(3, .int 10), (2, .int 0), (0, .ref h), (1, .int 0)]) hx hb dX6_priceOf_30 hl (k := 0) rfl (by decide) (by decide) rfl (fun ls hl => ?_)
  refine lv_goto (tgt := 4) hx hb dX6_priceOf_33 (by decide) ?_
  refine lv_iload_n hx hb dX6_priceOf_4 rfl (lv_at hl 0 rfl) ?_
  refine lv_bipush (v := 24) hx hb dX6_priceOf_5 (by decide) ?_
  refine lv_icmp_ge (tgt := 36) hx hb dX6_priceOf_7 (by decide) (fun c_ => absurd c_ (by decide)) (fun c_ => ?_)
  refine lv_iload_n hx hb dX6_priceOf_10 rfl (lv_at hl 3 rfl) ?_
  refine lv_iload_n hx hb dX6_priceOf_11 rfl (lv_at hl 0 rfl) ?_
  refine lv_ishr hx hb dX6_priceOf_12 ?_
  refine x_ev (y := 0) (by decide) ?_
  refine lv_iconst (v := 1) hx hb dX6_priceOf_13 (by decide) ?_
  refine lv_iand hx hb dX6_priceOf_14 ?_
  refine x_ev (y := 0) (by decide) ?_
  refine lv_iconst (v := 1) hx hb dX6_priceOf_15 (by decide) ?_
  refine lv_icmp_ne (tgt := 30) hx hb dX6_priceOf_16 (by decide) (fun c_ => ?_) (fun c_ => absurd c_ (by decide))
  refine lv_iinc (v := 11) (lv' := [(3, .int 11), (2, .int 0), (0, .ref h), (1, .int 0)]) hx hb dX6_priceOf_30 hl (k := 0) rfl (by decide) (by decide) rfl (fun ls hl => ?_)
  refine lv_goto (tgt := 4) hx hb dX6_priceOf_33 (by decide) ?_
  refine lv_iload_n hx hb dX6_priceOf_4 rfl (lv_at hl 0 rfl) ?_
  refine lv_bipush (v := 24) hx hb dX6_priceOf_5 (by decide) ?_
  refine lv_icmp_ge (tgt := 36) hx hb dX6_priceOf_7 (by decide) (fun c_ => absurd c_ (by decide)) (fun c_ => ?_)
  refine lv_iload_n hx hb dX6_priceOf_10 rfl (lv_at hl 3 rfl) ?_
  refine lv_iload_n hx hb dX6_priceOf_11 rfl (lv_at hl 0 rfl) ?_
  refine lv_ishr hx hb dX6_priceOf_12 ?_
  refine x_ev (y := 0) (by decide) ?_
  refine lv_iconst (v := 1) hx hb dX6_priceOf_13 (by decide) ?_
  refine lv_iand hx hb dX6_priceOf_14 ?_
  refine x_ev (y := 0) (by decide) ?_
  refine lv_iconst (v := 1) hx hb dX6_priceOf_15 (by decide) ?_
  refine lv_icmp_ne (tgt := 30) hx hb dX6_priceOf_16 (by decide) (fun c_ => ?_) (fun c_ => absurd c_ (by decide))
  refine lv_iinc (v := 12) (lv' := [(3, .int 12), (2, .int 0), (0, .ref h), (1, .int 0)]) hx hb dX6_priceOf_30 hl (k := 0) rfl (by decide) (by decide) rfl (fun ls hl => ?_)
  refine lv_goto (tgt := 4) hx hb dX6_priceOf_33 (by decide) ?_
  refine lv_iload_n hx hb dX6_priceOf_4 rfl (lv_at hl 0 rfl) ?_
  refine lv_bipush (v := 24) hx hb dX6_priceOf_5 (by decide) ?_
  refine lv_icmp_ge (tgt := 36) hx hb dX6_priceOf_7 (by decide) (fun c_ => absurd c_ (by decide)) (fun c_ => ?_)
  refine lv_iload_n hx hb dX6_priceOf_10 rfl (lv_at hl 3 rfl) ?_
  refine lv_iload_n hx hb dX6_priceOf_11 rfl (lv_at hl 0 rfl) ?_
  refine lv_ishr hx hb dX6_priceOf_12 ?_
  refine x_ev (y := 0) (by decide) ?_
  refine lv_iconst (v := 1) hx hb dX6_priceOf_13 (by decide) ?_
  refine lv_iand hx hb dX6_priceOf_14 ?_
  refine x_ev (y := 0) (by decide) ?_
  refine lv_iconst (v := 1) hx hb dX6_priceOf_15 (by decide) ?_
  refine lv_icmp_ne (tgt := 30) hx hb dX6_priceOf_16 (by decide) (fun c_ => ?_) (fun c_ => absurd c_ (by decide))
  refine lv_iinc (v := 13) (lv' := [(3, .int 13), (2, .int 0), (0, .ref h), (1, .int 0)]) hx hb dX6_priceOf_30 hl (k := 0) rfl (by decide) (by decide) rfl (fun ls hl => ?_)
  refine lv_goto (tgt := 4) hx hb dX6_priceOf_33 (by decide) ?_
  refine lv_iload_n hx hb dX6_priceOf_4 rfl (lv_at hl 0 rfl) ?_
  refine lv_bipush (v := 24) hx hb dX6_priceOf_5 (by decide) ?_
  refine lv_icmp_ge (tgt := 36) hx hb dX6_priceOf_7 (by decide) (fun c_ => absurd c_ (by decide)) (fun c_ => ?_)
  refine lv_iload_n hx hb dX6_priceOf_10 rfl (lv_at hl 3 rfl) ?_
  refine lv_iload_n hx hb dX6_priceOf_11 rfl (lv_at hl 0 rfl) ?_
  refine lv_ishr hx hb dX6_priceOf_12 ?_
  refine x_ev (y := 0) (by decide) ?_
  refine lv_iconst (v := 1) hx hb dX6_priceOf_13 (by decide) ?_
  refine lv_iand hx hb dX6_priceOf_14 ?_
  refine x_ev (y := 0) (by decide) ?_
  refine lv_iconst (v := 1) hx hb dX6_priceOf_15 (by decide) ?_
  refine lv_icmp_ne (tgt := 30) hx hb dX6_priceOf_16 (by decide) (fun c_ => ?_) (fun c_ => absurd c_ (by decide))
  refine lv_iinc (v := 14) (lv' := [(3, .int 14), (2, .int 0), (0, .ref h), (1, .int 0)]) hx hb dX6_priceOf_30 hl (k := 0) rfl (by decide) (by decide) rfl (fun ls hl => ?_)
  refine lv_goto (tgt := 4) hx hb dX6_priceOf_33 (by decide) ?_
  refine lv_iload_n hx hb dX6_priceOf_4 rfl (lv_at hl 0 rfl) ?_
  refine lv_bipush (v := 24) hx hb dX6_priceOf_5 (by decide) ?_
  refine lv_icmp_ge (tgt := 36) hx hb dX6_priceOf_7 (by decide) (fun c_ => absurd c_ (by decide)) (fun c_ => ?_)
  refine lv_iload_n hx hb dX6_priceOf_10 rfl (lv_at hl 3 rfl) ?_
  refine lv_iload_n hx hb dX6_priceOf_11 rfl (lv_at hl 0 rfl) ?_
  refine lv_ishr hx hb dX6_priceOf_12 ?_
  refine x_ev (y := 0) (by decide) ?_
  refine lv_iconst (v := 1) hx hb dX6_priceOf_13 (by decide) ?_
  refine lv_iand hx hb dX6_priceOf_14 ?_
  refine x_ev (y := 0) (by decide) ?_
  refine lv_iconst (v := 1) hx hb dX6_priceOf_15 (by decide) ?_
  refine lv_icmp_ne (tgt := 30) hx hb dX6_priceOf_16 (by decide) (fun c_ => ?_) (fun c_ => absurd c_ (by decide))
  refine lv_iinc (v := 15) (lv' := [(3, .int 15), (2, .int 0), (0, .ref h), (1, .int 0)]) hx hb dX6_priceOf_30 hl (k := 0) rfl (by decide) (by decide) rfl (fun ls hl => ?_)
  refine lv_goto (tgt := 4) hx hb dX6_priceOf_33 (by decide) ?_
  refine lv_iload_n hx hb dX6_priceOf_4 rfl (lv_at hl 0 rfl) ?_
  refine lv_bipush (v := 24) hx hb dX6_priceOf_5 (by decide) ?_
  refine lv_icmp_ge (tgt := 36) hx hb dX6_priceOf_7 (by decide) (fun c_ => absurd c_ (by decide)) (fun c_ => ?_)
  refine lv_iload_n hx hb dX6_priceOf_10 rfl (lv_at hl 3 rfl) ?_
  refine lv_iload_n hx hb dX6_priceOf_11 rfl (lv_at hl 0 rfl) ?_
  refine lv_ishr hx hb dX6_priceOf_12 ?_
  refine x_ev (y := 0) (by decide) ?_
  refine lv_iconst (v := 1) hx hb dX6_priceOf_13 (by decide) ?_
  refine lv_iand hx hb dX6_priceOf_14 ?_
  refine x_ev (y := 0) (by decide) ?_
  refine lv_iconst (v := 1) hx hb dX6_priceOf_15 (by decide) ?_
  refine lv_icmp_ne (tgt := 30) hx hb dX6_priceOf_16 (by decide) (fun c_ => ?_) (fun c_ => absurd c_ (by decide))
  refine lv_iinc (v := 16) (lv' := [(3, .int 16), (2, .int 0), (0, .ref h), (1, .int 0)]) hx hb dX6_priceOf_30 hl (k := 0) rfl (by decide) (by decide) rfl (fun ls hl => ?_)
  refine lv_goto (tgt := 4) hx hb dX6_priceOf_33 (by decide) ?_
  refine lv_iload_n hx hb dX6_priceOf_4 rfl (lv_at hl 0 rfl) ?_
  refine lv_bipush (v := 24) hx hb dX6_priceOf_5 (by decide) ?_
  refine lv_icmp_ge (tgt := 36) hx hb dX6_priceOf_7 (by decide) (fun c_ => absurd c_ (by decide)) (fun c_ => ?_)
  refine lv_iload_n hx hb dX6_priceOf_10 rfl (lv_at hl 3 rfl) ?_
  refine lv_iload_n hx hb dX6_priceOf_11 rfl (lv_at hl 0 rfl) ?_
  refine lv_ishr hx hb dX6_priceOf_12 ?_
  refine x_ev (y := 0) (by decide) ?_
  refine lv_iconst (v := 1) hx hb dX6_priceOf_13 (by decide) ?_
  refine lv_iand hx hb dX6_priceOf_14 ?_
  refine x_ev (y := 0) (by decide) ?_
  refine lv_iconst (v := 1) hx hb dX6_priceOf_15 (by decide) ?_
  refine lv_icmp_ne (tgt := 30) hx hb dX6_priceOf_16 (by decide) (fun c_ => ?_) (fun c_ => absurd c_ (by decide))
  refine lv_iinc (v := 17) (lv' := [(3, .int 17), (2, .int 0), (0, .ref h), (1, .int 0)]) hx hb dX6_priceOf_30 hl (k := 0) rfl (by decide) (by decide) rfl (fun ls hl => ?_)
  refine lv_goto (tgt := 4) hx hb dX6_priceOf_33 (by decide) ?_
  refine lv_iload_n hx hb dX6_priceOf_4 rfl (lv_at hl 0 rfl) ?_
  refine lv_bipush (v := 24) hx hb dX6_priceOf_5 (by decide) ?_
  refine lv_icmp_ge (tgt := 36) hx hb dX6_priceOf_7 (by decide) (fun c_ => absurd c_ (by decide)) (fun c_ => ?_)
  refine lv_iload_n hx hb dX6_priceOf_10 rfl (lv_at hl 3 rfl) ?_
  refine lv_iload_n hx hb dX6_priceOf_11 rfl (lv_at hl 0 rfl) ?_
  refine lv_ishr hx hb dX6_priceOf_12 ?_
  refine x_ev (y := 0) (by decide) ?_
  refine lv_iconst (v := 1) hx hb dX6_priceOf_13 (by decide) ?_
  refine lv_iand hx hb dX6_priceOf_14 ?_
  refine x_ev (y := 0) (by decide) ?_
  refine lv_iconst (v := 1) hx hb dX6_priceOf_15 (by decide) ?_
  refine lv_icmp_ne (tgt := 30) hx hb dX6_priceOf_16 (by decide) (fun c_ => ?_) (fun c_ => absurd c_ (by decide))
  refine lv_iinc (v := 18) (lv' := [(3, .int 18), (2, .int 0), (0, .ref h), (1, .int 0)]) hx hb dX6_priceOf_30 hl (k := 0) rfl (by decide) (by decide) rfl (fun ls hl => ?_)
  refine lv_goto (tgt := 4) hx hb dX6_priceOf_33 (by decide) ?_
  refine lv_iload_n hx hb dX6_priceOf_4 rfl (lv_at hl 0 rfl) ?_
  refine lv_bipush (v := 24) hx hb dX6_priceOf_5 (by decide) ?_
  refine lv_icmp_ge (tgt := 36) hx hb dX6_priceOf_7 (by decide) (fun c_ => absurd c_ (by decide)) (fun c_ => ?_)
  refine lv_iload_n hx hb dX6_priceOf_10 rfl (lv_at hl 3 rfl) ?_
  refine lv_iload_n hx hb dX6_priceOf_11 rfl (lv_at hl 0 rfl) ?_
  refine lv_ishr hx hb dX6_priceOf_12 ?_
  refine x_ev (y := 0) (by decide) ?_
  refine lv_iconst (v := 1) hx hb dX6_priceOf_13 (by decide) ?_
  refine lv_iand hx hb dX6_priceOf_14 ?_
  refine x_ev (y := 0) (by decide) ?_
  refine lv_iconst (v := 1) hx hb dX6_priceOf_15 (by decide) ?_
  refine lv_icmp_ne (tgt := 30) hx hb dX6_priceOf_16 (by decide) (fun c_ => ?_) (fun c_ => absurd c_ (by decide))
  refine lv_iinc (v := 19) (lv' := [(3, .int 19), (2, .int 0), (0, .ref h), (1, .int 0)]) hx hb dX6_priceOf_30 hl (k := 0) rfl (by decide) (by decide) rfl (fun ls hl => ?_)
  refine lv_goto (tgt := 4) hx hb dX6_priceOf_33 (by decide) ?_
  refine lv_iload_n hx hb dX6_priceOf_4 rfl (lv_at hl 0 rfl) ?_
  refine lv_bipush (v := 24) hx hb dX6_priceOf_5 (by decide) ?_
  refine lv_icmp_ge (tgt := 36) hx hb dX6_priceOf_7 (by decide) (fun c_ => absurd c_ (by decide)) (fun c_ => ?_)
  refine lv_iload_n hx hb dX6_priceOf_10 rfl (lv_at hl 3 rfl) ?_
  refine lv_iload_n hx hb dX6_priceOf_11 rfl (lv_at hl 0 rfl) ?_
  refine lv_ishr hx hb dX6_priceOf_12 ?_
  refine x_ev (y := 0) (by decide) ?_
  refine lv_iconst (v := 1) hx hb dX6_priceOf_13 (by decide) ?_
  refine lv_iand hx hb dX6_priceOf_14 ?_
  refine x_ev (y := 0) (by decide) ?_
  refine lv_iconst (v := 1) hx hb dX6_priceOf_15 (by decide) ?_
  refine lv_icmp_ne (tgt := 30) hx hb dX6_priceOf_16 (by decide) (fun c_ => ?_) (fun c_ => absurd c_ (by decide))
  refine lv_iinc (v := 20) (lv' := [(3, .int 20), (2, .int 0), (0, .ref h), (1, .int 0)]) hx hb dX6_priceOf_30 hl (k := 0) rfl (by decide) (by decide) rfl (fun ls hl => ?_)
  refine lv_goto (tgt := 4) hx hb dX6_priceOf_33 (by decide) ?_
  refine lv_iload_n hx hb dX6_priceOf_4 rfl (lv_at hl 0 rfl) ?_
  refine lv_bipush (v := 24) hx hb dX6_priceOf_5 (by decide) ?_
  refine lv_icmp_ge (tgt := 36) hx hb dX6_priceOf_7 (by decide) (fun c_ => absurd c_ (by decide)) (fun c_ => ?_)
  refine lv_iload_n hx hb dX6_priceOf_10 rfl (lv_at hl 3 rfl) ?_
  refine lv_iload_n hx hb dX6_priceOf_11 rfl (lv_at hl 0 rfl) ?_
  refine lv_ishr hx hb dX6_priceOf_12 ?_
  refine x_ev (y := 0) (by decide) ?_
  refine lv_iconst (v := 1) hx hb dX6_priceOf_13 (by decide) ?_
  refine lv_iand hx hb dX6_priceOf_14 ?_
  refine x_ev (y := 0) (by decide) ?_
  refine lv_iconst (v := 1) hx hb dX6_priceOf_15 (by decide) ?_
  refine lv_icmp_ne (tgt := 30) hx hb dX6_priceOf_16 (by decide) (fun c_ => ?_) (fun c_ => absurd c_ (by decide))
  refine lv_iinc (v := 21) (lv' := [(3, .int 21), (2, .int 0), (0, .ref h), (1, .int 0)]) hx hb dX6_priceOf_30 hl (k := 0) rfl (by decide) (by decide) rfl (fun ls hl => ?_)
  refine lv_goto (tgt := 4) hx hb dX6_priceOf_33 (by decide) ?_
  refine lv_iload_n hx hb dX6_priceOf_4 rfl (lv_at hl 0 rfl) ?_
  refine lv_bipush (v := 24) hx hb dX6_priceOf_5 (by decide) ?_
  refine lv_icmp_ge (tgt := 36) hx hb dX6_priceOf_7 (by decide) (fun c_ => absurd c_ (by decide)) (fun c_ => ?_)
  refine lv_iload_n hx hb dX6_priceOf_10 rfl (lv_at hl 3 rfl) ?_
  refine lv_iload_n hx hb dX6_priceOf_11 rfl (lv_at hl 0 rfl) ?_
  refine lv_ishr hx hb dX6_priceOf_12 ?_
  refine x_ev (y := 0) (by decide) ?_
  refine lv_iconst (v := 1) hx hb dX6_priceOf_13 (by decide) ?_
  refine lv_iand hx hb dX6_priceOf_14 ?_
  refine x_ev (y := 0) (by decide) ?_
  refine lv_iconst (v := 1) hx hb dX6_priceOf_15 (by decide) ?_
  refine lv_icmp_ne (tgt := 30) hx hb dX6_priceOf_16 (by decide) (fun c_ => ?_) (fun c_ => absurd c_ (by decide))
  refine lv_iinc (v := 22) (lv' := [(3, .int 22), (2, .int 0), (0, .ref h), (1, .int 0)]) hx hb dX6_priceOf_30 hl (k := 0) rfl (by decide) (by decide) rfl (fun ls hl => ?_)
  refine lv_goto (tgt := 4) hx hb dX6_priceOf_33 (by decide) ?_
  refine lv_iload_n hx hb dX6_priceOf_4 rfl (lv_at hl 0 rfl) ?_
  refine lv_bipush (v := 24) hx hb dX6_priceOf_5 (by decide) ?_
  refine lv_icmp_ge (tgt := 36) hx hb dX6_priceOf_7 (by decide) (fun c_ => absurd c_ (by decide)) (fun c_ => ?_)
  refine lv_iload_n hx hb dX6_priceOf_10 rfl (lv_at hl 3 rfl) ?_
  refine lv_iload_n hx hb dX6_priceOf_11 rfl (lv_at hl 0 rfl) ?_
  refine lv_ishr hx hb dX6_priceOf_12 ?_
  refine x_ev (y := 0) (by decide) ?_
  refine lv_iconst (v := 1) hx hb dX6_priceOf_13 (by decide) ?_
  refine lv_iand hx hb dX6_priceOf_14 ?_
  refine x_ev (y := 0) (by decide) ?_
  refine lv_iconst (v := 1) hx hb dX6_priceOf_15 (by decide) ?_
  refine lv_icmp_ne (tgt := 30) hx hb dX6_priceOf_16 (by decide) (fun c_ => ?_) (fun c_ => absurd c_ (by decide))
  refine lv_iinc (v := 23) (lv' := [(3, .int 23), (2, .int 0), (0, .ref h), (1, .int 0)]) hx hb dX6_priceOf_30 hl (k := 0) rfl (by decide) (by decide) rfl (fun ls hl => ?_)
  refine lv_goto (tgt := 4) hx hb dX6_priceOf_33 (by decide) ?_
  refine lv_iload_n hx hb dX6_priceOf_4 rfl (lv_at hl 0 rfl) ?_
  refine lv_bipush (v := 24) hx hb dX6_priceOf_5 (by decide) ?_
  refine lv_icmp_ge (tgt := 36) hx hb dX6_priceOf_7 (by decide) (fun c_ => absurd c_ (by decide)) (fun c_ => ?_)
  refine lv_iload_n hx hb dX6_priceOf_10 rfl (lv_at hl 3 rfl) ?_
  refine lv_iload_n hx hb dX6_priceOf_11 rfl (lv_at hl 0 rfl) ?_
  refine lv_ishr hx hb dX6_priceOf_12 ?_
  refine x_ev (y := 0) (by decide) ?_
  refine lv_iconst (v := 1) hx hb dX6_priceOf_13 (by decide) ?_
  refine lv_iand hx hb dX6_priceOf_14 ?_
  refine x_ev (y := 0) (by decide) ?_
  refine lv_iconst (v := 1) hx hb dX6_priceOf_15 (by decide) ?_
  refine lv_icmp_ne (tgt := 30) hx hb dX6_priceOf_16 (by decide) (fun c_ => ?_) (fun c_ => absurd c_ (by decide))
  refine lv_iinc (v := 24) (lv' := [(3, .int 24), (2, .int 0), (0, .ref h), (1, .int 0)]) hx hb dX6_priceOf_30 hl (k := 0) rfl (by decide) (by decide) rfl (fun ls hl => ?_)
  refine lv_goto (tgt := 4) hx hb dX6_priceOf_33 (by decide) ?_
  refine lv_iload_n hx hb dX6_priceOf_4 rfl (lv_at hl 0 rfl) ?_
  refine lv_bipush (v := 24) hx hb dX6_priceOf_5 (by decide) ?_
  refine lv_icmp_ge (tgt := 36) hx hb dX6_priceOf_7 (by decide) (fun c_ => ?_) (fun c_ => absurd (by decide) c_)
  refine lv_iload_n hx hb dX6_priceOf_36 rfl (lv_at hl 1 rfl) ?_
  exact x_iret (w := [(h, .inr (6, [.ref tp, .ref nw, .ref rw, .ref lg, .ref jd, .ref pr, .int 0]))]) hB hr hV hA (Nat.le_of_ble_eq_true rfl) (Nat.le_of_ble_eq_true rfl) [0] rfl rfl (by decide) dX6_priceOf_37 ⟨rfl, rfl⟩
set_option maxHeartbeats 4000000 in
set_option maxRecDepth 100000 in
theorem c_cheapestAdditions (l : Launch) (D : va_G) (cI cZ cS : ClassId) (N0 : NT) (h : Nat) (tp : Nat) (nw : Nat) (rw : Nat) (lg : Nat) (jd : Nat) (pr : Nat) (n1 : Nat) (n2 : Nat) (r1 : Nat) (r2 : Nat) (r3 : Nat) (s1 : Nat) (s2 : Nat) (s3 : Nat) (s4 : Nat) (s5 : Nat) (s6 : Nat) (s7 : Nat) (s8 : Nat) (s9 : Nat) (b1 : Nat) (b2 : Nat) (b3 : Nat) (b4 : Nat) (b5 : Nat) (b6 : Nat)  : Mx l D cI cZ cS N0 yX6_cheapestAdditions cX6_cheapestAdditions 10 (some .int) 4 0 0 [.ref h, .int 0] [(h, .inr (6, [.ref tp, .ref nw, .ref rw, .ref lg, .ref jd, .ref pr, .int 0])), (nw, .inr (5, [.ref n1, .int 0, .int 0, .ref n2, .int 0, .int 0, .int 0, .int 0])), (rw, .inr (0, [.ref r1, .ref r2, .ref r3, .int 0])), (jd, .inr (1, [.ref s1, .ref s2, .ref s3, .ref b1, .ref b2, .ref b3, .int 0, .ref b4, .ref b5, .ref b6])), (s1, .inr (5, [.ref s4, .int 0, .int 0, .ref s5, .int 0, .int 0, .int 0, .int 0])), (s2, .inr (5, [.ref s6, .int 0, .int 0, .ref s7, .int 0, .int 0, .int 0, .int 0])), (s3, .inr (5, [.ref s8, .int 0, .int 0, .ref s9, .int 0, .int 0, .int 0, .int 0]))] (fun v w => v = some (.int 0) ∧ w = ([(h, .inr (6, [.ref tp, .ref nw, .ref rw, .ref lg, .ref jd, .ref pr, .int 0]))] : va_W)) := by
  refine x_enter (by decide) (Nat.le_of_ble_eq_true rfl) ?_
  intro p e s m args below meth c A ls H locs hB hr hin hl hV hA
  have hx := hB.1
  have hb := hB.2.1
  have hl : lv_has ls 10 [(0, .ref h), (1, .int 0)] := hl
  refine lv_iload_n hx hb dX6_cheapestAdditions_0 rfl (lv_at hl 1 rfl) ?_
  refine x_callS (n := 1) (wr := [(h, .inr (6, [.ref tp, .ref nw, .ref rw, .ref lg, .ref jd, .ref pr, .int 0])), (nw, .inr (5, [.ref n1, .int 0, .int 0, .ref n2, .int 0, .int 0, .int 0, .int 0])), (rw, .inr (0, [.ref r1, .ref r2, .ref r3, .int 0])), (jd, .inr (1, [.ref s1, .ref s2, .ref s3, .ref b1, .ref b2, .ref b3, .int 0, .ref b4, .ref b5, .ref b6])), (s1, .inr (5, [.ref s4, .int 0, .int 0, .ref s5, .int 0, .int 0, .int 0, .int 0])), (s2, .inr (5, [.ref s6, .int 0, .int 0, .ref s7, .int 0, .int 0, .int 0, .int 0])), (s3, .inr (5, [.ref s8, .int 0, .int 0, .ref s9, .int 0, .int 0, .int 0, .int 0]))]) (As := [.int 0]) (rest := []) hB hV (x_N hB) hl.1 (c_numberOfTrailingZeros l D cI cZ cS N0  ) k_697 k_71 k_695 k_696 (by decide +kernel) ⟨(Nat.le_of_ble_eq_true rfl), (Nat.le_of_ble_eq_true rfl)⟩ rfl (Nat.le_of_ble_eq_true rfl) ⟨(Nat.le_of_ble_eq_true rfl), (Nat.le_of_ble_eq_true rfl)⟩ [] [0, 1, 2, 3, 4, 5, 6] rfl rfl rfl ⟨by decide, by decide, by decide⟩ dX6_cheapestAdditions_1 (fun v w H locs hp hV => ?_)
  obtain ⟨rfl, rfl⟩ := hp
  have hV : Vx D A s.heap H locs [(h, .inr (6, [.ref tp, .ref nw, .ref rw, .ref lg, .ref jd, .ref pr, .int 0])), (nw, .inr (5, [.ref n1, .int 0, .int 0, .ref n2, .int 0, .int 0, .int 0, .int 0])), (rw, .inr (0, [.ref r1, .ref r2, .ref r3, .int 0])), (jd, .inr (1, [.ref s1, .ref s2, .ref s3, .ref b1, .ref b2, .ref b3, .int 0, .ref b4, .ref b5, .ref b6])), (s1, .inr (5, [.ref s4, .int 0, .int 0, .ref s5, .int 0, .int 0, .int 0, .int 0])), (s2, .inr (5, [.ref s6, .int 0, .int 0, .ref s7, .int 0, .int 0, .int 0, .int 0])), (s3, .inr (5, [.ref s8, .int 0, .int 0, .ref s9, .int 0, .int 0, .int 0, .int 0]))] := hV
  refine W.eq (g2 := F0 m 4 ls [.int 32]) rfl ?_
  refine lv_iconst (v := 5) hx hb dX6_cheapestAdditions_4 (by decide) ?_
  refine x_min (v := 5) hB k_559 k_560 k_63 k_561 hl.1 (Nat.le_of_ble_eq_true rfl) (Nat.le_of_ble_eq_true rfl) (Nat.le_of_ble_eq_true rfl) (Nat.le_of_ble_eq_true rfl) (by decide) dX6_cheapestAdditions_5 ?_
  refine lv_istore_n (lv' := [(2, .int 5), (0, .ref h), (1, .int 0)]) hx hb dX6_cheapestAdditions_8 rfl hl (by decide) rfl (fun ls hl => ?_)
  refine lv_bipush (v := 31) hx hb dX6_cheapestAdditions_9 (by decide) ?_
  refine lv_iload_n hx hb dX6_cheapestAdditions_11 rfl (lv_at hl 2 rfl) ?_
  refine x_callS (n := 1) (wr := [(h, .inr (6, [.ref tp, .ref nw, .ref rw, .ref lg, .ref jd, .ref pr, .int 0])), (nw, .inr (5, [.ref n1, .int 0, .int 0, .ref n2, .int 0, .int 0, .int 0, .int 0])), (rw, .inr (0, [.ref r1, .ref r2, .ref r3, .int 0])), (jd, .inr (1, [.ref s1, .ref s2, .ref s3, .ref b1, .ref b2, .ref b3, .int 0, .ref b4, .ref b5, .ref b6])), (s1, .inr (5, [.ref s4, .int 0, .int 0, .ref s5, .int 0, .int 0, .int 0, .int 0])), (s2, .inr (5, [.ref s6, .int 0, .int 0, .ref s7, .int 0, .int 0, .int 0, .int 0])), (s3, .inr (5, [.ref s8, .int 0, .int 0, .ref s9, .int 0, .int 0, .int 0, .int 0]))]) (As := [.int 0]) (rest := [.int 31]) hB hV (x_N hB) hl.1 (c_numberOfLeadingZeros l D cI cZ cS N0  ) k_701 k_71 k_699 k_700 (by decide +kernel) ⟨(Nat.le_of_ble_eq_true rfl), (Nat.le_of_ble_eq_true rfl)⟩ rfl (Nat.le_of_ble_eq_true rfl) ⟨(Nat.le_of_ble_eq_true rfl), (Nat.le_of_ble_eq_true rfl)⟩ [] [0, 1, 2, 3, 4, 5, 6] rfl rfl rfl ⟨by decide, by decide, by decide⟩ dX6_cheapestAdditions_12 (fun v w H locs hp hV => ?_)
  obtain ⟨rfl, rfl⟩ := hp
  have hV : Vx D A s.heap H locs [(h, .inr (6, [.ref tp, .ref nw, .ref rw, .ref lg, .ref jd, .ref pr, .int 0])), (nw, .inr (5, [.ref n1, .int 0, .int 0, .ref n2, .int 0, .int 0, .int 0, .int 0])), (rw, .inr (0, [.ref r1, .ref r2, .ref r3, .int 0])), (jd, .inr (1, [.ref s1, .ref s2, .ref s3, .ref b1, .ref b2, .ref b3, .int 0, .ref b4, .ref b5, .ref b6])), (s1, .inr (5, [.ref s4, .int 0, .int 0, .ref s5, .int 0, .int 0, .int 0, .int 0])), (s2, .inr (5, [.ref s6, .int 0, .int 0, .ref s7, .int 0, .int 0, .int 0, .int 0])), (s3, .inr (5, [.ref s8, .int 0, .int 0, .ref s9, .int 0, .int 0, .int 0, .int 0]))] := hV
  refine W.eq (g2 := F0 m 15 ls [.int 32, .int 31]) rfl ?_
  refine lv_isub hx hb dX6_cheapestAdditions_15 ?_
  refine x_ev (y := (-1)) (by decide) ?_
  refine lv_iconst (v := 0) hx hb dX6_cheapestAdditions_16 (by decide) ?_
  refine x_max (v := 0) hB k_702 k_241 k_63 k_242 hl.1 (Nat.le_of_ble_eq_true rfl) (Nat.le_of_ble_eq_true rfl) (Nat.le_of_ble_eq_true rfl) (Nat.le_of_ble_eq_true rfl) (by decide) dX6_cheapestAdditions_17 ?_
  refine lv_istore_n (lv' := [(3, .int 0), (2, .int 5), (0, .ref h), (1, .int 0)]) hx hb dX6_cheapestAdditions_20 rfl hl (by decide) rfl (fun ls hl => ?_)
  refine lv_iconst (v := 1) hx hb dX6_cheapestAdditions_21 (by decide) ?_
  refine lv_iconst (v := 4) hx hb dX6_cheapestAdditions_22 (by decide) ?_
  refine lv_iload_n hx hb dX6_cheapestAdditions_23 rfl (lv_at hl 3 rfl) ?_
  refine x_callS (n := 1) (wr := [(h, .inr (6, [.ref tp, .ref nw, .ref rw, .ref lg, .ref jd, .ref pr, .int 0])), (nw, .inr (5, [.ref n1, .int 0, .int 0, .ref n2, .int 0, .int 0, .int 0, .int 0])), (rw, .inr (0, [.ref r1, .ref r2, .ref r3, .int 0])), (jd, .inr (1, [.ref s1, .ref s2, .ref s3, .ref b1, .ref b2, .ref b3, .int 0, .ref b4, .ref b5, .ref b6])), (s1, .inr (5, [.ref s4, .int 0, .int 0, .ref s5, .int 0, .int 0, .int 0, .int 0])), (s2, .inr (5, [.ref s6, .int 0, .int 0, .ref s7, .int 0, .int 0, .int 0, .int 0])), (s3, .inr (5, [.ref s8, .int 0, .int 0, .ref s9, .int 0, .int 0, .int 0, .int 0]))]) (As := [.int 0]) (rest := [.int 4, .int 1]) hB hV (x_N hB) hl.1 (c_bitCount l D cI cZ cS N0  ) k_687 k_71 k_685 k_686 (by decide +kernel) ⟨(Nat.le_of_ble_eq_true rfl), (Nat.le_of_ble_eq_true rfl)⟩ rfl (Nat.le_of_ble_eq_true rfl) ⟨(Nat.le_of_ble_eq_true rfl), (Nat.le_of_ble_eq_true rfl)⟩ [] [0, 1, 2, 3, 4, 5, 6] rfl rfl rfl ⟨by decide, by decide, by decide⟩ dX6_cheapestAdditions_24 (fun v w H locs hp hV => ?_)
  obtain ⟨rfl, rfl⟩ := hp
  have hV : Vx D A s.heap H locs [(h, .inr (6, [.ref tp, .ref nw, .ref rw, .ref lg, .ref jd, .ref pr, .int 0])), (nw, .inr (5, [.ref n1, .int 0, .int 0, .ref n2, .int 0, .int 0, .int 0, .int 0])), (rw, .inr (0, [.ref r1, .ref r2, .ref r3, .int 0])), (jd, .inr (1, [.ref s1, .ref s2, .ref s3, .ref b1, .ref b2, .ref b3, .int 0, .ref b4, .ref b5, .ref b6])), (s1, .inr (5, [.ref s4, .int 0, .int 0, .ref s5, .int 0, .int 0, .int 0, .int 0])), (s2, .inr (5, [.ref s6, .int 0, .int 0, .ref s7, .int 0, .int 0, .int 0, .int 0])), (s3, .inr (5, [.ref s8, .int 0, .int 0, .ref s9, .int 0, .int 0, .int 0, .int 0]))] := hV
  refine W.eq (g2 := F0 m 27 ls [.int 0, .int 4, .int 1]) rfl ?_
  refine lv_imul hx hb dX6_cheapestAdditions_27 ?_
  refine x_ev (y := 0) (by decide) ?_
  refine lv_ishl hx hb dX6_cheapestAdditions_28 ?_
  refine x_ev (y := 1) (by decide) ?_
  refine lv_istore (lv' := [(4, .int 1), (3, .int 0), (2, .int 5), (0, .ref h), (1, .int 0)]) hx hb dX6_cheapestAdditions_29 hl (by decide) rfl (fun ls hl => ?_)
  refine lv_iconst (v := (-1)) hx hb dX6_cheapestAdditions_31 (by decide) ?_
  refine lv_istore (lv' := [(5, .int (-1)), (4, .int 1), (3, .int 0), (2, .int 5), (0, .ref h), (1, .int 0)]) hx hb dX6_cheapestAdditions_32 hl (by decide) rfl (fun ls hl => ?_)
  refine lv_iconst (v := 0) hx hb dX6_cheapestAdditions_34 (by decide) ?_
  refine lv_istore (lv' := [(6, .int 0), (5, .int (-1)), (4, .int 1), (3, .int 0), (2, .int 5), (0, .ref h), (1, .int 0)]) hx hb dX6_cheapestAdditions_35 hl (by decide) rfl (fun ls hl => ?_)
  refine lv_iload hx hb dX6_cheapestAdditions_37 (lv_at hl 0 rfl) ?_
  refine lv_iload hx hb dX6_cheapestAdditions_39 (lv_at hl 2 rfl) ?_
  refine lv_icmp_ge (tgt := 148) hx hb dX6_cheapestAdditions_41 (by decide) (fun c_ => absurd c_ (by decide)) (fun c_ => ?_)
  refine lv_iload hx hb dX6_cheapestAdditions_44 (lv_at hl 0 rfl) ?_
  refine lv_bipush (v := 15) hx hb dX6_cheapestAdditions_46 (by decide) ?_
  refine lv_iand hx hb dX6_cheapestAdditions_48 ?_
  refine x_ev (y := 0) (by decide) ?_
  refine lv_istore (lv' := [(7, .int 0), (6, .int 0), (5, .int (-1)), (4, .int 1), (3, .int 0), (2, .int 5), (0, .ref h), (1, .int 0)]) hx hb dX6_cheapestAdditions_49 hl (by decide) rfl (fun ls hl => ?_)
  refine lv_iload hx hb dX6_cheapestAdditions_51 (lv_at hl 1 rfl) ?_
  refine lv_iconst (v := 4) hx hb dX6_cheapestAdditions_53 (by decide) ?_
  refine lv_ishr hx hb dX6_cheapestAdditions_54 ?_
  refine x_ev (y := 0) (by decide) ?_
  refine lv_istore (lv' := [(8, .int 0), (7, .int 0), (6, .int 0), (5, .int (-1)), (4, .int 1), (3, .int 0), (2, .int 5), (0, .ref h), (1, .int 0)]) hx hb dX6_cheapestAdditions_55 hl (by decide) rfl (fun ls hl => ?_)
  refine lv_iload hx hb dX6_cheapestAdditions_57 (lv_at hl 1 rfl) ?_
  refine lv_iconst (v := 4) hx hb dX6_cheapestAdditions_59 (by decide) ?_
  refine lv_iload_n hx hb dX6_cheapestAdditions_60 rfl (lv_at hl 6 rfl) ?_
  refine lv_imul hx hb dX6_cheapestAdditions_61 ?_
  refine x_ev (y := 20) (by decide) ?_
  refine lv_ishl hx hb dX6_cheapestAdditions_62 ?_
  refine x_ev (y := 0) (by decide) ?_
  refine lv_iload hx hb dX6_cheapestAdditions_63 (lv_at hl 0 rfl) ?_
  refine lv_iconst (v := 4) hx hb dX6_cheapestAdditions_65 (by decide) ?_
  refine lv_iload_n hx hb dX6_cheapestAdditions_66 rfl (lv_at hl 5 rfl) ?_
  refine lv_imul hx hb dX6_cheapestAdditions_67 ?_
  refine x_ev (y := 0) (by decide) ?_
  refine lv_ishl hx hb dX6_cheapestAdditions_68 ?_
  refine x_ev (y := 0) (by decide) ?_
  refine lv_ior hx hb dX6_cheapestAdditions_69 ?_
  refine x_ev (y := 0) (by decide) ?_
  refine lv_istore (lv' := [(9, .int 0), (8, .int 0), (7, .int 0), (6, .int 0), (5, .int (-1)), (4, .int 1), (3, .int 0), (2, .int 5), (0, .ref h), (1, .int 0)]) hx hb dX6_cheapestAdditions_70 hl (by decide) rfl (fun ls hl => ?_)
  refine lv_iload hx hb dX6_cheapestAdditions_72 (lv_at hl 4 rfl) ?_
  refine lv_iconst (v := (-1)) hx hb dX6_cheapestAdditions_74 (by decide) ?_
  refine lv_icmp_eq (tgt := 96) hx hb dX6_cheapestAdditions_75 (by decide) (fun c_ => ?_) (fun c_ => absurd (by decide) c_)
  refine lv_aload_n hx hb dX6_cheapestAdditions_96 rfl (lv_at hl 8 rfl) ?_
  refine x_get (v := .ref jd) hB hV 0 rfl rfl 4 (by decide) k_312 rfl dX6_cheapestAdditions_97 ?_
  refine lv_aload_n hx hb dX6_cheapestAdditions_100 rfl (lv_at hl 8 rfl) ?_
  refine x_get (v := .ref nw) hB hV 0 rfl rfl 1 (by decide) k_309 rfl dX6_cheapestAdditions_101 ?_
  refine x_callV (n := 1) (wr := [(h, .inr (6, [.ref tp, .ref nw, .ref rw, .ref lg, .ref jd, .ref pr, .int 0])), (rw, .inr (0, [.ref r1, .ref r2, .ref r3, .int 0])), (s2, .inr (5, [.ref s6, .int 0, .int 0, .ref s7, .int 0, .int 0, .int 0, .int 0])), (s3, .inr (5, [.ref s8, .int 0, .int 0, .ref s9, .int 0, .int 0, .int 0, .int 0]))]) (q0 := 3) (As := [.ref nw]) (rest := []) hB hV (x_N hB) hl.1 (c_beginAt l D cI cZ cS N0 jd s1 s2 s3 s4 s5 0 0 0 0 b1 b2 b3 b4 b5 b6 nw n1 n2 ) rfl rfl k_581 k_64 k_578 k_579 k_580 (by decide +kernel) ⟨(Nat.le_of_ble_eq_true rfl), (Nat.le_of_ble_eq_true rfl)⟩ rfl (Nat.le_of_ble_eq_true rfl) ⟨(Nat.le_of_ble_eq_true rfl), (Nat.le_of_ble_eq_true rfl)⟩ [3, 4, 1] [0, 2, 5, 6] rfl rfl rfl ⟨by decide, by decide, by decide⟩ dX6_cheapestAdditions_104 (fun v w H locs hp hV => ?_)
  obtain ⟨rfl, rfl⟩ := hp
  have hV : Vx D A s.heap H locs [(h, .inr (6, [.ref tp, .ref nw, .ref rw, .ref lg, .ref jd, .ref pr, .int 0])), (rw, .inr (0, [.ref r1, .ref r2, .ref r3, .int 0])), (s2, .inr (5, [.ref s6, .int 0, .int 0, .ref s7, .int 0, .int 0, .int 0, .int 0])), (s3, .inr (5, [.ref s8, .int 0, .int 0, .ref s9, .int 0, .int 0, .int 0, .int 0])), (jd, .inr (1, [.ref s1, .ref s2, .ref s3, .ref b1, .ref b2, .ref b3, .int 0, .ref b4, .ref b5, .ref b6])), (s1, .inr (5, [.ref s4, .int 0, .int 0, .ref s5, .int 0, .int 0, .int 0, .int 0])), (nw, .inr (5, [.ref n1, .int 0, .int 0, .ref n2, .int 0, .int 0, .int 0, .int 0]))] := hV
  refine W.eq (g2 := F0 m 107 ls []) rfl ?_
  refine lv_aload_n hx hb dX6_cheapestAdditions_107 rfl (lv_at hl 8 rfl) ?_
  refine x_get (v := .ref jd) hB hV 0 rfl rfl 4 (by decide) k_312 rfl dX6_cheapestAdditions_108 ?_
  refine x_get (v := .ref s1) hB hV 4 rfl rfl 0 (by decide) k_277 rfl dX6_cheapestAdditions_111 ?_
  refine lv_iload hx hb dX6_cheapestAdditions_114 (lv_at hl 0 rfl) ?_
  refine x_callV (n := 1) (wr := [(h, .inr (6, [.ref tp, .ref nw, .ref rw, .ref lg, .ref jd, .ref pr, .int 0])), (rw, .inr (0, [.ref r1, .ref r2, .ref r3, .int 0])), (s2, .inr (5, [.ref s6, .int 0, .int 0, .ref s7, .int 0, .int 0, .int 0, .int 0])), (s3, .inr (5, [.ref s8, .int 0, .int 0, .ref s9, .int 0, .int 0, .int 0, .int 0])), (jd, .inr (1, [.ref s1, .ref s2, .ref s3, .ref b1, .ref b2, .ref b3, .int 0, .ref b4, .ref b5, .ref b6])), (nw, .inr (5, [.ref n1, .int 0, .int 0, .ref n2, .int 0, .int 0, .int 0, .int 0]))]) (q0 := 5) (As := [.int 0]) (rest := []) hB hV (x_N hB) hl.1 (c_addMends l D cI cZ cS N0 s1 s4 s5 0 ) rfl rfl k_710 k_59 k_707 k_708 k_709 (by decide +kernel) ⟨(Nat.le_of_ble_eq_true rfl), (Nat.le_of_ble_eq_true rfl)⟩ rfl (Nat.le_of_ble_eq_true rfl) ⟨(Nat.le_of_ble_eq_true rfl), (Nat.le_of_ble_eq_true rfl)⟩ [5] [0, 1, 2, 3, 4, 6] rfl rfl rfl ⟨by decide, by decide, by decide⟩ dX6_cheapestAdditions_116 (fun v w H locs hp hV => ?_)
  obtain ⟨rfl, rfl⟩ := hp
  have hV : Vx D A s.heap H locs [(h, .inr (6, [.ref tp, .ref nw, .ref rw, .ref lg, .ref jd, .ref pr, .int 0])), (rw, .inr (0, [.ref r1, .ref r2, .ref r3, .int 0])), (s2, .inr (5, [.ref s6, .int 0, .int 0, .ref s7, .int 0, .int 0, .int 0, .int 0])), (s3, .inr (5, [.ref s8, .int 0, .int 0, .ref s9, .int 0, .int 0, .int 0, .int 0])), (jd, .inr (1, [.ref s1, .ref s2, .ref s3, .ref b1, .ref b2, .ref b3, .int 0, .ref b4, .ref b5, .ref b6])), (nw, .inr (5, [.ref n1, .int 0, .int 0, .ref n2, .int 0, .int 0, .int 0, .int 0])), (s1, .inr (5, [.ref s4, .int 0, .int 0, .ref s5, .int 0, .int 0, .int 0, .int 0]))] := hV
  refine W.eq (g2 := F0 m 119 ls []) rfl ?_
  refine lv_aload_n hx hb dX6_cheapestAdditions_119 rfl (lv_at hl 8 rfl) ?_
  refine x_get (v := .ref jd) hB hV 0 rfl rfl 4 (by decide) k_312 rfl dX6_cheapestAdditions_120 ?_
  refine lv_aload_n hx hb dX6_cheapestAdditions_123 rfl (lv_at hl 8 rfl) ?_
  refine x_get (v := .ref rw) hB hV 0 rfl rfl 2 (by decide) k_310 rfl dX6_cheapestAdditions_124 ?_
  refine lv_aload_n hx hb dX6_cheapestAdditions_127 rfl (lv_at hl 8 rfl) ?_
  refine x_get (v := .int 0) hB hV 0 rfl rfl 6 (by decide) k_314 rfl dX6_cheapestAdditions_128 ?_
  refine x_callV (n := 2) (wr := [(h, .inr (6, [.ref tp, .ref nw, .ref rw, .ref lg, .ref jd, .ref pr, .int 0])), (nw, .inr (5, [.ref n1, .int 0, .int 0, .ref n2, .int 0, .int 0, .int 0, .int 0]))]) (q0 := 4) (As := [.ref rw, .int 0]) (rest := []) hB hV (x_N hB) hl.1 (c_firstUnsafe l D cI cZ cS N0 jd s1 s2 s3 s4 s5 s6 s7 s8 s9 b1 b2 b3 b4 b5 b6 rw r1 r2 r3 ) rfl rfl k_626 k_64 k_623 k_624 k_625 (by decide +kernel) ⟨(Nat.le_of_ble_eq_true rfl), (Nat.le_of_ble_eq_true rfl)⟩ rfl (Nat.le_of_ble_eq_true rfl) ⟨(Nat.le_of_ble_eq_true rfl), (Nat.le_of_ble_eq_true rfl)⟩ [4, 6, 2, 3, 1] [0, 5] rfl rfl rfl ⟨by decide, by decide, by decide⟩ dX6_cheapestAdditions_131 (fun v w H locs hp hV => ?_)
  obtain ⟨rfl, rfl⟩ := hp
  have hV : Vx D A s.heap H locs [(h, .inr (6, [.ref tp, .ref nw, .ref rw, .ref lg, .ref jd, .ref pr, .int 0])), (nw, .inr (5, [.ref n1, .int 0, .int 0, .ref n2, .int 0, .int 0, .int 0, .int 0])), (jd, .inr (1, [.ref s1, .ref s2, .ref s3, .ref b1, .ref b2, .ref b3, .int 0, .ref b4, .ref b5, .ref b6])), (s1, .inr (5, [.ref s4, .int 0, .int 0, .ref s5, .int 0, .int 0, .int 0, .int 0])), (s2, .inr (5, [.ref s6, .int 0, .int 0, .ref s7, .int 0, .int 0, .int 0, .int 0])), (s3, .inr (5, [.ref s8, .int 0, .int 0, .ref s9, .int 0, .int 0, .int 0, .int 0])), (rw, .inr (0, [.ref r1, .ref r2, .ref r3, .int 0]))] := hV
  refine W.eq (g2 := F0 m 134 ls [.int (-1)]) rfl ?_
  refine lv_iconst (v := (-1)) hx hb dX6_cheapestAdditions_134 (by decide) ?_
  refine lv_icmp_ne (tgt := 142) hx hb dX6_cheapestAdditions_135 (by decide) (fun c_ => absurd (by decide) c_) (fun c_ => ?_)
  refine lv_iload hx hb dX6_cheapestAdditions_138 (lv_at hl 0 rfl) ?_
  refine lv_istore (lv' := [(5, .int 0), (9, .int 0), (8, .int 0), (7, .int 0), (6, .int 0), (4, .int 1), (3, .int 0), (2, .int 5), (0, .ref h), (1, .int 0)]) hx hb dX6_cheapestAdditions_140 hl (by decide) rfl (fun ls hl => ?_)
  refine lv_iinc (v := 1) (lv' := [(6, .int 1), (5, .int 0), (9, .int 0), (8, .int 0), (7, .int 0), (4, .int 1), (3, .int 0), (2, .int 5), (0, .ref h), (1, .int 0)]) hx hb dX6_cheapestAdditions_142 hl (k := 4) rfl (by decide) (by decide) rfl (fun ls hl => ?_)
  refine lv_goto (tgt := 37) hx hb dX6_cheapestAdditions_145 (by decide) ?_
  refine lv_iload hx hb dX6_cheapestAdditions_37 (lv_at hl 0 rfl) ?_
  refine lv_iload hx hb dX6_cheapestAdditions_39 (lv_at hl 5 rfl) ?_
  refine lv_icmp_ge (tgt := 148) hx hb dX6_cheapestAdditions_41 (by decide) (fun c_ => ?_) (fun c_ => absurd (by decide) c_)
  refine lv_iload hx hb dX6_cheapestAdditions_148 (lv_at hl 1 rfl) ?_
  exact x_iret (w := [(h, .inr (6, [.ref tp, .ref nw, .ref rw, .ref lg, .ref jd, .ref pr, .int 0]))]) hB hr hV hA (Nat.le_of_ble_eq_true rfl) (Nat.le_of_ble_eq_true rfl) [0] rfl rfl (by decide) dX6_cheapestAdditions_150 ⟨rfl, rfl⟩
set_option maxHeartbeats 4000000 in
set_option maxRecDepth 100000 in
theorem p_cheapest (l : Launch) (D : va_G) (cI cZ cS : ClassId) (N0 : NT) (h : Nat) (tp : Nat) (nw : Nat) (rw : Nat) (lg : Nat) (jd : Nat) (pr : Nat) (n1 : Nat) (n2 : Nat) (r1 : Nat) (r2 : Nat) (r3 : Nat) (s1 : Nat) (s2 : Nat) (s3 : Nat) (s4 : Nat) (s5 : Nat) (s6 : Nat) (s7 : Nat) (s8 : Nat) (s9 : Nat) (b1 : Nat) (b2 : Nat) (b3 : Nat) (b4 : Nat) (b5 : Nat) (b6 : Nat) (x1 : Int32)  : Mx l D cI cZ cS N0 yX6_cheapest cX6_cheapest 4 (some .int) 5 0 0 [.ref h, .int x1] [(h, .inr (6, [.ref tp, .ref nw, .ref rw, .ref lg, .ref jd, .ref pr, .int 0])), (nw, .inr (5, [.ref n1, .int 0, .int 0, .ref n2, .int 0, .int 0, .int 0, .int 0])), (rw, .inr (0, [.ref r1, .ref r2, .ref r3, .int 0])), (jd, .inr (1, [.ref s1, .ref s2, .ref s3, .ref b1, .ref b2, .ref b3, .int 0, .ref b4, .ref b5, .ref b6])), (s1, .inr (5, [.ref s4, .int 0, .int 0, .ref s5, .int 0, .int 0, .int 0, .int 0])), (s2, .inr (5, [.ref s6, .int 0, .int 0, .ref s7, .int 0, .int 0, .int 0, .int 0])), (s3, .inr (5, [.ref s8, .int 0, .int 0, .ref s9, .int 0, .int 0, .int 0, .int 0]))] (fun v w => ∃ (r : Int32), v = some (.int r) ∧ w = ([] : va_W) ∧ (r = sp_cheap x1)) := by
  refine x_enter (by decide) (Nat.le_of_ble_eq_true rfl) ?_
  intro p e s m args below meth c A ls H locs hB hr hin hl hV hA
  have hx := hB.1
  have hb := hB.2.1
  have hl : lv_has ls 4 [(0, .ref h), (1, .int x1)] := hl
  refine lv_iload_n hx hb dX6_cheapest_0 rfl (lv_at hl 1 rfl) ?_
  refine lv_iconst (v := 1) hx hb dX6_cheapest_1 (by decide) ?_
  refine x_callS (n := 2) (wr := [(h, .inr (6, [.ref tp, .ref nw, .ref rw, .ref lg, .ref jd, .ref pr, .int 0])), (nw, .inr (5, [.ref n1, .int 0, .int 0, .ref n2, .int 0, .int 0, .int 0, .int 0])), (rw, .inr (0, [.ref r1, .ref r2, .ref r3, .int 0])), (jd, .inr (1, [.ref s1, .ref s2, .ref s3, .ref b1, .ref b2, .ref b3, .int 0, .ref b4, .ref b5, .ref b6])), (s1, .inr (5, [.ref s4, .int 0, .int 0, .ref s5, .int 0, .int 0, .int 0, .int 0])), (s2, .inr (5, [.ref s6, .int 0, .int 0, .ref s7, .int 0, .int 0, .int 0, .int 0])), (s3, .inr (5, [.ref s8, .int 0, .int 0, .ref s9, .int 0, .int 0, .int 0, .int 0]))]) (As := [.int x1, .int 1]) (rest := []) hB hV (x_N hB) hl.1 (c_within l D cI cZ cS N0 x1 1 ) k_415 k_57 k_441 k_414 (by decide +kernel) ⟨(Nat.le_of_ble_eq_true rfl), (Nat.le_of_ble_eq_true rfl)⟩ rfl (Nat.le_of_ble_eq_true rfl) ⟨(Nat.le_of_ble_eq_true rfl), (Nat.le_of_ble_eq_true rfl)⟩ [] [0, 1, 2, 3, 4, 5, 6] rfl rfl rfl ⟨by decide, by decide, by decide⟩ dX6_cheapest_2 (fun v w H locs hp hV => ?_)
  obtain ⟨r_1, rfl, rfl, f_2⟩ := hp
  have hV : Vx D A s.heap H locs [(h, .inr (6, [.ref tp, .ref nw, .ref rw, .ref lg, .ref jd, .ref pr, .int 0])), (nw, .inr (5, [.ref n1, .int 0, .int 0, .ref n2, .int 0, .int 0, .int 0, .int 0])), (rw, .inr (0, [.ref r1, .ref r2, .ref r3, .int 0])), (jd, .inr (1, [.ref s1, .ref s2, .ref s3, .ref b1, .ref b2, .ref b3, .int 0, .ref b4, .ref b5, .ref b6])), (s1, .inr (5, [.ref s4, .int 0, .int 0, .ref s5, .int 0, .int 0, .int 0, .int 0])), (s2, .inr (5, [.ref s6, .int 0, .int 0, .ref s7, .int 0, .int 0, .int 0, .int 0])), (s3, .inr (5, [.ref s8, .int 0, .int 0, .ref s9, .int 0, .int 0, .int 0, .int 0]))] := hV
  refine W.eq (g2 := F0 m 5 ls [.int r_1]) rfl ?_
  rcases f_2 with ⟨rfl, hw_3⟩ | ⟨rfl, hw_3⟩
  · refine W.eq (g2 := F0 m 5 ls [.int 1]) rfl ?_
    refine lv_if_ne (tgt := 10) hx hb dX6_cheapest_5 (by decide) (fun c_ => ?_) (fun c_ => absurd c_ (by decide))
    refine lv_aload_n hx hb dX6_cheapest_10 rfl (lv_at hl 0 rfl) ?_
    refine x_get (v := .ref rw) hB hV 0 rfl rfl 2 (by decide) k_310 rfl dX6_cheapest_11 ?_
    refine x_get (v := .int 0) hB hV 2 rfl rfl 3 (by decide) k_256 rfl dX6_cheapest_14 ?_
    refine lv_iconst (v := 3) hx hb dX6_cheapest_17 (by decide) ?_
    refine lv_icmp_le (tgt := 24) hx hb dX6_cheapest_18 (by decide) (fun c_ => ?_) (fun c_ => absurd (by decide) c_)
    refine lv_aload_n hx hb dX6_cheapest_24 rfl (lv_at hl 0 rfl) ?_
    refine x_get (v := .ref nw) hB hV 0 rfl rfl 1 (by decide) k_309 rfl dX6_cheapest_25 ?_
    refine lv_aload_n hx hb dX6_cheapest_28 rfl (lv_at hl 0 rfl) ?_
    refine x_get (v := .ref rw) hB hV 0 rfl rfl 2 (by decide) k_310 rfl dX6_cheapest_29 ?_
    refine x_callV (n := 1) (wr := [(h, .inr (6, [.ref tp, .ref nw, .ref rw, .ref lg, .ref jd, .ref pr, .int 0])), (jd, .inr (1, [.ref s1, .ref s2, .ref s3, .ref b1, .ref b2, .ref b3, .int 0, .ref b4, .ref b5, .ref b6])), (s1, .inr (5, [.ref s4, .int 0, .int 0, .ref s5, .int 0, .int 0, .int 0, .int 0])), (s2, .inr (5, [.ref s6, .int 0, .int 0, .ref s7, .int 0, .int 0, .int 0, .int 0])), (s3, .inr (5, [.ref s8, .int 0, .int 0, .ref s9, .int 0, .int 0, .int 0, .int 0]))]) (q0 := 1) (As := [.ref rw]) (rest := []) hB hV (x_N hB) hl.1 (c_reachOf l D cI cZ cS N0 nw n1 n2 rw r1 r2 r3 ) rfl rfl k_684 k_59 k_681 k_682 k_683 (by decide +kernel) ⟨(Nat.le_of_ble_eq_true rfl), (Nat.le_of_ble_eq_true rfl)⟩ rfl (Nat.le_of_ble_eq_true rfl) ⟨(Nat.le_of_ble_eq_true rfl), (Nat.le_of_ble_eq_true rfl)⟩ [1, 2] [0, 3, 4, 5, 6] rfl rfl rfl ⟨by decide, by decide, by decide⟩ dX6_cheapest_32 (fun v w H locs hp hV => ?_)
    obtain ⟨rfl, rfl⟩ := hp
    have hV : Vx D A s.heap H locs [(h, .inr (6, [.ref tp, .ref nw, .ref rw, .ref lg, .ref jd, .ref pr, .int 0])), (jd, .inr (1, [.ref s1, .ref s2, .ref s3, .ref b1, .ref b2, .ref b3, .int 0, .ref b4, .ref b5, .ref b6])), (s1, .inr (5, [.ref s4, .int 0, .int 0, .ref s5, .int 0, .int 0, .int 0, .int 0])), (s2, .inr (5, [.ref s6, .int 0, .int 0, .ref s7, .int 0, .int 0, .int 0, .int 0])), (s3, .inr (5, [.ref s8, .int 0, .int 0, .ref s9, .int 0, .int 0, .int 0, .int 0])), (nw, .inr (5, [.ref n1, .int 0, .int 0, .ref n2, .int 0, .int 0, .int 0, .int 0])), (rw, .inr (0, [.ref r1, .ref r2, .ref r3, .int 0]))] := hV
    refine W.eq (g2 := F0 m 35 ls [.int 0]) rfl ?_
    refine lv_istore_n (lv' := [(2, .int 0), (0, .ref h), (1, .int x1)]) hx hb dX6_cheapest_35 rfl hl (by decide) rfl (fun ls hl => ?_)
    refine lv_iload_n hx hb dX6_cheapest_36 rfl (lv_at hl 0 rfl) ?_
    refine x_callS (n := 1) (wr := [(h, .inr (6, [.ref tp, .ref nw, .ref rw, .ref lg, .ref jd, .ref pr, .int 0])), (jd, .inr (1, [.ref s1, .ref s2, .ref s3, .ref b1, .ref b2, .ref b3, .int 0, .ref b4, .ref b5, .ref b6])), (s1, .inr (5, [.ref s4, .int 0, .int 0, .ref s5, .int 0, .int 0, .int 0, .int 0])), (s2, .inr (5, [.ref s6, .int 0, .int 0, .ref s7, .int 0, .int 0, .int 0, .int 0])), (s3, .inr (5, [.ref s8, .int 0, .int 0, .ref s9, .int 0, .int 0, .int 0, .int 0])), (nw, .inr (5, [.ref n1, .int 0, .int 0, .ref n2, .int 0, .int 0, .int 0, .int 0])), (rw, .inr (0, [.ref r1, .ref r2, .ref r3, .int 0]))]) (As := [.int 0]) (rest := []) hB hV (x_N hB) hl.1 (c_bitCount l D cI cZ cS N0  ) k_687 k_71 k_685 k_686 (by decide +kernel) ⟨(Nat.le_of_ble_eq_true rfl), (Nat.le_of_ble_eq_true rfl)⟩ rfl (Nat.le_of_ble_eq_true rfl) ⟨(Nat.le_of_ble_eq_true rfl), (Nat.le_of_ble_eq_true rfl)⟩ [] [0, 1, 2, 3, 4, 5, 6] rfl rfl rfl ⟨by decide, by decide, by decide⟩ dX6_cheapest_37 (fun v w H locs hp hV => ?_)
    obtain ⟨rfl, rfl⟩ := hp
    have hV : Vx D A s.heap H locs [(h, .inr (6, [.ref tp, .ref nw, .ref rw, .ref lg, .ref jd, .ref pr, .int 0])), (jd, .inr (1, [.ref s1, .ref s2, .ref s3, .ref b1, .ref b2, .ref b3, .int 0, .ref b4, .ref b5, .ref b6])), (s1, .inr (5, [.ref s4, .int 0, .int 0, .ref s5, .int 0, .int 0, .int 0, .int 0])), (s2, .inr (5, [.ref s6, .int 0, .int 0, .ref s7, .int 0, .int 0, .int 0, .int 0])), (s3, .inr (5, [.ref s8, .int 0, .int 0, .ref s9, .int 0, .int 0, .int 0, .int 0])), (nw, .inr (5, [.ref n1, .int 0, .int 0, .ref n2, .int 0, .int 0, .int 0, .int 0])), (rw, .inr (0, [.ref r1, .ref r2, .ref r3, .int 0]))] := hV
    refine W.eq (g2 := F0 m 40 ls [.int 0]) rfl ?_
    refine lv_iconst (v := 2) hx hb dX6_cheapest_40 (by decide) ?_
    refine lv_icmp_le (tgt := 47) hx hb dX6_cheapest_41 (by decide) (fun c_ => ?_) (fun c_ => absurd (by decide) c_)
    refine lv_aload_n hx hb dX6_cheapest_47 rfl (lv_at hl 1 rfl) ?_
    refine lv_iload_n hx hb dX6_cheapest_48 rfl (lv_at hl 0 rfl) ?_
    refine x_callV (n := 1) (wr := []) (q0 := 0) (As := [.int 0]) (rest := []) hB hV (x_N hB) hl.1 (c_cheapestAdditions l D cI cZ cS N0 h tp nw rw lg jd pr n1 n2 r1 r2 r3 s1 s2 s3 s4 s5 s6 s7 s8 s9 b1 b2 b3 b4 b5 b6 ) rfl rfl k_694 k_57 k_691 k_693 k_19 (by decide +kernel) ⟨(Nat.le_of_ble_eq_true rfl), (Nat.le_of_ble_eq_true rfl)⟩ rfl (Nat.le_of_ble_eq_true rfl) ⟨(Nat.le_of_ble_eq_true rfl), (Nat.le_of_ble_eq_true rfl)⟩ [0, 5, 6, 1, 2, 3, 4] [] rfl rfl rfl ⟨by decide, by decide, by decide⟩ dX6_cheapest_49 (fun v w H locs hp hV => ?_)
    obtain ⟨rfl, rfl⟩ := hp
    have hV : Vx D A s.heap H locs [(h, .inr (6, [.ref tp, .ref nw, .ref rw, .ref lg, .ref jd, .ref pr, .int 0]))] := hV
    refine W.eq (g2 := F0 m 52 ls [.int 0]) rfl ?_
    refine lv_istore_n (lv' := [(3, .int 0), (2, .int 0), (0, .ref h), (1, .int x1)]) hx hb dX6_cheapest_52 rfl hl (by decide) rfl (fun ls hl => ?_)
    refine lv_iload_n hx hb dX6_cheapest_53 rfl (lv_at hl 0 rfl) ?_
    refine lv_iconst (v := (-1)) hx hb dX6_cheapest_54 (by decide) ?_
    refine lv_icmp_eq (tgt := 63) hx hb dX6_cheapest_55 (by decide) (fun c_ => absurd c_ (by decide)) (fun c_ => ?_)
    refine lv_iload_n hx hb dX6_cheapest_58 rfl (lv_at hl 3 rfl) ?_
    refine lv_iconst (v := 1) hx hb dX6_cheapest_59 (by decide) ?_
    refine lv_icmp_ne (tgt := 67) hx hb dX6_cheapest_60 (by decide) (fun c5 => ?_) (fun c5 => ?_)
    · refine lv_aload_n hx hb dX6_cheapest_67 rfl (lv_at hl 2 rfl) ?_
      refine lv_iload_n hx hb dX6_cheapest_68 rfl (lv_at hl 0 rfl) ?_
      refine x_callV (n := 1) (wr := []) (q0 := 0) (As := [.int 0]) (rest := []) hB hV (x_N hB) hl.1 (c_priceOf l D cI cZ cS N0 h tp nw rw lg jd pr ) rfl rfl k_706 k_57 k_703 k_705 k_20 (by decide +kernel) ⟨(Nat.le_of_ble_eq_true rfl), (Nat.le_of_ble_eq_true rfl)⟩ rfl (Nat.le_of_ble_eq_true rfl) ⟨(Nat.le_of_ble_eq_true rfl), (Nat.le_of_ble_eq_true rfl)⟩ [0] [] rfl rfl rfl ⟨by decide, by decide, by decide⟩ dX6_cheapest_69 (fun v w H locs hp hV => ?_)
      obtain ⟨rfl, rfl⟩ := hp
      have hV : Vx D A s.heap H locs [(h, .inr (6, [.ref tp, .ref nw, .ref rw, .ref lg, .ref jd, .ref pr, .int 0]))] := hV
      refine W.eq (g2 := F0 m 72 ls [.int 0]) rfl ?_
      exact x_iret (w := []) hB hr hV hA (Nat.le_of_ble_eq_true rfl) (Nat.le_of_ble_eq_true rfl) [] rfl rfl (by decide) dX6_cheapest_72 ⟨0, rfl, rfl, (if_neg hw_3).symm⟩
    · refine lv_iload_n hx hb dX6_cheapest_63 rfl (lv_at hl 0 rfl) ?_
      refine lv_goto (tgt := 72) hx hb dX6_cheapest_64 (by decide) ?_
      exact x_iret (w := []) hB hr hV hA (Nat.le_of_ble_eq_true rfl) (Nat.le_of_ble_eq_true rfl) [] rfl rfl (by decide) dX6_cheapest_72 ⟨0, rfl, rfl, (if_neg hw_3).symm⟩
  · refine W.eq (g2 := F0 m 5 ls [.int 0]) rfl ?_
    refine lv_if_ne (tgt := 10) hx hb dX6_cheapest_5 (by decide) (fun c_ => absurd (by decide) c_) (fun c_ => ?_)
    refine lv_iconst (v := (-1)) hx hb dX6_cheapest_8 (by decide) ?_
    exact x_iret (w := []) hB hr hV hA (Nat.le_of_ble_eq_true rfl) (Nat.le_of_ble_eq_true rfl) [] rfl rfl (by decide) dX6_cheapest_9 ⟨(-1), rfl, rfl, (if_pos hw_3).symm⟩
set_option maxHeartbeats 4000000 in
set_option maxRecDepth 100000 in
theorem p_count (l : Launch) (D : va_G) (cI cZ cS : ClassId) (N0 : NT) (h : Nat) (tp : Nat) (nw : Nat) (rw : Nat) (lg : Nat) (jd : Nat) (pr : Nat) (n1 : Nat) (n2 : Nat) (r1 : Nat) (r2 : Nat) (r3 : Nat) (l1 : Nat) (l2 : Nat) (l3 : Nat) (byt : Nat) (x1 : Int32)  : Mx l D cI cZ cS N0 yX6_count cX6_count 2 (some .int) 1 0 0 [.ref h, .int x1] [(h, .inr (6, [.ref tp, .ref nw, .ref rw, .ref lg, .ref jd, .ref pr, .int 0])), (nw, .inr (5, [.ref n1, .int 0, .int 0, .ref n2, .int 0, .int 0, .int 0, .int 0])), (rw, .inr (0, [.ref r1, .ref r2, .ref r3, .int 0])), (lg, .inr (0, [.ref l1, .ref l2, .ref l3, .int 0])), (tp, .inr (4, [.ref byt, .int 0, .int 0, .int 0]))] (fun v w => ∃ (r : Int32), v = some (.int r) ∧ w = ([] : va_W) ∧ (r = sp_count x1)) := by
  refine x_enter (by decide) (Nat.le_of_ble_eq_true rfl) ?_
  intro p e s m args below meth c A ls H locs hB hr hin hl hV hA
  have hx := hB.1
  have hb := hB.2.1
  have hl : lv_has ls 2 [(0, .ref h), (1, .int x1)] := hl
  refine lv_iload_n hx hb dX6_count_0 rfl (lv_at hl 1 rfl) ?_
  by_cases ht_1 : (x1 < 0 ∨ 5 < x1)
  · refine lv_tableOut (tgt := 88) hx hb dX6_count_1 (sw_out ht_1) (by decide) ?_
    refine lv_iconst (v := (-1)) hx hb dX6_count_88 (by decide) ?_
    exact x_iret (w := []) hB hr hV hA (Nat.le_of_ble_eq_true rfl) (Nat.le_of_ble_eq_true rfl) [] rfl rfl (by decide) dX6_count_89 ⟨(-1), rfl, rfl, (if_pos ht_1).symm⟩
  · obtain ⟨j_2, hj_2, ej_2⟩ := sw_in (n := 6) rfl ht_1
    rcases (show j_2 = 0 ∨ j_2 = 1 ∨ j_2 = 2 ∨ j_2 = 3 ∨ j_2 = 4 ∨ j_2 = 5 by omega) with rfl | rfl | rfl | rfl | rfl | rfl
    · refine x_ev (y := 0) ej_2 ?_
      refine lv_tableIn (off := 39) (tgt := 40) hx hb dX6_count_1 (by decide) (by decide) rfl (by decide) ?_
      refine lv_aload_n hx hb dX6_count_40 rfl (lv_at hl 0 rfl) ?_
      refine x_get (v := .ref nw) hB hV 0 rfl rfl 1 (by decide) k_309 rfl dX6_count_41 ?_
      refine x_get (v := .int 0) hB hV 1 rfl rfl 1 (by decide) k_203 rfl dX6_count_44 ?_
      exact x_iret (w := []) hB hr hV hA (Nat.le_of_ble_eq_true rfl) (Nat.le_of_ble_eq_true rfl) [] rfl rfl (by decide) dX6_count_47 ⟨0, rfl, rfl, (if_neg ht_1).symm⟩
    · refine x_ev (y := 1) ej_2 ?_
      refine lv_tableIn (off := 47) (tgt := 48) hx hb dX6_count_1 (by decide) (by decide) rfl (by decide) ?_
      refine lv_aload_n hx hb dX6_count_48 rfl (lv_at hl 0 rfl) ?_
      refine x_get (v := .ref rw) hB hV 0 rfl rfl 2 (by decide) k_310 rfl dX6_count_49 ?_
      refine x_get (v := .int 0) hB hV 2 rfl rfl 3 (by decide) k_256 rfl dX6_count_52 ?_
      exact x_iret (w := []) hB hr hV hA (Nat.le_of_ble_eq_true rfl) (Nat.le_of_ble_eq_true rfl) [] rfl rfl (by decide) dX6_count_55 ⟨0, rfl, rfl, (if_neg ht_1).symm⟩
    · refine x_ev (y := 2) ej_2 ?_
      refine lv_tableIn (off := 55) (tgt := 56) hx hb dX6_count_1 (by decide) (by decide) rfl (by decide) ?_
      refine lv_aload_n hx hb dX6_count_56 rfl (lv_at hl 0 rfl) ?_
      refine x_get (v := .ref nw) hB hV 0 rfl rfl 1 (by decide) k_309 rfl dX6_count_57 ?_
      refine x_get (v := .int 0) hB hV 1 rfl rfl 4 (by decide) k_211 rfl dX6_count_60 ?_
      exact x_iret (w := []) hB hr hV hA (Nat.le_of_ble_eq_true rfl) (Nat.le_of_ble_eq_true rfl) [] rfl rfl (by decide) dX6_count_63 ⟨0, rfl, rfl, (if_neg ht_1).symm⟩
    · refine x_ev (y := 3) ej_2 ?_
      refine lv_tableIn (off := 63) (tgt := 64) hx hb dX6_count_1 (by decide) (by decide) rfl (by decide) ?_
      refine lv_aload_n hx hb dX6_count_64 rfl (lv_at hl 0 rfl) ?_
      refine x_get (v := .ref nw) hB hV 0 rfl rfl 1 (by decide) k_309 rfl dX6_count_65 ?_
      refine x_get (v := .int 0) hB hV 1 rfl rfl 2 (by decide) k_206 rfl dX6_count_68 ?_
      exact x_iret (w := []) hB hr hV hA (Nat.le_of_ble_eq_true rfl) (Nat.le_of_ble_eq_true rfl) [] rfl rfl (by decide) dX6_count_71 ⟨0, rfl, rfl, (if_neg ht_1).symm⟩
    · refine x_ev (y := 4) ej_2 ?_
      refine lv_tableIn (off := 71) (tgt := 72) hx hb dX6_count_1 (by decide) (by decide) rfl (by decide) ?_
      refine lv_aload_n hx hb dX6_count_72 rfl (lv_at hl 0 rfl) ?_
      refine x_get (v := .ref lg) hB hV 0 rfl rfl 3 (by decide) k_311 rfl dX6_count_73 ?_
      refine x_get (v := .int 0) hB hV 3 rfl rfl 3 (by decide) k_256 rfl dX6_count_76 ?_
      exact x_iret (w := []) hB hr hV hA (Nat.le_of_ble_eq_true rfl) (Nat.le_of_ble_eq_true rfl) [] rfl rfl (by decide) dX6_count_79 ⟨0, rfl, rfl, (if_neg ht_1).symm⟩
    · refine x_ev (y := 5) ej_2 ?_
      refine lv_tableIn (off := 79) (tgt := 80) hx hb dX6_count_1 (by decide) (by decide) rfl (by decide) ?_
      refine lv_aload_n hx hb dX6_count_80 rfl (lv_at hl 0 rfl) ?_
      refine x_get (v := .ref tp) hB hV 0 rfl rfl 0 (by decide) k_308 rfl dX6_count_81 ?_
      refine x_get (v := .int 0) hB hV 4 rfl rfl 1 (by decide) k_88 rfl dX6_count_84 ?_
      exact x_iret (w := []) hB hr hV hA (Nat.le_of_ble_eq_true rfl) (Nat.le_of_ble_eq_true rfl) [] rfl rfl (by decide) dX6_count_87 ⟨0, rfl, rfl, (if_neg ht_1).symm⟩
end
section
theorem k_334 : Cond.methodLink RX6 54 yX4_append ∈ tb := mt 334 (by decide +kernel) rfl
theorem k_335 : Cond.instanceMethod yX4_append ∈ tb := mt 335 (by decide +kernel) rfl
theorem k_336 : Cond.selects RX4 yX4_append yX4_append ∈ tb := mt 336 (by decide +kernel) rfl
set_option maxRecDepth 20000 in
theorem k_337 : Cond.code yX4_append cX4_append 5 none ∈ tb := mt 337 rfl rfl
theorem k_338 : Cond.constantLong RX4 25 255 ∈ tb := mt 338 (by decide +kernel) rfl
theorem dX4_append_5 : decode cX4_append 5 = .ok (.iload 4, 2) := by decide +kernel
theorem dX4_append_7 : decode cX4_append 7 = .ok (.ifCond .lt 49, 3) := by decide +kernel
theorem dX4_append_10 : decode cX4_append 10 = .ok (.aload_n 0, 1) := by decide +kernel
theorem dX4_append_11 : decode cX4_append 11 = .ok (.getfield 15, 3) := by decide +kernel
theorem dX4_append_14 : decode cX4_append 14 = .ok (.bipush 100, 2) := by decide +kernel
theorem dX4_append_16 : decode cX4_append 16 = .ok (.if_icmp .ge 40, 3) := by decide +kernel
theorem dX4_append_19 : decode cX4_append 19 = .ok (.aload_n 0, 1) := by decide +kernel
theorem dX4_append_20 : decode cX4_append 20 = .ok (.getfield 9, 3) := by decide +kernel
theorem dX4_append_23 : decode cX4_append 23 = .ok (.aload_n 0, 1) := by decide +kernel
theorem dX4_append_24 : decode cX4_append 24 = .ok (.getfield 15, 3) := by decide +kernel
theorem dX4_append_27 : decode cX4_append 27 = .ok (.lload_n 1, 1) := by decide +kernel
theorem dX4_append_28 : decode cX4_append 28 = .ok (.bipush 8, 2) := by decide +kernel
theorem dX4_append_30 : decode cX4_append 30 = .ok (.iload 4, 2) := by decide +kernel
theorem dX4_append_32 : decode cX4_append 32 = .ok (.imul, 1) := by decide +kernel
theorem dX4_append_33 : decode cX4_append 33 = .ok (.lushr, 1) := by decide +kernel
theorem dX4_append_34 : decode cX4_append 34 = .ok (.ldc2_w 25, 3) := by decide +kernel
theorem dX4_append_37 : decode cX4_append 37 = .ok (.land, 1) := by decide +kernel
theorem dX4_append_38 : decode cX4_append 38 = .ok (.l2i, 1) := by decide +kernel
theorem dX4_append_39 : decode cX4_append 39 = .ok (.iastore, 1) := by decide +kernel
theorem dX4_append_40 : decode cX4_append 40 = .ok (.aload_n 0, 1) := by decide +kernel
theorem dX4_append_41 : decode cX4_append 41 = .ok (.dup, 1) := by decide +kernel
theorem dX4_append_42 : decode cX4_append 42 = .ok (.getfield 15, 3) := by decide +kernel
theorem dX4_append_45 : decode cX4_append 45 = .ok (.iconst 1, 1) := by decide +kernel
theorem dX4_append_46 : decode cX4_append 46 = .ok (.iadd, 1) := by decide +kernel
theorem dX4_append_47 : decode cX4_append 47 = .ok (.putfield 15, 3) := by decide +kernel
theorem dX4_append_50 : decode cX4_append 50 = .ok (.iinc 4 (-1), 3) := by decide +kernel
theorem dX4_append_53 : decode cX4_append 53 = .ok (.goto (-48), 3) := by decide +kernel
theorem dX4_append_0 : decode cX4_append 0 = .ok (.iload_n 3, 1) := by decide +kernel
theorem dX4_append_1 : decode cX4_append 1 = .ok (.iconst 1, 1) := by decide +kernel
theorem dX4_append_2 : decode cX4_append 2 = .ok (.isub, 1) := by decide +kernel
theorem dX4_append_3 : decode cX4_append 3 = .ok (.istore 4, 2) := by decide +kernel
theorem dX4_append_56 : decode cX4_append 56 = .ok (.return_, 1) := by decide +kernel
theorem dX6_feed_0 : decode cX6_feed 0 = .ok (.iload_n 3, 1) := by decide +kernel
theorem dX6_feed_1 : decode cX6_feed 1 = .ok (.iconst 1, 1) := by decide +kernel
theorem dX6_feed_2 : decode cX6_feed 2 = .ok (.if_icmp .lt 9, 3) := by decide +kernel
theorem dX6_feed_11 : decode cX6_feed 11 = .ok (.bipush (-2), 2) := by decide +kernel
theorem dX6_feed_13 : decode cX6_feed 13 = .ok (.ireturn, 1) := by decide +kernel
theorem dX6_feed_5 : decode cX6_feed 5 = .ok (.iload_n 3, 1) := by decide +kernel
theorem dX6_feed_6 : decode cX6_feed 6 = .ok (.bipush 8, 2) := by decide +kernel
theorem dX6_feed_8 : decode cX6_feed 8 = .ok (.if_icmp .le 6, 3) := by decide +kernel
theorem dX6_feed_14 : decode cX6_feed 14 = .ok (.aload_n 0, 1) := by decide +kernel
theorem dX6_feed_15 : decode cX6_feed 15 = .ok (.getfield 12, 3) := by decide +kernel
theorem dX6_feed_18 : decode cX6_feed 18 = .ok (.getfield 50, 3) := by decide +kernel
theorem dX6_feed_21 : decode cX6_feed 21 = .ok (.iload_n 3, 1) := by decide +kernel
theorem dX6_feed_22 : decode cX6_feed 22 = .ok (.iadd, 1) := by decide +kernel
theorem dX6_feed_23 : decode cX6_feed 23 = .ok (.bipush 100, 2) := by decide +kernel
theorem dX6_feed_25 : decode cX6_feed 25 = .ok (.if_icmp .le 6, 3) := by decide +kernel
theorem dX6_feed_31 : decode cX6_feed 31 = .ok (.aload_n 0, 1) := by decide +kernel
theorem dX6_feed_32 : decode cX6_feed 32 = .ok (.getfield 12, 3) := by decide +kernel
theorem dX6_feed_35 : decode cX6_feed 35 = .ok (.lload_n 1, 1) := by decide +kernel
theorem dX6_feed_36 : decode cX6_feed 36 = .ok (.iload_n 3, 1) := by decide +kernel
theorem dX6_feed_37 : decode cX6_feed 37 = .ok (.invokevirtual 54, 3) := by decide +kernel
theorem dX6_feed_40 : decode cX6_feed 40 = .ok (.aload_n 0, 1) := by decide +kernel
theorem dX6_feed_41 : decode cX6_feed 41 = .ok (.getfield 12, 3) := by decide +kernel
theorem dX6_feed_44 : decode cX6_feed 44 = .ok (.getfield 50, 3) := by decide +kernel
theorem dX6_feed_47 : decode cX6_feed 47 = .ok (.ireturn, 1) := by decide +kernel
set_option maxHeartbeats 4000000 in
set_option maxRecDepth 100000 in
theorem lp_append {p : Program} {l : Launch} {e : Env} {R : Room} {s : State} {m : MethodId} {args : Array Value} {below : List Frame} {meth : Method} {c : Code} {D : va_G} {cI cZ cS : ClassId} {A : Nat → Prop} {N0 : NT} {cells slots : Nat} {Q : State → Prop} (hB : Bx p s m meth c args cX4_append 5 RX4 D cI cZ cS A N0) (h : Nat) (byt : Nat) (w : Int64) (x3 : Int32) (tt : Nat)  (K : ∀ (f : Nat → Int32) (H : Heap) (locs : List Loc) (ls : Array Slot), Vx D A s.heap H locs [(h, .inr (4, [.ref byt, .int (nI tt), .int 0, .int 0])), (byt, .inl (cI, 100, .inl f))] → lv_has ls 5 [(4, .int (-1)), (0, .ref h), (1, .long w), (3, .int x3)] → W p l e R s m args below meth c H locs cells slots Q (F0 m 56 ls [])) :
    ∀ (k : Nat) (t : Nat) (f : Nat → Int32) (H : Heap) (locs : List Loc) (ls : Array Slot), t + k = tt → tt ≤ 8 → Vx D A s.heap H locs [(h, .inr (4, [.ref byt, .int (nI t), .int 0, .int 0])), (byt, .inl (cI, 100, .inl f))] → lv_has ls 5 [(4, .int (dn k)), (0, .ref h), (1, .long w), (3, .int x3)] → W p l e R s m args below meth c H locs cells slots Q (F0 m 5 ls []) := by
  have hx := hB.1
  have hb := hB.2.1
  intro k
  induction k with
  | zero =>
    intro t f H locs ls hT h8 hV hl
    obtain rfl : tt = t := by omega
    have hV : Vx D A s.heap H locs [(h, .inr (4, [.ref byt, .int (nI tt), .int 0, .int 0])), (byt, .inl (cI, 100, .inl f))] := hV
    have hl : lv_has ls 5 [(4, .int (-1)), (0, .ref h), (1, .long w), (3, .int x3)] := hl
    refine lv_iload hx hb dX4_append_5 (lv_at hl 0 rfl) ?_
    refine lv_if_lt (tgt := 56) hx hb dX4_append_7 (by decide) (fun c_ => ?_) (fun c_ => absurd (by decide) c_)
    exact K f H locs ls hV (lv_sub hl [0, 1, 2, 3] rfl)
  | succ k ih =>
    intro t f H locs ls hT h8 hV hl
    have hV : Vx D A s.heap H locs [(h, .inr (4, [.ref byt, .int (nI t), .int 0, .int 0])), (byt, .inl (cI, 100, .inl f))] := hV
    have hl : lv_has ls 5 [(4, .int (nI k)), (0, .ref h), (1, .long w), (3, .int x3)] := hl
    refine lv_iload hx hb dX4_append_5 (lv_at hl 0 rfl) ?_
    refine lv_if_lt (tgt := 56) hx hb dX4_append_7 (by decide) (fun c_ => absurd c_ (nI_pos (by omega))) (fun c_ => ?_)
    refine lv_aload_n hx hb dX4_append_10 rfl (lv_at hl 1 rfl) ?_
    refine x_get (v := .int (nI t)) hB hV 0 rfl rfl 1 (by decide) k_87 rfl dX4_append_11 ?_
    refine lv_bipush (v := 100) hx hb dX4_append_14 (by decide) ?_
    refine lv_icmp_ge (tgt := 56) hx hb dX4_append_16 (by decide) (fun c_ => absurd c_ (nI_ge (a := t) (b := 100) (by omega) (by decide))) (fun c_ => ?_)
    refine lv_aload_n hx hb dX4_append_19 rfl (lv_at hl 1 rfl) ?_
    refine x_get (v := .ref byt) hB hV 0 rfl rfl 0 (by decide) k_86 rfl dX4_append_20 ?_
    refine lv_aload_n hx hb dX4_append_23 rfl (lv_at hl 1 rfl) ?_
    refine x_get (v := .int (nI t)) hB hV 0 rfl rfl 1 (by decide) k_87 rfl dX4_append_24 ?_
    refine lv_lload_n hx hb dX4_append_27 rfl (lv_at hl 2 rfl) ?_
    refine lv_bipush (v := 8) hx hb dX4_append_28 (by decide) ?_
    refine lv_iload hx hb dX4_append_30 (lv_at hl 0 rfl) ?_
    refine lv_imul hx hb dX4_append_32 ?_
    refine lv_topi (fun z_1 ez_1 => ?_)
    refine lv_lushr hx hb dX4_append_33 rfl ?_
    refine lv_topl (fun z_2 ez_2 => ?_)
    refine lv_ldc2 (v := 255) hx hb hB.2.2.2.1 (hB.2.2.2.2.1 _ k_338) dX4_append_34 ?_
    refine lv_land hx hb dX4_append_37 ?_
    refine lv_topl (fun z_3 ez_3 => ?_)
    refine lv_l2i hx hb dX4_append_38 rfl ?_
    refine lv_topi (fun z_4 ez_4 => ?_)
    refine x_iast (g := (upd f (nI t).toNatClampNeg z_4)) hB hV 1 rfl (vp_in_nI (by omega) (by decide)) rfl dX4_append_39 (fun H locs hV => ?_)
    have hV : Vx D A s.heap H locs [(h, .inr (4, [.ref byt, .int (nI t), .int 0, .int 0])), (byt, .inl (cI, 100, .inl (upd f (nI t).toNatClampNeg z_4)))] := hV
    refine lv_aload_n hx hb dX4_append_40 rfl (lv_at hl 1 rfl) ?_
    refine lv_dup hx hb dX4_append_41 rfl ?_
    refine x_get (v := .int (nI t)) hB hV 0 rfl rfl 1 (by decide) k_87 rfl dX4_append_42 ?_
    refine lv_iconst (v := 1) hx hb dX4_append_45 (by decide) ?_
    refine lv_iadd hx hb dX4_append_46 ?_
    refine x_ev (y := nI (t + 1)) (nI_add t 1) ?_
    refine x_put (v := .int (nI (t + 1))) hB hV 0 rfl rfl 1 (by decide) k_87 rfl rfl rfl (Nat.le_of_ble_eq_true rfl) dX4_append_47 (fun H locs hV => ?_)
    have hV : Vx D A s.heap H locs [(h, .inr (4, [.ref byt, .int (nI (t + 1)), .int 0, .int 0])), (byt, .inl (cI, 100, .inl (upd f (nI t).toNatClampNeg z_4)))] := hV
    refine lv_iinc (v := dn k) (lv' := [(4, .int (dn k)), (0, .ref h), (1, .long w), (3, .int x3)]) hx hb dX4_append_50 hl (k := 0) rfl (dn_dec k) (by decide) rfl (fun ls hl => ?_)
    refine lv_goto (tgt := 5) hx hb dX4_append_53 (by decide) ?_
    exact ih (t + 1) _ H locs ls (by omega) h8 hV (lv_sub hl [0, 1, 2, 3] rfl)
set_option maxHeartbeats 4000000 in
set_option maxRecDepth 100000 in
theorem c_append (l : Launch) (D : va_G) (cI cZ cS : ClassId) (N0 : NT) (h : Nat) (byt : Nat) (f : Nat → Int32) (w : Int64) (j : Nat) (x3 : Int32) (hj : j < 8) (e3 : x3 = nI (j + 1)) : Mx l D cI cZ cS N0 yX4_append cX4_append 5 none 1 0 0 [.ref h, .long w, .int x3] [(h, .inr (4, [.ref byt, .int 0, .int 0, .int 0])), (byt, .inl (cI, 100, .inl f))] (fun v w => v = none ∧ w = ([(h, .inr (4, [.ref byt, .int x3, .int 0, .int 0]))] : va_W)) := by
  refine x_enter (by decide) (Nat.le_of_ble_eq_true rfl) ?_
  intro p e s m args below meth c A ls H locs hB hr hin hl hV hA
  have hx := hB.1
  have hb := hB.2.1
  have hl : lv_has ls 5 [(0, .ref h), (1, .long w), (3, .int x3)] := hl
  refine lv_iload_n hx hb dX4_append_0 rfl (lv_at hl 2 rfl) ?_
  refine lv_iconst (v := 1) hx hb dX4_append_1 (by decide) ?_
  refine lv_isub hx hb dX4_append_2 ?_
  refine x_ev (y := nI j) (by rw [e3]; exact nI_pred j) ?_
  refine lv_istore (lv' := [(4, .int (nI j)), (0, .ref h), (1, .long w), (3, .int x3)]) hx hb dX4_append_3 hl (by decide) rfl (fun ls hl => ?_)
  subst e3
  refine lp_append hB h byt w (nI (j + 1)) (j + 1) (fun f H locs ls hV hl => ?_) (j + 1) 0 _ H locs ls (by omega) (by omega) hV (lv_sub hl [0, 1, 2, 3] rfl)
  exact x_vret (w := [(h, .inr (4, [.ref byt, .int (nI (j + 1)), .int 0, .int 0]))]) hB hr hV hA (Nat.le_of_ble_eq_true rfl) (Nat.le_of_ble_eq_true rfl) [0] rfl rfl (by decide) dX4_append_56 ⟨rfl, rfl⟩
theorem n_of {x : Int32} (h1 : ¬ x < 1) (h2 : x ≤ 8) : ∃ j : Nat, j < 8 ∧ x = nI (j + 1) := by
  have h0 : ¬ x < 0 := fun q => h1 (by
    rw [Int32.lt_iff_toInt_lt] at q ⊢
    have e0 : (0 : Int32).toInt = 0 := by decide
    have e1 : (1 : Int32).toInt = 1 := by decide
    omega)
  obtain ⟨j, hj, rfl⟩ := nI_of h0
  rw [Int32.lt_iff_toInt_lt, nI_toInt hj] at h1
  rw [Int32.le_iff_toInt_le, nI_toInt hj] at h2
  have e1 : (1 : Int32).toInt = 1 := by decide
  have e8 : (8 : Int32).toInt = 8 := by decide
  cases j with
  | zero => exact absurd e1 (by omega)
  | succ j => exact ⟨j, by omega, rfl⟩
set_option maxHeartbeats 4000000 in
set_option maxRecDepth 100000 in
theorem p_feed (l : Launch) (D : va_G) (cI cZ cS : ClassId) (N0 : NT) (h : Nat) (tp : Nat) (nw : Nat) (rw : Nat) (lg : Nat) (jd : Nat) (pr : Nat) (byt : Nat) (w : Int64) (x1 : Int32)  : Mx l D cI cZ cS N0 yX6_feed cX6_feed 4 (some .int) 2 0 0 [.ref h, .long w, .int x1] [(h, .inr (6, [.ref tp, .ref nw, .ref rw, .ref lg, .ref jd, .ref pr, .int 0])), (tp, .inr (4, [.ref byt, .int 0, .int 0, .int 0])), (byt, .inl (cI, 100, .inl (fun _ => 0)))] (fun v w => ∃ (r : Int32), v = some (.int r) ∧ w = ([] : va_W) ∧ (r = sp_feed x1)) := by
  refine x_enter (by decide) (Nat.le_of_ble_eq_true rfl) ?_
  intro p e s m args below meth c A ls H locs hB hr hin hl hV hA
  have hx := hB.1
  have hb := hB.2.1
  have hl : lv_has ls 4 [(0, .ref h), (1, .long w), (3, .int x1)] := hl
  refine lv_iload_n hx hb dX6_feed_0 rfl (lv_at hl 2 rfl) ?_
  refine lv_iconst (v := 1) hx hb dX6_feed_1 (by decide) ?_
  refine lv_icmp_lt (tgt := 11) hx hb dX6_feed_2 (by decide) (fun c1 => ?_) (fun c1 => ?_)
  · refine lv_bipush (v := (-2)) hx hb dX6_feed_11 (by decide) ?_
    exact x_iret (w := []) hB hr hV hA (Nat.le_of_ble_eq_true rfl) (Nat.le_of_ble_eq_true rfl) [] rfl rfl (by decide) dX6_feed_13 ⟨(-2), rfl, rfl, (if_pos (Or.inl c1)).symm⟩
  · refine lv_iload_n hx hb dX6_feed_5 rfl (lv_at hl 2 rfl) ?_
    refine lv_bipush (v := 8) hx hb dX6_feed_6 (by decide) ?_
    refine lv_icmp_le (tgt := 14) hx hb dX6_feed_8 (by decide) (fun c2 => ?_) (fun c2 => ?_)
    · obtain ⟨j, hj, e1⟩ := n_of c1 c2
      refine lv_aload_n hx hb dX6_feed_14 rfl (lv_at hl 0 rfl) ?_
      refine x_get (v := .ref tp) hB hV 0 rfl rfl 0 (by decide) k_308 rfl dX6_feed_15 ?_
      refine x_get (v := .int 0) hB hV 1 rfl rfl 1 (by decide) k_88 rfl dX6_feed_18 ?_
      refine lv_iload_n hx hb dX6_feed_21 rfl (lv_at hl 2 rfl) ?_
      refine lv_iadd hx hb dX6_feed_22 ?_
      refine x_ev (y := nI (j + 1)) (by rw [e1, Int32.zero_add]) ?_
      refine lv_bipush (v := 100) hx hb dX6_feed_23 (by decide) ?_
      refine lv_icmp_le (tgt := 31) hx hb dX6_feed_25 (by decide) (fun c_ => ?_) (fun c_ => absurd (nI_le (a := j + 1) (b := 100) (by omega) (by decide)) c_)
      refine lv_aload_n hx hb dX6_feed_31 rfl (lv_at hl 0 rfl) ?_
      refine x_get (v := .ref tp) hB hV 0 rfl rfl 0 (by decide) k_308 rfl dX6_feed_32 ?_
      refine lv_lload_n hx hb dX6_feed_35 rfl (lv_at hl 1 rfl) ?_
      refine lv_iload_n hx hb dX6_feed_36 rfl (lv_at hl 2 rfl) ?_
      refine x_callV (n := 2) (wr := [(h, .inr (6, [.ref tp, .ref nw, .ref rw, .ref lg, .ref jd, .ref pr, .int 0]))]) (q0 := 1) (As := [.long w, .int x1]) (rest := []) hB hV (x_N hB) hl.1 (c_append l D cI cZ cS N0 tp byt (fun _ => 0) w j x1 hj e1) rfl rfl k_337 k_58 k_334 k_335 k_336 (by decide +kernel) ⟨(Nat.le_of_ble_eq_true rfl), (Nat.le_of_ble_eq_true rfl)⟩ rfl (Nat.le_of_ble_eq_true rfl) ⟨(Nat.le_of_ble_eq_true rfl), (Nat.le_of_ble_eq_true rfl)⟩ [1, 2] [0] rfl rfl rfl ⟨by decide, by decide, by decide⟩ dX6_feed_37 (fun v w H locs hp hV => ?_)
      obtain ⟨rfl, rfl⟩ := hp
      have hV : Vx D A s.heap H locs [(h, .inr (6, [.ref tp, .ref nw, .ref rw, .ref lg, .ref jd, .ref pr, .int 0])), (tp, .inr (4, [.ref byt, .int x1, .int 0, .int 0]))] := hV
      refine W.eq (g2 := F0 m 40 ls []) rfl ?_
      refine lv_aload_n hx hb dX6_feed_40 rfl (lv_at hl 0 rfl) ?_
      refine x_get (v := .ref tp) hB hV 0 rfl rfl 0 (by decide) k_308 rfl dX6_feed_41 ?_
      refine x_get (v := .int x1) hB hV 1 rfl rfl 1 (by decide) k_88 rfl dX6_feed_44 ?_
      exact x_iret (w := []) hB hr hV hA (Nat.le_of_ble_eq_true rfl) (Nat.le_of_ble_eq_true rfl) [] rfl rfl (by decide) dX6_feed_47 ⟨x1, rfl, rfl, (if_neg (fun q => q.elim c1 (Int32.not_lt.mpr c2))).symm⟩
    · refine lv_bipush (v := (-2)) hx hb dX6_feed_11 (by decide) ?_
      exact x_iret (w := []) hB hr hV hA (Nat.le_of_ble_eq_true rfl) (Nat.le_of_ble_eq_true rfl) [] rfl rfl (by decide) dX6_feed_13 ⟨(-2), rfl, rfl, (if_pos (Or.inr (Int32.not_le.mp c2))).symm⟩
end
section
theorem k_0 : Cond.selects RX4 yX4_readActs yX4_readActs ∈ tb := mt 0 (by decide +kernel) rfl
theorem k_1 : Cond.selects RX4 yX4_readAct yX4_readAct ∈ tb := mt 1 (by decide +kernel) rfl
theorem k_2 : Cond.selects RX4 yX4_readWord yX4_readWord ∈ tb := mt 2 (by decide +kernel) rfl
theorem k_3 : Cond.selects RX4 yX4_byteAt yX4_byteAt ∈ tb := mt 3 (by decide +kernel) rfl
theorem k_66 : Cond.initialized RJ0 ∈ tb := mt 66 (by decide +kernel) rfl
theorem k_67 : Cond.initialized RJ1 ∈ tb := mt 67 (by decide +kernel) rfl
theorem k_68 : Cond.initialized RJ3 ∈ tb := mt 68 (by decide +kernel) rfl
theorem k_90 : Cond.fieldLink RX6 63 "TwiceOnce$Tape" "fault" "I" ∈ tb := mt 90 (by decide +kernel) rfl
theorem k_343 : Cond.methodLink RX6 59 yX4_takeProgram ∈ tb := mt 343 (by decide +kernel) rfl
theorem k_344 : Cond.instanceMethod yX4_takeProgram ∈ tb := mt 344 (by decide +kernel) rfl
theorem k_345 : Cond.selects RX4 yX4_takeProgram yX4_takeProgram ∈ tb := mt 345 (by decide +kernel) rfl
set_option maxRecDepth 20000 in
theorem k_346 : Cond.code yX4_takeProgram cX4_takeProgram 3 (some (.object "TwiceOnce$Program")) ∈ tb := mt 346 rfl rfl
theorem k_347 : Cond.classLink RX4 27 RX2 ∈ tb := mt 347 (by decide +kernel) rfl
theorem k_349 : Cond.methodLink RX4 30 yX4_readActs ∈ tb := mt 349 (by decide +kernel) rfl
theorem k_351 : Cond.instanceMethod yX4_readActs ∈ tb := mt 351 (by decide +kernel) rfl
set_option maxRecDepth 20000 in
theorem k_352 : Cond.code yX4_readActs cX4_readActs 3 (some .boolean) ∈ tb := mt 352 rfl rfl
theorem k_353 : Cond.methodLink RX4 34 yX4_readAct ∈ tb := mt 353 (by decide +kernel) rfl
theorem k_355 : Cond.instanceMethod yX4_readAct ∈ tb := mt 355 (by decide +kernel) rfl
set_option maxRecDepth 20000 in
theorem k_356 : Cond.code yX4_readAct cX4_readAct 5 (some .boolean) ∈ tb := mt 356 rfl rfl
theorem k_357 : Cond.methodLink RX4 41 yX4_readWord ∈ tb := mt 357 (by decide +kernel) rfl
theorem k_359 : Cond.instanceMethod yX4_readWord ∈ tb := mt 359 (by decide +kernel) rfl
set_option maxRecDepth 20000 in
theorem k_360 : Cond.code yX4_readWord cX4_readWord 6 (some .int) ∈ tb := mt 360 rfl rfl
theorem k_361 : Cond.fieldLink RX4 56 "TwiceOnce$Tape" "WORD_BEGINS" "[I" ∈ tb := mt 361 (by decide +kernel) rfl
theorem k_363 : Cond.methodLink RX4 59 yX4_byteAt ∈ tb := mt 363 (by decide +kernel) rfl
theorem k_365 : Cond.instanceMethod yX4_byteAt ∈ tb := mt 365 (by decide +kernel) rfl
set_option maxRecDepth 20000 in
theorem k_366 : Cond.code yX4_byteAt cX4_byteAt 2 (some .int) ∈ tb := mt 366 rfl rfl
theorem k_368 : Cond.methodLink RX4 64 yJ0_charAt_5068e ∈ tb := mt 368 (by decide +kernel) rfl
theorem k_369 : Cond.instanceMethod yJ0_charAt_5068e ∈ tb := mt 369 (by decide +kernel) rfl
theorem k_370 : Cond.selects RJ0 yJ0_charAt_5068e yJ0_charAt_5068e ∈ tb := mt 370 (by decide +kernel) rfl
set_option maxRecDepth 20000 in
theorem k_371 : Cond.code yJ0_charAt_5068e cJ0_charAt_5068e 2 (some .char) ∈ tb := mt 371 rfl rfl
theorem k_372 : Cond.methodLink RJ0 492 yJ0_isLatin1_aae02 ∈ tb := mt 372 (by decide +kernel) rfl
theorem k_373 : Cond.instanceMethod yJ0_isLatin1_aae02 ∈ tb := mt 373 (by decide +kernel) rfl
theorem k_374 : Cond.selects RJ0 yJ0_isLatin1_aae02 yJ0_isLatin1_aae02 ∈ tb := mt 374 (by decide +kernel) rfl
set_option maxRecDepth 20000 in
theorem k_375 : Cond.code yJ0_isLatin1_aae02 cJ0_isLatin1_aae02 1 (some .boolean) ∈ tb := mt 375 rfl rfl
theorem k_376 : Cond.fieldLink RJ0 38 "java/lang/String" "COMPACT_STRINGS" "Z" ∈ tb := mt 376 (by decide +kernel) rfl
theorem k_378 : Cond.methodLink RJ0 495 yJ1_charAt_3b067 ∈ tb := mt 378 (by decide +kernel) rfl
theorem k_379 : Cond.static yJ1_charAt_3b067 ∈ tb := mt 379 (by decide +kernel) rfl
set_option maxRecDepth 20000 in
theorem k_380 : Cond.code yJ1_charAt_3b067 cJ1_charAt_3b067 2 (some .char) ∈ tb := mt 380 rfl rfl
theorem k_381 : Cond.methodLink RJ1 9 yJ0_checkIndex_df160 ∈ tb := mt 381 (by decide +kernel) rfl
theorem k_382 : Cond.static yJ0_checkIndex_df160 ∈ tb := mt 382 (by decide +kernel) rfl
set_option maxRecDepth 20000 in
theorem k_383 : Cond.code yJ0_checkIndex_df160 cJ0_checkIndex_df160 2 none ∈ tb := mt 383 rfl rfl
theorem k_384 : Cond.fieldLink RJ0 1053 "jdk/internal/util/Preconditions" "SIOOBE_FORMATTER" "Ljava/util/function/BiFunction;" ∈ tb := mt 384 (by decide +kernel) rfl
theorem k_386 : Cond.methodLink RJ0 1059 yJ3_checkIndex_8e157 ∈ tb := mt 386 (by decide +kernel) rfl
theorem k_387 : Cond.static yJ3_checkIndex_8e157 ∈ tb := mt 387 (by decide +kernel) rfl
set_option maxRecDepth 20000 in
theorem k_388 : Cond.code yJ3_checkIndex_8e157 cJ3_checkIndex_8e157 3 (some .int) ∈ tb := mt 388 rfl rfl
theorem k_408 : Cond.methodLink RX4 70 Lib.Math.max.name ∈ tb := mt 408 (by decide +kernel) rfl
theorem k_1191 : Cond.fieldLink RJ0 15 "java/lang/String" "coder" "B" ∈ tb := mt 1191 (by decide +kernel) rfl
theorem k_1192 : Cond.fieldLink RJ0 9 "java/lang/String" "value" "[B" ∈ tb := mt 1192 (by decide +kernel) rfl
theorem dJ3_checkIndex_8e157_0 : decode cJ3_checkIndex_8e157 0 = .ok (.iload_n 0, 1) := by decide +kernel
theorem dJ3_checkIndex_8e157_1 : decode cJ3_checkIndex_8e157 1 = .ok (.ifCond .lt 8, 3) := by decide +kernel
theorem dJ3_checkIndex_8e157_4 : decode cJ3_checkIndex_8e157 4 = .ok (.iload_n 0, 1) := by decide +kernel
theorem dJ3_checkIndex_8e157_5 : decode cJ3_checkIndex_8e157 5 = .ok (.iload_n 1, 1) := by decide +kernel
theorem dJ3_checkIndex_8e157_6 : decode cJ3_checkIndex_8e157 6 = .ok (.if_icmp .lt 10, 3) := by decide +kernel
theorem dJ3_checkIndex_8e157_16 : decode cJ3_checkIndex_8e157 16 = .ok (.iload_n 0, 1) := by decide +kernel
theorem dJ3_checkIndex_8e157_17 : decode cJ3_checkIndex_8e157 17 = .ok (.ireturn, 1) := by decide +kernel
theorem dJ0_checkIndex_df160_0 : decode cJ0_checkIndex_df160 0 = .ok (.iload_n 0, 1) := by decide +kernel
theorem dJ0_checkIndex_df160_1 : decode cJ0_checkIndex_df160 1 = .ok (.iload_n 1, 1) := by decide +kernel
theorem dJ0_checkIndex_df160_2 : decode cJ0_checkIndex_df160 2 = .ok (.getstatic 1053, 3) := by decide +kernel
theorem dJ0_checkIndex_df160_5 : decode cJ0_checkIndex_df160 5 = .ok (.invokestatic 1059, 3) := by decide +kernel
theorem dJ0_checkIndex_df160_8 : decode cJ0_checkIndex_df160 8 = .ok (.pop, 1) := by decide +kernel
theorem dJ0_checkIndex_df160_9 : decode cJ0_checkIndex_df160 9 = .ok (.return_, 1) := by decide +kernel
theorem dJ1_charAt_3b067_0 : decode cJ1_charAt_3b067 0 = .ok (.iload_n 1, 1) := by decide +kernel
theorem dJ1_charAt_3b067_1 : decode cJ1_charAt_3b067 1 = .ok (.aload_n 0, 1) := by decide +kernel
theorem dJ1_charAt_3b067_2 : decode cJ1_charAt_3b067 2 = .ok (.arraylength, 1) := by decide +kernel
theorem dJ1_charAt_3b067_3 : decode cJ1_charAt_3b067 3 = .ok (.invokestatic 9, 3) := by decide +kernel
theorem dJ1_charAt_3b067_6 : decode cJ1_charAt_3b067 6 = .ok (.aload_n 0, 1) := by decide +kernel
theorem dJ1_charAt_3b067_7 : decode cJ1_charAt_3b067 7 = .ok (.iload_n 1, 1) := by decide +kernel
theorem dJ1_charAt_3b067_8 : decode cJ1_charAt_3b067 8 = .ok (.baload, 1) := by decide +kernel
theorem dJ1_charAt_3b067_9 : decode cJ1_charAt_3b067 9 = .ok (.sipush 255, 3) := by decide +kernel
theorem dJ1_charAt_3b067_12 : decode cJ1_charAt_3b067 12 = .ok (.iand, 1) := by decide +kernel
theorem dJ1_charAt_3b067_13 : decode cJ1_charAt_3b067 13 = .ok (.i2c, 1) := by decide +kernel
theorem dJ1_charAt_3b067_14 : decode cJ1_charAt_3b067 14 = .ok (.ireturn, 1) := by decide +kernel
theorem dJ0_isLatin1_aae02_0 : decode cJ0_isLatin1_aae02 0 = .ok (.getstatic 38, 3) := by decide +kernel
theorem dJ0_isLatin1_aae02_3 : decode cJ0_isLatin1_aae02 3 = .ok (.ifCond .eq 14, 3) := by decide +kernel
theorem dJ0_isLatin1_aae02_6 : decode cJ0_isLatin1_aae02 6 = .ok (.aload_n 0, 1) := by decide +kernel
theorem dJ0_isLatin1_aae02_7 : decode cJ0_isLatin1_aae02 7 = .ok (.getfield 15, 3) := by decide +kernel
theorem dJ0_isLatin1_aae02_10 : decode cJ0_isLatin1_aae02 10 = .ok (.ifCond .ne 7, 3) := by decide +kernel
theorem dJ0_isLatin1_aae02_13 : decode cJ0_isLatin1_aae02 13 = .ok (.iconst 1, 1) := by decide +kernel
theorem dJ0_isLatin1_aae02_14 : decode cJ0_isLatin1_aae02 14 = .ok (.goto 4, 3) := by decide +kernel
theorem dJ0_isLatin1_aae02_18 : decode cJ0_isLatin1_aae02 18 = .ok (.ireturn, 1) := by decide +kernel
theorem dJ0_charAt_5068e_0 : decode cJ0_charAt_5068e 0 = .ok (.aload_n 0, 1) := by decide +kernel
theorem dJ0_charAt_5068e_1 : decode cJ0_charAt_5068e 1 = .ok (.invokevirtual 492, 3) := by decide +kernel
theorem dJ0_charAt_5068e_4 : decode cJ0_charAt_5068e 4 = .ok (.ifCond .eq 12, 3) := by decide +kernel
theorem dJ0_charAt_5068e_7 : decode cJ0_charAt_5068e 7 = .ok (.aload_n 0, 1) := by decide +kernel
theorem dJ0_charAt_5068e_8 : decode cJ0_charAt_5068e 8 = .ok (.getfield 9, 3) := by decide +kernel
theorem dJ0_charAt_5068e_11 : decode cJ0_charAt_5068e 11 = .ok (.iload_n 1, 1) := by decide +kernel
theorem dJ0_charAt_5068e_12 : decode cJ0_charAt_5068e 12 = .ok (.invokestatic 495, 3) := by decide +kernel
theorem dJ0_charAt_5068e_15 : decode cJ0_charAt_5068e 15 = .ok (.ireturn, 1) := by decide +kernel
theorem dX4_byteAt_0 : decode cX4_byteAt 0 = .ok (.iload_n 1, 1) := by decide +kernel
theorem dX4_byteAt_1 : decode cX4_byteAt 1 = .ok (.ifCond .lt 20, 3) := by decide +kernel
theorem dX4_byteAt_4 : decode cX4_byteAt 4 = .ok (.iload_n 1, 1) := by decide +kernel
theorem dX4_byteAt_5 : decode cX4_byteAt 5 = .ok (.aload_n 0, 1) := by decide +kernel
theorem dX4_byteAt_6 : decode cX4_byteAt 6 = .ok (.getfield 15, 3) := by decide +kernel
theorem dX4_byteAt_9 : decode cX4_byteAt 9 = .ok (.if_icmp .ge 12, 3) := by decide +kernel
theorem dX4_byteAt_21 : decode cX4_byteAt 21 = .ok (.iconst (-1), 1) := by decide +kernel
theorem dX4_byteAt_22 : decode cX4_byteAt 22 = .ok (.ireturn, 1) := by decide +kernel
theorem dX4_readWord_0 : decode cX4_readWord 0 = .ok (.iconst 0, 1) := by decide +kernel
theorem dX4_readWord_1 : decode cX4_readWord 1 = .ok (.istore_n 1, 1) := by decide +kernel
theorem dX4_readWord_2 : decode cX4_readWord 2 = .ok (.iconst 0, 1) := by decide +kernel
theorem dX4_readWord_3 : decode cX4_readWord 3 = .ok (.istore_n 2, 1) := by decide +kernel
theorem dX4_readWord_4 : decode cX4_readWord 4 = .ok (.iload_n 2, 1) := by decide +kernel
theorem dX4_readWord_5 : decode cX4_readWord 5 = .ok (.bipush 8, 2) := by decide +kernel
theorem dX4_readWord_7 : decode cX4_readWord 7 = .ok (.if_icmp .ge 92, 3) := by decide +kernel
theorem dX4_readWord_10 : decode cX4_readWord 10 = .ok (.getstatic 56, 3) := by decide +kernel
theorem dX4_readWord_13 : decode cX4_readWord 13 = .ok (.iload_n 2, 1) := by decide +kernel
theorem dX4_readWord_14 : decode cX4_readWord 14 = .ok (.iaload, 1) := by decide +kernel
theorem dX4_readWord_15 : decode cX4_readWord 15 = .ok (.istore_n 3, 1) := by decide +kernel
theorem dX4_readWord_16 : decode cX4_readWord 16 = .ok (.getstatic 56, 3) := by decide +kernel
theorem dX4_readWord_19 : decode cX4_readWord 19 = .ok (.iload_n 2, 1) := by decide +kernel
theorem dX4_readWord_20 : decode cX4_readWord 20 = .ok (.iconst 1, 1) := by decide +kernel
theorem dX4_readWord_21 : decode cX4_readWord 21 = .ok (.iadd, 1) := by decide +kernel
theorem dX4_readWord_22 : decode cX4_readWord 22 = .ok (.iaload, 1) := by decide +kernel
theorem dX4_readWord_23 : decode cX4_readWord 23 = .ok (.iload_n 3, 1) := by decide +kernel
theorem dX4_readWord_24 : decode cX4_readWord 24 = .ok (.isub, 1) := by decide +kernel
theorem dX4_readWord_25 : decode cX4_readWord 25 = .ok (.istore 4, 2) := by decide +kernel
theorem dX4_readWord_27 : decode cX4_readWord 27 = .ok (.iconst 0, 1) := by decide +kernel
theorem dX4_readWord_28 : decode cX4_readWord 28 = .ok (.istore 5, 2) := by decide +kernel
theorem dX4_readWord_30 : decode cX4_readWord 30 = .ok (.iload 5, 2) := by decide +kernel
theorem dX4_readWord_32 : decode cX4_readWord 32 = .ok (.iload 4, 2) := by decide +kernel
theorem dX4_readWord_34 : decode cX4_readWord 34 = .ok (.if_icmp .ge 32, 3) := by decide +kernel
theorem dX4_readWord_37 : decode cX4_readWord 37 = .ok (.aload_n 0, 1) := by decide +kernel
theorem dX4_readWord_38 : decode cX4_readWord 38 = .ok (.aload_n 0, 1) := by decide +kernel
theorem dX4_readWord_39 : decode cX4_readWord 39 = .ok (.getfield 22, 3) := by decide +kernel
theorem dX4_readWord_42 : decode cX4_readWord 42 = .ok (.iload 5, 2) := by decide +kernel
theorem dX4_readWord_44 : decode cX4_readWord 44 = .ok (.iadd, 1) := by decide +kernel
theorem dX4_readWord_45 : decode cX4_readWord 45 = .ok (.invokevirtual 59, 3) := by decide +kernel
theorem dX4_readWord_48 : decode cX4_readWord 48 = .ok (.ldc 62, 2) := by decide +kernel
theorem dX4_readWord_50 : decode cX4_readWord 50 = .ok (.iload_n 3, 1) := by decide +kernel
theorem dX4_readWord_51 : decode cX4_readWord 51 = .ok (.iload 5, 2) := by decide +kernel
theorem dX4_readWord_53 : decode cX4_readWord 53 = .ok (.iadd, 1) := by decide +kernel
theorem dX4_readWord_54 : decode cX4_readWord 54 = .ok (.invokevirtual 64, 3) := by decide +kernel
theorem dX4_readWord_57 : decode cX4_readWord 57 = .ok (.if_icmp .ne 9, 3) := by decide +kernel
theorem dX4_readWord_66 : decode cX4_readWord 66 = .ok (.iload 5, 2) := by decide +kernel
theorem dX4_readWord_68 : decode cX4_readWord 68 = .ok (.iload 4, 2) := by decide +kernel
theorem dX4_readWord_70 : decode cX4_readWord 70 = .ok (.if_icmp .ne 16, 3) := by decide +kernel
theorem dX4_readWord_86 : decode cX4_readWord 86 = .ok (.iload_n 1, 1) := by decide +kernel
theorem dX4_readWord_87 : decode cX4_readWord 87 = .ok (.iload 5, 2) := by decide +kernel
theorem dX4_readWord_89 : decode cX4_readWord 89 = .ok (.invokestatic 70, 3) := by decide +kernel
theorem dX4_readWord_92 : decode cX4_readWord 92 = .ok (.istore_n 1, 1) := by decide +kernel
theorem dX4_readWord_93 : decode cX4_readWord 93 = .ok (.iinc 2 1, 3) := by decide +kernel
theorem dX4_readWord_96 : decode cX4_readWord 96 = .ok (.goto (-92), 3) := by decide +kernel
theorem dX4_readWord_99 : decode cX4_readWord 99 = .ok (.aload_n 0, 1) := by decide +kernel
theorem dX4_readWord_100 : decode cX4_readWord 100 = .ok (.dup, 1) := by decide +kernel
theorem dX4_readWord_101 : decode cX4_readWord 101 = .ok (.getfield 22, 3) := by decide +kernel
theorem dX4_readWord_104 : decode cX4_readWord 104 = .ok (.iload_n 1, 1) := by decide +kernel
theorem dX4_readWord_105 : decode cX4_readWord 105 = .ok (.iadd, 1) := by decide +kernel
theorem dX4_readWord_106 : decode cX4_readWord 106 = .ok (.putfield 22, 3) := by decide +kernel
theorem dX4_readWord_109 : decode cX4_readWord 109 = .ok (.iconst (-1), 1) := by decide +kernel
theorem dX4_readWord_110 : decode cX4_readWord 110 = .ok (.ireturn, 1) := by decide +kernel
theorem dX4_readAct_0 : decode cX4_readAct 0 = .ok (.aload_n 0, 1) := by decide +kernel
theorem dX4_readAct_1 : decode cX4_readAct 1 = .ok (.invokevirtual 41, 3) := by decide +kernel
theorem dX4_readAct_4 : decode cX4_readAct 4 = .ok (.istore_n 2, 1) := by decide +kernel
theorem dX4_readAct_5 : decode cX4_readAct 5 = .ok (.iload_n 2, 1) := by decide +kernel
theorem dX4_readAct_6 : decode cX4_readAct 6 = .ok (.iconst (-1), 1) := by decide +kernel
theorem dX4_readAct_7 : decode cX4_readAct 7 = .ok (.if_icmp .ne 5, 3) := by decide +kernel
theorem dX4_readAct_10 : decode cX4_readAct 10 = .ok (.iconst 0, 1) := by decide +kernel
theorem dX4_readAct_11 : decode cX4_readAct 11 = .ok (.ireturn, 1) := by decide +kernel
theorem dX4_readActs_0 : decode cX4_readActs 0 = .ok (.iconst 0, 1) := by decide +kernel
theorem dX4_readActs_1 : decode cX4_readActs 1 = .ok (.istore_n 2, 1) := by decide +kernel
theorem dX4_readActs_2 : decode cX4_readActs 2 = .ok (.iload_n 2, 1) := by decide +kernel
theorem dX4_readActs_3 : decode cX4_readActs 3 = .ok (.bipush 8, 2) := by decide +kernel
theorem dX4_readActs_5 : decode cX4_readActs 5 = .ok (.if_icmp .ge 37, 3) := by decide +kernel
theorem dX4_readActs_8 : decode cX4_readActs 8 = .ok (.aload_n 0, 1) := by decide +kernel
theorem dX4_readActs_9 : decode cX4_readActs 9 = .ok (.aload_n 1, 1) := by decide +kernel
theorem dX4_readActs_10 : decode cX4_readActs 10 = .ok (.invokevirtual 34, 3) := by decide +kernel
theorem dX4_readActs_13 : decode cX4_readActs 13 = .ok (.ifCond .ne 5, 3) := by decide +kernel
theorem dX4_readActs_16 : decode cX4_readActs 16 = .ok (.iconst 0, 1) := by decide +kernel
theorem dX4_readActs_17 : decode cX4_readActs 17 = .ok (.ireturn, 1) := by decide +kernel
theorem dX4_takeProgram_0 : decode cX4_takeProgram 0 = .ok (.new 27, 3) := by decide +kernel
theorem dX4_takeProgram_3 : decode cX4_takeProgram 3 = .ok (.dup, 1) := by decide +kernel
theorem dX4_takeProgram_4 : decode cX4_takeProgram 4 = .ok (.invokespecial 29, 3) := by decide +kernel
theorem dX4_takeProgram_7 : decode cX4_takeProgram 7 = .ok (.astore_n 1, 1) := by decide +kernel
theorem dX4_takeProgram_8 : decode cX4_takeProgram 8 = .ok (.aload_n 0, 1) := by decide +kernel
theorem dX4_takeProgram_9 : decode cX4_takeProgram 9 = .ok (.iconst 0, 1) := by decide +kernel
theorem dX4_takeProgram_10 : decode cX4_takeProgram 10 = .ok (.putfield 22, 3) := by decide +kernel
theorem dX4_takeProgram_13 : decode cX4_takeProgram 13 = .ok (.aload_n 0, 1) := by decide +kernel
theorem dX4_takeProgram_14 : decode cX4_takeProgram 14 = .ok (.aload_n 1, 1) := by decide +kernel
theorem dX4_takeProgram_15 : decode cX4_takeProgram 15 = .ok (.invokevirtual 30, 3) := by decide +kernel
theorem dX4_takeProgram_18 : decode cX4_takeProgram 18 = .ok (.ifCond .eq 18, 3) := by decide +kernel
theorem dX4_takeProgram_36 : decode cX4_takeProgram 36 = .ok (.iconst 0, 1) := by decide +kernel
theorem dX4_takeProgram_37 : decode cX4_takeProgram 37 = .ok (.istore_n 2, 1) := by decide +kernel
theorem dX4_takeProgram_38 : decode cX4_takeProgram 38 = .ok (.aload_n 0, 1) := by decide +kernel
theorem dX4_takeProgram_39 : decode cX4_takeProgram 39 = .ok (.aload_n 0, 1) := by decide +kernel
theorem dX4_takeProgram_40 : decode cX4_takeProgram 40 = .ok (.getfield 22, 3) := by decide +kernel
theorem dX4_takeProgram_43 : decode cX4_takeProgram 43 = .ok (.putfield 19, 3) := by decide +kernel
theorem dX4_takeProgram_46 : decode cX4_takeProgram 46 = .ok (.aload_n 0, 1) := by decide +kernel
theorem dX4_takeProgram_47 : decode cX4_takeProgram 47 = .ok (.iconst 0, 1) := by decide +kernel
theorem dX4_takeProgram_48 : decode cX4_takeProgram 48 = .ok (.putfield 15, 3) := by decide +kernel
theorem dX4_takeProgram_51 : decode cX4_takeProgram 51 = .ok (.iload_n 2, 1) := by decide +kernel
theorem dX4_takeProgram_52 : decode cX4_takeProgram 52 = .ok (.ifCond .eq 7, 3) := by decide +kernel
theorem dX4_takeProgram_59 : decode cX4_takeProgram 59 = .ok (.aconst_null, 1) := by decide +kernel
theorem dX4_takeProgram_60 : decode cX4_takeProgram 60 = .ok (.areturn, 1) := by decide +kernel
theorem dX6_service_0 : decode cX6_service 0 = .ok (.aload_n 0, 1) := by decide +kernel
theorem dX6_service_1 : decode cX6_service 1 = .ok (.getfield 19, 3) := by decide +kernel
theorem dX6_service_4 : decode cX6_service 4 = .ok (.getfield 58, 3) := by decide +kernel
theorem dX6_service_7 : decode cX6_service 7 = .ok (.bipush 6, 2) := by decide +kernel
theorem dX6_service_9 : decode cX6_service 9 = .ok (.if_icmp .lt 6, 3) := by decide +kernel
theorem dX6_service_15 : decode cX6_service 15 = .ok (.aload_n 0, 1) := by decide +kernel
theorem dX6_service_16 : decode cX6_service 16 = .ok (.getfield 12, 3) := by decide +kernel
theorem dX6_service_19 : decode cX6_service 19 = .ok (.invokevirtual 59, 3) := by decide +kernel
theorem dX6_service_22 : decode cX6_service 22 = .ok (.astore_n 1, 1) := by decide +kernel
theorem dX6_service_23 : decode cX6_service 23 = .ok (.aload_n 1, 1) := by decide +kernel
theorem dX6_service_24 : decode cX6_service 24 = .ok (.ifnonnull 14, 3) := by decide +kernel
theorem dX6_service_27 : decode cX6_service 27 = .ok (.bipush (-10), 2) := by decide +kernel
theorem dX6_service_29 : decode cX6_service 29 = .ok (.aload_n 0, 1) := by decide +kernel
theorem dX6_service_30 : decode cX6_service 30 = .ok (.getfield 12, 3) := by decide +kernel
theorem dX6_service_33 : decode cX6_service 33 = .ok (.getfield 63, 3) := by decide +kernel
theorem dX6_service_36 : decode cX6_service 36 = .ok (.isub, 1) := by decide +kernel
theorem dX6_service_37 : decode cX6_service 37 = .ok (.ireturn, 1) := by decide +kernel
section TX
variable {p : Program} {l : Launch} {e : Env} {R : Room} {s : State} {m : MethodId} {args : Array Value} {below : List Frame} {meth : Method} {c : Code} {H : Heap} {locs : List Loc} {cells slots : Nat} {Q : State → Prop}
variable {cc : ByteArray} {pc nL : Nat} {ls : Array Slot} {rest : List Value} {own : String} {D : va_G} {cI cZ cS : ClassId} {A : Nat → Prop} {N0 : NT} {a : Nat} {ws : va_W}
theorem tx_of (hB : Bx p s m meth c args cc nL own D cI cZ cS A N0) : Tx N0 s := hB.2.2.2.2.2.2.2.2.1.2.2.2.2.2.2.2
theorem tx_wb (hB : Bx p s m meth c args cc nL own D cI cZ cS A N0) : va_Z "TwiceOnce$Tape" "WORD_BEGINS" "[I" (.ref N0.2.1) A s s.heap := (tx_of hB).1.narrow hB.2.2.2.2.2.2.2.1
theorem tx_tab (hB : Bx p s m meth c args cc nL own D cI cZ cS A N0) : va_T .int N0.2.1 9 tabW A s s.heap := (tx_of hB).2.1.narrow hB.2.2.2.2.2.2.2.1
theorem tx_r (hB : Bx p s m meth c args cc nL own D cI cZ cS A N0) : vk_R "TwiceOnce$Tape" 62 "set add max new get ask do if " N0.2.2.1 s := (tx_of hB).2.2.1
theorem tx_o (hB : Bx p s m meth c args cc nL own D cI cZ cS A N0) : va_O "java/lang/String" N0.2.2.1 A s s.heap := (tx_of hB).2.2.2.1.narrow hB.2.2.2.2.2.2.2.1
theorem tx_cd (hB : Bx p s m meth c args cc nL own D cI cZ cS A N0) : va_OF "java/lang/String" "coder" "B" (.int 0) N0.2.2.1 A s s.heap := (tx_of hB).2.2.2.2.1.narrow hB.2.2.2.2.2.2.2.1
theorem tx_va (hB : Bx p s m meth c args cc nL own D cI cZ cS A N0) : va_OF "java/lang/String" "value" "[B" (.ref N0.2.2.2) N0.2.2.1 A s s.heap := (tx_of hB).2.2.2.2.2.1.narrow hB.2.2.2.2.2.2.2.1
theorem tx_by (hB : Bx p s m meth c args cc nL own D cI cZ cS A N0) : va_T .byte N0.2.2.2 30 (fun j => .int (strW.getD j 0)) A s s.heap := (tx_of hB).2.2.2.2.2.2.1.narrow hB.2.2.2.2.2.2.2.1
theorem tx_cs (hB : Bx p s m meth c args cc nL own D cI cZ cS A N0) : va_Z "java/lang/String" "COMPACT_STRINGS" "Z" (.int 1) A s s.heap := (tx_of hB).2.2.2.2.2.2.2.1.narrow hB.2.2.2.2.2.2.2.1
theorem tx_fm (hB : Bx p s m meth c args cc nL own D cI cZ cS A N0) : va_Zq "jdk/internal/util/Preconditions" "SIOOBE_FORMATTER" "Ljava/util/function/BiFunction;" A s s.heap := (tx_of hB).2.2.2.2.2.2.2.2.narrow hB.2.2.2.2.2.2.2.1
theorem tx_recv (hB : Bx p s m meth c args cc nL own D cI cZ cS A N0) (hV : Vx D A s.heap H locs ws) : ∃ cell : Cell, H[N0.2.2.1]? = some cell ∧ cell.vm.isStatics = false ∧ s.vm.findClass "java/lang/String" = some cell.cls := by
  obtain ⟨cell, h1, h2, h3, -⟩ := (tx_o hB).kept hV.2.2.2.1
  exact ⟨cell, h1, h2, h3⟩
theorem x_callT {y : MethodName} {b : ByteArray} {n' d mc ms n index : Nat} {r : Option FieldType} {As : List Value} {post : Option Value → va_W → Prop} (hB : Bx p s m meth c args cc nL own D cI cZ cS A N0) (hV : Vx D A s.heap H locs ws) (hN : N0.1 ≤ s.heap.size) (hsz : ls.size = nL)
    (hM : Mx l D cI cZ cS N0 y b n' r d mc ms (.ref N0.2.2.1 :: As) [] post) (hc : Cond.code y b n' r ∈ tb) (hini : Cond.initialized y.cls ∈ tb) (hl : Cond.methodLink own index y ∈ tb) (hi : Cond.instanceMethod y ∈ tb) (hsel : Cond.selects "java/lang/String" y y ∈ tb) (hd : y.cls ≠ "java/lang/invoke/MethodHandle" ∧ y.cls ≠ "java/lang/invoke/VarHandle" ∧ (parseMethodDescriptor y.desc).map (fun d => d.parameters.length) = some n) (hR : d + 1 + 1 ≤ R.frames ∧ 8 + (n' + 11) + 64 * (d + 1) ≤ R.locals) (hn : As.length = n) (hW : (rest.map fun v => v.category).sum ≤ 8) (hf : cells + mc ≤ R.cells ∧ slots + ms ≤ R.slots)
    (isR : List Nat) {wr : va_W} (hR2 : isR.map (fun i => ws[i]?) = wr.map some) (hnd : va_nd isR = true) (hdg : decode cc pc = .ok (.invokevirtual index, 3))
    (kk : ∀ (v : Option Value) (w : va_W) (H1 : Heap) (locs1 : List Loc), post v w → Vx D A s.heap H1 locs1 (wr ++ w) → W p l e R s m args below meth c H1 locs1 (cells + mc) (slots + ms) Q (F0 m (pc + 3) ls (v.toList ++ rest))) : W p l e R s m args below meth c H locs cells slots Q (F0 m pc ls (As.reverse ++ .ref N0.2.2.1 :: rest)) := by
  have hp := x_pre (av := .ref N0.2.2.1 :: As) (wc := []) hB hV hN [] rfl rfl rfl
  exact x_back (y := y) (b := b) (n' := n') (r := r) hB hV [] isR rfl hR2 hnd (fun _ _ h => by cases h) (va_runV (As := As) (rest := rest) (nL := nL) ⟨hB.1, hB.2.1, hB.2.2.1, hB.2.2.2.1, hB.2.2.2.2.1⟩ (hM H.size) ⟨x_cb hB hc hini hl hd hR, hB.2.2.2.2.1 _ hi, hB.2.2.2.2.1 _ hsel⟩ ⟨hp.1, tx_recv hB hV, hp.2⟩ rfl hn hsz rfl (lv_room hW) hdg hf) kk
end TX
theorem ne_m1 (b : Int32) : ¬ (-1 : Int32) = b &&& 255 := by
  obtain ⟨j, hj, e⟩ := pk_andE b (m := 255) 8 (by decide)
  rw [e]
  intro q
  have h1 := nI_toInt (n := j) (by omega)
  rw [← q] at h1
  have h2 : (-1 : Int32).toInt = -1 := by decide
  omega
set_option maxHeartbeats 4000000 in
set_option maxRecDepth 100000 in
theorem c_chkN (l : Launch) (D : va_G) (cI cZ cS : ClassId) (N0 : NT) (k : Nat) (x1 : Int32) (hk : k < 30) (e1 : x1 = nI k) : Mx l D cI cZ cS N0 yJ3_checkIndex_8e157 cJ3_checkIndex_8e157 3 (some .int) 0 0 0 [.int x1, .int 30, .null] [] (fun v w => v = some (.int x1) ∧ w = ([] : va_W)) := by
  refine x_enter (by decide) (Nat.le_of_ble_eq_true rfl) ?_
  intro p e s m args below meth c A ls H locs hB hr hin hl hV hA
  have hx := hB.1
  have hb := hB.2.1
  have hl : lv_has ls 3 [(0, .int x1), (1, .int 30), (2, .null)] := hl
  refine lv_iload_n hx hb dJ3_checkIndex_8e157_0 rfl (lv_at hl 0 rfl) ?_
  refine lv_if_lt (tgt := 9) hx hb dJ3_checkIndex_8e157_1 (by decide) (fun c_ => absurd c_ (by rw [e1]; exact nI_pos (by omega))) (fun c_ => ?_)
  refine lv_iload_n hx hb dJ3_checkIndex_8e157_4 rfl (lv_at hl 0 rfl) ?_
  refine lv_iload_n hx hb dJ3_checkIndex_8e157_5 rfl (lv_at hl 1 rfl) ?_
  refine lv_icmp_lt (tgt := 16) hx hb dJ3_checkIndex_8e157_6 (by decide) (fun c_ => ?_) (fun c_ => absurd (by rw [e1]; exact nI_lt (b := 30) (by omega) (by decide)) c_)
  refine lv_iload_n hx hb dJ3_checkIndex_8e157_16 rfl (lv_at hl 0 rfl) ?_
  exact x_iret (w := []) hB hr hV hA (Nat.le_of_ble_eq_true rfl) (Nat.le_of_ble_eq_true rfl) [] rfl rfl (by decide) dJ3_checkIndex_8e157_17 ⟨rfl, rfl⟩
set_option maxHeartbeats 4000000 in
set_option maxRecDepth 100000 in
theorem c_chkR (l : Launch) (D : va_G) (cI cZ cS : ClassId) (N0 : NT) (k : Nat) (x1 : Int32) (tz : Nat) (hk : k < 30) (e1 : x1 = nI k) : Mx l D cI cZ cS N0 yJ3_checkIndex_8e157 cJ3_checkIndex_8e157 3 (some .int) 0 0 0 [.int x1, .int 30, .ref tz] [] (fun v w => v = some (.int x1) ∧ w = ([] : va_W)) := by
  refine x_enter (by decide) (Nat.le_of_ble_eq_true rfl) ?_
  intro p e s m args below meth c A ls H locs hB hr hin hl hV hA
  have hx := hB.1
  have hb := hB.2.1
  have hl : lv_has ls 3 [(0, .int x1), (1, .int 30), (2, .ref tz)] := hl
  refine lv_iload_n hx hb dJ3_checkIndex_8e157_0 rfl (lv_at hl 0 rfl) ?_
  refine lv_if_lt (tgt := 9) hx hb dJ3_checkIndex_8e157_1 (by decide) (fun c_ => absurd c_ (by rw [e1]; exact nI_pos (by omega))) (fun c_ => ?_)
  refine lv_iload_n hx hb dJ3_checkIndex_8e157_4 rfl (lv_at hl 0 rfl) ?_
  refine lv_iload_n hx hb dJ3_checkIndex_8e157_5 rfl (lv_at hl 1 rfl) ?_
  refine lv_icmp_lt (tgt := 16) hx hb dJ3_checkIndex_8e157_6 (by decide) (fun c_ => ?_) (fun c_ => absurd (by rw [e1]; exact nI_lt (b := 30) (by omega) (by decide)) c_)
  refine lv_iload_n hx hb dJ3_checkIndex_8e157_16 rfl (lv_at hl 0 rfl) ?_
  exact x_iret (w := []) hB hr hV hA (Nat.le_of_ble_eq_true rfl) (Nat.le_of_ble_eq_true rfl) [] rfl rfl (by decide) dJ3_checkIndex_8e157_17 ⟨rfl, rfl⟩
set_option maxHeartbeats 4000000 in
set_option maxRecDepth 100000 in
theorem c_checkIndexS (l : Launch) (D : va_G) (cI cZ cS : ClassId) (N0 : NT) (k : Nat) (x1 : Int32) (hk : k < 30) (e1 : x1 = nI k) : Mx l D cI cZ cS N0 yJ0_checkIndex_df160 cJ0_checkIndex_df160 2 none 1 0 0 [.int x1, .int 30] [] (fun v w => v = none ∧ w = ([] : va_W)) := by
  refine x_enter (by decide) (Nat.le_of_ble_eq_true rfl) ?_
  intro p e s m args below meth c A ls H locs hB hr hin hl hV hA
  have hx := hB.1
  have hb := hB.2.1
  have hl : lv_has ls 2 [(0, .int x1), (1, .int 30)] := hl
  refine lv_iload_n hx hb dJ0_checkIndex_df160_0 rfl (lv_at hl 0 rfl) ?_
  refine lv_iload_n hx hb dJ0_checkIndex_df160_1 rfl (lv_at hl 1 rfl) ?_
  rcases tx_fm hB with hz | ⟨tz, hz⟩
  · refine va_gets hx hb hz hV.2.2 hB.2.2.2.1 (hB.2.2.2.2.1 _ k_384) (fun _ h => h) dJ0_checkIndex_df160_2 ?_
    refine x_callS (n := 3) (wr := []) (As := [.int x1, .int 30, .null]) (rest := []) hB hV (x_N hB) hl.1 (c_chkN l D cI cZ cS N0 k x1 hk e1) k_388 k_68 k_386 k_387 (by decide +kernel) ⟨(Nat.le_of_ble_eq_true rfl), (Nat.le_of_ble_eq_true rfl)⟩ rfl (Nat.le_of_ble_eq_true rfl) ⟨(Nat.le_of_ble_eq_true rfl), (Nat.le_of_ble_eq_true rfl)⟩ [] [] rfl rfl rfl ⟨by decide, by decide, by decide⟩ dJ0_checkIndex_df160_5 (fun v w H locs hp hV => ?_)
    obtain ⟨rfl, rfl⟩ := hp
    have hV : Vx D A s.heap H locs [] := hV
    refine W.eq (g2 := F0 m 8 ls [.int x1]) rfl ?_
    refine lv_pop hx hb dJ0_checkIndex_df160_8 rfl ?_
    exact x_vret (w := []) hB hr hV hA (Nat.le_of_ble_eq_true rfl) (Nat.le_of_ble_eq_true rfl) [] rfl rfl (by decide) dJ0_checkIndex_df160_9 ⟨rfl, rfl⟩
  · refine va_gets hx hb hz hV.2.2 hB.2.2.2.1 (hB.2.2.2.2.1 _ k_384) (fun _ h => h) dJ0_checkIndex_df160_2 ?_
    refine x_callS (n := 3) (wr := []) (As := [.int x1, .int 30, .ref tz]) (rest := []) hB hV (x_N hB) hl.1 (c_chkR l D cI cZ cS N0 k x1 tz hk e1) k_388 k_68 k_386 k_387 (by decide +kernel) ⟨(Nat.le_of_ble_eq_true rfl), (Nat.le_of_ble_eq_true rfl)⟩ rfl (Nat.le_of_ble_eq_true rfl) ⟨(Nat.le_of_ble_eq_true rfl), (Nat.le_of_ble_eq_true rfl)⟩ [] [] rfl rfl rfl ⟨by decide, by decide, by decide⟩ dJ0_checkIndex_df160_5 (fun v w H locs hp hV => ?_)
    obtain ⟨rfl, rfl⟩ := hp
    have hV : Vx D A s.heap H locs [] := hV
    refine W.eq (g2 := F0 m 8 ls [.int x1]) rfl ?_
    refine lv_pop hx hb dJ0_checkIndex_df160_8 rfl ?_
    exact x_vret (w := []) hB hr hV hA (Nat.le_of_ble_eq_true rfl) (Nat.le_of_ble_eq_true rfl) [] rfl rfl (by decide) dJ0_checkIndex_df160_9 ⟨rfl, rfl⟩
set_option maxHeartbeats 4000000 in
set_option maxRecDepth 100000 in
theorem c_latCharAt (l : Launch) (D : va_G) (cI cZ cS : ClassId) (N0 : NT) (k : Nat) (hk : k < 30) : Mx l D cI cZ cS N0 yJ1_charAt_3b067 cJ1_charAt_3b067 2 (some .char) 2 0 0 [.ref N0.2.2.2, .int (nI k)] [] (fun v w => ∃ (r : Int32), v = some (.int r) ∧ w = ([] : va_W) ∧ (¬ (-1 : Int32) = r) ∧ (narrow .char (.int r) = .int r)) := by
  refine x_enter (by decide) (Nat.le_of_ble_eq_true rfl) ?_
  intro p e s m args below meth c A ls H locs hB hr hin hl hV hA
  have hx := hB.1
  have hb := hB.2.1
  have hl : lv_has ls 2 [(0, .ref N0.2.2.2), (1, .int (nI k))] := hl
  refine lv_iload_n hx hb dJ1_charAt_3b067_0 rfl (lv_at hl 1 rfl) ?_
  refine lv_aload_n hx hb dJ1_charAt_3b067_1 rfl (lv_at hl 0 rfl) ?_
  refine va_tlen (v := 30) hx hb (tx_by hB) hV.2.2 rfl dJ1_charAt_3b067_2 ?_
  refine x_callS (n := 2) (wr := []) (As := [.int (nI k), .int 30]) (rest := []) hB hV (x_N hB) hl.1 (c_checkIndexS l D cI cZ cS N0 k (nI k) hk rfl) k_383 k_66 k_381 k_382 (by decide +kernel) ⟨(Nat.le_of_ble_eq_true rfl), (Nat.le_of_ble_eq_true rfl)⟩ rfl (Nat.le_of_ble_eq_true rfl) ⟨(Nat.le_of_ble_eq_true rfl), (Nat.le_of_ble_eq_true rfl)⟩ [] [] rfl rfl rfl ⟨by decide, by decide, by decide⟩ dJ1_charAt_3b067_3 (fun v w H locs hp hV => ?_)
  obtain ⟨rfl, rfl⟩ := hp
  have hV : Vx D A s.heap H locs [] := hV
  refine W.eq (g2 := F0 m 6 ls []) rfl ?_
  refine lv_aload_n hx hb dJ1_charAt_3b067_6 rfl (lv_at hl 0 rfl) ?_
  refine lv_iload_n hx hb dJ1_charAt_3b067_7 rfl (lv_at hl 1 rfl) ?_
  refine va_tb hx hb (tx_by hB) hV.2.2 (vp_in_nI (by omega) (by decide)) rfl dJ1_charAt_3b067_8 ?_
  refine lv_topi (fun u_b eu_b => ?_)
  refine lv_sipush (v := 255) hx hb dJ1_charAt_3b067_9 (by decide) ?_
  refine lv_iand hx hb dJ1_charAt_3b067_12 ?_
  refine lv_topi (fun z_1 ez_1 => ?_)
  refine lv_i2c (v := u_b &&& 255) hx hb dJ1_charAt_3b067_13 (by first | exact sc_c2 u_b | (rw [ez_1]; exact sc_c2 u_b)) ?_
  exact x_zret (w := []) hB hr (sc_nar u_b) hV hA (Nat.le_of_ble_eq_true rfl) (Nat.le_of_ble_eq_true rfl) [] rfl rfl (by decide) dJ1_charAt_3b067_14 ⟨(u_b &&& 255), rfl, rfl, (ne_m1 u_b), (sc_nar u_b)⟩
set_option maxHeartbeats 4000000 in
set_option maxRecDepth 100000 in
theorem c_isLatin1 (l : Launch) (D : va_G) (cI cZ cS : ClassId) (N0 : NT)   : Mx l D cI cZ cS N0 yJ0_isLatin1_aae02 cJ0_isLatin1_aae02 1 (some .boolean) 0 0 0 [.ref N0.2.2.1] [] (fun v w => v = some (.int 1) ∧ w = ([] : va_W)) := by
  refine x_enter (by decide) (Nat.le_of_ble_eq_true rfl) ?_
  intro p e s m args below meth c A ls H locs hB hr hin hl hV hA
  have hx := hB.1
  have hb := hB.2.1
  have hl : lv_has ls 1 [(0, .ref N0.2.2.1)] := hl
  refine va_gets hx hb (tx_cs hB) hV.2.2 hB.2.2.2.1 (hB.2.2.2.2.1 _ k_376) (fun _ h => h) dJ0_isLatin1_aae02_0 ?_
  refine lv_if_eq (tgt := 17) hx hb dJ0_isLatin1_aae02_3 (by decide) (fun c_ => absurd c_ (by decide)) (fun c_ => ?_)
  refine lv_aload_n hx hb dJ0_isLatin1_aae02_6 rfl (lv_at hl 0 rfl) ?_
  refine vk_getf hx hb (tx_cd hB) hV.2.2 hB.2.2.2.1 (hB.2.2.2.2.1 _ k_1191) (fun _ h => h) dJ0_isLatin1_aae02_7 ?_
  refine lv_if_ne (tgt := 17) hx hb dJ0_isLatin1_aae02_10 (by decide) (fun c_ => absurd (by decide) c_) (fun c_ => ?_)
  refine lv_iconst (v := 1) hx hb dJ0_isLatin1_aae02_13 (by decide) ?_
  refine lv_goto (tgt := 18) hx hb dJ0_isLatin1_aae02_14 (by decide) ?_
  exact x_zret (w := []) hB hr rfl hV hA (Nat.le_of_ble_eq_true rfl) (Nat.le_of_ble_eq_true rfl) [] rfl rfl (by decide) dJ0_isLatin1_aae02_18 ⟨rfl, rfl⟩
set_option maxHeartbeats 4000000 in
set_option maxRecDepth 100000 in
theorem c_charAt (l : Launch) (D : va_G) (cI cZ cS : ClassId) (N0 : NT) (x1 : Int32) (k : Nat) (hk : k < 30) (e1 : x1 = nI k) : Mx l D cI cZ cS N0 yJ0_charAt_5068e cJ0_charAt_5068e 2 (some .char) 3 0 0 [.ref N0.2.2.1, .int x1] [] (fun v w => ∃ (r : Int32), v = some (.int r) ∧ w = ([] : va_W) ∧ (¬ (-1 : Int32) = r)) := by
  refine x_enter (by decide) (Nat.le_of_ble_eq_true rfl) ?_
  intro p e s m args below meth c A ls H locs hB hr hin hl hV hA
  have hx := hB.1
  have hb := hB.2.1
  have hl : lv_has ls 2 [(0, .ref N0.2.2.1), (1, .int x1)] := hl
  subst e1
  refine lv_aload_n hx hb dJ0_charAt_5068e_0 rfl (lv_at hl 0 rfl) ?_
  refine x_callT (n := 0) (wr := []) (As := []) (rest := []) hB hV (x_N hB) hl.1 (c_isLatin1 l D cI cZ cS N0) k_375 k_66 k_372 k_373 k_374 (by decide +kernel) ⟨(Nat.le_of_ble_eq_true rfl), (Nat.le_of_ble_eq_true rfl)⟩ rfl (Nat.le_of_ble_eq_true rfl) ⟨(Nat.le_of_ble_eq_true rfl), (Nat.le_of_ble_eq_true rfl)⟩ [] rfl rfl dJ0_charAt_5068e_1 (fun v w H locs hp hV => ?_)
  obtain ⟨rfl, rfl⟩ := hp
  have hV : Vx D A s.heap H locs [] := hV
  refine W.eq (g2 := F0 m 4 ls [.int 1]) rfl ?_
  refine lv_if_eq (tgt := 16) hx hb dJ0_charAt_5068e_4 (by decide) (fun c_ => absurd c_ (by decide)) (fun c_ => ?_)
  refine lv_aload_n hx hb dJ0_charAt_5068e_7 rfl (lv_at hl 0 rfl) ?_
  refine vk_getf hx hb (tx_va hB) hV.2.2 hB.2.2.2.1 (hB.2.2.2.2.1 _ k_1192) (fun _ h => h) dJ0_charAt_5068e_8 ?_
  refine lv_iload_n hx hb dJ0_charAt_5068e_11 rfl (lv_at hl 1 rfl) ?_
  refine x_callS (n := 2) (wr := []) (As := [.ref N0.2.2.2, .int (nI k)]) (rest := []) hB hV (x_N hB) hl.1 (c_latCharAt l D cI cZ cS N0 k hk) k_380 k_67 k_378 k_379 (by decide +kernel) ⟨(Nat.le_of_ble_eq_true rfl), (Nat.le_of_ble_eq_true rfl)⟩ rfl (Nat.le_of_ble_eq_true rfl) ⟨(Nat.le_of_ble_eq_true rfl), (Nat.le_of_ble_eq_true rfl)⟩ [] [] rfl rfl rfl ⟨by decide, by decide, by decide⟩ dJ0_charAt_5068e_12 (fun v w H locs hp hV => ?_)
  obtain ⟨r_1, rfl, rfl, f_2, f_3⟩ := hp
  have hV : Vx D A s.heap H locs [] := hV
  refine W.eq (g2 := F0 m 15 ls [.int r_1]) rfl ?_
  exact x_zret (w := []) hB hr f_3 hV hA (Nat.le_of_ble_eq_true rfl) (Nat.le_of_ble_eq_true rfl) [] rfl rfl (by decide) dJ0_charAt_5068e_15 ⟨_, rfl, rfl, f_2⟩
set_option maxHeartbeats 4000000 in
set_option maxRecDepth 100000 in
theorem c_byteAt (l : Launch) (D : va_G) (cI cZ cS : ClassId) (N0 : NT) (h : Nat) (byt : Nat)  : Mx l D cI cZ cS N0 yX4_byteAt cX4_byteAt 2 (some .int) 1 0 0 [.ref h, .int 0] [(h, .inr (4, [.ref byt, .int 0, .int 0, .int 0]))] (fun v w => v = some (.int (-1)) ∧ w = ([(h, .inr (4, [.ref byt, .int 0, .int 0, .int 0]))] : va_W)) := by
  refine x_enter (by decide) (Nat.le_of_ble_eq_true rfl) ?_
  intro p e s m args below meth c A ls H locs hB hr hin hl hV hA
  have hx := hB.1
  have hb := hB.2.1
  have hl : lv_has ls 2 [(0, .ref h), (1, .int 0)] := hl
  refine lv_iload_n hx hb dX4_byteAt_0 rfl (lv_at hl 1 rfl) ?_
  refine lv_if_lt (tgt := 21) hx hb dX4_byteAt_1 (by decide) (fun c_ => absurd c_ (by decide)) (fun c_ => ?_)
  refine lv_iload_n hx hb dX4_byteAt_4 rfl (lv_at hl 1 rfl) ?_
  refine lv_aload_n hx hb dX4_byteAt_5 rfl (lv_at hl 0 rfl) ?_
  refine x_get (v := .int 0) hB hV 0 rfl rfl 1 (by decide) k_87 rfl dX4_byteAt_6 ?_
  refine lv_icmp_ge (tgt := 21) hx hb dX4_byteAt_9 (by decide) (fun c_ => ?_) (fun c_ => absurd (by decide) c_)
  refine lv_iconst (v := (-1)) hx hb dX4_byteAt_21 (by decide) ?_
  exact x_iret (w := [(h, .inr (4, [.ref byt, .int 0, .int 0, .int 0]))]) hB hr hV hA (Nat.le_of_ble_eq_true rfl) (Nat.le_of_ble_eq_true rfl) [0] rfl rfl (by decide) dX4_byteAt_22 ⟨rfl, rfl⟩
set_option maxHeartbeats 4000000 in
set_option maxRecDepth 100000 in
theorem c_readWord (l : Launch) (D : va_G) (cI cZ cS : ClassId) (N0 : NT) (h : Nat) (byt : Nat)  : Mx l D cI cZ cS N0 yX4_readWord cX4_readWord 6 (some .int) 4 0 0 [.ref h] [(h, .inr (4, [.ref byt, .int 0, .int 0, .int 0]))] (fun v w => v = some (.int (-1)) ∧ w = ([(h, .inr (4, [.ref byt, .int 0, .int 0, .int 0]))] : va_W)) := by
  refine x_enter (by decide) (Nat.le_of_ble_eq_true rfl) ?_
  intro p e s m args below meth c A ls H locs hB hr hin hl hV hA
  have hx := hB.1
  have hb := hB.2.1
  have hl : lv_has ls 6 [(0, .ref h)] := hl
  refine lv_iconst (v := 0) hx hb dX4_readWord_0 (by decide) ?_
  refine lv_istore_n (lv' := [(1, .int 0), (0, .ref h)]) hx hb dX4_readWord_1 rfl hl (by decide) rfl (fun ls hl => ?_)
  refine lv_iconst (v := 0) hx hb dX4_readWord_2 (by decide) ?_
  refine lv_istore_n (lv' := [(2, .int 0), (1, .int 0), (0, .ref h)]) hx hb dX4_readWord_3 rfl hl (by decide) rfl (fun ls hl => ?_)
  refine lv_iload_n hx hb dX4_readWord_4 rfl (lv_at hl 0 rfl) ?_
  refine lv_bipush (v := 8) hx hb dX4_readWord_5 (by decide) ?_
  refine lv_icmp_ge (tgt := 99) hx hb dX4_readWord_7 (by decide) (fun c_ => absurd c_ (by decide)) (fun c_ => ?_)
  refine va_gets hx hb (tx_wb hB) hV.2.2 hB.2.2.2.1 (hB.2.2.2.2.1 _ k_361) (fun _ h => h) dX4_readWord_10 ?_
  refine lv_iload_n hx hb dX4_readWord_13 rfl (lv_at hl 0 rfl) ?_
  refine va_ti (v := .int 0) hx hb (tx_tab hB) hV.2.2 (by unfold vp_in; decide) rfl dX4_readWord_14 ?_
  refine lv_istore_n (lv' := [(3, .int 0), (2, .int 0), (1, .int 0), (0, .ref h)]) hx hb dX4_readWord_15 rfl hl (by decide) rfl (fun ls hl => ?_)
  refine va_gets hx hb (tx_wb hB) hV.2.2 hB.2.2.2.1 (hB.2.2.2.2.1 _ k_361) (fun _ h => h) dX4_readWord_16 ?_
  refine lv_iload_n hx hb dX4_readWord_19 rfl (lv_at hl 1 rfl) ?_
  refine lv_iconst (v := 1) hx hb dX4_readWord_20 (by decide) ?_
  refine lv_iadd hx hb dX4_readWord_21 ?_
  refine x_ev (y := 1) (by decide) ?_
  refine va_ti (v := .int 4) hx hb (tx_tab hB) hV.2.2 (by unfold vp_in; decide) rfl dX4_readWord_22 ?_
  refine lv_iload_n hx hb dX4_readWord_23 rfl (lv_at hl 0 rfl) ?_
  refine lv_isub hx hb dX4_readWord_24 ?_
  refine x_ev (y := 4) (by decide) ?_
  refine lv_istore (lv' := [(4, .int 4), (3, .int 0), (2, .int 0), (1, .int 0), (0, .ref h)]) hx hb dX4_readWord_25 hl (by decide) rfl (fun ls hl => ?_)
  refine lv_iconst (v := 0) hx hb dX4_readWord_27 (by decide) ?_
  refine lv_istore (lv' := [(5, .int 0), (4, .int 4), (3, .int 0), (2, .int 0), (1, .int 0), (0, .ref h)]) hx hb dX4_readWord_28 hl (by decide) rfl (fun ls hl => ?_)
  refine lv_iload hx hb dX4_readWord_30 (lv_at hl 0 rfl) ?_
  refine lv_iload hx hb dX4_readWord_32 (lv_at hl 1 rfl) ?_
  refine lv_icmp_ge (tgt := 66) hx hb dX4_readWord_34 (by decide) (fun c_ => absurd c_ (by decide)) (fun c_ => ?_)
  refine lv_aload_n hx hb dX4_readWord_37 rfl (lv_at hl 5 rfl) ?_
  refine lv_aload_n hx hb dX4_readWord_38 rfl (lv_at hl 5 rfl) ?_
  refine x_get (v := .int 0) hB hV 0 rfl rfl 3 (by decide) k_91 rfl dX4_readWord_39 ?_
  refine lv_iload hx hb dX4_readWord_42 (lv_at hl 0 rfl) ?_
  refine lv_iadd hx hb dX4_readWord_44 ?_
  refine x_ev (y := 0) (by decide) ?_
  refine x_callV (n := 1) (wr := []) (q0 := 0) (As := [.int 0]) (rest := []) hB hV (x_N hB) hl.1 (c_byteAt l D cI cZ cS N0 h byt ) rfl rfl k_366 k_58 k_363 k_365 k_3 (by decide +kernel) ⟨(Nat.le_of_ble_eq_true rfl), (Nat.le_of_ble_eq_true rfl)⟩ rfl (Nat.le_of_ble_eq_true rfl) ⟨(Nat.le_of_ble_eq_true rfl), (Nat.le_of_ble_eq_true rfl)⟩ [0] [] rfl rfl rfl ⟨by decide, by decide, by decide⟩ dX4_readWord_45 (fun v w H locs hp hV => ?_)
  obtain ⟨rfl, rfl⟩ := hp
  have hV : Vx D A s.heap H locs [(h, .inr (4, [.ref byt, .int 0, .int 0, .int 0]))] := hV
  refine W.eq (g2 := F0 m 48 ls [.int (-1)]) rfl ?_
  refine va_ldcS hx hb hB.2.2.2.1 (tx_r hB) dX4_readWord_48 ?_
  refine lv_iload_n hx hb dX4_readWord_50 rfl (lv_at hl 2 rfl) ?_
  refine lv_iload hx hb dX4_readWord_51 (lv_at hl 0 rfl) ?_
  refine lv_iadd hx hb dX4_readWord_53 ?_
  refine x_ev (y := 0) (by decide) ?_
  refine x_callT (n := 1) (wr := [(h, .inr (4, [.ref byt, .int 0, .int 0, .int 0]))]) (As := [.int 0]) (rest := [.int (-1)]) hB hV (x_N hB) hl.1 (c_charAt l D cI cZ cS N0 0 0 (by omega) rfl) k_371 k_66 k_368 k_369 k_370 (by decide +kernel) ⟨(Nat.le_of_ble_eq_true rfl), (Nat.le_of_ble_eq_true rfl)⟩ rfl (Nat.le_of_ble_eq_true rfl) ⟨(Nat.le_of_ble_eq_true rfl), (Nat.le_of_ble_eq_true rfl)⟩ [0] rfl rfl dX4_readWord_54 (fun v w H locs hp hV => ?_)
  obtain ⟨r_1, rfl, rfl, f_2⟩ := hp
  have hV : Vx D A s.heap H locs [(h, .inr (4, [.ref byt, .int 0, .int 0, .int 0]))] := hV
  refine W.eq (g2 := F0 m 57 ls [.int r_1, .int (-1)]) rfl ?_
  refine lv_icmp_ne (tgt := 66) hx hb dX4_readWord_57 (by decide) (fun c_ => ?_) (fun c_ => absurd c_ f_2)
  refine lv_iload hx hb dX4_readWord_66 (lv_at hl 0 rfl) ?_
  refine lv_iload hx hb dX4_readWord_68 (lv_at hl 1 rfl) ?_
  refine lv_icmp_ne (tgt := 86) hx hb dX4_readWord_70 (by decide) (fun c_ => ?_) (fun c_ => absurd c_ (by decide))
  refine lv_iload_n hx hb dX4_readWord_86 rfl (lv_at hl 4 rfl) ?_
  refine lv_iload hx hb dX4_readWord_87 (lv_at hl 0 rfl) ?_
  refine x_max (v := 0) hB k_408 k_241 k_63 k_242 hl.1 (Nat.le_of_ble_eq_true rfl) (Nat.le_of_ble_eq_true rfl) (Nat.le_of_ble_eq_true rfl) (Nat.le_of_ble_eq_true rfl) (by decide) dX4_readWord_89 ?_
  refine lv_istore_n (lv' := [(1, .int 0), (5, .int 0), (4, .int 4), (3, .int 0), (2, .int 0), (0, .ref h)]) hx hb dX4_readWord_92 rfl hl (by decide) rfl (fun ls hl => ?_)
  refine lv_iinc (v := 1) (lv' := [(2, .int 1), (1, .int 0), (5, .int 0), (4, .int 4), (3, .int 0), (0, .ref h)]) hx hb dX4_readWord_93 hl (k := 4) rfl (by decide) (by decide) rfl (fun ls hl => ?_)
  refine lv_goto (tgt := 4) hx hb dX4_readWord_96 (by decide) ?_
  refine lv_iload_n hx hb dX4_readWord_4 rfl (lv_at hl 0 rfl) ?_
  refine lv_bipush (v := 8) hx hb dX4_readWord_5 (by decide) ?_
  refine lv_icmp_ge (tgt := 99) hx hb dX4_readWord_7 (by decide) (fun c_ => absurd c_ (by decide)) (fun c_ => ?_)
  refine va_gets hx hb (tx_wb hB) hV.2.2 hB.2.2.2.1 (hB.2.2.2.2.1 _ k_361) (fun _ h => h) dX4_readWord_10 ?_
  refine lv_iload_n hx hb dX4_readWord_13 rfl (lv_at hl 0 rfl) ?_
  refine va_ti (v := .int 4) hx hb (tx_tab hB) hV.2.2 (by unfold vp_in; decide) rfl dX4_readWord_14 ?_
  refine lv_istore_n (lv' := [(3, .int 4), (2, .int 1), (1, .int 0), (5, .int 0), (4, .int 4), (0, .ref h)]) hx hb dX4_readWord_15 rfl hl (by decide) rfl (fun ls hl => ?_)
  refine va_gets hx hb (tx_wb hB) hV.2.2 hB.2.2.2.1 (hB.2.2.2.2.1 _ k_361) (fun _ h => h) dX4_readWord_16 ?_
  refine lv_iload_n hx hb dX4_readWord_19 rfl (lv_at hl 1 rfl) ?_
  refine lv_iconst (v := 1) hx hb dX4_readWord_20 (by decide) ?_
  refine lv_iadd hx hb dX4_readWord_21 ?_
  refine x_ev (y := 2) (by decide) ?_
  refine va_ti (v := .int 8) hx hb (tx_tab hB) hV.2.2 (by unfold vp_in; decide) rfl dX4_readWord_22 ?_
  refine lv_iload_n hx hb dX4_readWord_23 rfl (lv_at hl 0 rfl) ?_
  refine lv_isub hx hb dX4_readWord_24 ?_
  refine x_ev (y := 4) (by decide) ?_
  refine lv_istore (lv' := [(4, .int 4), (3, .int 4), (2, .int 1), (1, .int 0), (5, .int 0), (0, .ref h)]) hx hb dX4_readWord_25 hl (by decide) rfl (fun ls hl => ?_)
  refine lv_iconst (v := 0) hx hb dX4_readWord_27 (by decide) ?_
  refine lv_istore (lv' := [(5, .int 0), (4, .int 4), (3, .int 4), (2, .int 1), (1, .int 0), (0, .ref h)]) hx hb dX4_readWord_28 hl (by decide) rfl (fun ls hl => ?_)
  refine lv_iload hx hb dX4_readWord_30 (lv_at hl 0 rfl) ?_
  refine lv_iload hx hb dX4_readWord_32 (lv_at hl 1 rfl) ?_
  refine lv_icmp_ge (tgt := 66) hx hb dX4_readWord_34 (by decide) (fun c_ => absurd c_ (by decide)) (fun c_ => ?_)
  refine lv_aload_n hx hb dX4_readWord_37 rfl (lv_at hl 5 rfl) ?_
  refine lv_aload_n hx hb dX4_readWord_38 rfl (lv_at hl 5 rfl) ?_
  refine x_get (v := .int 0) hB hV 0 rfl rfl 3 (by decide) k_91 rfl dX4_readWord_39 ?_
  refine lv_iload hx hb dX4_readWord_42 (lv_at hl 0 rfl) ?_
  refine lv_iadd hx hb dX4_readWord_44 ?_
  refine x_ev (y := 0) (by decide) ?_
  refine x_callV (n := 1) (wr := []) (q0 := 0) (As := [.int 0]) (rest := []) hB hV (x_N hB) hl.1 (c_byteAt l D cI cZ cS N0 h byt ) rfl rfl k_366 k_58 k_363 k_365 k_3 (by decide +kernel) ⟨(Nat.le_of_ble_eq_true rfl), (Nat.le_of_ble_eq_true rfl)⟩ rfl (Nat.le_of_ble_eq_true rfl) ⟨(Nat.le_of_ble_eq_true rfl), (Nat.le_of_ble_eq_true rfl)⟩ [0] [] rfl rfl rfl ⟨by decide, by decide, by decide⟩ dX4_readWord_45 (fun v w H locs hp hV => ?_)
  obtain ⟨rfl, rfl⟩ := hp
  have hV : Vx D A s.heap H locs [(h, .inr (4, [.ref byt, .int 0, .int 0, .int 0]))] := hV
  refine W.eq (g2 := F0 m 48 ls [.int (-1)]) rfl ?_
  refine va_ldcS hx hb hB.2.2.2.1 (tx_r hB) dX4_readWord_48 ?_
  refine lv_iload_n hx hb dX4_readWord_50 rfl (lv_at hl 2 rfl) ?_
  refine lv_iload hx hb dX4_readWord_51 (lv_at hl 0 rfl) ?_
  refine lv_iadd hx hb dX4_readWord_53 ?_
  refine x_ev (y := 4) (by decide) ?_
  refine x_callT (n := 1) (wr := [(h, .inr (4, [.ref byt, .int 0, .int 0, .int 0]))]) (As := [.int 4]) (rest := [.int (-1)]) hB hV (x_N hB) hl.1 (c_charAt l D cI cZ cS N0 4 4 (by omega) rfl) k_371 k_66 k_368 k_369 k_370 (by decide +kernel) ⟨(Nat.le_of_ble_eq_true rfl), (Nat.le_of_ble_eq_true rfl)⟩ rfl (Nat.le_of_ble_eq_true rfl) ⟨(Nat.le_of_ble_eq_true rfl), (Nat.le_of_ble_eq_true rfl)⟩ [0] rfl rfl dX4_readWord_54 (fun v w H locs hp hV => ?_)
  obtain ⟨r_3, rfl, rfl, f_4⟩ := hp
  have hV : Vx D A s.heap H locs [(h, .inr (4, [.ref byt, .int 0, .int 0, .int 0]))] := hV
  refine W.eq (g2 := F0 m 57 ls [.int r_3, .int (-1)]) rfl ?_
  refine lv_icmp_ne (tgt := 66) hx hb dX4_readWord_57 (by decide) (fun c_ => ?_) (fun c_ => absurd c_ f_4)
  refine lv_iload hx hb dX4_readWord_66 (lv_at hl 0 rfl) ?_
  refine lv_iload hx hb dX4_readWord_68 (lv_at hl 1 rfl) ?_
  refine lv_icmp_ne (tgt := 86) hx hb dX4_readWord_70 (by decide) (fun c_ => ?_) (fun c_ => absurd c_ (by decide))
  refine lv_iload_n hx hb dX4_readWord_86 rfl (lv_at hl 4 rfl) ?_
  refine lv_iload hx hb dX4_readWord_87 (lv_at hl 0 rfl) ?_
  refine x_max (v := 0) hB k_408 k_241 k_63 k_242 hl.1 (Nat.le_of_ble_eq_true rfl) (Nat.le_of_ble_eq_true rfl) (Nat.le_of_ble_eq_true rfl) (Nat.le_of_ble_eq_true rfl) (by decide) dX4_readWord_89 ?_
  refine lv_istore_n (lv' := [(1, .int 0), (5, .int 0), (4, .int 4), (3, .int 4), (2, .int 1), (0, .ref h)]) hx hb dX4_readWord_92 rfl hl (by decide) rfl (fun ls hl => ?_)
  refine lv_iinc (v := 2) (lv' := [(2, .int 2), (1, .int 0), (5, .int 0), (4, .int 4), (3, .int 4), (0, .ref h)]) hx hb dX4_readWord_93 hl (k := 4) rfl (by decide) (by decide) rfl (fun ls hl => ?_)
  refine lv_goto (tgt := 4) hx hb dX4_readWord_96 (by decide) ?_
  refine lv_iload_n hx hb dX4_readWord_4 rfl (lv_at hl 0 rfl) ?_
  refine lv_bipush (v := 8) hx hb dX4_readWord_5 (by decide) ?_
  refine lv_icmp_ge (tgt := 99) hx hb dX4_readWord_7 (by decide) (fun c_ => absurd c_ (by decide)) (fun c_ => ?_)
  refine va_gets hx hb (tx_wb hB) hV.2.2 hB.2.2.2.1 (hB.2.2.2.2.1 _ k_361) (fun _ h => h) dX4_readWord_10 ?_
  refine lv_iload_n hx hb dX4_readWord_13 rfl (lv_at hl 0 rfl) ?_
  refine va_ti (v := .int 8) hx hb (tx_tab hB) hV.2.2 (by unfold vp_in; decide) rfl dX4_readWord_14 ?_
  refine lv_istore_n (lv' := [(3, .int 8), (2, .int 2), (1, .int 0), (5, .int 0), (4, .int 4), (0, .ref h)]) hx hb dX4_readWord_15 rfl hl (by decide) rfl (fun ls hl => ?_)
  refine va_gets hx hb (tx_wb hB) hV.2.2 hB.2.2.2.1 (hB.2.2.2.2.1 _ k_361) (fun _ h => h) dX4_readWord_16 ?_
  refine lv_iload_n hx hb dX4_readWord_19 rfl (lv_at hl 1 rfl) ?_
  refine lv_iconst (v := 1) hx hb dX4_readWord_20 (by decide) ?_
  refine lv_iadd hx hb dX4_readWord_21 ?_
  refine x_ev (y := 3) (by decide) ?_
  refine va_ti (v := .int 12) hx hb (tx_tab hB) hV.2.2 (by unfold vp_in; decide) rfl dX4_readWord_22 ?_
  refine lv_iload_n hx hb dX4_readWord_23 rfl (lv_at hl 0 rfl) ?_
  refine lv_isub hx hb dX4_readWord_24 ?_
  refine x_ev (y := 4) (by decide) ?_
  refine lv_istore (lv' := [(4, .int 4), (3, .int 8), (2, .int 2), (1, .int 0), (5, .int 0), (0, .ref h)]) hx hb dX4_readWord_25 hl (by decide) rfl (fun ls hl => ?_)
  refine lv_iconst (v := 0) hx hb dX4_readWord_27 (by decide) ?_
  refine lv_istore (lv' := [(5, .int 0), (4, .int 4), (3, .int 8), (2, .int 2), (1, .int 0), (0, .ref h)]) hx hb dX4_readWord_28 hl (by decide) rfl (fun ls hl => ?_)
  refine lv_iload hx hb dX4_readWord_30 (lv_at hl 0 rfl) ?_
  refine lv_iload hx hb dX4_readWord_32 (lv_at hl 1 rfl) ?_
  refine lv_icmp_ge (tgt := 66) hx hb dX4_readWord_34 (by decide) (fun c_ => absurd c_ (by decide)) (fun c_ => ?_)
  refine lv_aload_n hx hb dX4_readWord_37 rfl (lv_at hl 5 rfl) ?_
  refine lv_aload_n hx hb dX4_readWord_38 rfl (lv_at hl 5 rfl) ?_
  refine x_get (v := .int 0) hB hV 0 rfl rfl 3 (by decide) k_91 rfl dX4_readWord_39 ?_
  refine lv_iload hx hb dX4_readWord_42 (lv_at hl 0 rfl) ?_
  refine lv_iadd hx hb dX4_readWord_44 ?_
  refine x_ev (y := 0) (by decide) ?_
  refine x_callV (n := 1) (wr := []) (q0 := 0) (As := [.int 0]) (rest := []) hB hV (x_N hB) hl.1 (c_byteAt l D cI cZ cS N0 h byt ) rfl rfl k_366 k_58 k_363 k_365 k_3 (by decide +kernel) ⟨(Nat.le_of_ble_eq_true rfl), (Nat.le_of_ble_eq_true rfl)⟩ rfl (Nat.le_of_ble_eq_true rfl) ⟨(Nat.le_of_ble_eq_true rfl), (Nat.le_of_ble_eq_true rfl)⟩ [0] [] rfl rfl rfl ⟨by decide, by decide, by decide⟩ dX4_readWord_45 (fun v w H locs hp hV => ?_)
  obtain ⟨rfl, rfl⟩ := hp
  have hV : Vx D A s.heap H locs [(h, .inr (4, [.ref byt, .int 0, .int 0, .int 0]))] := hV
  refine W.eq (g2 := F0 m 48 ls [.int (-1)]) rfl ?_
  refine va_ldcS hx hb hB.2.2.2.1 (tx_r hB) dX4_readWord_48 ?_
  refine lv_iload_n hx hb dX4_readWord_50 rfl (lv_at hl 2 rfl) ?_
  refine lv_iload hx hb dX4_readWord_51 (lv_at hl 0 rfl) ?_
  refine lv_iadd hx hb dX4_readWord_53 ?_
  refine x_ev (y := 8) (by decide) ?_
  refine x_callT (n := 1) (wr := [(h, .inr (4, [.ref byt, .int 0, .int 0, .int 0]))]) (As := [.int 8]) (rest := [.int (-1)]) hB hV (x_N hB) hl.1 (c_charAt l D cI cZ cS N0 8 8 (by omega) rfl) k_371 k_66 k_368 k_369 k_370 (by decide +kernel) ⟨(Nat.le_of_ble_eq_true rfl), (Nat.le_of_ble_eq_true rfl)⟩ rfl (Nat.le_of_ble_eq_true rfl) ⟨(Nat.le_of_ble_eq_true rfl), (Nat.le_of_ble_eq_true rfl)⟩ [0] rfl rfl dX4_readWord_54 (fun v w H locs hp hV => ?_)
  obtain ⟨r_5, rfl, rfl, f_6⟩ := hp
  have hV : Vx D A s.heap H locs [(h, .inr (4, [.ref byt, .int 0, .int 0, .int 0]))] := hV
  refine W.eq (g2 := F0 m 57 ls [.int r_5, .int (-1)]) rfl ?_
  refine lv_icmp_ne (tgt := 66) hx hb dX4_readWord_57 (by decide) (fun c_ => ?_) (fun c_ => absurd c_ f_6)
  refine lv_iload hx hb dX4_readWord_66 (lv_at hl 0 rfl) ?_
  refine lv_iload hx hb dX4_readWord_68 (lv_at hl 1 rfl) ?_
  refine lv_icmp_ne (tgt := 86) hx hb dX4_readWord_70 (by decide) (fun c_ => ?_) (fun c_ => absurd c_ (by decide))
  refine lv_iload_n hx hb dX4_readWord_86 rfl (lv_at hl 4 rfl) ?_
  refine lv_iload hx hb dX4_readWord_87 (lv_at hl 0 rfl) ?_
  refine x_max (v := 0) hB k_408 k_241 k_63 k_242 hl.1 (Nat.le_of_ble_eq_true rfl) (Nat.le_of_ble_eq_true rfl) (Nat.le_of_ble_eq_true rfl) (Nat.le_of_ble_eq_true rfl) (by decide) dX4_readWord_89 ?_
  refine lv_istore_n (lv' := [(1, .int 0), (5, .int 0), (4, .int 4), (3, .int 8), (2, .int 2), (0, .ref h)]) hx hb dX4_readWord_92 rfl hl (by decide) rfl (fun ls hl => ?_)
  refine lv_iinc (v := 3) (lv' := [(2, .int 3), (1, .int 0), (5, .int 0), (4, .int 4), (3, .int 8), (0, .ref h)]) hx hb dX4_readWord_93 hl (k := 4) rfl (by decide) (by decide) rfl (fun ls hl => ?_)
  refine lv_goto (tgt := 4) hx hb dX4_readWord_96 (by decide) ?_
  refine lv_iload_n hx hb dX4_readWord_4 rfl (lv_at hl 0 rfl) ?_
  refine lv_bipush (v := 8) hx hb dX4_readWord_5 (by decide) ?_
  refine lv_icmp_ge (tgt := 99) hx hb dX4_readWord_7 (by decide) (fun c_ => absurd c_ (by decide)) (fun c_ => ?_)
  refine va_gets hx hb (tx_wb hB) hV.2.2 hB.2.2.2.1 (hB.2.2.2.2.1 _ k_361) (fun _ h => h) dX4_readWord_10 ?_
  refine lv_iload_n hx hb dX4_readWord_13 rfl (lv_at hl 0 rfl) ?_
  refine va_ti (v := .int 12) hx hb (tx_tab hB) hV.2.2 (by unfold vp_in; decide) rfl dX4_readWord_14 ?_
  refine lv_istore_n (lv' := [(3, .int 12), (2, .int 3), (1, .int 0), (5, .int 0), (4, .int 4), (0, .ref h)]) hx hb dX4_readWord_15 rfl hl (by decide) rfl (fun ls hl => ?_)
  refine va_gets hx hb (tx_wb hB) hV.2.2 hB.2.2.2.1 (hB.2.2.2.2.1 _ k_361) (fun _ h => h) dX4_readWord_16 ?_
  refine lv_iload_n hx hb dX4_readWord_19 rfl (lv_at hl 1 rfl) ?_
  refine lv_iconst (v := 1) hx hb dX4_readWord_20 (by decide) ?_
  refine lv_iadd hx hb dX4_readWord_21 ?_
  refine x_ev (y := 4) (by decide) ?_
  refine va_ti (v := .int 16) hx hb (tx_tab hB) hV.2.2 (by unfold vp_in; decide) rfl dX4_readWord_22 ?_
  refine lv_iload_n hx hb dX4_readWord_23 rfl (lv_at hl 0 rfl) ?_
  refine lv_isub hx hb dX4_readWord_24 ?_
  refine x_ev (y := 4) (by decide) ?_
  refine lv_istore (lv' := [(4, .int 4), (3, .int 12), (2, .int 3), (1, .int 0), (5, .int 0), (0, .ref h)]) hx hb dX4_readWord_25 hl (by decide) rfl (fun ls hl => ?_)
  refine lv_iconst (v := 0) hx hb dX4_readWord_27 (by decide) ?_
  refine lv_istore (lv' := [(5, .int 0), (4, .int 4), (3, .int 12), (2, .int 3), (1, .int 0), (0, .ref h)]) hx hb dX4_readWord_28 hl (by decide) rfl (fun ls hl => ?_)
  refine lv_iload hx hb dX4_readWord_30 (lv_at hl 0 rfl) ?_
  refine lv_iload hx hb dX4_readWord_32 (lv_at hl 1 rfl) ?_
  refine lv_icmp_ge (tgt := 66) hx hb dX4_readWord_34 (by decide) (fun c_ => absurd c_ (by decide)) (fun c_ => ?_)
  refine lv_aload_n hx hb dX4_readWord_37 rfl (lv_at hl 5 rfl) ?_
  refine lv_aload_n hx hb dX4_readWord_38 rfl (lv_at hl 5 rfl) ?_
  refine x_get (v := .int 0) hB hV 0 rfl rfl 3 (by decide) k_91 rfl dX4_readWord_39 ?_
  refine lv_iload hx hb dX4_readWord_42 (lv_at hl 0 rfl) ?_
  refine lv_iadd hx hb dX4_readWord_44 ?_
  refine x_ev (y := 0) (by decide) ?_
  refine x_callV (n := 1) (wr := []) (q0 := 0) (As := [.int 0]) (rest := []) hB hV (x_N hB) hl.1 (c_byteAt l D cI cZ cS N0 h byt ) rfl rfl k_366 k_58 k_363 k_365 k_3 (by decide +kernel) ⟨(Nat.le_of_ble_eq_true rfl), (Nat.le_of_ble_eq_true rfl)⟩ rfl (Nat.le_of_ble_eq_true rfl) ⟨(Nat.le_of_ble_eq_true rfl), (Nat.le_of_ble_eq_true rfl)⟩ [0] [] rfl rfl rfl ⟨by decide, by decide, by decide⟩ dX4_readWord_45 (fun v w H locs hp hV => ?_)
  obtain ⟨rfl, rfl⟩ := hp
  have hV : Vx D A s.heap H locs [(h, .inr (4, [.ref byt, .int 0, .int 0, .int 0]))] := hV
  refine W.eq (g2 := F0 m 48 ls [.int (-1)]) rfl ?_
  refine va_ldcS hx hb hB.2.2.2.1 (tx_r hB) dX4_readWord_48 ?_
  refine lv_iload_n hx hb dX4_readWord_50 rfl (lv_at hl 2 rfl) ?_
  refine lv_iload hx hb dX4_readWord_51 (lv_at hl 0 rfl) ?_
  refine lv_iadd hx hb dX4_readWord_53 ?_
  refine x_ev (y := 12) (by decide) ?_
  refine x_callT (n := 1) (wr := [(h, .inr (4, [.ref byt, .int 0, .int 0, .int 0]))]) (As := [.int 12]) (rest := [.int (-1)]) hB hV (x_N hB) hl.1 (c_charAt l D cI cZ cS N0 12 12 (by omega) rfl) k_371 k_66 k_368 k_369 k_370 (by decide +kernel) ⟨(Nat.le_of_ble_eq_true rfl), (Nat.le_of_ble_eq_true rfl)⟩ rfl (Nat.le_of_ble_eq_true rfl) ⟨(Nat.le_of_ble_eq_true rfl), (Nat.le_of_ble_eq_true rfl)⟩ [0] rfl rfl dX4_readWord_54 (fun v w H locs hp hV => ?_)
  obtain ⟨r_7, rfl, rfl, f_8⟩ := hp
  have hV : Vx D A s.heap H locs [(h, .inr (4, [.ref byt, .int 0, .int 0, .int 0]))] := hV
  refine W.eq (g2 := F0 m 57 ls [.int r_7, .int (-1)]) rfl ?_
  refine lv_icmp_ne (tgt := 66) hx hb dX4_readWord_57 (by decide) (fun c_ => ?_) (fun c_ => absurd c_ f_8)
  refine lv_iload hx hb dX4_readWord_66 (lv_at hl 0 rfl) ?_
  refine lv_iload hx hb dX4_readWord_68 (lv_at hl 1 rfl) ?_
  refine lv_icmp_ne (tgt := 86) hx hb dX4_readWord_70 (by decide) (fun c_ => ?_) (fun c_ => absurd c_ (by decide))
  refine lv_iload_n hx hb dX4_readWord_86 rfl (lv_at hl 4 rfl) ?_
  refine lv_iload hx hb dX4_readWord_87 (lv_at hl 0 rfl) ?_
  refine x_max (v := 0) hB k_408 k_241 k_63 k_242 hl.1 (Nat.le_of_ble_eq_true rfl) (Nat.le_of_ble_eq_true rfl) (Nat.le_of_ble_eq_true rfl) (Nat.le_of_ble_eq_true rfl) (by decide) dX4_readWord_89 ?_
  refine lv_istore_n (lv' := [(1, .int 0), (5, .int 0), (4, .int 4), (3, .int 12), (2, .int 3), (0, .ref h)]) hx hb dX4_readWord_92 rfl hl (by decide) rfl (fun ls hl => ?_)
  refine lv_iinc (v := 4) (lv' := [(2, .int 4), (1, .int 0), (5, .int 0), (4, .int 4), (3, .int 12), (0, .ref h)]) hx hb dX4_readWord_93 hl (k := 4) rfl (by decide) (by decide) rfl (fun ls hl => ?_)
  refine lv_goto (tgt := 4) hx hb dX4_readWord_96 (by decide) ?_
  refine lv_iload_n hx hb dX4_readWord_4 rfl (lv_at hl 0 rfl) ?_
  refine lv_bipush (v := 8) hx hb dX4_readWord_5 (by decide) ?_
  refine lv_icmp_ge (tgt := 99) hx hb dX4_readWord_7 (by decide) (fun c_ => absurd c_ (by decide)) (fun c_ => ?_)
  refine va_gets hx hb (tx_wb hB) hV.2.2 hB.2.2.2.1 (hB.2.2.2.2.1 _ k_361) (fun _ h => h) dX4_readWord_10 ?_
  refine lv_iload_n hx hb dX4_readWord_13 rfl (lv_at hl 0 rfl) ?_
  refine va_ti (v := .int 16) hx hb (tx_tab hB) hV.2.2 (by unfold vp_in; decide) rfl dX4_readWord_14 ?_
  refine lv_istore_n (lv' := [(3, .int 16), (2, .int 4), (1, .int 0), (5, .int 0), (4, .int 4), (0, .ref h)]) hx hb dX4_readWord_15 rfl hl (by decide) rfl (fun ls hl => ?_)
  refine va_gets hx hb (tx_wb hB) hV.2.2 hB.2.2.2.1 (hB.2.2.2.2.1 _ k_361) (fun _ h => h) dX4_readWord_16 ?_
  refine lv_iload_n hx hb dX4_readWord_19 rfl (lv_at hl 1 rfl) ?_
  refine lv_iconst (v := 1) hx hb dX4_readWord_20 (by decide) ?_
  refine lv_iadd hx hb dX4_readWord_21 ?_
  refine x_ev (y := 5) (by decide) ?_
  refine va_ti (v := .int 20) hx hb (tx_tab hB) hV.2.2 (by unfold vp_in; decide) rfl dX4_readWord_22 ?_
  refine lv_iload_n hx hb dX4_readWord_23 rfl (lv_at hl 0 rfl) ?_
  refine lv_isub hx hb dX4_readWord_24 ?_
  refine x_ev (y := 4) (by decide) ?_
  refine lv_istore (lv' := [(4, .int 4), (3, .int 16), (2, .int 4), (1, .int 0), (5, .int 0), (0, .ref h)]) hx hb dX4_readWord_25 hl (by decide) rfl (fun ls hl => ?_)
  refine lv_iconst (v := 0) hx hb dX4_readWord_27 (by decide) ?_
  refine lv_istore (lv' := [(5, .int 0), (4, .int 4), (3, .int 16), (2, .int 4), (1, .int 0), (0, .ref h)]) hx hb dX4_readWord_28 hl (by decide) rfl (fun ls hl => ?_)
  refine lv_iload hx hb dX4_readWord_30 (lv_at hl 0 rfl) ?_
  refine lv_iload hx hb dX4_readWord_32 (lv_at hl 1 rfl) ?_
  refine lv_icmp_ge (tgt := 66) hx hb dX4_readWord_34 (by decide) (fun c_ => absurd c_ (by decide)) (fun c_ => ?_)
  refine lv_aload_n hx hb dX4_readWord_37 rfl (lv_at hl 5 rfl) ?_
  refine lv_aload_n hx hb dX4_readWord_38 rfl (lv_at hl 5 rfl) ?_
  refine x_get (v := .int 0) hB hV 0 rfl rfl 3 (by decide) k_91 rfl dX4_readWord_39 ?_
  refine lv_iload hx hb dX4_readWord_42 (lv_at hl 0 rfl) ?_
  refine lv_iadd hx hb dX4_readWord_44 ?_
  refine x_ev (y := 0) (by decide) ?_
  refine x_callV (n := 1) (wr := []) (q0 := 0) (As := [.int 0]) (rest := []) hB hV (x_N hB) hl.1 (c_byteAt l D cI cZ cS N0 h byt ) rfl rfl k_366 k_58 k_363 k_365 k_3 (by decide +kernel) ⟨(Nat.le_of_ble_eq_true rfl), (Nat.le_of_ble_eq_true rfl)⟩ rfl (Nat.le_of_ble_eq_true rfl) ⟨(Nat.le_of_ble_eq_true rfl), (Nat.le_of_ble_eq_true rfl)⟩ [0] [] rfl rfl rfl ⟨by decide, by decide, by decide⟩ dX4_readWord_45 (fun v w H locs hp hV => ?_)
  obtain ⟨rfl, rfl⟩ := hp
  have hV : Vx D A s.heap H locs [(h, .inr (4, [.ref byt, .int 0, .int 0, .int 0]))] := hV
  refine W.eq (g2 := F0 m 48 ls [.int (-1)]) rfl ?_
  refine va_ldcS hx hb hB.2.2.2.1 (tx_r hB) dX4_readWord_48 ?_
  refine lv_iload_n hx hb dX4_readWord_50 rfl (lv_at hl 2 rfl) ?_
  refine lv_iload hx hb dX4_readWord_51 (lv_at hl 0 rfl) ?_
  refine lv_iadd hx hb dX4_readWord_53 ?_
  refine x_ev (y := 16) (by decide) ?_
  refine x_callT (n := 1) (wr := [(h, .inr (4, [.ref byt, .int 0, .int 0, .int 0]))]) (As := [.int 16]) (rest := [.int (-1)]) hB hV (x_N hB) hl.1 (c_charAt l D cI cZ cS N0 16 16 (by omega) rfl) k_371 k_66 k_368 k_369 k_370 (by decide +kernel) ⟨(Nat.le_of_ble_eq_true rfl), (Nat.le_of_ble_eq_true rfl)⟩ rfl (Nat.le_of_ble_eq_true rfl) ⟨(Nat.le_of_ble_eq_true rfl), (Nat.le_of_ble_eq_true rfl)⟩ [0] rfl rfl dX4_readWord_54 (fun v w H locs hp hV => ?_)
  obtain ⟨r_9, rfl, rfl, f_10⟩ := hp
  have hV : Vx D A s.heap H locs [(h, .inr (4, [.ref byt, .int 0, .int 0, .int 0]))] := hV
  refine W.eq (g2 := F0 m 57 ls [.int r_9, .int (-1)]) rfl ?_
  refine lv_icmp_ne (tgt := 66) hx hb dX4_readWord_57 (by decide) (fun c_ => ?_) (fun c_ => absurd c_ f_10)
  refine lv_iload hx hb dX4_readWord_66 (lv_at hl 0 rfl) ?_
  refine lv_iload hx hb dX4_readWord_68 (lv_at hl 1 rfl) ?_
  refine lv_icmp_ne (tgt := 86) hx hb dX4_readWord_70 (by decide) (fun c_ => ?_) (fun c_ => absurd c_ (by decide))
  refine lv_iload_n hx hb dX4_readWord_86 rfl (lv_at hl 4 rfl) ?_
  refine lv_iload hx hb dX4_readWord_87 (lv_at hl 0 rfl) ?_
  refine x_max (v := 0) hB k_408 k_241 k_63 k_242 hl.1 (Nat.le_of_ble_eq_true rfl) (Nat.le_of_ble_eq_true rfl) (Nat.le_of_ble_eq_true rfl) (Nat.le_of_ble_eq_true rfl) (by decide) dX4_readWord_89 ?_
  refine lv_istore_n (lv' := [(1, .int 0), (5, .int 0), (4, .int 4), (3, .int 16), (2, .int 4), (0, .ref h)]) hx hb dX4_readWord_92 rfl hl (by decide) rfl (fun ls hl => ?_)
  refine lv_iinc (v := 5) (lv' := [(2, .int 5), (1, .int 0), (5, .int 0), (4, .int 4), (3, .int 16), (0, .ref h)]) hx hb dX4_readWord_93 hl (k := 4) rfl (by decide) (by decide) rfl (fun ls hl => ?_)
  refine lv_goto (tgt := 4) hx hb dX4_readWord_96 (by decide) ?_
  refine lv_iload_n hx hb dX4_readWord_4 rfl (lv_at hl 0 rfl) ?_
  refine lv_bipush (v := 8) hx hb dX4_readWord_5 (by decide) ?_
  refine lv_icmp_ge (tgt := 99) hx hb dX4_readWord_7 (by decide) (fun c_ => absurd c_ (by decide)) (fun c_ => ?_)
  refine va_gets hx hb (tx_wb hB) hV.2.2 hB.2.2.2.1 (hB.2.2.2.2.1 _ k_361) (fun _ h => h) dX4_readWord_10 ?_
  refine lv_iload_n hx hb dX4_readWord_13 rfl (lv_at hl 0 rfl) ?_
  refine va_ti (v := .int 20) hx hb (tx_tab hB) hV.2.2 (by unfold vp_in; decide) rfl dX4_readWord_14 ?_
  refine lv_istore_n (lv' := [(3, .int 20), (2, .int 5), (1, .int 0), (5, .int 0), (4, .int 4), (0, .ref h)]) hx hb dX4_readWord_15 rfl hl (by decide) rfl (fun ls hl => ?_)
  refine va_gets hx hb (tx_wb hB) hV.2.2 hB.2.2.2.1 (hB.2.2.2.2.1 _ k_361) (fun _ h => h) dX4_readWord_16 ?_
  refine lv_iload_n hx hb dX4_readWord_19 rfl (lv_at hl 1 rfl) ?_
  refine lv_iconst (v := 1) hx hb dX4_readWord_20 (by decide) ?_
  refine lv_iadd hx hb dX4_readWord_21 ?_
  refine x_ev (y := 6) (by decide) ?_
  refine va_ti (v := .int 24) hx hb (tx_tab hB) hV.2.2 (by unfold vp_in; decide) rfl dX4_readWord_22 ?_
  refine lv_iload_n hx hb dX4_readWord_23 rfl (lv_at hl 0 rfl) ?_
  refine lv_isub hx hb dX4_readWord_24 ?_
  refine x_ev (y := 4) (by decide) ?_
  refine lv_istore (lv' := [(4, .int 4), (3, .int 20), (2, .int 5), (1, .int 0), (5, .int 0), (0, .ref h)]) hx hb dX4_readWord_25 hl (by decide) rfl (fun ls hl => ?_)
  refine lv_iconst (v := 0) hx hb dX4_readWord_27 (by decide) ?_
  refine lv_istore (lv' := [(5, .int 0), (4, .int 4), (3, .int 20), (2, .int 5), (1, .int 0), (0, .ref h)]) hx hb dX4_readWord_28 hl (by decide) rfl (fun ls hl => ?_)
  refine lv_iload hx hb dX4_readWord_30 (lv_at hl 0 rfl) ?_
  refine lv_iload hx hb dX4_readWord_32 (lv_at hl 1 rfl) ?_
  refine lv_icmp_ge (tgt := 66) hx hb dX4_readWord_34 (by decide) (fun c_ => absurd c_ (by decide)) (fun c_ => ?_)
  refine lv_aload_n hx hb dX4_readWord_37 rfl (lv_at hl 5 rfl) ?_
  refine lv_aload_n hx hb dX4_readWord_38 rfl (lv_at hl 5 rfl) ?_
  refine x_get (v := .int 0) hB hV 0 rfl rfl 3 (by decide) k_91 rfl dX4_readWord_39 ?_
  refine lv_iload hx hb dX4_readWord_42 (lv_at hl 0 rfl) ?_
  refine lv_iadd hx hb dX4_readWord_44 ?_
  refine x_ev (y := 0) (by decide) ?_
  refine x_callV (n := 1) (wr := []) (q0 := 0) (As := [.int 0]) (rest := []) hB hV (x_N hB) hl.1 (c_byteAt l D cI cZ cS N0 h byt ) rfl rfl k_366 k_58 k_363 k_365 k_3 (by decide +kernel) ⟨(Nat.le_of_ble_eq_true rfl), (Nat.le_of_ble_eq_true rfl)⟩ rfl (Nat.le_of_ble_eq_true rfl) ⟨(Nat.le_of_ble_eq_true rfl), (Nat.le_of_ble_eq_true rfl)⟩ [0] [] rfl rfl rfl ⟨by decide, by decide, by decide⟩ dX4_readWord_45 (fun v w H locs hp hV => ?_)
  obtain ⟨rfl, rfl⟩ := hp
  have hV : Vx D A s.heap H locs [(h, .inr (4, [.ref byt, .int 0, .int 0, .int 0]))] := hV
  refine W.eq (g2 := F0 m 48 ls [.int (-1)]) rfl ?_
  refine va_ldcS hx hb hB.2.2.2.1 (tx_r hB) dX4_readWord_48 ?_
  refine lv_iload_n hx hb dX4_readWord_50 rfl (lv_at hl 2 rfl) ?_
  refine lv_iload hx hb dX4_readWord_51 (lv_at hl 0 rfl) ?_
  refine lv_iadd hx hb dX4_readWord_53 ?_
  refine x_ev (y := 20) (by decide) ?_
  refine x_callT (n := 1) (wr := [(h, .inr (4, [.ref byt, .int 0, .int 0, .int 0]))]) (As := [.int 20]) (rest := [.int (-1)]) hB hV (x_N hB) hl.1 (c_charAt l D cI cZ cS N0 20 20 (by omega) rfl) k_371 k_66 k_368 k_369 k_370 (by decide +kernel) ⟨(Nat.le_of_ble_eq_true rfl), (Nat.le_of_ble_eq_true rfl)⟩ rfl (Nat.le_of_ble_eq_true rfl) ⟨(Nat.le_of_ble_eq_true rfl), (Nat.le_of_ble_eq_true rfl)⟩ [0] rfl rfl dX4_readWord_54 (fun v w H locs hp hV => ?_)
  obtain ⟨r_11, rfl, rfl, f_12⟩ := hp
  have hV : Vx D A s.heap H locs [(h, .inr (4, [.ref byt, .int 0, .int 0, .int 0]))] := hV
  refine W.eq (g2 := F0 m 57 ls [.int r_11, .int (-1)]) rfl ?_
  refine lv_icmp_ne (tgt := 66) hx hb dX4_readWord_57 (by decide) (fun c_ => ?_) (fun c_ => absurd c_ f_12)
  refine lv_iload hx hb dX4_readWord_66 (lv_at hl 0 rfl) ?_
  refine lv_iload hx hb dX4_readWord_68 (lv_at hl 1 rfl) ?_
  refine lv_icmp_ne (tgt := 86) hx hb dX4_readWord_70 (by decide) (fun c_ => ?_) (fun c_ => absurd c_ (by decide))
  refine lv_iload_n hx hb dX4_readWord_86 rfl (lv_at hl 4 rfl) ?_
  refine lv_iload hx hb dX4_readWord_87 (lv_at hl 0 rfl) ?_
  refine x_max (v := 0) hB k_408 k_241 k_63 k_242 hl.1 (Nat.le_of_ble_eq_true rfl) (Nat.le_of_ble_eq_true rfl) (Nat.le_of_ble_eq_true rfl) (Nat.le_of_ble_eq_true rfl) (by decide) dX4_readWord_89 ?_
  refine lv_istore_n (lv' := [(1, .int 0), (5, .int 0), (4, .int 4), (3, .int 20), (2, .int 5), (0, .ref h)]) hx hb dX4_readWord_92 rfl hl (by decide) rfl (fun ls hl => ?_)
  refine lv_iinc (v := 6) (lv' := [(2, .int 6), (1, .int 0), (5, .int 0), (4, .int 4), (3, .int 20), (0, .ref h)]) hx hb dX4_readWord_93 hl (k := 4) rfl (by decide) (by decide) rfl (fun ls hl => ?_)
  refine lv_goto (tgt := 4) hx hb dX4_readWord_96 (by decide) ?_
  refine lv_iload_n hx hb dX4_readWord_4 rfl (lv_at hl 0 rfl) ?_
  refine lv_bipush (v := 8) hx hb dX4_readWord_5 (by decide) ?_
  refine lv_icmp_ge (tgt := 99) hx hb dX4_readWord_7 (by decide) (fun c_ => absurd c_ (by decide)) (fun c_ => ?_)
  refine va_gets hx hb (tx_wb hB) hV.2.2 hB.2.2.2.1 (hB.2.2.2.2.1 _ k_361) (fun _ h => h) dX4_readWord_10 ?_
  refine lv_iload_n hx hb dX4_readWord_13 rfl (lv_at hl 0 rfl) ?_
  refine va_ti (v := .int 24) hx hb (tx_tab hB) hV.2.2 (by unfold vp_in; decide) rfl dX4_readWord_14 ?_
  refine lv_istore_n (lv' := [(3, .int 24), (2, .int 6), (1, .int 0), (5, .int 0), (4, .int 4), (0, .ref h)]) hx hb dX4_readWord_15 rfl hl (by decide) rfl (fun ls hl => ?_)
  refine va_gets hx hb (tx_wb hB) hV.2.2 hB.2.2.2.1 (hB.2.2.2.2.1 _ k_361) (fun _ h => h) dX4_readWord_16 ?_
  refine lv_iload_n hx hb dX4_readWord_19 rfl (lv_at hl 1 rfl) ?_
  refine lv_iconst (v := 1) hx hb dX4_readWord_20 (by decide) ?_
  refine lv_iadd hx hb dX4_readWord_21 ?_
  refine x_ev (y := 7) (by decide) ?_
  refine va_ti (v := .int 27) hx hb (tx_tab hB) hV.2.2 (by unfold vp_in; decide) rfl dX4_readWord_22 ?_
  refine lv_iload_n hx hb dX4_readWord_23 rfl (lv_at hl 0 rfl) ?_
  refine lv_isub hx hb dX4_readWord_24 ?_
  refine x_ev (y := 3) (by decide) ?_
  refine lv_istore (lv' := [(4, .int 3), (3, .int 24), (2, .int 6), (1, .int 0), (5, .int 0), (0, .ref h)]) hx hb dX4_readWord_25 hl (by decide) rfl (fun ls hl => ?_)
  refine lv_iconst (v := 0) hx hb dX4_readWord_27 (by decide) ?_
  refine lv_istore (lv' := [(5, .int 0), (4, .int 3), (3, .int 24), (2, .int 6), (1, .int 0), (0, .ref h)]) hx hb dX4_readWord_28 hl (by decide) rfl (fun ls hl => ?_)
  refine lv_iload hx hb dX4_readWord_30 (lv_at hl 0 rfl) ?_
  refine lv_iload hx hb dX4_readWord_32 (lv_at hl 1 rfl) ?_
  refine lv_icmp_ge (tgt := 66) hx hb dX4_readWord_34 (by decide) (fun c_ => absurd c_ (by decide)) (fun c_ => ?_)
  refine lv_aload_n hx hb dX4_readWord_37 rfl (lv_at hl 5 rfl) ?_
  refine lv_aload_n hx hb dX4_readWord_38 rfl (lv_at hl 5 rfl) ?_
  refine x_get (v := .int 0) hB hV 0 rfl rfl 3 (by decide) k_91 rfl dX4_readWord_39 ?_
  refine lv_iload hx hb dX4_readWord_42 (lv_at hl 0 rfl) ?_
  refine lv_iadd hx hb dX4_readWord_44 ?_
  refine x_ev (y := 0) (by decide) ?_
  refine x_callV (n := 1) (wr := []) (q0 := 0) (As := [.int 0]) (rest := []) hB hV (x_N hB) hl.1 (c_byteAt l D cI cZ cS N0 h byt ) rfl rfl k_366 k_58 k_363 k_365 k_3 (by decide +kernel) ⟨(Nat.le_of_ble_eq_true rfl), (Nat.le_of_ble_eq_true rfl)⟩ rfl (Nat.le_of_ble_eq_true rfl) ⟨(Nat.le_of_ble_eq_true rfl), (Nat.le_of_ble_eq_true rfl)⟩ [0] [] rfl rfl rfl ⟨by decide, by decide, by decide⟩ dX4_readWord_45 (fun v w H locs hp hV => ?_)
  obtain ⟨rfl, rfl⟩ := hp
  have hV : Vx D A s.heap H locs [(h, .inr (4, [.ref byt, .int 0, .int 0, .int 0]))] := hV
  refine W.eq (g2 := F0 m 48 ls [.int (-1)]) rfl ?_
  refine va_ldcS hx hb hB.2.2.2.1 (tx_r hB) dX4_readWord_48 ?_
  refine lv_iload_n hx hb dX4_readWord_50 rfl (lv_at hl 2 rfl) ?_
  refine lv_iload hx hb dX4_readWord_51 (lv_at hl 0 rfl) ?_
  refine lv_iadd hx hb dX4_readWord_53 ?_
  refine x_ev (y := 24) (by decide) ?_
  refine x_callT (n := 1) (wr := [(h, .inr (4, [.ref byt, .int 0, .int 0, .int 0]))]) (As := [.int 24]) (rest := [.int (-1)]) hB hV (x_N hB) hl.1 (c_charAt l D cI cZ cS N0 24 24 (by omega) rfl) k_371 k_66 k_368 k_369 k_370 (by decide +kernel) ⟨(Nat.le_of_ble_eq_true rfl), (Nat.le_of_ble_eq_true rfl)⟩ rfl (Nat.le_of_ble_eq_true rfl) ⟨(Nat.le_of_ble_eq_true rfl), (Nat.le_of_ble_eq_true rfl)⟩ [0] rfl rfl dX4_readWord_54 (fun v w H locs hp hV => ?_)
  obtain ⟨r_13, rfl, rfl, f_14⟩ := hp
  have hV : Vx D A s.heap H locs [(h, .inr (4, [.ref byt, .int 0, .int 0, .int 0]))] := hV
  refine W.eq (g2 := F0 m 57 ls [.int r_13, .int (-1)]) rfl ?_
  refine lv_icmp_ne (tgt := 66) hx hb dX4_readWord_57 (by decide) (fun c_ => ?_) (fun c_ => absurd c_ f_14)
  refine lv_iload hx hb dX4_readWord_66 (lv_at hl 0 rfl) ?_
  refine lv_iload hx hb dX4_readWord_68 (lv_at hl 1 rfl) ?_
  refine lv_icmp_ne (tgt := 86) hx hb dX4_readWord_70 (by decide) (fun c_ => ?_) (fun c_ => absurd c_ (by decide))
  refine lv_iload_n hx hb dX4_readWord_86 rfl (lv_at hl 4 rfl) ?_
  refine lv_iload hx hb dX4_readWord_87 (lv_at hl 0 rfl) ?_
  refine x_max (v := 0) hB k_408 k_241 k_63 k_242 hl.1 (Nat.le_of_ble_eq_true rfl) (Nat.le_of_ble_eq_true rfl) (Nat.le_of_ble_eq_true rfl) (Nat.le_of_ble_eq_true rfl) (by decide) dX4_readWord_89 ?_
  refine lv_istore_n (lv' := [(1, .int 0), (5, .int 0), (4, .int 3), (3, .int 24), (2, .int 6), (0, .ref h)]) hx hb dX4_readWord_92 rfl hl (by decide) rfl (fun ls hl => ?_)
  refine lv_iinc (v := 7) (lv' := [(2, .int 7), (1, .int 0), (5, .int 0), (4, .int 3), (3, .int 24), (0, .ref h)]) hx hb dX4_readWord_93 hl (k := 4) rfl (by decide) (by decide) rfl (fun ls hl => ?_)
  refine lv_goto (tgt := 4) hx hb dX4_readWord_96 (by decide) ?_
  refine lv_iload_n hx hb dX4_readWord_4 rfl (lv_at hl 0 rfl) ?_
  refine lv_bipush (v := 8) hx hb dX4_readWord_5 (by decide) ?_
  refine lv_icmp_ge (tgt := 99) hx hb dX4_readWord_7 (by decide) (fun c_ => absurd c_ (by decide)) (fun c_ => ?_)
  refine va_gets hx hb (tx_wb hB) hV.2.2 hB.2.2.2.1 (hB.2.2.2.2.1 _ k_361) (fun _ h => h) dX4_readWord_10 ?_
  refine lv_iload_n hx hb dX4_readWord_13 rfl (lv_at hl 0 rfl) ?_
  refine va_ti (v := .int 27) hx hb (tx_tab hB) hV.2.2 (by unfold vp_in; decide) rfl dX4_readWord_14 ?_
  refine lv_istore_n (lv' := [(3, .int 27), (2, .int 7), (1, .int 0), (5, .int 0), (4, .int 3), (0, .ref h)]) hx hb dX4_readWord_15 rfl hl (by decide) rfl (fun ls hl => ?_)
  refine va_gets hx hb (tx_wb hB) hV.2.2 hB.2.2.2.1 (hB.2.2.2.2.1 _ k_361) (fun _ h => h) dX4_readWord_16 ?_
  refine lv_iload_n hx hb dX4_readWord_19 rfl (lv_at hl 1 rfl) ?_
  refine lv_iconst (v := 1) hx hb dX4_readWord_20 (by decide) ?_
  refine lv_iadd hx hb dX4_readWord_21 ?_
  refine x_ev (y := 8) (by decide) ?_
  refine va_ti (v := .int 30) hx hb (tx_tab hB) hV.2.2 (by unfold vp_in; decide) rfl dX4_readWord_22 ?_
  refine lv_iload_n hx hb dX4_readWord_23 rfl (lv_at hl 0 rfl) ?_
  refine lv_isub hx hb dX4_readWord_24 ?_
  refine x_ev (y := 3) (by decide) ?_
  refine lv_istore (lv' := [(4, .int 3), (3, .int 27), (2, .int 7), (1, .int 0), (5, .int 0), (0, .ref h)]) hx hb dX4_readWord_25 hl (by decide) rfl (fun ls hl => ?_)
  refine lv_iconst (v := 0) hx hb dX4_readWord_27 (by decide) ?_
  refine lv_istore (lv' := [(5, .int 0), (4, .int 3), (3, .int 27), (2, .int 7), (1, .int 0), (0, .ref h)]) hx hb dX4_readWord_28 hl (by decide) rfl (fun ls hl => ?_)
  refine lv_iload hx hb dX4_readWord_30 (lv_at hl 0 rfl) ?_
  refine lv_iload hx hb dX4_readWord_32 (lv_at hl 1 rfl) ?_
  refine lv_icmp_ge (tgt := 66) hx hb dX4_readWord_34 (by decide) (fun c_ => absurd c_ (by decide)) (fun c_ => ?_)
  refine lv_aload_n hx hb dX4_readWord_37 rfl (lv_at hl 5 rfl) ?_
  refine lv_aload_n hx hb dX4_readWord_38 rfl (lv_at hl 5 rfl) ?_
  refine x_get (v := .int 0) hB hV 0 rfl rfl 3 (by decide) k_91 rfl dX4_readWord_39 ?_
  refine lv_iload hx hb dX4_readWord_42 (lv_at hl 0 rfl) ?_
  refine lv_iadd hx hb dX4_readWord_44 ?_
  refine x_ev (y := 0) (by decide) ?_
  refine x_callV (n := 1) (wr := []) (q0 := 0) (As := [.int 0]) (rest := []) hB hV (x_N hB) hl.1 (c_byteAt l D cI cZ cS N0 h byt ) rfl rfl k_366 k_58 k_363 k_365 k_3 (by decide +kernel) ⟨(Nat.le_of_ble_eq_true rfl), (Nat.le_of_ble_eq_true rfl)⟩ rfl (Nat.le_of_ble_eq_true rfl) ⟨(Nat.le_of_ble_eq_true rfl), (Nat.le_of_ble_eq_true rfl)⟩ [0] [] rfl rfl rfl ⟨by decide, by decide, by decide⟩ dX4_readWord_45 (fun v w H locs hp hV => ?_)
  obtain ⟨rfl, rfl⟩ := hp
  have hV : Vx D A s.heap H locs [(h, .inr (4, [.ref byt, .int 0, .int 0, .int 0]))] := hV
  refine W.eq (g2 := F0 m 48 ls [.int (-1)]) rfl ?_
  refine va_ldcS hx hb hB.2.2.2.1 (tx_r hB) dX4_readWord_48 ?_
  refine lv_iload_n hx hb dX4_readWord_50 rfl (lv_at hl 2 rfl) ?_
  refine lv_iload hx hb dX4_readWord_51 (lv_at hl 0 rfl) ?_
  refine lv_iadd hx hb dX4_readWord_53 ?_
  refine x_ev (y := 27) (by decide) ?_
  refine x_callT (n := 1) (wr := [(h, .inr (4, [.ref byt, .int 0, .int 0, .int 0]))]) (As := [.int 27]) (rest := [.int (-1)]) hB hV (x_N hB) hl.1 (c_charAt l D cI cZ cS N0 27 27 (by omega) rfl) k_371 k_66 k_368 k_369 k_370 (by decide +kernel) ⟨(Nat.le_of_ble_eq_true rfl), (Nat.le_of_ble_eq_true rfl)⟩ rfl (Nat.le_of_ble_eq_true rfl) ⟨(Nat.le_of_ble_eq_true rfl), (Nat.le_of_ble_eq_true rfl)⟩ [0] rfl rfl dX4_readWord_54 (fun v w H locs hp hV => ?_)
  obtain ⟨r_15, rfl, rfl, f_16⟩ := hp
  have hV : Vx D A s.heap H locs [(h, .inr (4, [.ref byt, .int 0, .int 0, .int 0]))] := hV
  refine W.eq (g2 := F0 m 57 ls [.int r_15, .int (-1)]) rfl ?_
  refine lv_icmp_ne (tgt := 66) hx hb dX4_readWord_57 (by decide) (fun c_ => ?_) (fun c_ => absurd c_ f_16)
  refine lv_iload hx hb dX4_readWord_66 (lv_at hl 0 rfl) ?_
  refine lv_iload hx hb dX4_readWord_68 (lv_at hl 1 rfl) ?_
  refine lv_icmp_ne (tgt := 86) hx hb dX4_readWord_70 (by decide) (fun c_ => ?_) (fun c_ => absurd c_ (by decide))
  refine lv_iload_n hx hb dX4_readWord_86 rfl (lv_at hl 4 rfl) ?_
  refine lv_iload hx hb dX4_readWord_87 (lv_at hl 0 rfl) ?_
  refine x_max (v := 0) hB k_408 k_241 k_63 k_242 hl.1 (Nat.le_of_ble_eq_true rfl) (Nat.le_of_ble_eq_true rfl) (Nat.le_of_ble_eq_true rfl) (Nat.le_of_ble_eq_true rfl) (by decide) dX4_readWord_89 ?_
  refine lv_istore_n (lv' := [(1, .int 0), (5, .int 0), (4, .int 3), (3, .int 27), (2, .int 7), (0, .ref h)]) hx hb dX4_readWord_92 rfl hl (by decide) rfl (fun ls hl => ?_)
  refine lv_iinc (v := 8) (lv' := [(2, .int 8), (1, .int 0), (5, .int 0), (4, .int 3), (3, .int 27), (0, .ref h)]) hx hb dX4_readWord_93 hl (k := 4) rfl (by decide) (by decide) rfl (fun ls hl => ?_)
  refine lv_goto (tgt := 4) hx hb dX4_readWord_96 (by decide) ?_
  refine lv_iload_n hx hb dX4_readWord_4 rfl (lv_at hl 0 rfl) ?_
  refine lv_bipush (v := 8) hx hb dX4_readWord_5 (by decide) ?_
  refine lv_icmp_ge (tgt := 99) hx hb dX4_readWord_7 (by decide) (fun c_ => ?_) (fun c_ => absurd (by decide) c_)
  refine lv_aload_n hx hb dX4_readWord_99 rfl (lv_at hl 5 rfl) ?_
  refine lv_dup hx hb dX4_readWord_100 rfl ?_
  refine x_get (v := .int 0) hB hV 0 rfl rfl 3 (by decide) k_91 rfl dX4_readWord_101 ?_
  refine lv_iload_n hx hb dX4_readWord_104 rfl (lv_at hl 1 rfl) ?_
  refine lv_iadd hx hb dX4_readWord_105 ?_
  refine x_ev (y := 0) (by decide) ?_
  refine x_put (v := .int 0) hB hV 0 rfl rfl 3 (by decide) k_91 rfl rfl rfl (Nat.le_of_ble_eq_true rfl) dX4_readWord_106 (fun H locs hV => ?_)
  have hV : Vx D A s.heap H locs [(h, .inr (4, [.ref byt, .int 0, .int 0, .int 0]))] := hV
  refine lv_iconst (v := (-1)) hx hb dX4_readWord_109 (by decide) ?_
  exact x_iret (w := [(h, .inr (4, [.ref byt, .int 0, .int 0, .int 0]))]) hB hr hV hA (Nat.le_of_ble_eq_true rfl) (Nat.le_of_ble_eq_true rfl) [0] rfl rfl (by decide) dX4_readWord_110 ⟨rfl, rfl⟩
set_option maxHeartbeats 4000000 in
set_option maxRecDepth 100000 in
theorem c_readAct (l : Launch) (D : va_G) (cI cZ cS : ClassId) (N0 : NT) (h : Nat) (byt : Nat) (pg : Nat)  : Mx l D cI cZ cS N0 yX4_readAct cX4_readAct 5 (some .boolean) 5 0 0 [.ref h, .ref pg] [(h, .inr (4, [.ref byt, .int 0, .int 0, .int 0]))] (fun v w => v = some (.int 0) ∧ w = ([(h, .inr (4, [.ref byt, .int 0, .int 0, .int 0]))] : va_W)) := by
  refine x_enter (by decide) (Nat.le_of_ble_eq_true rfl) ?_
  intro p e s m args below meth c A ls H locs hB hr hin hl hV hA
  have hx := hB.1
  have hb := hB.2.1
  have hl : lv_has ls 5 [(0, .ref h), (1, .ref pg)] := hl
  refine lv_aload_n hx hb dX4_readAct_0 rfl (lv_at hl 0 rfl) ?_
  refine x_callV (n := 0) (wr := []) (q0 := 0) (As := []) (rest := []) hB hV (x_N hB) hl.1 (c_readWord l D cI cZ cS N0 h byt ) rfl rfl k_360 k_58 k_357 k_359 k_2 (by decide +kernel) ⟨(Nat.le_of_ble_eq_true rfl), (Nat.le_of_ble_eq_true rfl)⟩ rfl (Nat.le_of_ble_eq_true rfl) ⟨(Nat.le_of_ble_eq_true rfl), (Nat.le_of_ble_eq_true rfl)⟩ [0] [] rfl rfl rfl ⟨by decide, by decide, by decide⟩ dX4_readAct_1 (fun v w H locs hp hV => ?_)
  obtain ⟨rfl, rfl⟩ := hp
  have hV : Vx D A s.heap H locs [(h, .inr (4, [.ref byt, .int 0, .int 0, .int 0]))] := hV
  refine W.eq (g2 := F0 m 4 ls [.int (-1)]) rfl ?_
  refine lv_istore_n (lv' := [(2, .int (-1)), (0, .ref h), (1, .ref pg)]) hx hb dX4_readAct_4 rfl hl (by decide) rfl (fun ls hl => ?_)
  refine lv_iload_n hx hb dX4_readAct_5 rfl (lv_at hl 0 rfl) ?_
  refine lv_iconst (v := (-1)) hx hb dX4_readAct_6 (by decide) ?_
  refine lv_icmp_ne (tgt := 12) hx hb dX4_readAct_7 (by decide) (fun c_ => absurd (by decide) c_) (fun c_ => ?_)
  refine lv_iconst (v := 0) hx hb dX4_readAct_10 (by decide) ?_
  exact x_zret (w := [(h, .inr (4, [.ref byt, .int 0, .int 0, .int 0]))]) hB hr rfl hV hA (Nat.le_of_ble_eq_true rfl) (Nat.le_of_ble_eq_true rfl) [0] rfl rfl (by decide) dX4_readAct_11 ⟨rfl, rfl⟩
set_option maxHeartbeats 4000000 in
set_option maxRecDepth 100000 in
theorem c_readActs (l : Launch) (D : va_G) (cI cZ cS : ClassId) (N0 : NT) (h : Nat) (byt : Nat) (pg : Nat)  : Mx l D cI cZ cS N0 yX4_readActs cX4_readActs 3 (some .boolean) 6 0 0 [.ref h, .ref pg] [(h, .inr (4, [.ref byt, .int 0, .int 0, .int 0]))] (fun v w => v = some (.int 0) ∧ w = ([(h, .inr (4, [.ref byt, .int 0, .int 0, .int 0]))] : va_W)) := by
  refine x_enter (by decide) (Nat.le_of_ble_eq_true rfl) ?_
  intro p e s m args below meth c A ls H locs hB hr hin hl hV hA
  have hx := hB.1
  have hb := hB.2.1
  have hl : lv_has ls 3 [(0, .ref h), (1, .ref pg)] := hl
  refine lv_iconst (v := 0) hx hb dX4_readActs_0 (by decide) ?_
  refine lv_istore_n (lv' := [(2, .int 0), (0, .ref h), (1, .ref pg)]) hx hb dX4_readActs_1 rfl hl (by decide) rfl (fun ls hl => ?_)
  refine lv_iload_n hx hb dX4_readActs_2 rfl (lv_at hl 0 rfl) ?_
  refine lv_bipush (v := 8) hx hb dX4_readActs_3 (by decide) ?_
  refine lv_icmp_ge (tgt := 42) hx hb dX4_readActs_5 (by decide) (fun c_ => absurd c_ (by decide)) (fun c_ => ?_)
  refine lv_aload_n hx hb dX4_readActs_8 rfl (lv_at hl 1 rfl) ?_
  refine lv_aload_n hx hb dX4_readActs_9 rfl (lv_at hl 2 rfl) ?_
  refine x_callV (n := 1) (wr := []) (q0 := 0) (As := [.ref pg]) (rest := []) hB hV (x_N hB) hl.1 (c_readAct l D cI cZ cS N0 h byt pg ) rfl rfl k_356 k_58 k_353 k_355 k_1 (by decide +kernel) ⟨(Nat.le_of_ble_eq_true rfl), (Nat.le_of_ble_eq_true rfl)⟩ rfl (Nat.le_of_ble_eq_true rfl) ⟨(Nat.le_of_ble_eq_true rfl), (Nat.le_of_ble_eq_true rfl)⟩ [0] [] rfl rfl rfl ⟨by decide, by decide, by decide⟩ dX4_readActs_10 (fun v w H locs hp hV => ?_)
  obtain ⟨rfl, rfl⟩ := hp
  have hV : Vx D A s.heap H locs [(h, .inr (4, [.ref byt, .int 0, .int 0, .int 0]))] := hV
  refine W.eq (g2 := F0 m 13 ls [.int 0]) rfl ?_
  refine lv_if_ne (tgt := 18) hx hb dX4_readActs_13 (by decide) (fun c_ => absurd (by decide) c_) (fun c_ => ?_)
  refine lv_iconst (v := 0) hx hb dX4_readActs_16 (by decide) ?_
  exact x_zret (w := [(h, .inr (4, [.ref byt, .int 0, .int 0, .int 0]))]) hB hr rfl hV hA (Nat.le_of_ble_eq_true rfl) (Nat.le_of_ble_eq_true rfl) [0] rfl rfl (by decide) dX4_readActs_17 ⟨rfl, rfl⟩
set_option maxHeartbeats 4000000 in
set_option maxRecDepth 100000 in
theorem c_takeProgram (l : Launch) (D : va_G) (cI cZ cS : ClassId) (N0 : NT) (h : Nat) (byt : Nat)  : Mx l D cI cZ cS N0 yX4_takeProgram cX4_takeProgram 3 (some (.object "TwiceOnce$Program")) 7 4 28 [.ref h] [(h, .inr (4, [.ref byt, .int 0, .int 0, .int 0]))] (fun v w => v = some (.null) ∧ w = ([(h, .inr (4, [.ref byt, .int 0, .int 0, .int 0]))] : va_W)) := by
  refine x_enter (by decide) (Nat.le_of_ble_eq_true rfl) ?_
  intro p e s m args below meth c A ls H locs hB hr hin hl hV hA
  have hx := hB.1
  have hb := hB.2.1
  have hl : lv_has ls 3 [(0, .ref h)] := hl
  refine x_new (ci := 2) (fs := [.null, .null, .null, .int 0]) hB hV rfl k_347 k_116 k_61 (fnew_2) (Nat.le_of_ble_eq_true rfl) (Nat.le_of_ble_eq_true rfl) dX4_takeProgram_0 (fun q_1 H hV => ?_)
  have hV : Vx D A s.heap H locs [(h, .inr (4, [.ref byt, .int 0, .int 0, .int 0])), (q_1, .inr (2, [.null, .null, .null, .int 0]))] := hV
  refine W.widen (k := 1) (n := 4) (Nat.le_of_ble_eq_true rfl) (Nat.le_of_ble_eq_true rfl) ?_
  refine lv_dup hx hb dX4_takeProgram_3 rfl ?_
  refine x_callIN (n := 0) (host := RX6) (wr := [(h, .inr (4, [.ref byt, .int 0, .int 0, .int 0]))]) (As := []) (rest := [.ref q_1]) hB hV (x_N hB) hl.1 (c_Program_init l D cI cZ cS N0 q_1 ) k_119 k_61 hB.2.2.2.2.2.2.2.2.1.2.2.2.2.1 k_118 rfl (by decide +kernel) ⟨(Nat.le_of_ble_eq_true rfl), (Nat.le_of_ble_eq_true rfl)⟩ rfl (Nat.le_of_ble_eq_true rfl) ⟨(Nat.le_of_ble_eq_true rfl), (Nat.le_of_ble_eq_true rfl)⟩ [1] [0] rfl rfl rfl ⟨by decide, by decide, by decide⟩ dX4_takeProgram_4 (fun v w H locs hp hV => ?_)
  obtain ⟨a1_2, a2_3, a3_4, rfl, rfl⟩ := hp
  have hV : Vx D A s.heap H locs [(h, .inr (4, [.ref byt, .int 0, .int 0, .int 0])), (q_1, .inr (2, [.ref a1_2, .ref a2_3, .ref a3_4, .int 0]))] := hV
  refine W.eq (g2 := F0 m 7 ls [.ref q_1]) rfl ?_
  refine lv_astore_n (lv' := [(1, .ref q_1), (0, .ref h)]) hx hb dX4_takeProgram_7 rfl hl (by decide) rfl (fun ls hl => ?_)
  refine lv_aload_n hx hb dX4_takeProgram_8 rfl (lv_at hl 1 rfl) ?_
  refine lv_iconst (v := 0) hx hb dX4_takeProgram_9 (by decide) ?_
  refine x_put (v := .int 0) hB hV 0 rfl rfl 3 (by decide) k_91 rfl rfl rfl (Nat.le_of_ble_eq_true rfl) dX4_takeProgram_10 (fun H locs hV => ?_)
  have hV : Vx D A s.heap H locs [(h, .inr (4, [.ref byt, .int 0, .int 0, .int 0])), (q_1, .inr (2, [.ref a1_2, .ref a2_3, .ref a3_4, .int 0]))] := hV
  refine lv_aload_n hx hb dX4_takeProgram_13 rfl (lv_at hl 1 rfl) ?_
  refine lv_aload_n hx hb dX4_takeProgram_14 rfl (lv_at hl 0 rfl) ?_
  refine x_callV (n := 1) (wr := [(q_1, .inr (2, [.ref a1_2, .ref a2_3, .ref a3_4, .int 0]))]) (q0 := 0) (As := [.ref q_1]) (rest := []) hB hV (x_N hB) hl.1 (c_readActs l D cI cZ cS N0 h byt q_1 ) rfl rfl k_352 k_58 k_349 k_351 k_0 (by decide +kernel) ⟨(Nat.le_of_ble_eq_true rfl), (Nat.le_of_ble_eq_true rfl)⟩ rfl (Nat.le_of_ble_eq_true rfl) ⟨(Nat.le_of_ble_eq_true rfl), (Nat.le_of_ble_eq_true rfl)⟩ [0] [1] rfl rfl rfl ⟨by decide, by decide, by decide⟩ dX4_takeProgram_15 (fun v w H locs hp hV => ?_)
  obtain ⟨rfl, rfl⟩ := hp
  have hV : Vx D A s.heap H locs [(q_1, .inr (2, [.ref a1_2, .ref a2_3, .ref a3_4, .int 0])), (h, .inr (4, [.ref byt, .int 0, .int 0, .int 0]))] := hV
  refine W.eq (g2 := F0 m 18 ls [.int 0]) rfl ?_
  refine lv_if_eq (tgt := 36) hx hb dX4_takeProgram_18 (by decide) (fun c_ => ?_) (fun c_ => absurd (by decide) c_)
  refine lv_iconst (v := 0) hx hb dX4_takeProgram_36 (by decide) ?_
  refine lv_istore_n (lv' := [(2, .int 0), (1, .ref q_1), (0, .ref h)]) hx hb dX4_takeProgram_37 rfl hl (by decide) rfl (fun ls hl => ?_)
  refine lv_aload_n hx hb dX4_takeProgram_38 rfl (lv_at hl 2 rfl) ?_
  refine lv_aload_n hx hb dX4_takeProgram_39 rfl (lv_at hl 2 rfl) ?_
  refine x_get (v := .int 0) hB hV 1 rfl rfl 3 (by decide) k_91 rfl dX4_takeProgram_40 ?_
  refine x_put (v := .int 0) hB hV 1 rfl rfl 2 (by decide) k_89 rfl rfl rfl (Nat.le_of_ble_eq_true rfl) dX4_takeProgram_43 (fun H locs hV => ?_)
  have hV : Vx D A s.heap H locs [(q_1, .inr (2, [.ref a1_2, .ref a2_3, .ref a3_4, .int 0])), (h, .inr (4, [.ref byt, .int 0, .int 0, .int 0]))] := hV
  refine lv_aload_n hx hb dX4_takeProgram_46 rfl (lv_at hl 2 rfl) ?_
  refine lv_iconst (v := 0) hx hb dX4_takeProgram_47 (by decide) ?_
  refine x_put (v := .int 0) hB hV 1 rfl rfl 1 (by decide) k_87 rfl rfl rfl (Nat.le_of_ble_eq_true rfl) dX4_takeProgram_48 (fun H locs hV => ?_)
  have hV : Vx D A s.heap H locs [(q_1, .inr (2, [.ref a1_2, .ref a2_3, .ref a3_4, .int 0])), (h, .inr (4, [.ref byt, .int 0, .int 0, .int 0]))] := hV
  refine lv_iload_n hx hb dX4_takeProgram_51 rfl (lv_at hl 0 rfl) ?_
  refine lv_if_eq (tgt := 59) hx hb dX4_takeProgram_52 (by decide) (fun c_ => ?_) (fun c_ => absurd (by decide) c_)
  refine lv_null hx hb dX4_takeProgram_59 ?_
  exact x_aret (w := [(h, .inr (4, [.ref byt, .int 0, .int 0, .int 0]))]) hB hr (Or.inl ⟨_, rfl⟩) (Or.inl rfl) hV hA (Nat.le_of_ble_eq_true rfl) (Nat.le_of_ble_eq_true rfl) [1] rfl rfl (by decide) dX4_takeProgram_60 ⟨rfl, rfl⟩
set_option maxHeartbeats 4000000 in
set_option maxRecDepth 100000 in
theorem p_service (l : Launch) (D : va_G) (cI cZ cS : ClassId) (N0 : NT) (h : Nat) (tp : Nat) (nw : Nat) (rw : Nat) (lg : Nat) (jd : Nat) (pr : Nat) (n1 : Nat) (n2 : Nat) (byt : Nat)  : Mx l D cI cZ cS N0 yX6_service cX6_service 2 (some .int) 8 4 28 [.ref h] [(h, .inr (6, [.ref tp, .ref nw, .ref rw, .ref lg, .ref jd, .ref pr, .int 0])), (nw, .inr (5, [.ref n1, .int 0, .int 0, .ref n2, .int 0, .int 0, .int 0, .int 0])), (tp, .inr (4, [.ref byt, .int 0, .int 0, .int 0]))] (fun v w => v = some (.int (-10)) ∧ w = ([] : va_W)) := by
  refine x_enter (by decide) (Nat.le_of_ble_eq_true rfl) ?_
  intro p e s m args below meth c A ls H locs hB hr hin hl hV hA
  have hx := hB.1
  have hb := hB.2.1
  have hl : lv_has ls 2 [(0, .ref h)] := hl
  refine lv_aload_n hx hb dX6_service_0 rfl (lv_at hl 0 rfl) ?_
  refine x_get (v := .ref nw) hB hV 0 rfl rfl 1 (by decide) k_309 rfl dX6_service_1 ?_
  refine x_get (v := .int 0) hB hV 1 rfl rfl 1 (by decide) k_203 rfl dX6_service_4 ?_
  refine lv_bipush (v := 6) hx hb dX6_service_7 (by decide) ?_
  refine lv_icmp_lt (tgt := 15) hx hb dX6_service_9 (by decide) (fun c_ => ?_) (fun c_ => absurd (by decide) c_)
  refine lv_aload_n hx hb dX6_service_15 rfl (lv_at hl 0 rfl) ?_
  refine x_get (v := .ref tp) hB hV 0 rfl rfl 0 (by decide) k_308 rfl dX6_service_16 ?_
  refine x_callV (n := 0) (wr := [(h, .inr (6, [.ref tp, .ref nw, .ref rw, .ref lg, .ref jd, .ref pr, .int 0])), (nw, .inr (5, [.ref n1, .int 0, .int 0, .ref n2, .int 0, .int 0, .int 0, .int 0]))]) (q0 := 2) (As := []) (rest := []) hB hV (x_N hB) hl.1 (c_takeProgram l D cI cZ cS N0 tp byt ) rfl rfl k_346 k_58 k_343 k_344 k_345 (by decide +kernel) ⟨(Nat.le_of_ble_eq_true rfl), (Nat.le_of_ble_eq_true rfl)⟩ rfl (Nat.le_of_ble_eq_true rfl) ⟨(Nat.le_of_ble_eq_true rfl), (Nat.le_of_ble_eq_true rfl)⟩ [2] [0, 1] rfl rfl rfl ⟨by decide, by decide, by decide⟩ dX6_service_19 (fun v w H locs hp hV => ?_)
  obtain ⟨rfl, rfl⟩ := hp
  have hV : Vx D A s.heap H locs [(h, .inr (6, [.ref tp, .ref nw, .ref rw, .ref lg, .ref jd, .ref pr, .int 0])), (nw, .inr (5, [.ref n1, .int 0, .int 0, .ref n2, .int 0, .int 0, .int 0, .int 0])), (tp, .inr (4, [.ref byt, .int 0, .int 0, .int 0]))] := hV
  refine W.eq (g2 := F0 m 22 ls [.null]) rfl ?_
  refine lv_astore_nN (lv' := [(1, .null), (0, .ref h)]) hx hb dX6_service_22 rfl hl (by decide) rfl (fun ls hl => ?_)
  refine lv_aload_nN hx hb dX6_service_23 rfl (lv_at hl 0 rfl) ?_
  refine lv_ifnonnullN hx hb dX6_service_24 ?_
  refine lv_bipush (v := (-10)) hx hb dX6_service_27 (by decide) ?_
  refine lv_aload_n hx hb dX6_service_29 rfl (lv_at hl 1 rfl) ?_
  refine x_get (v := .ref tp) hB hV 0 rfl rfl 0 (by decide) k_308 rfl dX6_service_30 ?_
  refine x_get (v := .int 0) hB hV 2 rfl rfl 2 (by decide) k_90 rfl dX6_service_33 ?_
  refine lv_isub hx hb dX6_service_36 ?_
  refine x_ev (y := (-10)) (by decide) ?_
  exact x_iret (w := []) hB hr hV hA (Nat.le_of_ble_eq_true rfl) (Nat.le_of_ble_eq_true rfl) [] rfl rfl (by decide) dX6_service_37 ⟨rfl, rfl⟩
end
section
theorem k_744 : Cond.methodLink RX7 1 Lib.objectInit ∈ tb := mt 744 (by decide +kernel) rfl
theorem k_746 : Cond.fieldLink RX7 7 "TwiceOnceModel" "acts" "[I" ∈ tb := mt 746 (by decide +kernel) rfl
theorem k_747 : Cond.fieldLink RX7 13 "TwiceOnceModel" "word" "[I" ∈ tb := mt 747 (by decide +kernel) rfl
theorem k_748 : Cond.fieldLink RX7 16 "TwiceOnceModel" "place" "[I" ∈ tb := mt 748 (by decide +kernel) rfl
theorem k_749 : Cond.fieldLink RX7 19 "TwiceOnceModel" "worth" "[I" ∈ tb := mt 749 (by decide +kernel) rfl
theorem k_750 : Cond.fieldLink RX7 22 "TwiceOnceModel" "mends" "[I" ∈ tb := mt 750 (by decide +kernel) rfl
theorem k_751 : Cond.fieldLink RX7 25 "TwiceOnceModel" "hold" "[I" ∈ tb := mt 751 (by decide +kernel) rfl
theorem k_752 : Cond.fieldLink RX7 28 "TwiceOnceModel" "store" "[I" ∈ tb := mt 752 (by decide +kernel) rfl
theorem k_753 : Cond.fieldLink RX7 31 "TwiceOnceModel" "count" "[I" ∈ tb := mt 753 (by decide +kernel) rfl
theorem k_754 : Cond.fieldLink RX7 34 "TwiceOnceModel" "kept" "[I" ∈ tb := mt 754 (by decide +kernel) rfl
theorem k_755 : Cond.fieldLink RX7 37 "TwiceOnceModel" "key" "[I" ∈ tb := mt 755 (by decide +kernel) rfl
theorem k_756 : Cond.fieldLink RX7 40 "TwiceOnceModel" "keyX" "[I" ∈ tb := mt 756 (by decide +kernel) rfl
theorem k_757 : Cond.fieldLink RX7 43 "TwiceOnceModel" "keyAnswer" "[I" ∈ tb := mt 757 (by decide +kernel) rfl
theorem k_758 : Cond.fieldLink RX7 46 "TwiceOnceModel" "keyTick" "[I" ∈ tb := mt 758 (by decide +kernel) rfl
theorem k_759 : Cond.fieldLink RX7 49 "TwiceOnceModel" "tick" "[I" ∈ tb := mt 759 (by decide +kernel) rfl
theorem k_760 : Cond.fieldLink RX7 52 "TwiceOnceModel" "knownX" "[I" ∈ tb := mt 760 (by decide +kernel) rfl
theorem k_761 : Cond.fieldLink RX7 55 "TwiceOnceModel" "knownKey" "[I" ∈ tb := mt 761 (by decide +kernel) rfl
theorem k_762 : Cond.fieldLink RX7 58 "TwiceOnceModel" "knownWord" "[I" ∈ tb := mt 762 (by decide +kernel) rfl
theorem k_763 : Cond.fieldLink RX7 61 "TwiceOnceModel" "knownPlace" "[I" ∈ tb := mt 763 (by decide +kernel) rfl
theorem k_764 : Cond.fieldLink RX7 64 "TwiceOnceModel" "knownWorth" "[I" ∈ tb := mt 764 (by decide +kernel) rfl
theorem k_765 : Cond.fieldLink RX7 67 "TwiceOnceModel" "isKnown" "[Z" ∈ tb := mt 765 (by decide +kernel) rfl
theorem k_768 : Cond.fieldLink RX7 71 "TwiceOnceModel" "out" "[I" ∈ tb := mt 768 (by decide +kernel) rfl
theorem k_770 : Cond.fieldLink RX7 74 "TwiceOnceModel" "logS" "[I" ∈ tb := mt 770 (by decide +kernel) rfl
theorem k_771 : Cond.fieldLink RX7 77 "TwiceOnceModel" "logX" "[I" ∈ tb := mt 771 (by decide +kernel) rfl
theorem k_772 : Cond.fieldLink RX7 80 "TwiceOnceModel" "logKey" "[I" ∈ tb := mt 772 (by decide +kernel) rfl
theorem k_773 : Cond.fieldLink RX7 83 "TwiceOnceModel" "tape" "[I" ∈ tb := mt 773 (by decide +kernel) rfl
theorem k_776 : Cond.fieldLink RX7 86 "TwiceOnceModel" "rowS" "[I" ∈ tb := mt 776 (by decide +kernel) rfl
theorem k_777 : Cond.fieldLink RX7 89 "TwiceOnceModel" "rowX" "[I" ∈ tb := mt 777 (by decide +kernel) rfl
theorem k_778 : Cond.fieldLink RX7 92 "TwiceOnceModel" "rowKey" "[I" ∈ tb := mt 778 (by decide +kernel) rfl
theorem k_780 : Cond.fieldLink RX7 95 "TwiceOnceModel" "price" "[I" ∈ tb := mt 780 (by decide +kernel) rfl
theorem k_784 : Cond.fieldLink RX7 98 "TwiceOnceModel" "newWord" "[I" ∈ tb := mt 784 (by decide +kernel) rfl
theorem k_785 : Cond.fieldLink RX7 101 "TwiceOnceModel" "newPlace" "[I" ∈ tb := mt 785 (by decide +kernel) rfl
theorem k_786 : Cond.fieldLink RX7 104 "TwiceOnceModel" "newWorth" "[I" ∈ tb := mt 786 (by decide +kernel) rfl
theorem k_787 : Cond.fieldLink RX7 107 "TwiceOnceModel" "words" "[I" ∈ tb := mt 787 (by decide +kernel) rfl
theorem k_788 : Cond.fieldLink RX7 110 "TwiceOnceModel" "fS" "[I" ∈ tb := mt 788 (by decide +kernel) rfl
theorem k_789 : Cond.fieldLink RX7 113 "TwiceOnceModel" "fX" "[I" ∈ tb := mt 789 (by decide +kernel) rfl
theorem k_790 : Cond.fieldLink RX7 116 "TwiceOnceModel" "fKey" "[I" ∈ tb := mt 790 (by decide +kernel) rfl
theorem k_791 : Cond.fieldLink RX7 119 "TwiceOnceModel" "fAt" "[I" ∈ tb := mt 791 (by decide +kernel) rfl
theorem k_792 : Cond.fieldLink RX7 122 "TwiceOnceModel" "fAnswer" "[I" ∈ tb := mt 792 (by decide +kernel) rfl
theorem k_793 : Cond.fieldLink RX7 125 "TwiceOnceModel" "fSame" "[Z" ∈ tb := mt 793 (by decide +kernel) rfl
theorem k_798 : Cond.fieldLink RX7 128 "TwiceOnceModel" "triedOut" "[I" ∈ tb := mt 798 (by decide +kernel) rfl
theorem k_799 : Cond.fieldLink RX7 131 "TwiceOnceModel" "aheadWord" "[I" ∈ tb := mt 799 (by decide +kernel) rfl
theorem k_800 : Cond.fieldLink RX7 134 "TwiceOnceModel" "aheadPlace" "[I" ∈ tb := mt 800 (by decide +kernel) rfl
theorem k_801 : Cond.fieldLink RX7 137 "TwiceOnceModel" "aheadWorth" "[I" ∈ tb := mt 801 (by decide +kernel) rfl
theorem k_802 : Cond.fieldLink RX7 140 "TwiceOnceModel" "onceStore" "[I" ∈ tb := mt 802 (by decide +kernel) rfl
theorem k_803 : Cond.fieldLink RX7 143 "TwiceOnceModel" "onceOut" "[I" ∈ tb := mt 803 (by decide +kernel) rfl
theorem k_804 : Cond.fieldLink RX7 146 "TwiceOnceModel" "onceAnswer" "[I" ∈ tb := mt 804 (by decide +kernel) rfl
theorem k_806 : Cond.fieldLink RX7 149 "TwiceOnceModel" "order" "[I" ∈ tb := mt 806 (by decide +kernel) rfl
theorem k_807 : Cond.fieldLink RX7 152 "TwiceOnceModel" "ended" "[I" ∈ tb := mt 807 (by decide +kernel) rfl
theorem k_808 : Cond.fieldLink RX7 155 "TwiceOnceModel" "heap" "[I" ∈ tb := mt 808 (by decide +kernel) rfl
theorem k_809 : Cond.fieldLink RX7 158 "TwiceOnceModel" "ownHeap" "[I" ∈ tb := mt 809 (by decide +kernel) rfl
theorem k_810 : Cond.fieldLink RX7 161 "TwiceOnceModel" "keptHold" "[I" ∈ tb := mt 810 (by decide +kernel) rfl
theorem k_811 : Cond.fieldLink RX7 164 "TwiceOnceModel" "keptMends" "[I" ∈ tb := mt 811 (by decide +kernel) rfl
theorem k_947 : Cond.arrayClass .boolean ∈ tb := mt 947 (by decide +kernel) rfl
theorem dX7_init_0 : decode cX7_init 0 = .ok (.aload_n 0, 1) := by decide +kernel
theorem dX7_init_1 : decode cX7_init 1 = .ok (.invokespecial 1, 3) := by decide +kernel
theorem dX7_init_4 : decode cX7_init 4 = .ok (.aload_n 0, 1) := by decide +kernel
theorem dX7_init_5 : decode cX7_init 5 = .ok (.bipush 6, 2) := by decide +kernel
theorem dX7_init_7 : decode cX7_init 7 = .ok (.newarray .int, 2) := by decide +kernel
theorem dX7_init_9 : decode cX7_init 9 = .ok (.putfield 7, 3) := by decide +kernel
theorem dX7_init_12 : decode cX7_init 12 = .ok (.aload_n 0, 1) := by decide +kernel
theorem dX7_init_13 : decode cX7_init 13 = .ok (.bipush 48, 2) := by decide +kernel
theorem dX7_init_15 : decode cX7_init 15 = .ok (.newarray .int, 2) := by decide +kernel
theorem dX7_init_17 : decode cX7_init 17 = .ok (.putfield 13, 3) := by decide +kernel
theorem dX7_init_20 : decode cX7_init 20 = .ok (.aload_n 0, 1) := by decide +kernel
theorem dX7_init_21 : decode cX7_init 21 = .ok (.bipush 48, 2) := by decide +kernel
theorem dX7_init_23 : decode cX7_init 23 = .ok (.newarray .int, 2) := by decide +kernel
theorem dX7_init_25 : decode cX7_init 25 = .ok (.putfield 16, 3) := by decide +kernel
theorem dX7_init_28 : decode cX7_init 28 = .ok (.aload_n 0, 1) := by decide +kernel
theorem dX7_init_29 : decode cX7_init 29 = .ok (.bipush 48, 2) := by decide +kernel
theorem dX7_init_31 : decode cX7_init 31 = .ok (.newarray .int, 2) := by decide +kernel
theorem dX7_init_33 : decode cX7_init 33 = .ok (.putfield 19, 3) := by decide +kernel
theorem dX7_init_36 : decode cX7_init 36 = .ok (.aload_n 0, 1) := by decide +kernel
theorem dX7_init_37 : decode cX7_init 37 = .ok (.bipush 6, 2) := by decide +kernel
theorem dX7_init_39 : decode cX7_init 39 = .ok (.newarray .int, 2) := by decide +kernel
theorem dX7_init_41 : decode cX7_init 41 = .ok (.putfield 22, 3) := by decide +kernel
theorem dX7_init_44 : decode cX7_init 44 = .ok (.aload_n 0, 1) := by decide +kernel
theorem dX7_init_45 : decode cX7_init 45 = .ok (.bipush 6, 2) := by decide +kernel
theorem dX7_init_47 : decode cX7_init 47 = .ok (.newarray .int, 2) := by decide +kernel
theorem dX7_init_49 : decode cX7_init 49 = .ok (.putfield 25, 3) := by decide +kernel
theorem dX7_init_52 : decode cX7_init 52 = .ok (.aload_n 0, 1) := by decide +kernel
theorem dX7_init_53 : decode cX7_init 53 = .ok (.bipush 48, 2) := by decide +kernel
theorem dX7_init_55 : decode cX7_init 55 = .ok (.newarray .int, 2) := by decide +kernel
theorem dX7_init_57 : decode cX7_init 57 = .ok (.putfield 28, 3) := by decide +kernel
theorem dX7_init_60 : decode cX7_init 60 = .ok (.aload_n 0, 1) := by decide +kernel
theorem dX7_init_61 : decode cX7_init 61 = .ok (.bipush 12, 2) := by decide +kernel
theorem dX7_init_63 : decode cX7_init 63 = .ok (.newarray .int, 2) := by decide +kernel
theorem dX7_init_65 : decode cX7_init 65 = .ok (.putfield 31, 3) := by decide +kernel
theorem dX7_init_68 : decode cX7_init 68 = .ok (.aload_n 0, 1) := by decide +kernel
theorem dX7_init_69 : decode cX7_init 69 = .ok (.bipush 12, 2) := by decide +kernel
theorem dX7_init_71 : decode cX7_init 71 = .ok (.newarray .int, 2) := by decide +kernel
theorem dX7_init_73 : decode cX7_init 73 = .ok (.putfield 34, 3) := by decide +kernel
theorem dX7_init_76 : decode cX7_init 76 = .ok (.aload_n 0, 1) := by decide +kernel
theorem dX7_init_77 : decode cX7_init 77 = .ok (.sipush 192, 3) := by decide +kernel
theorem dX7_init_80 : decode cX7_init 80 = .ok (.newarray .int, 2) := by decide +kernel
theorem dX7_init_82 : decode cX7_init 82 = .ok (.putfield 37, 3) := by decide +kernel
theorem dX7_init_85 : decode cX7_init 85 = .ok (.aload_n 0, 1) := by decide +kernel
theorem dX7_init_86 : decode cX7_init 86 = .ok (.sipush 192, 3) := by decide +kernel
theorem dX7_init_89 : decode cX7_init 89 = .ok (.newarray .int, 2) := by decide +kernel
theorem dX7_init_91 : decode cX7_init 91 = .ok (.putfield 40, 3) := by decide +kernel
theorem dX7_init_94 : decode cX7_init 94 = .ok (.aload_n 0, 1) := by decide +kernel
theorem dX7_init_95 : decode cX7_init 95 = .ok (.sipush 192, 3) := by decide +kernel
theorem dX7_init_98 : decode cX7_init 98 = .ok (.newarray .int, 2) := by decide +kernel
theorem dX7_init_100 : decode cX7_init 100 = .ok (.putfield 43, 3) := by decide +kernel
theorem dX7_init_103 : decode cX7_init 103 = .ok (.aload_n 0, 1) := by decide +kernel
theorem dX7_init_104 : decode cX7_init 104 = .ok (.sipush 192, 3) := by decide +kernel
theorem dX7_init_107 : decode cX7_init 107 = .ok (.newarray .int, 2) := by decide +kernel
theorem dX7_init_109 : decode cX7_init 109 = .ok (.putfield 46, 3) := by decide +kernel
theorem dX7_init_112 : decode cX7_init 112 = .ok (.aload_n 0, 1) := by decide +kernel
theorem dX7_init_113 : decode cX7_init 113 = .ok (.iconst 2, 1) := by decide +kernel
theorem dX7_init_114 : decode cX7_init 114 = .ok (.newarray .int, 2) := by decide +kernel
theorem dX7_init_116 : decode cX7_init 116 = .ok (.putfield 49, 3) := by decide +kernel
theorem dX7_init_119 : decode cX7_init 119 = .ok (.aload_n 0, 1) := by decide +kernel
theorem dX7_init_120 : decode cX7_init 120 = .ok (.bipush 12, 2) := by decide +kernel
theorem dX7_init_122 : decode cX7_init 122 = .ok (.newarray .int, 2) := by decide +kernel
theorem dX7_init_124 : decode cX7_init 124 = .ok (.putfield 52, 3) := by decide +kernel
theorem dX7_init_127 : decode cX7_init 127 = .ok (.aload_n 0, 1) := by decide +kernel
theorem dX7_init_128 : decode cX7_init 128 = .ok (.bipush 12, 2) := by decide +kernel
theorem dX7_init_130 : decode cX7_init 130 = .ok (.newarray .int, 2) := by decide +kernel
theorem dX7_init_132 : decode cX7_init 132 = .ok (.putfield 55, 3) := by decide +kernel
theorem dX7_init_135 : decode cX7_init 135 = .ok (.aload_n 0, 1) := by decide +kernel
theorem dX7_init_136 : decode cX7_init 136 = .ok (.bipush 96, 2) := by decide +kernel
theorem dX7_init_138 : decode cX7_init 138 = .ok (.newarray .int, 2) := by decide +kernel
theorem dX7_init_140 : decode cX7_init 140 = .ok (.putfield 58, 3) := by decide +kernel
theorem dX7_init_143 : decode cX7_init 143 = .ok (.aload_n 0, 1) := by decide +kernel
theorem dX7_init_144 : decode cX7_init 144 = .ok (.bipush 96, 2) := by decide +kernel
theorem dX7_init_146 : decode cX7_init 146 = .ok (.newarray .int, 2) := by decide +kernel
theorem dX7_init_148 : decode cX7_init 148 = .ok (.putfield 61, 3) := by decide +kernel
theorem dX7_init_151 : decode cX7_init 151 = .ok (.aload_n 0, 1) := by decide +kernel
theorem dX7_init_152 : decode cX7_init 152 = .ok (.bipush 96, 2) := by decide +kernel
theorem dX7_init_154 : decode cX7_init 154 = .ok (.newarray .int, 2) := by decide +kernel
theorem dX7_init_156 : decode cX7_init 156 = .ok (.putfield 64, 3) := by decide +kernel
theorem dX7_init_159 : decode cX7_init 159 = .ok (.aload_n 0, 1) := by decide +kernel
theorem dX7_init_160 : decode cX7_init 160 = .ok (.bipush 12, 2) := by decide +kernel
theorem dX7_init_162 : decode cX7_init 162 = .ok (.newarray .boolean, 2) := by decide +kernel
theorem dX7_init_164 : decode cX7_init 164 = .ok (.putfield 67, 3) := by decide +kernel
theorem dX7_init_167 : decode cX7_init 167 = .ok (.aload_n 0, 1) := by decide +kernel
theorem dX7_init_168 : decode cX7_init 168 = .ok (.bipush 40, 2) := by decide +kernel
theorem dX7_init_170 : decode cX7_init 170 = .ok (.newarray .int, 2) := by decide +kernel
theorem dX7_init_172 : decode cX7_init 172 = .ok (.putfield 71, 3) := by decide +kernel
theorem dX7_init_175 : decode cX7_init 175 = .ok (.aload_n 0, 1) := by decide +kernel
theorem dX7_init_176 : decode cX7_init 176 = .ok (.bipush 20, 2) := by decide +kernel
theorem dX7_init_178 : decode cX7_init 178 = .ok (.newarray .int, 2) := by decide +kernel
theorem dX7_init_180 : decode cX7_init 180 = .ok (.putfield 74, 3) := by decide +kernel
theorem dX7_init_183 : decode cX7_init 183 = .ok (.aload_n 0, 1) := by decide +kernel
theorem dX7_init_184 : decode cX7_init 184 = .ok (.bipush 20, 2) := by decide +kernel
theorem dX7_init_186 : decode cX7_init 186 = .ok (.newarray .int, 2) := by decide +kernel
theorem dX7_init_188 : decode cX7_init 188 = .ok (.putfield 77, 3) := by decide +kernel
theorem dX7_init_191 : decode cX7_init 191 = .ok (.aload_n 0, 1) := by decide +kernel
theorem dX7_init_192 : decode cX7_init 192 = .ok (.bipush 20, 2) := by decide +kernel
theorem dX7_init_194 : decode cX7_init 194 = .ok (.newarray .int, 2) := by decide +kernel
theorem dX7_init_196 : decode cX7_init 196 = .ok (.putfield 80, 3) := by decide +kernel
theorem dX7_init_199 : decode cX7_init 199 = .ok (.aload_n 0, 1) := by decide +kernel
theorem dX7_init_200 : decode cX7_init 200 = .ok (.bipush 100, 2) := by decide +kernel
theorem dX7_init_202 : decode cX7_init 202 = .ok (.newarray .int, 2) := by decide +kernel
theorem dX7_init_204 : decode cX7_init 204 = .ok (.putfield 83, 3) := by decide +kernel
theorem dX7_init_207 : decode cX7_init 207 = .ok (.aload_n 0, 1) := by decide +kernel
theorem dX7_init_208 : decode cX7_init 208 = .ok (.bipush 6, 2) := by decide +kernel
theorem dX7_init_210 : decode cX7_init 210 = .ok (.newarray .int, 2) := by decide +kernel
theorem dX7_init_212 : decode cX7_init 212 = .ok (.putfield 86, 3) := by decide +kernel
theorem dX7_init_215 : decode cX7_init 215 = .ok (.aload_n 0, 1) := by decide +kernel
theorem dX7_init_216 : decode cX7_init 216 = .ok (.bipush 6, 2) := by decide +kernel
theorem dX7_init_218 : decode cX7_init 218 = .ok (.newarray .int, 2) := by decide +kernel
theorem dX7_init_220 : decode cX7_init 220 = .ok (.putfield 89, 3) := by decide +kernel
theorem dX7_init_223 : decode cX7_init 223 = .ok (.aload_n 0, 1) := by decide +kernel
theorem dX7_init_224 : decode cX7_init 224 = .ok (.bipush 6, 2) := by decide +kernel
theorem dX7_init_226 : decode cX7_init 226 = .ok (.newarray .int, 2) := by decide +kernel
theorem dX7_init_228 : decode cX7_init 228 = .ok (.putfield 92, 3) := by decide +kernel
theorem dX7_init_231 : decode cX7_init 231 = .ok (.aload_n 0, 1) := by decide +kernel
theorem dX7_init_232 : decode cX7_init 232 = .ok (.iconst 4, 1) := by decide +kernel
theorem dX7_init_233 : decode cX7_init 233 = .ok (.newarray .int, 2) := by decide +kernel
theorem dX7_init_235 : decode cX7_init 235 = .ok (.dup, 1) := by decide +kernel
theorem dX7_init_236 : decode cX7_init 236 = .ok (.iconst 0, 1) := by decide +kernel
theorem dX7_init_237 : decode cX7_init 237 = .ok (.iconst 1, 1) := by decide +kernel
theorem dX7_init_238 : decode cX7_init 238 = .ok (.iastore, 1) := by decide +kernel
theorem dX7_init_239 : decode cX7_init 239 = .ok (.dup, 1) := by decide +kernel
theorem dX7_init_240 : decode cX7_init 240 = .ok (.iconst 1, 1) := by decide +kernel
theorem dX7_init_241 : decode cX7_init 241 = .ok (.iconst 1, 1) := by decide +kernel
theorem dX7_init_242 : decode cX7_init 242 = .ok (.iastore, 1) := by decide +kernel
theorem dX7_init_243 : decode cX7_init 243 = .ok (.dup, 1) := by decide +kernel
theorem dX7_init_244 : decode cX7_init 244 = .ok (.iconst 2, 1) := by decide +kernel
theorem dX7_init_245 : decode cX7_init 245 = .ok (.iconst 1, 1) := by decide +kernel
theorem dX7_init_246 : decode cX7_init 246 = .ok (.iastore, 1) := by decide +kernel
theorem dX7_init_247 : decode cX7_init 247 = .ok (.dup, 1) := by decide +kernel
theorem dX7_init_248 : decode cX7_init 248 = .ok (.iconst 3, 1) := by decide +kernel
theorem dX7_init_249 : decode cX7_init 249 = .ok (.iconst 1, 1) := by decide +kernel
theorem dX7_init_250 : decode cX7_init 250 = .ok (.iastore, 1) := by decide +kernel
theorem dX7_init_251 : decode cX7_init 251 = .ok (.putfield 95, 3) := by decide +kernel
theorem dX7_init_254 : decode cX7_init 254 = .ok (.aload_n 0, 1) := by decide +kernel
theorem dX7_init_255 : decode cX7_init 255 = .ok (.bipush 8, 2) := by decide +kernel
theorem dX7_init_257 : decode cX7_init 257 = .ok (.newarray .int, 2) := by decide +kernel
theorem dX7_init_259 : decode cX7_init 259 = .ok (.putfield 98, 3) := by decide +kernel
theorem dX7_init_262 : decode cX7_init 262 = .ok (.aload_n 0, 1) := by decide +kernel
theorem dX7_init_263 : decode cX7_init 263 = .ok (.bipush 8, 2) := by decide +kernel
theorem dX7_init_265 : decode cX7_init 265 = .ok (.newarray .int, 2) := by decide +kernel
theorem dX7_init_267 : decode cX7_init 267 = .ok (.putfield 101, 3) := by decide +kernel
theorem dX7_init_270 : decode cX7_init 270 = .ok (.aload_n 0, 1) := by decide +kernel
theorem dX7_init_271 : decode cX7_init 271 = .ok (.bipush 8, 2) := by decide +kernel
theorem dX7_init_273 : decode cX7_init 273 = .ok (.newarray .int, 2) := by decide +kernel
theorem dX7_init_275 : decode cX7_init 275 = .ok (.putfield 104, 3) := by decide +kernel
theorem dX7_init_278 : decode cX7_init 278 = .ok (.aload_n 0, 1) := by decide +kernel
theorem dX7_init_279 : decode cX7_init 279 = .ok (.bipush 24, 2) := by decide +kernel
theorem dX7_init_281 : decode cX7_init 281 = .ok (.newarray .int, 2) := by decide +kernel
theorem dX7_init_283 : decode cX7_init 283 = .ok (.dup, 1) := by decide +kernel
theorem dX7_init_284 : decode cX7_init 284 = .ok (.iconst 0, 1) := by decide +kernel
theorem dX7_init_285 : decode cX7_init 285 = .ok (.bipush 115, 2) := by decide +kernel
theorem dX7_init_287 : decode cX7_init 287 = .ok (.iastore, 1) := by decide +kernel
theorem dX7_init_288 : decode cX7_init 288 = .ok (.dup, 1) := by decide +kernel
theorem dX7_init_289 : decode cX7_init 289 = .ok (.iconst 1, 1) := by decide +kernel
theorem dX7_init_290 : decode cX7_init 290 = .ok (.bipush 101, 2) := by decide +kernel
theorem dX7_init_292 : decode cX7_init 292 = .ok (.iastore, 1) := by decide +kernel
theorem dX7_init_293 : decode cX7_init 293 = .ok (.dup, 1) := by decide +kernel
theorem dX7_init_294 : decode cX7_init 294 = .ok (.iconst 2, 1) := by decide +kernel
theorem dX7_init_295 : decode cX7_init 295 = .ok (.bipush 116, 2) := by decide +kernel
theorem dX7_init_297 : decode cX7_init 297 = .ok (.iastore, 1) := by decide +kernel
theorem dX7_init_298 : decode cX7_init 298 = .ok (.dup, 1) := by decide +kernel
theorem dX7_init_299 : decode cX7_init 299 = .ok (.iconst 3, 1) := by decide +kernel
theorem dX7_init_300 : decode cX7_init 300 = .ok (.bipush 97, 2) := by decide +kernel
theorem dX7_init_302 : decode cX7_init 302 = .ok (.iastore, 1) := by decide +kernel
theorem dX7_init_303 : decode cX7_init 303 = .ok (.dup, 1) := by decide +kernel
theorem dX7_init_304 : decode cX7_init 304 = .ok (.iconst 4, 1) := by decide +kernel
theorem dX7_init_305 : decode cX7_init 305 = .ok (.bipush 100, 2) := by decide +kernel
theorem dX7_init_307 : decode cX7_init 307 = .ok (.iastore, 1) := by decide +kernel
theorem dX7_init_308 : decode cX7_init 308 = .ok (.dup, 1) := by decide +kernel
theorem dX7_init_309 : decode cX7_init 309 = .ok (.iconst 5, 1) := by decide +kernel
theorem dX7_init_310 : decode cX7_init 310 = .ok (.bipush 100, 2) := by decide +kernel
theorem dX7_init_312 : decode cX7_init 312 = .ok (.iastore, 1) := by decide +kernel
theorem dX7_init_313 : decode cX7_init 313 = .ok (.dup, 1) := by decide +kernel
theorem dX7_init_314 : decode cX7_init 314 = .ok (.bipush 6, 2) := by decide +kernel
theorem dX7_init_316 : decode cX7_init 316 = .ok (.bipush 109, 2) := by decide +kernel
theorem dX7_init_318 : decode cX7_init 318 = .ok (.iastore, 1) := by decide +kernel
theorem dX7_init_319 : decode cX7_init 319 = .ok (.dup, 1) := by decide +kernel
theorem dX7_init_320 : decode cX7_init 320 = .ok (.bipush 7, 2) := by decide +kernel
theorem dX7_init_322 : decode cX7_init 322 = .ok (.bipush 97, 2) := by decide +kernel
theorem dX7_init_324 : decode cX7_init 324 = .ok (.iastore, 1) := by decide +kernel
theorem dX7_init_325 : decode cX7_init 325 = .ok (.dup, 1) := by decide +kernel
theorem dX7_init_326 : decode cX7_init 326 = .ok (.bipush 8, 2) := by decide +kernel
theorem dX7_init_328 : decode cX7_init 328 = .ok (.bipush 120, 2) := by decide +kernel
theorem dX7_init_330 : decode cX7_init 330 = .ok (.iastore, 1) := by decide +kernel
theorem dX7_init_331 : decode cX7_init 331 = .ok (.dup, 1) := by decide +kernel
theorem dX7_init_332 : decode cX7_init 332 = .ok (.bipush 9, 2) := by decide +kernel
theorem dX7_init_334 : decode cX7_init 334 = .ok (.bipush 110, 2) := by decide +kernel
theorem dX7_init_336 : decode cX7_init 336 = .ok (.iastore, 1) := by decide +kernel
theorem dX7_init_337 : decode cX7_init 337 = .ok (.dup, 1) := by decide +kernel
theorem dX7_init_338 : decode cX7_init 338 = .ok (.bipush 10, 2) := by decide +kernel
theorem dX7_init_340 : decode cX7_init 340 = .ok (.bipush 101, 2) := by decide +kernel
theorem dX7_init_342 : decode cX7_init 342 = .ok (.iastore, 1) := by decide +kernel
theorem dX7_init_343 : decode cX7_init 343 = .ok (.dup, 1) := by decide +kernel
theorem dX7_init_344 : decode cX7_init 344 = .ok (.bipush 11, 2) := by decide +kernel
theorem dX7_init_346 : decode cX7_init 346 = .ok (.bipush 119, 2) := by decide +kernel
theorem dX7_init_348 : decode cX7_init 348 = .ok (.iastore, 1) := by decide +kernel
theorem dX7_init_349 : decode cX7_init 349 = .ok (.dup, 1) := by decide +kernel
theorem dX7_init_350 : decode cX7_init 350 = .ok (.bipush 12, 2) := by decide +kernel
theorem dX7_init_352 : decode cX7_init 352 = .ok (.bipush 103, 2) := by decide +kernel
theorem dX7_init_354 : decode cX7_init 354 = .ok (.iastore, 1) := by decide +kernel
theorem dX7_init_355 : decode cX7_init 355 = .ok (.dup, 1) := by decide +kernel
theorem dX7_init_356 : decode cX7_init 356 = .ok (.bipush 13, 2) := by decide +kernel
theorem dX7_init_358 : decode cX7_init 358 = .ok (.bipush 101, 2) := by decide +kernel
theorem dX7_init_360 : decode cX7_init 360 = .ok (.iastore, 1) := by decide +kernel
theorem dX7_init_361 : decode cX7_init 361 = .ok (.dup, 1) := by decide +kernel
theorem dX7_init_362 : decode cX7_init 362 = .ok (.bipush 14, 2) := by decide +kernel
theorem dX7_init_364 : decode cX7_init 364 = .ok (.bipush 116, 2) := by decide +kernel
theorem dX7_init_366 : decode cX7_init 366 = .ok (.iastore, 1) := by decide +kernel
theorem dX7_init_367 : decode cX7_init 367 = .ok (.dup, 1) := by decide +kernel
theorem dX7_init_368 : decode cX7_init 368 = .ok (.bipush 15, 2) := by decide +kernel
theorem dX7_init_370 : decode cX7_init 370 = .ok (.bipush 97, 2) := by decide +kernel
theorem dX7_init_372 : decode cX7_init 372 = .ok (.iastore, 1) := by decide +kernel
theorem dX7_init_373 : decode cX7_init 373 = .ok (.dup, 1) := by decide +kernel
theorem dX7_init_374 : decode cX7_init 374 = .ok (.bipush 16, 2) := by decide +kernel
theorem dX7_init_376 : decode cX7_init 376 = .ok (.bipush 115, 2) := by decide +kernel
theorem dX7_init_378 : decode cX7_init 378 = .ok (.iastore, 1) := by decide +kernel
theorem dX7_init_379 : decode cX7_init 379 = .ok (.dup, 1) := by decide +kernel
theorem dX7_init_380 : decode cX7_init 380 = .ok (.bipush 17, 2) := by decide +kernel
theorem dX7_init_382 : decode cX7_init 382 = .ok (.bipush 107, 2) := by decide +kernel
theorem dX7_init_384 : decode cX7_init 384 = .ok (.iastore, 1) := by decide +kernel
theorem dX7_init_385 : decode cX7_init 385 = .ok (.dup, 1) := by decide +kernel
theorem dX7_init_386 : decode cX7_init 386 = .ok (.bipush 18, 2) := by decide +kernel
theorem dX7_init_388 : decode cX7_init 388 = .ok (.bipush 100, 2) := by decide +kernel
theorem dX7_init_390 : decode cX7_init 390 = .ok (.iastore, 1) := by decide +kernel
theorem dX7_init_391 : decode cX7_init 391 = .ok (.dup, 1) := by decide +kernel
theorem dX7_init_392 : decode cX7_init 392 = .ok (.bipush 19, 2) := by decide +kernel
theorem dX7_init_394 : decode cX7_init 394 = .ok (.bipush 111, 2) := by decide +kernel
theorem dX7_init_396 : decode cX7_init 396 = .ok (.iastore, 1) := by decide +kernel
theorem dX7_init_397 : decode cX7_init 397 = .ok (.dup, 1) := by decide +kernel
theorem dX7_init_398 : decode cX7_init 398 = .ok (.bipush 20, 2) := by decide +kernel
theorem dX7_init_400 : decode cX7_init 400 = .ok (.iconst 0, 1) := by decide +kernel
theorem dX7_init_401 : decode cX7_init 401 = .ok (.iastore, 1) := by decide +kernel
theorem dX7_init_402 : decode cX7_init 402 = .ok (.dup, 1) := by decide +kernel
theorem dX7_init_403 : decode cX7_init 403 = .ok (.bipush 21, 2) := by decide +kernel
theorem dX7_init_405 : decode cX7_init 405 = .ok (.bipush 105, 2) := by decide +kernel
theorem dX7_init_407 : decode cX7_init 407 = .ok (.iastore, 1) := by decide +kernel
theorem dX7_init_408 : decode cX7_init 408 = .ok (.dup, 1) := by decide +kernel
theorem dX7_init_409 : decode cX7_init 409 = .ok (.bipush 22, 2) := by decide +kernel
theorem dX7_init_411 : decode cX7_init 411 = .ok (.bipush 102, 2) := by decide +kernel
theorem dX7_init_413 : decode cX7_init 413 = .ok (.iastore, 1) := by decide +kernel
theorem dX7_init_414 : decode cX7_init 414 = .ok (.dup, 1) := by decide +kernel
theorem dX7_init_415 : decode cX7_init 415 = .ok (.bipush 23, 2) := by decide +kernel
theorem dX7_init_417 : decode cX7_init 417 = .ok (.iconst 0, 1) := by decide +kernel
theorem dX7_init_418 : decode cX7_init 418 = .ok (.iastore, 1) := by decide +kernel
theorem dX7_init_419 : decode cX7_init 419 = .ok (.putfield 107, 3) := by decide +kernel
theorem dX7_init_422 : decode cX7_init 422 = .ok (.aload_n 0, 1) := by decide +kernel
theorem dX7_init_423 : decode cX7_init 423 = .ok (.bipush 7, 2) := by decide +kernel
theorem dX7_init_425 : decode cX7_init 425 = .ok (.newarray .int, 2) := by decide +kernel
theorem dX7_init_427 : decode cX7_init 427 = .ok (.putfield 110, 3) := by decide +kernel
theorem dX7_init_430 : decode cX7_init 430 = .ok (.aload_n 0, 1) := by decide +kernel
theorem dX7_init_431 : decode cX7_init 431 = .ok (.bipush 7, 2) := by decide +kernel
theorem dX7_init_433 : decode cX7_init 433 = .ok (.newarray .int, 2) := by decide +kernel
theorem dX7_init_435 : decode cX7_init 435 = .ok (.putfield 113, 3) := by decide +kernel
theorem dX7_init_438 : decode cX7_init 438 = .ok (.aload_n 0, 1) := by decide +kernel
theorem dX7_init_439 : decode cX7_init 439 = .ok (.bipush 7, 2) := by decide +kernel
theorem dX7_init_441 : decode cX7_init 441 = .ok (.newarray .int, 2) := by decide +kernel
theorem dX7_init_443 : decode cX7_init 443 = .ok (.putfield 116, 3) := by decide +kernel
theorem dX7_init_446 : decode cX7_init 446 = .ok (.aload_n 0, 1) := by decide +kernel
theorem dX7_init_447 : decode cX7_init 447 = .ok (.bipush 7, 2) := by decide +kernel
theorem dX7_init_449 : decode cX7_init 449 = .ok (.newarray .int, 2) := by decide +kernel
theorem dX7_init_451 : decode cX7_init 451 = .ok (.putfield 119, 3) := by decide +kernel
theorem dX7_init_454 : decode cX7_init 454 = .ok (.aload_n 0, 1) := by decide +kernel
theorem dX7_init_455 : decode cX7_init 455 = .ok (.bipush 7, 2) := by decide +kernel
theorem dX7_init_457 : decode cX7_init 457 = .ok (.newarray .int, 2) := by decide +kernel
theorem dX7_init_459 : decode cX7_init 459 = .ok (.putfield 122, 3) := by decide +kernel
theorem dX7_init_462 : decode cX7_init 462 = .ok (.aload_n 0, 1) := by decide +kernel
theorem dX7_init_463 : decode cX7_init 463 = .ok (.bipush 7, 2) := by decide +kernel
theorem dX7_init_465 : decode cX7_init 465 = .ok (.newarray .boolean, 2) := by decide +kernel
theorem dX7_init_467 : decode cX7_init 467 = .ok (.putfield 125, 3) := by decide +kernel
theorem dX7_init_470 : decode cX7_init 470 = .ok (.aload_n 0, 1) := by decide +kernel
theorem dX7_init_471 : decode cX7_init 471 = .ok (.sipush 1200, 3) := by decide +kernel
theorem dX7_init_474 : decode cX7_init 474 = .ok (.newarray .int, 2) := by decide +kernel
theorem dX7_init_476 : decode cX7_init 476 = .ok (.putfield 128, 3) := by decide +kernel
theorem dX7_init_479 : decode cX7_init 479 = .ok (.aload_n 0, 1) := by decide +kernel
theorem dX7_init_480 : decode cX7_init 480 = .ok (.bipush 48, 2) := by decide +kernel
theorem dX7_init_482 : decode cX7_init 482 = .ok (.newarray .int, 2) := by decide +kernel
theorem dX7_init_484 : decode cX7_init 484 = .ok (.putfield 131, 3) := by decide +kernel
theorem dX7_init_487 : decode cX7_init 487 = .ok (.aload_n 0, 1) := by decide +kernel
theorem dX7_init_488 : decode cX7_init 488 = .ok (.bipush 48, 2) := by decide +kernel
theorem dX7_init_490 : decode cX7_init 490 = .ok (.newarray .int, 2) := by decide +kernel
theorem dX7_init_492 : decode cX7_init 492 = .ok (.putfield 134, 3) := by decide +kernel
theorem dX7_init_495 : decode cX7_init 495 = .ok (.aload_n 0, 1) := by decide +kernel
theorem dX7_init_496 : decode cX7_init 496 = .ok (.bipush 48, 2) := by decide +kernel
theorem dX7_init_498 : decode cX7_init 498 = .ok (.newarray .int, 2) := by decide +kernel
theorem dX7_init_500 : decode cX7_init 500 = .ok (.putfield 137, 3) := by decide +kernel
theorem dX7_init_503 : decode cX7_init 503 = .ok (.aload_n 0, 1) := by decide +kernel
theorem dX7_init_504 : decode cX7_init 504 = .ok (.bipush 30, 2) := by decide +kernel
theorem dX7_init_506 : decode cX7_init 506 = .ok (.newarray .int, 2) := by decide +kernel
theorem dX7_init_508 : decode cX7_init 508 = .ok (.putfield 140, 3) := by decide +kernel
theorem dX7_init_511 : decode cX7_init 511 = .ok (.aload_n 0, 1) := by decide +kernel
theorem dX7_init_512 : decode cX7_init 512 = .ok (.sipush 1200, 3) := by decide +kernel
theorem dX7_init_515 : decode cX7_init 515 = .ok (.newarray .int, 2) := by decide +kernel
theorem dX7_init_517 : decode cX7_init 517 = .ok (.putfield 143, 3) := by decide +kernel
theorem dX7_init_520 : decode cX7_init 520 = .ok (.aload_n 0, 1) := by decide +kernel
theorem dX7_init_521 : decode cX7_init 521 = .ok (.bipush 6, 2) := by decide +kernel
theorem dX7_init_523 : decode cX7_init 523 = .ok (.newarray .int, 2) := by decide +kernel
theorem dX7_init_525 : decode cX7_init 525 = .ok (.putfield 146, 3) := by decide +kernel
theorem dX7_init_528 : decode cX7_init 528 = .ok (.aload_n 0, 1) := by decide +kernel
theorem dX7_init_529 : decode cX7_init 529 = .ok (.iconst 5, 1) := by decide +kernel
theorem dX7_init_530 : decode cX7_init 530 = .ok (.newarray .int, 2) := by decide +kernel
theorem dX7_init_532 : decode cX7_init 532 = .ok (.putfield 149, 3) := by decide +kernel
theorem dX7_init_535 : decode cX7_init 535 = .ok (.aload_n 0, 1) := by decide +kernel
theorem dX7_init_536 : decode cX7_init 536 = .ok (.sipush 624, 3) := by decide +kernel
theorem dX7_init_539 : decode cX7_init 539 = .ok (.newarray .int, 2) := by decide +kernel
theorem dX7_init_541 : decode cX7_init 541 = .ok (.putfield 152, 3) := by decide +kernel
theorem dX7_init_544 : decode cX7_init 544 = .ok (.aload_n 0, 1) := by decide +kernel
theorem dX7_init_545 : decode cX7_init 545 = .ok (.sipush 24000, 3) := by decide +kernel
theorem dX7_init_548 : decode cX7_init 548 = .ok (.newarray .int, 2) := by decide +kernel
theorem dX7_init_550 : decode cX7_init 550 = .ok (.putfield 155, 3) := by decide +kernel
theorem dX7_init_553 : decode cX7_init 553 = .ok (.aload_n 0, 1) := by decide +kernel
theorem dX7_init_554 : decode cX7_init 554 = .ok (.sipush 1000, 3) := by decide +kernel
theorem dX7_init_557 : decode cX7_init 557 = .ok (.newarray .int, 2) := by decide +kernel
theorem dX7_init_559 : decode cX7_init 559 = .ok (.putfield 158, 3) := by decide +kernel
theorem dX7_init_562 : decode cX7_init 562 = .ok (.aload_n 0, 1) := by decide +kernel
theorem dX7_init_563 : decode cX7_init 563 = .ok (.bipush 6, 2) := by decide +kernel
theorem dX7_init_565 : decode cX7_init 565 = .ok (.newarray .int, 2) := by decide +kernel
theorem dX7_init_567 : decode cX7_init 567 = .ok (.putfield 161, 3) := by decide +kernel
theorem dX7_init_570 : decode cX7_init 570 = .ok (.aload_n 0, 1) := by decide +kernel
theorem dX7_init_571 : decode cX7_init 571 = .ok (.bipush 6, 2) := by decide +kernel
theorem dX7_init_573 : decode cX7_init 573 = .ok (.newarray .int, 2) := by decide +kernel
theorem dX7_init_575 : decode cX7_init 575 = .ok (.putfield 164, 3) := by decide +kernel
theorem dX7_init_578 : decode cX7_init 578 = .ok (.return_, 1) := by decide +kernel
theorem fs_ss {fs : List Value} {k : Nat} {v w : Value} : (fs.set k v).set k w = fs.set k w := by rw [List.set_set]
theorem fs_self {fs : List Value} {k : Nat} {v : Value} (h : fs[k]? = some v) : fs.set k v = fs := by
  apply List.ext_getElem?
  intro j
  by_cases e : k = j
  · subst e
    rw [List.getElem?_set_self (fs_lt h), h]
  · rw [List.getElem?_set_ne e]
set_option maxHeartbeats 4000000 in
set_option maxRecDepth 100000 in
theorem c_Model_init (l : Launch) (D : va_G) (cI cZ cS : ClassId) (N0 : NT) (h : Nat)  : Mx l D cI cZ cS N0 yX7_init cX7_init 1 none 1 52 29861 [.ref h] [(h, .inr (7, [.int 0, .null, .null, .null, .null, .null, .null, .null, .null, .null, .null, .null, .null, .null, .null, .null, .null, .null, .null, .null, .null, .int 0, .int 0, .null, .int 0, .null, .null, .null, .null, .int 0, .int 0, .null, .null, .null, .int 0, .null, .int 0, .int 0, .int 0, .null, .null, .null, .null, .null, .null, .null, .null, .null, .null, .int 0, .int 0, .int 0, .int 0, .null, .null, .null, .null, .null, .null, .null, .int 0, .null, .null, .null, .null, .null, .null]))] (fun v w => ∃ (q_acts : Nat) (q_word : Nat) (q_place : Nat) (q_worth : Nat) (q_mends : Nat) (q_hold : Nat) (q_store : Nat) (q_count : Nat) (q_kept : Nat) (q_key : Nat) (q_keyX : Nat) (q_keyAnswer : Nat) (q_keyTick : Nat) (q_tick : Nat) (q_knownX : Nat) (q_knownKey : Nat) (q_knownWord : Nat) (q_knownPlace : Nat) (q_knownWorth : Nat) (q_isKnown : Nat) (q_out : Nat) (q_logS : Nat) (q_logX : Nat) (q_logKey : Nat) (q_tape : Nat) (q_rowS : Nat) (q_rowX : Nat) (q_rowKey : Nat) (q_price : Nat) (q_newWord : Nat) (q_newPlace : Nat) (q_newWorth : Nat) (q_words : Nat) (q_fS : Nat) (q_fX : Nat) (q_fKey : Nat) (q_fAt : Nat) (q_fAnswer : Nat) (q_fSame : Nat) (q_triedOut : Nat) (q_aheadWord : Nat) (q_aheadPlace : Nat) (q_aheadWorth : Nat) (q_onceStore : Nat) (q_onceOut : Nat) (q_onceAnswer : Nat) (q_order : Nat) (q_ended : Nat) (q_heap : Nat) (q_ownHeap : Nat) (q_keptHold : Nat) (q_keptMends : Nat), v = none ∧ w = ([(h, .inr (7, [.int 0, .ref q_acts, .ref q_word, .ref q_place, .ref q_worth, .ref q_mends, .ref q_hold, .ref q_store, .ref q_count, .ref q_kept, .ref q_key, .ref q_keyX, .ref q_keyAnswer, .ref q_keyTick, .ref q_tick, .ref q_knownX, .ref q_knownKey, .ref q_knownWord, .ref q_knownPlace, .ref q_knownWorth, .ref q_isKnown, .int 0, .int 0, .ref q_out, .int 0, .ref q_logS, .ref q_logX, .ref q_logKey, .ref q_tape, .int 0, .int 0, .ref q_rowS, .ref q_rowX, .ref q_rowKey, .int 0, .ref q_price, .int 0, .int 0, .int 0, .ref q_newWord, .ref q_newPlace, .ref q_newWorth, .ref q_words, .ref q_fS, .ref q_fX, .ref q_fKey, .ref q_fAt, .ref q_fAnswer, .ref q_fSame, .int 0, .int 0, .int 0, .int 0, .ref q_triedOut, .ref q_aheadWord, .ref q_aheadPlace, .ref q_aheadWorth, .ref q_onceStore, .ref q_onceOut, .ref q_onceAnswer, .int 0, .ref q_order, .ref q_ended, .ref q_heap, .ref q_ownHeap, .ref q_keptHold, .ref q_keptMends])), (q_tick, .inl (cI, 2, .inl (fun _ => 0))), (q_count, .inl (cI, 12, .inl (fun _ => 0))), (q_kept, .inl (cI, 12, .inl (fun _ => 0))), (q_isKnown, .inl (cZ, 12, .inl (fun _ => 0))), (q_knownX, .inl (cI, 12, .inl (fun _ => 0))), (q_knownKey, .inl (cI, 12, .inl (fun _ => 0))), (q_store, .inl (cI, 48, .inl (fun _ => 0))), (q_key, .inl (cI, 192, .inl (fun _ => 0))), (q_keyX, .inl (cI, 192, .inl (fun _ => 0))), (q_keyAnswer, .inl (cI, 192, .inl (fun _ => 0))), (q_keyTick, .inl (cI, 192, .inl (fun _ => 0))), (q_knownWord, .inl (cI, 96, .inl (fun _ => 0))), (q_knownPlace, .inl (cI, 96, .inl (fun _ => 0))), (q_knownWorth, .inl (cI, 96, .inl (fun _ => 0))), (q_tape, .inl (cI, 100, .inl (fun _ => 0))), (q_price, .inl (cI, 4, .inl (upd (upd (upd (upd (fun _ => 0) 0 1) 1 1) 2 1) 3 1))), (q_words, .inl (cI, 24, .inl (upd (upd (upd (upd (upd (upd (upd (upd (upd (upd (upd (upd (upd (upd (upd (upd (upd (upd (upd (upd (upd (upd (upd (upd (fun _ => 0) 0 115) 1 101) 2 116) 3 97) 4 100) 5 100) 6 109) 7 97) 8 120) 9 110) 10 101) 11 119) 12 103) 13 101) 14 116) 15 97) 16 115) 17 107) 18 100) 19 111) 20 0) 21 105) 22 102) 23 0))), (q_newWord, .inl (cI, 8, .inl (fun _ => 0))), (q_newPlace, .inl (cI, 8, .inl (fun _ => 0))), (q_newWorth, .inl (cI, 8, .inl (fun _ => 0))), (q_onceStore, .inl (cI, 30, .inl (fun _ => 0))), (q_hold, .inl (cI, 6, .inl (fun _ => 0))), (q_keptHold, .inl (cI, 6, .inl (fun _ => 0))), (q_keptMends, .inl (cI, 6, .inl (fun _ => 0))), (q_mends, .inl (cI, 6, .inl (fun _ => 0)))] : va_W)) := by
  refine x_enter (by decide) (Nat.le_of_ble_eq_true rfl) ?_
  intro p e s m args below meth c A ls H locs hB hr hin hl hV hA
  have hx := hB.1
  have hb := hB.2.1
  have hl : lv_has ls 1 [(0, .ref h)] := hl
  refine lv_aload_n hx hb dX7_init_0 rfl (lv_at hl 0 rfl) ?_
  refine x_oinit hB k_744 k_78 k_79 hl.1 dX7_init_1 (Nat.le_of_ble_eq_true rfl) (Nat.le_of_ble_eq_true rfl) ?_
  refine lv_aload_n hx hb dX7_init_4 rfl (lv_at hl 0 rfl) ?_
  refine lv_bipush (v := 6) hx hb dX7_init_5 (by decide) ?_
  refine x_newi (N' := 6) hB hV k_101 (by decide) (by decide) (by decide) (Nat.le_of_ble_eq_true rfl) (Nat.le_of_ble_eq_true rfl) dX7_init_7 (fun q_1 H hV => ?_)
  have hV : Vx D A s.heap H locs [(h, .inr (7, [.int 0, .null, .null, .null, .null, .null, .null, .null, .null, .null, .null, .null, .null, .null, .null, .null, .null, .null, .null, .null, .null, .int 0, .int 0, .null, .int 0, .null, .null, .null, .null, .int 0, .int 0, .null, .null, .null, .int 0, .null, .int 0, .int 0, .int 0, .null, .null, .null, .null, .null, .null, .null, .null, .null, .null, .int 0, .int 0, .int 0, .int 0, .null, .null, .null, .null, .null, .null, .null, .int 0, .null, .null, .null, .null, .null, .null])), (q_1, .inl (cI, 6, .inl (fun _ => 0)))] := hV
  refine W.widen (k := 1) (n := 6) (Nat.le_of_ble_eq_true rfl) (Nat.le_of_ble_eq_true rfl) ?_
  refine x_putF (v := .ref q_1) hB hV hin 0 rfl rfl 1 (by decide) k_746 rfl rfl rfl rfl (Nat.le_of_ble_eq_true rfl) dX7_init_9 (fun H locs hV => ?_)
  have hV : Vx D A s.heap H locs [(h, .inr (7, [.int 0, .ref q_1, .null, .null, .null, .null, .null, .null, .null, .null, .null, .null, .null, .null, .null, .null, .null, .null, .null, .null, .null, .int 0, .int 0, .null, .int 0, .null, .null, .null, .null, .int 0, .int 0, .null, .null, .null, .int 0, .null, .int 0, .int 0, .int 0, .null, .null, .null, .null, .null, .null, .null, .null, .null, .null, .int 0, .int 0, .int 0, .int 0, .null, .null, .null, .null, .null, .null, .null, .int 0, .null, .null, .null, .null, .null, .null])), (q_1, .inl (cI, 6, .inl (fun _ => 0)))] := hV
  have hV := Vx_sub (w := [(h, .inr (7, [.int 0, .ref q_1, .null, .null, .null, .null, .null, .null, .null, .null, .null, .null, .null, .null, .null, .null, .null, .null, .null, .null, .null, .int 0, .int 0, .null, .int 0, .null, .null, .null, .null, .int 0, .int 0, .null, .null, .null, .int 0, .null, .int 0, .int 0, .int 0, .null, .null, .null, .null, .null, .null, .null, .null, .null, .null, .int 0, .int 0, .int 0, .int 0, .null, .null, .null, .null, .null, .null, .null, .int 0, .null, .null, .null, .null, .null, .null]))]) hV [0] rfl rfl (by decide)
  refine lv_aload_n hx hb dX7_init_12 rfl (lv_at hl 0 rfl) ?_
  refine lv_bipush (v := 48) hx hb dX7_init_13 (by decide) ?_
  refine x_newi (N' := 48) hB hV k_101 (by decide) (by decide) (by decide) (Nat.le_of_ble_eq_true rfl) (Nat.le_of_ble_eq_true rfl) dX7_init_15 (fun q_2 H hV => ?_)
  have hV : Vx D A s.heap H locs [(h, .inr (7, [.int 0, .ref q_1, .null, .null, .null, .null, .null, .null, .null, .null, .null, .null, .null, .null, .null, .null, .null, .null, .null, .null, .null, .int 0, .int 0, .null, .int 0, .null, .null, .null, .null, .int 0, .int 0, .null, .null, .null, .int 0, .null, .int 0, .int 0, .int 0, .null, .null, .null, .null, .null, .null, .null, .null, .null, .null, .int 0, .int 0, .int 0, .int 0, .null, .null, .null, .null, .null, .null, .null, .int 0, .null, .null, .null, .null, .null, .null])), (q_2, .inl (cI, 48, .inl (fun _ => 0)))] := hV
  refine W.widen (k := 2) (n := 54) (Nat.le_of_ble_eq_true rfl) (Nat.le_of_ble_eq_true rfl) ?_
  refine x_putF (v := .ref q_2) hB hV hin 0 rfl rfl 2 (by decide) k_747 rfl rfl rfl rfl (Nat.le_of_ble_eq_true rfl) dX7_init_17 (fun H locs hV => ?_)
  have hV : Vx D A s.heap H locs [(h, .inr (7, [.int 0, .ref q_1, .ref q_2, .null, .null, .null, .null, .null, .null, .null, .null, .null, .null, .null, .null, .null, .null, .null, .null, .null, .null, .int 0, .int 0, .null, .int 0, .null, .null, .null, .null, .int 0, .int 0, .null, .null, .null, .int 0, .null, .int 0, .int 0, .int 0, .null, .null, .null, .null, .null, .null, .null, .null, .null, .null, .int 0, .int 0, .int 0, .int 0, .null, .null, .null, .null, .null, .null, .null, .int 0, .null, .null, .null, .null, .null, .null])), (q_2, .inl (cI, 48, .inl (fun _ => 0)))] := hV
  have hV := Vx_sub (w := [(h, .inr (7, [.int 0, .ref q_1, .ref q_2, .null, .null, .null, .null, .null, .null, .null, .null, .null, .null, .null, .null, .null, .null, .null, .null, .null, .null, .int 0, .int 0, .null, .int 0, .null, .null, .null, .null, .int 0, .int 0, .null, .null, .null, .int 0, .null, .int 0, .int 0, .int 0, .null, .null, .null, .null, .null, .null, .null, .null, .null, .null, .int 0, .int 0, .int 0, .int 0, .null, .null, .null, .null, .null, .null, .null, .int 0, .null, .null, .null, .null, .null, .null]))]) hV [0] rfl rfl (by decide)
  refine lv_aload_n hx hb dX7_init_20 rfl (lv_at hl 0 rfl) ?_
  refine lv_bipush (v := 48) hx hb dX7_init_21 (by decide) ?_
  refine x_newi (N' := 48) hB hV k_101 (by decide) (by decide) (by decide) (Nat.le_of_ble_eq_true rfl) (Nat.le_of_ble_eq_true rfl) dX7_init_23 (fun q_3 H hV => ?_)
  have hV : Vx D A s.heap H locs [(h, .inr (7, [.int 0, .ref q_1, .ref q_2, .null, .null, .null, .null, .null, .null, .null, .null, .null, .null, .null, .null, .null, .null, .null, .null, .null, .null, .int 0, .int 0, .null, .int 0, .null, .null, .null, .null, .int 0, .int 0, .null, .null, .null, .int 0, .null, .int 0, .int 0, .int 0, .null, .null, .null, .null, .null, .null, .null, .null, .null, .null, .int 0, .int 0, .int 0, .int 0, .null, .null, .null, .null, .null, .null, .null, .int 0, .null, .null, .null, .null, .null, .null])), (q_3, .inl (cI, 48, .inl (fun _ => 0)))] := hV
  refine W.widen (k := 3) (n := 102) (Nat.le_of_ble_eq_true rfl) (Nat.le_of_ble_eq_true rfl) ?_
  refine x_putF (v := .ref q_3) hB hV hin 0 rfl rfl 3 (by decide) k_748 rfl rfl rfl rfl (Nat.le_of_ble_eq_true rfl) dX7_init_25 (fun H locs hV => ?_)
  have hV : Vx D A s.heap H locs [(h, .inr (7, [.int 0, .ref q_1, .ref q_2, .ref q_3, .null, .null, .null, .null, .null, .null, .null, .null, .null, .null, .null, .null, .null, .null, .null, .null, .null, .int 0, .int 0, .null, .int 0, .null, .null, .null, .null, .int 0, .int 0, .null, .null, .null, .int 0, .null, .int 0, .int 0, .int 0, .null, .null, .null, .null, .null, .null, .null, .null, .null, .null, .int 0, .int 0, .int 0, .int 0, .null, .null, .null, .null, .null, .null, .null, .int 0, .null, .null, .null, .null, .null, .null])), (q_3, .inl (cI, 48, .inl (fun _ => 0)))] := hV
  have hV := Vx_sub (w := [(h, .inr (7, [.int 0, .ref q_1, .ref q_2, .ref q_3, .null, .null, .null, .null, .null, .null, .null, .null, .null, .null, .null, .null, .null, .null, .null, .null, .null, .int 0, .int 0, .null, .int 0, .null, .null, .null, .null, .int 0, .int 0, .null, .null, .null, .int 0, .null, .int 0, .int 0, .int 0, .null, .null, .null, .null, .null, .null, .null, .null, .null, .null, .int 0, .int 0, .int 0, .int 0, .null, .null, .null, .null, .null, .null, .null, .int 0, .null, .null, .null, .null, .null, .null]))]) hV [0] rfl rfl (by decide)
  refine lv_aload_n hx hb dX7_init_28 rfl (lv_at hl 0 rfl) ?_
  refine lv_bipush (v := 48) hx hb dX7_init_29 (by decide) ?_
  refine x_newi (N' := 48) hB hV k_101 (by decide) (by decide) (by decide) (Nat.le_of_ble_eq_true rfl) (Nat.le_of_ble_eq_true rfl) dX7_init_31 (fun q_4 H hV => ?_)
  have hV : Vx D A s.heap H locs [(h, .inr (7, [.int 0, .ref q_1, .ref q_2, .ref q_3, .null, .null, .null, .null, .null, .null, .null, .null, .null, .null, .null, .null, .null, .null, .null, .null, .null, .int 0, .int 0, .null, .int 0, .null, .null, .null, .null, .int 0, .int 0, .null, .null, .null, .int 0, .null, .int 0, .int 0, .int 0, .null, .null, .null, .null, .null, .null, .null, .null, .null, .null, .int 0, .int 0, .int 0, .int 0, .null, .null, .null, .null, .null, .null, .null, .int 0, .null, .null, .null, .null, .null, .null])), (q_4, .inl (cI, 48, .inl (fun _ => 0)))] := hV
  refine W.widen (k := 4) (n := 150) (Nat.le_of_ble_eq_true rfl) (Nat.le_of_ble_eq_true rfl) ?_
  refine x_putF (v := .ref q_4) hB hV hin 0 rfl rfl 4 (by decide) k_749 rfl rfl rfl rfl (Nat.le_of_ble_eq_true rfl) dX7_init_33 (fun H locs hV => ?_)
  have hV : Vx D A s.heap H locs [(h, .inr (7, [.int 0, .ref q_1, .ref q_2, .ref q_3, .ref q_4, .null, .null, .null, .null, .null, .null, .null, .null, .null, .null, .null, .null, .null, .null, .null, .null, .int 0, .int 0, .null, .int 0, .null, .null, .null, .null, .int 0, .int 0, .null, .null, .null, .int 0, .null, .int 0, .int 0, .int 0, .null, .null, .null, .null, .null, .null, .null, .null, .null, .null, .int 0, .int 0, .int 0, .int 0, .null, .null, .null, .null, .null, .null, .null, .int 0, .null, .null, .null, .null, .null, .null])), (q_4, .inl (cI, 48, .inl (fun _ => 0)))] := hV
  have hV := Vx_sub (w := [(h, .inr (7, [.int 0, .ref q_1, .ref q_2, .ref q_3, .ref q_4, .null, .null, .null, .null, .null, .null, .null, .null, .null, .null, .null, .null, .null, .null, .null, .null, .int 0, .int 0, .null, .int 0, .null, .null, .null, .null, .int 0, .int 0, .null, .null, .null, .int 0, .null, .int 0, .int 0, .int 0, .null, .null, .null, .null, .null, .null, .null, .null, .null, .null, .int 0, .int 0, .int 0, .int 0, .null, .null, .null, .null, .null, .null, .null, .int 0, .null, .null, .null, .null, .null, .null]))]) hV [0] rfl rfl (by decide)
  refine lv_aload_n hx hb dX7_init_36 rfl (lv_at hl 0 rfl) ?_
  refine lv_bipush (v := 6) hx hb dX7_init_37 (by decide) ?_
  refine x_newi (N' := 6) hB hV k_101 (by decide) (by decide) (by decide) (Nat.le_of_ble_eq_true rfl) (Nat.le_of_ble_eq_true rfl) dX7_init_39 (fun q_5 H hV => ?_)
  have hV : Vx D A s.heap H locs [(h, .inr (7, [.int 0, .ref q_1, .ref q_2, .ref q_3, .ref q_4, .null, .null, .null, .null, .null, .null, .null, .null, .null, .null, .null, .null, .null, .null, .null, .null, .int 0, .int 0, .null, .int 0, .null, .null, .null, .null, .int 0, .int 0, .null, .null, .null, .int 0, .null, .int 0, .int 0, .int 0, .null, .null, .null, .null, .null, .null, .null, .null, .null, .null, .int 0, .int 0, .int 0, .int 0, .null, .null, .null, .null, .null, .null, .null, .int 0, .null, .null, .null, .null, .null, .null])), (q_5, .inl (cI, 6, .inl (fun _ => 0)))] := hV
  refine W.widen (k := 5) (n := 156) (Nat.le_of_ble_eq_true rfl) (Nat.le_of_ble_eq_true rfl) ?_
  refine x_putF (v := .ref q_5) hB hV hin 0 rfl rfl 5 (by decide) k_750 rfl rfl rfl rfl (Nat.le_of_ble_eq_true rfl) dX7_init_41 (fun H locs hV => ?_)
  have hV : Vx D A s.heap H locs [(h, .inr (7, [.int 0, .ref q_1, .ref q_2, .ref q_3, .ref q_4, .ref q_5, .null, .null, .null, .null, .null, .null, .null, .null, .null, .null, .null, .null, .null, .null, .null, .int 0, .int 0, .null, .int 0, .null, .null, .null, .null, .int 0, .int 0, .null, .null, .null, .int 0, .null, .int 0, .int 0, .int 0, .null, .null, .null, .null, .null, .null, .null, .null, .null, .null, .int 0, .int 0, .int 0, .int 0, .null, .null, .null, .null, .null, .null, .null, .int 0, .null, .null, .null, .null, .null, .null])), (q_5, .inl (cI, 6, .inl (fun _ => 0)))] := hV
  refine lv_aload_n hx hb dX7_init_44 rfl (lv_at hl 0 rfl) ?_
  refine lv_bipush (v := 6) hx hb dX7_init_45 (by decide) ?_
  refine x_newi (N' := 6) hB hV k_101 (by decide) (by decide) (by decide) (Nat.le_of_ble_eq_true rfl) (Nat.le_of_ble_eq_true rfl) dX7_init_47 (fun q_6 H hV => ?_)
  have hV : Vx D A s.heap H locs [(h, .inr (7, [.int 0, .ref q_1, .ref q_2, .ref q_3, .ref q_4, .ref q_5, .null, .null, .null, .null, .null, .null, .null, .null, .null, .null, .null, .null, .null, .null, .null, .int 0, .int 0, .null, .int 0, .null, .null, .null, .null, .int 0, .int 0, .null, .null, .null, .int 0, .null, .int 0, .int 0, .int 0, .null, .null, .null, .null, .null, .null, .null, .null, .null, .null, .int 0, .int 0, .int 0, .int 0, .null, .null, .null, .null, .null, .null, .null, .int 0, .null, .null, .null, .null, .null, .null])), (q_5, .inl (cI, 6, .inl (fun _ => 0))), (q_6, .inl (cI, 6, .inl (fun _ => 0)))] := hV
  refine W.widen (k := 6) (n := 162) (Nat.le_of_ble_eq_true rfl) (Nat.le_of_ble_eq_true rfl) ?_
  refine x_putF (v := .ref q_6) hB hV hin 0 rfl rfl 6 (by decide) k_751 rfl rfl rfl rfl (Nat.le_of_ble_eq_true rfl) dX7_init_49 (fun H locs hV => ?_)
  have hV : Vx D A s.heap H locs [(h, .inr (7, [.int 0, .ref q_1, .ref q_2, .ref q_3, .ref q_4, .ref q_5, .ref q_6, .null, .null, .null, .null, .null, .null, .null, .null, .null, .null, .null, .null, .null, .null, .int 0, .int 0, .null, .int 0, .null, .null, .null, .null, .int 0, .int 0, .null, .null, .null, .int 0, .null, .int 0, .int 0, .int 0, .null, .null, .null, .null, .null, .null, .null, .null, .null, .null, .int 0, .int 0, .int 0, .int 0, .null, .null, .null, .null, .null, .null, .null, .int 0, .null, .null, .null, .null, .null, .null])), (q_5, .inl (cI, 6, .inl (fun _ => 0))), (q_6, .inl (cI, 6, .inl (fun _ => 0)))] := hV
  refine lv_aload_n hx hb dX7_init_52 rfl (lv_at hl 0 rfl) ?_
  refine lv_bipush (v := 48) hx hb dX7_init_53 (by decide) ?_
  refine x_newi (N' := 48) hB hV k_101 (by decide) (by decide) (by decide) (Nat.le_of_ble_eq_true rfl) (Nat.le_of_ble_eq_true rfl) dX7_init_55 (fun q_7 H hV => ?_)
  have hV : Vx D A s.heap H locs [(h, .inr (7, [.int 0, .ref q_1, .ref q_2, .ref q_3, .ref q_4, .ref q_5, .ref q_6, .null, .null, .null, .null, .null, .null, .null, .null, .null, .null, .null, .null, .null, .null, .int 0, .int 0, .null, .int 0, .null, .null, .null, .null, .int 0, .int 0, .null, .null, .null, .int 0, .null, .int 0, .int 0, .int 0, .null, .null, .null, .null, .null, .null, .null, .null, .null, .null, .int 0, .int 0, .int 0, .int 0, .null, .null, .null, .null, .null, .null, .null, .int 0, .null, .null, .null, .null, .null, .null])), (q_5, .inl (cI, 6, .inl (fun _ => 0))), (q_6, .inl (cI, 6, .inl (fun _ => 0))), (q_7, .inl (cI, 48, .inl (fun _ => 0)))] := hV
  refine W.widen (k := 7) (n := 210) (Nat.le_of_ble_eq_true rfl) (Nat.le_of_ble_eq_true rfl) ?_
  refine x_putF (v := .ref q_7) hB hV hin 0 rfl rfl 7 (by decide) k_752 rfl rfl rfl rfl (Nat.le_of_ble_eq_true rfl) dX7_init_57 (fun H locs hV => ?_)
  have hV : Vx D A s.heap H locs [(h, .inr (7, [.int 0, .ref q_1, .ref q_2, .ref q_3, .ref q_4, .ref q_5, .ref q_6, .ref q_7, .null, .null, .null, .null, .null, .null, .null, .null, .null, .null, .null, .null, .null, .int 0, .int 0, .null, .int 0, .null, .null, .null, .null, .int 0, .int 0, .null, .null, .null, .int 0, .null, .int 0, .int 0, .int 0, .null, .null, .null, .null, .null, .null, .null, .null, .null, .null, .int 0, .int 0, .int 0, .int 0, .null, .null, .null, .null, .null, .null, .null, .int 0, .null, .null, .null, .null, .null, .null])), (q_5, .inl (cI, 6, .inl (fun _ => 0))), (q_6, .inl (cI, 6, .inl (fun _ => 0))), (q_7, .inl (cI, 48, .inl (fun _ => 0)))] := hV
  refine lv_aload_n hx hb dX7_init_60 rfl (lv_at hl 0 rfl) ?_
  refine lv_bipush (v := 12) hx hb dX7_init_61 (by decide) ?_
  refine x_newi (N' := 12) hB hV k_101 (by decide) (by decide) (by decide) (Nat.le_of_ble_eq_true rfl) (Nat.le_of_ble_eq_true rfl) dX7_init_63 (fun q_8 H hV => ?_)
  have hV : Vx D A s.heap H locs [(h, .inr (7, [.int 0, .ref q_1, .ref q_2, .ref q_3, .ref q_4, .ref q_5, .ref q_6, .ref q_7, .null, .null, .null, .null, .null, .null, .null, .null, .null, .null, .null, .null, .null, .int 0, .int 0, .null, .int 0, .null, .null, .null, .null, .int 0, .int 0, .null, .null, .null, .int 0, .null, .int 0, .int 0, .int 0, .null, .null, .null, .null, .null, .null, .null, .null, .null, .null, .int 0, .int 0, .int 0, .int 0, .null, .null, .null, .null, .null, .null, .null, .int 0, .null, .null, .null, .null, .null, .null])), (q_5, .inl (cI, 6, .inl (fun _ => 0))), (q_6, .inl (cI, 6, .inl (fun _ => 0))), (q_7, .inl (cI, 48, .inl (fun _ => 0))), (q_8, .inl (cI, 12, .inl (fun _ => 0)))] := hV
  refine W.widen (k := 8) (n := 222) (Nat.le_of_ble_eq_true rfl) (Nat.le_of_ble_eq_true rfl) ?_
  refine x_putF (v := .ref q_8) hB hV hin 0 rfl rfl 8 (by decide) k_753 rfl rfl rfl rfl (Nat.le_of_ble_eq_true rfl) dX7_init_65 (fun H locs hV => ?_)
  have hV : Vx D A s.heap H locs [(h, .inr (7, [.int 0, .ref q_1, .ref q_2, .ref q_3, .ref q_4, .ref q_5, .ref q_6, .ref q_7, .ref q_8, .null, .null, .null, .null, .null, .null, .null, .null, .null, .null, .null, .null, .int 0, .int 0, .null, .int 0, .null, .null, .null, .null, .int 0, .int 0, .null, .null, .null, .int 0, .null, .int 0, .int 0, .int 0, .null, .null, .null, .null, .null, .null, .null, .null, .null, .null, .int 0, .int 0, .int 0, .int 0, .null, .null, .null, .null, .null, .null, .null, .int 0, .null, .null, .null, .null, .null, .null])), (q_5, .inl (cI, 6, .inl (fun _ => 0))), (q_6, .inl (cI, 6, .inl (fun _ => 0))), (q_7, .inl (cI, 48, .inl (fun _ => 0))), (q_8, .inl (cI, 12, .inl (fun _ => 0)))] := hV
  refine lv_aload_n hx hb dX7_init_68 rfl (lv_at hl 0 rfl) ?_
  refine lv_bipush (v := 12) hx hb dX7_init_69 (by decide) ?_
  refine x_newi (N' := 12) hB hV k_101 (by decide) (by decide) (by decide) (Nat.le_of_ble_eq_true rfl) (Nat.le_of_ble_eq_true rfl) dX7_init_71 (fun q_9 H hV => ?_)
  have hV : Vx D A s.heap H locs [(h, .inr (7, [.int 0, .ref q_1, .ref q_2, .ref q_3, .ref q_4, .ref q_5, .ref q_6, .ref q_7, .ref q_8, .null, .null, .null, .null, .null, .null, .null, .null, .null, .null, .null, .null, .int 0, .int 0, .null, .int 0, .null, .null, .null, .null, .int 0, .int 0, .null, .null, .null, .int 0, .null, .int 0, .int 0, .int 0, .null, .null, .null, .null, .null, .null, .null, .null, .null, .null, .int 0, .int 0, .int 0, .int 0, .null, .null, .null, .null, .null, .null, .null, .int 0, .null, .null, .null, .null, .null, .null])), (q_5, .inl (cI, 6, .inl (fun _ => 0))), (q_6, .inl (cI, 6, .inl (fun _ => 0))), (q_7, .inl (cI, 48, .inl (fun _ => 0))), (q_8, .inl (cI, 12, .inl (fun _ => 0))), (q_9, .inl (cI, 12, .inl (fun _ => 0)))] := hV
  refine W.widen (k := 9) (n := 234) (Nat.le_of_ble_eq_true rfl) (Nat.le_of_ble_eq_true rfl) ?_
  refine x_putF (v := .ref q_9) hB hV hin 0 rfl rfl 9 (by decide) k_754 rfl rfl rfl rfl (Nat.le_of_ble_eq_true rfl) dX7_init_73 (fun H locs hV => ?_)
  have hV : Vx D A s.heap H locs [(h, .inr (7, [.int 0, .ref q_1, .ref q_2, .ref q_3, .ref q_4, .ref q_5, .ref q_6, .ref q_7, .ref q_8, .ref q_9, .null, .null, .null, .null, .null, .null, .null, .null, .null, .null, .null, .int 0, .int 0, .null, .int 0, .null, .null, .null, .null, .int 0, .int 0, .null, .null, .null, .int 0, .null, .int 0, .int 0, .int 0, .null, .null, .null, .null, .null, .null, .null, .null, .null, .null, .int 0, .int 0, .int 0, .int 0, .null, .null, .null, .null, .null, .null, .null, .int 0, .null, .null, .null, .null, .null, .null])), (q_5, .inl (cI, 6, .inl (fun _ => 0))), (q_6, .inl (cI, 6, .inl (fun _ => 0))), (q_7, .inl (cI, 48, .inl (fun _ => 0))), (q_8, .inl (cI, 12, .inl (fun _ => 0))), (q_9, .inl (cI, 12, .inl (fun _ => 0)))] := hV
  refine lv_aload_n hx hb dX7_init_76 rfl (lv_at hl 0 rfl) ?_
  refine lv_sipush (v := 192) hx hb dX7_init_77 (by decide) ?_
  refine x_newi (N' := 192) hB hV k_101 (by decide) (by decide) (by decide) (Nat.le_of_ble_eq_true rfl) (Nat.le_of_ble_eq_true rfl) dX7_init_80 (fun q_10 H hV => ?_)
  have hV : Vx D A s.heap H locs [(h, .inr (7, [.int 0, .ref q_1, .ref q_2, .ref q_3, .ref q_4, .ref q_5, .ref q_6, .ref q_7, .ref q_8, .ref q_9, .null, .null, .null, .null, .null, .null, .null, .null, .null, .null, .null, .int 0, .int 0, .null, .int 0, .null, .null, .null, .null, .int 0, .int 0, .null, .null, .null, .int 0, .null, .int 0, .int 0, .int 0, .null, .null, .null, .null, .null, .null, .null, .null, .null, .null, .int 0, .int 0, .int 0, .int 0, .null, .null, .null, .null, .null, .null, .null, .int 0, .null, .null, .null, .null, .null, .null])), (q_5, .inl (cI, 6, .inl (fun _ => 0))), (q_6, .inl (cI, 6, .inl (fun _ => 0))), (q_7, .inl (cI, 48, .inl (fun _ => 0))), (q_8, .inl (cI, 12, .inl (fun _ => 0))), (q_9, .inl (cI, 12, .inl (fun _ => 0))), (q_10, .inl (cI, 192, .inl (fun _ => 0)))] := hV
  refine W.widen (k := 10) (n := 426) (Nat.le_of_ble_eq_true rfl) (Nat.le_of_ble_eq_true rfl) ?_
  refine x_putF (v := .ref q_10) hB hV hin 0 rfl rfl 10 (by decide) k_755 rfl rfl rfl rfl (Nat.le_of_ble_eq_true rfl) dX7_init_82 (fun H locs hV => ?_)
  have hV : Vx D A s.heap H locs [(h, .inr (7, [.int 0, .ref q_1, .ref q_2, .ref q_3, .ref q_4, .ref q_5, .ref q_6, .ref q_7, .ref q_8, .ref q_9, .ref q_10, .null, .null, .null, .null, .null, .null, .null, .null, .null, .null, .int 0, .int 0, .null, .int 0, .null, .null, .null, .null, .int 0, .int 0, .null, .null, .null, .int 0, .null, .int 0, .int 0, .int 0, .null, .null, .null, .null, .null, .null, .null, .null, .null, .null, .int 0, .int 0, .int 0, .int 0, .null, .null, .null, .null, .null, .null, .null, .int 0, .null, .null, .null, .null, .null, .null])), (q_5, .inl (cI, 6, .inl (fun _ => 0))), (q_6, .inl (cI, 6, .inl (fun _ => 0))), (q_7, .inl (cI, 48, .inl (fun _ => 0))), (q_8, .inl (cI, 12, .inl (fun _ => 0))), (q_9, .inl (cI, 12, .inl (fun _ => 0))), (q_10, .inl (cI, 192, .inl (fun _ => 0)))] := hV
  refine lv_aload_n hx hb dX7_init_85 rfl (lv_at hl 0 rfl) ?_
  refine lv_sipush (v := 192) hx hb dX7_init_86 (by decide) ?_
  refine x_newi (N' := 192) hB hV k_101 (by decide) (by decide) (by decide) (Nat.le_of_ble_eq_true rfl) (Nat.le_of_ble_eq_true rfl) dX7_init_89 (fun q_11 H hV => ?_)
  have hV : Vx D A s.heap H locs [(h, .inr (7, [.int 0, .ref q_1, .ref q_2, .ref q_3, .ref q_4, .ref q_5, .ref q_6, .ref q_7, .ref q_8, .ref q_9, .ref q_10, .null, .null, .null, .null, .null, .null, .null, .null, .null, .null, .int 0, .int 0, .null, .int 0, .null, .null, .null, .null, .int 0, .int 0, .null, .null, .null, .int 0, .null, .int 0, .int 0, .int 0, .null, .null, .null, .null, .null, .null, .null, .null, .null, .null, .int 0, .int 0, .int 0, .int 0, .null, .null, .null, .null, .null, .null, .null, .int 0, .null, .null, .null, .null, .null, .null])), (q_5, .inl (cI, 6, .inl (fun _ => 0))), (q_6, .inl (cI, 6, .inl (fun _ => 0))), (q_7, .inl (cI, 48, .inl (fun _ => 0))), (q_8, .inl (cI, 12, .inl (fun _ => 0))), (q_9, .inl (cI, 12, .inl (fun _ => 0))), (q_10, .inl (cI, 192, .inl (fun _ => 0))), (q_11, .inl (cI, 192, .inl (fun _ => 0)))] := hV
  refine W.widen (k := 11) (n := 618) (Nat.le_of_ble_eq_true rfl) (Nat.le_of_ble_eq_true rfl) ?_
  refine x_putF (v := .ref q_11) hB hV hin 0 rfl rfl 11 (by decide) k_756 rfl rfl rfl rfl (Nat.le_of_ble_eq_true rfl) dX7_init_91 (fun H locs hV => ?_)
  have hV : Vx D A s.heap H locs [(h, .inr (7, [.int 0, .ref q_1, .ref q_2, .ref q_3, .ref q_4, .ref q_5, .ref q_6, .ref q_7, .ref q_8, .ref q_9, .ref q_10, .ref q_11, .null, .null, .null, .null, .null, .null, .null, .null, .null, .int 0, .int 0, .null, .int 0, .null, .null, .null, .null, .int 0, .int 0, .null, .null, .null, .int 0, .null, .int 0, .int 0, .int 0, .null, .null, .null, .null, .null, .null, .null, .null, .null, .null, .int 0, .int 0, .int 0, .int 0, .null, .null, .null, .null, .null, .null, .null, .int 0, .null, .null, .null, .null, .null, .null])), (q_5, .inl (cI, 6, .inl (fun _ => 0))), (q_6, .inl (cI, 6, .inl (fun _ => 0))), (q_7, .inl (cI, 48, .inl (fun _ => 0))), (q_8, .inl (cI, 12, .inl (fun _ => 0))), (q_9, .inl (cI, 12, .inl (fun _ => 0))), (q_10, .inl (cI, 192, .inl (fun _ => 0))), (q_11, .inl (cI, 192, .inl (fun _ => 0)))] := hV
  refine lv_aload_n hx hb dX7_init_94 rfl (lv_at hl 0 rfl) ?_
  refine lv_sipush (v := 192) hx hb dX7_init_95 (by decide) ?_
  refine x_newi (N' := 192) hB hV k_101 (by decide) (by decide) (by decide) (Nat.le_of_ble_eq_true rfl) (Nat.le_of_ble_eq_true rfl) dX7_init_98 (fun q_12 H hV => ?_)
  have hV : Vx D A s.heap H locs [(h, .inr (7, [.int 0, .ref q_1, .ref q_2, .ref q_3, .ref q_4, .ref q_5, .ref q_6, .ref q_7, .ref q_8, .ref q_9, .ref q_10, .ref q_11, .null, .null, .null, .null, .null, .null, .null, .null, .null, .int 0, .int 0, .null, .int 0, .null, .null, .null, .null, .int 0, .int 0, .null, .null, .null, .int 0, .null, .int 0, .int 0, .int 0, .null, .null, .null, .null, .null, .null, .null, .null, .null, .null, .int 0, .int 0, .int 0, .int 0, .null, .null, .null, .null, .null, .null, .null, .int 0, .null, .null, .null, .null, .null, .null])), (q_5, .inl (cI, 6, .inl (fun _ => 0))), (q_6, .inl (cI, 6, .inl (fun _ => 0))), (q_7, .inl (cI, 48, .inl (fun _ => 0))), (q_8, .inl (cI, 12, .inl (fun _ => 0))), (q_9, .inl (cI, 12, .inl (fun _ => 0))), (q_10, .inl (cI, 192, .inl (fun _ => 0))), (q_11, .inl (cI, 192, .inl (fun _ => 0))), (q_12, .inl (cI, 192, .inl (fun _ => 0)))] := hV
  refine W.widen (k := 12) (n := 810) (Nat.le_of_ble_eq_true rfl) (Nat.le_of_ble_eq_true rfl) ?_
  refine x_putF (v := .ref q_12) hB hV hin 0 rfl rfl 12 (by decide) k_757 rfl rfl rfl rfl (Nat.le_of_ble_eq_true rfl) dX7_init_100 (fun H locs hV => ?_)
  have hV : Vx D A s.heap H locs [(h, .inr (7, [.int 0, .ref q_1, .ref q_2, .ref q_3, .ref q_4, .ref q_5, .ref q_6, .ref q_7, .ref q_8, .ref q_9, .ref q_10, .ref q_11, .ref q_12, .null, .null, .null, .null, .null, .null, .null, .null, .int 0, .int 0, .null, .int 0, .null, .null, .null, .null, .int 0, .int 0, .null, .null, .null, .int 0, .null, .int 0, .int 0, .int 0, .null, .null, .null, .null, .null, .null, .null, .null, .null, .null, .int 0, .int 0, .int 0, .int 0, .null, .null, .null, .null, .null, .null, .null, .int 0, .null, .null, .null, .null, .null, .null])), (q_5, .inl (cI, 6, .inl (fun _ => 0))), (q_6, .inl (cI, 6, .inl (fun _ => 0))), (q_7, .inl (cI, 48, .inl (fun _ => 0))), (q_8, .inl (cI, 12, .inl (fun _ => 0))), (q_9, .inl (cI, 12, .inl (fun _ => 0))), (q_10, .inl (cI, 192, .inl (fun _ => 0))), (q_11, .inl (cI, 192, .inl (fun _ => 0))), (q_12, .inl (cI, 192, .inl (fun _ => 0)))] := hV
  refine lv_aload_n hx hb dX7_init_103 rfl (lv_at hl 0 rfl) ?_
  refine lv_sipush (v := 192) hx hb dX7_init_104 (by decide) ?_
  refine x_newi (N' := 192) hB hV k_101 (by decide) (by decide) (by decide) (Nat.le_of_ble_eq_true rfl) (Nat.le_of_ble_eq_true rfl) dX7_init_107 (fun q_13 H hV => ?_)
  have hV : Vx D A s.heap H locs [(h, .inr (7, [.int 0, .ref q_1, .ref q_2, .ref q_3, .ref q_4, .ref q_5, .ref q_6, .ref q_7, .ref q_8, .ref q_9, .ref q_10, .ref q_11, .ref q_12, .null, .null, .null, .null, .null, .null, .null, .null, .int 0, .int 0, .null, .int 0, .null, .null, .null, .null, .int 0, .int 0, .null, .null, .null, .int 0, .null, .int 0, .int 0, .int 0, .null, .null, .null, .null, .null, .null, .null, .null, .null, .null, .int 0, .int 0, .int 0, .int 0, .null, .null, .null, .null, .null, .null, .null, .int 0, .null, .null, .null, .null, .null, .null])), (q_5, .inl (cI, 6, .inl (fun _ => 0))), (q_6, .inl (cI, 6, .inl (fun _ => 0))), (q_7, .inl (cI, 48, .inl (fun _ => 0))), (q_8, .inl (cI, 12, .inl (fun _ => 0))), (q_9, .inl (cI, 12, .inl (fun _ => 0))), (q_10, .inl (cI, 192, .inl (fun _ => 0))), (q_11, .inl (cI, 192, .inl (fun _ => 0))), (q_12, .inl (cI, 192, .inl (fun _ => 0))), (q_13, .inl (cI, 192, .inl (fun _ => 0)))] := hV
  refine W.widen (k := 13) (n := 1002) (Nat.le_of_ble_eq_true rfl) (Nat.le_of_ble_eq_true rfl) ?_
  refine x_putF (v := .ref q_13) hB hV hin 0 rfl rfl 13 (by decide) k_758 rfl rfl rfl rfl (Nat.le_of_ble_eq_true rfl) dX7_init_109 (fun H locs hV => ?_)
  have hV : Vx D A s.heap H locs [(h, .inr (7, [.int 0, .ref q_1, .ref q_2, .ref q_3, .ref q_4, .ref q_5, .ref q_6, .ref q_7, .ref q_8, .ref q_9, .ref q_10, .ref q_11, .ref q_12, .ref q_13, .null, .null, .null, .null, .null, .null, .null, .int 0, .int 0, .null, .int 0, .null, .null, .null, .null, .int 0, .int 0, .null, .null, .null, .int 0, .null, .int 0, .int 0, .int 0, .null, .null, .null, .null, .null, .null, .null, .null, .null, .null, .int 0, .int 0, .int 0, .int 0, .null, .null, .null, .null, .null, .null, .null, .int 0, .null, .null, .null, .null, .null, .null])), (q_5, .inl (cI, 6, .inl (fun _ => 0))), (q_6, .inl (cI, 6, .inl (fun _ => 0))), (q_7, .inl (cI, 48, .inl (fun _ => 0))), (q_8, .inl (cI, 12, .inl (fun _ => 0))), (q_9, .inl (cI, 12, .inl (fun _ => 0))), (q_10, .inl (cI, 192, .inl (fun _ => 0))), (q_11, .inl (cI, 192, .inl (fun _ => 0))), (q_12, .inl (cI, 192, .inl (fun _ => 0))), (q_13, .inl (cI, 192, .inl (fun _ => 0)))] := hV
  refine lv_aload_n hx hb dX7_init_112 rfl (lv_at hl 0 rfl) ?_
  refine lv_iconst (v := 2) hx hb dX7_init_113 (by decide) ?_
  refine x_newi (N' := 2) hB hV k_101 (by decide) (by decide) (by decide) (Nat.le_of_ble_eq_true rfl) (Nat.le_of_ble_eq_true rfl) dX7_init_114 (fun q_14 H hV => ?_)
  have hV : Vx D A s.heap H locs [(h, .inr (7, [.int 0, .ref q_1, .ref q_2, .ref q_3, .ref q_4, .ref q_5, .ref q_6, .ref q_7, .ref q_8, .ref q_9, .ref q_10, .ref q_11, .ref q_12, .ref q_13, .null, .null, .null, .null, .null, .null, .null, .int 0, .int 0, .null, .int 0, .null, .null, .null, .null, .int 0, .int 0, .null, .null, .null, .int 0, .null, .int 0, .int 0, .int 0, .null, .null, .null, .null, .null, .null, .null, .null, .null, .null, .int 0, .int 0, .int 0, .int 0, .null, .null, .null, .null, .null, .null, .null, .int 0, .null, .null, .null, .null, .null, .null])), (q_5, .inl (cI, 6, .inl (fun _ => 0))), (q_6, .inl (cI, 6, .inl (fun _ => 0))), (q_7, .inl (cI, 48, .inl (fun _ => 0))), (q_8, .inl (cI, 12, .inl (fun _ => 0))), (q_9, .inl (cI, 12, .inl (fun _ => 0))), (q_10, .inl (cI, 192, .inl (fun _ => 0))), (q_11, .inl (cI, 192, .inl (fun _ => 0))), (q_12, .inl (cI, 192, .inl (fun _ => 0))), (q_13, .inl (cI, 192, .inl (fun _ => 0))), (q_14, .inl (cI, 2, .inl (fun _ => 0)))] := hV
  refine W.widen (k := 14) (n := 1004) (Nat.le_of_ble_eq_true rfl) (Nat.le_of_ble_eq_true rfl) ?_
  refine x_putF (v := .ref q_14) hB hV hin 0 rfl rfl 14 (by decide) k_759 rfl rfl rfl rfl (Nat.le_of_ble_eq_true rfl) dX7_init_116 (fun H locs hV => ?_)
  have hV : Vx D A s.heap H locs [(h, .inr (7, [.int 0, .ref q_1, .ref q_2, .ref q_3, .ref q_4, .ref q_5, .ref q_6, .ref q_7, .ref q_8, .ref q_9, .ref q_10, .ref q_11, .ref q_12, .ref q_13, .ref q_14, .null, .null, .null, .null, .null, .null, .int 0, .int 0, .null, .int 0, .null, .null, .null, .null, .int 0, .int 0, .null, .null, .null, .int 0, .null, .int 0, .int 0, .int 0, .null, .null, .null, .null, .null, .null, .null, .null, .null, .null, .int 0, .int 0, .int 0, .int 0, .null, .null, .null, .null, .null, .null, .null, .int 0, .null, .null, .null, .null, .null, .null])), (q_5, .inl (cI, 6, .inl (fun _ => 0))), (q_6, .inl (cI, 6, .inl (fun _ => 0))), (q_7, .inl (cI, 48, .inl (fun _ => 0))), (q_8, .inl (cI, 12, .inl (fun _ => 0))), (q_9, .inl (cI, 12, .inl (fun _ => 0))), (q_10, .inl (cI, 192, .inl (fun _ => 0))), (q_11, .inl (cI, 192, .inl (fun _ => 0))), (q_12, .inl (cI, 192, .inl (fun _ => 0))), (q_13, .inl (cI, 192, .inl (fun _ => 0))), (q_14, .inl (cI, 2, .inl (fun _ => 0)))] := hV
  refine lv_aload_n hx hb dX7_init_119 rfl (lv_at hl 0 rfl) ?_
  refine lv_bipush (v := 12) hx hb dX7_init_120 (by decide) ?_
  refine x_newi (N' := 12) hB hV k_101 (by decide) (by decide) (by decide) (Nat.le_of_ble_eq_true rfl) (Nat.le_of_ble_eq_true rfl) dX7_init_122 (fun q_15 H hV => ?_)
  have hV : Vx D A s.heap H locs [(h, .inr (7, [.int 0, .ref q_1, .ref q_2, .ref q_3, .ref q_4, .ref q_5, .ref q_6, .ref q_7, .ref q_8, .ref q_9, .ref q_10, .ref q_11, .ref q_12, .ref q_13, .ref q_14, .null, .null, .null, .null, .null, .null, .int 0, .int 0, .null, .int 0, .null, .null, .null, .null, .int 0, .int 0, .null, .null, .null, .int 0, .null, .int 0, .int 0, .int 0, .null, .null, .null, .null, .null, .null, .null, .null, .null, .null, .int 0, .int 0, .int 0, .int 0, .null, .null, .null, .null, .null, .null, .null, .int 0, .null, .null, .null, .null, .null, .null])), (q_5, .inl (cI, 6, .inl (fun _ => 0))), (q_6, .inl (cI, 6, .inl (fun _ => 0))), (q_7, .inl (cI, 48, .inl (fun _ => 0))), (q_8, .inl (cI, 12, .inl (fun _ => 0))), (q_9, .inl (cI, 12, .inl (fun _ => 0))), (q_10, .inl (cI, 192, .inl (fun _ => 0))), (q_11, .inl (cI, 192, .inl (fun _ => 0))), (q_12, .inl (cI, 192, .inl (fun _ => 0))), (q_13, .inl (cI, 192, .inl (fun _ => 0))), (q_14, .inl (cI, 2, .inl (fun _ => 0))), (q_15, .inl (cI, 12, .inl (fun _ => 0)))] := hV
  refine W.widen (k := 15) (n := 1016) (Nat.le_of_ble_eq_true rfl) (Nat.le_of_ble_eq_true rfl) ?_
  refine x_putF (v := .ref q_15) hB hV hin 0 rfl rfl 15 (by decide) k_760 rfl rfl rfl rfl (Nat.le_of_ble_eq_true rfl) dX7_init_124 (fun H locs hV => ?_)
  have hV : Vx D A s.heap H locs [(h, .inr (7, [.int 0, .ref q_1, .ref q_2, .ref q_3, .ref q_4, .ref q_5, .ref q_6, .ref q_7, .ref q_8, .ref q_9, .ref q_10, .ref q_11, .ref q_12, .ref q_13, .ref q_14, .ref q_15, .null, .null, .null, .null, .null, .int 0, .int 0, .null, .int 0, .null, .null, .null, .null, .int 0, .int 0, .null, .null, .null, .int 0, .null, .int 0, .int 0, .int 0, .null, .null, .null, .null, .null, .null, .null, .null, .null, .null, .int 0, .int 0, .int 0, .int 0, .null, .null, .null, .null, .null, .null, .null, .int 0, .null, .null, .null, .null, .null, .null])), (q_5, .inl (cI, 6, .inl (fun _ => 0))), (q_6, .inl (cI, 6, .inl (fun _ => 0))), (q_7, .inl (cI, 48, .inl (fun _ => 0))), (q_8, .inl (cI, 12, .inl (fun _ => 0))), (q_9, .inl (cI, 12, .inl (fun _ => 0))), (q_10, .inl (cI, 192, .inl (fun _ => 0))), (q_11, .inl (cI, 192, .inl (fun _ => 0))), (q_12, .inl (cI, 192, .inl (fun _ => 0))), (q_13, .inl (cI, 192, .inl (fun _ => 0))), (q_14, .inl (cI, 2, .inl (fun _ => 0))), (q_15, .inl (cI, 12, .inl (fun _ => 0)))] := hV
  refine lv_aload_n hx hb dX7_init_127 rfl (lv_at hl 0 rfl) ?_
  refine lv_bipush (v := 12) hx hb dX7_init_128 (by decide) ?_
  refine x_newi (N' := 12) hB hV k_101 (by decide) (by decide) (by decide) (Nat.le_of_ble_eq_true rfl) (Nat.le_of_ble_eq_true rfl) dX7_init_130 (fun q_16 H hV => ?_)
  have hV : Vx D A s.heap H locs [(h, .inr (7, [.int 0, .ref q_1, .ref q_2, .ref q_3, .ref q_4, .ref q_5, .ref q_6, .ref q_7, .ref q_8, .ref q_9, .ref q_10, .ref q_11, .ref q_12, .ref q_13, .ref q_14, .ref q_15, .null, .null, .null, .null, .null, .int 0, .int 0, .null, .int 0, .null, .null, .null, .null, .int 0, .int 0, .null, .null, .null, .int 0, .null, .int 0, .int 0, .int 0, .null, .null, .null, .null, .null, .null, .null, .null, .null, .null, .int 0, .int 0, .int 0, .int 0, .null, .null, .null, .null, .null, .null, .null, .int 0, .null, .null, .null, .null, .null, .null])), (q_5, .inl (cI, 6, .inl (fun _ => 0))), (q_6, .inl (cI, 6, .inl (fun _ => 0))), (q_7, .inl (cI, 48, .inl (fun _ => 0))), (q_8, .inl (cI, 12, .inl (fun _ => 0))), (q_9, .inl (cI, 12, .inl (fun _ => 0))), (q_10, .inl (cI, 192, .inl (fun _ => 0))), (q_11, .inl (cI, 192, .inl (fun _ => 0))), (q_12, .inl (cI, 192, .inl (fun _ => 0))), (q_13, .inl (cI, 192, .inl (fun _ => 0))), (q_14, .inl (cI, 2, .inl (fun _ => 0))), (q_15, .inl (cI, 12, .inl (fun _ => 0))), (q_16, .inl (cI, 12, .inl (fun _ => 0)))] := hV
  refine W.widen (k := 16) (n := 1028) (Nat.le_of_ble_eq_true rfl) (Nat.le_of_ble_eq_true rfl) ?_
  refine x_putF (v := .ref q_16) hB hV hin 0 rfl rfl 16 (by decide) k_761 rfl rfl rfl rfl (Nat.le_of_ble_eq_true rfl) dX7_init_132 (fun H locs hV => ?_)
  have hV : Vx D A s.heap H locs [(h, .inr (7, [.int 0, .ref q_1, .ref q_2, .ref q_3, .ref q_4, .ref q_5, .ref q_6, .ref q_7, .ref q_8, .ref q_9, .ref q_10, .ref q_11, .ref q_12, .ref q_13, .ref q_14, .ref q_15, .ref q_16, .null, .null, .null, .null, .int 0, .int 0, .null, .int 0, .null, .null, .null, .null, .int 0, .int 0, .null, .null, .null, .int 0, .null, .int 0, .int 0, .int 0, .null, .null, .null, .null, .null, .null, .null, .null, .null, .null, .int 0, .int 0, .int 0, .int 0, .null, .null, .null, .null, .null, .null, .null, .int 0, .null, .null, .null, .null, .null, .null])), (q_5, .inl (cI, 6, .inl (fun _ => 0))), (q_6, .inl (cI, 6, .inl (fun _ => 0))), (q_7, .inl (cI, 48, .inl (fun _ => 0))), (q_8, .inl (cI, 12, .inl (fun _ => 0))), (q_9, .inl (cI, 12, .inl (fun _ => 0))), (q_10, .inl (cI, 192, .inl (fun _ => 0))), (q_11, .inl (cI, 192, .inl (fun _ => 0))), (q_12, .inl (cI, 192, .inl (fun _ => 0))), (q_13, .inl (cI, 192, .inl (fun _ => 0))), (q_14, .inl (cI, 2, .inl (fun _ => 0))), (q_15, .inl (cI, 12, .inl (fun _ => 0))), (q_16, .inl (cI, 12, .inl (fun _ => 0)))] := hV
  refine lv_aload_n hx hb dX7_init_135 rfl (lv_at hl 0 rfl) ?_
  refine lv_bipush (v := 96) hx hb dX7_init_136 (by decide) ?_
  refine x_newi (N' := 96) hB hV k_101 (by decide) (by decide) (by decide) (Nat.le_of_ble_eq_true rfl) (Nat.le_of_ble_eq_true rfl) dX7_init_138 (fun q_17 H hV => ?_)
  have hV : Vx D A s.heap H locs [(h, .inr (7, [.int 0, .ref q_1, .ref q_2, .ref q_3, .ref q_4, .ref q_5, .ref q_6, .ref q_7, .ref q_8, .ref q_9, .ref q_10, .ref q_11, .ref q_12, .ref q_13, .ref q_14, .ref q_15, .ref q_16, .null, .null, .null, .null, .int 0, .int 0, .null, .int 0, .null, .null, .null, .null, .int 0, .int 0, .null, .null, .null, .int 0, .null, .int 0, .int 0, .int 0, .null, .null, .null, .null, .null, .null, .null, .null, .null, .null, .int 0, .int 0, .int 0, .int 0, .null, .null, .null, .null, .null, .null, .null, .int 0, .null, .null, .null, .null, .null, .null])), (q_5, .inl (cI, 6, .inl (fun _ => 0))), (q_6, .inl (cI, 6, .inl (fun _ => 0))), (q_7, .inl (cI, 48, .inl (fun _ => 0))), (q_8, .inl (cI, 12, .inl (fun _ => 0))), (q_9, .inl (cI, 12, .inl (fun _ => 0))), (q_10, .inl (cI, 192, .inl (fun _ => 0))), (q_11, .inl (cI, 192, .inl (fun _ => 0))), (q_12, .inl (cI, 192, .inl (fun _ => 0))), (q_13, .inl (cI, 192, .inl (fun _ => 0))), (q_14, .inl (cI, 2, .inl (fun _ => 0))), (q_15, .inl (cI, 12, .inl (fun _ => 0))), (q_16, .inl (cI, 12, .inl (fun _ => 0))), (q_17, .inl (cI, 96, .inl (fun _ => 0)))] := hV
  refine W.widen (k := 17) (n := 1124) (Nat.le_of_ble_eq_true rfl) (Nat.le_of_ble_eq_true rfl) ?_
  refine x_putF (v := .ref q_17) hB hV hin 0 rfl rfl 17 (by decide) k_762 rfl rfl rfl rfl (Nat.le_of_ble_eq_true rfl) dX7_init_140 (fun H locs hV => ?_)
  have hV : Vx D A s.heap H locs [(h, .inr (7, [.int 0, .ref q_1, .ref q_2, .ref q_3, .ref q_4, .ref q_5, .ref q_6, .ref q_7, .ref q_8, .ref q_9, .ref q_10, .ref q_11, .ref q_12, .ref q_13, .ref q_14, .ref q_15, .ref q_16, .ref q_17, .null, .null, .null, .int 0, .int 0, .null, .int 0, .null, .null, .null, .null, .int 0, .int 0, .null, .null, .null, .int 0, .null, .int 0, .int 0, .int 0, .null, .null, .null, .null, .null, .null, .null, .null, .null, .null, .int 0, .int 0, .int 0, .int 0, .null, .null, .null, .null, .null, .null, .null, .int 0, .null, .null, .null, .null, .null, .null])), (q_5, .inl (cI, 6, .inl (fun _ => 0))), (q_6, .inl (cI, 6, .inl (fun _ => 0))), (q_7, .inl (cI, 48, .inl (fun _ => 0))), (q_8, .inl (cI, 12, .inl (fun _ => 0))), (q_9, .inl (cI, 12, .inl (fun _ => 0))), (q_10, .inl (cI, 192, .inl (fun _ => 0))), (q_11, .inl (cI, 192, .inl (fun _ => 0))), (q_12, .inl (cI, 192, .inl (fun _ => 0))), (q_13, .inl (cI, 192, .inl (fun _ => 0))), (q_14, .inl (cI, 2, .inl (fun _ => 0))), (q_15, .inl (cI, 12, .inl (fun _ => 0))), (q_16, .inl (cI, 12, .inl (fun _ => 0))), (q_17, .inl (cI, 96, .inl (fun _ => 0)))] := hV
  refine lv_aload_n hx hb dX7_init_143 rfl (lv_at hl 0 rfl) ?_
  refine lv_bipush (v := 96) hx hb dX7_init_144 (by decide) ?_
  refine x_newi (N' := 96) hB hV k_101 (by decide) (by decide) (by decide) (Nat.le_of_ble_eq_true rfl) (Nat.le_of_ble_eq_true rfl) dX7_init_146 (fun q_18 H hV => ?_)
  have hV : Vx D A s.heap H locs [(h, .inr (7, [.int 0, .ref q_1, .ref q_2, .ref q_3, .ref q_4, .ref q_5, .ref q_6, .ref q_7, .ref q_8, .ref q_9, .ref q_10, .ref q_11, .ref q_12, .ref q_13, .ref q_14, .ref q_15, .ref q_16, .ref q_17, .null, .null, .null, .int 0, .int 0, .null, .int 0, .null, .null, .null, .null, .int 0, .int 0, .null, .null, .null, .int 0, .null, .int 0, .int 0, .int 0, .null, .null, .null, .null, .null, .null, .null, .null, .null, .null, .int 0, .int 0, .int 0, .int 0, .null, .null, .null, .null, .null, .null, .null, .int 0, .null, .null, .null, .null, .null, .null])), (q_5, .inl (cI, 6, .inl (fun _ => 0))), (q_6, .inl (cI, 6, .inl (fun _ => 0))), (q_7, .inl (cI, 48, .inl (fun _ => 0))), (q_8, .inl (cI, 12, .inl (fun _ => 0))), (q_9, .inl (cI, 12, .inl (fun _ => 0))), (q_10, .inl (cI, 192, .inl (fun _ => 0))), (q_11, .inl (cI, 192, .inl (fun _ => 0))), (q_12, .inl (cI, 192, .inl (fun _ => 0))), (q_13, .inl (cI, 192, .inl (fun _ => 0))), (q_14, .inl (cI, 2, .inl (fun _ => 0))), (q_15, .inl (cI, 12, .inl (fun _ => 0))), (q_16, .inl (cI, 12, .inl (fun _ => 0))), (q_17, .inl (cI, 96, .inl (fun _ => 0))), (q_18, .inl (cI, 96, .inl (fun _ => 0)))] := hV
  refine W.widen (k := 18) (n := 1220) (Nat.le_of_ble_eq_true rfl) (Nat.le_of_ble_eq_true rfl) ?_
  refine x_putF (v := .ref q_18) hB hV hin 0 rfl rfl 18 (by decide) k_763 rfl rfl rfl rfl (Nat.le_of_ble_eq_true rfl) dX7_init_148 (fun H locs hV => ?_)
  have hV : Vx D A s.heap H locs [(h, .inr (7, [.int 0, .ref q_1, .ref q_2, .ref q_3, .ref q_4, .ref q_5, .ref q_6, .ref q_7, .ref q_8, .ref q_9, .ref q_10, .ref q_11, .ref q_12, .ref q_13, .ref q_14, .ref q_15, .ref q_16, .ref q_17, .ref q_18, .null, .null, .int 0, .int 0, .null, .int 0, .null, .null, .null, .null, .int 0, .int 0, .null, .null, .null, .int 0, .null, .int 0, .int 0, .int 0, .null, .null, .null, .null, .null, .null, .null, .null, .null, .null, .int 0, .int 0, .int 0, .int 0, .null, .null, .null, .null, .null, .null, .null, .int 0, .null, .null, .null, .null, .null, .null])), (q_5, .inl (cI, 6, .inl (fun _ => 0))), (q_6, .inl (cI, 6, .inl (fun _ => 0))), (q_7, .inl (cI, 48, .inl (fun _ => 0))), (q_8, .inl (cI, 12, .inl (fun _ => 0))), (q_9, .inl (cI, 12, .inl (fun _ => 0))), (q_10, .inl (cI, 192, .inl (fun _ => 0))), (q_11, .inl (cI, 192, .inl (fun _ => 0))), (q_12, .inl (cI, 192, .inl (fun _ => 0))), (q_13, .inl (cI, 192, .inl (fun _ => 0))), (q_14, .inl (cI, 2, .inl (fun _ => 0))), (q_15, .inl (cI, 12, .inl (fun _ => 0))), (q_16, .inl (cI, 12, .inl (fun _ => 0))), (q_17, .inl (cI, 96, .inl (fun _ => 0))), (q_18, .inl (cI, 96, .inl (fun _ => 0)))] := hV
  refine lv_aload_n hx hb dX7_init_151 rfl (lv_at hl 0 rfl) ?_
  refine lv_bipush (v := 96) hx hb dX7_init_152 (by decide) ?_
  refine x_newi (N' := 96) hB hV k_101 (by decide) (by decide) (by decide) (Nat.le_of_ble_eq_true rfl) (Nat.le_of_ble_eq_true rfl) dX7_init_154 (fun q_19 H hV => ?_)
  have hV : Vx D A s.heap H locs [(h, .inr (7, [.int 0, .ref q_1, .ref q_2, .ref q_3, .ref q_4, .ref q_5, .ref q_6, .ref q_7, .ref q_8, .ref q_9, .ref q_10, .ref q_11, .ref q_12, .ref q_13, .ref q_14, .ref q_15, .ref q_16, .ref q_17, .ref q_18, .null, .null, .int 0, .int 0, .null, .int 0, .null, .null, .null, .null, .int 0, .int 0, .null, .null, .null, .int 0, .null, .int 0, .int 0, .int 0, .null, .null, .null, .null, .null, .null, .null, .null, .null, .null, .int 0, .int 0, .int 0, .int 0, .null, .null, .null, .null, .null, .null, .null, .int 0, .null, .null, .null, .null, .null, .null])), (q_5, .inl (cI, 6, .inl (fun _ => 0))), (q_6, .inl (cI, 6, .inl (fun _ => 0))), (q_7, .inl (cI, 48, .inl (fun _ => 0))), (q_8, .inl (cI, 12, .inl (fun _ => 0))), (q_9, .inl (cI, 12, .inl (fun _ => 0))), (q_10, .inl (cI, 192, .inl (fun _ => 0))), (q_11, .inl (cI, 192, .inl (fun _ => 0))), (q_12, .inl (cI, 192, .inl (fun _ => 0))), (q_13, .inl (cI, 192, .inl (fun _ => 0))), (q_14, .inl (cI, 2, .inl (fun _ => 0))), (q_15, .inl (cI, 12, .inl (fun _ => 0))), (q_16, .inl (cI, 12, .inl (fun _ => 0))), (q_17, .inl (cI, 96, .inl (fun _ => 0))), (q_18, .inl (cI, 96, .inl (fun _ => 0))), (q_19, .inl (cI, 96, .inl (fun _ => 0)))] := hV
  refine W.widen (k := 19) (n := 1316) (Nat.le_of_ble_eq_true rfl) (Nat.le_of_ble_eq_true rfl) ?_
  refine x_putF (v := .ref q_19) hB hV hin 0 rfl rfl 19 (by decide) k_764 rfl rfl rfl rfl (Nat.le_of_ble_eq_true rfl) dX7_init_156 (fun H locs hV => ?_)
  have hV : Vx D A s.heap H locs [(h, .inr (7, [.int 0, .ref q_1, .ref q_2, .ref q_3, .ref q_4, .ref q_5, .ref q_6, .ref q_7, .ref q_8, .ref q_9, .ref q_10, .ref q_11, .ref q_12, .ref q_13, .ref q_14, .ref q_15, .ref q_16, .ref q_17, .ref q_18, .ref q_19, .null, .int 0, .int 0, .null, .int 0, .null, .null, .null, .null, .int 0, .int 0, .null, .null, .null, .int 0, .null, .int 0, .int 0, .int 0, .null, .null, .null, .null, .null, .null, .null, .null, .null, .null, .int 0, .int 0, .int 0, .int 0, .null, .null, .null, .null, .null, .null, .null, .int 0, .null, .null, .null, .null, .null, .null])), (q_5, .inl (cI, 6, .inl (fun _ => 0))), (q_6, .inl (cI, 6, .inl (fun _ => 0))), (q_7, .inl (cI, 48, .inl (fun _ => 0))), (q_8, .inl (cI, 12, .inl (fun _ => 0))), (q_9, .inl (cI, 12, .inl (fun _ => 0))), (q_10, .inl (cI, 192, .inl (fun _ => 0))), (q_11, .inl (cI, 192, .inl (fun _ => 0))), (q_12, .inl (cI, 192, .inl (fun _ => 0))), (q_13, .inl (cI, 192, .inl (fun _ => 0))), (q_14, .inl (cI, 2, .inl (fun _ => 0))), (q_15, .inl (cI, 12, .inl (fun _ => 0))), (q_16, .inl (cI, 12, .inl (fun _ => 0))), (q_17, .inl (cI, 96, .inl (fun _ => 0))), (q_18, .inl (cI, 96, .inl (fun _ => 0))), (q_19, .inl (cI, 96, .inl (fun _ => 0)))] := hV
  refine lv_aload_n hx hb dX7_init_159 rfl (lv_at hl 0 rfl) ?_
  refine lv_bipush (v := 12) hx hb dX7_init_160 (by decide) ?_
  refine x_newz (N' := 12) hB hV k_947 (by decide) (by decide) (by decide) (Nat.le_of_ble_eq_true rfl) (Nat.le_of_ble_eq_true rfl) dX7_init_162 (fun q_20 H hV => ?_)
  have hV : Vx D A s.heap H locs [(h, .inr (7, [.int 0, .ref q_1, .ref q_2, .ref q_3, .ref q_4, .ref q_5, .ref q_6, .ref q_7, .ref q_8, .ref q_9, .ref q_10, .ref q_11, .ref q_12, .ref q_13, .ref q_14, .ref q_15, .ref q_16, .ref q_17, .ref q_18, .ref q_19, .null, .int 0, .int 0, .null, .int 0, .null, .null, .null, .null, .int 0, .int 0, .null, .null, .null, .int 0, .null, .int 0, .int 0, .int 0, .null, .null, .null, .null, .null, .null, .null, .null, .null, .null, .int 0, .int 0, .int 0, .int 0, .null, .null, .null, .null, .null, .null, .null, .int 0, .null, .null, .null, .null, .null, .null])), (q_5, .inl (cI, 6, .inl (fun _ => 0))), (q_6, .inl (cI, 6, .inl (fun _ => 0))), (q_7, .inl (cI, 48, .inl (fun _ => 0))), (q_8, .inl (cI, 12, .inl (fun _ => 0))), (q_9, .inl (cI, 12, .inl (fun _ => 0))), (q_10, .inl (cI, 192, .inl (fun _ => 0))), (q_11, .inl (cI, 192, .inl (fun _ => 0))), (q_12, .inl (cI, 192, .inl (fun _ => 0))), (q_13, .inl (cI, 192, .inl (fun _ => 0))), (q_14, .inl (cI, 2, .inl (fun _ => 0))), (q_15, .inl (cI, 12, .inl (fun _ => 0))), (q_16, .inl (cI, 12, .inl (fun _ => 0))), (q_17, .inl (cI, 96, .inl (fun _ => 0))), (q_18, .inl (cI, 96, .inl (fun _ => 0))), (q_19, .inl (cI, 96, .inl (fun _ => 0))), (q_20, .inl (cZ, 12, .inl (fun _ => 0)))] := hV
  refine W.widen (k := 20) (n := 1328) (Nat.le_of_ble_eq_true rfl) (Nat.le_of_ble_eq_true rfl) ?_
  refine x_putF (v := .ref q_20) hB hV hin 0 rfl rfl 20 (by decide) k_765 rfl rfl rfl rfl (Nat.le_of_ble_eq_true rfl) dX7_init_164 (fun H locs hV => ?_)
  have hV : Vx D A s.heap H locs [(h, .inr (7, [.int 0, .ref q_1, .ref q_2, .ref q_3, .ref q_4, .ref q_5, .ref q_6, .ref q_7, .ref q_8, .ref q_9, .ref q_10, .ref q_11, .ref q_12, .ref q_13, .ref q_14, .ref q_15, .ref q_16, .ref q_17, .ref q_18, .ref q_19, .ref q_20, .int 0, .int 0, .null, .int 0, .null, .null, .null, .null, .int 0, .int 0, .null, .null, .null, .int 0, .null, .int 0, .int 0, .int 0, .null, .null, .null, .null, .null, .null, .null, .null, .null, .null, .int 0, .int 0, .int 0, .int 0, .null, .null, .null, .null, .null, .null, .null, .int 0, .null, .null, .null, .null, .null, .null])), (q_5, .inl (cI, 6, .inl (fun _ => 0))), (q_6, .inl (cI, 6, .inl (fun _ => 0))), (q_7, .inl (cI, 48, .inl (fun _ => 0))), (q_8, .inl (cI, 12, .inl (fun _ => 0))), (q_9, .inl (cI, 12, .inl (fun _ => 0))), (q_10, .inl (cI, 192, .inl (fun _ => 0))), (q_11, .inl (cI, 192, .inl (fun _ => 0))), (q_12, .inl (cI, 192, .inl (fun _ => 0))), (q_13, .inl (cI, 192, .inl (fun _ => 0))), (q_14, .inl (cI, 2, .inl (fun _ => 0))), (q_15, .inl (cI, 12, .inl (fun _ => 0))), (q_16, .inl (cI, 12, .inl (fun _ => 0))), (q_17, .inl (cI, 96, .inl (fun _ => 0))), (q_18, .inl (cI, 96, .inl (fun _ => 0))), (q_19, .inl (cI, 96, .inl (fun _ => 0))), (q_20, .inl (cZ, 12, .inl (fun _ => 0)))] := hV
  refine lv_aload_n hx hb dX7_init_167 rfl (lv_at hl 0 rfl) ?_
  refine lv_bipush (v := 40) hx hb dX7_init_168 (by decide) ?_
  refine x_newi (N' := 40) hB hV k_101 (by decide) (by decide) (by decide) (Nat.le_of_ble_eq_true rfl) (Nat.le_of_ble_eq_true rfl) dX7_init_170 (fun q_21 H hV => ?_)
  have hV : Vx D A s.heap H locs [(h, .inr (7, [.int 0, .ref q_1, .ref q_2, .ref q_3, .ref q_4, .ref q_5, .ref q_6, .ref q_7, .ref q_8, .ref q_9, .ref q_10, .ref q_11, .ref q_12, .ref q_13, .ref q_14, .ref q_15, .ref q_16, .ref q_17, .ref q_18, .ref q_19, .ref q_20, .int 0, .int 0, .null, .int 0, .null, .null, .null, .null, .int 0, .int 0, .null, .null, .null, .int 0, .null, .int 0, .int 0, .int 0, .null, .null, .null, .null, .null, .null, .null, .null, .null, .null, .int 0, .int 0, .int 0, .int 0, .null, .null, .null, .null, .null, .null, .null, .int 0, .null, .null, .null, .null, .null, .null])), (q_5, .inl (cI, 6, .inl (fun _ => 0))), (q_6, .inl (cI, 6, .inl (fun _ => 0))), (q_7, .inl (cI, 48, .inl (fun _ => 0))), (q_8, .inl (cI, 12, .inl (fun _ => 0))), (q_9, .inl (cI, 12, .inl (fun _ => 0))), (q_10, .inl (cI, 192, .inl (fun _ => 0))), (q_11, .inl (cI, 192, .inl (fun _ => 0))), (q_12, .inl (cI, 192, .inl (fun _ => 0))), (q_13, .inl (cI, 192, .inl (fun _ => 0))), (q_14, .inl (cI, 2, .inl (fun _ => 0))), (q_15, .inl (cI, 12, .inl (fun _ => 0))), (q_16, .inl (cI, 12, .inl (fun _ => 0))), (q_17, .inl (cI, 96, .inl (fun _ => 0))), (q_18, .inl (cI, 96, .inl (fun _ => 0))), (q_19, .inl (cI, 96, .inl (fun _ => 0))), (q_20, .inl (cZ, 12, .inl (fun _ => 0))), (q_21, .inl (cI, 40, .inl (fun _ => 0)))] := hV
  refine W.widen (k := 21) (n := 1368) (Nat.le_of_ble_eq_true rfl) (Nat.le_of_ble_eq_true rfl) ?_
  refine x_putF (v := .ref q_21) hB hV hin 0 rfl rfl 23 (by decide) k_768 rfl rfl rfl rfl (Nat.le_of_ble_eq_true rfl) dX7_init_172 (fun H locs hV => ?_)
  have hV : Vx D A s.heap H locs [(h, .inr (7, [.int 0, .ref q_1, .ref q_2, .ref q_3, .ref q_4, .ref q_5, .ref q_6, .ref q_7, .ref q_8, .ref q_9, .ref q_10, .ref q_11, .ref q_12, .ref q_13, .ref q_14, .ref q_15, .ref q_16, .ref q_17, .ref q_18, .ref q_19, .ref q_20, .int 0, .int 0, .ref q_21, .int 0, .null, .null, .null, .null, .int 0, .int 0, .null, .null, .null, .int 0, .null, .int 0, .int 0, .int 0, .null, .null, .null, .null, .null, .null, .null, .null, .null, .null, .int 0, .int 0, .int 0, .int 0, .null, .null, .null, .null, .null, .null, .null, .int 0, .null, .null, .null, .null, .null, .null])), (q_5, .inl (cI, 6, .inl (fun _ => 0))), (q_6, .inl (cI, 6, .inl (fun _ => 0))), (q_7, .inl (cI, 48, .inl (fun _ => 0))), (q_8, .inl (cI, 12, .inl (fun _ => 0))), (q_9, .inl (cI, 12, .inl (fun _ => 0))), (q_10, .inl (cI, 192, .inl (fun _ => 0))), (q_11, .inl (cI, 192, .inl (fun _ => 0))), (q_12, .inl (cI, 192, .inl (fun _ => 0))), (q_13, .inl (cI, 192, .inl (fun _ => 0))), (q_14, .inl (cI, 2, .inl (fun _ => 0))), (q_15, .inl (cI, 12, .inl (fun _ => 0))), (q_16, .inl (cI, 12, .inl (fun _ => 0))), (q_17, .inl (cI, 96, .inl (fun _ => 0))), (q_18, .inl (cI, 96, .inl (fun _ => 0))), (q_19, .inl (cI, 96, .inl (fun _ => 0))), (q_20, .inl (cZ, 12, .inl (fun _ => 0))), (q_21, .inl (cI, 40, .inl (fun _ => 0)))] := hV
  have hV := Vx_sub (w := [(h, .inr (7, [.int 0, .ref q_1, .ref q_2, .ref q_3, .ref q_4, .ref q_5, .ref q_6, .ref q_7, .ref q_8, .ref q_9, .ref q_10, .ref q_11, .ref q_12, .ref q_13, .ref q_14, .ref q_15, .ref q_16, .ref q_17, .ref q_18, .ref q_19, .ref q_20, .int 0, .int 0, .ref q_21, .int 0, .null, .null, .null, .null, .int 0, .int 0, .null, .null, .null, .int 0, .null, .int 0, .int 0, .int 0, .null, .null, .null, .null, .null, .null, .null, .null, .null, .null, .int 0, .int 0, .int 0, .int 0, .null, .null, .null, .null, .null, .null, .null, .int 0, .null, .null, .null, .null, .null, .null])), (q_5, .inl (cI, 6, .inl (fun _ => 0))), (q_6, .inl (cI, 6, .inl (fun _ => 0))), (q_7, .inl (cI, 48, .inl (fun _ => 0))), (q_8, .inl (cI, 12, .inl (fun _ => 0))), (q_9, .inl (cI, 12, .inl (fun _ => 0))), (q_10, .inl (cI, 192, .inl (fun _ => 0))), (q_11, .inl (cI, 192, .inl (fun _ => 0))), (q_12, .inl (cI, 192, .inl (fun _ => 0))), (q_13, .inl (cI, 192, .inl (fun _ => 0))), (q_14, .inl (cI, 2, .inl (fun _ => 0))), (q_15, .inl (cI, 12, .inl (fun _ => 0))), (q_16, .inl (cI, 12, .inl (fun _ => 0))), (q_17, .inl (cI, 96, .inl (fun _ => 0))), (q_18, .inl (cI, 96, .inl (fun _ => 0))), (q_19, .inl (cI, 96, .inl (fun _ => 0))), (q_20, .inl (cZ, 12, .inl (fun _ => 0)))]) hV [0, 1, 2, 3, 4, 5, 6, 7, 8, 9, 10, 11, 12, 13, 14, 15, 16] rfl rfl (by decide)
  refine lv_aload_n hx hb dX7_init_175 rfl (lv_at hl 0 rfl) ?_
  refine lv_bipush (v := 20) hx hb dX7_init_176 (by decide) ?_
  refine x_newi (N' := 20) hB hV k_101 (by decide) (by decide) (by decide) (Nat.le_of_ble_eq_true rfl) (Nat.le_of_ble_eq_true rfl) dX7_init_178 (fun q_22 H hV => ?_)
  have hV : Vx D A s.heap H locs [(h, .inr (7, [.int 0, .ref q_1, .ref q_2, .ref q_3, .ref q_4, .ref q_5, .ref q_6, .ref q_7, .ref q_8, .ref q_9, .ref q_10, .ref q_11, .ref q_12, .ref q_13, .ref q_14, .ref q_15, .ref q_16, .ref q_17, .ref q_18, .ref q_19, .ref q_20, .int 0, .int 0, .ref q_21, .int 0, .null, .null, .null, .null, .int 0, .int 0, .null, .null, .null, .int 0, .null, .int 0, .int 0, .int 0, .null, .null, .null, .null, .null, .null, .null, .null, .null, .null, .int 0, .int 0, .int 0, .int 0, .null, .null, .null, .null, .null, .null, .null, .int 0, .null, .null, .null, .null, .null, .null])), (q_5, .inl (cI, 6, .inl (fun _ => 0))), (q_6, .inl (cI, 6, .inl (fun _ => 0))), (q_7, .inl (cI, 48, .inl (fun _ => 0))), (q_8, .inl (cI, 12, .inl (fun _ => 0))), (q_9, .inl (cI, 12, .inl (fun _ => 0))), (q_10, .inl (cI, 192, .inl (fun _ => 0))), (q_11, .inl (cI, 192, .inl (fun _ => 0))), (q_12, .inl (cI, 192, .inl (fun _ => 0))), (q_13, .inl (cI, 192, .inl (fun _ => 0))), (q_14, .inl (cI, 2, .inl (fun _ => 0))), (q_15, .inl (cI, 12, .inl (fun _ => 0))), (q_16, .inl (cI, 12, .inl (fun _ => 0))), (q_17, .inl (cI, 96, .inl (fun _ => 0))), (q_18, .inl (cI, 96, .inl (fun _ => 0))), (q_19, .inl (cI, 96, .inl (fun _ => 0))), (q_20, .inl (cZ, 12, .inl (fun _ => 0))), (q_22, .inl (cI, 20, .inl (fun _ => 0)))] := hV
  refine W.widen (k := 22) (n := 1388) (Nat.le_of_ble_eq_true rfl) (Nat.le_of_ble_eq_true rfl) ?_
  refine x_putF (v := .ref q_22) hB hV hin 0 rfl rfl 25 (by decide) k_770 rfl rfl rfl rfl (Nat.le_of_ble_eq_true rfl) dX7_init_180 (fun H locs hV => ?_)
  have hV : Vx D A s.heap H locs [(h, .inr (7, [.int 0, .ref q_1, .ref q_2, .ref q_3, .ref q_4, .ref q_5, .ref q_6, .ref q_7, .ref q_8, .ref q_9, .ref q_10, .ref q_11, .ref q_12, .ref q_13, .ref q_14, .ref q_15, .ref q_16, .ref q_17, .ref q_18, .ref q_19, .ref q_20, .int 0, .int 0, .ref q_21, .int 0, .ref q_22, .null, .null, .null, .int 0, .int 0, .null, .null, .null, .int 0, .null, .int 0, .int 0, .int 0, .null, .null, .null, .null, .null, .null, .null, .null, .null, .null, .int 0, .int 0, .int 0, .int 0, .null, .null, .null, .null, .null, .null, .null, .int 0, .null, .null, .null, .null, .null, .null])), (q_5, .inl (cI, 6, .inl (fun _ => 0))), (q_6, .inl (cI, 6, .inl (fun _ => 0))), (q_7, .inl (cI, 48, .inl (fun _ => 0))), (q_8, .inl (cI, 12, .inl (fun _ => 0))), (q_9, .inl (cI, 12, .inl (fun _ => 0))), (q_10, .inl (cI, 192, .inl (fun _ => 0))), (q_11, .inl (cI, 192, .inl (fun _ => 0))), (q_12, .inl (cI, 192, .inl (fun _ => 0))), (q_13, .inl (cI, 192, .inl (fun _ => 0))), (q_14, .inl (cI, 2, .inl (fun _ => 0))), (q_15, .inl (cI, 12, .inl (fun _ => 0))), (q_16, .inl (cI, 12, .inl (fun _ => 0))), (q_17, .inl (cI, 96, .inl (fun _ => 0))), (q_18, .inl (cI, 96, .inl (fun _ => 0))), (q_19, .inl (cI, 96, .inl (fun _ => 0))), (q_20, .inl (cZ, 12, .inl (fun _ => 0))), (q_22, .inl (cI, 20, .inl (fun _ => 0)))] := hV
  have hV := Vx_sub (w := [(h, .inr (7, [.int 0, .ref q_1, .ref q_2, .ref q_3, .ref q_4, .ref q_5, .ref q_6, .ref q_7, .ref q_8, .ref q_9, .ref q_10, .ref q_11, .ref q_12, .ref q_13, .ref q_14, .ref q_15, .ref q_16, .ref q_17, .ref q_18, .ref q_19, .ref q_20, .int 0, .int 0, .ref q_21, .int 0, .ref q_22, .null, .null, .null, .int 0, .int 0, .null, .null, .null, .int 0, .null, .int 0, .int 0, .int 0, .null, .null, .null, .null, .null, .null, .null, .null, .null, .null, .int 0, .int 0, .int 0, .int 0, .null, .null, .null, .null, .null, .null, .null, .int 0, .null, .null, .null, .null, .null, .null])), (q_5, .inl (cI, 6, .inl (fun _ => 0))), (q_6, .inl (cI, 6, .inl (fun _ => 0))), (q_7, .inl (cI, 48, .inl (fun _ => 0))), (q_8, .inl (cI, 12, .inl (fun _ => 0))), (q_9, .inl (cI, 12, .inl (fun _ => 0))), (q_10, .inl (cI, 192, .inl (fun _ => 0))), (q_11, .inl (cI, 192, .inl (fun _ => 0))), (q_12, .inl (cI, 192, .inl (fun _ => 0))), (q_13, .inl (cI, 192, .inl (fun _ => 0))), (q_14, .inl (cI, 2, .inl (fun _ => 0))), (q_15, .inl (cI, 12, .inl (fun _ => 0))), (q_16, .inl (cI, 12, .inl (fun _ => 0))), (q_17, .inl (cI, 96, .inl (fun _ => 0))), (q_18, .inl (cI, 96, .inl (fun _ => 0))), (q_19, .inl (cI, 96, .inl (fun _ => 0))), (q_20, .inl (cZ, 12, .inl (fun _ => 0)))]) hV [0, 1, 2, 3, 4, 5, 6, 7, 8, 9, 10, 11, 12, 13, 14, 15, 16] rfl rfl (by decide)
  refine lv_aload_n hx hb dX7_init_183 rfl (lv_at hl 0 rfl) ?_
  refine lv_bipush (v := 20) hx hb dX7_init_184 (by decide) ?_
  refine x_newi (N' := 20) hB hV k_101 (by decide) (by decide) (by decide) (Nat.le_of_ble_eq_true rfl) (Nat.le_of_ble_eq_true rfl) dX7_init_186 (fun q_23 H hV => ?_)
  have hV : Vx D A s.heap H locs [(h, .inr (7, [.int 0, .ref q_1, .ref q_2, .ref q_3, .ref q_4, .ref q_5, .ref q_6, .ref q_7, .ref q_8, .ref q_9, .ref q_10, .ref q_11, .ref q_12, .ref q_13, .ref q_14, .ref q_15, .ref q_16, .ref q_17, .ref q_18, .ref q_19, .ref q_20, .int 0, .int 0, .ref q_21, .int 0, .ref q_22, .null, .null, .null, .int 0, .int 0, .null, .null, .null, .int 0, .null, .int 0, .int 0, .int 0, .null, .null, .null, .null, .null, .null, .null, .null, .null, .null, .int 0, .int 0, .int 0, .int 0, .null, .null, .null, .null, .null, .null, .null, .int 0, .null, .null, .null, .null, .null, .null])), (q_5, .inl (cI, 6, .inl (fun _ => 0))), (q_6, .inl (cI, 6, .inl (fun _ => 0))), (q_7, .inl (cI, 48, .inl (fun _ => 0))), (q_8, .inl (cI, 12, .inl (fun _ => 0))), (q_9, .inl (cI, 12, .inl (fun _ => 0))), (q_10, .inl (cI, 192, .inl (fun _ => 0))), (q_11, .inl (cI, 192, .inl (fun _ => 0))), (q_12, .inl (cI, 192, .inl (fun _ => 0))), (q_13, .inl (cI, 192, .inl (fun _ => 0))), (q_14, .inl (cI, 2, .inl (fun _ => 0))), (q_15, .inl (cI, 12, .inl (fun _ => 0))), (q_16, .inl (cI, 12, .inl (fun _ => 0))), (q_17, .inl (cI, 96, .inl (fun _ => 0))), (q_18, .inl (cI, 96, .inl (fun _ => 0))), (q_19, .inl (cI, 96, .inl (fun _ => 0))), (q_20, .inl (cZ, 12, .inl (fun _ => 0))), (q_23, .inl (cI, 20, .inl (fun _ => 0)))] := hV
  refine W.widen (k := 23) (n := 1408) (Nat.le_of_ble_eq_true rfl) (Nat.le_of_ble_eq_true rfl) ?_
  refine x_putF (v := .ref q_23) hB hV hin 0 rfl rfl 26 (by decide) k_771 rfl rfl rfl rfl (Nat.le_of_ble_eq_true rfl) dX7_init_188 (fun H locs hV => ?_)
  have hV : Vx D A s.heap H locs [(h, .inr (7, [.int 0, .ref q_1, .ref q_2, .ref q_3, .ref q_4, .ref q_5, .ref q_6, .ref q_7, .ref q_8, .ref q_9, .ref q_10, .ref q_11, .ref q_12, .ref q_13, .ref q_14, .ref q_15, .ref q_16, .ref q_17, .ref q_18, .ref q_19, .ref q_20, .int 0, .int 0, .ref q_21, .int 0, .ref q_22, .ref q_23, .null, .null, .int 0, .int 0, .null, .null, .null, .int 0, .null, .int 0, .int 0, .int 0, .null, .null, .null, .null, .null, .null, .null, .null, .null, .null, .int 0, .int 0, .int 0, .int 0, .null, .null, .null, .null, .null, .null, .null, .int 0, .null, .null, .null, .null, .null, .null])), (q_5, .inl (cI, 6, .inl (fun _ => 0))), (q_6, .inl (cI, 6, .inl (fun _ => 0))), (q_7, .inl (cI, 48, .inl (fun _ => 0))), (q_8, .inl (cI, 12, .inl (fun _ => 0))), (q_9, .inl (cI, 12, .inl (fun _ => 0))), (q_10, .inl (cI, 192, .inl (fun _ => 0))), (q_11, .inl (cI, 192, .inl (fun _ => 0))), (q_12, .inl (cI, 192, .inl (fun _ => 0))), (q_13, .inl (cI, 192, .inl (fun _ => 0))), (q_14, .inl (cI, 2, .inl (fun _ => 0))), (q_15, .inl (cI, 12, .inl (fun _ => 0))), (q_16, .inl (cI, 12, .inl (fun _ => 0))), (q_17, .inl (cI, 96, .inl (fun _ => 0))), (q_18, .inl (cI, 96, .inl (fun _ => 0))), (q_19, .inl (cI, 96, .inl (fun _ => 0))), (q_20, .inl (cZ, 12, .inl (fun _ => 0))), (q_23, .inl (cI, 20, .inl (fun _ => 0)))] := hV
  have hV := Vx_sub (w := [(h, .inr (7, [.int 0, .ref q_1, .ref q_2, .ref q_3, .ref q_4, .ref q_5, .ref q_6, .ref q_7, .ref q_8, .ref q_9, .ref q_10, .ref q_11, .ref q_12, .ref q_13, .ref q_14, .ref q_15, .ref q_16, .ref q_17, .ref q_18, .ref q_19, .ref q_20, .int 0, .int 0, .ref q_21, .int 0, .ref q_22, .ref q_23, .null, .null, .int 0, .int 0, .null, .null, .null, .int 0, .null, .int 0, .int 0, .int 0, .null, .null, .null, .null, .null, .null, .null, .null, .null, .null, .int 0, .int 0, .int 0, .int 0, .null, .null, .null, .null, .null, .null, .null, .int 0, .null, .null, .null, .null, .null, .null])), (q_5, .inl (cI, 6, .inl (fun _ => 0))), (q_6, .inl (cI, 6, .inl (fun _ => 0))), (q_7, .inl (cI, 48, .inl (fun _ => 0))), (q_8, .inl (cI, 12, .inl (fun _ => 0))), (q_9, .inl (cI, 12, .inl (fun _ => 0))), (q_10, .inl (cI, 192, .inl (fun _ => 0))), (q_11, .inl (cI, 192, .inl (fun _ => 0))), (q_12, .inl (cI, 192, .inl (fun _ => 0))), (q_13, .inl (cI, 192, .inl (fun _ => 0))), (q_14, .inl (cI, 2, .inl (fun _ => 0))), (q_15, .inl (cI, 12, .inl (fun _ => 0))), (q_16, .inl (cI, 12, .inl (fun _ => 0))), (q_17, .inl (cI, 96, .inl (fun _ => 0))), (q_18, .inl (cI, 96, .inl (fun _ => 0))), (q_19, .inl (cI, 96, .inl (fun _ => 0))), (q_20, .inl (cZ, 12, .inl (fun _ => 0)))]) hV [0, 1, 2, 3, 4, 5, 6, 7, 8, 9, 10, 11, 12, 13, 14, 15, 16] rfl rfl (by decide)
  refine lv_aload_n hx hb dX7_init_191 rfl (lv_at hl 0 rfl) ?_
  refine lv_bipush (v := 20) hx hb dX7_init_192 (by decide) ?_
  refine x_newi (N' := 20) hB hV k_101 (by decide) (by decide) (by decide) (Nat.le_of_ble_eq_true rfl) (Nat.le_of_ble_eq_true rfl) dX7_init_194 (fun q_24 H hV => ?_)
  have hV : Vx D A s.heap H locs [(h, .inr (7, [.int 0, .ref q_1, .ref q_2, .ref q_3, .ref q_4, .ref q_5, .ref q_6, .ref q_7, .ref q_8, .ref q_9, .ref q_10, .ref q_11, .ref q_12, .ref q_13, .ref q_14, .ref q_15, .ref q_16, .ref q_17, .ref q_18, .ref q_19, .ref q_20, .int 0, .int 0, .ref q_21, .int 0, .ref q_22, .ref q_23, .null, .null, .int 0, .int 0, .null, .null, .null, .int 0, .null, .int 0, .int 0, .int 0, .null, .null, .null, .null, .null, .null, .null, .null, .null, .null, .int 0, .int 0, .int 0, .int 0, .null, .null, .null, .null, .null, .null, .null, .int 0, .null, .null, .null, .null, .null, .null])), (q_5, .inl (cI, 6, .inl (fun _ => 0))), (q_6, .inl (cI, 6, .inl (fun _ => 0))), (q_7, .inl (cI, 48, .inl (fun _ => 0))), (q_8, .inl (cI, 12, .inl (fun _ => 0))), (q_9, .inl (cI, 12, .inl (fun _ => 0))), (q_10, .inl (cI, 192, .inl (fun _ => 0))), (q_11, .inl (cI, 192, .inl (fun _ => 0))), (q_12, .inl (cI, 192, .inl (fun _ => 0))), (q_13, .inl (cI, 192, .inl (fun _ => 0))), (q_14, .inl (cI, 2, .inl (fun _ => 0))), (q_15, .inl (cI, 12, .inl (fun _ => 0))), (q_16, .inl (cI, 12, .inl (fun _ => 0))), (q_17, .inl (cI, 96, .inl (fun _ => 0))), (q_18, .inl (cI, 96, .inl (fun _ => 0))), (q_19, .inl (cI, 96, .inl (fun _ => 0))), (q_20, .inl (cZ, 12, .inl (fun _ => 0))), (q_24, .inl (cI, 20, .inl (fun _ => 0)))] := hV
  refine W.widen (k := 24) (n := 1428) (Nat.le_of_ble_eq_true rfl) (Nat.le_of_ble_eq_true rfl) ?_
  refine x_putF (v := .ref q_24) hB hV hin 0 rfl rfl 27 (by decide) k_772 rfl rfl rfl rfl (Nat.le_of_ble_eq_true rfl) dX7_init_196 (fun H locs hV => ?_)
  have hV : Vx D A s.heap H locs [(h, .inr (7, [.int 0, .ref q_1, .ref q_2, .ref q_3, .ref q_4, .ref q_5, .ref q_6, .ref q_7, .ref q_8, .ref q_9, .ref q_10, .ref q_11, .ref q_12, .ref q_13, .ref q_14, .ref q_15, .ref q_16, .ref q_17, .ref q_18, .ref q_19, .ref q_20, .int 0, .int 0, .ref q_21, .int 0, .ref q_22, .ref q_23, .ref q_24, .null, .int 0, .int 0, .null, .null, .null, .int 0, .null, .int 0, .int 0, .int 0, .null, .null, .null, .null, .null, .null, .null, .null, .null, .null, .int 0, .int 0, .int 0, .int 0, .null, .null, .null, .null, .null, .null, .null, .int 0, .null, .null, .null, .null, .null, .null])), (q_5, .inl (cI, 6, .inl (fun _ => 0))), (q_6, .inl (cI, 6, .inl (fun _ => 0))), (q_7, .inl (cI, 48, .inl (fun _ => 0))), (q_8, .inl (cI, 12, .inl (fun _ => 0))), (q_9, .inl (cI, 12, .inl (fun _ => 0))), (q_10, .inl (cI, 192, .inl (fun _ => 0))), (q_11, .inl (cI, 192, .inl (fun _ => 0))), (q_12, .inl (cI, 192, .inl (fun _ => 0))), (q_13, .inl (cI, 192, .inl (fun _ => 0))), (q_14, .inl (cI, 2, .inl (fun _ => 0))), (q_15, .inl (cI, 12, .inl (fun _ => 0))), (q_16, .inl (cI, 12, .inl (fun _ => 0))), (q_17, .inl (cI, 96, .inl (fun _ => 0))), (q_18, .inl (cI, 96, .inl (fun _ => 0))), (q_19, .inl (cI, 96, .inl (fun _ => 0))), (q_20, .inl (cZ, 12, .inl (fun _ => 0))), (q_24, .inl (cI, 20, .inl (fun _ => 0)))] := hV
  have hV := Vx_sub (w := [(h, .inr (7, [.int 0, .ref q_1, .ref q_2, .ref q_3, .ref q_4, .ref q_5, .ref q_6, .ref q_7, .ref q_8, .ref q_9, .ref q_10, .ref q_11, .ref q_12, .ref q_13, .ref q_14, .ref q_15, .ref q_16, .ref q_17, .ref q_18, .ref q_19, .ref q_20, .int 0, .int 0, .ref q_21, .int 0, .ref q_22, .ref q_23, .ref q_24, .null, .int 0, .int 0, .null, .null, .null, .int 0, .null, .int 0, .int 0, .int 0, .null, .null, .null, .null, .null, .null, .null, .null, .null, .null, .int 0, .int 0, .int 0, .int 0, .null, .null, .null, .null, .null, .null, .null, .int 0, .null, .null, .null, .null, .null, .null])), (q_5, .inl (cI, 6, .inl (fun _ => 0))), (q_6, .inl (cI, 6, .inl (fun _ => 0))), (q_7, .inl (cI, 48, .inl (fun _ => 0))), (q_8, .inl (cI, 12, .inl (fun _ => 0))), (q_9, .inl (cI, 12, .inl (fun _ => 0))), (q_10, .inl (cI, 192, .inl (fun _ => 0))), (q_11, .inl (cI, 192, .inl (fun _ => 0))), (q_12, .inl (cI, 192, .inl (fun _ => 0))), (q_13, .inl (cI, 192, .inl (fun _ => 0))), (q_14, .inl (cI, 2, .inl (fun _ => 0))), (q_15, .inl (cI, 12, .inl (fun _ => 0))), (q_16, .inl (cI, 12, .inl (fun _ => 0))), (q_17, .inl (cI, 96, .inl (fun _ => 0))), (q_18, .inl (cI, 96, .inl (fun _ => 0))), (q_19, .inl (cI, 96, .inl (fun _ => 0))), (q_20, .inl (cZ, 12, .inl (fun _ => 0)))]) hV [0, 1, 2, 3, 4, 5, 6, 7, 8, 9, 10, 11, 12, 13, 14, 15, 16] rfl rfl (by decide)
  refine lv_aload_n hx hb dX7_init_199 rfl (lv_at hl 0 rfl) ?_
  refine lv_bipush (v := 100) hx hb dX7_init_200 (by decide) ?_
  refine x_newi (N' := 100) hB hV k_101 (by decide) (by decide) (by decide) (Nat.le_of_ble_eq_true rfl) (Nat.le_of_ble_eq_true rfl) dX7_init_202 (fun q_25 H hV => ?_)
  have hV : Vx D A s.heap H locs [(h, .inr (7, [.int 0, .ref q_1, .ref q_2, .ref q_3, .ref q_4, .ref q_5, .ref q_6, .ref q_7, .ref q_8, .ref q_9, .ref q_10, .ref q_11, .ref q_12, .ref q_13, .ref q_14, .ref q_15, .ref q_16, .ref q_17, .ref q_18, .ref q_19, .ref q_20, .int 0, .int 0, .ref q_21, .int 0, .ref q_22, .ref q_23, .ref q_24, .null, .int 0, .int 0, .null, .null, .null, .int 0, .null, .int 0, .int 0, .int 0, .null, .null, .null, .null, .null, .null, .null, .null, .null, .null, .int 0, .int 0, .int 0, .int 0, .null, .null, .null, .null, .null, .null, .null, .int 0, .null, .null, .null, .null, .null, .null])), (q_5, .inl (cI, 6, .inl (fun _ => 0))), (q_6, .inl (cI, 6, .inl (fun _ => 0))), (q_7, .inl (cI, 48, .inl (fun _ => 0))), (q_8, .inl (cI, 12, .inl (fun _ => 0))), (q_9, .inl (cI, 12, .inl (fun _ => 0))), (q_10, .inl (cI, 192, .inl (fun _ => 0))), (q_11, .inl (cI, 192, .inl (fun _ => 0))), (q_12, .inl (cI, 192, .inl (fun _ => 0))), (q_13, .inl (cI, 192, .inl (fun _ => 0))), (q_14, .inl (cI, 2, .inl (fun _ => 0))), (q_15, .inl (cI, 12, .inl (fun _ => 0))), (q_16, .inl (cI, 12, .inl (fun _ => 0))), (q_17, .inl (cI, 96, .inl (fun _ => 0))), (q_18, .inl (cI, 96, .inl (fun _ => 0))), (q_19, .inl (cI, 96, .inl (fun _ => 0))), (q_20, .inl (cZ, 12, .inl (fun _ => 0))), (q_25, .inl (cI, 100, .inl (fun _ => 0)))] := hV
  refine W.widen (k := 25) (n := 1528) (Nat.le_of_ble_eq_true rfl) (Nat.le_of_ble_eq_true rfl) ?_
  refine x_putF (v := .ref q_25) hB hV hin 0 rfl rfl 28 (by decide) k_773 rfl rfl rfl rfl (Nat.le_of_ble_eq_true rfl) dX7_init_204 (fun H locs hV => ?_)
  have hV : Vx D A s.heap H locs [(h, .inr (7, [.int 0, .ref q_1, .ref q_2, .ref q_3, .ref q_4, .ref q_5, .ref q_6, .ref q_7, .ref q_8, .ref q_9, .ref q_10, .ref q_11, .ref q_12, .ref q_13, .ref q_14, .ref q_15, .ref q_16, .ref q_17, .ref q_18, .ref q_19, .ref q_20, .int 0, .int 0, .ref q_21, .int 0, .ref q_22, .ref q_23, .ref q_24, .ref q_25, .int 0, .int 0, .null, .null, .null, .int 0, .null, .int 0, .int 0, .int 0, .null, .null, .null, .null, .null, .null, .null, .null, .null, .null, .int 0, .int 0, .int 0, .int 0, .null, .null, .null, .null, .null, .null, .null, .int 0, .null, .null, .null, .null, .null, .null])), (q_5, .inl (cI, 6, .inl (fun _ => 0))), (q_6, .inl (cI, 6, .inl (fun _ => 0))), (q_7, .inl (cI, 48, .inl (fun _ => 0))), (q_8, .inl (cI, 12, .inl (fun _ => 0))), (q_9, .inl (cI, 12, .inl (fun _ => 0))), (q_10, .inl (cI, 192, .inl (fun _ => 0))), (q_11, .inl (cI, 192, .inl (fun _ => 0))), (q_12, .inl (cI, 192, .inl (fun _ => 0))), (q_13, .inl (cI, 192, .inl (fun _ => 0))), (q_14, .inl (cI, 2, .inl (fun _ => 0))), (q_15, .inl (cI, 12, .inl (fun _ => 0))), (q_16, .inl (cI, 12, .inl (fun _ => 0))), (q_17, .inl (cI, 96, .inl (fun _ => 0))), (q_18, .inl (cI, 96, .inl (fun _ => 0))), (q_19, .inl (cI, 96, .inl (fun _ => 0))), (q_20, .inl (cZ, 12, .inl (fun _ => 0))), (q_25, .inl (cI, 100, .inl (fun _ => 0)))] := hV
  refine lv_aload_n hx hb dX7_init_207 rfl (lv_at hl 0 rfl) ?_
  refine lv_bipush (v := 6) hx hb dX7_init_208 (by decide) ?_
  refine x_newi (N' := 6) hB hV k_101 (by decide) (by decide) (by decide) (Nat.le_of_ble_eq_true rfl) (Nat.le_of_ble_eq_true rfl) dX7_init_210 (fun q_26 H hV => ?_)
  have hV : Vx D A s.heap H locs [(h, .inr (7, [.int 0, .ref q_1, .ref q_2, .ref q_3, .ref q_4, .ref q_5, .ref q_6, .ref q_7, .ref q_8, .ref q_9, .ref q_10, .ref q_11, .ref q_12, .ref q_13, .ref q_14, .ref q_15, .ref q_16, .ref q_17, .ref q_18, .ref q_19, .ref q_20, .int 0, .int 0, .ref q_21, .int 0, .ref q_22, .ref q_23, .ref q_24, .ref q_25, .int 0, .int 0, .null, .null, .null, .int 0, .null, .int 0, .int 0, .int 0, .null, .null, .null, .null, .null, .null, .null, .null, .null, .null, .int 0, .int 0, .int 0, .int 0, .null, .null, .null, .null, .null, .null, .null, .int 0, .null, .null, .null, .null, .null, .null])), (q_5, .inl (cI, 6, .inl (fun _ => 0))), (q_6, .inl (cI, 6, .inl (fun _ => 0))), (q_7, .inl (cI, 48, .inl (fun _ => 0))), (q_8, .inl (cI, 12, .inl (fun _ => 0))), (q_9, .inl (cI, 12, .inl (fun _ => 0))), (q_10, .inl (cI, 192, .inl (fun _ => 0))), (q_11, .inl (cI, 192, .inl (fun _ => 0))), (q_12, .inl (cI, 192, .inl (fun _ => 0))), (q_13, .inl (cI, 192, .inl (fun _ => 0))), (q_14, .inl (cI, 2, .inl (fun _ => 0))), (q_15, .inl (cI, 12, .inl (fun _ => 0))), (q_16, .inl (cI, 12, .inl (fun _ => 0))), (q_17, .inl (cI, 96, .inl (fun _ => 0))), (q_18, .inl (cI, 96, .inl (fun _ => 0))), (q_19, .inl (cI, 96, .inl (fun _ => 0))), (q_20, .inl (cZ, 12, .inl (fun _ => 0))), (q_25, .inl (cI, 100, .inl (fun _ => 0))), (q_26, .inl (cI, 6, .inl (fun _ => 0)))] := hV
  refine W.widen (k := 26) (n := 1534) (Nat.le_of_ble_eq_true rfl) (Nat.le_of_ble_eq_true rfl) ?_
  refine x_putF (v := .ref q_26) hB hV hin 0 rfl rfl 31 (by decide) k_776 rfl rfl rfl rfl (Nat.le_of_ble_eq_true rfl) dX7_init_212 (fun H locs hV => ?_)
  have hV : Vx D A s.heap H locs [(h, .inr (7, [.int 0, .ref q_1, .ref q_2, .ref q_3, .ref q_4, .ref q_5, .ref q_6, .ref q_7, .ref q_8, .ref q_9, .ref q_10, .ref q_11, .ref q_12, .ref q_13, .ref q_14, .ref q_15, .ref q_16, .ref q_17, .ref q_18, .ref q_19, .ref q_20, .int 0, .int 0, .ref q_21, .int 0, .ref q_22, .ref q_23, .ref q_24, .ref q_25, .int 0, .int 0, .ref q_26, .null, .null, .int 0, .null, .int 0, .int 0, .int 0, .null, .null, .null, .null, .null, .null, .null, .null, .null, .null, .int 0, .int 0, .int 0, .int 0, .null, .null, .null, .null, .null, .null, .null, .int 0, .null, .null, .null, .null, .null, .null])), (q_5, .inl (cI, 6, .inl (fun _ => 0))), (q_6, .inl (cI, 6, .inl (fun _ => 0))), (q_7, .inl (cI, 48, .inl (fun _ => 0))), (q_8, .inl (cI, 12, .inl (fun _ => 0))), (q_9, .inl (cI, 12, .inl (fun _ => 0))), (q_10, .inl (cI, 192, .inl (fun _ => 0))), (q_11, .inl (cI, 192, .inl (fun _ => 0))), (q_12, .inl (cI, 192, .inl (fun _ => 0))), (q_13, .inl (cI, 192, .inl (fun _ => 0))), (q_14, .inl (cI, 2, .inl (fun _ => 0))), (q_15, .inl (cI, 12, .inl (fun _ => 0))), (q_16, .inl (cI, 12, .inl (fun _ => 0))), (q_17, .inl (cI, 96, .inl (fun _ => 0))), (q_18, .inl (cI, 96, .inl (fun _ => 0))), (q_19, .inl (cI, 96, .inl (fun _ => 0))), (q_20, .inl (cZ, 12, .inl (fun _ => 0))), (q_25, .inl (cI, 100, .inl (fun _ => 0))), (q_26, .inl (cI, 6, .inl (fun _ => 0)))] := hV
  have hV := Vx_sub (w := [(h, .inr (7, [.int 0, .ref q_1, .ref q_2, .ref q_3, .ref q_4, .ref q_5, .ref q_6, .ref q_7, .ref q_8, .ref q_9, .ref q_10, .ref q_11, .ref q_12, .ref q_13, .ref q_14, .ref q_15, .ref q_16, .ref q_17, .ref q_18, .ref q_19, .ref q_20, .int 0, .int 0, .ref q_21, .int 0, .ref q_22, .ref q_23, .ref q_24, .ref q_25, .int 0, .int 0, .ref q_26, .null, .null, .int 0, .null, .int 0, .int 0, .int 0, .null, .null, .null, .null, .null, .null, .null, .null, .null, .null, .int 0, .int 0, .int 0, .int 0, .null, .null, .null, .null, .null, .null, .null, .int 0, .null, .null, .null, .null, .null, .null])), (q_5, .inl (cI, 6, .inl (fun _ => 0))), (q_6, .inl (cI, 6, .inl (fun _ => 0))), (q_7, .inl (cI, 48, .inl (fun _ => 0))), (q_8, .inl (cI, 12, .inl (fun _ => 0))), (q_9, .inl (cI, 12, .inl (fun _ => 0))), (q_10, .inl (cI, 192, .inl (fun _ => 0))), (q_11, .inl (cI, 192, .inl (fun _ => 0))), (q_12, .inl (cI, 192, .inl (fun _ => 0))), (q_13, .inl (cI, 192, .inl (fun _ => 0))), (q_14, .inl (cI, 2, .inl (fun _ => 0))), (q_15, .inl (cI, 12, .inl (fun _ => 0))), (q_16, .inl (cI, 12, .inl (fun _ => 0))), (q_17, .inl (cI, 96, .inl (fun _ => 0))), (q_18, .inl (cI, 96, .inl (fun _ => 0))), (q_19, .inl (cI, 96, .inl (fun _ => 0))), (q_20, .inl (cZ, 12, .inl (fun _ => 0))), (q_25, .inl (cI, 100, .inl (fun _ => 0)))]) hV [0, 1, 2, 3, 4, 5, 6, 7, 8, 9, 10, 11, 12, 13, 14, 15, 16, 17] rfl rfl (by decide)
  refine lv_aload_n hx hb dX7_init_215 rfl (lv_at hl 0 rfl) ?_
  refine lv_bipush (v := 6) hx hb dX7_init_216 (by decide) ?_
  refine x_newi (N' := 6) hB hV k_101 (by decide) (by decide) (by decide) (Nat.le_of_ble_eq_true rfl) (Nat.le_of_ble_eq_true rfl) dX7_init_218 (fun q_27 H hV => ?_)
  have hV : Vx D A s.heap H locs [(h, .inr (7, [.int 0, .ref q_1, .ref q_2, .ref q_3, .ref q_4, .ref q_5, .ref q_6, .ref q_7, .ref q_8, .ref q_9, .ref q_10, .ref q_11, .ref q_12, .ref q_13, .ref q_14, .ref q_15, .ref q_16, .ref q_17, .ref q_18, .ref q_19, .ref q_20, .int 0, .int 0, .ref q_21, .int 0, .ref q_22, .ref q_23, .ref q_24, .ref q_25, .int 0, .int 0, .ref q_26, .null, .null, .int 0, .null, .int 0, .int 0, .int 0, .null, .null, .null, .null, .null, .null, .null, .null, .null, .null, .int 0, .int 0, .int 0, .int 0, .null, .null, .null, .null, .null, .null, .null, .int 0, .null, .null, .null, .null, .null, .null])), (q_5, .inl (cI, 6, .inl (fun _ => 0))), (q_6, .inl (cI, 6, .inl (fun _ => 0))), (q_7, .inl (cI, 48, .inl (fun _ => 0))), (q_8, .inl (cI, 12, .inl (fun _ => 0))), (q_9, .inl (cI, 12, .inl (fun _ => 0))), (q_10, .inl (cI, 192, .inl (fun _ => 0))), (q_11, .inl (cI, 192, .inl (fun _ => 0))), (q_12, .inl (cI, 192, .inl (fun _ => 0))), (q_13, .inl (cI, 192, .inl (fun _ => 0))), (q_14, .inl (cI, 2, .inl (fun _ => 0))), (q_15, .inl (cI, 12, .inl (fun _ => 0))), (q_16, .inl (cI, 12, .inl (fun _ => 0))), (q_17, .inl (cI, 96, .inl (fun _ => 0))), (q_18, .inl (cI, 96, .inl (fun _ => 0))), (q_19, .inl (cI, 96, .inl (fun _ => 0))), (q_20, .inl (cZ, 12, .inl (fun _ => 0))), (q_25, .inl (cI, 100, .inl (fun _ => 0))), (q_27, .inl (cI, 6, .inl (fun _ => 0)))] := hV
  refine W.widen (k := 27) (n := 1540) (Nat.le_of_ble_eq_true rfl) (Nat.le_of_ble_eq_true rfl) ?_
  refine x_putF (v := .ref q_27) hB hV hin 0 rfl rfl 32 (by decide) k_777 rfl rfl rfl rfl (Nat.le_of_ble_eq_true rfl) dX7_init_220 (fun H locs hV => ?_)
  have hV : Vx D A s.heap H locs [(h, .inr (7, [.int 0, .ref q_1, .ref q_2, .ref q_3, .ref q_4, .ref q_5, .ref q_6, .ref q_7, .ref q_8, .ref q_9, .ref q_10, .ref q_11, .ref q_12, .ref q_13, .ref q_14, .ref q_15, .ref q_16, .ref q_17, .ref q_18, .ref q_19, .ref q_20, .int 0, .int 0, .ref q_21, .int 0, .ref q_22, .ref q_23, .ref q_24, .ref q_25, .int 0, .int 0, .ref q_26, .ref q_27, .null, .int 0, .null, .int 0, .int 0, .int 0, .null, .null, .null, .null, .null, .null, .null, .null, .null, .null, .int 0, .int 0, .int 0, .int 0, .null, .null, .null, .null, .null, .null, .null, .int 0, .null, .null, .null, .null, .null, .null])), (q_5, .inl (cI, 6, .inl (fun _ => 0))), (q_6, .inl (cI, 6, .inl (fun _ => 0))), (q_7, .inl (cI, 48, .inl (fun _ => 0))), (q_8, .inl (cI, 12, .inl (fun _ => 0))), (q_9, .inl (cI, 12, .inl (fun _ => 0))), (q_10, .inl (cI, 192, .inl (fun _ => 0))), (q_11, .inl (cI, 192, .inl (fun _ => 0))), (q_12, .inl (cI, 192, .inl (fun _ => 0))), (q_13, .inl (cI, 192, .inl (fun _ => 0))), (q_14, .inl (cI, 2, .inl (fun _ => 0))), (q_15, .inl (cI, 12, .inl (fun _ => 0))), (q_16, .inl (cI, 12, .inl (fun _ => 0))), (q_17, .inl (cI, 96, .inl (fun _ => 0))), (q_18, .inl (cI, 96, .inl (fun _ => 0))), (q_19, .inl (cI, 96, .inl (fun _ => 0))), (q_20, .inl (cZ, 12, .inl (fun _ => 0))), (q_25, .inl (cI, 100, .inl (fun _ => 0))), (q_27, .inl (cI, 6, .inl (fun _ => 0)))] := hV
  have hV := Vx_sub (w := [(h, .inr (7, [.int 0, .ref q_1, .ref q_2, .ref q_3, .ref q_4, .ref q_5, .ref q_6, .ref q_7, .ref q_8, .ref q_9, .ref q_10, .ref q_11, .ref q_12, .ref q_13, .ref q_14, .ref q_15, .ref q_16, .ref q_17, .ref q_18, .ref q_19, .ref q_20, .int 0, .int 0, .ref q_21, .int 0, .ref q_22, .ref q_23, .ref q_24, .ref q_25, .int 0, .int 0, .ref q_26, .ref q_27, .null, .int 0, .null, .int 0, .int 0, .int 0, .null, .null, .null, .null, .null, .null, .null, .null, .null, .null, .int 0, .int 0, .int 0, .int 0, .null, .null, .null, .null, .null, .null, .null, .int 0, .null, .null, .null, .null, .null, .null])), (q_5, .inl (cI, 6, .inl (fun _ => 0))), (q_6, .inl (cI, 6, .inl (fun _ => 0))), (q_7, .inl (cI, 48, .inl (fun _ => 0))), (q_8, .inl (cI, 12, .inl (fun _ => 0))), (q_9, .inl (cI, 12, .inl (fun _ => 0))), (q_10, .inl (cI, 192, .inl (fun _ => 0))), (q_11, .inl (cI, 192, .inl (fun _ => 0))), (q_12, .inl (cI, 192, .inl (fun _ => 0))), (q_13, .inl (cI, 192, .inl (fun _ => 0))), (q_14, .inl (cI, 2, .inl (fun _ => 0))), (q_15, .inl (cI, 12, .inl (fun _ => 0))), (q_16, .inl (cI, 12, .inl (fun _ => 0))), (q_17, .inl (cI, 96, .inl (fun _ => 0))), (q_18, .inl (cI, 96, .inl (fun _ => 0))), (q_19, .inl (cI, 96, .inl (fun _ => 0))), (q_20, .inl (cZ, 12, .inl (fun _ => 0))), (q_25, .inl (cI, 100, .inl (fun _ => 0)))]) hV [0, 1, 2, 3, 4, 5, 6, 7, 8, 9, 10, 11, 12, 13, 14, 15, 16, 17] rfl rfl (by decide)
  refine lv_aload_n hx hb dX7_init_223 rfl (lv_at hl 0 rfl) ?_
  refine lv_bipush (v := 6) hx hb dX7_init_224 (by decide) ?_
  refine x_newi (N' := 6) hB hV k_101 (by decide) (by decide) (by decide) (Nat.le_of_ble_eq_true rfl) (Nat.le_of_ble_eq_true rfl) dX7_init_226 (fun q_28 H hV => ?_)
  have hV : Vx D A s.heap H locs [(h, .inr (7, [.int 0, .ref q_1, .ref q_2, .ref q_3, .ref q_4, .ref q_5, .ref q_6, .ref q_7, .ref q_8, .ref q_9, .ref q_10, .ref q_11, .ref q_12, .ref q_13, .ref q_14, .ref q_15, .ref q_16, .ref q_17, .ref q_18, .ref q_19, .ref q_20, .int 0, .int 0, .ref q_21, .int 0, .ref q_22, .ref q_23, .ref q_24, .ref q_25, .int 0, .int 0, .ref q_26, .ref q_27, .null, .int 0, .null, .int 0, .int 0, .int 0, .null, .null, .null, .null, .null, .null, .null, .null, .null, .null, .int 0, .int 0, .int 0, .int 0, .null, .null, .null, .null, .null, .null, .null, .int 0, .null, .null, .null, .null, .null, .null])), (q_5, .inl (cI, 6, .inl (fun _ => 0))), (q_6, .inl (cI, 6, .inl (fun _ => 0))), (q_7, .inl (cI, 48, .inl (fun _ => 0))), (q_8, .inl (cI, 12, .inl (fun _ => 0))), (q_9, .inl (cI, 12, .inl (fun _ => 0))), (q_10, .inl (cI, 192, .inl (fun _ => 0))), (q_11, .inl (cI, 192, .inl (fun _ => 0))), (q_12, .inl (cI, 192, .inl (fun _ => 0))), (q_13, .inl (cI, 192, .inl (fun _ => 0))), (q_14, .inl (cI, 2, .inl (fun _ => 0))), (q_15, .inl (cI, 12, .inl (fun _ => 0))), (q_16, .inl (cI, 12, .inl (fun _ => 0))), (q_17, .inl (cI, 96, .inl (fun _ => 0))), (q_18, .inl (cI, 96, .inl (fun _ => 0))), (q_19, .inl (cI, 96, .inl (fun _ => 0))), (q_20, .inl (cZ, 12, .inl (fun _ => 0))), (q_25, .inl (cI, 100, .inl (fun _ => 0))), (q_28, .inl (cI, 6, .inl (fun _ => 0)))] := hV
  refine W.widen (k := 28) (n := 1546) (Nat.le_of_ble_eq_true rfl) (Nat.le_of_ble_eq_true rfl) ?_
  refine x_putF (v := .ref q_28) hB hV hin 0 rfl rfl 33 (by decide) k_778 rfl rfl rfl rfl (Nat.le_of_ble_eq_true rfl) dX7_init_228 (fun H locs hV => ?_)
  have hV : Vx D A s.heap H locs [(h, .inr (7, [.int 0, .ref q_1, .ref q_2, .ref q_3, .ref q_4, .ref q_5, .ref q_6, .ref q_7, .ref q_8, .ref q_9, .ref q_10, .ref q_11, .ref q_12, .ref q_13, .ref q_14, .ref q_15, .ref q_16, .ref q_17, .ref q_18, .ref q_19, .ref q_20, .int 0, .int 0, .ref q_21, .int 0, .ref q_22, .ref q_23, .ref q_24, .ref q_25, .int 0, .int 0, .ref q_26, .ref q_27, .ref q_28, .int 0, .null, .int 0, .int 0, .int 0, .null, .null, .null, .null, .null, .null, .null, .null, .null, .null, .int 0, .int 0, .int 0, .int 0, .null, .null, .null, .null, .null, .null, .null, .int 0, .null, .null, .null, .null, .null, .null])), (q_5, .inl (cI, 6, .inl (fun _ => 0))), (q_6, .inl (cI, 6, .inl (fun _ => 0))), (q_7, .inl (cI, 48, .inl (fun _ => 0))), (q_8, .inl (cI, 12, .inl (fun _ => 0))), (q_9, .inl (cI, 12, .inl (fun _ => 0))), (q_10, .inl (cI, 192, .inl (fun _ => 0))), (q_11, .inl (cI, 192, .inl (fun _ => 0))), (q_12, .inl (cI, 192, .inl (fun _ => 0))), (q_13, .inl (cI, 192, .inl (fun _ => 0))), (q_14, .inl (cI, 2, .inl (fun _ => 0))), (q_15, .inl (cI, 12, .inl (fun _ => 0))), (q_16, .inl (cI, 12, .inl (fun _ => 0))), (q_17, .inl (cI, 96, .inl (fun _ => 0))), (q_18, .inl (cI, 96, .inl (fun _ => 0))), (q_19, .inl (cI, 96, .inl (fun _ => 0))), (q_20, .inl (cZ, 12, .inl (fun _ => 0))), (q_25, .inl (cI, 100, .inl (fun _ => 0))), (q_28, .inl (cI, 6, .inl (fun _ => 0)))] := hV
  have hV := Vx_sub (w := [(h, .inr (7, [.int 0, .ref q_1, .ref q_2, .ref q_3, .ref q_4, .ref q_5, .ref q_6, .ref q_7, .ref q_8, .ref q_9, .ref q_10, .ref q_11, .ref q_12, .ref q_13, .ref q_14, .ref q_15, .ref q_16, .ref q_17, .ref q_18, .ref q_19, .ref q_20, .int 0, .int 0, .ref q_21, .int 0, .ref q_22, .ref q_23, .ref q_24, .ref q_25, .int 0, .int 0, .ref q_26, .ref q_27, .ref q_28, .int 0, .null, .int 0, .int 0, .int 0, .null, .null, .null, .null, .null, .null, .null, .null, .null, .null, .int 0, .int 0, .int 0, .int 0, .null, .null, .null, .null, .null, .null, .null, .int 0, .null, .null, .null, .null, .null, .null])), (q_5, .inl (cI, 6, .inl (fun _ => 0))), (q_6, .inl (cI, 6, .inl (fun _ => 0))), (q_7, .inl (cI, 48, .inl (fun _ => 0))), (q_8, .inl (cI, 12, .inl (fun _ => 0))), (q_9, .inl (cI, 12, .inl (fun _ => 0))), (q_10, .inl (cI, 192, .inl (fun _ => 0))), (q_11, .inl (cI, 192, .inl (fun _ => 0))), (q_12, .inl (cI, 192, .inl (fun _ => 0))), (q_13, .inl (cI, 192, .inl (fun _ => 0))), (q_14, .inl (cI, 2, .inl (fun _ => 0))), (q_15, .inl (cI, 12, .inl (fun _ => 0))), (q_16, .inl (cI, 12, .inl (fun _ => 0))), (q_17, .inl (cI, 96, .inl (fun _ => 0))), (q_18, .inl (cI, 96, .inl (fun _ => 0))), (q_19, .inl (cI, 96, .inl (fun _ => 0))), (q_20, .inl (cZ, 12, .inl (fun _ => 0))), (q_25, .inl (cI, 100, .inl (fun _ => 0)))]) hV [0, 1, 2, 3, 4, 5, 6, 7, 8, 9, 10, 11, 12, 13, 14, 15, 16, 17] rfl rfl (by decide)
  refine lv_aload_n hx hb dX7_init_231 rfl (lv_at hl 0 rfl) ?_
  refine lv_iconst (v := 4) hx hb dX7_init_232 (by decide) ?_
  refine x_newi (N' := 4) hB hV k_101 (by decide) (by decide) (by decide) (Nat.le_of_ble_eq_true rfl) (Nat.le_of_ble_eq_true rfl) dX7_init_233 (fun q_29 H hV => ?_)
  have hV : Vx D A s.heap H locs [(h, .inr (7, [.int 0, .ref q_1, .ref q_2, .ref q_3, .ref q_4, .ref q_5, .ref q_6, .ref q_7, .ref q_8, .ref q_9, .ref q_10, .ref q_11, .ref q_12, .ref q_13, .ref q_14, .ref q_15, .ref q_16, .ref q_17, .ref q_18, .ref q_19, .ref q_20, .int 0, .int 0, .ref q_21, .int 0, .ref q_22, .ref q_23, .ref q_24, .ref q_25, .int 0, .int 0, .ref q_26, .ref q_27, .ref q_28, .int 0, .null, .int 0, .int 0, .int 0, .null, .null, .null, .null, .null, .null, .null, .null, .null, .null, .int 0, .int 0, .int 0, .int 0, .null, .null, .null, .null, .null, .null, .null, .int 0, .null, .null, .null, .null, .null, .null])), (q_5, .inl (cI, 6, .inl (fun _ => 0))), (q_6, .inl (cI, 6, .inl (fun _ => 0))), (q_7, .inl (cI, 48, .inl (fun _ => 0))), (q_8, .inl (cI, 12, .inl (fun _ => 0))), (q_9, .inl (cI, 12, .inl (fun _ => 0))), (q_10, .inl (cI, 192, .inl (fun _ => 0))), (q_11, .inl (cI, 192, .inl (fun _ => 0))), (q_12, .inl (cI, 192, .inl (fun _ => 0))), (q_13, .inl (cI, 192, .inl (fun _ => 0))), (q_14, .inl (cI, 2, .inl (fun _ => 0))), (q_15, .inl (cI, 12, .inl (fun _ => 0))), (q_16, .inl (cI, 12, .inl (fun _ => 0))), (q_17, .inl (cI, 96, .inl (fun _ => 0))), (q_18, .inl (cI, 96, .inl (fun _ => 0))), (q_19, .inl (cI, 96, .inl (fun _ => 0))), (q_20, .inl (cZ, 12, .inl (fun _ => 0))), (q_25, .inl (cI, 100, .inl (fun _ => 0))), (q_29, .inl (cI, 4, .inl (fun _ => 0)))] := hV
  refine W.widen (k := 29) (n := 1550) (Nat.le_of_ble_eq_true rfl) (Nat.le_of_ble_eq_true rfl) ?_
  refine lv_dup hx hb dX7_init_235 rfl ?_
  refine lv_iconst (v := 0) hx hb dX7_init_236 (by decide) ?_
  refine lv_iconst (v := 1) hx hb dX7_init_237 (by decide) ?_
  refine x_iast (g := (upd (fun _ => 0) 0 1)) hB hV 18 rfl (by unfold vp_in; decide) rfl dX7_init_238 (fun H locs hV => ?_)
  have hV : Vx D A s.heap H locs [(h, .inr (7, [.int 0, .ref q_1, .ref q_2, .ref q_3, .ref q_4, .ref q_5, .ref q_6, .ref q_7, .ref q_8, .ref q_9, .ref q_10, .ref q_11, .ref q_12, .ref q_13, .ref q_14, .ref q_15, .ref q_16, .ref q_17, .ref q_18, .ref q_19, .ref q_20, .int 0, .int 0, .ref q_21, .int 0, .ref q_22, .ref q_23, .ref q_24, .ref q_25, .int 0, .int 0, .ref q_26, .ref q_27, .ref q_28, .int 0, .null, .int 0, .int 0, .int 0, .null, .null, .null, .null, .null, .null, .null, .null, .null, .null, .int 0, .int 0, .int 0, .int 0, .null, .null, .null, .null, .null, .null, .null, .int 0, .null, .null, .null, .null, .null, .null])), (q_5, .inl (cI, 6, .inl (fun _ => 0))), (q_6, .inl (cI, 6, .inl (fun _ => 0))), (q_7, .inl (cI, 48, .inl (fun _ => 0))), (q_8, .inl (cI, 12, .inl (fun _ => 0))), (q_9, .inl (cI, 12, .inl (fun _ => 0))), (q_10, .inl (cI, 192, .inl (fun _ => 0))), (q_11, .inl (cI, 192, .inl (fun _ => 0))), (q_12, .inl (cI, 192, .inl (fun _ => 0))), (q_13, .inl (cI, 192, .inl (fun _ => 0))), (q_14, .inl (cI, 2, .inl (fun _ => 0))), (q_15, .inl (cI, 12, .inl (fun _ => 0))), (q_16, .inl (cI, 12, .inl (fun _ => 0))), (q_17, .inl (cI, 96, .inl (fun _ => 0))), (q_18, .inl (cI, 96, .inl (fun _ => 0))), (q_19, .inl (cI, 96, .inl (fun _ => 0))), (q_20, .inl (cZ, 12, .inl (fun _ => 0))), (q_25, .inl (cI, 100, .inl (fun _ => 0))), (q_29, .inl (cI, 4, .inl (upd (fun _ => 0) 0 1)))] := hV
  refine lv_dup hx hb dX7_init_239 rfl ?_
  refine lv_iconst (v := 1) hx hb dX7_init_240 (by decide) ?_
  refine lv_iconst (v := 1) hx hb dX7_init_241 (by decide) ?_
  refine x_iast (g := (upd (upd (fun _ => 0) 0 1) 1 1)) hB hV 18 rfl (by unfold vp_in; decide) rfl dX7_init_242 (fun H locs hV => ?_)
  have hV : Vx D A s.heap H locs [(h, .inr (7, [.int 0, .ref q_1, .ref q_2, .ref q_3, .ref q_4, .ref q_5, .ref q_6, .ref q_7, .ref q_8, .ref q_9, .ref q_10, .ref q_11, .ref q_12, .ref q_13, .ref q_14, .ref q_15, .ref q_16, .ref q_17, .ref q_18, .ref q_19, .ref q_20, .int 0, .int 0, .ref q_21, .int 0, .ref q_22, .ref q_23, .ref q_24, .ref q_25, .int 0, .int 0, .ref q_26, .ref q_27, .ref q_28, .int 0, .null, .int 0, .int 0, .int 0, .null, .null, .null, .null, .null, .null, .null, .null, .null, .null, .int 0, .int 0, .int 0, .int 0, .null, .null, .null, .null, .null, .null, .null, .int 0, .null, .null, .null, .null, .null, .null])), (q_5, .inl (cI, 6, .inl (fun _ => 0))), (q_6, .inl (cI, 6, .inl (fun _ => 0))), (q_7, .inl (cI, 48, .inl (fun _ => 0))), (q_8, .inl (cI, 12, .inl (fun _ => 0))), (q_9, .inl (cI, 12, .inl (fun _ => 0))), (q_10, .inl (cI, 192, .inl (fun _ => 0))), (q_11, .inl (cI, 192, .inl (fun _ => 0))), (q_12, .inl (cI, 192, .inl (fun _ => 0))), (q_13, .inl (cI, 192, .inl (fun _ => 0))), (q_14, .inl (cI, 2, .inl (fun _ => 0))), (q_15, .inl (cI, 12, .inl (fun _ => 0))), (q_16, .inl (cI, 12, .inl (fun _ => 0))), (q_17, .inl (cI, 96, .inl (fun _ => 0))), (q_18, .inl (cI, 96, .inl (fun _ => 0))), (q_19, .inl (cI, 96, .inl (fun _ => 0))), (q_20, .inl (cZ, 12, .inl (fun _ => 0))), (q_25, .inl (cI, 100, .inl (fun _ => 0))), (q_29, .inl (cI, 4, .inl (upd (upd (fun _ => 0) 0 1) 1 1)))] := hV
  refine lv_dup hx hb dX7_init_243 rfl ?_
  refine lv_iconst (v := 2) hx hb dX7_init_244 (by decide) ?_
  refine lv_iconst (v := 1) hx hb dX7_init_245 (by decide) ?_
  refine x_iast (g := (upd (upd (upd (fun _ => 0) 0 1) 1 1) 2 1)) hB hV 18 rfl (by unfold vp_in; decide) rfl dX7_init_246 (fun H locs hV => ?_)
  have hV : Vx D A s.heap H locs [(h, .inr (7, [.int 0, .ref q_1, .ref q_2, .ref q_3, .ref q_4, .ref q_5, .ref q_6, .ref q_7, .ref q_8, .ref q_9, .ref q_10, .ref q_11, .ref q_12, .ref q_13, .ref q_14, .ref q_15, .ref q_16, .ref q_17, .ref q_18, .ref q_19, .ref q_20, .int 0, .int 0, .ref q_21, .int 0, .ref q_22, .ref q_23, .ref q_24, .ref q_25, .int 0, .int 0, .ref q_26, .ref q_27, .ref q_28, .int 0, .null, .int 0, .int 0, .int 0, .null, .null, .null, .null, .null, .null, .null, .null, .null, .null, .int 0, .int 0, .int 0, .int 0, .null, .null, .null, .null, .null, .null, .null, .int 0, .null, .null, .null, .null, .null, .null])), (q_5, .inl (cI, 6, .inl (fun _ => 0))), (q_6, .inl (cI, 6, .inl (fun _ => 0))), (q_7, .inl (cI, 48, .inl (fun _ => 0))), (q_8, .inl (cI, 12, .inl (fun _ => 0))), (q_9, .inl (cI, 12, .inl (fun _ => 0))), (q_10, .inl (cI, 192, .inl (fun _ => 0))), (q_11, .inl (cI, 192, .inl (fun _ => 0))), (q_12, .inl (cI, 192, .inl (fun _ => 0))), (q_13, .inl (cI, 192, .inl (fun _ => 0))), (q_14, .inl (cI, 2, .inl (fun _ => 0))), (q_15, .inl (cI, 12, .inl (fun _ => 0))), (q_16, .inl (cI, 12, .inl (fun _ => 0))), (q_17, .inl (cI, 96, .inl (fun _ => 0))), (q_18, .inl (cI, 96, .inl (fun _ => 0))), (q_19, .inl (cI, 96, .inl (fun _ => 0))), (q_20, .inl (cZ, 12, .inl (fun _ => 0))), (q_25, .inl (cI, 100, .inl (fun _ => 0))), (q_29, .inl (cI, 4, .inl (upd (upd (upd (fun _ => 0) 0 1) 1 1) 2 1)))] := hV
  refine lv_dup hx hb dX7_init_247 rfl ?_
  refine lv_iconst (v := 3) hx hb dX7_init_248 (by decide) ?_
  refine lv_iconst (v := 1) hx hb dX7_init_249 (by decide) ?_
  refine x_iast (g := (upd (upd (upd (upd (fun _ => 0) 0 1) 1 1) 2 1) 3 1)) hB hV 18 rfl (by unfold vp_in; decide) rfl dX7_init_250 (fun H locs hV => ?_)
  have hV : Vx D A s.heap H locs [(h, .inr (7, [.int 0, .ref q_1, .ref q_2, .ref q_3, .ref q_4, .ref q_5, .ref q_6, .ref q_7, .ref q_8, .ref q_9, .ref q_10, .ref q_11, .ref q_12, .ref q_13, .ref q_14, .ref q_15, .ref q_16, .ref q_17, .ref q_18, .ref q_19, .ref q_20, .int 0, .int 0, .ref q_21, .int 0, .ref q_22, .ref q_23, .ref q_24, .ref q_25, .int 0, .int 0, .ref q_26, .ref q_27, .ref q_28, .int 0, .null, .int 0, .int 0, .int 0, .null, .null, .null, .null, .null, .null, .null, .null, .null, .null, .int 0, .int 0, .int 0, .int 0, .null, .null, .null, .null, .null, .null, .null, .int 0, .null, .null, .null, .null, .null, .null])), (q_5, .inl (cI, 6, .inl (fun _ => 0))), (q_6, .inl (cI, 6, .inl (fun _ => 0))), (q_7, .inl (cI, 48, .inl (fun _ => 0))), (q_8, .inl (cI, 12, .inl (fun _ => 0))), (q_9, .inl (cI, 12, .inl (fun _ => 0))), (q_10, .inl (cI, 192, .inl (fun _ => 0))), (q_11, .inl (cI, 192, .inl (fun _ => 0))), (q_12, .inl (cI, 192, .inl (fun _ => 0))), (q_13, .inl (cI, 192, .inl (fun _ => 0))), (q_14, .inl (cI, 2, .inl (fun _ => 0))), (q_15, .inl (cI, 12, .inl (fun _ => 0))), (q_16, .inl (cI, 12, .inl (fun _ => 0))), (q_17, .inl (cI, 96, .inl (fun _ => 0))), (q_18, .inl (cI, 96, .inl (fun _ => 0))), (q_19, .inl (cI, 96, .inl (fun _ => 0))), (q_20, .inl (cZ, 12, .inl (fun _ => 0))), (q_25, .inl (cI, 100, .inl (fun _ => 0))), (q_29, .inl (cI, 4, .inl (upd (upd (upd (upd (fun _ => 0) 0 1) 1 1) 2 1) 3 1)))] := hV
  refine x_putF (v := .ref q_29) hB hV hin 0 rfl rfl 35 (by decide) k_780 rfl rfl rfl rfl (Nat.le_of_ble_eq_true rfl) dX7_init_251 (fun H locs hV => ?_)
  have hV : Vx D A s.heap H locs [(h, .inr (7, [.int 0, .ref q_1, .ref q_2, .ref q_3, .ref q_4, .ref q_5, .ref q_6, .ref q_7, .ref q_8, .ref q_9, .ref q_10, .ref q_11, .ref q_12, .ref q_13, .ref q_14, .ref q_15, .ref q_16, .ref q_17, .ref q_18, .ref q_19, .ref q_20, .int 0, .int 0, .ref q_21, .int 0, .ref q_22, .ref q_23, .ref q_24, .ref q_25, .int 0, .int 0, .ref q_26, .ref q_27, .ref q_28, .int 0, .ref q_29, .int 0, .int 0, .int 0, .null, .null, .null, .null, .null, .null, .null, .null, .null, .null, .int 0, .int 0, .int 0, .int 0, .null, .null, .null, .null, .null, .null, .null, .int 0, .null, .null, .null, .null, .null, .null])), (q_5, .inl (cI, 6, .inl (fun _ => 0))), (q_6, .inl (cI, 6, .inl (fun _ => 0))), (q_7, .inl (cI, 48, .inl (fun _ => 0))), (q_8, .inl (cI, 12, .inl (fun _ => 0))), (q_9, .inl (cI, 12, .inl (fun _ => 0))), (q_10, .inl (cI, 192, .inl (fun _ => 0))), (q_11, .inl (cI, 192, .inl (fun _ => 0))), (q_12, .inl (cI, 192, .inl (fun _ => 0))), (q_13, .inl (cI, 192, .inl (fun _ => 0))), (q_14, .inl (cI, 2, .inl (fun _ => 0))), (q_15, .inl (cI, 12, .inl (fun _ => 0))), (q_16, .inl (cI, 12, .inl (fun _ => 0))), (q_17, .inl (cI, 96, .inl (fun _ => 0))), (q_18, .inl (cI, 96, .inl (fun _ => 0))), (q_19, .inl (cI, 96, .inl (fun _ => 0))), (q_20, .inl (cZ, 12, .inl (fun _ => 0))), (q_25, .inl (cI, 100, .inl (fun _ => 0))), (q_29, .inl (cI, 4, .inl (upd (upd (upd (upd (fun _ => 0) 0 1) 1 1) 2 1) 3 1)))] := hV
  refine lv_aload_n hx hb dX7_init_254 rfl (lv_at hl 0 rfl) ?_
  refine lv_bipush (v := 8) hx hb dX7_init_255 (by decide) ?_
  refine x_newi (N' := 8) hB hV k_101 (by decide) (by decide) (by decide) (Nat.le_of_ble_eq_true rfl) (Nat.le_of_ble_eq_true rfl) dX7_init_257 (fun q_30 H hV => ?_)
  have hV : Vx D A s.heap H locs [(h, .inr (7, [.int 0, .ref q_1, .ref q_2, .ref q_3, .ref q_4, .ref q_5, .ref q_6, .ref q_7, .ref q_8, .ref q_9, .ref q_10, .ref q_11, .ref q_12, .ref q_13, .ref q_14, .ref q_15, .ref q_16, .ref q_17, .ref q_18, .ref q_19, .ref q_20, .int 0, .int 0, .ref q_21, .int 0, .ref q_22, .ref q_23, .ref q_24, .ref q_25, .int 0, .int 0, .ref q_26, .ref q_27, .ref q_28, .int 0, .ref q_29, .int 0, .int 0, .int 0, .null, .null, .null, .null, .null, .null, .null, .null, .null, .null, .int 0, .int 0, .int 0, .int 0, .null, .null, .null, .null, .null, .null, .null, .int 0, .null, .null, .null, .null, .null, .null])), (q_5, .inl (cI, 6, .inl (fun _ => 0))), (q_6, .inl (cI, 6, .inl (fun _ => 0))), (q_7, .inl (cI, 48, .inl (fun _ => 0))), (q_8, .inl (cI, 12, .inl (fun _ => 0))), (q_9, .inl (cI, 12, .inl (fun _ => 0))), (q_10, .inl (cI, 192, .inl (fun _ => 0))), (q_11, .inl (cI, 192, .inl (fun _ => 0))), (q_12, .inl (cI, 192, .inl (fun _ => 0))), (q_13, .inl (cI, 192, .inl (fun _ => 0))), (q_14, .inl (cI, 2, .inl (fun _ => 0))), (q_15, .inl (cI, 12, .inl (fun _ => 0))), (q_16, .inl (cI, 12, .inl (fun _ => 0))), (q_17, .inl (cI, 96, .inl (fun _ => 0))), (q_18, .inl (cI, 96, .inl (fun _ => 0))), (q_19, .inl (cI, 96, .inl (fun _ => 0))), (q_20, .inl (cZ, 12, .inl (fun _ => 0))), (q_25, .inl (cI, 100, .inl (fun _ => 0))), (q_29, .inl (cI, 4, .inl (upd (upd (upd (upd (fun _ => 0) 0 1) 1 1) 2 1) 3 1))), (q_30, .inl (cI, 8, .inl (fun _ => 0)))] := hV
  refine W.widen (k := 30) (n := 1558) (Nat.le_of_ble_eq_true rfl) (Nat.le_of_ble_eq_true rfl) ?_
  refine x_putF (v := .ref q_30) hB hV hin 0 rfl rfl 39 (by decide) k_784 rfl rfl rfl rfl (Nat.le_of_ble_eq_true rfl) dX7_init_259 (fun H locs hV => ?_)
  have hV : Vx D A s.heap H locs [(h, .inr (7, [.int 0, .ref q_1, .ref q_2, .ref q_3, .ref q_4, .ref q_5, .ref q_6, .ref q_7, .ref q_8, .ref q_9, .ref q_10, .ref q_11, .ref q_12, .ref q_13, .ref q_14, .ref q_15, .ref q_16, .ref q_17, .ref q_18, .ref q_19, .ref q_20, .int 0, .int 0, .ref q_21, .int 0, .ref q_22, .ref q_23, .ref q_24, .ref q_25, .int 0, .int 0, .ref q_26, .ref q_27, .ref q_28, .int 0, .ref q_29, .int 0, .int 0, .int 0, .ref q_30, .null, .null, .null, .null, .null, .null, .null, .null, .null, .int 0, .int 0, .int 0, .int 0, .null, .null, .null, .null, .null, .null, .null, .int 0, .null, .null, .null, .null, .null, .null])), (q_5, .inl (cI, 6, .inl (fun _ => 0))), (q_6, .inl (cI, 6, .inl (fun _ => 0))), (q_7, .inl (cI, 48, .inl (fun _ => 0))), (q_8, .inl (cI, 12, .inl (fun _ => 0))), (q_9, .inl (cI, 12, .inl (fun _ => 0))), (q_10, .inl (cI, 192, .inl (fun _ => 0))), (q_11, .inl (cI, 192, .inl (fun _ => 0))), (q_12, .inl (cI, 192, .inl (fun _ => 0))), (q_13, .inl (cI, 192, .inl (fun _ => 0))), (q_14, .inl (cI, 2, .inl (fun _ => 0))), (q_15, .inl (cI, 12, .inl (fun _ => 0))), (q_16, .inl (cI, 12, .inl (fun _ => 0))), (q_17, .inl (cI, 96, .inl (fun _ => 0))), (q_18, .inl (cI, 96, .inl (fun _ => 0))), (q_19, .inl (cI, 96, .inl (fun _ => 0))), (q_20, .inl (cZ, 12, .inl (fun _ => 0))), (q_25, .inl (cI, 100, .inl (fun _ => 0))), (q_29, .inl (cI, 4, .inl (upd (upd (upd (upd (fun _ => 0) 0 1) 1 1) 2 1) 3 1))), (q_30, .inl (cI, 8, .inl (fun _ => 0)))] := hV
  refine lv_aload_n hx hb dX7_init_262 rfl (lv_at hl 0 rfl) ?_
  refine lv_bipush (v := 8) hx hb dX7_init_263 (by decide) ?_
  refine x_newi (N' := 8) hB hV k_101 (by decide) (by decide) (by decide) (Nat.le_of_ble_eq_true rfl) (Nat.le_of_ble_eq_true rfl) dX7_init_265 (fun q_31 H hV => ?_)
  have hV : Vx D A s.heap H locs [(h, .inr (7, [.int 0, .ref q_1, .ref q_2, .ref q_3, .ref q_4, .ref q_5, .ref q_6, .ref q_7, .ref q_8, .ref q_9, .ref q_10, .ref q_11, .ref q_12, .ref q_13, .ref q_14, .ref q_15, .ref q_16, .ref q_17, .ref q_18, .ref q_19, .ref q_20, .int 0, .int 0, .ref q_21, .int 0, .ref q_22, .ref q_23, .ref q_24, .ref q_25, .int 0, .int 0, .ref q_26, .ref q_27, .ref q_28, .int 0, .ref q_29, .int 0, .int 0, .int 0, .ref q_30, .null, .null, .null, .null, .null, .null, .null, .null, .null, .int 0, .int 0, .int 0, .int 0, .null, .null, .null, .null, .null, .null, .null, .int 0, .null, .null, .null, .null, .null, .null])), (q_5, .inl (cI, 6, .inl (fun _ => 0))), (q_6, .inl (cI, 6, .inl (fun _ => 0))), (q_7, .inl (cI, 48, .inl (fun _ => 0))), (q_8, .inl (cI, 12, .inl (fun _ => 0))), (q_9, .inl (cI, 12, .inl (fun _ => 0))), (q_10, .inl (cI, 192, .inl (fun _ => 0))), (q_11, .inl (cI, 192, .inl (fun _ => 0))), (q_12, .inl (cI, 192, .inl (fun _ => 0))), (q_13, .inl (cI, 192, .inl (fun _ => 0))), (q_14, .inl (cI, 2, .inl (fun _ => 0))), (q_15, .inl (cI, 12, .inl (fun _ => 0))), (q_16, .inl (cI, 12, .inl (fun _ => 0))), (q_17, .inl (cI, 96, .inl (fun _ => 0))), (q_18, .inl (cI, 96, .inl (fun _ => 0))), (q_19, .inl (cI, 96, .inl (fun _ => 0))), (q_20, .inl (cZ, 12, .inl (fun _ => 0))), (q_25, .inl (cI, 100, .inl (fun _ => 0))), (q_29, .inl (cI, 4, .inl (upd (upd (upd (upd (fun _ => 0) 0 1) 1 1) 2 1) 3 1))), (q_30, .inl (cI, 8, .inl (fun _ => 0))), (q_31, .inl (cI, 8, .inl (fun _ => 0)))] := hV
  refine W.widen (k := 31) (n := 1566) (Nat.le_of_ble_eq_true rfl) (Nat.le_of_ble_eq_true rfl) ?_
  refine x_putF (v := .ref q_31) hB hV hin 0 rfl rfl 40 (by decide) k_785 rfl rfl rfl rfl (Nat.le_of_ble_eq_true rfl) dX7_init_267 (fun H locs hV => ?_)
  have hV : Vx D A s.heap H locs [(h, .inr (7, [.int 0, .ref q_1, .ref q_2, .ref q_3, .ref q_4, .ref q_5, .ref q_6, .ref q_7, .ref q_8, .ref q_9, .ref q_10, .ref q_11, .ref q_12, .ref q_13, .ref q_14, .ref q_15, .ref q_16, .ref q_17, .ref q_18, .ref q_19, .ref q_20, .int 0, .int 0, .ref q_21, .int 0, .ref q_22, .ref q_23, .ref q_24, .ref q_25, .int 0, .int 0, .ref q_26, .ref q_27, .ref q_28, .int 0, .ref q_29, .int 0, .int 0, .int 0, .ref q_30, .ref q_31, .null, .null, .null, .null, .null, .null, .null, .null, .int 0, .int 0, .int 0, .int 0, .null, .null, .null, .null, .null, .null, .null, .int 0, .null, .null, .null, .null, .null, .null])), (q_5, .inl (cI, 6, .inl (fun _ => 0))), (q_6, .inl (cI, 6, .inl (fun _ => 0))), (q_7, .inl (cI, 48, .inl (fun _ => 0))), (q_8, .inl (cI, 12, .inl (fun _ => 0))), (q_9, .inl (cI, 12, .inl (fun _ => 0))), (q_10, .inl (cI, 192, .inl (fun _ => 0))), (q_11, .inl (cI, 192, .inl (fun _ => 0))), (q_12, .inl (cI, 192, .inl (fun _ => 0))), (q_13, .inl (cI, 192, .inl (fun _ => 0))), (q_14, .inl (cI, 2, .inl (fun _ => 0))), (q_15, .inl (cI, 12, .inl (fun _ => 0))), (q_16, .inl (cI, 12, .inl (fun _ => 0))), (q_17, .inl (cI, 96, .inl (fun _ => 0))), (q_18, .inl (cI, 96, .inl (fun _ => 0))), (q_19, .inl (cI, 96, .inl (fun _ => 0))), (q_20, .inl (cZ, 12, .inl (fun _ => 0))), (q_25, .inl (cI, 100, .inl (fun _ => 0))), (q_29, .inl (cI, 4, .inl (upd (upd (upd (upd (fun _ => 0) 0 1) 1 1) 2 1) 3 1))), (q_30, .inl (cI, 8, .inl (fun _ => 0))), (q_31, .inl (cI, 8, .inl (fun _ => 0)))] := hV
  refine lv_aload_n hx hb dX7_init_270 rfl (lv_at hl 0 rfl) ?_
  refine lv_bipush (v := 8) hx hb dX7_init_271 (by decide) ?_
  refine x_newi (N' := 8) hB hV k_101 (by decide) (by decide) (by decide) (Nat.le_of_ble_eq_true rfl) (Nat.le_of_ble_eq_true rfl) dX7_init_273 (fun q_32 H hV => ?_)
  have hV : Vx D A s.heap H locs [(h, .inr (7, [.int 0, .ref q_1, .ref q_2, .ref q_3, .ref q_4, .ref q_5, .ref q_6, .ref q_7, .ref q_8, .ref q_9, .ref q_10, .ref q_11, .ref q_12, .ref q_13, .ref q_14, .ref q_15, .ref q_16, .ref q_17, .ref q_18, .ref q_19, .ref q_20, .int 0, .int 0, .ref q_21, .int 0, .ref q_22, .ref q_23, .ref q_24, .ref q_25, .int 0, .int 0, .ref q_26, .ref q_27, .ref q_28, .int 0, .ref q_29, .int 0, .int 0, .int 0, .ref q_30, .ref q_31, .null, .null, .null, .null, .null, .null, .null, .null, .int 0, .int 0, .int 0, .int 0, .null, .null, .null, .null, .null, .null, .null, .int 0, .null, .null, .null, .null, .null, .null])), (q_5, .inl (cI, 6, .inl (fun _ => 0))), (q_6, .inl (cI, 6, .inl (fun _ => 0))), (q_7, .inl (cI, 48, .inl (fun _ => 0))), (q_8, .inl (cI, 12, .inl (fun _ => 0))), (q_9, .inl (cI, 12, .inl (fun _ => 0))), (q_10, .inl (cI, 192, .inl (fun _ => 0))), (q_11, .inl (cI, 192, .inl (fun _ => 0))), (q_12, .inl (cI, 192, .inl (fun _ => 0))), (q_13, .inl (cI, 192, .inl (fun _ => 0))), (q_14, .inl (cI, 2, .inl (fun _ => 0))), (q_15, .inl (cI, 12, .inl (fun _ => 0))), (q_16, .inl (cI, 12, .inl (fun _ => 0))), (q_17, .inl (cI, 96, .inl (fun _ => 0))), (q_18, .inl (cI, 96, .inl (fun _ => 0))), (q_19, .inl (cI, 96, .inl (fun _ => 0))), (q_20, .inl (cZ, 12, .inl (fun _ => 0))), (q_25, .inl (cI, 100, .inl (fun _ => 0))), (q_29, .inl (cI, 4, .inl (upd (upd (upd (upd (fun _ => 0) 0 1) 1 1) 2 1) 3 1))), (q_30, .inl (cI, 8, .inl (fun _ => 0))), (q_31, .inl (cI, 8, .inl (fun _ => 0))), (q_32, .inl (cI, 8, .inl (fun _ => 0)))] := hV
  refine W.widen (k := 32) (n := 1574) (Nat.le_of_ble_eq_true rfl) (Nat.le_of_ble_eq_true rfl) ?_
  refine x_putF (v := .ref q_32) hB hV hin 0 rfl rfl 41 (by decide) k_786 rfl rfl rfl rfl (Nat.le_of_ble_eq_true rfl) dX7_init_275 (fun H locs hV => ?_)
  have hV : Vx D A s.heap H locs [(h, .inr (7, [.int 0, .ref q_1, .ref q_2, .ref q_3, .ref q_4, .ref q_5, .ref q_6, .ref q_7, .ref q_8, .ref q_9, .ref q_10, .ref q_11, .ref q_12, .ref q_13, .ref q_14, .ref q_15, .ref q_16, .ref q_17, .ref q_18, .ref q_19, .ref q_20, .int 0, .int 0, .ref q_21, .int 0, .ref q_22, .ref q_23, .ref q_24, .ref q_25, .int 0, .int 0, .ref q_26, .ref q_27, .ref q_28, .int 0, .ref q_29, .int 0, .int 0, .int 0, .ref q_30, .ref q_31, .ref q_32, .null, .null, .null, .null, .null, .null, .null, .int 0, .int 0, .int 0, .int 0, .null, .null, .null, .null, .null, .null, .null, .int 0, .null, .null, .null, .null, .null, .null])), (q_5, .inl (cI, 6, .inl (fun _ => 0))), (q_6, .inl (cI, 6, .inl (fun _ => 0))), (q_7, .inl (cI, 48, .inl (fun _ => 0))), (q_8, .inl (cI, 12, .inl (fun _ => 0))), (q_9, .inl (cI, 12, .inl (fun _ => 0))), (q_10, .inl (cI, 192, .inl (fun _ => 0))), (q_11, .inl (cI, 192, .inl (fun _ => 0))), (q_12, .inl (cI, 192, .inl (fun _ => 0))), (q_13, .inl (cI, 192, .inl (fun _ => 0))), (q_14, .inl (cI, 2, .inl (fun _ => 0))), (q_15, .inl (cI, 12, .inl (fun _ => 0))), (q_16, .inl (cI, 12, .inl (fun _ => 0))), (q_17, .inl (cI, 96, .inl (fun _ => 0))), (q_18, .inl (cI, 96, .inl (fun _ => 0))), (q_19, .inl (cI, 96, .inl (fun _ => 0))), (q_20, .inl (cZ, 12, .inl (fun _ => 0))), (q_25, .inl (cI, 100, .inl (fun _ => 0))), (q_29, .inl (cI, 4, .inl (upd (upd (upd (upd (fun _ => 0) 0 1) 1 1) 2 1) 3 1))), (q_30, .inl (cI, 8, .inl (fun _ => 0))), (q_31, .inl (cI, 8, .inl (fun _ => 0))), (q_32, .inl (cI, 8, .inl (fun _ => 0)))] := hV
  refine lv_aload_n hx hb dX7_init_278 rfl (lv_at hl 0 rfl) ?_
  refine lv_bipush (v := 24) hx hb dX7_init_279 (by decide) ?_
  refine x_newi (N' := 24) hB hV k_101 (by decide) (by decide) (by decide) (Nat.le_of_ble_eq_true rfl) (Nat.le_of_ble_eq_true rfl) dX7_init_281 (fun q_33 H hV => ?_)
  have hV : Vx D A s.heap H locs [(h, .inr (7, [.int 0, .ref q_1, .ref q_2, .ref q_3, .ref q_4, .ref q_5, .ref q_6, .ref q_7, .ref q_8, .ref q_9, .ref q_10, .ref q_11, .ref q_12, .ref q_13, .ref q_14, .ref q_15, .ref q_16, .ref q_17, .ref q_18, .ref q_19, .ref q_20, .int 0, .int 0, .ref q_21, .int 0, .ref q_22, .ref q_23, .ref q_24, .ref q_25, .int 0, .int 0, .ref q_26, .ref q_27, .ref q_28, .int 0, .ref q_29, .int 0, .int 0, .int 0, .ref q_30, .ref q_31, .ref q_32, .null, .null, .null, .null, .null, .null, .null, .int 0, .int 0, .int 0, .int 0, .null, .null, .null, .null, .null, .null, .null, .int 0, .null, .null, .null, .null, .null, .null])), (q_5, .inl (cI, 6, .inl (fun _ => 0))), (q_6, .inl (cI, 6, .inl (fun _ => 0))), (q_7, .inl (cI, 48, .inl (fun _ => 0))), (q_8, .inl (cI, 12, .inl (fun _ => 0))), (q_9, .inl (cI, 12, .inl (fun _ => 0))), (q_10, .inl (cI, 192, .inl (fun _ => 0))), (q_11, .inl (cI, 192, .inl (fun _ => 0))), (q_12, .inl (cI, 192, .inl (fun _ => 0))), (q_13, .inl (cI, 192, .inl (fun _ => 0))), (q_14, .inl (cI, 2, .inl (fun _ => 0))), (q_15, .inl (cI, 12, .inl (fun _ => 0))), (q_16, .inl (cI, 12, .inl (fun _ => 0))), (q_17, .inl (cI, 96, .inl (fun _ => 0))), (q_18, .inl (cI, 96, .inl (fun _ => 0))), (q_19, .inl (cI, 96, .inl (fun _ => 0))), (q_20, .inl (cZ, 12, .inl (fun _ => 0))), (q_25, .inl (cI, 100, .inl (fun _ => 0))), (q_29, .inl (cI, 4, .inl (upd (upd (upd (upd (fun _ => 0) 0 1) 1 1) 2 1) 3 1))), (q_30, .inl (cI, 8, .inl (fun _ => 0))), (q_31, .inl (cI, 8, .inl (fun _ => 0))), (q_32, .inl (cI, 8, .inl (fun _ => 0))), (q_33, .inl (cI, 24, .inl (fun _ => 0)))] := hV
  refine W.widen (k := 33) (n := 1598) (Nat.le_of_ble_eq_true rfl) (Nat.le_of_ble_eq_true rfl) ?_
  refine lv_dup hx hb dX7_init_283 rfl ?_
  refine lv_iconst (v := 0) hx hb dX7_init_284 (by decide) ?_
  refine lv_bipush (v := 115) hx hb dX7_init_285 (by decide) ?_
  refine x_iast (g := (upd (fun _ => 0) 0 115)) hB hV 22 rfl (by unfold vp_in; decide) rfl dX7_init_287 (fun H locs hV => ?_)
  have hV : Vx D A s.heap H locs [(h, .inr (7, [.int 0, .ref q_1, .ref q_2, .ref q_3, .ref q_4, .ref q_5, .ref q_6, .ref q_7, .ref q_8, .ref q_9, .ref q_10, .ref q_11, .ref q_12, .ref q_13, .ref q_14, .ref q_15, .ref q_16, .ref q_17, .ref q_18, .ref q_19, .ref q_20, .int 0, .int 0, .ref q_21, .int 0, .ref q_22, .ref q_23, .ref q_24, .ref q_25, .int 0, .int 0, .ref q_26, .ref q_27, .ref q_28, .int 0, .ref q_29, .int 0, .int 0, .int 0, .ref q_30, .ref q_31, .ref q_32, .null, .null, .null, .null, .null, .null, .null, .int 0, .int 0, .int 0, .int 0, .null, .null, .null, .null, .null, .null, .null, .int 0, .null, .null, .null, .null, .null, .null])), (q_5, .inl (cI, 6, .inl (fun _ => 0))), (q_6, .inl (cI, 6, .inl (fun _ => 0))), (q_7, .inl (cI, 48, .inl (fun _ => 0))), (q_8, .inl (cI, 12, .inl (fun _ => 0))), (q_9, .inl (cI, 12, .inl (fun _ => 0))), (q_10, .inl (cI, 192, .inl (fun _ => 0))), (q_11, .inl (cI, 192, .inl (fun _ => 0))), (q_12, .inl (cI, 192, .inl (fun _ => 0))), (q_13, .inl (cI, 192, .inl (fun _ => 0))), (q_14, .inl (cI, 2, .inl (fun _ => 0))), (q_15, .inl (cI, 12, .inl (fun _ => 0))), (q_16, .inl (cI, 12, .inl (fun _ => 0))), (q_17, .inl (cI, 96, .inl (fun _ => 0))), (q_18, .inl (cI, 96, .inl (fun _ => 0))), (q_19, .inl (cI, 96, .inl (fun _ => 0))), (q_20, .inl (cZ, 12, .inl (fun _ => 0))), (q_25, .inl (cI, 100, .inl (fun _ => 0))), (q_29, .inl (cI, 4, .inl (upd (upd (upd (upd (fun _ => 0) 0 1) 1 1) 2 1) 3 1))), (q_30, .inl (cI, 8, .inl (fun _ => 0))), (q_31, .inl (cI, 8, .inl (fun _ => 0))), (q_32, .inl (cI, 8, .inl (fun _ => 0))), (q_33, .inl (cI, 24, .inl (upd (fun _ => 0) 0 115)))] := hV
  refine lv_dup hx hb dX7_init_288 rfl ?_
  refine lv_iconst (v := 1) hx hb dX7_init_289 (by decide) ?_
  refine lv_bipush (v := 101) hx hb dX7_init_290 (by decide) ?_
  refine x_iast (g := (upd (upd (fun _ => 0) 0 115) 1 101)) hB hV 22 rfl (by unfold vp_in; decide) rfl dX7_init_292 (fun H locs hV => ?_)
  have hV : Vx D A s.heap H locs [(h, .inr (7, [.int 0, .ref q_1, .ref q_2, .ref q_3, .ref q_4, .ref q_5, .ref q_6, .ref q_7, .ref q_8, .ref q_9, .ref q_10, .ref q_11, .ref q_12, .ref q_13, .ref q_14, .ref q_15, .ref q_16, .ref q_17, .ref q_18, .ref q_19, .ref q_20, .int 0, .int 0, .ref q_21, .int 0, .ref q_22, .ref q_23, .ref q_24, .ref q_25, .int 0, .int 0, .ref q_26, .ref q_27, .ref q_28, .int 0, .ref q_29, .int 0, .int 0, .int 0, .ref q_30, .ref q_31, .ref q_32, .null, .null, .null, .null, .null, .null, .null, .int 0, .int 0, .int 0, .int 0, .null, .null, .null, .null, .null, .null, .null, .int 0, .null, .null, .null, .null, .null, .null])), (q_5, .inl (cI, 6, .inl (fun _ => 0))), (q_6, .inl (cI, 6, .inl (fun _ => 0))), (q_7, .inl (cI, 48, .inl (fun _ => 0))), (q_8, .inl (cI, 12, .inl (fun _ => 0))), (q_9, .inl (cI, 12, .inl (fun _ => 0))), (q_10, .inl (cI, 192, .inl (fun _ => 0))), (q_11, .inl (cI, 192, .inl (fun _ => 0))), (q_12, .inl (cI, 192, .inl (fun _ => 0))), (q_13, .inl (cI, 192, .inl (fun _ => 0))), (q_14, .inl (cI, 2, .inl (fun _ => 0))), (q_15, .inl (cI, 12, .inl (fun _ => 0))), (q_16, .inl (cI, 12, .inl (fun _ => 0))), (q_17, .inl (cI, 96, .inl (fun _ => 0))), (q_18, .inl (cI, 96, .inl (fun _ => 0))), (q_19, .inl (cI, 96, .inl (fun _ => 0))), (q_20, .inl (cZ, 12, .inl (fun _ => 0))), (q_25, .inl (cI, 100, .inl (fun _ => 0))), (q_29, .inl (cI, 4, .inl (upd (upd (upd (upd (fun _ => 0) 0 1) 1 1) 2 1) 3 1))), (q_30, .inl (cI, 8, .inl (fun _ => 0))), (q_31, .inl (cI, 8, .inl (fun _ => 0))), (q_32, .inl (cI, 8, .inl (fun _ => 0))), (q_33, .inl (cI, 24, .inl (upd (upd (fun _ => 0) 0 115) 1 101)))] := hV
  refine lv_dup hx hb dX7_init_293 rfl ?_
  refine lv_iconst (v := 2) hx hb dX7_init_294 (by decide) ?_
  refine lv_bipush (v := 116) hx hb dX7_init_295 (by decide) ?_
  refine x_iast (g := (upd (upd (upd (fun _ => 0) 0 115) 1 101) 2 116)) hB hV 22 rfl (by unfold vp_in; decide) rfl dX7_init_297 (fun H locs hV => ?_)
  have hV : Vx D A s.heap H locs [(h, .inr (7, [.int 0, .ref q_1, .ref q_2, .ref q_3, .ref q_4, .ref q_5, .ref q_6, .ref q_7, .ref q_8, .ref q_9, .ref q_10, .ref q_11, .ref q_12, .ref q_13, .ref q_14, .ref q_15, .ref q_16, .ref q_17, .ref q_18, .ref q_19, .ref q_20, .int 0, .int 0, .ref q_21, .int 0, .ref q_22, .ref q_23, .ref q_24, .ref q_25, .int 0, .int 0, .ref q_26, .ref q_27, .ref q_28, .int 0, .ref q_29, .int 0, .int 0, .int 0, .ref q_30, .ref q_31, .ref q_32, .null, .null, .null, .null, .null, .null, .null, .int 0, .int 0, .int 0, .int 0, .null, .null, .null, .null, .null, .null, .null, .int 0, .null, .null, .null, .null, .null, .null])), (q_5, .inl (cI, 6, .inl (fun _ => 0))), (q_6, .inl (cI, 6, .inl (fun _ => 0))), (q_7, .inl (cI, 48, .inl (fun _ => 0))), (q_8, .inl (cI, 12, .inl (fun _ => 0))), (q_9, .inl (cI, 12, .inl (fun _ => 0))), (q_10, .inl (cI, 192, .inl (fun _ => 0))), (q_11, .inl (cI, 192, .inl (fun _ => 0))), (q_12, .inl (cI, 192, .inl (fun _ => 0))), (q_13, .inl (cI, 192, .inl (fun _ => 0))), (q_14, .inl (cI, 2, .inl (fun _ => 0))), (q_15, .inl (cI, 12, .inl (fun _ => 0))), (q_16, .inl (cI, 12, .inl (fun _ => 0))), (q_17, .inl (cI, 96, .inl (fun _ => 0))), (q_18, .inl (cI, 96, .inl (fun _ => 0))), (q_19, .inl (cI, 96, .inl (fun _ => 0))), (q_20, .inl (cZ, 12, .inl (fun _ => 0))), (q_25, .inl (cI, 100, .inl (fun _ => 0))), (q_29, .inl (cI, 4, .inl (upd (upd (upd (upd (fun _ => 0) 0 1) 1 1) 2 1) 3 1))), (q_30, .inl (cI, 8, .inl (fun _ => 0))), (q_31, .inl (cI, 8, .inl (fun _ => 0))), (q_32, .inl (cI, 8, .inl (fun _ => 0))), (q_33, .inl (cI, 24, .inl (upd (upd (upd (fun _ => 0) 0 115) 1 101) 2 116)))] := hV
  refine lv_dup hx hb dX7_init_298 rfl ?_
  refine lv_iconst (v := 3) hx hb dX7_init_299 (by decide) ?_
  refine lv_bipush (v := 97) hx hb dX7_init_300 (by decide) ?_
  refine x_iast (g := (upd (upd (upd (upd (fun _ => 0) 0 115) 1 101) 2 116) 3 97)) hB hV 22 rfl (by unfold vp_in; decide) rfl dX7_init_302 (fun H locs hV => ?_)
  have hV : Vx D A s.heap H locs [(h, .inr (7, [.int 0, .ref q_1, .ref q_2, .ref q_3, .ref q_4, .ref q_5, .ref q_6, .ref q_7, .ref q_8, .ref q_9, .ref q_10, .ref q_11, .ref q_12, .ref q_13, .ref q_14, .ref q_15, .ref q_16, .ref q_17, .ref q_18, .ref q_19, .ref q_20, .int 0, .int 0, .ref q_21, .int 0, .ref q_22, .ref q_23, .ref q_24, .ref q_25, .int 0, .int 0, .ref q_26, .ref q_27, .ref q_28, .int 0, .ref q_29, .int 0, .int 0, .int 0, .ref q_30, .ref q_31, .ref q_32, .null, .null, .null, .null, .null, .null, .null, .int 0, .int 0, .int 0, .int 0, .null, .null, .null, .null, .null, .null, .null, .int 0, .null, .null, .null, .null, .null, .null])), (q_5, .inl (cI, 6, .inl (fun _ => 0))), (q_6, .inl (cI, 6, .inl (fun _ => 0))), (q_7, .inl (cI, 48, .inl (fun _ => 0))), (q_8, .inl (cI, 12, .inl (fun _ => 0))), (q_9, .inl (cI, 12, .inl (fun _ => 0))), (q_10, .inl (cI, 192, .inl (fun _ => 0))), (q_11, .inl (cI, 192, .inl (fun _ => 0))), (q_12, .inl (cI, 192, .inl (fun _ => 0))), (q_13, .inl (cI, 192, .inl (fun _ => 0))), (q_14, .inl (cI, 2, .inl (fun _ => 0))), (q_15, .inl (cI, 12, .inl (fun _ => 0))), (q_16, .inl (cI, 12, .inl (fun _ => 0))), (q_17, .inl (cI, 96, .inl (fun _ => 0))), (q_18, .inl (cI, 96, .inl (fun _ => 0))), (q_19, .inl (cI, 96, .inl (fun _ => 0))), (q_20, .inl (cZ, 12, .inl (fun _ => 0))), (q_25, .inl (cI, 100, .inl (fun _ => 0))), (q_29, .inl (cI, 4, .inl (upd (upd (upd (upd (fun _ => 0) 0 1) 1 1) 2 1) 3 1))), (q_30, .inl (cI, 8, .inl (fun _ => 0))), (q_31, .inl (cI, 8, .inl (fun _ => 0))), (q_32, .inl (cI, 8, .inl (fun _ => 0))), (q_33, .inl (cI, 24, .inl (upd (upd (upd (upd (fun _ => 0) 0 115) 1 101) 2 116) 3 97)))] := hV
  refine lv_dup hx hb dX7_init_303 rfl ?_
  refine lv_iconst (v := 4) hx hb dX7_init_304 (by decide) ?_
  refine lv_bipush (v := 100) hx hb dX7_init_305 (by decide) ?_
  refine x_iast (g := (upd (upd (upd (upd (upd (fun _ => 0) 0 115) 1 101) 2 116) 3 97) 4 100)) hB hV 22 rfl (by unfold vp_in; decide) rfl dX7_init_307 (fun H locs hV => ?_)
  have hV : Vx D A s.heap H locs [(h, .inr (7, [.int 0, .ref q_1, .ref q_2, .ref q_3, .ref q_4, .ref q_5, .ref q_6, .ref q_7, .ref q_8, .ref q_9, .ref q_10, .ref q_11, .ref q_12, .ref q_13, .ref q_14, .ref q_15, .ref q_16, .ref q_17, .ref q_18, .ref q_19, .ref q_20, .int 0, .int 0, .ref q_21, .int 0, .ref q_22, .ref q_23, .ref q_24, .ref q_25, .int 0, .int 0, .ref q_26, .ref q_27, .ref q_28, .int 0, .ref q_29, .int 0, .int 0, .int 0, .ref q_30, .ref q_31, .ref q_32, .null, .null, .null, .null, .null, .null, .null, .int 0, .int 0, .int 0, .int 0, .null, .null, .null, .null, .null, .null, .null, .int 0, .null, .null, .null, .null, .null, .null])), (q_5, .inl (cI, 6, .inl (fun _ => 0))), (q_6, .inl (cI, 6, .inl (fun _ => 0))), (q_7, .inl (cI, 48, .inl (fun _ => 0))), (q_8, .inl (cI, 12, .inl (fun _ => 0))), (q_9, .inl (cI, 12, .inl (fun _ => 0))), (q_10, .inl (cI, 192, .inl (fun _ => 0))), (q_11, .inl (cI, 192, .inl (fun _ => 0))), (q_12, .inl (cI, 192, .inl (fun _ => 0))), (q_13, .inl (cI, 192, .inl (fun _ => 0))), (q_14, .inl (cI, 2, .inl (fun _ => 0))), (q_15, .inl (cI, 12, .inl (fun _ => 0))), (q_16, .inl (cI, 12, .inl (fun _ => 0))), (q_17, .inl (cI, 96, .inl (fun _ => 0))), (q_18, .inl (cI, 96, .inl (fun _ => 0))), (q_19, .inl (cI, 96, .inl (fun _ => 0))), (q_20, .inl (cZ, 12, .inl (fun _ => 0))), (q_25, .inl (cI, 100, .inl (fun _ => 0))), (q_29, .inl (cI, 4, .inl (upd (upd (upd (upd (fun _ => 0) 0 1) 1 1) 2 1) 3 1))), (q_30, .inl (cI, 8, .inl (fun _ => 0))), (q_31, .inl (cI, 8, .inl (fun _ => 0))), (q_32, .inl (cI, 8, .inl (fun _ => 0))), (q_33, .inl (cI, 24, .inl (upd (upd (upd (upd (upd (fun _ => 0) 0 115) 1 101) 2 116) 3 97) 4 100)))] := hV
  refine lv_dup hx hb dX7_init_308 rfl ?_
  refine lv_iconst (v := 5) hx hb dX7_init_309 (by decide) ?_
  refine lv_bipush (v := 100) hx hb dX7_init_310 (by decide) ?_
  refine x_iast (g := (upd (upd (upd (upd (upd (upd (fun _ => 0) 0 115) 1 101) 2 116) 3 97) 4 100) 5 100)) hB hV 22 rfl (by unfold vp_in; decide) rfl dX7_init_312 (fun H locs hV => ?_)
  have hV : Vx D A s.heap H locs [(h, .inr (7, [.int 0, .ref q_1, .ref q_2, .ref q_3, .ref q_4, .ref q_5, .ref q_6, .ref q_7, .ref q_8, .ref q_9, .ref q_10, .ref q_11, .ref q_12, .ref q_13, .ref q_14, .ref q_15, .ref q_16, .ref q_17, .ref q_18, .ref q_19, .ref q_20, .int 0, .int 0, .ref q_21, .int 0, .ref q_22, .ref q_23, .ref q_24, .ref q_25, .int 0, .int 0, .ref q_26, .ref q_27, .ref q_28, .int 0, .ref q_29, .int 0, .int 0, .int 0, .ref q_30, .ref q_31, .ref q_32, .null, .null, .null, .null, .null, .null, .null, .int 0, .int 0, .int 0, .int 0, .null, .null, .null, .null, .null, .null, .null, .int 0, .null, .null, .null, .null, .null, .null])), (q_5, .inl (cI, 6, .inl (fun _ => 0))), (q_6, .inl (cI, 6, .inl (fun _ => 0))), (q_7, .inl (cI, 48, .inl (fun _ => 0))), (q_8, .inl (cI, 12, .inl (fun _ => 0))), (q_9, .inl (cI, 12, .inl (fun _ => 0))), (q_10, .inl (cI, 192, .inl (fun _ => 0))), (q_11, .inl (cI, 192, .inl (fun _ => 0))), (q_12, .inl (cI, 192, .inl (fun _ => 0))), (q_13, .inl (cI, 192, .inl (fun _ => 0))), (q_14, .inl (cI, 2, .inl (fun _ => 0))), (q_15, .inl (cI, 12, .inl (fun _ => 0))), (q_16, .inl (cI, 12, .inl (fun _ => 0))), (q_17, .inl (cI, 96, .inl (fun _ => 0))), (q_18, .inl (cI, 96, .inl (fun _ => 0))), (q_19, .inl (cI, 96, .inl (fun _ => 0))), (q_20, .inl (cZ, 12, .inl (fun _ => 0))), (q_25, .inl (cI, 100, .inl (fun _ => 0))), (q_29, .inl (cI, 4, .inl (upd (upd (upd (upd (fun _ => 0) 0 1) 1 1) 2 1) 3 1))), (q_30, .inl (cI, 8, .inl (fun _ => 0))), (q_31, .inl (cI, 8, .inl (fun _ => 0))), (q_32, .inl (cI, 8, .inl (fun _ => 0))), (q_33, .inl (cI, 24, .inl (upd (upd (upd (upd (upd (upd (fun _ => 0) 0 115) 1 101) 2 116) 3 97) 4 100) 5 100)))] := hV
  refine lv_dup hx hb dX7_init_313 rfl ?_
  refine lv_bipush (v := 6) hx hb dX7_init_314 (by decide) ?_
  refine lv_bipush (v := 109) hx hb dX7_init_316 (by decide) ?_
  refine x_iast (g := (upd (upd (upd (upd (upd (upd (upd (fun _ => 0) 0 115) 1 101) 2 116) 3 97) 4 100) 5 100) 6 109)) hB hV 22 rfl (by unfold vp_in; decide) rfl dX7_init_318 (fun H locs hV => ?_)
  have hV : Vx D A s.heap H locs [(h, .inr (7, [.int 0, .ref q_1, .ref q_2, .ref q_3, .ref q_4, .ref q_5, .ref q_6, .ref q_7, .ref q_8, .ref q_9, .ref q_10, .ref q_11, .ref q_12, .ref q_13, .ref q_14, .ref q_15, .ref q_16, .ref q_17, .ref q_18, .ref q_19, .ref q_20, .int 0, .int 0, .ref q_21, .int 0, .ref q_22, .ref q_23, .ref q_24, .ref q_25, .int 0, .int 0, .ref q_26, .ref q_27, .ref q_28, .int 0, .ref q_29, .int 0, .int 0, .int 0, .ref q_30, .ref q_31, .ref q_32, .null, .null, .null, .null, .null, .null, .null, .int 0, .int 0, .int 0, .int 0, .null, .null, .null, .null, .null, .null, .null, .int 0, .null, .null, .null, .null, .null, .null])), (q_5, .inl (cI, 6, .inl (fun _ => 0))), (q_6, .inl (cI, 6, .inl (fun _ => 0))), (q_7, .inl (cI, 48, .inl (fun _ => 0))), (q_8, .inl (cI, 12, .inl (fun _ => 0))), (q_9, .inl (cI, 12, .inl (fun _ => 0))), (q_10, .inl (cI, 192, .inl (fun _ => 0))), (q_11, .inl (cI, 192, .inl (fun _ => 0))), (q_12, .inl (cI, 192, .inl (fun _ => 0))), (q_13, .inl (cI, 192, .inl (fun _ => 0))), (q_14, .inl (cI, 2, .inl (fun _ => 0))), (q_15, .inl (cI, 12, .inl (fun _ => 0))), (q_16, .inl (cI, 12, .inl (fun _ => 0))), (q_17, .inl (cI, 96, .inl (fun _ => 0))), (q_18, .inl (cI, 96, .inl (fun _ => 0))), (q_19, .inl (cI, 96, .inl (fun _ => 0))), (q_20, .inl (cZ, 12, .inl (fun _ => 0))), (q_25, .inl (cI, 100, .inl (fun _ => 0))), (q_29, .inl (cI, 4, .inl (upd (upd (upd (upd (fun _ => 0) 0 1) 1 1) 2 1) 3 1))), (q_30, .inl (cI, 8, .inl (fun _ => 0))), (q_31, .inl (cI, 8, .inl (fun _ => 0))), (q_32, .inl (cI, 8, .inl (fun _ => 0))), (q_33, .inl (cI, 24, .inl (upd (upd (upd (upd (upd (upd (upd (fun _ => 0) 0 115) 1 101) 2 116) 3 97) 4 100) 5 100) 6 109)))] := hV
  refine lv_dup hx hb dX7_init_319 rfl ?_
  refine lv_bipush (v := 7) hx hb dX7_init_320 (by decide) ?_
  refine lv_bipush (v := 97) hx hb dX7_init_322 (by decide) ?_
  refine x_iast (g := (upd (upd (upd (upd (upd (upd (upd (upd (fun _ => 0) 0 115) 1 101) 2 116) 3 97) 4 100) 5 100) 6 109) 7 97)) hB hV 22 rfl (by unfold vp_in; decide) rfl dX7_init_324 (fun H locs hV => ?_)
  have hV : Vx D A s.heap H locs [(h, .inr (7, [.int 0, .ref q_1, .ref q_2, .ref q_3, .ref q_4, .ref q_5, .ref q_6, .ref q_7, .ref q_8, .ref q_9, .ref q_10, .ref q_11, .ref q_12, .ref q_13, .ref q_14, .ref q_15, .ref q_16, .ref q_17, .ref q_18, .ref q_19, .ref q_20, .int 0, .int 0, .ref q_21, .int 0, .ref q_22, .ref q_23, .ref q_24, .ref q_25, .int 0, .int 0, .ref q_26, .ref q_27, .ref q_28, .int 0, .ref q_29, .int 0, .int 0, .int 0, .ref q_30, .ref q_31, .ref q_32, .null, .null, .null, .null, .null, .null, .null, .int 0, .int 0, .int 0, .int 0, .null, .null, .null, .null, .null, .null, .null, .int 0, .null, .null, .null, .null, .null, .null])), (q_5, .inl (cI, 6, .inl (fun _ => 0))), (q_6, .inl (cI, 6, .inl (fun _ => 0))), (q_7, .inl (cI, 48, .inl (fun _ => 0))), (q_8, .inl (cI, 12, .inl (fun _ => 0))), (q_9, .inl (cI, 12, .inl (fun _ => 0))), (q_10, .inl (cI, 192, .inl (fun _ => 0))), (q_11, .inl (cI, 192, .inl (fun _ => 0))), (q_12, .inl (cI, 192, .inl (fun _ => 0))), (q_13, .inl (cI, 192, .inl (fun _ => 0))), (q_14, .inl (cI, 2, .inl (fun _ => 0))), (q_15, .inl (cI, 12, .inl (fun _ => 0))), (q_16, .inl (cI, 12, .inl (fun _ => 0))), (q_17, .inl (cI, 96, .inl (fun _ => 0))), (q_18, .inl (cI, 96, .inl (fun _ => 0))), (q_19, .inl (cI, 96, .inl (fun _ => 0))), (q_20, .inl (cZ, 12, .inl (fun _ => 0))), (q_25, .inl (cI, 100, .inl (fun _ => 0))), (q_29, .inl (cI, 4, .inl (upd (upd (upd (upd (fun _ => 0) 0 1) 1 1) 2 1) 3 1))), (q_30, .inl (cI, 8, .inl (fun _ => 0))), (q_31, .inl (cI, 8, .inl (fun _ => 0))), (q_32, .inl (cI, 8, .inl (fun _ => 0))), (q_33, .inl (cI, 24, .inl (upd (upd (upd (upd (upd (upd (upd (upd (fun _ => 0) 0 115) 1 101) 2 116) 3 97) 4 100) 5 100) 6 109) 7 97)))] := hV
  refine lv_dup hx hb dX7_init_325 rfl ?_
  refine lv_bipush (v := 8) hx hb dX7_init_326 (by decide) ?_
  refine lv_bipush (v := 120) hx hb dX7_init_328 (by decide) ?_
  refine x_iast (g := (upd (upd (upd (upd (upd (upd (upd (upd (upd (fun _ => 0) 0 115) 1 101) 2 116) 3 97) 4 100) 5 100) 6 109) 7 97) 8 120)) hB hV 22 rfl (by unfold vp_in; decide) rfl dX7_init_330 (fun H locs hV => ?_)
  have hV : Vx D A s.heap H locs [(h, .inr (7, [.int 0, .ref q_1, .ref q_2, .ref q_3, .ref q_4, .ref q_5, .ref q_6, .ref q_7, .ref q_8, .ref q_9, .ref q_10, .ref q_11, .ref q_12, .ref q_13, .ref q_14, .ref q_15, .ref q_16, .ref q_17, .ref q_18, .ref q_19, .ref q_20, .int 0, .int 0, .ref q_21, .int 0, .ref q_22, .ref q_23, .ref q_24, .ref q_25, .int 0, .int 0, .ref q_26, .ref q_27, .ref q_28, .int 0, .ref q_29, .int 0, .int 0, .int 0, .ref q_30, .ref q_31, .ref q_32, .null, .null, .null, .null, .null, .null, .null, .int 0, .int 0, .int 0, .int 0, .null, .null, .null, .null, .null, .null, .null, .int 0, .null, .null, .null, .null, .null, .null])), (q_5, .inl (cI, 6, .inl (fun _ => 0))), (q_6, .inl (cI, 6, .inl (fun _ => 0))), (q_7, .inl (cI, 48, .inl (fun _ => 0))), (q_8, .inl (cI, 12, .inl (fun _ => 0))), (q_9, .inl (cI, 12, .inl (fun _ => 0))), (q_10, .inl (cI, 192, .inl (fun _ => 0))), (q_11, .inl (cI, 192, .inl (fun _ => 0))), (q_12, .inl (cI, 192, .inl (fun _ => 0))), (q_13, .inl (cI, 192, .inl (fun _ => 0))), (q_14, .inl (cI, 2, .inl (fun _ => 0))), (q_15, .inl (cI, 12, .inl (fun _ => 0))), (q_16, .inl (cI, 12, .inl (fun _ => 0))), (q_17, .inl (cI, 96, .inl (fun _ => 0))), (q_18, .inl (cI, 96, .inl (fun _ => 0))), (q_19, .inl (cI, 96, .inl (fun _ => 0))), (q_20, .inl (cZ, 12, .inl (fun _ => 0))), (q_25, .inl (cI, 100, .inl (fun _ => 0))), (q_29, .inl (cI, 4, .inl (upd (upd (upd (upd (fun _ => 0) 0 1) 1 1) 2 1) 3 1))), (q_30, .inl (cI, 8, .inl (fun _ => 0))), (q_31, .inl (cI, 8, .inl (fun _ => 0))), (q_32, .inl (cI, 8, .inl (fun _ => 0))), (q_33, .inl (cI, 24, .inl (upd (upd (upd (upd (upd (upd (upd (upd (upd (fun _ => 0) 0 115) 1 101) 2 116) 3 97) 4 100) 5 100) 6 109) 7 97) 8 120)))] := hV
  refine lv_dup hx hb dX7_init_331 rfl ?_
  refine lv_bipush (v := 9) hx hb dX7_init_332 (by decide) ?_
  refine lv_bipush (v := 110) hx hb dX7_init_334 (by decide) ?_
  refine x_iast (g := (upd (upd (upd (upd (upd (upd (upd (upd (upd (upd (fun _ => 0) 0 115) 1 101) 2 116) 3 97) 4 100) 5 100) 6 109) 7 97) 8 120) 9 110)) hB hV 22 rfl (by unfold vp_in; decide) rfl dX7_init_336 (fun H locs hV => ?_)
  have hV : Vx D A s.heap H locs [(h, .inr (7, [.int 0, .ref q_1, .ref q_2, .ref q_3, .ref q_4, .ref q_5, .ref q_6, .ref q_7, .ref q_8, .ref q_9, .ref q_10, .ref q_11, .ref q_12, .ref q_13, .ref q_14, .ref q_15, .ref q_16, .ref q_17, .ref q_18, .ref q_19, .ref q_20, .int 0, .int 0, .ref q_21, .int 0, .ref q_22, .ref q_23, .ref q_24, .ref q_25, .int 0, .int 0, .ref q_26, .ref q_27, .ref q_28, .int 0, .ref q_29, .int 0, .int 0, .int 0, .ref q_30, .ref q_31, .ref q_32, .null, .null, .null, .null, .null, .null, .null, .int 0, .int 0, .int 0, .int 0, .null, .null, .null, .null, .null, .null, .null, .int 0, .null, .null, .null, .null, .null, .null])), (q_5, .inl (cI, 6, .inl (fun _ => 0))), (q_6, .inl (cI, 6, .inl (fun _ => 0))), (q_7, .inl (cI, 48, .inl (fun _ => 0))), (q_8, .inl (cI, 12, .inl (fun _ => 0))), (q_9, .inl (cI, 12, .inl (fun _ => 0))), (q_10, .inl (cI, 192, .inl (fun _ => 0))), (q_11, .inl (cI, 192, .inl (fun _ => 0))), (q_12, .inl (cI, 192, .inl (fun _ => 0))), (q_13, .inl (cI, 192, .inl (fun _ => 0))), (q_14, .inl (cI, 2, .inl (fun _ => 0))), (q_15, .inl (cI, 12, .inl (fun _ => 0))), (q_16, .inl (cI, 12, .inl (fun _ => 0))), (q_17, .inl (cI, 96, .inl (fun _ => 0))), (q_18, .inl (cI, 96, .inl (fun _ => 0))), (q_19, .inl (cI, 96, .inl (fun _ => 0))), (q_20, .inl (cZ, 12, .inl (fun _ => 0))), (q_25, .inl (cI, 100, .inl (fun _ => 0))), (q_29, .inl (cI, 4, .inl (upd (upd (upd (upd (fun _ => 0) 0 1) 1 1) 2 1) 3 1))), (q_30, .inl (cI, 8, .inl (fun _ => 0))), (q_31, .inl (cI, 8, .inl (fun _ => 0))), (q_32, .inl (cI, 8, .inl (fun _ => 0))), (q_33, .inl (cI, 24, .inl (upd (upd (upd (upd (upd (upd (upd (upd (upd (upd (fun _ => 0) 0 115) 1 101) 2 116) 3 97) 4 100) 5 100) 6 109) 7 97) 8 120) 9 110)))] := hV
  refine lv_dup hx hb dX7_init_337 rfl ?_
  refine lv_bipush (v := 10) hx hb dX7_init_338 (by decide) ?_
  refine lv_bipush (v := 101) hx hb dX7_init_340 (by decide) ?_
  refine x_iast (g := (upd (upd (upd (upd (upd (upd (upd (upd (upd (upd (upd (fun _ => 0) 0 115) 1 101) 2 116) 3 97) 4 100) 5 100) 6 109) 7 97) 8 120) 9 110) 10 101)) hB hV 22 rfl (by unfold vp_in; decide) rfl dX7_init_342 (fun H locs hV => ?_)
  have hV : Vx D A s.heap H locs [(h, .inr (7, [.int 0, .ref q_1, .ref q_2, .ref q_3, .ref q_4, .ref q_5, .ref q_6, .ref q_7, .ref q_8, .ref q_9, .ref q_10, .ref q_11, .ref q_12, .ref q_13, .ref q_14, .ref q_15, .ref q_16, .ref q_17, .ref q_18, .ref q_19, .ref q_20, .int 0, .int 0, .ref q_21, .int 0, .ref q_22, .ref q_23, .ref q_24, .ref q_25, .int 0, .int 0, .ref q_26, .ref q_27, .ref q_28, .int 0, .ref q_29, .int 0, .int 0, .int 0, .ref q_30, .ref q_31, .ref q_32, .null, .null, .null, .null, .null, .null, .null, .int 0, .int 0, .int 0, .int 0, .null, .null, .null, .null, .null, .null, .null, .int 0, .null, .null, .null, .null, .null, .null])), (q_5, .inl (cI, 6, .inl (fun _ => 0))), (q_6, .inl (cI, 6, .inl (fun _ => 0))), (q_7, .inl (cI, 48, .inl (fun _ => 0))), (q_8, .inl (cI, 12, .inl (fun _ => 0))), (q_9, .inl (cI, 12, .inl (fun _ => 0))), (q_10, .inl (cI, 192, .inl (fun _ => 0))), (q_11, .inl (cI, 192, .inl (fun _ => 0))), (q_12, .inl (cI, 192, .inl (fun _ => 0))), (q_13, .inl (cI, 192, .inl (fun _ => 0))), (q_14, .inl (cI, 2, .inl (fun _ => 0))), (q_15, .inl (cI, 12, .inl (fun _ => 0))), (q_16, .inl (cI, 12, .inl (fun _ => 0))), (q_17, .inl (cI, 96, .inl (fun _ => 0))), (q_18, .inl (cI, 96, .inl (fun _ => 0))), (q_19, .inl (cI, 96, .inl (fun _ => 0))), (q_20, .inl (cZ, 12, .inl (fun _ => 0))), (q_25, .inl (cI, 100, .inl (fun _ => 0))), (q_29, .inl (cI, 4, .inl (upd (upd (upd (upd (fun _ => 0) 0 1) 1 1) 2 1) 3 1))), (q_30, .inl (cI, 8, .inl (fun _ => 0))), (q_31, .inl (cI, 8, .inl (fun _ => 0))), (q_32, .inl (cI, 8, .inl (fun _ => 0))), (q_33, .inl (cI, 24, .inl (upd (upd (upd (upd (upd (upd (upd (upd (upd (upd (upd (fun _ => 0) 0 115) 1 101) 2 116) 3 97) 4 100) 5 100) 6 109) 7 97) 8 120) 9 110) 10 101)))] := hV
  refine lv_dup hx hb dX7_init_343 rfl ?_
  refine lv_bipush (v := 11) hx hb dX7_init_344 (by decide) ?_
  refine lv_bipush (v := 119) hx hb dX7_init_346 (by decide) ?_
  refine x_iast (g := (upd (upd (upd (upd (upd (upd (upd (upd (upd (upd (upd (upd (fun _ => 0) 0 115) 1 101) 2 116) 3 97) 4 100) 5 100) 6 109) 7 97) 8 120) 9 110) 10 101) 11 119)) hB hV 22 rfl (by unfold vp_in; decide) rfl dX7_init_348 (fun H locs hV => ?_)
  have hV : Vx D A s.heap H locs [(h, .inr (7, [.int 0, .ref q_1, .ref q_2, .ref q_3, .ref q_4, .ref q_5, .ref q_6, .ref q_7, .ref q_8, .ref q_9, .ref q_10, .ref q_11, .ref q_12, .ref q_13, .ref q_14, .ref q_15, .ref q_16, .ref q_17, .ref q_18, .ref q_19, .ref q_20, .int 0, .int 0, .ref q_21, .int 0, .ref q_22, .ref q_23, .ref q_24, .ref q_25, .int 0, .int 0, .ref q_26, .ref q_27, .ref q_28, .int 0, .ref q_29, .int 0, .int 0, .int 0, .ref q_30, .ref q_31, .ref q_32, .null, .null, .null, .null, .null, .null, .null, .int 0, .int 0, .int 0, .int 0, .null, .null, .null, .null, .null, .null, .null, .int 0, .null, .null, .null, .null, .null, .null])), (q_5, .inl (cI, 6, .inl (fun _ => 0))), (q_6, .inl (cI, 6, .inl (fun _ => 0))), (q_7, .inl (cI, 48, .inl (fun _ => 0))), (q_8, .inl (cI, 12, .inl (fun _ => 0))), (q_9, .inl (cI, 12, .inl (fun _ => 0))), (q_10, .inl (cI, 192, .inl (fun _ => 0))), (q_11, .inl (cI, 192, .inl (fun _ => 0))), (q_12, .inl (cI, 192, .inl (fun _ => 0))), (q_13, .inl (cI, 192, .inl (fun _ => 0))), (q_14, .inl (cI, 2, .inl (fun _ => 0))), (q_15, .inl (cI, 12, .inl (fun _ => 0))), (q_16, .inl (cI, 12, .inl (fun _ => 0))), (q_17, .inl (cI, 96, .inl (fun _ => 0))), (q_18, .inl (cI, 96, .inl (fun _ => 0))), (q_19, .inl (cI, 96, .inl (fun _ => 0))), (q_20, .inl (cZ, 12, .inl (fun _ => 0))), (q_25, .inl (cI, 100, .inl (fun _ => 0))), (q_29, .inl (cI, 4, .inl (upd (upd (upd (upd (fun _ => 0) 0 1) 1 1) 2 1) 3 1))), (q_30, .inl (cI, 8, .inl (fun _ => 0))), (q_31, .inl (cI, 8, .inl (fun _ => 0))), (q_32, .inl (cI, 8, .inl (fun _ => 0))), (q_33, .inl (cI, 24, .inl (upd (upd (upd (upd (upd (upd (upd (upd (upd (upd (upd (upd (fun _ => 0) 0 115) 1 101) 2 116) 3 97) 4 100) 5 100) 6 109) 7 97) 8 120) 9 110) 10 101) 11 119)))] := hV
  refine lv_dup hx hb dX7_init_349 rfl ?_
  refine lv_bipush (v := 12) hx hb dX7_init_350 (by decide) ?_
  refine lv_bipush (v := 103) hx hb dX7_init_352 (by decide) ?_
  refine x_iast (g := (upd (upd (upd (upd (upd (upd (upd (upd (upd (upd (upd (upd (upd (fun _ => 0) 0 115) 1 101) 2 116) 3 97) 4 100) 5 100) 6 109) 7 97) 8 120) 9 110) 10 101) 11 119) 12 103)) hB hV 22 rfl (by unfold vp_in; decide) rfl dX7_init_354 (fun H locs hV => ?_)
  have hV : Vx D A s.heap H locs [(h, .inr (7, [.int 0, .ref q_1, .ref q_2, .ref q_3, .ref q_4, .ref q_5, .ref q_6, .ref q_7, .ref q_8, .ref q_9, .ref q_10, .ref q_11, .ref q_12, .ref q_13, .ref q_14, .ref q_15, .ref q_16, .ref q_17, .ref q_18, .ref q_19, .ref q_20, .int 0, .int 0, .ref q_21, .int 0, .ref q_22, .ref q_23, .ref q_24, .ref q_25, .int 0, .int 0, .ref q_26, .ref q_27, .ref q_28, .int 0, .ref q_29, .int 0, .int 0, .int 0, .ref q_30, .ref q_31, .ref q_32, .null, .null, .null, .null, .null, .null, .null, .int 0, .int 0, .int 0, .int 0, .null, .null, .null, .null, .null, .null, .null, .int 0, .null, .null, .null, .null, .null, .null])), (q_5, .inl (cI, 6, .inl (fun _ => 0))), (q_6, .inl (cI, 6, .inl (fun _ => 0))), (q_7, .inl (cI, 48, .inl (fun _ => 0))), (q_8, .inl (cI, 12, .inl (fun _ => 0))), (q_9, .inl (cI, 12, .inl (fun _ => 0))), (q_10, .inl (cI, 192, .inl (fun _ => 0))), (q_11, .inl (cI, 192, .inl (fun _ => 0))), (q_12, .inl (cI, 192, .inl (fun _ => 0))), (q_13, .inl (cI, 192, .inl (fun _ => 0))), (q_14, .inl (cI, 2, .inl (fun _ => 0))), (q_15, .inl (cI, 12, .inl (fun _ => 0))), (q_16, .inl (cI, 12, .inl (fun _ => 0))), (q_17, .inl (cI, 96, .inl (fun _ => 0))), (q_18, .inl (cI, 96, .inl (fun _ => 0))), (q_19, .inl (cI, 96, .inl (fun _ => 0))), (q_20, .inl (cZ, 12, .inl (fun _ => 0))), (q_25, .inl (cI, 100, .inl (fun _ => 0))), (q_29, .inl (cI, 4, .inl (upd (upd (upd (upd (fun _ => 0) 0 1) 1 1) 2 1) 3 1))), (q_30, .inl (cI, 8, .inl (fun _ => 0))), (q_31, .inl (cI, 8, .inl (fun _ => 0))), (q_32, .inl (cI, 8, .inl (fun _ => 0))), (q_33, .inl (cI, 24, .inl (upd (upd (upd (upd (upd (upd (upd (upd (upd (upd (upd (upd (upd (fun _ => 0) 0 115) 1 101) 2 116) 3 97) 4 100) 5 100) 6 109) 7 97) 8 120) 9 110) 10 101) 11 119) 12 103)))] := hV
  refine lv_dup hx hb dX7_init_355 rfl ?_
  refine lv_bipush (v := 13) hx hb dX7_init_356 (by decide) ?_
  refine lv_bipush (v := 101) hx hb dX7_init_358 (by decide) ?_
  refine x_iast (g := (upd (upd (upd (upd (upd (upd (upd (upd (upd (upd (upd (upd (upd (upd (fun _ => 0) 0 115) 1 101) 2 116) 3 97) 4 100) 5 100) 6 109) 7 97) 8 120) 9 110) 10 101) 11 119) 12 103) 13 101)) hB hV 22 rfl (by unfold vp_in; decide) rfl dX7_init_360 (fun H locs hV => ?_)
  have hV : Vx D A s.heap H locs [(h, .inr (7, [.int 0, .ref q_1, .ref q_2, .ref q_3, .ref q_4, .ref q_5, .ref q_6, .ref q_7, .ref q_8, .ref q_9, .ref q_10, .ref q_11, .ref q_12, .ref q_13, .ref q_14, .ref q_15, .ref q_16, .ref q_17, .ref q_18, .ref q_19, .ref q_20, .int 0, .int 0, .ref q_21, .int 0, .ref q_22, .ref q_23, .ref q_24, .ref q_25, .int 0, .int 0, .ref q_26, .ref q_27, .ref q_28, .int 0, .ref q_29, .int 0, .int 0, .int 0, .ref q_30, .ref q_31, .ref q_32, .null, .null, .null, .null, .null, .null, .null, .int 0, .int 0, .int 0, .int 0, .null, .null, .null, .null, .null, .null, .null, .int 0, .null, .null, .null, .null, .null, .null])), (q_5, .inl (cI, 6, .inl (fun _ => 0))), (q_6, .inl (cI, 6, .inl (fun _ => 0))), (q_7, .inl (cI, 48, .inl (fun _ => 0))), (q_8, .inl (cI, 12, .inl (fun _ => 0))), (q_9, .inl (cI, 12, .inl (fun _ => 0))), (q_10, .inl (cI, 192, .inl (fun _ => 0))), (q_11, .inl (cI, 192, .inl (fun _ => 0))), (q_12, .inl (cI, 192, .inl (fun _ => 0))), (q_13, .inl (cI, 192, .inl (fun _ => 0))), (q_14, .inl (cI, 2, .inl (fun _ => 0))), (q_15, .inl (cI, 12, .inl (fun _ => 0))), (q_16, .inl (cI, 12, .inl (fun _ => 0))), (q_17, .inl (cI, 96, .inl (fun _ => 0))), (q_18, .inl (cI, 96, .inl (fun _ => 0))), (q_19, .inl (cI, 96, .inl (fun _ => 0))), (q_20, .inl (cZ, 12, .inl (fun _ => 0))), (q_25, .inl (cI, 100, .inl (fun _ => 0))), (q_29, .inl (cI, 4, .inl (upd (upd (upd (upd (fun _ => 0) 0 1) 1 1) 2 1) 3 1))), (q_30, .inl (cI, 8, .inl (fun _ => 0))), (q_31, .inl (cI, 8, .inl (fun _ => 0))), (q_32, .inl (cI, 8, .inl (fun _ => 0))), (q_33, .inl (cI, 24, .inl (upd (upd (upd (upd (upd (upd (upd (upd (upd (upd (upd (upd (upd (upd (fun _ => 0) 0 115) 1 101) 2 116) 3 97) 4 100) 5 100) 6 109) 7 97) 8 120) 9 110) 10 101) 11 119) 12 103) 13 101)))] := hV
  refine lv_dup hx hb dX7_init_361 rfl ?_
  refine lv_bipush (v := 14) hx hb dX7_init_362 (by decide) ?_
  refine lv_bipush (v := 116) hx hb dX7_init_364 (by decide) ?_
  refine x_iast (g := (upd (upd (upd (upd (upd (upd (upd (upd (upd (upd (upd (upd (upd (upd (upd (fun _ => 0) 0 115) 1 101) 2 116) 3 97) 4 100) 5 100) 6 109) 7 97) 8 120) 9 110) 10 101) 11 119) 12 103) 13 101) 14 116)) hB hV 22 rfl (by unfold vp_in; decide) rfl dX7_init_366 (fun H locs hV => ?_)
  have hV : Vx D A s.heap H locs [(h, .inr (7, [.int 0, .ref q_1, .ref q_2, .ref q_3, .ref q_4, .ref q_5, .ref q_6, .ref q_7, .ref q_8, .ref q_9, .ref q_10, .ref q_11, .ref q_12, .ref q_13, .ref q_14, .ref q_15, .ref q_16, .ref q_17, .ref q_18, .ref q_19, .ref q_20, .int 0, .int 0, .ref q_21, .int 0, .ref q_22, .ref q_23, .ref q_24, .ref q_25, .int 0, .int 0, .ref q_26, .ref q_27, .ref q_28, .int 0, .ref q_29, .int 0, .int 0, .int 0, .ref q_30, .ref q_31, .ref q_32, .null, .null, .null, .null, .null, .null, .null, .int 0, .int 0, .int 0, .int 0, .null, .null, .null, .null, .null, .null, .null, .int 0, .null, .null, .null, .null, .null, .null])), (q_5, .inl (cI, 6, .inl (fun _ => 0))), (q_6, .inl (cI, 6, .inl (fun _ => 0))), (q_7, .inl (cI, 48, .inl (fun _ => 0))), (q_8, .inl (cI, 12, .inl (fun _ => 0))), (q_9, .inl (cI, 12, .inl (fun _ => 0))), (q_10, .inl (cI, 192, .inl (fun _ => 0))), (q_11, .inl (cI, 192, .inl (fun _ => 0))), (q_12, .inl (cI, 192, .inl (fun _ => 0))), (q_13, .inl (cI, 192, .inl (fun _ => 0))), (q_14, .inl (cI, 2, .inl (fun _ => 0))), (q_15, .inl (cI, 12, .inl (fun _ => 0))), (q_16, .inl (cI, 12, .inl (fun _ => 0))), (q_17, .inl (cI, 96, .inl (fun _ => 0))), (q_18, .inl (cI, 96, .inl (fun _ => 0))), (q_19, .inl (cI, 96, .inl (fun _ => 0))), (q_20, .inl (cZ, 12, .inl (fun _ => 0))), (q_25, .inl (cI, 100, .inl (fun _ => 0))), (q_29, .inl (cI, 4, .inl (upd (upd (upd (upd (fun _ => 0) 0 1) 1 1) 2 1) 3 1))), (q_30, .inl (cI, 8, .inl (fun _ => 0))), (q_31, .inl (cI, 8, .inl (fun _ => 0))), (q_32, .inl (cI, 8, .inl (fun _ => 0))), (q_33, .inl (cI, 24, .inl (upd (upd (upd (upd (upd (upd (upd (upd (upd (upd (upd (upd (upd (upd (upd (fun _ => 0) 0 115) 1 101) 2 116) 3 97) 4 100) 5 100) 6 109) 7 97) 8 120) 9 110) 10 101) 11 119) 12 103) 13 101) 14 116)))] := hV
  refine lv_dup hx hb dX7_init_367 rfl ?_
  refine lv_bipush (v := 15) hx hb dX7_init_368 (by decide) ?_
  refine lv_bipush (v := 97) hx hb dX7_init_370 (by decide) ?_
  refine x_iast (g := (upd (upd (upd (upd (upd (upd (upd (upd (upd (upd (upd (upd (upd (upd (upd (upd (fun _ => 0) 0 115) 1 101) 2 116) 3 97) 4 100) 5 100) 6 109) 7 97) 8 120) 9 110) 10 101) 11 119) 12 103) 13 101) 14 116) 15 97)) hB hV 22 rfl (by unfold vp_in; decide) rfl dX7_init_372 (fun H locs hV => ?_)
  have hV : Vx D A s.heap H locs [(h, .inr (7, [.int 0, .ref q_1, .ref q_2, .ref q_3, .ref q_4, .ref q_5, .ref q_6, .ref q_7, .ref q_8, .ref q_9, .ref q_10, .ref q_11, .ref q_12, .ref q_13, .ref q_14, .ref q_15, .ref q_16, .ref q_17, .ref q_18, .ref q_19, .ref q_20, .int 0, .int 0, .ref q_21, .int 0, .ref q_22, .ref q_23, .ref q_24, .ref q_25, .int 0, .int 0, .ref q_26, .ref q_27, .ref q_28, .int 0, .ref q_29, .int 0, .int 0, .int 0, .ref q_30, .ref q_31, .ref q_32, .null, .null, .null, .null, .null, .null, .null, .int 0, .int 0, .int 0, .int 0, .null, .null, .null, .null, .null, .null, .null, .int 0, .null, .null, .null, .null, .null, .null])), (q_5, .inl (cI, 6, .inl (fun _ => 0))), (q_6, .inl (cI, 6, .inl (fun _ => 0))), (q_7, .inl (cI, 48, .inl (fun _ => 0))), (q_8, .inl (cI, 12, .inl (fun _ => 0))), (q_9, .inl (cI, 12, .inl (fun _ => 0))), (q_10, .inl (cI, 192, .inl (fun _ => 0))), (q_11, .inl (cI, 192, .inl (fun _ => 0))), (q_12, .inl (cI, 192, .inl (fun _ => 0))), (q_13, .inl (cI, 192, .inl (fun _ => 0))), (q_14, .inl (cI, 2, .inl (fun _ => 0))), (q_15, .inl (cI, 12, .inl (fun _ => 0))), (q_16, .inl (cI, 12, .inl (fun _ => 0))), (q_17, .inl (cI, 96, .inl (fun _ => 0))), (q_18, .inl (cI, 96, .inl (fun _ => 0))), (q_19, .inl (cI, 96, .inl (fun _ => 0))), (q_20, .inl (cZ, 12, .inl (fun _ => 0))), (q_25, .inl (cI, 100, .inl (fun _ => 0))), (q_29, .inl (cI, 4, .inl (upd (upd (upd (upd (fun _ => 0) 0 1) 1 1) 2 1) 3 1))), (q_30, .inl (cI, 8, .inl (fun _ => 0))), (q_31, .inl (cI, 8, .inl (fun _ => 0))), (q_32, .inl (cI, 8, .inl (fun _ => 0))), (q_33, .inl (cI, 24, .inl (upd (upd (upd (upd (upd (upd (upd (upd (upd (upd (upd (upd (upd (upd (upd (upd (fun _ => 0) 0 115) 1 101) 2 116) 3 97) 4 100) 5 100) 6 109) 7 97) 8 120) 9 110) 10 101) 11 119) 12 103) 13 101) 14 116) 15 97)))] := hV
  refine lv_dup hx hb dX7_init_373 rfl ?_
  refine lv_bipush (v := 16) hx hb dX7_init_374 (by decide) ?_
  refine lv_bipush (v := 115) hx hb dX7_init_376 (by decide) ?_
  refine x_iast (g := (upd (upd (upd (upd (upd (upd (upd (upd (upd (upd (upd (upd (upd (upd (upd (upd (upd (fun _ => 0) 0 115) 1 101) 2 116) 3 97) 4 100) 5 100) 6 109) 7 97) 8 120) 9 110) 10 101) 11 119) 12 103) 13 101) 14 116) 15 97) 16 115)) hB hV 22 rfl (by unfold vp_in; decide) rfl dX7_init_378 (fun H locs hV => ?_)
  have hV : Vx D A s.heap H locs [(h, .inr (7, [.int 0, .ref q_1, .ref q_2, .ref q_3, .ref q_4, .ref q_5, .ref q_6, .ref q_7, .ref q_8, .ref q_9, .ref q_10, .ref q_11, .ref q_12, .ref q_13, .ref q_14, .ref q_15, .ref q_16, .ref q_17, .ref q_18, .ref q_19, .ref q_20, .int 0, .int 0, .ref q_21, .int 0, .ref q_22, .ref q_23, .ref q_24, .ref q_25, .int 0, .int 0, .ref q_26, .ref q_27, .ref q_28, .int 0, .ref q_29, .int 0, .int 0, .int 0, .ref q_30, .ref q_31, .ref q_32, .null, .null, .null, .null, .null, .null, .null, .int 0, .int 0, .int 0, .int 0, .null, .null, .null, .null, .null, .null, .null, .int 0, .null, .null, .null, .null, .null, .null])), (q_5, .inl (cI, 6, .inl (fun _ => 0))), (q_6, .inl (cI, 6, .inl (fun _ => 0))), (q_7, .inl (cI, 48, .inl (fun _ => 0))), (q_8, .inl (cI, 12, .inl (fun _ => 0))), (q_9, .inl (cI, 12, .inl (fun _ => 0))), (q_10, .inl (cI, 192, .inl (fun _ => 0))), (q_11, .inl (cI, 192, .inl (fun _ => 0))), (q_12, .inl (cI, 192, .inl (fun _ => 0))), (q_13, .inl (cI, 192, .inl (fun _ => 0))), (q_14, .inl (cI, 2, .inl (fun _ => 0))), (q_15, .inl (cI, 12, .inl (fun _ => 0))), (q_16, .inl (cI, 12, .inl (fun _ => 0))), (q_17, .inl (cI, 96, .inl (fun _ => 0))), (q_18, .inl (cI, 96, .inl (fun _ => 0))), (q_19, .inl (cI, 96, .inl (fun _ => 0))), (q_20, .inl (cZ, 12, .inl (fun _ => 0))), (q_25, .inl (cI, 100, .inl (fun _ => 0))), (q_29, .inl (cI, 4, .inl (upd (upd (upd (upd (fun _ => 0) 0 1) 1 1) 2 1) 3 1))), (q_30, .inl (cI, 8, .inl (fun _ => 0))), (q_31, .inl (cI, 8, .inl (fun _ => 0))), (q_32, .inl (cI, 8, .inl (fun _ => 0))), (q_33, .inl (cI, 24, .inl (upd (upd (upd (upd (upd (upd (upd (upd (upd (upd (upd (upd (upd (upd (upd (upd (upd (fun _ => 0) 0 115) 1 101) 2 116) 3 97) 4 100) 5 100) 6 109) 7 97) 8 120) 9 110) 10 101) 11 119) 12 103) 13 101) 14 116) 15 97) 16 115)))] := hV
  refine lv_dup hx hb dX7_init_379 rfl ?_
  refine lv_bipush (v := 17) hx hb dX7_init_380 (by decide) ?_
  refine lv_bipush (v := 107) hx hb dX7_init_382 (by decide) ?_
  refine x_iast (g := (upd (upd (upd (upd (upd (upd (upd (upd (upd (upd (upd (upd (upd (upd (upd (upd (upd (upd (fun _ => 0) 0 115) 1 101) 2 116) 3 97) 4 100) 5 100) 6 109) 7 97) 8 120) 9 110) 10 101) 11 119) 12 103) 13 101) 14 116) 15 97) 16 115) 17 107)) hB hV 22 rfl (by unfold vp_in; decide) rfl dX7_init_384 (fun H locs hV => ?_)
  have hV : Vx D A s.heap H locs [(h, .inr (7, [.int 0, .ref q_1, .ref q_2, .ref q_3, .ref q_4, .ref q_5, .ref q_6, .ref q_7, .ref q_8, .ref q_9, .ref q_10, .ref q_11, .ref q_12, .ref q_13, .ref q_14, .ref q_15, .ref q_16, .ref q_17, .ref q_18, .ref q_19, .ref q_20, .int 0, .int 0, .ref q_21, .int 0, .ref q_22, .ref q_23, .ref q_24, .ref q_25, .int 0, .int 0, .ref q_26, .ref q_27, .ref q_28, .int 0, .ref q_29, .int 0, .int 0, .int 0, .ref q_30, .ref q_31, .ref q_32, .null, .null, .null, .null, .null, .null, .null, .int 0, .int 0, .int 0, .int 0, .null, .null, .null, .null, .null, .null, .null, .int 0, .null, .null, .null, .null, .null, .null])), (q_5, .inl (cI, 6, .inl (fun _ => 0))), (q_6, .inl (cI, 6, .inl (fun _ => 0))), (q_7, .inl (cI, 48, .inl (fun _ => 0))), (q_8, .inl (cI, 12, .inl (fun _ => 0))), (q_9, .inl (cI, 12, .inl (fun _ => 0))), (q_10, .inl (cI, 192, .inl (fun _ => 0))), (q_11, .inl (cI, 192, .inl (fun _ => 0))), (q_12, .inl (cI, 192, .inl (fun _ => 0))), (q_13, .inl (cI, 192, .inl (fun _ => 0))), (q_14, .inl (cI, 2, .inl (fun _ => 0))), (q_15, .inl (cI, 12, .inl (fun _ => 0))), (q_16, .inl (cI, 12, .inl (fun _ => 0))), (q_17, .inl (cI, 96, .inl (fun _ => 0))), (q_18, .inl (cI, 96, .inl (fun _ => 0))), (q_19, .inl (cI, 96, .inl (fun _ => 0))), (q_20, .inl (cZ, 12, .inl (fun _ => 0))), (q_25, .inl (cI, 100, .inl (fun _ => 0))), (q_29, .inl (cI, 4, .inl (upd (upd (upd (upd (fun _ => 0) 0 1) 1 1) 2 1) 3 1))), (q_30, .inl (cI, 8, .inl (fun _ => 0))), (q_31, .inl (cI, 8, .inl (fun _ => 0))), (q_32, .inl (cI, 8, .inl (fun _ => 0))), (q_33, .inl (cI, 24, .inl (upd (upd (upd (upd (upd (upd (upd (upd (upd (upd (upd (upd (upd (upd (upd (upd (upd (upd (fun _ => 0) 0 115) 1 101) 2 116) 3 97) 4 100) 5 100) 6 109) 7 97) 8 120) 9 110) 10 101) 11 119) 12 103) 13 101) 14 116) 15 97) 16 115) 17 107)))] := hV
  refine lv_dup hx hb dX7_init_385 rfl ?_
  refine lv_bipush (v := 18) hx hb dX7_init_386 (by decide) ?_
  refine lv_bipush (v := 100) hx hb dX7_init_388 (by decide) ?_
  refine x_iast (g := (upd (upd (upd (upd (upd (upd (upd (upd (upd (upd (upd (upd (upd (upd (upd (upd (upd (upd (upd (fun _ => 0) 0 115) 1 101) 2 116) 3 97) 4 100) 5 100) 6 109) 7 97) 8 120) 9 110) 10 101) 11 119) 12 103) 13 101) 14 116) 15 97) 16 115) 17 107) 18 100)) hB hV 22 rfl (by unfold vp_in; decide) rfl dX7_init_390 (fun H locs hV => ?_)
  have hV : Vx D A s.heap H locs [(h, .inr (7, [.int 0, .ref q_1, .ref q_2, .ref q_3, .ref q_4, .ref q_5, .ref q_6, .ref q_7, .ref q_8, .ref q_9, .ref q_10, .ref q_11, .ref q_12, .ref q_13, .ref q_14, .ref q_15, .ref q_16, .ref q_17, .ref q_18, .ref q_19, .ref q_20, .int 0, .int 0, .ref q_21, .int 0, .ref q_22, .ref q_23, .ref q_24, .ref q_25, .int 0, .int 0, .ref q_26, .ref q_27, .ref q_28, .int 0, .ref q_29, .int 0, .int 0, .int 0, .ref q_30, .ref q_31, .ref q_32, .null, .null, .null, .null, .null, .null, .null, .int 0, .int 0, .int 0, .int 0, .null, .null, .null, .null, .null, .null, .null, .int 0, .null, .null, .null, .null, .null, .null])), (q_5, .inl (cI, 6, .inl (fun _ => 0))), (q_6, .inl (cI, 6, .inl (fun _ => 0))), (q_7, .inl (cI, 48, .inl (fun _ => 0))), (q_8, .inl (cI, 12, .inl (fun _ => 0))), (q_9, .inl (cI, 12, .inl (fun _ => 0))), (q_10, .inl (cI, 192, .inl (fun _ => 0))), (q_11, .inl (cI, 192, .inl (fun _ => 0))), (q_12, .inl (cI, 192, .inl (fun _ => 0))), (q_13, .inl (cI, 192, .inl (fun _ => 0))), (q_14, .inl (cI, 2, .inl (fun _ => 0))), (q_15, .inl (cI, 12, .inl (fun _ => 0))), (q_16, .inl (cI, 12, .inl (fun _ => 0))), (q_17, .inl (cI, 96, .inl (fun _ => 0))), (q_18, .inl (cI, 96, .inl (fun _ => 0))), (q_19, .inl (cI, 96, .inl (fun _ => 0))), (q_20, .inl (cZ, 12, .inl (fun _ => 0))), (q_25, .inl (cI, 100, .inl (fun _ => 0))), (q_29, .inl (cI, 4, .inl (upd (upd (upd (upd (fun _ => 0) 0 1) 1 1) 2 1) 3 1))), (q_30, .inl (cI, 8, .inl (fun _ => 0))), (q_31, .inl (cI, 8, .inl (fun _ => 0))), (q_32, .inl (cI, 8, .inl (fun _ => 0))), (q_33, .inl (cI, 24, .inl (upd (upd (upd (upd (upd (upd (upd (upd (upd (upd (upd (upd (upd (upd (upd (upd (upd (upd (upd (fun _ => 0) 0 115) 1 101) 2 116) 3 97) 4 100) 5 100) 6 109) 7 97) 8 120) 9 110) 10 101) 11 119) 12 103) 13 101) 14 116) 15 97) 16 115) 17 107) 18 100)))] := hV
  refine lv_dup hx hb dX7_init_391 rfl ?_
  refine lv_bipush (v := 19) hx hb dX7_init_392 (by decide) ?_
  refine lv_bipush (v := 111) hx hb dX7_init_394 (by decide) ?_
  refine x_iast (g := (upd (upd (upd (upd (upd (upd (upd (upd (upd (upd (upd (upd (upd (upd (upd (upd (upd (upd (upd (upd (fun _ => 0) 0 115) 1 101) 2 116) 3 97) 4 100) 5 100) 6 109) 7 97) 8 120) 9 110) 10 101) 11 119) 12 103) 13 101) 14 116) 15 97) 16 115) 17 107) 18 100) 19 111)) hB hV 22 rfl (by unfold vp_in; decide) rfl dX7_init_396 (fun H locs hV => ?_)
  have hV : Vx D A s.heap H locs [(h, .inr (7, [.int 0, .ref q_1, .ref q_2, .ref q_3, .ref q_4, .ref q_5, .ref q_6, .ref q_7, .ref q_8, .ref q_9, .ref q_10, .ref q_11, .ref q_12, .ref q_13, .ref q_14, .ref q_15, .ref q_16, .ref q_17, .ref q_18, .ref q_19, .ref q_20, .int 0, .int 0, .ref q_21, .int 0, .ref q_22, .ref q_23, .ref q_24, .ref q_25, .int 0, .int 0, .ref q_26, .ref q_27, .ref q_28, .int 0, .ref q_29, .int 0, .int 0, .int 0, .ref q_30, .ref q_31, .ref q_32, .null, .null, .null, .null, .null, .null, .null, .int 0, .int 0, .int 0, .int 0, .null, .null, .null, .null, .null, .null, .null, .int 0, .null, .null, .null, .null, .null, .null])), (q_5, .inl (cI, 6, .inl (fun _ => 0))), (q_6, .inl (cI, 6, .inl (fun _ => 0))), (q_7, .inl (cI, 48, .inl (fun _ => 0))), (q_8, .inl (cI, 12, .inl (fun _ => 0))), (q_9, .inl (cI, 12, .inl (fun _ => 0))), (q_10, .inl (cI, 192, .inl (fun _ => 0))), (q_11, .inl (cI, 192, .inl (fun _ => 0))), (q_12, .inl (cI, 192, .inl (fun _ => 0))), (q_13, .inl (cI, 192, .inl (fun _ => 0))), (q_14, .inl (cI, 2, .inl (fun _ => 0))), (q_15, .inl (cI, 12, .inl (fun _ => 0))), (q_16, .inl (cI, 12, .inl (fun _ => 0))), (q_17, .inl (cI, 96, .inl (fun _ => 0))), (q_18, .inl (cI, 96, .inl (fun _ => 0))), (q_19, .inl (cI, 96, .inl (fun _ => 0))), (q_20, .inl (cZ, 12, .inl (fun _ => 0))), (q_25, .inl (cI, 100, .inl (fun _ => 0))), (q_29, .inl (cI, 4, .inl (upd (upd (upd (upd (fun _ => 0) 0 1) 1 1) 2 1) 3 1))), (q_30, .inl (cI, 8, .inl (fun _ => 0))), (q_31, .inl (cI, 8, .inl (fun _ => 0))), (q_32, .inl (cI, 8, .inl (fun _ => 0))), (q_33, .inl (cI, 24, .inl (upd (upd (upd (upd (upd (upd (upd (upd (upd (upd (upd (upd (upd (upd (upd (upd (upd (upd (upd (upd (fun _ => 0) 0 115) 1 101) 2 116) 3 97) 4 100) 5 100) 6 109) 7 97) 8 120) 9 110) 10 101) 11 119) 12 103) 13 101) 14 116) 15 97) 16 115) 17 107) 18 100) 19 111)))] := hV
  refine lv_dup hx hb dX7_init_397 rfl ?_
  refine lv_bipush (v := 20) hx hb dX7_init_398 (by decide) ?_
  refine lv_iconst (v := 0) hx hb dX7_init_400 (by decide) ?_
  refine x_iast (g := (upd (upd (upd (upd (upd (upd (upd (upd (upd (upd (upd (upd (upd (upd (upd (upd (upd (upd (upd (upd (upd (fun _ => 0) 0 115) 1 101) 2 116) 3 97) 4 100) 5 100) 6 109) 7 97) 8 120) 9 110) 10 101) 11 119) 12 103) 13 101) 14 116) 15 97) 16 115) 17 107) 18 100) 19 111) 20 0)) hB hV 22 rfl (by unfold vp_in; decide) rfl dX7_init_401 (fun H locs hV => ?_)
  have hV : Vx D A s.heap H locs [(h, .inr (7, [.int 0, .ref q_1, .ref q_2, .ref q_3, .ref q_4, .ref q_5, .ref q_6, .ref q_7, .ref q_8, .ref q_9, .ref q_10, .ref q_11, .ref q_12, .ref q_13, .ref q_14, .ref q_15, .ref q_16, .ref q_17, .ref q_18, .ref q_19, .ref q_20, .int 0, .int 0, .ref q_21, .int 0, .ref q_22, .ref q_23, .ref q_24, .ref q_25, .int 0, .int 0, .ref q_26, .ref q_27, .ref q_28, .int 0, .ref q_29, .int 0, .int 0, .int 0, .ref q_30, .ref q_31, .ref q_32, .null, .null, .null, .null, .null, .null, .null, .int 0, .int 0, .int 0, .int 0, .null, .null, .null, .null, .null, .null, .null, .int 0, .null, .null, .null, .null, .null, .null])), (q_5, .inl (cI, 6, .inl (fun _ => 0))), (q_6, .inl (cI, 6, .inl (fun _ => 0))), (q_7, .inl (cI, 48, .inl (fun _ => 0))), (q_8, .inl (cI, 12, .inl (fun _ => 0))), (q_9, .inl (cI, 12, .inl (fun _ => 0))), (q_10, .inl (cI, 192, .inl (fun _ => 0))), (q_11, .inl (cI, 192, .inl (fun _ => 0))), (q_12, .inl (cI, 192, .inl (fun _ => 0))), (q_13, .inl (cI, 192, .inl (fun _ => 0))), (q_14, .inl (cI, 2, .inl (fun _ => 0))), (q_15, .inl (cI, 12, .inl (fun _ => 0))), (q_16, .inl (cI, 12, .inl (fun _ => 0))), (q_17, .inl (cI, 96, .inl (fun _ => 0))), (q_18, .inl (cI, 96, .inl (fun _ => 0))), (q_19, .inl (cI, 96, .inl (fun _ => 0))), (q_20, .inl (cZ, 12, .inl (fun _ => 0))), (q_25, .inl (cI, 100, .inl (fun _ => 0))), (q_29, .inl (cI, 4, .inl (upd (upd (upd (upd (fun _ => 0) 0 1) 1 1) 2 1) 3 1))), (q_30, .inl (cI, 8, .inl (fun _ => 0))), (q_31, .inl (cI, 8, .inl (fun _ => 0))), (q_32, .inl (cI, 8, .inl (fun _ => 0))), (q_33, .inl (cI, 24, .inl (upd (upd (upd (upd (upd (upd (upd (upd (upd (upd (upd (upd (upd (upd (upd (upd (upd (upd (upd (upd (upd (fun _ => 0) 0 115) 1 101) 2 116) 3 97) 4 100) 5 100) 6 109) 7 97) 8 120) 9 110) 10 101) 11 119) 12 103) 13 101) 14 116) 15 97) 16 115) 17 107) 18 100) 19 111) 20 0)))] := hV
  refine lv_dup hx hb dX7_init_402 rfl ?_
  refine lv_bipush (v := 21) hx hb dX7_init_403 (by decide) ?_
  refine lv_bipush (v := 105) hx hb dX7_init_405 (by decide) ?_
  refine x_iast (g := (upd (upd (upd (upd (upd (upd (upd (upd (upd (upd (upd (upd (upd (upd (upd (upd (upd (upd (upd (upd (upd (upd (fun _ => 0) 0 115) 1 101) 2 116) 3 97) 4 100) 5 100) 6 109) 7 97) 8 120) 9 110) 10 101) 11 119) 12 103) 13 101) 14 116) 15 97) 16 115) 17 107) 18 100) 19 111) 20 0) 21 105)) hB hV 22 rfl (by unfold vp_in; decide) rfl dX7_init_407 (fun H locs hV => ?_)
  have hV : Vx D A s.heap H locs [(h, .inr (7, [.int 0, .ref q_1, .ref q_2, .ref q_3, .ref q_4, .ref q_5, .ref q_6, .ref q_7, .ref q_8, .ref q_9, .ref q_10, .ref q_11, .ref q_12, .ref q_13, .ref q_14, .ref q_15, .ref q_16, .ref q_17, .ref q_18, .ref q_19, .ref q_20, .int 0, .int 0, .ref q_21, .int 0, .ref q_22, .ref q_23, .ref q_24, .ref q_25, .int 0, .int 0, .ref q_26, .ref q_27, .ref q_28, .int 0, .ref q_29, .int 0, .int 0, .int 0, .ref q_30, .ref q_31, .ref q_32, .null, .null, .null, .null, .null, .null, .null, .int 0, .int 0, .int 0, .int 0, .null, .null, .null, .null, .null, .null, .null, .int 0, .null, .null, .null, .null, .null, .null])), (q_5, .inl (cI, 6, .inl (fun _ => 0))), (q_6, .inl (cI, 6, .inl (fun _ => 0))), (q_7, .inl (cI, 48, .inl (fun _ => 0))), (q_8, .inl (cI, 12, .inl (fun _ => 0))), (q_9, .inl (cI, 12, .inl (fun _ => 0))), (q_10, .inl (cI, 192, .inl (fun _ => 0))), (q_11, .inl (cI, 192, .inl (fun _ => 0))), (q_12, .inl (cI, 192, .inl (fun _ => 0))), (q_13, .inl (cI, 192, .inl (fun _ => 0))), (q_14, .inl (cI, 2, .inl (fun _ => 0))), (q_15, .inl (cI, 12, .inl (fun _ => 0))), (q_16, .inl (cI, 12, .inl (fun _ => 0))), (q_17, .inl (cI, 96, .inl (fun _ => 0))), (q_18, .inl (cI, 96, .inl (fun _ => 0))), (q_19, .inl (cI, 96, .inl (fun _ => 0))), (q_20, .inl (cZ, 12, .inl (fun _ => 0))), (q_25, .inl (cI, 100, .inl (fun _ => 0))), (q_29, .inl (cI, 4, .inl (upd (upd (upd (upd (fun _ => 0) 0 1) 1 1) 2 1) 3 1))), (q_30, .inl (cI, 8, .inl (fun _ => 0))), (q_31, .inl (cI, 8, .inl (fun _ => 0))), (q_32, .inl (cI, 8, .inl (fun _ => 0))), (q_33, .inl (cI, 24, .inl (upd (upd (upd (upd (upd (upd (upd (upd (upd (upd (upd (upd (upd (upd (upd (upd (upd (upd (upd (upd (upd (upd (fun _ => 0) 0 115) 1 101) 2 116) 3 97) 4 100) 5 100) 6 109) 7 97) 8 120) 9 110) 10 101) 11 119) 12 103) 13 101) 14 116) 15 97) 16 115) 17 107) 18 100) 19 111) 20 0) 21 105)))] := hV
  refine lv_dup hx hb dX7_init_408 rfl ?_
  refine lv_bipush (v := 22) hx hb dX7_init_409 (by decide) ?_
  refine lv_bipush (v := 102) hx hb dX7_init_411 (by decide) ?_
  refine x_iast (g := (upd (upd (upd (upd (upd (upd (upd (upd (upd (upd (upd (upd (upd (upd (upd (upd (upd (upd (upd (upd (upd (upd (upd (fun _ => 0) 0 115) 1 101) 2 116) 3 97) 4 100) 5 100) 6 109) 7 97) 8 120) 9 110) 10 101) 11 119) 12 103) 13 101) 14 116) 15 97) 16 115) 17 107) 18 100) 19 111) 20 0) 21 105) 22 102)) hB hV 22 rfl (by unfold vp_in; decide) rfl dX7_init_413 (fun H locs hV => ?_)
  have hV : Vx D A s.heap H locs [(h, .inr (7, [.int 0, .ref q_1, .ref q_2, .ref q_3, .ref q_4, .ref q_5, .ref q_6, .ref q_7, .ref q_8, .ref q_9, .ref q_10, .ref q_11, .ref q_12, .ref q_13, .ref q_14, .ref q_15, .ref q_16, .ref q_17, .ref q_18, .ref q_19, .ref q_20, .int 0, .int 0, .ref q_21, .int 0, .ref q_22, .ref q_23, .ref q_24, .ref q_25, .int 0, .int 0, .ref q_26, .ref q_27, .ref q_28, .int 0, .ref q_29, .int 0, .int 0, .int 0, .ref q_30, .ref q_31, .ref q_32, .null, .null, .null, .null, .null, .null, .null, .int 0, .int 0, .int 0, .int 0, .null, .null, .null, .null, .null, .null, .null, .int 0, .null, .null, .null, .null, .null, .null])), (q_5, .inl (cI, 6, .inl (fun _ => 0))), (q_6, .inl (cI, 6, .inl (fun _ => 0))), (q_7, .inl (cI, 48, .inl (fun _ => 0))), (q_8, .inl (cI, 12, .inl (fun _ => 0))), (q_9, .inl (cI, 12, .inl (fun _ => 0))), (q_10, .inl (cI, 192, .inl (fun _ => 0))), (q_11, .inl (cI, 192, .inl (fun _ => 0))), (q_12, .inl (cI, 192, .inl (fun _ => 0))), (q_13, .inl (cI, 192, .inl (fun _ => 0))), (q_14, .inl (cI, 2, .inl (fun _ => 0))), (q_15, .inl (cI, 12, .inl (fun _ => 0))), (q_16, .inl (cI, 12, .inl (fun _ => 0))), (q_17, .inl (cI, 96, .inl (fun _ => 0))), (q_18, .inl (cI, 96, .inl (fun _ => 0))), (q_19, .inl (cI, 96, .inl (fun _ => 0))), (q_20, .inl (cZ, 12, .inl (fun _ => 0))), (q_25, .inl (cI, 100, .inl (fun _ => 0))), (q_29, .inl (cI, 4, .inl (upd (upd (upd (upd (fun _ => 0) 0 1) 1 1) 2 1) 3 1))), (q_30, .inl (cI, 8, .inl (fun _ => 0))), (q_31, .inl (cI, 8, .inl (fun _ => 0))), (q_32, .inl (cI, 8, .inl (fun _ => 0))), (q_33, .inl (cI, 24, .inl (upd (upd (upd (upd (upd (upd (upd (upd (upd (upd (upd (upd (upd (upd (upd (upd (upd (upd (upd (upd (upd (upd (upd (fun _ => 0) 0 115) 1 101) 2 116) 3 97) 4 100) 5 100) 6 109) 7 97) 8 120) 9 110) 10 101) 11 119) 12 103) 13 101) 14 116) 15 97) 16 115) 17 107) 18 100) 19 111) 20 0) 21 105) 22 102)))] := hV
  refine lv_dup hx hb dX7_init_414 rfl ?_
  refine lv_bipush (v := 23) hx hb dX7_init_415 (by decide) ?_
  refine lv_iconst (v := 0) hx hb dX7_init_417 (by decide) ?_
  refine x_iast (g := (upd (upd (upd (upd (upd (upd (upd (upd (upd (upd (upd (upd (upd (upd (upd (upd (upd (upd (upd (upd (upd (upd (upd (upd (fun _ => 0) 0 115) 1 101) 2 116) 3 97) 4 100) 5 100) 6 109) 7 97) 8 120) 9 110) 10 101) 11 119) 12 103) 13 101) 14 116) 15 97) 16 115) 17 107) 18 100) 19 111) 20 0) 21 105) 22 102) 23 0)) hB hV 22 rfl (by unfold vp_in; decide) rfl dX7_init_418 (fun H locs hV => ?_)
  have hV : Vx D A s.heap H locs [(h, .inr (7, [.int 0, .ref q_1, .ref q_2, .ref q_3, .ref q_4, .ref q_5, .ref q_6, .ref q_7, .ref q_8, .ref q_9, .ref q_10, .ref q_11, .ref q_12, .ref q_13, .ref q_14, .ref q_15, .ref q_16, .ref q_17, .ref q_18, .ref q_19, .ref q_20, .int 0, .int 0, .ref q_21, .int 0, .ref q_22, .ref q_23, .ref q_24, .ref q_25, .int 0, .int 0, .ref q_26, .ref q_27, .ref q_28, .int 0, .ref q_29, .int 0, .int 0, .int 0, .ref q_30, .ref q_31, .ref q_32, .null, .null, .null, .null, .null, .null, .null, .int 0, .int 0, .int 0, .int 0, .null, .null, .null, .null, .null, .null, .null, .int 0, .null, .null, .null, .null, .null, .null])), (q_5, .inl (cI, 6, .inl (fun _ => 0))), (q_6, .inl (cI, 6, .inl (fun _ => 0))), (q_7, .inl (cI, 48, .inl (fun _ => 0))), (q_8, .inl (cI, 12, .inl (fun _ => 0))), (q_9, .inl (cI, 12, .inl (fun _ => 0))), (q_10, .inl (cI, 192, .inl (fun _ => 0))), (q_11, .inl (cI, 192, .inl (fun _ => 0))), (q_12, .inl (cI, 192, .inl (fun _ => 0))), (q_13, .inl (cI, 192, .inl (fun _ => 0))), (q_14, .inl (cI, 2, .inl (fun _ => 0))), (q_15, .inl (cI, 12, .inl (fun _ => 0))), (q_16, .inl (cI, 12, .inl (fun _ => 0))), (q_17, .inl (cI, 96, .inl (fun _ => 0))), (q_18, .inl (cI, 96, .inl (fun _ => 0))), (q_19, .inl (cI, 96, .inl (fun _ => 0))), (q_20, .inl (cZ, 12, .inl (fun _ => 0))), (q_25, .inl (cI, 100, .inl (fun _ => 0))), (q_29, .inl (cI, 4, .inl (upd (upd (upd (upd (fun _ => 0) 0 1) 1 1) 2 1) 3 1))), (q_30, .inl (cI, 8, .inl (fun _ => 0))), (q_31, .inl (cI, 8, .inl (fun _ => 0))), (q_32, .inl (cI, 8, .inl (fun _ => 0))), (q_33, .inl (cI, 24, .inl (upd (upd (upd (upd (upd (upd (upd (upd (upd (upd (upd (upd (upd (upd (upd (upd (upd (upd (upd (upd (upd (upd (upd (upd (fun _ => 0) 0 115) 1 101) 2 116) 3 97) 4 100) 5 100) 6 109) 7 97) 8 120) 9 110) 10 101) 11 119) 12 103) 13 101) 14 116) 15 97) 16 115) 17 107) 18 100) 19 111) 20 0) 21 105) 22 102) 23 0)))] := hV
  refine x_putF (v := .ref q_33) hB hV hin 0 rfl rfl 42 (by decide) k_787 rfl rfl rfl rfl (Nat.le_of_ble_eq_true rfl) dX7_init_419 (fun H locs hV => ?_)
  have hV : Vx D A s.heap H locs [(h, .inr (7, [.int 0, .ref q_1, .ref q_2, .ref q_3, .ref q_4, .ref q_5, .ref q_6, .ref q_7, .ref q_8, .ref q_9, .ref q_10, .ref q_11, .ref q_12, .ref q_13, .ref q_14, .ref q_15, .ref q_16, .ref q_17, .ref q_18, .ref q_19, .ref q_20, .int 0, .int 0, .ref q_21, .int 0, .ref q_22, .ref q_23, .ref q_24, .ref q_25, .int 0, .int 0, .ref q_26, .ref q_27, .ref q_28, .int 0, .ref q_29, .int 0, .int 0, .int 0, .ref q_30, .ref q_31, .ref q_32, .ref q_33, .null, .null, .null, .null, .null, .null, .int 0, .int 0, .int 0, .int 0, .null, .null, .null, .null, .null, .null, .null, .int 0, .null, .null, .null, .null, .null, .null])), (q_5, .inl (cI, 6, .inl (fun _ => 0))), (q_6, .inl (cI, 6, .inl (fun _ => 0))), (q_7, .inl (cI, 48, .inl (fun _ => 0))), (q_8, .inl (cI, 12, .inl (fun _ => 0))), (q_9, .inl (cI, 12, .inl (fun _ => 0))), (q_10, .inl (cI, 192, .inl (fun _ => 0))), (q_11, .inl (cI, 192, .inl (fun _ => 0))), (q_12, .inl (cI, 192, .inl (fun _ => 0))), (q_13, .inl (cI, 192, .inl (fun _ => 0))), (q_14, .inl (cI, 2, .inl (fun _ => 0))), (q_15, .inl (cI, 12, .inl (fun _ => 0))), (q_16, .inl (cI, 12, .inl (fun _ => 0))), (q_17, .inl (cI, 96, .inl (fun _ => 0))), (q_18, .inl (cI, 96, .inl (fun _ => 0))), (q_19, .inl (cI, 96, .inl (fun _ => 0))), (q_20, .inl (cZ, 12, .inl (fun _ => 0))), (q_25, .inl (cI, 100, .inl (fun _ => 0))), (q_29, .inl (cI, 4, .inl (upd (upd (upd (upd (fun _ => 0) 0 1) 1 1) 2 1) 3 1))), (q_30, .inl (cI, 8, .inl (fun _ => 0))), (q_31, .inl (cI, 8, .inl (fun _ => 0))), (q_32, .inl (cI, 8, .inl (fun _ => 0))), (q_33, .inl (cI, 24, .inl (upd (upd (upd (upd (upd (upd (upd (upd (upd (upd (upd (upd (upd (upd (upd (upd (upd (upd (upd (upd (upd (upd (upd (upd (fun _ => 0) 0 115) 1 101) 2 116) 3 97) 4 100) 5 100) 6 109) 7 97) 8 120) 9 110) 10 101) 11 119) 12 103) 13 101) 14 116) 15 97) 16 115) 17 107) 18 100) 19 111) 20 0) 21 105) 22 102) 23 0)))] := hV
  refine lv_aload_n hx hb dX7_init_422 rfl (lv_at hl 0 rfl) ?_
  refine lv_bipush (v := 7) hx hb dX7_init_423 (by decide) ?_
  refine x_newi (N' := 7) hB hV k_101 (by decide) (by decide) (by decide) (Nat.le_of_ble_eq_true rfl) (Nat.le_of_ble_eq_true rfl) dX7_init_425 (fun q_34 H hV => ?_)
  have hV : Vx D A s.heap H locs [(h, .inr (7, [.int 0, .ref q_1, .ref q_2, .ref q_3, .ref q_4, .ref q_5, .ref q_6, .ref q_7, .ref q_8, .ref q_9, .ref q_10, .ref q_11, .ref q_12, .ref q_13, .ref q_14, .ref q_15, .ref q_16, .ref q_17, .ref q_18, .ref q_19, .ref q_20, .int 0, .int 0, .ref q_21, .int 0, .ref q_22, .ref q_23, .ref q_24, .ref q_25, .int 0, .int 0, .ref q_26, .ref q_27, .ref q_28, .int 0, .ref q_29, .int 0, .int 0, .int 0, .ref q_30, .ref q_31, .ref q_32, .ref q_33, .null, .null, .null, .null, .null, .null, .int 0, .int 0, .int 0, .int 0, .null, .null, .null, .null, .null, .null, .null, .int 0, .null, .null, .null, .null, .null, .null])), (q_5, .inl (cI, 6, .inl (fun _ => 0))), (q_6, .inl (cI, 6, .inl (fun _ => 0))), (q_7, .inl (cI, 48, .inl (fun _ => 0))), (q_8, .inl (cI, 12, .inl (fun _ => 0))), (q_9, .inl (cI, 12, .inl (fun _ => 0))), (q_10, .inl (cI, 192, .inl (fun _ => 0))), (q_11, .inl (cI, 192, .inl (fun _ => 0))), (q_12, .inl (cI, 192, .inl (fun _ => 0))), (q_13, .inl (cI, 192, .inl (fun _ => 0))), (q_14, .inl (cI, 2, .inl (fun _ => 0))), (q_15, .inl (cI, 12, .inl (fun _ => 0))), (q_16, .inl (cI, 12, .inl (fun _ => 0))), (q_17, .inl (cI, 96, .inl (fun _ => 0))), (q_18, .inl (cI, 96, .inl (fun _ => 0))), (q_19, .inl (cI, 96, .inl (fun _ => 0))), (q_20, .inl (cZ, 12, .inl (fun _ => 0))), (q_25, .inl (cI, 100, .inl (fun _ => 0))), (q_29, .inl (cI, 4, .inl (upd (upd (upd (upd (fun _ => 0) 0 1) 1 1) 2 1) 3 1))), (q_30, .inl (cI, 8, .inl (fun _ => 0))), (q_31, .inl (cI, 8, .inl (fun _ => 0))), (q_32, .inl (cI, 8, .inl (fun _ => 0))), (q_33, .inl (cI, 24, .inl (upd (upd (upd (upd (upd (upd (upd (upd (upd (upd (upd (upd (upd (upd (upd (upd (upd (upd (upd (upd (upd (upd (upd (upd (fun _ => 0) 0 115) 1 101) 2 116) 3 97) 4 100) 5 100) 6 109) 7 97) 8 120) 9 110) 10 101) 11 119) 12 103) 13 101) 14 116) 15 97) 16 115) 17 107) 18 100) 19 111) 20 0) 21 105) 22 102) 23 0))), (q_34, .inl (cI, 7, .inl (fun _ => 0)))] := hV
  refine W.widen (k := 34) (n := 1605) (Nat.le_of_ble_eq_true rfl) (Nat.le_of_ble_eq_true rfl) ?_
  refine x_putF (v := .ref q_34) hB hV hin 0 rfl rfl 43 (by decide) k_788 rfl rfl rfl rfl (Nat.le_of_ble_eq_true rfl) dX7_init_427 (fun H locs hV => ?_)
  have hV : Vx D A s.heap H locs [(h, .inr (7, [.int 0, .ref q_1, .ref q_2, .ref q_3, .ref q_4, .ref q_5, .ref q_6, .ref q_7, .ref q_8, .ref q_9, .ref q_10, .ref q_11, .ref q_12, .ref q_13, .ref q_14, .ref q_15, .ref q_16, .ref q_17, .ref q_18, .ref q_19, .ref q_20, .int 0, .int 0, .ref q_21, .int 0, .ref q_22, .ref q_23, .ref q_24, .ref q_25, .int 0, .int 0, .ref q_26, .ref q_27, .ref q_28, .int 0, .ref q_29, .int 0, .int 0, .int 0, .ref q_30, .ref q_31, .ref q_32, .ref q_33, .ref q_34, .null, .null, .null, .null, .null, .int 0, .int 0, .int 0, .int 0, .null, .null, .null, .null, .null, .null, .null, .int 0, .null, .null, .null, .null, .null, .null])), (q_5, .inl (cI, 6, .inl (fun _ => 0))), (q_6, .inl (cI, 6, .inl (fun _ => 0))), (q_7, .inl (cI, 48, .inl (fun _ => 0))), (q_8, .inl (cI, 12, .inl (fun _ => 0))), (q_9, .inl (cI, 12, .inl (fun _ => 0))), (q_10, .inl (cI, 192, .inl (fun _ => 0))), (q_11, .inl (cI, 192, .inl (fun _ => 0))), (q_12, .inl (cI, 192, .inl (fun _ => 0))), (q_13, .inl (cI, 192, .inl (fun _ => 0))), (q_14, .inl (cI, 2, .inl (fun _ => 0))), (q_15, .inl (cI, 12, .inl (fun _ => 0))), (q_16, .inl (cI, 12, .inl (fun _ => 0))), (q_17, .inl (cI, 96, .inl (fun _ => 0))), (q_18, .inl (cI, 96, .inl (fun _ => 0))), (q_19, .inl (cI, 96, .inl (fun _ => 0))), (q_20, .inl (cZ, 12, .inl (fun _ => 0))), (q_25, .inl (cI, 100, .inl (fun _ => 0))), (q_29, .inl (cI, 4, .inl (upd (upd (upd (upd (fun _ => 0) 0 1) 1 1) 2 1) 3 1))), (q_30, .inl (cI, 8, .inl (fun _ => 0))), (q_31, .inl (cI, 8, .inl (fun _ => 0))), (q_32, .inl (cI, 8, .inl (fun _ => 0))), (q_33, .inl (cI, 24, .inl (upd (upd (upd (upd (upd (upd (upd (upd (upd (upd (upd (upd (upd (upd (upd (upd (upd (upd (upd (upd (upd (upd (upd (upd (fun _ => 0) 0 115) 1 101) 2 116) 3 97) 4 100) 5 100) 6 109) 7 97) 8 120) 9 110) 10 101) 11 119) 12 103) 13 101) 14 116) 15 97) 16 115) 17 107) 18 100) 19 111) 20 0) 21 105) 22 102) 23 0))), (q_34, .inl (cI, 7, .inl (fun _ => 0)))] := hV
  have hV := Vx_sub (w := [(h, .inr (7, [.int 0, .ref q_1, .ref q_2, .ref q_3, .ref q_4, .ref q_5, .ref q_6, .ref q_7, .ref q_8, .ref q_9, .ref q_10, .ref q_11, .ref q_12, .ref q_13, .ref q_14, .ref q_15, .ref q_16, .ref q_17, .ref q_18, .ref q_19, .ref q_20, .int 0, .int 0, .ref q_21, .int 0, .ref q_22, .ref q_23, .ref q_24, .ref q_25, .int 0, .int 0, .ref q_26, .ref q_27, .ref q_28, .int 0, .ref q_29, .int 0, .int 0, .int 0, .ref q_30, .ref q_31, .ref q_32, .ref q_33, .ref q_34, .null, .null, .null, .null, .null, .int 0, .int 0, .int 0, .int 0, .null, .null, .null, .null, .null, .null, .null, .int 0, .null, .null, .null, .null, .null, .null])), (q_5, .inl (cI, 6, .inl (fun _ => 0))), (q_6, .inl (cI, 6, .inl (fun _ => 0))), (q_7, .inl (cI, 48, .inl (fun _ => 0))), (q_8, .inl (cI, 12, .inl (fun _ => 0))), (q_9, .inl (cI, 12, .inl (fun _ => 0))), (q_10, .inl (cI, 192, .inl (fun _ => 0))), (q_11, .inl (cI, 192, .inl (fun _ => 0))), (q_12, .inl (cI, 192, .inl (fun _ => 0))), (q_13, .inl (cI, 192, .inl (fun _ => 0))), (q_14, .inl (cI, 2, .inl (fun _ => 0))), (q_15, .inl (cI, 12, .inl (fun _ => 0))), (q_16, .inl (cI, 12, .inl (fun _ => 0))), (q_17, .inl (cI, 96, .inl (fun _ => 0))), (q_18, .inl (cI, 96, .inl (fun _ => 0))), (q_19, .inl (cI, 96, .inl (fun _ => 0))), (q_20, .inl (cZ, 12, .inl (fun _ => 0))), (q_25, .inl (cI, 100, .inl (fun _ => 0))), (q_29, .inl (cI, 4, .inl (upd (upd (upd (upd (fun _ => 0) 0 1) 1 1) 2 1) 3 1))), (q_30, .inl (cI, 8, .inl (fun _ => 0))), (q_31, .inl (cI, 8, .inl (fun _ => 0))), (q_32, .inl (cI, 8, .inl (fun _ => 0))), (q_33, .inl (cI, 24, .inl (upd (upd (upd (upd (upd (upd (upd (upd (upd (upd (upd (upd (upd (upd (upd (upd (upd (upd (upd (upd (upd (upd (upd (upd (fun _ => 0) 0 115) 1 101) 2 116) 3 97) 4 100) 5 100) 6 109) 7 97) 8 120) 9 110) 10 101) 11 119) 12 103) 13 101) 14 116) 15 97) 16 115) 17 107) 18 100) 19 111) 20 0) 21 105) 22 102) 23 0)))]) hV [0, 1, 2, 3, 4, 5, 6, 7, 8, 9, 10, 11, 12, 13, 14, 15, 16, 17, 18, 19, 20, 21, 22] rfl rfl (by decide)
  refine lv_aload_n hx hb dX7_init_430 rfl (lv_at hl 0 rfl) ?_
  refine lv_bipush (v := 7) hx hb dX7_init_431 (by decide) ?_
  refine x_newi (N' := 7) hB hV k_101 (by decide) (by decide) (by decide) (Nat.le_of_ble_eq_true rfl) (Nat.le_of_ble_eq_true rfl) dX7_init_433 (fun q_35 H hV => ?_)
  have hV : Vx D A s.heap H locs [(h, .inr (7, [.int 0, .ref q_1, .ref q_2, .ref q_3, .ref q_4, .ref q_5, .ref q_6, .ref q_7, .ref q_8, .ref q_9, .ref q_10, .ref q_11, .ref q_12, .ref q_13, .ref q_14, .ref q_15, .ref q_16, .ref q_17, .ref q_18, .ref q_19, .ref q_20, .int 0, .int 0, .ref q_21, .int 0, .ref q_22, .ref q_23, .ref q_24, .ref q_25, .int 0, .int 0, .ref q_26, .ref q_27, .ref q_28, .int 0, .ref q_29, .int 0, .int 0, .int 0, .ref q_30, .ref q_31, .ref q_32, .ref q_33, .ref q_34, .null, .null, .null, .null, .null, .int 0, .int 0, .int 0, .int 0, .null, .null, .null, .null, .null, .null, .null, .int 0, .null, .null, .null, .null, .null, .null])), (q_5, .inl (cI, 6, .inl (fun _ => 0))), (q_6, .inl (cI, 6, .inl (fun _ => 0))), (q_7, .inl (cI, 48, .inl (fun _ => 0))), (q_8, .inl (cI, 12, .inl (fun _ => 0))), (q_9, .inl (cI, 12, .inl (fun _ => 0))), (q_10, .inl (cI, 192, .inl (fun _ => 0))), (q_11, .inl (cI, 192, .inl (fun _ => 0))), (q_12, .inl (cI, 192, .inl (fun _ => 0))), (q_13, .inl (cI, 192, .inl (fun _ => 0))), (q_14, .inl (cI, 2, .inl (fun _ => 0))), (q_15, .inl (cI, 12, .inl (fun _ => 0))), (q_16, .inl (cI, 12, .inl (fun _ => 0))), (q_17, .inl (cI, 96, .inl (fun _ => 0))), (q_18, .inl (cI, 96, .inl (fun _ => 0))), (q_19, .inl (cI, 96, .inl (fun _ => 0))), (q_20, .inl (cZ, 12, .inl (fun _ => 0))), (q_25, .inl (cI, 100, .inl (fun _ => 0))), (q_29, .inl (cI, 4, .inl (upd (upd (upd (upd (fun _ => 0) 0 1) 1 1) 2 1) 3 1))), (q_30, .inl (cI, 8, .inl (fun _ => 0))), (q_31, .inl (cI, 8, .inl (fun _ => 0))), (q_32, .inl (cI, 8, .inl (fun _ => 0))), (q_33, .inl (cI, 24, .inl (upd (upd (upd (upd (upd (upd (upd (upd (upd (upd (upd (upd (upd (upd (upd (upd (upd (upd (upd (upd (upd (upd (upd (upd (fun _ => 0) 0 115) 1 101) 2 116) 3 97) 4 100) 5 100) 6 109) 7 97) 8 120) 9 110) 10 101) 11 119) 12 103) 13 101) 14 116) 15 97) 16 115) 17 107) 18 100) 19 111) 20 0) 21 105) 22 102) 23 0))), (q_35, .inl (cI, 7, .inl (fun _ => 0)))] := hV
  refine W.widen (k := 35) (n := 1612) (Nat.le_of_ble_eq_true rfl) (Nat.le_of_ble_eq_true rfl) ?_
  refine x_putF (v := .ref q_35) hB hV hin 0 rfl rfl 44 (by decide) k_789 rfl rfl rfl rfl (Nat.le_of_ble_eq_true rfl) dX7_init_435 (fun H locs hV => ?_)
  have hV : Vx D A s.heap H locs [(h, .inr (7, [.int 0, .ref q_1, .ref q_2, .ref q_3, .ref q_4, .ref q_5, .ref q_6, .ref q_7, .ref q_8, .ref q_9, .ref q_10, .ref q_11, .ref q_12, .ref q_13, .ref q_14, .ref q_15, .ref q_16, .ref q_17, .ref q_18, .ref q_19, .ref q_20, .int 0, .int 0, .ref q_21, .int 0, .ref q_22, .ref q_23, .ref q_24, .ref q_25, .int 0, .int 0, .ref q_26, .ref q_27, .ref q_28, .int 0, .ref q_29, .int 0, .int 0, .int 0, .ref q_30, .ref q_31, .ref q_32, .ref q_33, .ref q_34, .ref q_35, .null, .null, .null, .null, .int 0, .int 0, .int 0, .int 0, .null, .null, .null, .null, .null, .null, .null, .int 0, .null, .null, .null, .null, .null, .null])), (q_5, .inl (cI, 6, .inl (fun _ => 0))), (q_6, .inl (cI, 6, .inl (fun _ => 0))), (q_7, .inl (cI, 48, .inl (fun _ => 0))), (q_8, .inl (cI, 12, .inl (fun _ => 0))), (q_9, .inl (cI, 12, .inl (fun _ => 0))), (q_10, .inl (cI, 192, .inl (fun _ => 0))), (q_11, .inl (cI, 192, .inl (fun _ => 0))), (q_12, .inl (cI, 192, .inl (fun _ => 0))), (q_13, .inl (cI, 192, .inl (fun _ => 0))), (q_14, .inl (cI, 2, .inl (fun _ => 0))), (q_15, .inl (cI, 12, .inl (fun _ => 0))), (q_16, .inl (cI, 12, .inl (fun _ => 0))), (q_17, .inl (cI, 96, .inl (fun _ => 0))), (q_18, .inl (cI, 96, .inl (fun _ => 0))), (q_19, .inl (cI, 96, .inl (fun _ => 0))), (q_20, .inl (cZ, 12, .inl (fun _ => 0))), (q_25, .inl (cI, 100, .inl (fun _ => 0))), (q_29, .inl (cI, 4, .inl (upd (upd (upd (upd (fun _ => 0) 0 1) 1 1) 2 1) 3 1))), (q_30, .inl (cI, 8, .inl (fun _ => 0))), (q_31, .inl (cI, 8, .inl (fun _ => 0))), (q_32, .inl (cI, 8, .inl (fun _ => 0))), (q_33, .inl (cI, 24, .inl (upd (upd (upd (upd (upd (upd (upd (upd (upd (upd (upd (upd (upd (upd (upd (upd (upd (upd (upd (upd (upd (upd (upd (upd (fun _ => 0) 0 115) 1 101) 2 116) 3 97) 4 100) 5 100) 6 109) 7 97) 8 120) 9 110) 10 101) 11 119) 12 103) 13 101) 14 116) 15 97) 16 115) 17 107) 18 100) 19 111) 20 0) 21 105) 22 102) 23 0))), (q_35, .inl (cI, 7, .inl (fun _ => 0)))] := hV
  have hV := Vx_sub (w := [(h, .inr (7, [.int 0, .ref q_1, .ref q_2, .ref q_3, .ref q_4, .ref q_5, .ref q_6, .ref q_7, .ref q_8, .ref q_9, .ref q_10, .ref q_11, .ref q_12, .ref q_13, .ref q_14, .ref q_15, .ref q_16, .ref q_17, .ref q_18, .ref q_19, .ref q_20, .int 0, .int 0, .ref q_21, .int 0, .ref q_22, .ref q_23, .ref q_24, .ref q_25, .int 0, .int 0, .ref q_26, .ref q_27, .ref q_28, .int 0, .ref q_29, .int 0, .int 0, .int 0, .ref q_30, .ref q_31, .ref q_32, .ref q_33, .ref q_34, .ref q_35, .null, .null, .null, .null, .int 0, .int 0, .int 0, .int 0, .null, .null, .null, .null, .null, .null, .null, .int 0, .null, .null, .null, .null, .null, .null])), (q_5, .inl (cI, 6, .inl (fun _ => 0))), (q_6, .inl (cI, 6, .inl (fun _ => 0))), (q_7, .inl (cI, 48, .inl (fun _ => 0))), (q_8, .inl (cI, 12, .inl (fun _ => 0))), (q_9, .inl (cI, 12, .inl (fun _ => 0))), (q_10, .inl (cI, 192, .inl (fun _ => 0))), (q_11, .inl (cI, 192, .inl (fun _ => 0))), (q_12, .inl (cI, 192, .inl (fun _ => 0))), (q_13, .inl (cI, 192, .inl (fun _ => 0))), (q_14, .inl (cI, 2, .inl (fun _ => 0))), (q_15, .inl (cI, 12, .inl (fun _ => 0))), (q_16, .inl (cI, 12, .inl (fun _ => 0))), (q_17, .inl (cI, 96, .inl (fun _ => 0))), (q_18, .inl (cI, 96, .inl (fun _ => 0))), (q_19, .inl (cI, 96, .inl (fun _ => 0))), (q_20, .inl (cZ, 12, .inl (fun _ => 0))), (q_25, .inl (cI, 100, .inl (fun _ => 0))), (q_29, .inl (cI, 4, .inl (upd (upd (upd (upd (fun _ => 0) 0 1) 1 1) 2 1) 3 1))), (q_30, .inl (cI, 8, .inl (fun _ => 0))), (q_31, .inl (cI, 8, .inl (fun _ => 0))), (q_32, .inl (cI, 8, .inl (fun _ => 0))), (q_33, .inl (cI, 24, .inl (upd (upd (upd (upd (upd (upd (upd (upd (upd (upd (upd (upd (upd (upd (upd (upd (upd (upd (upd (upd (upd (upd (upd (upd (fun _ => 0) 0 115) 1 101) 2 116) 3 97) 4 100) 5 100) 6 109) 7 97) 8 120) 9 110) 10 101) 11 119) 12 103) 13 101) 14 116) 15 97) 16 115) 17 107) 18 100) 19 111) 20 0) 21 105) 22 102) 23 0)))]) hV [0, 1, 2, 3, 4, 5, 6, 7, 8, 9, 10, 11, 12, 13, 14, 15, 16, 17, 18, 19, 20, 21, 22] rfl rfl (by decide)
  refine lv_aload_n hx hb dX7_init_438 rfl (lv_at hl 0 rfl) ?_
  refine lv_bipush (v := 7) hx hb dX7_init_439 (by decide) ?_
  refine x_newi (N' := 7) hB hV k_101 (by decide) (by decide) (by decide) (Nat.le_of_ble_eq_true rfl) (Nat.le_of_ble_eq_true rfl) dX7_init_441 (fun q_36 H hV => ?_)
  have hV : Vx D A s.heap H locs [(h, .inr (7, [.int 0, .ref q_1, .ref q_2, .ref q_3, .ref q_4, .ref q_5, .ref q_6, .ref q_7, .ref q_8, .ref q_9, .ref q_10, .ref q_11, .ref q_12, .ref q_13, .ref q_14, .ref q_15, .ref q_16, .ref q_17, .ref q_18, .ref q_19, .ref q_20, .int 0, .int 0, .ref q_21, .int 0, .ref q_22, .ref q_23, .ref q_24, .ref q_25, .int 0, .int 0, .ref q_26, .ref q_27, .ref q_28, .int 0, .ref q_29, .int 0, .int 0, .int 0, .ref q_30, .ref q_31, .ref q_32, .ref q_33, .ref q_34, .ref q_35, .null, .null, .null, .null, .int 0, .int 0, .int 0, .int 0, .null, .null, .null, .null, .null, .null, .null, .int 0, .null, .null, .null, .null, .null, .null])), (q_5, .inl (cI, 6, .inl (fun _ => 0))), (q_6, .inl (cI, 6, .inl (fun _ => 0))), (q_7, .inl (cI, 48, .inl (fun _ => 0))), (q_8, .inl (cI, 12, .inl (fun _ => 0))), (q_9, .inl (cI, 12, .inl (fun _ => 0))), (q_10, .inl (cI, 192, .inl (fun _ => 0))), (q_11, .inl (cI, 192, .inl (fun _ => 0))), (q_12, .inl (cI, 192, .inl (fun _ => 0))), (q_13, .inl (cI, 192, .inl (fun _ => 0))), (q_14, .inl (cI, 2, .inl (fun _ => 0))), (q_15, .inl (cI, 12, .inl (fun _ => 0))), (q_16, .inl (cI, 12, .inl (fun _ => 0))), (q_17, .inl (cI, 96, .inl (fun _ => 0))), (q_18, .inl (cI, 96, .inl (fun _ => 0))), (q_19, .inl (cI, 96, .inl (fun _ => 0))), (q_20, .inl (cZ, 12, .inl (fun _ => 0))), (q_25, .inl (cI, 100, .inl (fun _ => 0))), (q_29, .inl (cI, 4, .inl (upd (upd (upd (upd (fun _ => 0) 0 1) 1 1) 2 1) 3 1))), (q_30, .inl (cI, 8, .inl (fun _ => 0))), (q_31, .inl (cI, 8, .inl (fun _ => 0))), (q_32, .inl (cI, 8, .inl (fun _ => 0))), (q_33, .inl (cI, 24, .inl (upd (upd (upd (upd (upd (upd (upd (upd (upd (upd (upd (upd (upd (upd (upd (upd (upd (upd (upd (upd (upd (upd (upd (upd (fun _ => 0) 0 115) 1 101) 2 116) 3 97) 4 100) 5 100) 6 109) 7 97) 8 120) 9 110) 10 101) 11 119) 12 103) 13 101) 14 116) 15 97) 16 115) 17 107) 18 100) 19 111) 20 0) 21 105) 22 102) 23 0))), (q_36, .inl (cI, 7, .inl (fun _ => 0)))] := hV
  refine W.widen (k := 36) (n := 1619) (Nat.le_of_ble_eq_true rfl) (Nat.le_of_ble_eq_true rfl) ?_
  refine x_putF (v := .ref q_36) hB hV hin 0 rfl rfl 45 (by decide) k_790 rfl rfl rfl rfl (Nat.le_of_ble_eq_true rfl) dX7_init_443 (fun H locs hV => ?_)
  have hV : Vx D A s.heap H locs [(h, .inr (7, [.int 0, .ref q_1, .ref q_2, .ref q_3, .ref q_4, .ref q_5, .ref q_6, .ref q_7, .ref q_8, .ref q_9, .ref q_10, .ref q_11, .ref q_12, .ref q_13, .ref q_14, .ref q_15, .ref q_16, .ref q_17, .ref q_18, .ref q_19, .ref q_20, .int 0, .int 0, .ref q_21, .int 0, .ref q_22, .ref q_23, .ref q_24, .ref q_25, .int 0, .int 0, .ref q_26, .ref q_27, .ref q_28, .int 0, .ref q_29, .int 0, .int 0, .int 0, .ref q_30, .ref q_31, .ref q_32, .ref q_33, .ref q_34, .ref q_35, .ref q_36, .null, .null, .null, .int 0, .int 0, .int 0, .int 0, .null, .null, .null, .null, .null, .null, .null, .int 0, .null, .null, .null, .null, .null, .null])), (q_5, .inl (cI, 6, .inl (fun _ => 0))), (q_6, .inl (cI, 6, .inl (fun _ => 0))), (q_7, .inl (cI, 48, .inl (fun _ => 0))), (q_8, .inl (cI, 12, .inl (fun _ => 0))), (q_9, .inl (cI, 12, .inl (fun _ => 0))), (q_10, .inl (cI, 192, .inl (fun _ => 0))), (q_11, .inl (cI, 192, .inl (fun _ => 0))), (q_12, .inl (cI, 192, .inl (fun _ => 0))), (q_13, .inl (cI, 192, .inl (fun _ => 0))), (q_14, .inl (cI, 2, .inl (fun _ => 0))), (q_15, .inl (cI, 12, .inl (fun _ => 0))), (q_16, .inl (cI, 12, .inl (fun _ => 0))), (q_17, .inl (cI, 96, .inl (fun _ => 0))), (q_18, .inl (cI, 96, .inl (fun _ => 0))), (q_19, .inl (cI, 96, .inl (fun _ => 0))), (q_20, .inl (cZ, 12, .inl (fun _ => 0))), (q_25, .inl (cI, 100, .inl (fun _ => 0))), (q_29, .inl (cI, 4, .inl (upd (upd (upd (upd (fun _ => 0) 0 1) 1 1) 2 1) 3 1))), (q_30, .inl (cI, 8, .inl (fun _ => 0))), (q_31, .inl (cI, 8, .inl (fun _ => 0))), (q_32, .inl (cI, 8, .inl (fun _ => 0))), (q_33, .inl (cI, 24, .inl (upd (upd (upd (upd (upd (upd (upd (upd (upd (upd (upd (upd (upd (upd (upd (upd (upd (upd (upd (upd (upd (upd (upd (upd (fun _ => 0) 0 115) 1 101) 2 116) 3 97) 4 100) 5 100) 6 109) 7 97) 8 120) 9 110) 10 101) 11 119) 12 103) 13 101) 14 116) 15 97) 16 115) 17 107) 18 100) 19 111) 20 0) 21 105) 22 102) 23 0))), (q_36, .inl (cI, 7, .inl (fun _ => 0)))] := hV
  have hV := Vx_sub (w := [(h, .inr (7, [.int 0, .ref q_1, .ref q_2, .ref q_3, .ref q_4, .ref q_5, .ref q_6, .ref q_7, .ref q_8, .ref q_9, .ref q_10, .ref q_11, .ref q_12, .ref q_13, .ref q_14, .ref q_15, .ref q_16, .ref q_17, .ref q_18, .ref q_19, .ref q_20, .int 0, .int 0, .ref q_21, .int 0, .ref q_22, .ref q_23, .ref q_24, .ref q_25, .int 0, .int 0, .ref q_26, .ref q_27, .ref q_28, .int 0, .ref q_29, .int 0, .int 0, .int 0, .ref q_30, .ref q_31, .ref q_32, .ref q_33, .ref q_34, .ref q_35, .ref q_36, .null, .null, .null, .int 0, .int 0, .int 0, .int 0, .null, .null, .null, .null, .null, .null, .null, .int 0, .null, .null, .null, .null, .null, .null])), (q_5, .inl (cI, 6, .inl (fun _ => 0))), (q_6, .inl (cI, 6, .inl (fun _ => 0))), (q_7, .inl (cI, 48, .inl (fun _ => 0))), (q_8, .inl (cI, 12, .inl (fun _ => 0))), (q_9, .inl (cI, 12, .inl (fun _ => 0))), (q_10, .inl (cI, 192, .inl (fun _ => 0))), (q_11, .inl (cI, 192, .inl (fun _ => 0))), (q_12, .inl (cI, 192, .inl (fun _ => 0))), (q_13, .inl (cI, 192, .inl (fun _ => 0))), (q_14, .inl (cI, 2, .inl (fun _ => 0))), (q_15, .inl (cI, 12, .inl (fun _ => 0))), (q_16, .inl (cI, 12, .inl (fun _ => 0))), (q_17, .inl (cI, 96, .inl (fun _ => 0))), (q_18, .inl (cI, 96, .inl (fun _ => 0))), (q_19, .inl (cI, 96, .inl (fun _ => 0))), (q_20, .inl (cZ, 12, .inl (fun _ => 0))), (q_25, .inl (cI, 100, .inl (fun _ => 0))), (q_29, .inl (cI, 4, .inl (upd (upd (upd (upd (fun _ => 0) 0 1) 1 1) 2 1) 3 1))), (q_30, .inl (cI, 8, .inl (fun _ => 0))), (q_31, .inl (cI, 8, .inl (fun _ => 0))), (q_32, .inl (cI, 8, .inl (fun _ => 0))), (q_33, .inl (cI, 24, .inl (upd (upd (upd (upd (upd (upd (upd (upd (upd (upd (upd (upd (upd (upd (upd (upd (upd (upd (upd (upd (upd (upd (upd (upd (fun _ => 0) 0 115) 1 101) 2 116) 3 97) 4 100) 5 100) 6 109) 7 97) 8 120) 9 110) 10 101) 11 119) 12 103) 13 101) 14 116) 15 97) 16 115) 17 107) 18 100) 19 111) 20 0) 21 105) 22 102) 23 0)))]) hV [0, 1, 2, 3, 4, 5, 6, 7, 8, 9, 10, 11, 12, 13, 14, 15, 16, 17, 18, 19, 20, 21, 22] rfl rfl (by decide)
  refine lv_aload_n hx hb dX7_init_446 rfl (lv_at hl 0 rfl) ?_
  refine lv_bipush (v := 7) hx hb dX7_init_447 (by decide) ?_
  refine x_newi (N' := 7) hB hV k_101 (by decide) (by decide) (by decide) (Nat.le_of_ble_eq_true rfl) (Nat.le_of_ble_eq_true rfl) dX7_init_449 (fun q_37 H hV => ?_)
  have hV : Vx D A s.heap H locs [(h, .inr (7, [.int 0, .ref q_1, .ref q_2, .ref q_3, .ref q_4, .ref q_5, .ref q_6, .ref q_7, .ref q_8, .ref q_9, .ref q_10, .ref q_11, .ref q_12, .ref q_13, .ref q_14, .ref q_15, .ref q_16, .ref q_17, .ref q_18, .ref q_19, .ref q_20, .int 0, .int 0, .ref q_21, .int 0, .ref q_22, .ref q_23, .ref q_24, .ref q_25, .int 0, .int 0, .ref q_26, .ref q_27, .ref q_28, .int 0, .ref q_29, .int 0, .int 0, .int 0, .ref q_30, .ref q_31, .ref q_32, .ref q_33, .ref q_34, .ref q_35, .ref q_36, .null, .null, .null, .int 0, .int 0, .int 0, .int 0, .null, .null, .null, .null, .null, .null, .null, .int 0, .null, .null, .null, .null, .null, .null])), (q_5, .inl (cI, 6, .inl (fun _ => 0))), (q_6, .inl (cI, 6, .inl (fun _ => 0))), (q_7, .inl (cI, 48, .inl (fun _ => 0))), (q_8, .inl (cI, 12, .inl (fun _ => 0))), (q_9, .inl (cI, 12, .inl (fun _ => 0))), (q_10, .inl (cI, 192, .inl (fun _ => 0))), (q_11, .inl (cI, 192, .inl (fun _ => 0))), (q_12, .inl (cI, 192, .inl (fun _ => 0))), (q_13, .inl (cI, 192, .inl (fun _ => 0))), (q_14, .inl (cI, 2, .inl (fun _ => 0))), (q_15, .inl (cI, 12, .inl (fun _ => 0))), (q_16, .inl (cI, 12, .inl (fun _ => 0))), (q_17, .inl (cI, 96, .inl (fun _ => 0))), (q_18, .inl (cI, 96, .inl (fun _ => 0))), (q_19, .inl (cI, 96, .inl (fun _ => 0))), (q_20, .inl (cZ, 12, .inl (fun _ => 0))), (q_25, .inl (cI, 100, .inl (fun _ => 0))), (q_29, .inl (cI, 4, .inl (upd (upd (upd (upd (fun _ => 0) 0 1) 1 1) 2 1) 3 1))), (q_30, .inl (cI, 8, .inl (fun _ => 0))), (q_31, .inl (cI, 8, .inl (fun _ => 0))), (q_32, .inl (cI, 8, .inl (fun _ => 0))), (q_33, .inl (cI, 24, .inl (upd (upd (upd (upd (upd (upd (upd (upd (upd (upd (upd (upd (upd (upd (upd (upd (upd (upd (upd (upd (upd (upd (upd (upd (fun _ => 0) 0 115) 1 101) 2 116) 3 97) 4 100) 5 100) 6 109) 7 97) 8 120) 9 110) 10 101) 11 119) 12 103) 13 101) 14 116) 15 97) 16 115) 17 107) 18 100) 19 111) 20 0) 21 105) 22 102) 23 0))), (q_37, .inl (cI, 7, .inl (fun _ => 0)))] := hV
  refine W.widen (k := 37) (n := 1626) (Nat.le_of_ble_eq_true rfl) (Nat.le_of_ble_eq_true rfl) ?_
  refine x_putF (v := .ref q_37) hB hV hin 0 rfl rfl 46 (by decide) k_791 rfl rfl rfl rfl (Nat.le_of_ble_eq_true rfl) dX7_init_451 (fun H locs hV => ?_)
  have hV : Vx D A s.heap H locs [(h, .inr (7, [.int 0, .ref q_1, .ref q_2, .ref q_3, .ref q_4, .ref q_5, .ref q_6, .ref q_7, .ref q_8, .ref q_9, .ref q_10, .ref q_11, .ref q_12, .ref q_13, .ref q_14, .ref q_15, .ref q_16, .ref q_17, .ref q_18, .ref q_19, .ref q_20, .int 0, .int 0, .ref q_21, .int 0, .ref q_22, .ref q_23, .ref q_24, .ref q_25, .int 0, .int 0, .ref q_26, .ref q_27, .ref q_28, .int 0, .ref q_29, .int 0, .int 0, .int 0, .ref q_30, .ref q_31, .ref q_32, .ref q_33, .ref q_34, .ref q_35, .ref q_36, .ref q_37, .null, .null, .int 0, .int 0, .int 0, .int 0, .null, .null, .null, .null, .null, .null, .null, .int 0, .null, .null, .null, .null, .null, .null])), (q_5, .inl (cI, 6, .inl (fun _ => 0))), (q_6, .inl (cI, 6, .inl (fun _ => 0))), (q_7, .inl (cI, 48, .inl (fun _ => 0))), (q_8, .inl (cI, 12, .inl (fun _ => 0))), (q_9, .inl (cI, 12, .inl (fun _ => 0))), (q_10, .inl (cI, 192, .inl (fun _ => 0))), (q_11, .inl (cI, 192, .inl (fun _ => 0))), (q_12, .inl (cI, 192, .inl (fun _ => 0))), (q_13, .inl (cI, 192, .inl (fun _ => 0))), (q_14, .inl (cI, 2, .inl (fun _ => 0))), (q_15, .inl (cI, 12, .inl (fun _ => 0))), (q_16, .inl (cI, 12, .inl (fun _ => 0))), (q_17, .inl (cI, 96, .inl (fun _ => 0))), (q_18, .inl (cI, 96, .inl (fun _ => 0))), (q_19, .inl (cI, 96, .inl (fun _ => 0))), (q_20, .inl (cZ, 12, .inl (fun _ => 0))), (q_25, .inl (cI, 100, .inl (fun _ => 0))), (q_29, .inl (cI, 4, .inl (upd (upd (upd (upd (fun _ => 0) 0 1) 1 1) 2 1) 3 1))), (q_30, .inl (cI, 8, .inl (fun _ => 0))), (q_31, .inl (cI, 8, .inl (fun _ => 0))), (q_32, .inl (cI, 8, .inl (fun _ => 0))), (q_33, .inl (cI, 24, .inl (upd (upd (upd (upd (upd (upd (upd (upd (upd (upd (upd (upd (upd (upd (upd (upd (upd (upd (upd (upd (upd (upd (upd (upd (fun _ => 0) 0 115) 1 101) 2 116) 3 97) 4 100) 5 100) 6 109) 7 97) 8 120) 9 110) 10 101) 11 119) 12 103) 13 101) 14 116) 15 97) 16 115) 17 107) 18 100) 19 111) 20 0) 21 105) 22 102) 23 0))), (q_37, .inl (cI, 7, .inl (fun _ => 0)))] := hV
  have hV := Vx_sub (w := [(h, .inr (7, [.int 0, .ref q_1, .ref q_2, .ref q_3, .ref q_4, .ref q_5, .ref q_6, .ref q_7, .ref q_8, .ref q_9, .ref q_10, .ref q_11, .ref q_12, .ref q_13, .ref q_14, .ref q_15, .ref q_16, .ref q_17, .ref q_18, .ref q_19, .ref q_20, .int 0, .int 0, .ref q_21, .int 0, .ref q_22, .ref q_23, .ref q_24, .ref q_25, .int 0, .int 0, .ref q_26, .ref q_27, .ref q_28, .int 0, .ref q_29, .int 0, .int 0, .int 0, .ref q_30, .ref q_31, .ref q_32, .ref q_33, .ref q_34, .ref q_35, .ref q_36, .ref q_37, .null, .null, .int 0, .int 0, .int 0, .int 0, .null, .null, .null, .null, .null, .null, .null, .int 0, .null, .null, .null, .null, .null, .null])), (q_5, .inl (cI, 6, .inl (fun _ => 0))), (q_6, .inl (cI, 6, .inl (fun _ => 0))), (q_7, .inl (cI, 48, .inl (fun _ => 0))), (q_8, .inl (cI, 12, .inl (fun _ => 0))), (q_9, .inl (cI, 12, .inl (fun _ => 0))), (q_10, .inl (cI, 192, .inl (fun _ => 0))), (q_11, .inl (cI, 192, .inl (fun _ => 0))), (q_12, .inl (cI, 192, .inl (fun _ => 0))), (q_13, .inl (cI, 192, .inl (fun _ => 0))), (q_14, .inl (cI, 2, .inl (fun _ => 0))), (q_15, .inl (cI, 12, .inl (fun _ => 0))), (q_16, .inl (cI, 12, .inl (fun _ => 0))), (q_17, .inl (cI, 96, .inl (fun _ => 0))), (q_18, .inl (cI, 96, .inl (fun _ => 0))), (q_19, .inl (cI, 96, .inl (fun _ => 0))), (q_20, .inl (cZ, 12, .inl (fun _ => 0))), (q_25, .inl (cI, 100, .inl (fun _ => 0))), (q_29, .inl (cI, 4, .inl (upd (upd (upd (upd (fun _ => 0) 0 1) 1 1) 2 1) 3 1))), (q_30, .inl (cI, 8, .inl (fun _ => 0))), (q_31, .inl (cI, 8, .inl (fun _ => 0))), (q_32, .inl (cI, 8, .inl (fun _ => 0))), (q_33, .inl (cI, 24, .inl (upd (upd (upd (upd (upd (upd (upd (upd (upd (upd (upd (upd (upd (upd (upd (upd (upd (upd (upd (upd (upd (upd (upd (upd (fun _ => 0) 0 115) 1 101) 2 116) 3 97) 4 100) 5 100) 6 109) 7 97) 8 120) 9 110) 10 101) 11 119) 12 103) 13 101) 14 116) 15 97) 16 115) 17 107) 18 100) 19 111) 20 0) 21 105) 22 102) 23 0)))]) hV [0, 1, 2, 3, 4, 5, 6, 7, 8, 9, 10, 11, 12, 13, 14, 15, 16, 17, 18, 19, 20, 21, 22] rfl rfl (by decide)
  refine lv_aload_n hx hb dX7_init_454 rfl (lv_at hl 0 rfl) ?_
  refine lv_bipush (v := 7) hx hb dX7_init_455 (by decide) ?_
  refine x_newi (N' := 7) hB hV k_101 (by decide) (by decide) (by decide) (Nat.le_of_ble_eq_true rfl) (Nat.le_of_ble_eq_true rfl) dX7_init_457 (fun q_38 H hV => ?_)
  have hV : Vx D A s.heap H locs [(h, .inr (7, [.int 0, .ref q_1, .ref q_2, .ref q_3, .ref q_4, .ref q_5, .ref q_6, .ref q_7, .ref q_8, .ref q_9, .ref q_10, .ref q_11, .ref q_12, .ref q_13, .ref q_14, .ref q_15, .ref q_16, .ref q_17, .ref q_18, .ref q_19, .ref q_20, .int 0, .int 0, .ref q_21, .int 0, .ref q_22, .ref q_23, .ref q_24, .ref q_25, .int 0, .int 0, .ref q_26, .ref q_27, .ref q_28, .int 0, .ref q_29, .int 0, .int 0, .int 0, .ref q_30, .ref q_31, .ref q_32, .ref q_33, .ref q_34, .ref q_35, .ref q_36, .ref q_37, .null, .null, .int 0, .int 0, .int 0, .int 0, .null, .null, .null, .null, .null, .null, .null, .int 0, .null, .null, .null, .null, .null, .null])), (q_5, .inl (cI, 6, .inl (fun _ => 0))), (q_6, .inl (cI, 6, .inl (fun _ => 0))), (q_7, .inl (cI, 48, .inl (fun _ => 0))), (q_8, .inl (cI, 12, .inl (fun _ => 0))), (q_9, .inl (cI, 12, .inl (fun _ => 0))), (q_10, .inl (cI, 192, .inl (fun _ => 0))), (q_11, .inl (cI, 192, .inl (fun _ => 0))), (q_12, .inl (cI, 192, .inl (fun _ => 0))), (q_13, .inl (cI, 192, .inl (fun _ => 0))), (q_14, .inl (cI, 2, .inl (fun _ => 0))), (q_15, .inl (cI, 12, .inl (fun _ => 0))), (q_16, .inl (cI, 12, .inl (fun _ => 0))), (q_17, .inl (cI, 96, .inl (fun _ => 0))), (q_18, .inl (cI, 96, .inl (fun _ => 0))), (q_19, .inl (cI, 96, .inl (fun _ => 0))), (q_20, .inl (cZ, 12, .inl (fun _ => 0))), (q_25, .inl (cI, 100, .inl (fun _ => 0))), (q_29, .inl (cI, 4, .inl (upd (upd (upd (upd (fun _ => 0) 0 1) 1 1) 2 1) 3 1))), (q_30, .inl (cI, 8, .inl (fun _ => 0))), (q_31, .inl (cI, 8, .inl (fun _ => 0))), (q_32, .inl (cI, 8, .inl (fun _ => 0))), (q_33, .inl (cI, 24, .inl (upd (upd (upd (upd (upd (upd (upd (upd (upd (upd (upd (upd (upd (upd (upd (upd (upd (upd (upd (upd (upd (upd (upd (upd (fun _ => 0) 0 115) 1 101) 2 116) 3 97) 4 100) 5 100) 6 109) 7 97) 8 120) 9 110) 10 101) 11 119) 12 103) 13 101) 14 116) 15 97) 16 115) 17 107) 18 100) 19 111) 20 0) 21 105) 22 102) 23 0))), (q_38, .inl (cI, 7, .inl (fun _ => 0)))] := hV
  refine W.widen (k := 38) (n := 1633) (Nat.le_of_ble_eq_true rfl) (Nat.le_of_ble_eq_true rfl) ?_
  refine x_putF (v := .ref q_38) hB hV hin 0 rfl rfl 47 (by decide) k_792 rfl rfl rfl rfl (Nat.le_of_ble_eq_true rfl) dX7_init_459 (fun H locs hV => ?_)
  have hV : Vx D A s.heap H locs [(h, .inr (7, [.int 0, .ref q_1, .ref q_2, .ref q_3, .ref q_4, .ref q_5, .ref q_6, .ref q_7, .ref q_8, .ref q_9, .ref q_10, .ref q_11, .ref q_12, .ref q_13, .ref q_14, .ref q_15, .ref q_16, .ref q_17, .ref q_18, .ref q_19, .ref q_20, .int 0, .int 0, .ref q_21, .int 0, .ref q_22, .ref q_23, .ref q_24, .ref q_25, .int 0, .int 0, .ref q_26, .ref q_27, .ref q_28, .int 0, .ref q_29, .int 0, .int 0, .int 0, .ref q_30, .ref q_31, .ref q_32, .ref q_33, .ref q_34, .ref q_35, .ref q_36, .ref q_37, .ref q_38, .null, .int 0, .int 0, .int 0, .int 0, .null, .null, .null, .null, .null, .null, .null, .int 0, .null, .null, .null, .null, .null, .null])), (q_5, .inl (cI, 6, .inl (fun _ => 0))), (q_6, .inl (cI, 6, .inl (fun _ => 0))), (q_7, .inl (cI, 48, .inl (fun _ => 0))), (q_8, .inl (cI, 12, .inl (fun _ => 0))), (q_9, .inl (cI, 12, .inl (fun _ => 0))), (q_10, .inl (cI, 192, .inl (fun _ => 0))), (q_11, .inl (cI, 192, .inl (fun _ => 0))), (q_12, .inl (cI, 192, .inl (fun _ => 0))), (q_13, .inl (cI, 192, .inl (fun _ => 0))), (q_14, .inl (cI, 2, .inl (fun _ => 0))), (q_15, .inl (cI, 12, .inl (fun _ => 0))), (q_16, .inl (cI, 12, .inl (fun _ => 0))), (q_17, .inl (cI, 96, .inl (fun _ => 0))), (q_18, .inl (cI, 96, .inl (fun _ => 0))), (q_19, .inl (cI, 96, .inl (fun _ => 0))), (q_20, .inl (cZ, 12, .inl (fun _ => 0))), (q_25, .inl (cI, 100, .inl (fun _ => 0))), (q_29, .inl (cI, 4, .inl (upd (upd (upd (upd (fun _ => 0) 0 1) 1 1) 2 1) 3 1))), (q_30, .inl (cI, 8, .inl (fun _ => 0))), (q_31, .inl (cI, 8, .inl (fun _ => 0))), (q_32, .inl (cI, 8, .inl (fun _ => 0))), (q_33, .inl (cI, 24, .inl (upd (upd (upd (upd (upd (upd (upd (upd (upd (upd (upd (upd (upd (upd (upd (upd (upd (upd (upd (upd (upd (upd (upd (upd (fun _ => 0) 0 115) 1 101) 2 116) 3 97) 4 100) 5 100) 6 109) 7 97) 8 120) 9 110) 10 101) 11 119) 12 103) 13 101) 14 116) 15 97) 16 115) 17 107) 18 100) 19 111) 20 0) 21 105) 22 102) 23 0))), (q_38, .inl (cI, 7, .inl (fun _ => 0)))] := hV
  have hV := Vx_sub (w := [(h, .inr (7, [.int 0, .ref q_1, .ref q_2, .ref q_3, .ref q_4, .ref q_5, .ref q_6, .ref q_7, .ref q_8, .ref q_9, .ref q_10, .ref q_11, .ref q_12, .ref q_13, .ref q_14, .ref q_15, .ref q_16, .ref q_17, .ref q_18, .ref q_19, .ref q_20, .int 0, .int 0, .ref q_21, .int 0, .ref q_22, .ref q_23, .ref q_24, .ref q_25, .int 0, .int 0, .ref q_26, .ref q_27, .ref q_28, .int 0, .ref q_29, .int 0, .int 0, .int 0, .ref q_30, .ref q_31, .ref q_32, .ref q_33, .ref q_34, .ref q_35, .ref q_36, .ref q_37, .ref q_38, .null, .int 0, .int 0, .int 0, .int 0, .null, .null, .null, .null, .null, .null, .null, .int 0, .null, .null, .null, .null, .null, .null])), (q_5, .inl (cI, 6, .inl (fun _ => 0))), (q_6, .inl (cI, 6, .inl (fun _ => 0))), (q_7, .inl (cI, 48, .inl (fun _ => 0))), (q_8, .inl (cI, 12, .inl (fun _ => 0))), (q_9, .inl (cI, 12, .inl (fun _ => 0))), (q_10, .inl (cI, 192, .inl (fun _ => 0))), (q_11, .inl (cI, 192, .inl (fun _ => 0))), (q_12, .inl (cI, 192, .inl (fun _ => 0))), (q_13, .inl (cI, 192, .inl (fun _ => 0))), (q_14, .inl (cI, 2, .inl (fun _ => 0))), (q_15, .inl (cI, 12, .inl (fun _ => 0))), (q_16, .inl (cI, 12, .inl (fun _ => 0))), (q_17, .inl (cI, 96, .inl (fun _ => 0))), (q_18, .inl (cI, 96, .inl (fun _ => 0))), (q_19, .inl (cI, 96, .inl (fun _ => 0))), (q_20, .inl (cZ, 12, .inl (fun _ => 0))), (q_25, .inl (cI, 100, .inl (fun _ => 0))), (q_29, .inl (cI, 4, .inl (upd (upd (upd (upd (fun _ => 0) 0 1) 1 1) 2 1) 3 1))), (q_30, .inl (cI, 8, .inl (fun _ => 0))), (q_31, .inl (cI, 8, .inl (fun _ => 0))), (q_32, .inl (cI, 8, .inl (fun _ => 0))), (q_33, .inl (cI, 24, .inl (upd (upd (upd (upd (upd (upd (upd (upd (upd (upd (upd (upd (upd (upd (upd (upd (upd (upd (upd (upd (upd (upd (upd (upd (fun _ => 0) 0 115) 1 101) 2 116) 3 97) 4 100) 5 100) 6 109) 7 97) 8 120) 9 110) 10 101) 11 119) 12 103) 13 101) 14 116) 15 97) 16 115) 17 107) 18 100) 19 111) 20 0) 21 105) 22 102) 23 0)))]) hV [0, 1, 2, 3, 4, 5, 6, 7, 8, 9, 10, 11, 12, 13, 14, 15, 16, 17, 18, 19, 20, 21, 22] rfl rfl (by decide)
  refine lv_aload_n hx hb dX7_init_462 rfl (lv_at hl 0 rfl) ?_
  refine lv_bipush (v := 7) hx hb dX7_init_463 (by decide) ?_
  refine x_newz (N' := 7) hB hV k_947 (by decide) (by decide) (by decide) (Nat.le_of_ble_eq_true rfl) (Nat.le_of_ble_eq_true rfl) dX7_init_465 (fun q_39 H hV => ?_)
  have hV : Vx D A s.heap H locs [(h, .inr (7, [.int 0, .ref q_1, .ref q_2, .ref q_3, .ref q_4, .ref q_5, .ref q_6, .ref q_7, .ref q_8, .ref q_9, .ref q_10, .ref q_11, .ref q_12, .ref q_13, .ref q_14, .ref q_15, .ref q_16, .ref q_17, .ref q_18, .ref q_19, .ref q_20, .int 0, .int 0, .ref q_21, .int 0, .ref q_22, .ref q_23, .ref q_24, .ref q_25, .int 0, .int 0, .ref q_26, .ref q_27, .ref q_28, .int 0, .ref q_29, .int 0, .int 0, .int 0, .ref q_30, .ref q_31, .ref q_32, .ref q_33, .ref q_34, .ref q_35, .ref q_36, .ref q_37, .ref q_38, .null, .int 0, .int 0, .int 0, .int 0, .null, .null, .null, .null, .null, .null, .null, .int 0, .null, .null, .null, .null, .null, .null])), (q_5, .inl (cI, 6, .inl (fun _ => 0))), (q_6, .inl (cI, 6, .inl (fun _ => 0))), (q_7, .inl (cI, 48, .inl (fun _ => 0))), (q_8, .inl (cI, 12, .inl (fun _ => 0))), (q_9, .inl (cI, 12, .inl (fun _ => 0))), (q_10, .inl (cI, 192, .inl (fun _ => 0))), (q_11, .inl (cI, 192, .inl (fun _ => 0))), (q_12, .inl (cI, 192, .inl (fun _ => 0))), (q_13, .inl (cI, 192, .inl (fun _ => 0))), (q_14, .inl (cI, 2, .inl (fun _ => 0))), (q_15, .inl (cI, 12, .inl (fun _ => 0))), (q_16, .inl (cI, 12, .inl (fun _ => 0))), (q_17, .inl (cI, 96, .inl (fun _ => 0))), (q_18, .inl (cI, 96, .inl (fun _ => 0))), (q_19, .inl (cI, 96, .inl (fun _ => 0))), (q_20, .inl (cZ, 12, .inl (fun _ => 0))), (q_25, .inl (cI, 100, .inl (fun _ => 0))), (q_29, .inl (cI, 4, .inl (upd (upd (upd (upd (fun _ => 0) 0 1) 1 1) 2 1) 3 1))), (q_30, .inl (cI, 8, .inl (fun _ => 0))), (q_31, .inl (cI, 8, .inl (fun _ => 0))), (q_32, .inl (cI, 8, .inl (fun _ => 0))), (q_33, .inl (cI, 24, .inl (upd (upd (upd (upd (upd (upd (upd (upd (upd (upd (upd (upd (upd (upd (upd (upd (upd (upd (upd (upd (upd (upd (upd (upd (fun _ => 0) 0 115) 1 101) 2 116) 3 97) 4 100) 5 100) 6 109) 7 97) 8 120) 9 110) 10 101) 11 119) 12 103) 13 101) 14 116) 15 97) 16 115) 17 107) 18 100) 19 111) 20 0) 21 105) 22 102) 23 0))), (q_39, .inl (cZ, 7, .inl (fun _ => 0)))] := hV
  refine W.widen (k := 39) (n := 1640) (Nat.le_of_ble_eq_true rfl) (Nat.le_of_ble_eq_true rfl) ?_
  refine x_putF (v := .ref q_39) hB hV hin 0 rfl rfl 48 (by decide) k_793 rfl rfl rfl rfl (Nat.le_of_ble_eq_true rfl) dX7_init_467 (fun H locs hV => ?_)
  have hV : Vx D A s.heap H locs [(h, .inr (7, [.int 0, .ref q_1, .ref q_2, .ref q_3, .ref q_4, .ref q_5, .ref q_6, .ref q_7, .ref q_8, .ref q_9, .ref q_10, .ref q_11, .ref q_12, .ref q_13, .ref q_14, .ref q_15, .ref q_16, .ref q_17, .ref q_18, .ref q_19, .ref q_20, .int 0, .int 0, .ref q_21, .int 0, .ref q_22, .ref q_23, .ref q_24, .ref q_25, .int 0, .int 0, .ref q_26, .ref q_27, .ref q_28, .int 0, .ref q_29, .int 0, .int 0, .int 0, .ref q_30, .ref q_31, .ref q_32, .ref q_33, .ref q_34, .ref q_35, .ref q_36, .ref q_37, .ref q_38, .ref q_39, .int 0, .int 0, .int 0, .int 0, .null, .null, .null, .null, .null, .null, .null, .int 0, .null, .null, .null, .null, .null, .null])), (q_5, .inl (cI, 6, .inl (fun _ => 0))), (q_6, .inl (cI, 6, .inl (fun _ => 0))), (q_7, .inl (cI, 48, .inl (fun _ => 0))), (q_8, .inl (cI, 12, .inl (fun _ => 0))), (q_9, .inl (cI, 12, .inl (fun _ => 0))), (q_10, .inl (cI, 192, .inl (fun _ => 0))), (q_11, .inl (cI, 192, .inl (fun _ => 0))), (q_12, .inl (cI, 192, .inl (fun _ => 0))), (q_13, .inl (cI, 192, .inl (fun _ => 0))), (q_14, .inl (cI, 2, .inl (fun _ => 0))), (q_15, .inl (cI, 12, .inl (fun _ => 0))), (q_16, .inl (cI, 12, .inl (fun _ => 0))), (q_17, .inl (cI, 96, .inl (fun _ => 0))), (q_18, .inl (cI, 96, .inl (fun _ => 0))), (q_19, .inl (cI, 96, .inl (fun _ => 0))), (q_20, .inl (cZ, 12, .inl (fun _ => 0))), (q_25, .inl (cI, 100, .inl (fun _ => 0))), (q_29, .inl (cI, 4, .inl (upd (upd (upd (upd (fun _ => 0) 0 1) 1 1) 2 1) 3 1))), (q_30, .inl (cI, 8, .inl (fun _ => 0))), (q_31, .inl (cI, 8, .inl (fun _ => 0))), (q_32, .inl (cI, 8, .inl (fun _ => 0))), (q_33, .inl (cI, 24, .inl (upd (upd (upd (upd (upd (upd (upd (upd (upd (upd (upd (upd (upd (upd (upd (upd (upd (upd (upd (upd (upd (upd (upd (upd (fun _ => 0) 0 115) 1 101) 2 116) 3 97) 4 100) 5 100) 6 109) 7 97) 8 120) 9 110) 10 101) 11 119) 12 103) 13 101) 14 116) 15 97) 16 115) 17 107) 18 100) 19 111) 20 0) 21 105) 22 102) 23 0))), (q_39, .inl (cZ, 7, .inl (fun _ => 0)))] := hV
  have hV := Vx_sub (w := [(h, .inr (7, [.int 0, .ref q_1, .ref q_2, .ref q_3, .ref q_4, .ref q_5, .ref q_6, .ref q_7, .ref q_8, .ref q_9, .ref q_10, .ref q_11, .ref q_12, .ref q_13, .ref q_14, .ref q_15, .ref q_16, .ref q_17, .ref q_18, .ref q_19, .ref q_20, .int 0, .int 0, .ref q_21, .int 0, .ref q_22, .ref q_23, .ref q_24, .ref q_25, .int 0, .int 0, .ref q_26, .ref q_27, .ref q_28, .int 0, .ref q_29, .int 0, .int 0, .int 0, .ref q_30, .ref q_31, .ref q_32, .ref q_33, .ref q_34, .ref q_35, .ref q_36, .ref q_37, .ref q_38, .ref q_39, .int 0, .int 0, .int 0, .int 0, .null, .null, .null, .null, .null, .null, .null, .int 0, .null, .null, .null, .null, .null, .null])), (q_5, .inl (cI, 6, .inl (fun _ => 0))), (q_6, .inl (cI, 6, .inl (fun _ => 0))), (q_7, .inl (cI, 48, .inl (fun _ => 0))), (q_8, .inl (cI, 12, .inl (fun _ => 0))), (q_9, .inl (cI, 12, .inl (fun _ => 0))), (q_10, .inl (cI, 192, .inl (fun _ => 0))), (q_11, .inl (cI, 192, .inl (fun _ => 0))), (q_12, .inl (cI, 192, .inl (fun _ => 0))), (q_13, .inl (cI, 192, .inl (fun _ => 0))), (q_14, .inl (cI, 2, .inl (fun _ => 0))), (q_15, .inl (cI, 12, .inl (fun _ => 0))), (q_16, .inl (cI, 12, .inl (fun _ => 0))), (q_17, .inl (cI, 96, .inl (fun _ => 0))), (q_18, .inl (cI, 96, .inl (fun _ => 0))), (q_19, .inl (cI, 96, .inl (fun _ => 0))), (q_20, .inl (cZ, 12, .inl (fun _ => 0))), (q_25, .inl (cI, 100, .inl (fun _ => 0))), (q_29, .inl (cI, 4, .inl (upd (upd (upd (upd (fun _ => 0) 0 1) 1 1) 2 1) 3 1))), (q_30, .inl (cI, 8, .inl (fun _ => 0))), (q_31, .inl (cI, 8, .inl (fun _ => 0))), (q_32, .inl (cI, 8, .inl (fun _ => 0))), (q_33, .inl (cI, 24, .inl (upd (upd (upd (upd (upd (upd (upd (upd (upd (upd (upd (upd (upd (upd (upd (upd (upd (upd (upd (upd (upd (upd (upd (upd (fun _ => 0) 0 115) 1 101) 2 116) 3 97) 4 100) 5 100) 6 109) 7 97) 8 120) 9 110) 10 101) 11 119) 12 103) 13 101) 14 116) 15 97) 16 115) 17 107) 18 100) 19 111) 20 0) 21 105) 22 102) 23 0)))]) hV [0, 1, 2, 3, 4, 5, 6, 7, 8, 9, 10, 11, 12, 13, 14, 15, 16, 17, 18, 19, 20, 21, 22] rfl rfl (by decide)
  refine lv_aload_n hx hb dX7_init_470 rfl (lv_at hl 0 rfl) ?_
  refine lv_sipush (v := 1200) hx hb dX7_init_471 (by decide) ?_
  refine x_newi (N' := 1200) hB hV k_101 (by decide) (by decide) (by decide) (Nat.le_of_ble_eq_true rfl) (Nat.le_of_ble_eq_true rfl) dX7_init_474 (fun q_40 H hV => ?_)
  have hV : Vx D A s.heap H locs [(h, .inr (7, [.int 0, .ref q_1, .ref q_2, .ref q_3, .ref q_4, .ref q_5, .ref q_6, .ref q_7, .ref q_8, .ref q_9, .ref q_10, .ref q_11, .ref q_12, .ref q_13, .ref q_14, .ref q_15, .ref q_16, .ref q_17, .ref q_18, .ref q_19, .ref q_20, .int 0, .int 0, .ref q_21, .int 0, .ref q_22, .ref q_23, .ref q_24, .ref q_25, .int 0, .int 0, .ref q_26, .ref q_27, .ref q_28, .int 0, .ref q_29, .int 0, .int 0, .int 0, .ref q_30, .ref q_31, .ref q_32, .ref q_33, .ref q_34, .ref q_35, .ref q_36, .ref q_37, .ref q_38, .ref q_39, .int 0, .int 0, .int 0, .int 0, .null, .null, .null, .null, .null, .null, .null, .int 0, .null, .null, .null, .null, .null, .null])), (q_5, .inl (cI, 6, .inl (fun _ => 0))), (q_6, .inl (cI, 6, .inl (fun _ => 0))), (q_7, .inl (cI, 48, .inl (fun _ => 0))), (q_8, .inl (cI, 12, .inl (fun _ => 0))), (q_9, .inl (cI, 12, .inl (fun _ => 0))), (q_10, .inl (cI, 192, .inl (fun _ => 0))), (q_11, .inl (cI, 192, .inl (fun _ => 0))), (q_12, .inl (cI, 192, .inl (fun _ => 0))), (q_13, .inl (cI, 192, .inl (fun _ => 0))), (q_14, .inl (cI, 2, .inl (fun _ => 0))), (q_15, .inl (cI, 12, .inl (fun _ => 0))), (q_16, .inl (cI, 12, .inl (fun _ => 0))), (q_17, .inl (cI, 96, .inl (fun _ => 0))), (q_18, .inl (cI, 96, .inl (fun _ => 0))), (q_19, .inl (cI, 96, .inl (fun _ => 0))), (q_20, .inl (cZ, 12, .inl (fun _ => 0))), (q_25, .inl (cI, 100, .inl (fun _ => 0))), (q_29, .inl (cI, 4, .inl (upd (upd (upd (upd (fun _ => 0) 0 1) 1 1) 2 1) 3 1))), (q_30, .inl (cI, 8, .inl (fun _ => 0))), (q_31, .inl (cI, 8, .inl (fun _ => 0))), (q_32, .inl (cI, 8, .inl (fun _ => 0))), (q_33, .inl (cI, 24, .inl (upd (upd (upd (upd (upd (upd (upd (upd (upd (upd (upd (upd (upd (upd (upd (upd (upd (upd (upd (upd (upd (upd (upd (upd (fun _ => 0) 0 115) 1 101) 2 116) 3 97) 4 100) 5 100) 6 109) 7 97) 8 120) 9 110) 10 101) 11 119) 12 103) 13 101) 14 116) 15 97) 16 115) 17 107) 18 100) 19 111) 20 0) 21 105) 22 102) 23 0))), (q_40, .inl (cI, 1200, .inl (fun _ => 0)))] := hV
  refine W.widen (k := 40) (n := 2840) (Nat.le_of_ble_eq_true rfl) (Nat.le_of_ble_eq_true rfl) ?_
  refine x_putF (v := .ref q_40) hB hV hin 0 rfl rfl 53 (by decide) k_798 rfl rfl rfl rfl (Nat.le_of_ble_eq_true rfl) dX7_init_476 (fun H locs hV => ?_)
  have hV : Vx D A s.heap H locs [(h, .inr (7, [.int 0, .ref q_1, .ref q_2, .ref q_3, .ref q_4, .ref q_5, .ref q_6, .ref q_7, .ref q_8, .ref q_9, .ref q_10, .ref q_11, .ref q_12, .ref q_13, .ref q_14, .ref q_15, .ref q_16, .ref q_17, .ref q_18, .ref q_19, .ref q_20, .int 0, .int 0, .ref q_21, .int 0, .ref q_22, .ref q_23, .ref q_24, .ref q_25, .int 0, .int 0, .ref q_26, .ref q_27, .ref q_28, .int 0, .ref q_29, .int 0, .int 0, .int 0, .ref q_30, .ref q_31, .ref q_32, .ref q_33, .ref q_34, .ref q_35, .ref q_36, .ref q_37, .ref q_38, .ref q_39, .int 0, .int 0, .int 0, .int 0, .ref q_40, .null, .null, .null, .null, .null, .null, .int 0, .null, .null, .null, .null, .null, .null])), (q_5, .inl (cI, 6, .inl (fun _ => 0))), (q_6, .inl (cI, 6, .inl (fun _ => 0))), (q_7, .inl (cI, 48, .inl (fun _ => 0))), (q_8, .inl (cI, 12, .inl (fun _ => 0))), (q_9, .inl (cI, 12, .inl (fun _ => 0))), (q_10, .inl (cI, 192, .inl (fun _ => 0))), (q_11, .inl (cI, 192, .inl (fun _ => 0))), (q_12, .inl (cI, 192, .inl (fun _ => 0))), (q_13, .inl (cI, 192, .inl (fun _ => 0))), (q_14, .inl (cI, 2, .inl (fun _ => 0))), (q_15, .inl (cI, 12, .inl (fun _ => 0))), (q_16, .inl (cI, 12, .inl (fun _ => 0))), (q_17, .inl (cI, 96, .inl (fun _ => 0))), (q_18, .inl (cI, 96, .inl (fun _ => 0))), (q_19, .inl (cI, 96, .inl (fun _ => 0))), (q_20, .inl (cZ, 12, .inl (fun _ => 0))), (q_25, .inl (cI, 100, .inl (fun _ => 0))), (q_29, .inl (cI, 4, .inl (upd (upd (upd (upd (fun _ => 0) 0 1) 1 1) 2 1) 3 1))), (q_30, .inl (cI, 8, .inl (fun _ => 0))), (q_31, .inl (cI, 8, .inl (fun _ => 0))), (q_32, .inl (cI, 8, .inl (fun _ => 0))), (q_33, .inl (cI, 24, .inl (upd (upd (upd (upd (upd (upd (upd (upd (upd (upd (upd (upd (upd (upd (upd (upd (upd (upd (upd (upd (upd (upd (upd (upd (fun _ => 0) 0 115) 1 101) 2 116) 3 97) 4 100) 5 100) 6 109) 7 97) 8 120) 9 110) 10 101) 11 119) 12 103) 13 101) 14 116) 15 97) 16 115) 17 107) 18 100) 19 111) 20 0) 21 105) 22 102) 23 0))), (q_40, .inl (cI, 1200, .inl (fun _ => 0)))] := hV
  have hV := Vx_sub (w := [(h, .inr (7, [.int 0, .ref q_1, .ref q_2, .ref q_3, .ref q_4, .ref q_5, .ref q_6, .ref q_7, .ref q_8, .ref q_9, .ref q_10, .ref q_11, .ref q_12, .ref q_13, .ref q_14, .ref q_15, .ref q_16, .ref q_17, .ref q_18, .ref q_19, .ref q_20, .int 0, .int 0, .ref q_21, .int 0, .ref q_22, .ref q_23, .ref q_24, .ref q_25, .int 0, .int 0, .ref q_26, .ref q_27, .ref q_28, .int 0, .ref q_29, .int 0, .int 0, .int 0, .ref q_30, .ref q_31, .ref q_32, .ref q_33, .ref q_34, .ref q_35, .ref q_36, .ref q_37, .ref q_38, .ref q_39, .int 0, .int 0, .int 0, .int 0, .ref q_40, .null, .null, .null, .null, .null, .null, .int 0, .null, .null, .null, .null, .null, .null])), (q_5, .inl (cI, 6, .inl (fun _ => 0))), (q_6, .inl (cI, 6, .inl (fun _ => 0))), (q_7, .inl (cI, 48, .inl (fun _ => 0))), (q_8, .inl (cI, 12, .inl (fun _ => 0))), (q_9, .inl (cI, 12, .inl (fun _ => 0))), (q_10, .inl (cI, 192, .inl (fun _ => 0))), (q_11, .inl (cI, 192, .inl (fun _ => 0))), (q_12, .inl (cI, 192, .inl (fun _ => 0))), (q_13, .inl (cI, 192, .inl (fun _ => 0))), (q_14, .inl (cI, 2, .inl (fun _ => 0))), (q_15, .inl (cI, 12, .inl (fun _ => 0))), (q_16, .inl (cI, 12, .inl (fun _ => 0))), (q_17, .inl (cI, 96, .inl (fun _ => 0))), (q_18, .inl (cI, 96, .inl (fun _ => 0))), (q_19, .inl (cI, 96, .inl (fun _ => 0))), (q_20, .inl (cZ, 12, .inl (fun _ => 0))), (q_25, .inl (cI, 100, .inl (fun _ => 0))), (q_29, .inl (cI, 4, .inl (upd (upd (upd (upd (fun _ => 0) 0 1) 1 1) 2 1) 3 1))), (q_30, .inl (cI, 8, .inl (fun _ => 0))), (q_31, .inl (cI, 8, .inl (fun _ => 0))), (q_32, .inl (cI, 8, .inl (fun _ => 0))), (q_33, .inl (cI, 24, .inl (upd (upd (upd (upd (upd (upd (upd (upd (upd (upd (upd (upd (upd (upd (upd (upd (upd (upd (upd (upd (upd (upd (upd (upd (fun _ => 0) 0 115) 1 101) 2 116) 3 97) 4 100) 5 100) 6 109) 7 97) 8 120) 9 110) 10 101) 11 119) 12 103) 13 101) 14 116) 15 97) 16 115) 17 107) 18 100) 19 111) 20 0) 21 105) 22 102) 23 0)))]) hV [0, 1, 2, 3, 4, 5, 6, 7, 8, 9, 10, 11, 12, 13, 14, 15, 16, 17, 18, 19, 20, 21, 22] rfl rfl (by decide)
  refine lv_aload_n hx hb dX7_init_479 rfl (lv_at hl 0 rfl) ?_
  refine lv_bipush (v := 48) hx hb dX7_init_480 (by decide) ?_
  refine x_newi (N' := 48) hB hV k_101 (by decide) (by decide) (by decide) (Nat.le_of_ble_eq_true rfl) (Nat.le_of_ble_eq_true rfl) dX7_init_482 (fun q_41 H hV => ?_)
  have hV : Vx D A s.heap H locs [(h, .inr (7, [.int 0, .ref q_1, .ref q_2, .ref q_3, .ref q_4, .ref q_5, .ref q_6, .ref q_7, .ref q_8, .ref q_9, .ref q_10, .ref q_11, .ref q_12, .ref q_13, .ref q_14, .ref q_15, .ref q_16, .ref q_17, .ref q_18, .ref q_19, .ref q_20, .int 0, .int 0, .ref q_21, .int 0, .ref q_22, .ref q_23, .ref q_24, .ref q_25, .int 0, .int 0, .ref q_26, .ref q_27, .ref q_28, .int 0, .ref q_29, .int 0, .int 0, .int 0, .ref q_30, .ref q_31, .ref q_32, .ref q_33, .ref q_34, .ref q_35, .ref q_36, .ref q_37, .ref q_38, .ref q_39, .int 0, .int 0, .int 0, .int 0, .ref q_40, .null, .null, .null, .null, .null, .null, .int 0, .null, .null, .null, .null, .null, .null])), (q_5, .inl (cI, 6, .inl (fun _ => 0))), (q_6, .inl (cI, 6, .inl (fun _ => 0))), (q_7, .inl (cI, 48, .inl (fun _ => 0))), (q_8, .inl (cI, 12, .inl (fun _ => 0))), (q_9, .inl (cI, 12, .inl (fun _ => 0))), (q_10, .inl (cI, 192, .inl (fun _ => 0))), (q_11, .inl (cI, 192, .inl (fun _ => 0))), (q_12, .inl (cI, 192, .inl (fun _ => 0))), (q_13, .inl (cI, 192, .inl (fun _ => 0))), (q_14, .inl (cI, 2, .inl (fun _ => 0))), (q_15, .inl (cI, 12, .inl (fun _ => 0))), (q_16, .inl (cI, 12, .inl (fun _ => 0))), (q_17, .inl (cI, 96, .inl (fun _ => 0))), (q_18, .inl (cI, 96, .inl (fun _ => 0))), (q_19, .inl (cI, 96, .inl (fun _ => 0))), (q_20, .inl (cZ, 12, .inl (fun _ => 0))), (q_25, .inl (cI, 100, .inl (fun _ => 0))), (q_29, .inl (cI, 4, .inl (upd (upd (upd (upd (fun _ => 0) 0 1) 1 1) 2 1) 3 1))), (q_30, .inl (cI, 8, .inl (fun _ => 0))), (q_31, .inl (cI, 8, .inl (fun _ => 0))), (q_32, .inl (cI, 8, .inl (fun _ => 0))), (q_33, .inl (cI, 24, .inl (upd (upd (upd (upd (upd (upd (upd (upd (upd (upd (upd (upd (upd (upd (upd (upd (upd (upd (upd (upd (upd (upd (upd (upd (fun _ => 0) 0 115) 1 101) 2 116) 3 97) 4 100) 5 100) 6 109) 7 97) 8 120) 9 110) 10 101) 11 119) 12 103) 13 101) 14 116) 15 97) 16 115) 17 107) 18 100) 19 111) 20 0) 21 105) 22 102) 23 0))), (q_41, .inl (cI, 48, .inl (fun _ => 0)))] := hV
  refine W.widen (k := 41) (n := 2888) (Nat.le_of_ble_eq_true rfl) (Nat.le_of_ble_eq_true rfl) ?_
  refine x_putF (v := .ref q_41) hB hV hin 0 rfl rfl 54 (by decide) k_799 rfl rfl rfl rfl (Nat.le_of_ble_eq_true rfl) dX7_init_484 (fun H locs hV => ?_)
  have hV : Vx D A s.heap H locs [(h, .inr (7, [.int 0, .ref q_1, .ref q_2, .ref q_3, .ref q_4, .ref q_5, .ref q_6, .ref q_7, .ref q_8, .ref q_9, .ref q_10, .ref q_11, .ref q_12, .ref q_13, .ref q_14, .ref q_15, .ref q_16, .ref q_17, .ref q_18, .ref q_19, .ref q_20, .int 0, .int 0, .ref q_21, .int 0, .ref q_22, .ref q_23, .ref q_24, .ref q_25, .int 0, .int 0, .ref q_26, .ref q_27, .ref q_28, .int 0, .ref q_29, .int 0, .int 0, .int 0, .ref q_30, .ref q_31, .ref q_32, .ref q_33, .ref q_34, .ref q_35, .ref q_36, .ref q_37, .ref q_38, .ref q_39, .int 0, .int 0, .int 0, .int 0, .ref q_40, .ref q_41, .null, .null, .null, .null, .null, .int 0, .null, .null, .null, .null, .null, .null])), (q_5, .inl (cI, 6, .inl (fun _ => 0))), (q_6, .inl (cI, 6, .inl (fun _ => 0))), (q_7, .inl (cI, 48, .inl (fun _ => 0))), (q_8, .inl (cI, 12, .inl (fun _ => 0))), (q_9, .inl (cI, 12, .inl (fun _ => 0))), (q_10, .inl (cI, 192, .inl (fun _ => 0))), (q_11, .inl (cI, 192, .inl (fun _ => 0))), (q_12, .inl (cI, 192, .inl (fun _ => 0))), (q_13, .inl (cI, 192, .inl (fun _ => 0))), (q_14, .inl (cI, 2, .inl (fun _ => 0))), (q_15, .inl (cI, 12, .inl (fun _ => 0))), (q_16, .inl (cI, 12, .inl (fun _ => 0))), (q_17, .inl (cI, 96, .inl (fun _ => 0))), (q_18, .inl (cI, 96, .inl (fun _ => 0))), (q_19, .inl (cI, 96, .inl (fun _ => 0))), (q_20, .inl (cZ, 12, .inl (fun _ => 0))), (q_25, .inl (cI, 100, .inl (fun _ => 0))), (q_29, .inl (cI, 4, .inl (upd (upd (upd (upd (fun _ => 0) 0 1) 1 1) 2 1) 3 1))), (q_30, .inl (cI, 8, .inl (fun _ => 0))), (q_31, .inl (cI, 8, .inl (fun _ => 0))), (q_32, .inl (cI, 8, .inl (fun _ => 0))), (q_33, .inl (cI, 24, .inl (upd (upd (upd (upd (upd (upd (upd (upd (upd (upd (upd (upd (upd (upd (upd (upd (upd (upd (upd (upd (upd (upd (upd (upd (fun _ => 0) 0 115) 1 101) 2 116) 3 97) 4 100) 5 100) 6 109) 7 97) 8 120) 9 110) 10 101) 11 119) 12 103) 13 101) 14 116) 15 97) 16 115) 17 107) 18 100) 19 111) 20 0) 21 105) 22 102) 23 0))), (q_41, .inl (cI, 48, .inl (fun _ => 0)))] := hV
  have hV := Vx_sub (w := [(h, .inr (7, [.int 0, .ref q_1, .ref q_2, .ref q_3, .ref q_4, .ref q_5, .ref q_6, .ref q_7, .ref q_8, .ref q_9, .ref q_10, .ref q_11, .ref q_12, .ref q_13, .ref q_14, .ref q_15, .ref q_16, .ref q_17, .ref q_18, .ref q_19, .ref q_20, .int 0, .int 0, .ref q_21, .int 0, .ref q_22, .ref q_23, .ref q_24, .ref q_25, .int 0, .int 0, .ref q_26, .ref q_27, .ref q_28, .int 0, .ref q_29, .int 0, .int 0, .int 0, .ref q_30, .ref q_31, .ref q_32, .ref q_33, .ref q_34, .ref q_35, .ref q_36, .ref q_37, .ref q_38, .ref q_39, .int 0, .int 0, .int 0, .int 0, .ref q_40, .ref q_41, .null, .null, .null, .null, .null, .int 0, .null, .null, .null, .null, .null, .null])), (q_5, .inl (cI, 6, .inl (fun _ => 0))), (q_6, .inl (cI, 6, .inl (fun _ => 0))), (q_7, .inl (cI, 48, .inl (fun _ => 0))), (q_8, .inl (cI, 12, .inl (fun _ => 0))), (q_9, .inl (cI, 12, .inl (fun _ => 0))), (q_10, .inl (cI, 192, .inl (fun _ => 0))), (q_11, .inl (cI, 192, .inl (fun _ => 0))), (q_12, .inl (cI, 192, .inl (fun _ => 0))), (q_13, .inl (cI, 192, .inl (fun _ => 0))), (q_14, .inl (cI, 2, .inl (fun _ => 0))), (q_15, .inl (cI, 12, .inl (fun _ => 0))), (q_16, .inl (cI, 12, .inl (fun _ => 0))), (q_17, .inl (cI, 96, .inl (fun _ => 0))), (q_18, .inl (cI, 96, .inl (fun _ => 0))), (q_19, .inl (cI, 96, .inl (fun _ => 0))), (q_20, .inl (cZ, 12, .inl (fun _ => 0))), (q_25, .inl (cI, 100, .inl (fun _ => 0))), (q_29, .inl (cI, 4, .inl (upd (upd (upd (upd (fun _ => 0) 0 1) 1 1) 2 1) 3 1))), (q_30, .inl (cI, 8, .inl (fun _ => 0))), (q_31, .inl (cI, 8, .inl (fun _ => 0))), (q_32, .inl (cI, 8, .inl (fun _ => 0))), (q_33, .inl (cI, 24, .inl (upd (upd (upd (upd (upd (upd (upd (upd (upd (upd (upd (upd (upd (upd (upd (upd (upd (upd (upd (upd (upd (upd (upd (upd (fun _ => 0) 0 115) 1 101) 2 116) 3 97) 4 100) 5 100) 6 109) 7 97) 8 120) 9 110) 10 101) 11 119) 12 103) 13 101) 14 116) 15 97) 16 115) 17 107) 18 100) 19 111) 20 0) 21 105) 22 102) 23 0)))]) hV [0, 1, 2, 3, 4, 5, 6, 7, 8, 9, 10, 11, 12, 13, 14, 15, 16, 17, 18, 19, 20, 21, 22] rfl rfl (by decide)
  refine lv_aload_n hx hb dX7_init_487 rfl (lv_at hl 0 rfl) ?_
  refine lv_bipush (v := 48) hx hb dX7_init_488 (by decide) ?_
  refine x_newi (N' := 48) hB hV k_101 (by decide) (by decide) (by decide) (Nat.le_of_ble_eq_true rfl) (Nat.le_of_ble_eq_true rfl) dX7_init_490 (fun q_42 H hV => ?_)
  have hV : Vx D A s.heap H locs [(h, .inr (7, [.int 0, .ref q_1, .ref q_2, .ref q_3, .ref q_4, .ref q_5, .ref q_6, .ref q_7, .ref q_8, .ref q_9, .ref q_10, .ref q_11, .ref q_12, .ref q_13, .ref q_14, .ref q_15, .ref q_16, .ref q_17, .ref q_18, .ref q_19, .ref q_20, .int 0, .int 0, .ref q_21, .int 0, .ref q_22, .ref q_23, .ref q_24, .ref q_25, .int 0, .int 0, .ref q_26, .ref q_27, .ref q_28, .int 0, .ref q_29, .int 0, .int 0, .int 0, .ref q_30, .ref q_31, .ref q_32, .ref q_33, .ref q_34, .ref q_35, .ref q_36, .ref q_37, .ref q_38, .ref q_39, .int 0, .int 0, .int 0, .int 0, .ref q_40, .ref q_41, .null, .null, .null, .null, .null, .int 0, .null, .null, .null, .null, .null, .null])), (q_5, .inl (cI, 6, .inl (fun _ => 0))), (q_6, .inl (cI, 6, .inl (fun _ => 0))), (q_7, .inl (cI, 48, .inl (fun _ => 0))), (q_8, .inl (cI, 12, .inl (fun _ => 0))), (q_9, .inl (cI, 12, .inl (fun _ => 0))), (q_10, .inl (cI, 192, .inl (fun _ => 0))), (q_11, .inl (cI, 192, .inl (fun _ => 0))), (q_12, .inl (cI, 192, .inl (fun _ => 0))), (q_13, .inl (cI, 192, .inl (fun _ => 0))), (q_14, .inl (cI, 2, .inl (fun _ => 0))), (q_15, .inl (cI, 12, .inl (fun _ => 0))), (q_16, .inl (cI, 12, .inl (fun _ => 0))), (q_17, .inl (cI, 96, .inl (fun _ => 0))), (q_18, .inl (cI, 96, .inl (fun _ => 0))), (q_19, .inl (cI, 96, .inl (fun _ => 0))), (q_20, .inl (cZ, 12, .inl (fun _ => 0))), (q_25, .inl (cI, 100, .inl (fun _ => 0))), (q_29, .inl (cI, 4, .inl (upd (upd (upd (upd (fun _ => 0) 0 1) 1 1) 2 1) 3 1))), (q_30, .inl (cI, 8, .inl (fun _ => 0))), (q_31, .inl (cI, 8, .inl (fun _ => 0))), (q_32, .inl (cI, 8, .inl (fun _ => 0))), (q_33, .inl (cI, 24, .inl (upd (upd (upd (upd (upd (upd (upd (upd (upd (upd (upd (upd (upd (upd (upd (upd (upd (upd (upd (upd (upd (upd (upd (upd (fun _ => 0) 0 115) 1 101) 2 116) 3 97) 4 100) 5 100) 6 109) 7 97) 8 120) 9 110) 10 101) 11 119) 12 103) 13 101) 14 116) 15 97) 16 115) 17 107) 18 100) 19 111) 20 0) 21 105) 22 102) 23 0))), (q_42, .inl (cI, 48, .inl (fun _ => 0)))] := hV
  refine W.widen (k := 42) (n := 2936) (Nat.le_of_ble_eq_true rfl) (Nat.le_of_ble_eq_true rfl) ?_
  refine x_putF (v := .ref q_42) hB hV hin 0 rfl rfl 55 (by decide) k_800 rfl rfl rfl rfl (Nat.le_of_ble_eq_true rfl) dX7_init_492 (fun H locs hV => ?_)
  have hV : Vx D A s.heap H locs [(h, .inr (7, [.int 0, .ref q_1, .ref q_2, .ref q_3, .ref q_4, .ref q_5, .ref q_6, .ref q_7, .ref q_8, .ref q_9, .ref q_10, .ref q_11, .ref q_12, .ref q_13, .ref q_14, .ref q_15, .ref q_16, .ref q_17, .ref q_18, .ref q_19, .ref q_20, .int 0, .int 0, .ref q_21, .int 0, .ref q_22, .ref q_23, .ref q_24, .ref q_25, .int 0, .int 0, .ref q_26, .ref q_27, .ref q_28, .int 0, .ref q_29, .int 0, .int 0, .int 0, .ref q_30, .ref q_31, .ref q_32, .ref q_33, .ref q_34, .ref q_35, .ref q_36, .ref q_37, .ref q_38, .ref q_39, .int 0, .int 0, .int 0, .int 0, .ref q_40, .ref q_41, .ref q_42, .null, .null, .null, .null, .int 0, .null, .null, .null, .null, .null, .null])), (q_5, .inl (cI, 6, .inl (fun _ => 0))), (q_6, .inl (cI, 6, .inl (fun _ => 0))), (q_7, .inl (cI, 48, .inl (fun _ => 0))), (q_8, .inl (cI, 12, .inl (fun _ => 0))), (q_9, .inl (cI, 12, .inl (fun _ => 0))), (q_10, .inl (cI, 192, .inl (fun _ => 0))), (q_11, .inl (cI, 192, .inl (fun _ => 0))), (q_12, .inl (cI, 192, .inl (fun _ => 0))), (q_13, .inl (cI, 192, .inl (fun _ => 0))), (q_14, .inl (cI, 2, .inl (fun _ => 0))), (q_15, .inl (cI, 12, .inl (fun _ => 0))), (q_16, .inl (cI, 12, .inl (fun _ => 0))), (q_17, .inl (cI, 96, .inl (fun _ => 0))), (q_18, .inl (cI, 96, .inl (fun _ => 0))), (q_19, .inl (cI, 96, .inl (fun _ => 0))), (q_20, .inl (cZ, 12, .inl (fun _ => 0))), (q_25, .inl (cI, 100, .inl (fun _ => 0))), (q_29, .inl (cI, 4, .inl (upd (upd (upd (upd (fun _ => 0) 0 1) 1 1) 2 1) 3 1))), (q_30, .inl (cI, 8, .inl (fun _ => 0))), (q_31, .inl (cI, 8, .inl (fun _ => 0))), (q_32, .inl (cI, 8, .inl (fun _ => 0))), (q_33, .inl (cI, 24, .inl (upd (upd (upd (upd (upd (upd (upd (upd (upd (upd (upd (upd (upd (upd (upd (upd (upd (upd (upd (upd (upd (upd (upd (upd (fun _ => 0) 0 115) 1 101) 2 116) 3 97) 4 100) 5 100) 6 109) 7 97) 8 120) 9 110) 10 101) 11 119) 12 103) 13 101) 14 116) 15 97) 16 115) 17 107) 18 100) 19 111) 20 0) 21 105) 22 102) 23 0))), (q_42, .inl (cI, 48, .inl (fun _ => 0)))] := hV
  have hV := Vx_sub (w := [(h, .inr (7, [.int 0, .ref q_1, .ref q_2, .ref q_3, .ref q_4, .ref q_5, .ref q_6, .ref q_7, .ref q_8, .ref q_9, .ref q_10, .ref q_11, .ref q_12, .ref q_13, .ref q_14, .ref q_15, .ref q_16, .ref q_17, .ref q_18, .ref q_19, .ref q_20, .int 0, .int 0, .ref q_21, .int 0, .ref q_22, .ref q_23, .ref q_24, .ref q_25, .int 0, .int 0, .ref q_26, .ref q_27, .ref q_28, .int 0, .ref q_29, .int 0, .int 0, .int 0, .ref q_30, .ref q_31, .ref q_32, .ref q_33, .ref q_34, .ref q_35, .ref q_36, .ref q_37, .ref q_38, .ref q_39, .int 0, .int 0, .int 0, .int 0, .ref q_40, .ref q_41, .ref q_42, .null, .null, .null, .null, .int 0, .null, .null, .null, .null, .null, .null])), (q_5, .inl (cI, 6, .inl (fun _ => 0))), (q_6, .inl (cI, 6, .inl (fun _ => 0))), (q_7, .inl (cI, 48, .inl (fun _ => 0))), (q_8, .inl (cI, 12, .inl (fun _ => 0))), (q_9, .inl (cI, 12, .inl (fun _ => 0))), (q_10, .inl (cI, 192, .inl (fun _ => 0))), (q_11, .inl (cI, 192, .inl (fun _ => 0))), (q_12, .inl (cI, 192, .inl (fun _ => 0))), (q_13, .inl (cI, 192, .inl (fun _ => 0))), (q_14, .inl (cI, 2, .inl (fun _ => 0))), (q_15, .inl (cI, 12, .inl (fun _ => 0))), (q_16, .inl (cI, 12, .inl (fun _ => 0))), (q_17, .inl (cI, 96, .inl (fun _ => 0))), (q_18, .inl (cI, 96, .inl (fun _ => 0))), (q_19, .inl (cI, 96, .inl (fun _ => 0))), (q_20, .inl (cZ, 12, .inl (fun _ => 0))), (q_25, .inl (cI, 100, .inl (fun _ => 0))), (q_29, .inl (cI, 4, .inl (upd (upd (upd (upd (fun _ => 0) 0 1) 1 1) 2 1) 3 1))), (q_30, .inl (cI, 8, .inl (fun _ => 0))), (q_31, .inl (cI, 8, .inl (fun _ => 0))), (q_32, .inl (cI, 8, .inl (fun _ => 0))), (q_33, .inl (cI, 24, .inl (upd (upd (upd (upd (upd (upd (upd (upd (upd (upd (upd (upd (upd (upd (upd (upd (upd (upd (upd (upd (upd (upd (upd (upd (fun _ => 0) 0 115) 1 101) 2 116) 3 97) 4 100) 5 100) 6 109) 7 97) 8 120) 9 110) 10 101) 11 119) 12 103) 13 101) 14 116) 15 97) 16 115) 17 107) 18 100) 19 111) 20 0) 21 105) 22 102) 23 0)))]) hV [0, 1, 2, 3, 4, 5, 6, 7, 8, 9, 10, 11, 12, 13, 14, 15, 16, 17, 18, 19, 20, 21, 22] rfl rfl (by decide)
  refine lv_aload_n hx hb dX7_init_495 rfl (lv_at hl 0 rfl) ?_
  refine lv_bipush (v := 48) hx hb dX7_init_496 (by decide) ?_
  refine x_newi (N' := 48) hB hV k_101 (by decide) (by decide) (by decide) (Nat.le_of_ble_eq_true rfl) (Nat.le_of_ble_eq_true rfl) dX7_init_498 (fun q_43 H hV => ?_)
  have hV : Vx D A s.heap H locs [(h, .inr (7, [.int 0, .ref q_1, .ref q_2, .ref q_3, .ref q_4, .ref q_5, .ref q_6, .ref q_7, .ref q_8, .ref q_9, .ref q_10, .ref q_11, .ref q_12, .ref q_13, .ref q_14, .ref q_15, .ref q_16, .ref q_17, .ref q_18, .ref q_19, .ref q_20, .int 0, .int 0, .ref q_21, .int 0, .ref q_22, .ref q_23, .ref q_24, .ref q_25, .int 0, .int 0, .ref q_26, .ref q_27, .ref q_28, .int 0, .ref q_29, .int 0, .int 0, .int 0, .ref q_30, .ref q_31, .ref q_32, .ref q_33, .ref q_34, .ref q_35, .ref q_36, .ref q_37, .ref q_38, .ref q_39, .int 0, .int 0, .int 0, .int 0, .ref q_40, .ref q_41, .ref q_42, .null, .null, .null, .null, .int 0, .null, .null, .null, .null, .null, .null])), (q_5, .inl (cI, 6, .inl (fun _ => 0))), (q_6, .inl (cI, 6, .inl (fun _ => 0))), (q_7, .inl (cI, 48, .inl (fun _ => 0))), (q_8, .inl (cI, 12, .inl (fun _ => 0))), (q_9, .inl (cI, 12, .inl (fun _ => 0))), (q_10, .inl (cI, 192, .inl (fun _ => 0))), (q_11, .inl (cI, 192, .inl (fun _ => 0))), (q_12, .inl (cI, 192, .inl (fun _ => 0))), (q_13, .inl (cI, 192, .inl (fun _ => 0))), (q_14, .inl (cI, 2, .inl (fun _ => 0))), (q_15, .inl (cI, 12, .inl (fun _ => 0))), (q_16, .inl (cI, 12, .inl (fun _ => 0))), (q_17, .inl (cI, 96, .inl (fun _ => 0))), (q_18, .inl (cI, 96, .inl (fun _ => 0))), (q_19, .inl (cI, 96, .inl (fun _ => 0))), (q_20, .inl (cZ, 12, .inl (fun _ => 0))), (q_25, .inl (cI, 100, .inl (fun _ => 0))), (q_29, .inl (cI, 4, .inl (upd (upd (upd (upd (fun _ => 0) 0 1) 1 1) 2 1) 3 1))), (q_30, .inl (cI, 8, .inl (fun _ => 0))), (q_31, .inl (cI, 8, .inl (fun _ => 0))), (q_32, .inl (cI, 8, .inl (fun _ => 0))), (q_33, .inl (cI, 24, .inl (upd (upd (upd (upd (upd (upd (upd (upd (upd (upd (upd (upd (upd (upd (upd (upd (upd (upd (upd (upd (upd (upd (upd (upd (fun _ => 0) 0 115) 1 101) 2 116) 3 97) 4 100) 5 100) 6 109) 7 97) 8 120) 9 110) 10 101) 11 119) 12 103) 13 101) 14 116) 15 97) 16 115) 17 107) 18 100) 19 111) 20 0) 21 105) 22 102) 23 0))), (q_43, .inl (cI, 48, .inl (fun _ => 0)))] := hV
  refine W.widen (k := 43) (n := 2984) (Nat.le_of_ble_eq_true rfl) (Nat.le_of_ble_eq_true rfl) ?_
  refine x_putF (v := .ref q_43) hB hV hin 0 rfl rfl 56 (by decide) k_801 rfl rfl rfl rfl (Nat.le_of_ble_eq_true rfl) dX7_init_500 (fun H locs hV => ?_)
  have hV : Vx D A s.heap H locs [(h, .inr (7, [.int 0, .ref q_1, .ref q_2, .ref q_3, .ref q_4, .ref q_5, .ref q_6, .ref q_7, .ref q_8, .ref q_9, .ref q_10, .ref q_11, .ref q_12, .ref q_13, .ref q_14, .ref q_15, .ref q_16, .ref q_17, .ref q_18, .ref q_19, .ref q_20, .int 0, .int 0, .ref q_21, .int 0, .ref q_22, .ref q_23, .ref q_24, .ref q_25, .int 0, .int 0, .ref q_26, .ref q_27, .ref q_28, .int 0, .ref q_29, .int 0, .int 0, .int 0, .ref q_30, .ref q_31, .ref q_32, .ref q_33, .ref q_34, .ref q_35, .ref q_36, .ref q_37, .ref q_38, .ref q_39, .int 0, .int 0, .int 0, .int 0, .ref q_40, .ref q_41, .ref q_42, .ref q_43, .null, .null, .null, .int 0, .null, .null, .null, .null, .null, .null])), (q_5, .inl (cI, 6, .inl (fun _ => 0))), (q_6, .inl (cI, 6, .inl (fun _ => 0))), (q_7, .inl (cI, 48, .inl (fun _ => 0))), (q_8, .inl (cI, 12, .inl (fun _ => 0))), (q_9, .inl (cI, 12, .inl (fun _ => 0))), (q_10, .inl (cI, 192, .inl (fun _ => 0))), (q_11, .inl (cI, 192, .inl (fun _ => 0))), (q_12, .inl (cI, 192, .inl (fun _ => 0))), (q_13, .inl (cI, 192, .inl (fun _ => 0))), (q_14, .inl (cI, 2, .inl (fun _ => 0))), (q_15, .inl (cI, 12, .inl (fun _ => 0))), (q_16, .inl (cI, 12, .inl (fun _ => 0))), (q_17, .inl (cI, 96, .inl (fun _ => 0))), (q_18, .inl (cI, 96, .inl (fun _ => 0))), (q_19, .inl (cI, 96, .inl (fun _ => 0))), (q_20, .inl (cZ, 12, .inl (fun _ => 0))), (q_25, .inl (cI, 100, .inl (fun _ => 0))), (q_29, .inl (cI, 4, .inl (upd (upd (upd (upd (fun _ => 0) 0 1) 1 1) 2 1) 3 1))), (q_30, .inl (cI, 8, .inl (fun _ => 0))), (q_31, .inl (cI, 8, .inl (fun _ => 0))), (q_32, .inl (cI, 8, .inl (fun _ => 0))), (q_33, .inl (cI, 24, .inl (upd (upd (upd (upd (upd (upd (upd (upd (upd (upd (upd (upd (upd (upd (upd (upd (upd (upd (upd (upd (upd (upd (upd (upd (fun _ => 0) 0 115) 1 101) 2 116) 3 97) 4 100) 5 100) 6 109) 7 97) 8 120) 9 110) 10 101) 11 119) 12 103) 13 101) 14 116) 15 97) 16 115) 17 107) 18 100) 19 111) 20 0) 21 105) 22 102) 23 0))), (q_43, .inl (cI, 48, .inl (fun _ => 0)))] := hV
  have hV := Vx_sub (w := [(h, .inr (7, [.int 0, .ref q_1, .ref q_2, .ref q_3, .ref q_4, .ref q_5, .ref q_6, .ref q_7, .ref q_8, .ref q_9, .ref q_10, .ref q_11, .ref q_12, .ref q_13, .ref q_14, .ref q_15, .ref q_16, .ref q_17, .ref q_18, .ref q_19, .ref q_20, .int 0, .int 0, .ref q_21, .int 0, .ref q_22, .ref q_23, .ref q_24, .ref q_25, .int 0, .int 0, .ref q_26, .ref q_27, .ref q_28, .int 0, .ref q_29, .int 0, .int 0, .int 0, .ref q_30, .ref q_31, .ref q_32, .ref q_33, .ref q_34, .ref q_35, .ref q_36, .ref q_37, .ref q_38, .ref q_39, .int 0, .int 0, .int 0, .int 0, .ref q_40, .ref q_41, .ref q_42, .ref q_43, .null, .null, .null, .int 0, .null, .null, .null, .null, .null, .null])), (q_5, .inl (cI, 6, .inl (fun _ => 0))), (q_6, .inl (cI, 6, .inl (fun _ => 0))), (q_7, .inl (cI, 48, .inl (fun _ => 0))), (q_8, .inl (cI, 12, .inl (fun _ => 0))), (q_9, .inl (cI, 12, .inl (fun _ => 0))), (q_10, .inl (cI, 192, .inl (fun _ => 0))), (q_11, .inl (cI, 192, .inl (fun _ => 0))), (q_12, .inl (cI, 192, .inl (fun _ => 0))), (q_13, .inl (cI, 192, .inl (fun _ => 0))), (q_14, .inl (cI, 2, .inl (fun _ => 0))), (q_15, .inl (cI, 12, .inl (fun _ => 0))), (q_16, .inl (cI, 12, .inl (fun _ => 0))), (q_17, .inl (cI, 96, .inl (fun _ => 0))), (q_18, .inl (cI, 96, .inl (fun _ => 0))), (q_19, .inl (cI, 96, .inl (fun _ => 0))), (q_20, .inl (cZ, 12, .inl (fun _ => 0))), (q_25, .inl (cI, 100, .inl (fun _ => 0))), (q_29, .inl (cI, 4, .inl (upd (upd (upd (upd (fun _ => 0) 0 1) 1 1) 2 1) 3 1))), (q_30, .inl (cI, 8, .inl (fun _ => 0))), (q_31, .inl (cI, 8, .inl (fun _ => 0))), (q_32, .inl (cI, 8, .inl (fun _ => 0))), (q_33, .inl (cI, 24, .inl (upd (upd (upd (upd (upd (upd (upd (upd (upd (upd (upd (upd (upd (upd (upd (upd (upd (upd (upd (upd (upd (upd (upd (upd (fun _ => 0) 0 115) 1 101) 2 116) 3 97) 4 100) 5 100) 6 109) 7 97) 8 120) 9 110) 10 101) 11 119) 12 103) 13 101) 14 116) 15 97) 16 115) 17 107) 18 100) 19 111) 20 0) 21 105) 22 102) 23 0)))]) hV [0, 1, 2, 3, 4, 5, 6, 7, 8, 9, 10, 11, 12, 13, 14, 15, 16, 17, 18, 19, 20, 21, 22] rfl rfl (by decide)
  refine lv_aload_n hx hb dX7_init_503 rfl (lv_at hl 0 rfl) ?_
  refine lv_bipush (v := 30) hx hb dX7_init_504 (by decide) ?_
  refine x_newi (N' := 30) hB hV k_101 (by decide) (by decide) (by decide) (Nat.le_of_ble_eq_true rfl) (Nat.le_of_ble_eq_true rfl) dX7_init_506 (fun q_44 H hV => ?_)
  have hV : Vx D A s.heap H locs [(h, .inr (7, [.int 0, .ref q_1, .ref q_2, .ref q_3, .ref q_4, .ref q_5, .ref q_6, .ref q_7, .ref q_8, .ref q_9, .ref q_10, .ref q_11, .ref q_12, .ref q_13, .ref q_14, .ref q_15, .ref q_16, .ref q_17, .ref q_18, .ref q_19, .ref q_20, .int 0, .int 0, .ref q_21, .int 0, .ref q_22, .ref q_23, .ref q_24, .ref q_25, .int 0, .int 0, .ref q_26, .ref q_27, .ref q_28, .int 0, .ref q_29, .int 0, .int 0, .int 0, .ref q_30, .ref q_31, .ref q_32, .ref q_33, .ref q_34, .ref q_35, .ref q_36, .ref q_37, .ref q_38, .ref q_39, .int 0, .int 0, .int 0, .int 0, .ref q_40, .ref q_41, .ref q_42, .ref q_43, .null, .null, .null, .int 0, .null, .null, .null, .null, .null, .null])), (q_5, .inl (cI, 6, .inl (fun _ => 0))), (q_6, .inl (cI, 6, .inl (fun _ => 0))), (q_7, .inl (cI, 48, .inl (fun _ => 0))), (q_8, .inl (cI, 12, .inl (fun _ => 0))), (q_9, .inl (cI, 12, .inl (fun _ => 0))), (q_10, .inl (cI, 192, .inl (fun _ => 0))), (q_11, .inl (cI, 192, .inl (fun _ => 0))), (q_12, .inl (cI, 192, .inl (fun _ => 0))), (q_13, .inl (cI, 192, .inl (fun _ => 0))), (q_14, .inl (cI, 2, .inl (fun _ => 0))), (q_15, .inl (cI, 12, .inl (fun _ => 0))), (q_16, .inl (cI, 12, .inl (fun _ => 0))), (q_17, .inl (cI, 96, .inl (fun _ => 0))), (q_18, .inl (cI, 96, .inl (fun _ => 0))), (q_19, .inl (cI, 96, .inl (fun _ => 0))), (q_20, .inl (cZ, 12, .inl (fun _ => 0))), (q_25, .inl (cI, 100, .inl (fun _ => 0))), (q_29, .inl (cI, 4, .inl (upd (upd (upd (upd (fun _ => 0) 0 1) 1 1) 2 1) 3 1))), (q_30, .inl (cI, 8, .inl (fun _ => 0))), (q_31, .inl (cI, 8, .inl (fun _ => 0))), (q_32, .inl (cI, 8, .inl (fun _ => 0))), (q_33, .inl (cI, 24, .inl (upd (upd (upd (upd (upd (upd (upd (upd (upd (upd (upd (upd (upd (upd (upd (upd (upd (upd (upd (upd (upd (upd (upd (upd (fun _ => 0) 0 115) 1 101) 2 116) 3 97) 4 100) 5 100) 6 109) 7 97) 8 120) 9 110) 10 101) 11 119) 12 103) 13 101) 14 116) 15 97) 16 115) 17 107) 18 100) 19 111) 20 0) 21 105) 22 102) 23 0))), (q_44, .inl (cI, 30, .inl (fun _ => 0)))] := hV
  refine W.widen (k := 44) (n := 3014) (Nat.le_of_ble_eq_true rfl) (Nat.le_of_ble_eq_true rfl) ?_
  refine x_putF (v := .ref q_44) hB hV hin 0 rfl rfl 57 (by decide) k_802 rfl rfl rfl rfl (Nat.le_of_ble_eq_true rfl) dX7_init_508 (fun H locs hV => ?_)
  have hV : Vx D A s.heap H locs [(h, .inr (7, [.int 0, .ref q_1, .ref q_2, .ref q_3, .ref q_4, .ref q_5, .ref q_6, .ref q_7, .ref q_8, .ref q_9, .ref q_10, .ref q_11, .ref q_12, .ref q_13, .ref q_14, .ref q_15, .ref q_16, .ref q_17, .ref q_18, .ref q_19, .ref q_20, .int 0, .int 0, .ref q_21, .int 0, .ref q_22, .ref q_23, .ref q_24, .ref q_25, .int 0, .int 0, .ref q_26, .ref q_27, .ref q_28, .int 0, .ref q_29, .int 0, .int 0, .int 0, .ref q_30, .ref q_31, .ref q_32, .ref q_33, .ref q_34, .ref q_35, .ref q_36, .ref q_37, .ref q_38, .ref q_39, .int 0, .int 0, .int 0, .int 0, .ref q_40, .ref q_41, .ref q_42, .ref q_43, .ref q_44, .null, .null, .int 0, .null, .null, .null, .null, .null, .null])), (q_5, .inl (cI, 6, .inl (fun _ => 0))), (q_6, .inl (cI, 6, .inl (fun _ => 0))), (q_7, .inl (cI, 48, .inl (fun _ => 0))), (q_8, .inl (cI, 12, .inl (fun _ => 0))), (q_9, .inl (cI, 12, .inl (fun _ => 0))), (q_10, .inl (cI, 192, .inl (fun _ => 0))), (q_11, .inl (cI, 192, .inl (fun _ => 0))), (q_12, .inl (cI, 192, .inl (fun _ => 0))), (q_13, .inl (cI, 192, .inl (fun _ => 0))), (q_14, .inl (cI, 2, .inl (fun _ => 0))), (q_15, .inl (cI, 12, .inl (fun _ => 0))), (q_16, .inl (cI, 12, .inl (fun _ => 0))), (q_17, .inl (cI, 96, .inl (fun _ => 0))), (q_18, .inl (cI, 96, .inl (fun _ => 0))), (q_19, .inl (cI, 96, .inl (fun _ => 0))), (q_20, .inl (cZ, 12, .inl (fun _ => 0))), (q_25, .inl (cI, 100, .inl (fun _ => 0))), (q_29, .inl (cI, 4, .inl (upd (upd (upd (upd (fun _ => 0) 0 1) 1 1) 2 1) 3 1))), (q_30, .inl (cI, 8, .inl (fun _ => 0))), (q_31, .inl (cI, 8, .inl (fun _ => 0))), (q_32, .inl (cI, 8, .inl (fun _ => 0))), (q_33, .inl (cI, 24, .inl (upd (upd (upd (upd (upd (upd (upd (upd (upd (upd (upd (upd (upd (upd (upd (upd (upd (upd (upd (upd (upd (upd (upd (upd (fun _ => 0) 0 115) 1 101) 2 116) 3 97) 4 100) 5 100) 6 109) 7 97) 8 120) 9 110) 10 101) 11 119) 12 103) 13 101) 14 116) 15 97) 16 115) 17 107) 18 100) 19 111) 20 0) 21 105) 22 102) 23 0))), (q_44, .inl (cI, 30, .inl (fun _ => 0)))] := hV
  refine lv_aload_n hx hb dX7_init_511 rfl (lv_at hl 0 rfl) ?_
  refine lv_sipush (v := 1200) hx hb dX7_init_512 (by decide) ?_
  refine x_newi (N' := 1200) hB hV k_101 (by decide) (by decide) (by decide) (Nat.le_of_ble_eq_true rfl) (Nat.le_of_ble_eq_true rfl) dX7_init_515 (fun q_45 H hV => ?_)
  have hV : Vx D A s.heap H locs [(h, .inr (7, [.int 0, .ref q_1, .ref q_2, .ref q_3, .ref q_4, .ref q_5, .ref q_6, .ref q_7, .ref q_8, .ref q_9, .ref q_10, .ref q_11, .ref q_12, .ref q_13, .ref q_14, .ref q_15, .ref q_16, .ref q_17, .ref q_18, .ref q_19, .ref q_20, .int 0, .int 0, .ref q_21, .int 0, .ref q_22, .ref q_23, .ref q_24, .ref q_25, .int 0, .int 0, .ref q_26, .ref q_27, .ref q_28, .int 0, .ref q_29, .int 0, .int 0, .int 0, .ref q_30, .ref q_31, .ref q_32, .ref q_33, .ref q_34, .ref q_35, .ref q_36, .ref q_37, .ref q_38, .ref q_39, .int 0, .int 0, .int 0, .int 0, .ref q_40, .ref q_41, .ref q_42, .ref q_43, .ref q_44, .null, .null, .int 0, .null, .null, .null, .null, .null, .null])), (q_5, .inl (cI, 6, .inl (fun _ => 0))), (q_6, .inl (cI, 6, .inl (fun _ => 0))), (q_7, .inl (cI, 48, .inl (fun _ => 0))), (q_8, .inl (cI, 12, .inl (fun _ => 0))), (q_9, .inl (cI, 12, .inl (fun _ => 0))), (q_10, .inl (cI, 192, .inl (fun _ => 0))), (q_11, .inl (cI, 192, .inl (fun _ => 0))), (q_12, .inl (cI, 192, .inl (fun _ => 0))), (q_13, .inl (cI, 192, .inl (fun _ => 0))), (q_14, .inl (cI, 2, .inl (fun _ => 0))), (q_15, .inl (cI, 12, .inl (fun _ => 0))), (q_16, .inl (cI, 12, .inl (fun _ => 0))), (q_17, .inl (cI, 96, .inl (fun _ => 0))), (q_18, .inl (cI, 96, .inl (fun _ => 0))), (q_19, .inl (cI, 96, .inl (fun _ => 0))), (q_20, .inl (cZ, 12, .inl (fun _ => 0))), (q_25, .inl (cI, 100, .inl (fun _ => 0))), (q_29, .inl (cI, 4, .inl (upd (upd (upd (upd (fun _ => 0) 0 1) 1 1) 2 1) 3 1))), (q_30, .inl (cI, 8, .inl (fun _ => 0))), (q_31, .inl (cI, 8, .inl (fun _ => 0))), (q_32, .inl (cI, 8, .inl (fun _ => 0))), (q_33, .inl (cI, 24, .inl (upd (upd (upd (upd (upd (upd (upd (upd (upd (upd (upd (upd (upd (upd (upd (upd (upd (upd (upd (upd (upd (upd (upd (upd (fun _ => 0) 0 115) 1 101) 2 116) 3 97) 4 100) 5 100) 6 109) 7 97) 8 120) 9 110) 10 101) 11 119) 12 103) 13 101) 14 116) 15 97) 16 115) 17 107) 18 100) 19 111) 20 0) 21 105) 22 102) 23 0))), (q_44, .inl (cI, 30, .inl (fun _ => 0))), (q_45, .inl (cI, 1200, .inl (fun _ => 0)))] := hV
  refine W.widen (k := 45) (n := 4214) (Nat.le_of_ble_eq_true rfl) (Nat.le_of_ble_eq_true rfl) ?_
  refine x_putF (v := .ref q_45) hB hV hin 0 rfl rfl 58 (by decide) k_803 rfl rfl rfl rfl (Nat.le_of_ble_eq_true rfl) dX7_init_517 (fun H locs hV => ?_)
  have hV : Vx D A s.heap H locs [(h, .inr (7, [.int 0, .ref q_1, .ref q_2, .ref q_3, .ref q_4, .ref q_5, .ref q_6, .ref q_7, .ref q_8, .ref q_9, .ref q_10, .ref q_11, .ref q_12, .ref q_13, .ref q_14, .ref q_15, .ref q_16, .ref q_17, .ref q_18, .ref q_19, .ref q_20, .int 0, .int 0, .ref q_21, .int 0, .ref q_22, .ref q_23, .ref q_24, .ref q_25, .int 0, .int 0, .ref q_26, .ref q_27, .ref q_28, .int 0, .ref q_29, .int 0, .int 0, .int 0, .ref q_30, .ref q_31, .ref q_32, .ref q_33, .ref q_34, .ref q_35, .ref q_36, .ref q_37, .ref q_38, .ref q_39, .int 0, .int 0, .int 0, .int 0, .ref q_40, .ref q_41, .ref q_42, .ref q_43, .ref q_44, .ref q_45, .null, .int 0, .null, .null, .null, .null, .null, .null])), (q_5, .inl (cI, 6, .inl (fun _ => 0))), (q_6, .inl (cI, 6, .inl (fun _ => 0))), (q_7, .inl (cI, 48, .inl (fun _ => 0))), (q_8, .inl (cI, 12, .inl (fun _ => 0))), (q_9, .inl (cI, 12, .inl (fun _ => 0))), (q_10, .inl (cI, 192, .inl (fun _ => 0))), (q_11, .inl (cI, 192, .inl (fun _ => 0))), (q_12, .inl (cI, 192, .inl (fun _ => 0))), (q_13, .inl (cI, 192, .inl (fun _ => 0))), (q_14, .inl (cI, 2, .inl (fun _ => 0))), (q_15, .inl (cI, 12, .inl (fun _ => 0))), (q_16, .inl (cI, 12, .inl (fun _ => 0))), (q_17, .inl (cI, 96, .inl (fun _ => 0))), (q_18, .inl (cI, 96, .inl (fun _ => 0))), (q_19, .inl (cI, 96, .inl (fun _ => 0))), (q_20, .inl (cZ, 12, .inl (fun _ => 0))), (q_25, .inl (cI, 100, .inl (fun _ => 0))), (q_29, .inl (cI, 4, .inl (upd (upd (upd (upd (fun _ => 0) 0 1) 1 1) 2 1) 3 1))), (q_30, .inl (cI, 8, .inl (fun _ => 0))), (q_31, .inl (cI, 8, .inl (fun _ => 0))), (q_32, .inl (cI, 8, .inl (fun _ => 0))), (q_33, .inl (cI, 24, .inl (upd (upd (upd (upd (upd (upd (upd (upd (upd (upd (upd (upd (upd (upd (upd (upd (upd (upd (upd (upd (upd (upd (upd (upd (fun _ => 0) 0 115) 1 101) 2 116) 3 97) 4 100) 5 100) 6 109) 7 97) 8 120) 9 110) 10 101) 11 119) 12 103) 13 101) 14 116) 15 97) 16 115) 17 107) 18 100) 19 111) 20 0) 21 105) 22 102) 23 0))), (q_44, .inl (cI, 30, .inl (fun _ => 0))), (q_45, .inl (cI, 1200, .inl (fun _ => 0)))] := hV
  have hV := Vx_sub (w := [(h, .inr (7, [.int 0, .ref q_1, .ref q_2, .ref q_3, .ref q_4, .ref q_5, .ref q_6, .ref q_7, .ref q_8, .ref q_9, .ref q_10, .ref q_11, .ref q_12, .ref q_13, .ref q_14, .ref q_15, .ref q_16, .ref q_17, .ref q_18, .ref q_19, .ref q_20, .int 0, .int 0, .ref q_21, .int 0, .ref q_22, .ref q_23, .ref q_24, .ref q_25, .int 0, .int 0, .ref q_26, .ref q_27, .ref q_28, .int 0, .ref q_29, .int 0, .int 0, .int 0, .ref q_30, .ref q_31, .ref q_32, .ref q_33, .ref q_34, .ref q_35, .ref q_36, .ref q_37, .ref q_38, .ref q_39, .int 0, .int 0, .int 0, .int 0, .ref q_40, .ref q_41, .ref q_42, .ref q_43, .ref q_44, .ref q_45, .null, .int 0, .null, .null, .null, .null, .null, .null])), (q_5, .inl (cI, 6, .inl (fun _ => 0))), (q_6, .inl (cI, 6, .inl (fun _ => 0))), (q_7, .inl (cI, 48, .inl (fun _ => 0))), (q_8, .inl (cI, 12, .inl (fun _ => 0))), (q_9, .inl (cI, 12, .inl (fun _ => 0))), (q_10, .inl (cI, 192, .inl (fun _ => 0))), (q_11, .inl (cI, 192, .inl (fun _ => 0))), (q_12, .inl (cI, 192, .inl (fun _ => 0))), (q_13, .inl (cI, 192, .inl (fun _ => 0))), (q_14, .inl (cI, 2, .inl (fun _ => 0))), (q_15, .inl (cI, 12, .inl (fun _ => 0))), (q_16, .inl (cI, 12, .inl (fun _ => 0))), (q_17, .inl (cI, 96, .inl (fun _ => 0))), (q_18, .inl (cI, 96, .inl (fun _ => 0))), (q_19, .inl (cI, 96, .inl (fun _ => 0))), (q_20, .inl (cZ, 12, .inl (fun _ => 0))), (q_25, .inl (cI, 100, .inl (fun _ => 0))), (q_29, .inl (cI, 4, .inl (upd (upd (upd (upd (fun _ => 0) 0 1) 1 1) 2 1) 3 1))), (q_30, .inl (cI, 8, .inl (fun _ => 0))), (q_31, .inl (cI, 8, .inl (fun _ => 0))), (q_32, .inl (cI, 8, .inl (fun _ => 0))), (q_33, .inl (cI, 24, .inl (upd (upd (upd (upd (upd (upd (upd (upd (upd (upd (upd (upd (upd (upd (upd (upd (upd (upd (upd (upd (upd (upd (upd (upd (fun _ => 0) 0 115) 1 101) 2 116) 3 97) 4 100) 5 100) 6 109) 7 97) 8 120) 9 110) 10 101) 11 119) 12 103) 13 101) 14 116) 15 97) 16 115) 17 107) 18 100) 19 111) 20 0) 21 105) 22 102) 23 0))), (q_44, .inl (cI, 30, .inl (fun _ => 0)))]) hV [0, 1, 2, 3, 4, 5, 6, 7, 8, 9, 10, 11, 12, 13, 14, 15, 16, 17, 18, 19, 20, 21, 22, 23] rfl rfl (by decide)
  refine lv_aload_n hx hb dX7_init_520 rfl (lv_at hl 0 rfl) ?_
  refine lv_bipush (v := 6) hx hb dX7_init_521 (by decide) ?_
  refine x_newi (N' := 6) hB hV k_101 (by decide) (by decide) (by decide) (Nat.le_of_ble_eq_true rfl) (Nat.le_of_ble_eq_true rfl) dX7_init_523 (fun q_46 H hV => ?_)
  have hV : Vx D A s.heap H locs [(h, .inr (7, [.int 0, .ref q_1, .ref q_2, .ref q_3, .ref q_4, .ref q_5, .ref q_6, .ref q_7, .ref q_8, .ref q_9, .ref q_10, .ref q_11, .ref q_12, .ref q_13, .ref q_14, .ref q_15, .ref q_16, .ref q_17, .ref q_18, .ref q_19, .ref q_20, .int 0, .int 0, .ref q_21, .int 0, .ref q_22, .ref q_23, .ref q_24, .ref q_25, .int 0, .int 0, .ref q_26, .ref q_27, .ref q_28, .int 0, .ref q_29, .int 0, .int 0, .int 0, .ref q_30, .ref q_31, .ref q_32, .ref q_33, .ref q_34, .ref q_35, .ref q_36, .ref q_37, .ref q_38, .ref q_39, .int 0, .int 0, .int 0, .int 0, .ref q_40, .ref q_41, .ref q_42, .ref q_43, .ref q_44, .ref q_45, .null, .int 0, .null, .null, .null, .null, .null, .null])), (q_5, .inl (cI, 6, .inl (fun _ => 0))), (q_6, .inl (cI, 6, .inl (fun _ => 0))), (q_7, .inl (cI, 48, .inl (fun _ => 0))), (q_8, .inl (cI, 12, .inl (fun _ => 0))), (q_9, .inl (cI, 12, .inl (fun _ => 0))), (q_10, .inl (cI, 192, .inl (fun _ => 0))), (q_11, .inl (cI, 192, .inl (fun _ => 0))), (q_12, .inl (cI, 192, .inl (fun _ => 0))), (q_13, .inl (cI, 192, .inl (fun _ => 0))), (q_14, .inl (cI, 2, .inl (fun _ => 0))), (q_15, .inl (cI, 12, .inl (fun _ => 0))), (q_16, .inl (cI, 12, .inl (fun _ => 0))), (q_17, .inl (cI, 96, .inl (fun _ => 0))), (q_18, .inl (cI, 96, .inl (fun _ => 0))), (q_19, .inl (cI, 96, .inl (fun _ => 0))), (q_20, .inl (cZ, 12, .inl (fun _ => 0))), (q_25, .inl (cI, 100, .inl (fun _ => 0))), (q_29, .inl (cI, 4, .inl (upd (upd (upd (upd (fun _ => 0) 0 1) 1 1) 2 1) 3 1))), (q_30, .inl (cI, 8, .inl (fun _ => 0))), (q_31, .inl (cI, 8, .inl (fun _ => 0))), (q_32, .inl (cI, 8, .inl (fun _ => 0))), (q_33, .inl (cI, 24, .inl (upd (upd (upd (upd (upd (upd (upd (upd (upd (upd (upd (upd (upd (upd (upd (upd (upd (upd (upd (upd (upd (upd (upd (upd (fun _ => 0) 0 115) 1 101) 2 116) 3 97) 4 100) 5 100) 6 109) 7 97) 8 120) 9 110) 10 101) 11 119) 12 103) 13 101) 14 116) 15 97) 16 115) 17 107) 18 100) 19 111) 20 0) 21 105) 22 102) 23 0))), (q_44, .inl (cI, 30, .inl (fun _ => 0))), (q_46, .inl (cI, 6, .inl (fun _ => 0)))] := hV
  refine W.widen (k := 46) (n := 4220) (Nat.le_of_ble_eq_true rfl) (Nat.le_of_ble_eq_true rfl) ?_
  refine x_putF (v := .ref q_46) hB hV hin 0 rfl rfl 59 (by decide) k_804 rfl rfl rfl rfl (Nat.le_of_ble_eq_true rfl) dX7_init_525 (fun H locs hV => ?_)
  have hV : Vx D A s.heap H locs [(h, .inr (7, [.int 0, .ref q_1, .ref q_2, .ref q_3, .ref q_4, .ref q_5, .ref q_6, .ref q_7, .ref q_8, .ref q_9, .ref q_10, .ref q_11, .ref q_12, .ref q_13, .ref q_14, .ref q_15, .ref q_16, .ref q_17, .ref q_18, .ref q_19, .ref q_20, .int 0, .int 0, .ref q_21, .int 0, .ref q_22, .ref q_23, .ref q_24, .ref q_25, .int 0, .int 0, .ref q_26, .ref q_27, .ref q_28, .int 0, .ref q_29, .int 0, .int 0, .int 0, .ref q_30, .ref q_31, .ref q_32, .ref q_33, .ref q_34, .ref q_35, .ref q_36, .ref q_37, .ref q_38, .ref q_39, .int 0, .int 0, .int 0, .int 0, .ref q_40, .ref q_41, .ref q_42, .ref q_43, .ref q_44, .ref q_45, .ref q_46, .int 0, .null, .null, .null, .null, .null, .null])), (q_5, .inl (cI, 6, .inl (fun _ => 0))), (q_6, .inl (cI, 6, .inl (fun _ => 0))), (q_7, .inl (cI, 48, .inl (fun _ => 0))), (q_8, .inl (cI, 12, .inl (fun _ => 0))), (q_9, .inl (cI, 12, .inl (fun _ => 0))), (q_10, .inl (cI, 192, .inl (fun _ => 0))), (q_11, .inl (cI, 192, .inl (fun _ => 0))), (q_12, .inl (cI, 192, .inl (fun _ => 0))), (q_13, .inl (cI, 192, .inl (fun _ => 0))), (q_14, .inl (cI, 2, .inl (fun _ => 0))), (q_15, .inl (cI, 12, .inl (fun _ => 0))), (q_16, .inl (cI, 12, .inl (fun _ => 0))), (q_17, .inl (cI, 96, .inl (fun _ => 0))), (q_18, .inl (cI, 96, .inl (fun _ => 0))), (q_19, .inl (cI, 96, .inl (fun _ => 0))), (q_20, .inl (cZ, 12, .inl (fun _ => 0))), (q_25, .inl (cI, 100, .inl (fun _ => 0))), (q_29, .inl (cI, 4, .inl (upd (upd (upd (upd (fun _ => 0) 0 1) 1 1) 2 1) 3 1))), (q_30, .inl (cI, 8, .inl (fun _ => 0))), (q_31, .inl (cI, 8, .inl (fun _ => 0))), (q_32, .inl (cI, 8, .inl (fun _ => 0))), (q_33, .inl (cI, 24, .inl (upd (upd (upd (upd (upd (upd (upd (upd (upd (upd (upd (upd (upd (upd (upd (upd (upd (upd (upd (upd (upd (upd (upd (upd (fun _ => 0) 0 115) 1 101) 2 116) 3 97) 4 100) 5 100) 6 109) 7 97) 8 120) 9 110) 10 101) 11 119) 12 103) 13 101) 14 116) 15 97) 16 115) 17 107) 18 100) 19 111) 20 0) 21 105) 22 102) 23 0))), (q_44, .inl (cI, 30, .inl (fun _ => 0))), (q_46, .inl (cI, 6, .inl (fun _ => 0)))] := hV
  have hV := Vx_sub (w := [(h, .inr (7, [.int 0, .ref q_1, .ref q_2, .ref q_3, .ref q_4, .ref q_5, .ref q_6, .ref q_7, .ref q_8, .ref q_9, .ref q_10, .ref q_11, .ref q_12, .ref q_13, .ref q_14, .ref q_15, .ref q_16, .ref q_17, .ref q_18, .ref q_19, .ref q_20, .int 0, .int 0, .ref q_21, .int 0, .ref q_22, .ref q_23, .ref q_24, .ref q_25, .int 0, .int 0, .ref q_26, .ref q_27, .ref q_28, .int 0, .ref q_29, .int 0, .int 0, .int 0, .ref q_30, .ref q_31, .ref q_32, .ref q_33, .ref q_34, .ref q_35, .ref q_36, .ref q_37, .ref q_38, .ref q_39, .int 0, .int 0, .int 0, .int 0, .ref q_40, .ref q_41, .ref q_42, .ref q_43, .ref q_44, .ref q_45, .ref q_46, .int 0, .null, .null, .null, .null, .null, .null])), (q_5, .inl (cI, 6, .inl (fun _ => 0))), (q_6, .inl (cI, 6, .inl (fun _ => 0))), (q_7, .inl (cI, 48, .inl (fun _ => 0))), (q_8, .inl (cI, 12, .inl (fun _ => 0))), (q_9, .inl (cI, 12, .inl (fun _ => 0))), (q_10, .inl (cI, 192, .inl (fun _ => 0))), (q_11, .inl (cI, 192, .inl (fun _ => 0))), (q_12, .inl (cI, 192, .inl (fun _ => 0))), (q_13, .inl (cI, 192, .inl (fun _ => 0))), (q_14, .inl (cI, 2, .inl (fun _ => 0))), (q_15, .inl (cI, 12, .inl (fun _ => 0))), (q_16, .inl (cI, 12, .inl (fun _ => 0))), (q_17, .inl (cI, 96, .inl (fun _ => 0))), (q_18, .inl (cI, 96, .inl (fun _ => 0))), (q_19, .inl (cI, 96, .inl (fun _ => 0))), (q_20, .inl (cZ, 12, .inl (fun _ => 0))), (q_25, .inl (cI, 100, .inl (fun _ => 0))), (q_29, .inl (cI, 4, .inl (upd (upd (upd (upd (fun _ => 0) 0 1) 1 1) 2 1) 3 1))), (q_30, .inl (cI, 8, .inl (fun _ => 0))), (q_31, .inl (cI, 8, .inl (fun _ => 0))), (q_32, .inl (cI, 8, .inl (fun _ => 0))), (q_33, .inl (cI, 24, .inl (upd (upd (upd (upd (upd (upd (upd (upd (upd (upd (upd (upd (upd (upd (upd (upd (upd (upd (upd (upd (upd (upd (upd (upd (fun _ => 0) 0 115) 1 101) 2 116) 3 97) 4 100) 5 100) 6 109) 7 97) 8 120) 9 110) 10 101) 11 119) 12 103) 13 101) 14 116) 15 97) 16 115) 17 107) 18 100) 19 111) 20 0) 21 105) 22 102) 23 0))), (q_44, .inl (cI, 30, .inl (fun _ => 0)))]) hV [0, 1, 2, 3, 4, 5, 6, 7, 8, 9, 10, 11, 12, 13, 14, 15, 16, 17, 18, 19, 20, 21, 22, 23] rfl rfl (by decide)
  refine lv_aload_n hx hb dX7_init_528 rfl (lv_at hl 0 rfl) ?_
  refine lv_iconst (v := 5) hx hb dX7_init_529 (by decide) ?_
  refine x_newi (N' := 5) hB hV k_101 (by decide) (by decide) (by decide) (Nat.le_of_ble_eq_true rfl) (Nat.le_of_ble_eq_true rfl) dX7_init_530 (fun q_47 H hV => ?_)
  have hV : Vx D A s.heap H locs [(h, .inr (7, [.int 0, .ref q_1, .ref q_2, .ref q_3, .ref q_4, .ref q_5, .ref q_6, .ref q_7, .ref q_8, .ref q_9, .ref q_10, .ref q_11, .ref q_12, .ref q_13, .ref q_14, .ref q_15, .ref q_16, .ref q_17, .ref q_18, .ref q_19, .ref q_20, .int 0, .int 0, .ref q_21, .int 0, .ref q_22, .ref q_23, .ref q_24, .ref q_25, .int 0, .int 0, .ref q_26, .ref q_27, .ref q_28, .int 0, .ref q_29, .int 0, .int 0, .int 0, .ref q_30, .ref q_31, .ref q_32, .ref q_33, .ref q_34, .ref q_35, .ref q_36, .ref q_37, .ref q_38, .ref q_39, .int 0, .int 0, .int 0, .int 0, .ref q_40, .ref q_41, .ref q_42, .ref q_43, .ref q_44, .ref q_45, .ref q_46, .int 0, .null, .null, .null, .null, .null, .null])), (q_5, .inl (cI, 6, .inl (fun _ => 0))), (q_6, .inl (cI, 6, .inl (fun _ => 0))), (q_7, .inl (cI, 48, .inl (fun _ => 0))), (q_8, .inl (cI, 12, .inl (fun _ => 0))), (q_9, .inl (cI, 12, .inl (fun _ => 0))), (q_10, .inl (cI, 192, .inl (fun _ => 0))), (q_11, .inl (cI, 192, .inl (fun _ => 0))), (q_12, .inl (cI, 192, .inl (fun _ => 0))), (q_13, .inl (cI, 192, .inl (fun _ => 0))), (q_14, .inl (cI, 2, .inl (fun _ => 0))), (q_15, .inl (cI, 12, .inl (fun _ => 0))), (q_16, .inl (cI, 12, .inl (fun _ => 0))), (q_17, .inl (cI, 96, .inl (fun _ => 0))), (q_18, .inl (cI, 96, .inl (fun _ => 0))), (q_19, .inl (cI, 96, .inl (fun _ => 0))), (q_20, .inl (cZ, 12, .inl (fun _ => 0))), (q_25, .inl (cI, 100, .inl (fun _ => 0))), (q_29, .inl (cI, 4, .inl (upd (upd (upd (upd (fun _ => 0) 0 1) 1 1) 2 1) 3 1))), (q_30, .inl (cI, 8, .inl (fun _ => 0))), (q_31, .inl (cI, 8, .inl (fun _ => 0))), (q_32, .inl (cI, 8, .inl (fun _ => 0))), (q_33, .inl (cI, 24, .inl (upd (upd (upd (upd (upd (upd (upd (upd (upd (upd (upd (upd (upd (upd (upd (upd (upd (upd (upd (upd (upd (upd (upd (upd (fun _ => 0) 0 115) 1 101) 2 116) 3 97) 4 100) 5 100) 6 109) 7 97) 8 120) 9 110) 10 101) 11 119) 12 103) 13 101) 14 116) 15 97) 16 115) 17 107) 18 100) 19 111) 20 0) 21 105) 22 102) 23 0))), (q_44, .inl (cI, 30, .inl (fun _ => 0))), (q_47, .inl (cI, 5, .inl (fun _ => 0)))] := hV
  refine W.widen (k := 47) (n := 4225) (Nat.le_of_ble_eq_true rfl) (Nat.le_of_ble_eq_true rfl) ?_
  refine x_putF (v := .ref q_47) hB hV hin 0 rfl rfl 61 (by decide) k_806 rfl rfl rfl rfl (Nat.le_of_ble_eq_true rfl) dX7_init_532 (fun H locs hV => ?_)
  have hV : Vx D A s.heap H locs [(h, .inr (7, [.int 0, .ref q_1, .ref q_2, .ref q_3, .ref q_4, .ref q_5, .ref q_6, .ref q_7, .ref q_8, .ref q_9, .ref q_10, .ref q_11, .ref q_12, .ref q_13, .ref q_14, .ref q_15, .ref q_16, .ref q_17, .ref q_18, .ref q_19, .ref q_20, .int 0, .int 0, .ref q_21, .int 0, .ref q_22, .ref q_23, .ref q_24, .ref q_25, .int 0, .int 0, .ref q_26, .ref q_27, .ref q_28, .int 0, .ref q_29, .int 0, .int 0, .int 0, .ref q_30, .ref q_31, .ref q_32, .ref q_33, .ref q_34, .ref q_35, .ref q_36, .ref q_37, .ref q_38, .ref q_39, .int 0, .int 0, .int 0, .int 0, .ref q_40, .ref q_41, .ref q_42, .ref q_43, .ref q_44, .ref q_45, .ref q_46, .int 0, .ref q_47, .null, .null, .null, .null, .null])), (q_5, .inl (cI, 6, .inl (fun _ => 0))), (q_6, .inl (cI, 6, .inl (fun _ => 0))), (q_7, .inl (cI, 48, .inl (fun _ => 0))), (q_8, .inl (cI, 12, .inl (fun _ => 0))), (q_9, .inl (cI, 12, .inl (fun _ => 0))), (q_10, .inl (cI, 192, .inl (fun _ => 0))), (q_11, .inl (cI, 192, .inl (fun _ => 0))), (q_12, .inl (cI, 192, .inl (fun _ => 0))), (q_13, .inl (cI, 192, .inl (fun _ => 0))), (q_14, .inl (cI, 2, .inl (fun _ => 0))), (q_15, .inl (cI, 12, .inl (fun _ => 0))), (q_16, .inl (cI, 12, .inl (fun _ => 0))), (q_17, .inl (cI, 96, .inl (fun _ => 0))), (q_18, .inl (cI, 96, .inl (fun _ => 0))), (q_19, .inl (cI, 96, .inl (fun _ => 0))), (q_20, .inl (cZ, 12, .inl (fun _ => 0))), (q_25, .inl (cI, 100, .inl (fun _ => 0))), (q_29, .inl (cI, 4, .inl (upd (upd (upd (upd (fun _ => 0) 0 1) 1 1) 2 1) 3 1))), (q_30, .inl (cI, 8, .inl (fun _ => 0))), (q_31, .inl (cI, 8, .inl (fun _ => 0))), (q_32, .inl (cI, 8, .inl (fun _ => 0))), (q_33, .inl (cI, 24, .inl (upd (upd (upd (upd (upd (upd (upd (upd (upd (upd (upd (upd (upd (upd (upd (upd (upd (upd (upd (upd (upd (upd (upd (upd (fun _ => 0) 0 115) 1 101) 2 116) 3 97) 4 100) 5 100) 6 109) 7 97) 8 120) 9 110) 10 101) 11 119) 12 103) 13 101) 14 116) 15 97) 16 115) 17 107) 18 100) 19 111) 20 0) 21 105) 22 102) 23 0))), (q_44, .inl (cI, 30, .inl (fun _ => 0))), (q_47, .inl (cI, 5, .inl (fun _ => 0)))] := hV
  have hV := Vx_sub (w := [(h, .inr (7, [.int 0, .ref q_1, .ref q_2, .ref q_3, .ref q_4, .ref q_5, .ref q_6, .ref q_7, .ref q_8, .ref q_9, .ref q_10, .ref q_11, .ref q_12, .ref q_13, .ref q_14, .ref q_15, .ref q_16, .ref q_17, .ref q_18, .ref q_19, .ref q_20, .int 0, .int 0, .ref q_21, .int 0, .ref q_22, .ref q_23, .ref q_24, .ref q_25, .int 0, .int 0, .ref q_26, .ref q_27, .ref q_28, .int 0, .ref q_29, .int 0, .int 0, .int 0, .ref q_30, .ref q_31, .ref q_32, .ref q_33, .ref q_34, .ref q_35, .ref q_36, .ref q_37, .ref q_38, .ref q_39, .int 0, .int 0, .int 0, .int 0, .ref q_40, .ref q_41, .ref q_42, .ref q_43, .ref q_44, .ref q_45, .ref q_46, .int 0, .ref q_47, .null, .null, .null, .null, .null])), (q_5, .inl (cI, 6, .inl (fun _ => 0))), (q_6, .inl (cI, 6, .inl (fun _ => 0))), (q_7, .inl (cI, 48, .inl (fun _ => 0))), (q_8, .inl (cI, 12, .inl (fun _ => 0))), (q_9, .inl (cI, 12, .inl (fun _ => 0))), (q_10, .inl (cI, 192, .inl (fun _ => 0))), (q_11, .inl (cI, 192, .inl (fun _ => 0))), (q_12, .inl (cI, 192, .inl (fun _ => 0))), (q_13, .inl (cI, 192, .inl (fun _ => 0))), (q_14, .inl (cI, 2, .inl (fun _ => 0))), (q_15, .inl (cI, 12, .inl (fun _ => 0))), (q_16, .inl (cI, 12, .inl (fun _ => 0))), (q_17, .inl (cI, 96, .inl (fun _ => 0))), (q_18, .inl (cI, 96, .inl (fun _ => 0))), (q_19, .inl (cI, 96, .inl (fun _ => 0))), (q_20, .inl (cZ, 12, .inl (fun _ => 0))), (q_25, .inl (cI, 100, .inl (fun _ => 0))), (q_29, .inl (cI, 4, .inl (upd (upd (upd (upd (fun _ => 0) 0 1) 1 1) 2 1) 3 1))), (q_30, .inl (cI, 8, .inl (fun _ => 0))), (q_31, .inl (cI, 8, .inl (fun _ => 0))), (q_32, .inl (cI, 8, .inl (fun _ => 0))), (q_33, .inl (cI, 24, .inl (upd (upd (upd (upd (upd (upd (upd (upd (upd (upd (upd (upd (upd (upd (upd (upd (upd (upd (upd (upd (upd (upd (upd (upd (fun _ => 0) 0 115) 1 101) 2 116) 3 97) 4 100) 5 100) 6 109) 7 97) 8 120) 9 110) 10 101) 11 119) 12 103) 13 101) 14 116) 15 97) 16 115) 17 107) 18 100) 19 111) 20 0) 21 105) 22 102) 23 0))), (q_44, .inl (cI, 30, .inl (fun _ => 0)))]) hV [0, 1, 2, 3, 4, 5, 6, 7, 8, 9, 10, 11, 12, 13, 14, 15, 16, 17, 18, 19, 20, 21, 22, 23] rfl rfl (by decide)
  refine lv_aload_n hx hb dX7_init_535 rfl (lv_at hl 0 rfl) ?_
  refine lv_sipush (v := 624) hx hb dX7_init_536 (by decide) ?_
  refine x_newi (N' := 624) hB hV k_101 (by decide) (by decide) (by decide) (Nat.le_of_ble_eq_true rfl) (Nat.le_of_ble_eq_true rfl) dX7_init_539 (fun q_48 H hV => ?_)
  have hV : Vx D A s.heap H locs [(h, .inr (7, [.int 0, .ref q_1, .ref q_2, .ref q_3, .ref q_4, .ref q_5, .ref q_6, .ref q_7, .ref q_8, .ref q_9, .ref q_10, .ref q_11, .ref q_12, .ref q_13, .ref q_14, .ref q_15, .ref q_16, .ref q_17, .ref q_18, .ref q_19, .ref q_20, .int 0, .int 0, .ref q_21, .int 0, .ref q_22, .ref q_23, .ref q_24, .ref q_25, .int 0, .int 0, .ref q_26, .ref q_27, .ref q_28, .int 0, .ref q_29, .int 0, .int 0, .int 0, .ref q_30, .ref q_31, .ref q_32, .ref q_33, .ref q_34, .ref q_35, .ref q_36, .ref q_37, .ref q_38, .ref q_39, .int 0, .int 0, .int 0, .int 0, .ref q_40, .ref q_41, .ref q_42, .ref q_43, .ref q_44, .ref q_45, .ref q_46, .int 0, .ref q_47, .null, .null, .null, .null, .null])), (q_5, .inl (cI, 6, .inl (fun _ => 0))), (q_6, .inl (cI, 6, .inl (fun _ => 0))), (q_7, .inl (cI, 48, .inl (fun _ => 0))), (q_8, .inl (cI, 12, .inl (fun _ => 0))), (q_9, .inl (cI, 12, .inl (fun _ => 0))), (q_10, .inl (cI, 192, .inl (fun _ => 0))), (q_11, .inl (cI, 192, .inl (fun _ => 0))), (q_12, .inl (cI, 192, .inl (fun _ => 0))), (q_13, .inl (cI, 192, .inl (fun _ => 0))), (q_14, .inl (cI, 2, .inl (fun _ => 0))), (q_15, .inl (cI, 12, .inl (fun _ => 0))), (q_16, .inl (cI, 12, .inl (fun _ => 0))), (q_17, .inl (cI, 96, .inl (fun _ => 0))), (q_18, .inl (cI, 96, .inl (fun _ => 0))), (q_19, .inl (cI, 96, .inl (fun _ => 0))), (q_20, .inl (cZ, 12, .inl (fun _ => 0))), (q_25, .inl (cI, 100, .inl (fun _ => 0))), (q_29, .inl (cI, 4, .inl (upd (upd (upd (upd (fun _ => 0) 0 1) 1 1) 2 1) 3 1))), (q_30, .inl (cI, 8, .inl (fun _ => 0))), (q_31, .inl (cI, 8, .inl (fun _ => 0))), (q_32, .inl (cI, 8, .inl (fun _ => 0))), (q_33, .inl (cI, 24, .inl (upd (upd (upd (upd (upd (upd (upd (upd (upd (upd (upd (upd (upd (upd (upd (upd (upd (upd (upd (upd (upd (upd (upd (upd (fun _ => 0) 0 115) 1 101) 2 116) 3 97) 4 100) 5 100) 6 109) 7 97) 8 120) 9 110) 10 101) 11 119) 12 103) 13 101) 14 116) 15 97) 16 115) 17 107) 18 100) 19 111) 20 0) 21 105) 22 102) 23 0))), (q_44, .inl (cI, 30, .inl (fun _ => 0))), (q_48, .inl (cI, 624, .inl (fun _ => 0)))] := hV
  refine W.widen (k := 48) (n := 4849) (Nat.le_of_ble_eq_true rfl) (Nat.le_of_ble_eq_true rfl) ?_
  refine x_putF (v := .ref q_48) hB hV hin 0 rfl rfl 62 (by decide) k_807 rfl rfl rfl rfl (Nat.le_of_ble_eq_true rfl) dX7_init_541 (fun H locs hV => ?_)
  have hV : Vx D A s.heap H locs [(h, .inr (7, [.int 0, .ref q_1, .ref q_2, .ref q_3, .ref q_4, .ref q_5, .ref q_6, .ref q_7, .ref q_8, .ref q_9, .ref q_10, .ref q_11, .ref q_12, .ref q_13, .ref q_14, .ref q_15, .ref q_16, .ref q_17, .ref q_18, .ref q_19, .ref q_20, .int 0, .int 0, .ref q_21, .int 0, .ref q_22, .ref q_23, .ref q_24, .ref q_25, .int 0, .int 0, .ref q_26, .ref q_27, .ref q_28, .int 0, .ref q_29, .int 0, .int 0, .int 0, .ref q_30, .ref q_31, .ref q_32, .ref q_33, .ref q_34, .ref q_35, .ref q_36, .ref q_37, .ref q_38, .ref q_39, .int 0, .int 0, .int 0, .int 0, .ref q_40, .ref q_41, .ref q_42, .ref q_43, .ref q_44, .ref q_45, .ref q_46, .int 0, .ref q_47, .ref q_48, .null, .null, .null, .null])), (q_5, .inl (cI, 6, .inl (fun _ => 0))), (q_6, .inl (cI, 6, .inl (fun _ => 0))), (q_7, .inl (cI, 48, .inl (fun _ => 0))), (q_8, .inl (cI, 12, .inl (fun _ => 0))), (q_9, .inl (cI, 12, .inl (fun _ => 0))), (q_10, .inl (cI, 192, .inl (fun _ => 0))), (q_11, .inl (cI, 192, .inl (fun _ => 0))), (q_12, .inl (cI, 192, .inl (fun _ => 0))), (q_13, .inl (cI, 192, .inl (fun _ => 0))), (q_14, .inl (cI, 2, .inl (fun _ => 0))), (q_15, .inl (cI, 12, .inl (fun _ => 0))), (q_16, .inl (cI, 12, .inl (fun _ => 0))), (q_17, .inl (cI, 96, .inl (fun _ => 0))), (q_18, .inl (cI, 96, .inl (fun _ => 0))), (q_19, .inl (cI, 96, .inl (fun _ => 0))), (q_20, .inl (cZ, 12, .inl (fun _ => 0))), (q_25, .inl (cI, 100, .inl (fun _ => 0))), (q_29, .inl (cI, 4, .inl (upd (upd (upd (upd (fun _ => 0) 0 1) 1 1) 2 1) 3 1))), (q_30, .inl (cI, 8, .inl (fun _ => 0))), (q_31, .inl (cI, 8, .inl (fun _ => 0))), (q_32, .inl (cI, 8, .inl (fun _ => 0))), (q_33, .inl (cI, 24, .inl (upd (upd (upd (upd (upd (upd (upd (upd (upd (upd (upd (upd (upd (upd (upd (upd (upd (upd (upd (upd (upd (upd (upd (upd (fun _ => 0) 0 115) 1 101) 2 116) 3 97) 4 100) 5 100) 6 109) 7 97) 8 120) 9 110) 10 101) 11 119) 12 103) 13 101) 14 116) 15 97) 16 115) 17 107) 18 100) 19 111) 20 0) 21 105) 22 102) 23 0))), (q_44, .inl (cI, 30, .inl (fun _ => 0))), (q_48, .inl (cI, 624, .inl (fun _ => 0)))] := hV
  have hV := Vx_sub (w := [(h, .inr (7, [.int 0, .ref q_1, .ref q_2, .ref q_3, .ref q_4, .ref q_5, .ref q_6, .ref q_7, .ref q_8, .ref q_9, .ref q_10, .ref q_11, .ref q_12, .ref q_13, .ref q_14, .ref q_15, .ref q_16, .ref q_17, .ref q_18, .ref q_19, .ref q_20, .int 0, .int 0, .ref q_21, .int 0, .ref q_22, .ref q_23, .ref q_24, .ref q_25, .int 0, .int 0, .ref q_26, .ref q_27, .ref q_28, .int 0, .ref q_29, .int 0, .int 0, .int 0, .ref q_30, .ref q_31, .ref q_32, .ref q_33, .ref q_34, .ref q_35, .ref q_36, .ref q_37, .ref q_38, .ref q_39, .int 0, .int 0, .int 0, .int 0, .ref q_40, .ref q_41, .ref q_42, .ref q_43, .ref q_44, .ref q_45, .ref q_46, .int 0, .ref q_47, .ref q_48, .null, .null, .null, .null])), (q_5, .inl (cI, 6, .inl (fun _ => 0))), (q_6, .inl (cI, 6, .inl (fun _ => 0))), (q_7, .inl (cI, 48, .inl (fun _ => 0))), (q_8, .inl (cI, 12, .inl (fun _ => 0))), (q_9, .inl (cI, 12, .inl (fun _ => 0))), (q_10, .inl (cI, 192, .inl (fun _ => 0))), (q_11, .inl (cI, 192, .inl (fun _ => 0))), (q_12, .inl (cI, 192, .inl (fun _ => 0))), (q_13, .inl (cI, 192, .inl (fun _ => 0))), (q_14, .inl (cI, 2, .inl (fun _ => 0))), (q_15, .inl (cI, 12, .inl (fun _ => 0))), (q_16, .inl (cI, 12, .inl (fun _ => 0))), (q_17, .inl (cI, 96, .inl (fun _ => 0))), (q_18, .inl (cI, 96, .inl (fun _ => 0))), (q_19, .inl (cI, 96, .inl (fun _ => 0))), (q_20, .inl (cZ, 12, .inl (fun _ => 0))), (q_25, .inl (cI, 100, .inl (fun _ => 0))), (q_29, .inl (cI, 4, .inl (upd (upd (upd (upd (fun _ => 0) 0 1) 1 1) 2 1) 3 1))), (q_30, .inl (cI, 8, .inl (fun _ => 0))), (q_31, .inl (cI, 8, .inl (fun _ => 0))), (q_32, .inl (cI, 8, .inl (fun _ => 0))), (q_33, .inl (cI, 24, .inl (upd (upd (upd (upd (upd (upd (upd (upd (upd (upd (upd (upd (upd (upd (upd (upd (upd (upd (upd (upd (upd (upd (upd (upd (fun _ => 0) 0 115) 1 101) 2 116) 3 97) 4 100) 5 100) 6 109) 7 97) 8 120) 9 110) 10 101) 11 119) 12 103) 13 101) 14 116) 15 97) 16 115) 17 107) 18 100) 19 111) 20 0) 21 105) 22 102) 23 0))), (q_44, .inl (cI, 30, .inl (fun _ => 0)))]) hV [0, 1, 2, 3, 4, 5, 6, 7, 8, 9, 10, 11, 12, 13, 14, 15, 16, 17, 18, 19, 20, 21, 22, 23] rfl rfl (by decide)
  refine lv_aload_n hx hb dX7_init_544 rfl (lv_at hl 0 rfl) ?_
  refine lv_sipush (v := 24000) hx hb dX7_init_545 (by decide) ?_
  refine x_newi (N' := 24000) hB hV k_101 (by decide) (by decide) (by decide) (Nat.le_of_ble_eq_true rfl) (Nat.le_of_ble_eq_true rfl) dX7_init_548 (fun q_49 H hV => ?_)
  have hV : Vx D A s.heap H locs [(h, .inr (7, [.int 0, .ref q_1, .ref q_2, .ref q_3, .ref q_4, .ref q_5, .ref q_6, .ref q_7, .ref q_8, .ref q_9, .ref q_10, .ref q_11, .ref q_12, .ref q_13, .ref q_14, .ref q_15, .ref q_16, .ref q_17, .ref q_18, .ref q_19, .ref q_20, .int 0, .int 0, .ref q_21, .int 0, .ref q_22, .ref q_23, .ref q_24, .ref q_25, .int 0, .int 0, .ref q_26, .ref q_27, .ref q_28, .int 0, .ref q_29, .int 0, .int 0, .int 0, .ref q_30, .ref q_31, .ref q_32, .ref q_33, .ref q_34, .ref q_35, .ref q_36, .ref q_37, .ref q_38, .ref q_39, .int 0, .int 0, .int 0, .int 0, .ref q_40, .ref q_41, .ref q_42, .ref q_43, .ref q_44, .ref q_45, .ref q_46, .int 0, .ref q_47, .ref q_48, .null, .null, .null, .null])), (q_5, .inl (cI, 6, .inl (fun _ => 0))), (q_6, .inl (cI, 6, .inl (fun _ => 0))), (q_7, .inl (cI, 48, .inl (fun _ => 0))), (q_8, .inl (cI, 12, .inl (fun _ => 0))), (q_9, .inl (cI, 12, .inl (fun _ => 0))), (q_10, .inl (cI, 192, .inl (fun _ => 0))), (q_11, .inl (cI, 192, .inl (fun _ => 0))), (q_12, .inl (cI, 192, .inl (fun _ => 0))), (q_13, .inl (cI, 192, .inl (fun _ => 0))), (q_14, .inl (cI, 2, .inl (fun _ => 0))), (q_15, .inl (cI, 12, .inl (fun _ => 0))), (q_16, .inl (cI, 12, .inl (fun _ => 0))), (q_17, .inl (cI, 96, .inl (fun _ => 0))), (q_18, .inl (cI, 96, .inl (fun _ => 0))), (q_19, .inl (cI, 96, .inl (fun _ => 0))), (q_20, .inl (cZ, 12, .inl (fun _ => 0))), (q_25, .inl (cI, 100, .inl (fun _ => 0))), (q_29, .inl (cI, 4, .inl (upd (upd (upd (upd (fun _ => 0) 0 1) 1 1) 2 1) 3 1))), (q_30, .inl (cI, 8, .inl (fun _ => 0))), (q_31, .inl (cI, 8, .inl (fun _ => 0))), (q_32, .inl (cI, 8, .inl (fun _ => 0))), (q_33, .inl (cI, 24, .inl (upd (upd (upd (upd (upd (upd (upd (upd (upd (upd (upd (upd (upd (upd (upd (upd (upd (upd (upd (upd (upd (upd (upd (upd (fun _ => 0) 0 115) 1 101) 2 116) 3 97) 4 100) 5 100) 6 109) 7 97) 8 120) 9 110) 10 101) 11 119) 12 103) 13 101) 14 116) 15 97) 16 115) 17 107) 18 100) 19 111) 20 0) 21 105) 22 102) 23 0))), (q_44, .inl (cI, 30, .inl (fun _ => 0))), (q_49, .inl (cI, 24000, .inl (fun _ => 0)))] := hV
  refine W.widen (k := 49) (n := 28849) (Nat.le_of_ble_eq_true rfl) (Nat.le_of_ble_eq_true rfl) ?_
  refine x_putF (v := .ref q_49) hB hV hin 0 rfl rfl 63 (by decide) k_808 rfl rfl rfl rfl (Nat.le_of_ble_eq_true rfl) dX7_init_550 (fun H locs hV => ?_)
  have hV : Vx D A s.heap H locs [(h, .inr (7, [.int 0, .ref q_1, .ref q_2, .ref q_3, .ref q_4, .ref q_5, .ref q_6, .ref q_7, .ref q_8, .ref q_9, .ref q_10, .ref q_11, .ref q_12, .ref q_13, .ref q_14, .ref q_15, .ref q_16, .ref q_17, .ref q_18, .ref q_19, .ref q_20, .int 0, .int 0, .ref q_21, .int 0, .ref q_22, .ref q_23, .ref q_24, .ref q_25, .int 0, .int 0, .ref q_26, .ref q_27, .ref q_28, .int 0, .ref q_29, .int 0, .int 0, .int 0, .ref q_30, .ref q_31, .ref q_32, .ref q_33, .ref q_34, .ref q_35, .ref q_36, .ref q_37, .ref q_38, .ref q_39, .int 0, .int 0, .int 0, .int 0, .ref q_40, .ref q_41, .ref q_42, .ref q_43, .ref q_44, .ref q_45, .ref q_46, .int 0, .ref q_47, .ref q_48, .ref q_49, .null, .null, .null])), (q_5, .inl (cI, 6, .inl (fun _ => 0))), (q_6, .inl (cI, 6, .inl (fun _ => 0))), (q_7, .inl (cI, 48, .inl (fun _ => 0))), (q_8, .inl (cI, 12, .inl (fun _ => 0))), (q_9, .inl (cI, 12, .inl (fun _ => 0))), (q_10, .inl (cI, 192, .inl (fun _ => 0))), (q_11, .inl (cI, 192, .inl (fun _ => 0))), (q_12, .inl (cI, 192, .inl (fun _ => 0))), (q_13, .inl (cI, 192, .inl (fun _ => 0))), (q_14, .inl (cI, 2, .inl (fun _ => 0))), (q_15, .inl (cI, 12, .inl (fun _ => 0))), (q_16, .inl (cI, 12, .inl (fun _ => 0))), (q_17, .inl (cI, 96, .inl (fun _ => 0))), (q_18, .inl (cI, 96, .inl (fun _ => 0))), (q_19, .inl (cI, 96, .inl (fun _ => 0))), (q_20, .inl (cZ, 12, .inl (fun _ => 0))), (q_25, .inl (cI, 100, .inl (fun _ => 0))), (q_29, .inl (cI, 4, .inl (upd (upd (upd (upd (fun _ => 0) 0 1) 1 1) 2 1) 3 1))), (q_30, .inl (cI, 8, .inl (fun _ => 0))), (q_31, .inl (cI, 8, .inl (fun _ => 0))), (q_32, .inl (cI, 8, .inl (fun _ => 0))), (q_33, .inl (cI, 24, .inl (upd (upd (upd (upd (upd (upd (upd (upd (upd (upd (upd (upd (upd (upd (upd (upd (upd (upd (upd (upd (upd (upd (upd (upd (fun _ => 0) 0 115) 1 101) 2 116) 3 97) 4 100) 5 100) 6 109) 7 97) 8 120) 9 110) 10 101) 11 119) 12 103) 13 101) 14 116) 15 97) 16 115) 17 107) 18 100) 19 111) 20 0) 21 105) 22 102) 23 0))), (q_44, .inl (cI, 30, .inl (fun _ => 0))), (q_49, .inl (cI, 24000, .inl (fun _ => 0)))] := hV
  have hV := Vx_sub (w := [(h, .inr (7, [.int 0, .ref q_1, .ref q_2, .ref q_3, .ref q_4, .ref q_5, .ref q_6, .ref q_7, .ref q_8, .ref q_9, .ref q_10, .ref q_11, .ref q_12, .ref q_13, .ref q_14, .ref q_15, .ref q_16, .ref q_17, .ref q_18, .ref q_19, .ref q_20, .int 0, .int 0, .ref q_21, .int 0, .ref q_22, .ref q_23, .ref q_24, .ref q_25, .int 0, .int 0, .ref q_26, .ref q_27, .ref q_28, .int 0, .ref q_29, .int 0, .int 0, .int 0, .ref q_30, .ref q_31, .ref q_32, .ref q_33, .ref q_34, .ref q_35, .ref q_36, .ref q_37, .ref q_38, .ref q_39, .int 0, .int 0, .int 0, .int 0, .ref q_40, .ref q_41, .ref q_42, .ref q_43, .ref q_44, .ref q_45, .ref q_46, .int 0, .ref q_47, .ref q_48, .ref q_49, .null, .null, .null])), (q_5, .inl (cI, 6, .inl (fun _ => 0))), (q_6, .inl (cI, 6, .inl (fun _ => 0))), (q_7, .inl (cI, 48, .inl (fun _ => 0))), (q_8, .inl (cI, 12, .inl (fun _ => 0))), (q_9, .inl (cI, 12, .inl (fun _ => 0))), (q_10, .inl (cI, 192, .inl (fun _ => 0))), (q_11, .inl (cI, 192, .inl (fun _ => 0))), (q_12, .inl (cI, 192, .inl (fun _ => 0))), (q_13, .inl (cI, 192, .inl (fun _ => 0))), (q_14, .inl (cI, 2, .inl (fun _ => 0))), (q_15, .inl (cI, 12, .inl (fun _ => 0))), (q_16, .inl (cI, 12, .inl (fun _ => 0))), (q_17, .inl (cI, 96, .inl (fun _ => 0))), (q_18, .inl (cI, 96, .inl (fun _ => 0))), (q_19, .inl (cI, 96, .inl (fun _ => 0))), (q_20, .inl (cZ, 12, .inl (fun _ => 0))), (q_25, .inl (cI, 100, .inl (fun _ => 0))), (q_29, .inl (cI, 4, .inl (upd (upd (upd (upd (fun _ => 0) 0 1) 1 1) 2 1) 3 1))), (q_30, .inl (cI, 8, .inl (fun _ => 0))), (q_31, .inl (cI, 8, .inl (fun _ => 0))), (q_32, .inl (cI, 8, .inl (fun _ => 0))), (q_33, .inl (cI, 24, .inl (upd (upd (upd (upd (upd (upd (upd (upd (upd (upd (upd (upd (upd (upd (upd (upd (upd (upd (upd (upd (upd (upd (upd (upd (fun _ => 0) 0 115) 1 101) 2 116) 3 97) 4 100) 5 100) 6 109) 7 97) 8 120) 9 110) 10 101) 11 119) 12 103) 13 101) 14 116) 15 97) 16 115) 17 107) 18 100) 19 111) 20 0) 21 105) 22 102) 23 0))), (q_44, .inl (cI, 30, .inl (fun _ => 0)))]) hV [0, 1, 2, 3, 4, 5, 6, 7, 8, 9, 10, 11, 12, 13, 14, 15, 16, 17, 18, 19, 20, 21, 22, 23] rfl rfl (by decide)
  refine lv_aload_n hx hb dX7_init_553 rfl (lv_at hl 0 rfl) ?_
  refine lv_sipush (v := 1000) hx hb dX7_init_554 (by decide) ?_
  refine x_newi (N' := 1000) hB hV k_101 (by decide) (by decide) (by decide) (Nat.le_of_ble_eq_true rfl) (Nat.le_of_ble_eq_true rfl) dX7_init_557 (fun q_50 H hV => ?_)
  have hV : Vx D A s.heap H locs [(h, .inr (7, [.int 0, .ref q_1, .ref q_2, .ref q_3, .ref q_4, .ref q_5, .ref q_6, .ref q_7, .ref q_8, .ref q_9, .ref q_10, .ref q_11, .ref q_12, .ref q_13, .ref q_14, .ref q_15, .ref q_16, .ref q_17, .ref q_18, .ref q_19, .ref q_20, .int 0, .int 0, .ref q_21, .int 0, .ref q_22, .ref q_23, .ref q_24, .ref q_25, .int 0, .int 0, .ref q_26, .ref q_27, .ref q_28, .int 0, .ref q_29, .int 0, .int 0, .int 0, .ref q_30, .ref q_31, .ref q_32, .ref q_33, .ref q_34, .ref q_35, .ref q_36, .ref q_37, .ref q_38, .ref q_39, .int 0, .int 0, .int 0, .int 0, .ref q_40, .ref q_41, .ref q_42, .ref q_43, .ref q_44, .ref q_45, .ref q_46, .int 0, .ref q_47, .ref q_48, .ref q_49, .null, .null, .null])), (q_5, .inl (cI, 6, .inl (fun _ => 0))), (q_6, .inl (cI, 6, .inl (fun _ => 0))), (q_7, .inl (cI, 48, .inl (fun _ => 0))), (q_8, .inl (cI, 12, .inl (fun _ => 0))), (q_9, .inl (cI, 12, .inl (fun _ => 0))), (q_10, .inl (cI, 192, .inl (fun _ => 0))), (q_11, .inl (cI, 192, .inl (fun _ => 0))), (q_12, .inl (cI, 192, .inl (fun _ => 0))), (q_13, .inl (cI, 192, .inl (fun _ => 0))), (q_14, .inl (cI, 2, .inl (fun _ => 0))), (q_15, .inl (cI, 12, .inl (fun _ => 0))), (q_16, .inl (cI, 12, .inl (fun _ => 0))), (q_17, .inl (cI, 96, .inl (fun _ => 0))), (q_18, .inl (cI, 96, .inl (fun _ => 0))), (q_19, .inl (cI, 96, .inl (fun _ => 0))), (q_20, .inl (cZ, 12, .inl (fun _ => 0))), (q_25, .inl (cI, 100, .inl (fun _ => 0))), (q_29, .inl (cI, 4, .inl (upd (upd (upd (upd (fun _ => 0) 0 1) 1 1) 2 1) 3 1))), (q_30, .inl (cI, 8, .inl (fun _ => 0))), (q_31, .inl (cI, 8, .inl (fun _ => 0))), (q_32, .inl (cI, 8, .inl (fun _ => 0))), (q_33, .inl (cI, 24, .inl (upd (upd (upd (upd (upd (upd (upd (upd (upd (upd (upd (upd (upd (upd (upd (upd (upd (upd (upd (upd (upd (upd (upd (upd (fun _ => 0) 0 115) 1 101) 2 116) 3 97) 4 100) 5 100) 6 109) 7 97) 8 120) 9 110) 10 101) 11 119) 12 103) 13 101) 14 116) 15 97) 16 115) 17 107) 18 100) 19 111) 20 0) 21 105) 22 102) 23 0))), (q_44, .inl (cI, 30, .inl (fun _ => 0))), (q_50, .inl (cI, 1000, .inl (fun _ => 0)))] := hV
  refine W.widen (k := 50) (n := 29849) (Nat.le_of_ble_eq_true rfl) (Nat.le_of_ble_eq_true rfl) ?_
  refine x_putF (v := .ref q_50) hB hV hin 0 rfl rfl 64 (by decide) k_809 rfl rfl rfl rfl (Nat.le_of_ble_eq_true rfl) dX7_init_559 (fun H locs hV => ?_)
  have hV : Vx D A s.heap H locs [(h, .inr (7, [.int 0, .ref q_1, .ref q_2, .ref q_3, .ref q_4, .ref q_5, .ref q_6, .ref q_7, .ref q_8, .ref q_9, .ref q_10, .ref q_11, .ref q_12, .ref q_13, .ref q_14, .ref q_15, .ref q_16, .ref q_17, .ref q_18, .ref q_19, .ref q_20, .int 0, .int 0, .ref q_21, .int 0, .ref q_22, .ref q_23, .ref q_24, .ref q_25, .int 0, .int 0, .ref q_26, .ref q_27, .ref q_28, .int 0, .ref q_29, .int 0, .int 0, .int 0, .ref q_30, .ref q_31, .ref q_32, .ref q_33, .ref q_34, .ref q_35, .ref q_36, .ref q_37, .ref q_38, .ref q_39, .int 0, .int 0, .int 0, .int 0, .ref q_40, .ref q_41, .ref q_42, .ref q_43, .ref q_44, .ref q_45, .ref q_46, .int 0, .ref q_47, .ref q_48, .ref q_49, .ref q_50, .null, .null])), (q_5, .inl (cI, 6, .inl (fun _ => 0))), (q_6, .inl (cI, 6, .inl (fun _ => 0))), (q_7, .inl (cI, 48, .inl (fun _ => 0))), (q_8, .inl (cI, 12, .inl (fun _ => 0))), (q_9, .inl (cI, 12, .inl (fun _ => 0))), (q_10, .inl (cI, 192, .inl (fun _ => 0))), (q_11, .inl (cI, 192, .inl (fun _ => 0))), (q_12, .inl (cI, 192, .inl (fun _ => 0))), (q_13, .inl (cI, 192, .inl (fun _ => 0))), (q_14, .inl (cI, 2, .inl (fun _ => 0))), (q_15, .inl (cI, 12, .inl (fun _ => 0))), (q_16, .inl (cI, 12, .inl (fun _ => 0))), (q_17, .inl (cI, 96, .inl (fun _ => 0))), (q_18, .inl (cI, 96, .inl (fun _ => 0))), (q_19, .inl (cI, 96, .inl (fun _ => 0))), (q_20, .inl (cZ, 12, .inl (fun _ => 0))), (q_25, .inl (cI, 100, .inl (fun _ => 0))), (q_29, .inl (cI, 4, .inl (upd (upd (upd (upd (fun _ => 0) 0 1) 1 1) 2 1) 3 1))), (q_30, .inl (cI, 8, .inl (fun _ => 0))), (q_31, .inl (cI, 8, .inl (fun _ => 0))), (q_32, .inl (cI, 8, .inl (fun _ => 0))), (q_33, .inl (cI, 24, .inl (upd (upd (upd (upd (upd (upd (upd (upd (upd (upd (upd (upd (upd (upd (upd (upd (upd (upd (upd (upd (upd (upd (upd (upd (fun _ => 0) 0 115) 1 101) 2 116) 3 97) 4 100) 5 100) 6 109) 7 97) 8 120) 9 110) 10 101) 11 119) 12 103) 13 101) 14 116) 15 97) 16 115) 17 107) 18 100) 19 111) 20 0) 21 105) 22 102) 23 0))), (q_44, .inl (cI, 30, .inl (fun _ => 0))), (q_50, .inl (cI, 1000, .inl (fun _ => 0)))] := hV
  have hV := Vx_sub (w := [(h, .inr (7, [.int 0, .ref q_1, .ref q_2, .ref q_3, .ref q_4, .ref q_5, .ref q_6, .ref q_7, .ref q_8, .ref q_9, .ref q_10, .ref q_11, .ref q_12, .ref q_13, .ref q_14, .ref q_15, .ref q_16, .ref q_17, .ref q_18, .ref q_19, .ref q_20, .int 0, .int 0, .ref q_21, .int 0, .ref q_22, .ref q_23, .ref q_24, .ref q_25, .int 0, .int 0, .ref q_26, .ref q_27, .ref q_28, .int 0, .ref q_29, .int 0, .int 0, .int 0, .ref q_30, .ref q_31, .ref q_32, .ref q_33, .ref q_34, .ref q_35, .ref q_36, .ref q_37, .ref q_38, .ref q_39, .int 0, .int 0, .int 0, .int 0, .ref q_40, .ref q_41, .ref q_42, .ref q_43, .ref q_44, .ref q_45, .ref q_46, .int 0, .ref q_47, .ref q_48, .ref q_49, .ref q_50, .null, .null])), (q_5, .inl (cI, 6, .inl (fun _ => 0))), (q_6, .inl (cI, 6, .inl (fun _ => 0))), (q_7, .inl (cI, 48, .inl (fun _ => 0))), (q_8, .inl (cI, 12, .inl (fun _ => 0))), (q_9, .inl (cI, 12, .inl (fun _ => 0))), (q_10, .inl (cI, 192, .inl (fun _ => 0))), (q_11, .inl (cI, 192, .inl (fun _ => 0))), (q_12, .inl (cI, 192, .inl (fun _ => 0))), (q_13, .inl (cI, 192, .inl (fun _ => 0))), (q_14, .inl (cI, 2, .inl (fun _ => 0))), (q_15, .inl (cI, 12, .inl (fun _ => 0))), (q_16, .inl (cI, 12, .inl (fun _ => 0))), (q_17, .inl (cI, 96, .inl (fun _ => 0))), (q_18, .inl (cI, 96, .inl (fun _ => 0))), (q_19, .inl (cI, 96, .inl (fun _ => 0))), (q_20, .inl (cZ, 12, .inl (fun _ => 0))), (q_25, .inl (cI, 100, .inl (fun _ => 0))), (q_29, .inl (cI, 4, .inl (upd (upd (upd (upd (fun _ => 0) 0 1) 1 1) 2 1) 3 1))), (q_30, .inl (cI, 8, .inl (fun _ => 0))), (q_31, .inl (cI, 8, .inl (fun _ => 0))), (q_32, .inl (cI, 8, .inl (fun _ => 0))), (q_33, .inl (cI, 24, .inl (upd (upd (upd (upd (upd (upd (upd (upd (upd (upd (upd (upd (upd (upd (upd (upd (upd (upd (upd (upd (upd (upd (upd (upd (fun _ => 0) 0 115) 1 101) 2 116) 3 97) 4 100) 5 100) 6 109) 7 97) 8 120) 9 110) 10 101) 11 119) 12 103) 13 101) 14 116) 15 97) 16 115) 17 107) 18 100) 19 111) 20 0) 21 105) 22 102) 23 0))), (q_44, .inl (cI, 30, .inl (fun _ => 0)))]) hV [0, 1, 2, 3, 4, 5, 6, 7, 8, 9, 10, 11, 12, 13, 14, 15, 16, 17, 18, 19, 20, 21, 22, 23] rfl rfl (by decide)
  refine lv_aload_n hx hb dX7_init_562 rfl (lv_at hl 0 rfl) ?_
  refine lv_bipush (v := 6) hx hb dX7_init_563 (by decide) ?_
  refine x_newi (N' := 6) hB hV k_101 (by decide) (by decide) (by decide) (Nat.le_of_ble_eq_true rfl) (Nat.le_of_ble_eq_true rfl) dX7_init_565 (fun q_51 H hV => ?_)
  have hV : Vx D A s.heap H locs [(h, .inr (7, [.int 0, .ref q_1, .ref q_2, .ref q_3, .ref q_4, .ref q_5, .ref q_6, .ref q_7, .ref q_8, .ref q_9, .ref q_10, .ref q_11, .ref q_12, .ref q_13, .ref q_14, .ref q_15, .ref q_16, .ref q_17, .ref q_18, .ref q_19, .ref q_20, .int 0, .int 0, .ref q_21, .int 0, .ref q_22, .ref q_23, .ref q_24, .ref q_25, .int 0, .int 0, .ref q_26, .ref q_27, .ref q_28, .int 0, .ref q_29, .int 0, .int 0, .int 0, .ref q_30, .ref q_31, .ref q_32, .ref q_33, .ref q_34, .ref q_35, .ref q_36, .ref q_37, .ref q_38, .ref q_39, .int 0, .int 0, .int 0, .int 0, .ref q_40, .ref q_41, .ref q_42, .ref q_43, .ref q_44, .ref q_45, .ref q_46, .int 0, .ref q_47, .ref q_48, .ref q_49, .ref q_50, .null, .null])), (q_5, .inl (cI, 6, .inl (fun _ => 0))), (q_6, .inl (cI, 6, .inl (fun _ => 0))), (q_7, .inl (cI, 48, .inl (fun _ => 0))), (q_8, .inl (cI, 12, .inl (fun _ => 0))), (q_9, .inl (cI, 12, .inl (fun _ => 0))), (q_10, .inl (cI, 192, .inl (fun _ => 0))), (q_11, .inl (cI, 192, .inl (fun _ => 0))), (q_12, .inl (cI, 192, .inl (fun _ => 0))), (q_13, .inl (cI, 192, .inl (fun _ => 0))), (q_14, .inl (cI, 2, .inl (fun _ => 0))), (q_15, .inl (cI, 12, .inl (fun _ => 0))), (q_16, .inl (cI, 12, .inl (fun _ => 0))), (q_17, .inl (cI, 96, .inl (fun _ => 0))), (q_18, .inl (cI, 96, .inl (fun _ => 0))), (q_19, .inl (cI, 96, .inl (fun _ => 0))), (q_20, .inl (cZ, 12, .inl (fun _ => 0))), (q_25, .inl (cI, 100, .inl (fun _ => 0))), (q_29, .inl (cI, 4, .inl (upd (upd (upd (upd (fun _ => 0) 0 1) 1 1) 2 1) 3 1))), (q_30, .inl (cI, 8, .inl (fun _ => 0))), (q_31, .inl (cI, 8, .inl (fun _ => 0))), (q_32, .inl (cI, 8, .inl (fun _ => 0))), (q_33, .inl (cI, 24, .inl (upd (upd (upd (upd (upd (upd (upd (upd (upd (upd (upd (upd (upd (upd (upd (upd (upd (upd (upd (upd (upd (upd (upd (upd (fun _ => 0) 0 115) 1 101) 2 116) 3 97) 4 100) 5 100) 6 109) 7 97) 8 120) 9 110) 10 101) 11 119) 12 103) 13 101) 14 116) 15 97) 16 115) 17 107) 18 100) 19 111) 20 0) 21 105) 22 102) 23 0))), (q_44, .inl (cI, 30, .inl (fun _ => 0))), (q_51, .inl (cI, 6, .inl (fun _ => 0)))] := hV
  refine W.widen (k := 51) (n := 29855) (Nat.le_of_ble_eq_true rfl) (Nat.le_of_ble_eq_true rfl) ?_
  refine x_putF (v := .ref q_51) hB hV hin 0 rfl rfl 65 (by decide) k_810 rfl rfl rfl rfl (Nat.le_of_ble_eq_true rfl) dX7_init_567 (fun H locs hV => ?_)
  have hV : Vx D A s.heap H locs [(h, .inr (7, [.int 0, .ref q_1, .ref q_2, .ref q_3, .ref q_4, .ref q_5, .ref q_6, .ref q_7, .ref q_8, .ref q_9, .ref q_10, .ref q_11, .ref q_12, .ref q_13, .ref q_14, .ref q_15, .ref q_16, .ref q_17, .ref q_18, .ref q_19, .ref q_20, .int 0, .int 0, .ref q_21, .int 0, .ref q_22, .ref q_23, .ref q_24, .ref q_25, .int 0, .int 0, .ref q_26, .ref q_27, .ref q_28, .int 0, .ref q_29, .int 0, .int 0, .int 0, .ref q_30, .ref q_31, .ref q_32, .ref q_33, .ref q_34, .ref q_35, .ref q_36, .ref q_37, .ref q_38, .ref q_39, .int 0, .int 0, .int 0, .int 0, .ref q_40, .ref q_41, .ref q_42, .ref q_43, .ref q_44, .ref q_45, .ref q_46, .int 0, .ref q_47, .ref q_48, .ref q_49, .ref q_50, .ref q_51, .null])), (q_5, .inl (cI, 6, .inl (fun _ => 0))), (q_6, .inl (cI, 6, .inl (fun _ => 0))), (q_7, .inl (cI, 48, .inl (fun _ => 0))), (q_8, .inl (cI, 12, .inl (fun _ => 0))), (q_9, .inl (cI, 12, .inl (fun _ => 0))), (q_10, .inl (cI, 192, .inl (fun _ => 0))), (q_11, .inl (cI, 192, .inl (fun _ => 0))), (q_12, .inl (cI, 192, .inl (fun _ => 0))), (q_13, .inl (cI, 192, .inl (fun _ => 0))), (q_14, .inl (cI, 2, .inl (fun _ => 0))), (q_15, .inl (cI, 12, .inl (fun _ => 0))), (q_16, .inl (cI, 12, .inl (fun _ => 0))), (q_17, .inl (cI, 96, .inl (fun _ => 0))), (q_18, .inl (cI, 96, .inl (fun _ => 0))), (q_19, .inl (cI, 96, .inl (fun _ => 0))), (q_20, .inl (cZ, 12, .inl (fun _ => 0))), (q_25, .inl (cI, 100, .inl (fun _ => 0))), (q_29, .inl (cI, 4, .inl (upd (upd (upd (upd (fun _ => 0) 0 1) 1 1) 2 1) 3 1))), (q_30, .inl (cI, 8, .inl (fun _ => 0))), (q_31, .inl (cI, 8, .inl (fun _ => 0))), (q_32, .inl (cI, 8, .inl (fun _ => 0))), (q_33, .inl (cI, 24, .inl (upd (upd (upd (upd (upd (upd (upd (upd (upd (upd (upd (upd (upd (upd (upd (upd (upd (upd (upd (upd (upd (upd (upd (upd (fun _ => 0) 0 115) 1 101) 2 116) 3 97) 4 100) 5 100) 6 109) 7 97) 8 120) 9 110) 10 101) 11 119) 12 103) 13 101) 14 116) 15 97) 16 115) 17 107) 18 100) 19 111) 20 0) 21 105) 22 102) 23 0))), (q_44, .inl (cI, 30, .inl (fun _ => 0))), (q_51, .inl (cI, 6, .inl (fun _ => 0)))] := hV
  refine lv_aload_n hx hb dX7_init_570 rfl (lv_at hl 0 rfl) ?_
  refine lv_bipush (v := 6) hx hb dX7_init_571 (by decide) ?_
  refine x_newi (N' := 6) hB hV k_101 (by decide) (by decide) (by decide) (Nat.le_of_ble_eq_true rfl) (Nat.le_of_ble_eq_true rfl) dX7_init_573 (fun q_52 H hV => ?_)
  have hV : Vx D A s.heap H locs [(h, .inr (7, [.int 0, .ref q_1, .ref q_2, .ref q_3, .ref q_4, .ref q_5, .ref q_6, .ref q_7, .ref q_8, .ref q_9, .ref q_10, .ref q_11, .ref q_12, .ref q_13, .ref q_14, .ref q_15, .ref q_16, .ref q_17, .ref q_18, .ref q_19, .ref q_20, .int 0, .int 0, .ref q_21, .int 0, .ref q_22, .ref q_23, .ref q_24, .ref q_25, .int 0, .int 0, .ref q_26, .ref q_27, .ref q_28, .int 0, .ref q_29, .int 0, .int 0, .int 0, .ref q_30, .ref q_31, .ref q_32, .ref q_33, .ref q_34, .ref q_35, .ref q_36, .ref q_37, .ref q_38, .ref q_39, .int 0, .int 0, .int 0, .int 0, .ref q_40, .ref q_41, .ref q_42, .ref q_43, .ref q_44, .ref q_45, .ref q_46, .int 0, .ref q_47, .ref q_48, .ref q_49, .ref q_50, .ref q_51, .null])), (q_5, .inl (cI, 6, .inl (fun _ => 0))), (q_6, .inl (cI, 6, .inl (fun _ => 0))), (q_7, .inl (cI, 48, .inl (fun _ => 0))), (q_8, .inl (cI, 12, .inl (fun _ => 0))), (q_9, .inl (cI, 12, .inl (fun _ => 0))), (q_10, .inl (cI, 192, .inl (fun _ => 0))), (q_11, .inl (cI, 192, .inl (fun _ => 0))), (q_12, .inl (cI, 192, .inl (fun _ => 0))), (q_13, .inl (cI, 192, .inl (fun _ => 0))), (q_14, .inl (cI, 2, .inl (fun _ => 0))), (q_15, .inl (cI, 12, .inl (fun _ => 0))), (q_16, .inl (cI, 12, .inl (fun _ => 0))), (q_17, .inl (cI, 96, .inl (fun _ => 0))), (q_18, .inl (cI, 96, .inl (fun _ => 0))), (q_19, .inl (cI, 96, .inl (fun _ => 0))), (q_20, .inl (cZ, 12, .inl (fun _ => 0))), (q_25, .inl (cI, 100, .inl (fun _ => 0))), (q_29, .inl (cI, 4, .inl (upd (upd (upd (upd (fun _ => 0) 0 1) 1 1) 2 1) 3 1))), (q_30, .inl (cI, 8, .inl (fun _ => 0))), (q_31, .inl (cI, 8, .inl (fun _ => 0))), (q_32, .inl (cI, 8, .inl (fun _ => 0))), (q_33, .inl (cI, 24, .inl (upd (upd (upd (upd (upd (upd (upd (upd (upd (upd (upd (upd (upd (upd (upd (upd (upd (upd (upd (upd (upd (upd (upd (upd (fun _ => 0) 0 115) 1 101) 2 116) 3 97) 4 100) 5 100) 6 109) 7 97) 8 120) 9 110) 10 101) 11 119) 12 103) 13 101) 14 116) 15 97) 16 115) 17 107) 18 100) 19 111) 20 0) 21 105) 22 102) 23 0))), (q_44, .inl (cI, 30, .inl (fun _ => 0))), (q_51, .inl (cI, 6, .inl (fun _ => 0))), (q_52, .inl (cI, 6, .inl (fun _ => 0)))] := hV
  refine W.widen (k := 52) (n := 29861) (Nat.le_of_ble_eq_true rfl) (Nat.le_of_ble_eq_true rfl) ?_
  refine x_putF (v := .ref q_52) hB hV hin 0 rfl rfl 66 (by decide) k_811 rfl rfl rfl rfl (Nat.le_of_ble_eq_true rfl) dX7_init_575 (fun H locs hV => ?_)
  have hV : Vx D A s.heap H locs [(h, .inr (7, [.int 0, .ref q_1, .ref q_2, .ref q_3, .ref q_4, .ref q_5, .ref q_6, .ref q_7, .ref q_8, .ref q_9, .ref q_10, .ref q_11, .ref q_12, .ref q_13, .ref q_14, .ref q_15, .ref q_16, .ref q_17, .ref q_18, .ref q_19, .ref q_20, .int 0, .int 0, .ref q_21, .int 0, .ref q_22, .ref q_23, .ref q_24, .ref q_25, .int 0, .int 0, .ref q_26, .ref q_27, .ref q_28, .int 0, .ref q_29, .int 0, .int 0, .int 0, .ref q_30, .ref q_31, .ref q_32, .ref q_33, .ref q_34, .ref q_35, .ref q_36, .ref q_37, .ref q_38, .ref q_39, .int 0, .int 0, .int 0, .int 0, .ref q_40, .ref q_41, .ref q_42, .ref q_43, .ref q_44, .ref q_45, .ref q_46, .int 0, .ref q_47, .ref q_48, .ref q_49, .ref q_50, .ref q_51, .ref q_52])), (q_5, .inl (cI, 6, .inl (fun _ => 0))), (q_6, .inl (cI, 6, .inl (fun _ => 0))), (q_7, .inl (cI, 48, .inl (fun _ => 0))), (q_8, .inl (cI, 12, .inl (fun _ => 0))), (q_9, .inl (cI, 12, .inl (fun _ => 0))), (q_10, .inl (cI, 192, .inl (fun _ => 0))), (q_11, .inl (cI, 192, .inl (fun _ => 0))), (q_12, .inl (cI, 192, .inl (fun _ => 0))), (q_13, .inl (cI, 192, .inl (fun _ => 0))), (q_14, .inl (cI, 2, .inl (fun _ => 0))), (q_15, .inl (cI, 12, .inl (fun _ => 0))), (q_16, .inl (cI, 12, .inl (fun _ => 0))), (q_17, .inl (cI, 96, .inl (fun _ => 0))), (q_18, .inl (cI, 96, .inl (fun _ => 0))), (q_19, .inl (cI, 96, .inl (fun _ => 0))), (q_20, .inl (cZ, 12, .inl (fun _ => 0))), (q_25, .inl (cI, 100, .inl (fun _ => 0))), (q_29, .inl (cI, 4, .inl (upd (upd (upd (upd (fun _ => 0) 0 1) 1 1) 2 1) 3 1))), (q_30, .inl (cI, 8, .inl (fun _ => 0))), (q_31, .inl (cI, 8, .inl (fun _ => 0))), (q_32, .inl (cI, 8, .inl (fun _ => 0))), (q_33, .inl (cI, 24, .inl (upd (upd (upd (upd (upd (upd (upd (upd (upd (upd (upd (upd (upd (upd (upd (upd (upd (upd (upd (upd (upd (upd (upd (upd (fun _ => 0) 0 115) 1 101) 2 116) 3 97) 4 100) 5 100) 6 109) 7 97) 8 120) 9 110) 10 101) 11 119) 12 103) 13 101) 14 116) 15 97) 16 115) 17 107) 18 100) 19 111) 20 0) 21 105) 22 102) 23 0))), (q_44, .inl (cI, 30, .inl (fun _ => 0))), (q_51, .inl (cI, 6, .inl (fun _ => 0))), (q_52, .inl (cI, 6, .inl (fun _ => 0)))] := hV
  exact x_vret (w := [(h, .inr (7, [.int 0, .ref q_1, .ref q_2, .ref q_3, .ref q_4, .ref q_5, .ref q_6, .ref q_7, .ref q_8, .ref q_9, .ref q_10, .ref q_11, .ref q_12, .ref q_13, .ref q_14, .ref q_15, .ref q_16, .ref q_17, .ref q_18, .ref q_19, .ref q_20, .int 0, .int 0, .ref q_21, .int 0, .ref q_22, .ref q_23, .ref q_24, .ref q_25, .int 0, .int 0, .ref q_26, .ref q_27, .ref q_28, .int 0, .ref q_29, .int 0, .int 0, .int 0, .ref q_30, .ref q_31, .ref q_32, .ref q_33, .ref q_34, .ref q_35, .ref q_36, .ref q_37, .ref q_38, .ref q_39, .int 0, .int 0, .int 0, .int 0, .ref q_40, .ref q_41, .ref q_42, .ref q_43, .ref q_44, .ref q_45, .ref q_46, .int 0, .ref q_47, .ref q_48, .ref q_49, .ref q_50, .ref q_51, .ref q_52])), (q_14, .inl (cI, 2, .inl (fun _ => 0))), (q_8, .inl (cI, 12, .inl (fun _ => 0))), (q_9, .inl (cI, 12, .inl (fun _ => 0))), (q_20, .inl (cZ, 12, .inl (fun _ => 0))), (q_15, .inl (cI, 12, .inl (fun _ => 0))), (q_16, .inl (cI, 12, .inl (fun _ => 0))), (q_7, .inl (cI, 48, .inl (fun _ => 0))), (q_10, .inl (cI, 192, .inl (fun _ => 0))), (q_11, .inl (cI, 192, .inl (fun _ => 0))), (q_12, .inl (cI, 192, .inl (fun _ => 0))), (q_13, .inl (cI, 192, .inl (fun _ => 0))), (q_17, .inl (cI, 96, .inl (fun _ => 0))), (q_18, .inl (cI, 96, .inl (fun _ => 0))), (q_19, .inl (cI, 96, .inl (fun _ => 0))), (q_25, .inl (cI, 100, .inl (fun _ => 0))), (q_29, .inl (cI, 4, .inl (upd (upd (upd (upd (fun _ => 0) 0 1) 1 1) 2 1) 3 1))), (q_33, .inl (cI, 24, .inl (upd (upd (upd (upd (upd (upd (upd (upd (upd (upd (upd (upd (upd (upd (upd (upd (upd (upd (upd (upd (upd (upd (upd (upd (fun _ => 0) 0 115) 1 101) 2 116) 3 97) 4 100) 5 100) 6 109) 7 97) 8 120) 9 110) 10 101) 11 119) 12 103) 13 101) 14 116) 15 97) 16 115) 17 107) 18 100) 19 111) 20 0) 21 105) 22 102) 23 0))), (q_30, .inl (cI, 8, .inl (fun _ => 0))), (q_31, .inl (cI, 8, .inl (fun _ => 0))), (q_32, .inl (cI, 8, .inl (fun _ => 0))), (q_44, .inl (cI, 30, .inl (fun _ => 0))), (q_6, .inl (cI, 6, .inl (fun _ => 0))), (q_51, .inl (cI, 6, .inl (fun _ => 0))), (q_52, .inl (cI, 6, .inl (fun _ => 0))), (q_5, .inl (cI, 6, .inl (fun _ => 0)))]) hB hr hV hA (Nat.le_of_ble_eq_true rfl) (Nat.le_of_ble_eq_true rfl) [0, 10, 4, 5, 16, 11, 12, 3, 6, 7, 8, 9, 13, 14, 15, 17, 18, 22, 19, 20, 21, 23, 2, 24, 25, 1] rfl rfl (by decide) dX7_init_578 ⟨q_1, q_2, q_3, q_4, q_5, q_6, q_7, q_8, q_9, q_10, q_11, q_12, q_13, q_14, q_15, q_16, q_17, q_18, q_19, q_20, q_21, q_22, q_23, q_24, q_25, q_26, q_27, q_28, q_29, q_30, q_31, q_32, q_33, q_34, q_35, q_36, q_37, q_38, q_39, q_40, q_41, q_42, q_43, q_44, q_45, q_46, q_47, q_48, q_49, q_50, q_51, q_52, rfl, rfl⟩
end
section
theorem k_27 : Cond.selects RX7 yX7_isService yX7_isService ∈ tb := mt 27 (by decide +kernel) rfl
theorem k_65 : Cond.initialized RX7 ∈ tb := mt 65 (by decide +kernel) rfl
theorem k_745 : Cond.fieldLink RX7 167 "TwiceOnceModel" "services" "I" ∈ tb := mt 745 (by decide +kernel) rfl
theorem k_767 : Cond.fieldLink RX7 256 "TwiceOnceModel" "outs" "I" ∈ tb := mt 767 (by decide +kernel) rfl
theorem k_769 : Cond.fieldLink RX7 283 "TwiceOnceModel" "logged" "I" ∈ tb := mt 769 (by decide +kernel) rfl
theorem k_774 : Cond.fieldLink RX7 175 "TwiceOnceModel" "taped" "I" ∈ tb := mt 774 (by decide +kernel) rfl
theorem k_775 : Cond.fieldLink RX7 290 "TwiceOnceModel" "rows" "I" ∈ tb := mt 775 (by decide +kernel) rfl
theorem k_779 : Cond.fieldLink RX7 293 "TwiceOnceModel" "isFree" "Z" ∈ tb := mt 779 (by decide +kernel) rfl
theorem k_952 : Cond.methodLink RX7 171 yX7_in ∈ tb := mt 952 (by decide +kernel) rfl
theorem k_953 : Cond.static yX7_in ∈ tb := mt 953 (by decide +kernel) rfl
set_option maxRecDepth 20000 in
theorem k_954 : Cond.code yX7_in cX7_in 3 (some .boolean) ∈ tb := mt 954 rfl rfl
theorem k_988 : Cond.methodLink RX7 212 yX7_isService ∈ tb := mt 988 (by decide +kernel) rfl
theorem k_990 : Cond.instanceMethod yX7_isService ∈ tb := mt 990 (by decide +kernel) rfl
set_option maxRecDepth 20000 in
theorem k_991 : Cond.code yX7_isService cX7_isService 2 (some .boolean) ∈ tb := mt 991 rfl rfl
theorem dX7_in_0 : decode cX7_in 0 = .ok (.iload_n 0, 1) := by decide +kernel
theorem dX7_in_1 : decode cX7_in 1 = .ok (.iload_n 1, 1) := by decide +kernel
theorem dX7_in_2 : decode cX7_in 2 = .ok (.if_icmp .lt 12, 3) := by decide +kernel
theorem dX7_in_14 : decode cX7_in 14 = .ok (.iconst 0, 1) := by decide +kernel
theorem dX7_in_15 : decode cX7_in 15 = .ok (.ireturn, 1) := by decide +kernel
theorem dX7_in_5 : decode cX7_in 5 = .ok (.iload_n 0, 1) := by decide +kernel
theorem dX7_in_6 : decode cX7_in 6 = .ok (.iload_n 2, 1) := by decide +kernel
theorem dX7_in_7 : decode cX7_in 7 = .ok (.if_icmp .gt 7, 3) := by decide +kernel
theorem dX7_in_10 : decode cX7_in 10 = .ok (.iconst 1, 1) := by decide +kernel
theorem dX7_in_11 : decode cX7_in 11 = .ok (.goto 4, 3) := by decide +kernel
theorem dX7_isService_0 : decode cX7_isService 0 = .ok (.iload_n 1, 1) := by decide +kernel
theorem dX7_isService_1 : decode cX7_isService 1 = .ok (.iconst 0, 1) := by decide +kernel
theorem dX7_isService_2 : decode cX7_isService 2 = .ok (.aload_n 0, 1) := by decide +kernel
theorem dX7_isService_3 : decode cX7_isService 3 = .ok (.getfield 167, 3) := by decide +kernel
theorem dX7_isService_6 : decode cX7_isService 6 = .ok (.iconst 1, 1) := by decide +kernel
theorem dX7_isService_7 : decode cX7_isService 7 = .ok (.isub, 1) := by decide +kernel
theorem dX7_isService_8 : decode cX7_isService 8 = .ok (.invokestatic 171, 3) := by decide +kernel
theorem dX7_isService_11 : decode cX7_isService 11 = .ok (.ireturn, 1) := by decide +kernel
theorem dX7_change_0 : decode cX7_change 0 = .ok (.aload_n 0, 1) := by decide +kernel
theorem dX7_change_1 : decode cX7_change 1 = .ok (.iload_n 1, 1) := by decide +kernel
theorem dX7_change_2 : decode cX7_change 2 = .ok (.invokevirtual 212, 3) := by decide +kernel
theorem dX7_change_5 : decode cX7_change 5 = .ok (.ifCond .ne 5, 3) := by decide +kernel
theorem dX7_change_8 : decode cX7_change 8 = .ok (.iconst (-1), 1) := by decide +kernel
theorem dX7_change_9 : decode cX7_change 9 = .ok (.ireturn, 1) := by decide +kernel
theorem dX7_mend_0 : decode cX7_mend 0 = .ok (.aload_n 0, 1) := by decide +kernel
theorem dX7_mend_1 : decode cX7_mend 1 = .ok (.iload_n 1, 1) := by decide +kernel
theorem dX7_mend_2 : decode cX7_mend 2 = .ok (.invokevirtual 212, 3) := by decide +kernel
theorem dX7_mend_5 : decode cX7_mend 5 = .ok (.ifCond .eq 12, 3) := by decide +kernel
theorem dX7_mend_17 : decode cX7_mend 17 = .ok (.iconst (-1), 1) := by decide +kernel
theorem dX7_mend_18 : decode cX7_mend 18 = .ok (.ireturn, 1) := by decide +kernel
theorem dX7_hold_0 : decode cX7_hold 0 = .ok (.aload_n 0, 1) := by decide +kernel
theorem dX7_hold_1 : decode cX7_hold 1 = .ok (.iload_n 1, 1) := by decide +kernel
theorem dX7_hold_2 : decode cX7_hold 2 = .ok (.invokevirtual 212, 3) := by decide +kernel
theorem dX7_hold_5 : decode cX7_hold 5 = .ok (.ifCond .ne 5, 3) := by decide +kernel
theorem dX7_hold_8 : decode cX7_hold 8 = .ok (.iconst (-1), 1) := by decide +kernel
theorem dX7_hold_9 : decode cX7_hold 9 = .ok (.ireturn, 1) := by decide +kernel
theorem dX7_set_0 : decode cX7_set 0 = .ok (.aload_n 0, 1) := by decide +kernel
theorem dX7_set_1 : decode cX7_set 1 = .ok (.iload_n 1, 1) := by decide +kernel
theorem dX7_set_2 : decode cX7_set 2 = .ok (.invokevirtual 212, 3) := by decide +kernel
theorem dX7_set_5 : decode cX7_set 5 = .ok (.ifCond .eq 12, 3) := by decide +kernel
theorem dX7_set_17 : decode cX7_set 17 = .ok (.iconst (-1), 1) := by decide +kernel
theorem dX7_set_18 : decode cX7_set 18 = .ok (.ireturn, 1) := by decide +kernel
theorem dX7_about_0 : decode cX7_about 0 = .ok (.aload_n 0, 1) := by decide +kernel
theorem dX7_about_1 : decode cX7_about 1 = .ok (.iload_n 1, 1) := by decide +kernel
theorem dX7_about_2 : decode cX7_about 2 = .ok (.invokevirtual 212, 3) := by decide +kernel
theorem dX7_about_5 : decode cX7_about 5 = .ok (.ifCond .eq 13, 3) := by decide +kernel
theorem dX7_about_18 : decode cX7_about 18 = .ok (.iconst (-1), 1) := by decide +kernel
theorem dX7_about_19 : decode cX7_about 19 = .ok (.ireturn, 1) := by decide +kernel
theorem dX7_act_0 : decode cX7_act 0 = .ok (.aload_n 0, 1) := by decide +kernel
theorem dX7_act_1 : decode cX7_act 1 = .ok (.iload_n 1, 1) := by decide +kernel
theorem dX7_act_2 : decode cX7_act 2 = .ok (.invokevirtual 212, 3) := by decide +kernel
theorem dX7_act_5 : decode cX7_act 5 = .ok (.ifCond .eq 19, 3) := by decide +kernel
theorem dX7_act_24 : decode cX7_act 24 = .ok (.iconst (-1), 1) := by decide +kernel
theorem dX7_act_25 : decode cX7_act 25 = .ok (.ireturn, 1) := by decide +kernel
theorem dX7_call_0 : decode cX7_call 0 = .ok (.aload_n 0, 1) := by decide +kernel
theorem dX7_call_1 : decode cX7_call 1 = .ok (.iload_n 1, 1) := by decide +kernel
theorem dX7_call_2 : decode cX7_call 2 = .ok (.invokevirtual 212, 3) := by decide +kernel
theorem dX7_call_5 : decode cX7_call 5 = .ok (.ifCond .ne 6, 3) := by decide +kernel
theorem dX7_call_8 : decode cX7_call 8 = .ok (.bipush (-3), 2) := by decide +kernel
theorem dX7_call_10 : decode cX7_call 10 = .ok (.ireturn, 1) := by decide +kernel
theorem dX7_row_0 : decode cX7_row 0 = .ok (.aload_n 0, 1) := by decide +kernel
theorem dX7_row_1 : decode cX7_row 1 = .ok (.iload_n 1, 1) := by decide +kernel
theorem dX7_row_2 : decode cX7_row 2 = .ok (.invokevirtual 212, 3) := by decide +kernel
theorem dX7_row_5 : decode cX7_row 5 = .ok (.ifCond .ne 5, 3) := by decide +kernel
theorem dX7_row_8 : decode cX7_row 8 = .ok (.iconst (-1), 1) := by decide +kernel
theorem dX7_row_9 : decode cX7_row 9 = .ok (.ireturn, 1) := by decide +kernel
theorem dX7_outside_0 : decode cX7_outside 0 = .ok (.iload_n 1, 1) := by decide +kernel
theorem dX7_outside_1 : decode cX7_outside 1 = .ok (.iconst 0, 1) := by decide +kernel
theorem dX7_outside_2 : decode cX7_outside 2 = .ok (.aload_n 0, 1) := by decide +kernel
theorem dX7_outside_3 : decode cX7_outside 3 = .ok (.getfield 256, 3) := by decide +kernel
theorem dX7_outside_6 : decode cX7_outside 6 = .ok (.bipush 40, 2) := by decide +kernel
theorem dX7_outside_8 : decode cX7_outside 8 = .ok (.if_icmp .ge 10, 3) := by decide +kernel
theorem dX7_outside_11 : decode cX7_outside 11 = .ok (.aload_n 0, 1) := by decide +kernel
theorem dX7_outside_12 : decode cX7_outside 12 = .ok (.getfield 256, 3) := by decide +kernel
theorem dX7_outside_15 : decode cX7_outside 15 = .ok (.goto 5, 3) := by decide +kernel
theorem dX7_outside_20 : decode cX7_outside 20 = .ok (.iconst 1, 1) := by decide +kernel
theorem dX7_outside_21 : decode cX7_outside 21 = .ok (.isub, 1) := by decide +kernel
theorem dX7_outside_22 : decode cX7_outside 22 = .ok (.invokestatic 171, 3) := by decide +kernel
theorem dX7_outside_25 : decode cX7_outside 25 = .ok (.ifCond .eq 12, 3) := by decide +kernel
theorem dX7_outside_37 : decode cX7_outside 37 = .ok (.iconst (-1), 1) := by decide +kernel
theorem dX7_outside_38 : decode cX7_outside 38 = .ok (.ireturn, 1) := by decide +kernel
theorem dX7_clear_0 : decode cX7_clear 0 = .ok (.aload_n 0, 1) := by decide +kernel
theorem dX7_clear_1 : decode cX7_clear 1 = .ok (.getfield 290, 3) := by decide +kernel
theorem dX7_clear_4 : decode cX7_clear 4 = .ok (.istore_n 1, 1) := by decide +kernel
theorem dX7_clear_5 : decode cX7_clear 5 = .ok (.aload_n 0, 1) := by decide +kernel
theorem dX7_clear_6 : decode cX7_clear 6 = .ok (.iconst 0, 1) := by decide +kernel
theorem dX7_clear_7 : decode cX7_clear 7 = .ok (.putfield 290, 3) := by decide +kernel
theorem dX7_clear_10 : decode cX7_clear 10 = .ok (.iload_n 1, 1) := by decide +kernel
theorem dX7_clear_11 : decode cX7_clear 11 = .ok (.ireturn, 1) := by decide +kernel
theorem dX7_free_0 : decode cX7_free 0 = .ok (.iload_n 1, 1) := by decide +kernel
theorem dX7_free_1 : decode cX7_free 1 = .ok (.iconst 0, 1) := by decide +kernel
theorem dX7_free_2 : decode cX7_free 2 = .ok (.iconst 1, 1) := by decide +kernel
theorem dX7_free_3 : decode cX7_free 3 = .ok (.invokestatic 171, 3) := by decide +kernel
theorem dX7_free_6 : decode cX7_free 6 = .ok (.ifCond .ne 6, 3) := by decide +kernel
theorem dX7_free_12 : decode cX7_free 12 = .ok (.aload_n 0, 1) := by decide +kernel
theorem dX7_free_13 : decode cX7_free 13 = .ok (.getfield 293, 3) := by decide +kernel
theorem dX7_free_16 : decode cX7_free 16 = .ok (.ifCond .eq 7, 3) := by decide +kernel
theorem dX7_free_23 : decode cX7_free 23 = .ok (.iconst 0, 1) := by decide +kernel
theorem dX7_free_24 : decode cX7_free 24 = .ok (.istore_n 2, 1) := by decide +kernel
theorem dX7_free_25 : decode cX7_free 25 = .ok (.aload_n 0, 1) := by decide +kernel
theorem dX7_free_26 : decode cX7_free 26 = .ok (.iload_n 1, 1) := by decide +kernel
theorem dX7_free_27 : decode cX7_free 27 = .ok (.iconst 1, 1) := by decide +kernel
theorem dX7_free_28 : decode cX7_free 28 = .ok (.if_icmp .ne 7, 3) := by decide +kernel
theorem dX7_free_35 : decode cX7_free 35 = .ok (.iconst 0, 1) := by decide +kernel
theorem dX7_free_36 : decode cX7_free 36 = .ok (.putfield 293, 3) := by decide +kernel
theorem dX7_free_39 : decode cX7_free 39 = .ok (.iload_n 2, 1) := by decide +kernel
theorem dX7_free_40 : decode cX7_free 40 = .ok (.ireturn, 1) := by decide +kernel
theorem dX7_free_31 : decode cX7_free 31 = .ok (.iconst 1, 1) := by decide +kernel
theorem dX7_free_32 : decode cX7_free 32 = .ok (.goto 4, 3) := by decide +kernel
theorem dX7_free_9 : decode cX7_free 9 = .ok (.bipush (-2), 2) := by decide +kernel
theorem dX7_free_11 : decode cX7_free 11 = .ok (.ireturn, 1) := by decide +kernel
theorem dX7_safe_0 : decode cX7_safe 0 = .ok (.iload_n 1, 1) := by decide +kernel
theorem dX7_safe_1 : decode cX7_safe 1 = .ok (.iconst 0, 1) := by decide +kernel
theorem dX7_safe_2 : decode cX7_safe 2 = .ok (.aload_n 0, 1) := by decide +kernel
theorem dX7_safe_3 : decode cX7_safe 3 = .ok (.getfield 290, 3) := by decide +kernel
theorem dX7_safe_6 : decode cX7_safe 6 = .ok (.iconst 1, 1) := by decide +kernel
theorem dX7_safe_7 : decode cX7_safe 7 = .ok (.isub, 1) := by decide +kernel
theorem dX7_safe_8 : decode cX7_safe 8 = .ok (.invokestatic 171, 3) := by decide +kernel
theorem dX7_safe_11 : decode cX7_safe 11 = .ok (.ifCond .ne 5, 3) := by decide +kernel
theorem dX7_safe_14 : decode cX7_safe 14 = .ok (.iconst (-1), 1) := by decide +kernel
theorem dX7_safe_15 : decode cX7_safe 15 = .ok (.ireturn, 1) := by decide +kernel
theorem dX7_orders_0 : decode cX7_orders 0 = .ok (.iload_n 1, 1) := by decide +kernel
theorem dX7_orders_1 : decode cX7_orders 1 = .ok (.iconst 0, 1) := by decide +kernel
theorem dX7_orders_2 : decode cX7_orders 2 = .ok (.aload_n 0, 1) := by decide +kernel
theorem dX7_orders_3 : decode cX7_orders 3 = .ok (.getfield 290, 3) := by decide +kernel
theorem dX7_orders_6 : decode cX7_orders 6 = .ok (.iconst 1, 1) := by decide +kernel
theorem dX7_orders_7 : decode cX7_orders 7 = .ok (.isub, 1) := by decide +kernel
theorem dX7_orders_8 : decode cX7_orders 8 = .ok (.invokestatic 171, 3) := by decide +kernel
theorem dX7_orders_11 : decode cX7_orders 11 = .ok (.ifCond .eq 12, 3) := by decide +kernel
theorem dX7_orders_23 : decode cX7_orders 23 = .ok (.iconst (-1), 1) := by decide +kernel
theorem dX7_orders_24 : decode cX7_orders 24 = .ok (.ireturn, 1) := by decide +kernel
theorem dX7_log_0 : decode cX7_log 0 = .ok (.iload_n 1, 1) := by decide +kernel
theorem dX7_log_1 : decode cX7_log 1 = .ok (.iconst 0, 1) := by decide +kernel
theorem dX7_log_2 : decode cX7_log 2 = .ok (.aload_n 0, 1) := by decide +kernel
theorem dX7_log_3 : decode cX7_log 3 = .ok (.getfield 283, 3) := by decide +kernel
theorem dX7_log_6 : decode cX7_log 6 = .ok (.iconst 1, 1) := by decide +kernel
theorem dX7_log_7 : decode cX7_log 7 = .ok (.isub, 1) := by decide +kernel
theorem dX7_log_8 : decode cX7_log 8 = .ok (.invokestatic 171, 3) := by decide +kernel
theorem dX7_log_11 : decode cX7_log 11 = .ok (.ifCond .ne 5, 3) := by decide +kernel
theorem dX7_log_14 : decode cX7_log 14 = .ok (.iconst (-1), 1) := by decide +kernel
theorem dX7_log_15 : decode cX7_log 15 = .ok (.ireturn, 1) := by decide +kernel
theorem dX7_price_0 : decode cX7_price 0 = .ok (.iload_n 1, 1) := by decide +kernel
theorem dX7_price_1 : decode cX7_price 1 = .ok (.iconst 0, 1) := by decide +kernel
theorem dX7_price_2 : decode cX7_price 2 = .ok (.iconst 3, 1) := by decide +kernel
theorem dX7_price_3 : decode cX7_price 3 = .ok (.invokestatic 171, 3) := by decide +kernel
theorem dX7_price_6 : decode cX7_price 6 = .ok (.ifCond .ne 5, 3) := by decide +kernel
theorem dX7_price_11 : decode cX7_price 11 = .ok (.iload_n 2, 1) := by decide +kernel
theorem dX7_price_12 : decode cX7_price 12 = .ok (.iconst 0, 1) := by decide +kernel
theorem dX7_price_13 : decode cX7_price 13 = .ok (.bipush 99, 2) := by decide +kernel
theorem dX7_price_15 : decode cX7_price 15 = .ok (.invokestatic 171, 3) := by decide +kernel
theorem dX7_price_18 : decode cX7_price 18 = .ok (.ifCond .ne 6, 3) := by decide +kernel
theorem dX7_price_24 : decode cX7_price 24 = .ok (.aload_n 0, 1) := by decide +kernel
theorem dX7_price_25 : decode cX7_price 25 = .ok (.getfield 95, 3) := by decide +kernel
theorem dX7_price_28 : decode cX7_price 28 = .ok (.iload_n 1, 1) := by decide +kernel
theorem dX7_price_29 : decode cX7_price 29 = .ok (.iaload, 1) := by decide +kernel
theorem dX7_price_30 : decode cX7_price 30 = .ok (.istore_n 3, 1) := by decide +kernel
theorem dX7_price_31 : decode cX7_price 31 = .ok (.aload_n 0, 1) := by decide +kernel
theorem dX7_price_32 : decode cX7_price 32 = .ok (.getfield 95, 3) := by decide +kernel
theorem dX7_price_35 : decode cX7_price 35 = .ok (.iload_n 1, 1) := by decide +kernel
theorem dX7_price_36 : decode cX7_price 36 = .ok (.iload_n 2, 1) := by decide +kernel
theorem dX7_price_37 : decode cX7_price 37 = .ok (.iastore, 1) := by decide +kernel
theorem dX7_price_38 : decode cX7_price 38 = .ok (.iload_n 3, 1) := by decide +kernel
theorem dX7_price_39 : decode cX7_price 39 = .ok (.ireturn, 1) := by decide +kernel
theorem dX7_price_21 : decode cX7_price 21 = .ok (.bipush (-2), 2) := by decide +kernel
theorem dX7_price_23 : decode cX7_price 23 = .ok (.ireturn, 1) := by decide +kernel
theorem dX7_price_9 : decode cX7_price 9 = .ok (.iconst (-1), 1) := by decide +kernel
theorem dX7_price_10 : decode cX7_price 10 = .ok (.ireturn, 1) := by decide +kernel
theorem dX7_count_0 : decode cX7_count 0 = .ok (.iload_n 1, 1) := by decide +kernel
theorem dX7_count_1 : decode cX7_count 1 = .ok (.tableswitch 71 0 5 #[39, 44, 49, 54, 61, 66], 39) := by decide +kernel
theorem dX7_count_72 : decode cX7_count 72 = .ok (.iconst (-1), 1) := by decide +kernel
theorem dX7_count_73 : decode cX7_count 73 = .ok (.ireturn, 1) := by decide +kernel
theorem dX7_count_40 : decode cX7_count 40 = .ok (.aload_n 0, 1) := by decide +kernel
theorem dX7_count_41 : decode cX7_count 41 = .ok (.getfield 167, 3) := by decide +kernel
theorem dX7_count_44 : decode cX7_count 44 = .ok (.ireturn, 1) := by decide +kernel
theorem dX7_count_45 : decode cX7_count 45 = .ok (.aload_n 0, 1) := by decide +kernel
theorem dX7_count_46 : decode cX7_count 46 = .ok (.getfield 290, 3) := by decide +kernel
theorem dX7_count_49 : decode cX7_count 49 = .ok (.ireturn, 1) := by decide +kernel
theorem dX7_count_50 : decode cX7_count 50 = .ok (.aload_n 0, 1) := by decide +kernel
theorem dX7_count_51 : decode cX7_count 51 = .ok (.getfield 256, 3) := by decide +kernel
theorem dX7_count_54 : decode cX7_count 54 = .ok (.ireturn, 1) := by decide +kernel
theorem dX7_count_55 : decode cX7_count 55 = .ok (.aload_n 0, 1) := by decide +kernel
theorem dX7_count_56 : decode cX7_count 56 = .ok (.getfield 49, 3) := by decide +kernel
theorem dX7_count_59 : decode cX7_count 59 = .ok (.iconst 0, 1) := by decide +kernel
theorem dX7_count_60 : decode cX7_count 60 = .ok (.iaload, 1) := by decide +kernel
theorem dX7_count_61 : decode cX7_count 61 = .ok (.ireturn, 1) := by decide +kernel
theorem dX7_count_62 : decode cX7_count 62 = .ok (.aload_n 0, 1) := by decide +kernel
theorem dX7_count_63 : decode cX7_count 63 = .ok (.getfield 283, 3) := by decide +kernel
theorem dX7_count_66 : decode cX7_count 66 = .ok (.ireturn, 1) := by decide +kernel
theorem dX7_count_67 : decode cX7_count 67 = .ok (.aload_n 0, 1) := by decide +kernel
theorem dX7_count_68 : decode cX7_count 68 = .ok (.getfield 175, 3) := by decide +kernel
theorem dX7_count_71 : decode cX7_count 71 = .ok (.ireturn, 1) := by decide +kernel
set_option maxHeartbeats 4000000 in
set_option maxRecDepth 100000 in
theorem c_in (l : Launch) (D : va_G) (cI cZ cS : ClassId) (N0 : NT) (n : Int32) (lo : Int32) (b : Int32)  : Mx l D cI cZ cS N0 yX7_in cX7_in 3 (some .boolean) 0 0 0 [.int n, .int lo, .int b] [] (fun v w => ∃ (r : Int32), v = some (.int r) ∧ w = ([] : va_W) ∧ ((r = 1 ∧ ¬ (n < lo ∨ b < n)) ∨ (r = 0 ∧ (n < lo ∨ b < n)))) := by
  refine x_enter (by decide) (Nat.le_of_ble_eq_true rfl) ?_
  intro p e s m args below meth c A ls H locs hB hr hin hl hV hA
  have hx := hB.1
  have hb := hB.2.1
  have hl : lv_has ls 3 [(0, .int n), (1, .int lo), (2, .int b)] := hl
  refine lv_iload_n hx hb dX7_in_0 rfl (lv_at hl 0 rfl) ?_
  refine lv_iload_n hx hb dX7_in_1 rfl (lv_at hl 1 rfl) ?_
  refine lv_icmp_lt (tgt := 14) hx hb dX7_in_2 (by decide) (fun c1 => ?_) (fun c1 => ?_)
  · refine lv_iconst (v := 0) hx hb dX7_in_14 (by decide) ?_
    exact x_zret (w := []) hB hr rfl hV hA (Nat.le_of_ble_eq_true rfl) (Nat.le_of_ble_eq_true rfl) [] rfl rfl (by decide) dX7_in_15 ⟨0, rfl, rfl, (Or.inr ⟨rfl, Or.inl c1⟩)⟩
  · refine lv_iload_n hx hb dX7_in_5 rfl (lv_at hl 0 rfl) ?_
    refine lv_iload_n hx hb dX7_in_6 rfl (lv_at hl 2 rfl) ?_
    refine lv_icmp_gt (tgt := 14) hx hb dX7_in_7 (by decide) (fun c2 => ?_) (fun c2 => ?_)
    · refine lv_iconst (v := 0) hx hb dX7_in_14 (by decide) ?_
      exact x_zret (w := []) hB hr rfl hV hA (Nat.le_of_ble_eq_true rfl) (Nat.le_of_ble_eq_true rfl) [] rfl rfl (by decide) dX7_in_15 ⟨0, rfl, rfl, (Or.inr ⟨rfl, Or.inr c2⟩)⟩
    · refine lv_iconst (v := 1) hx hb dX7_in_10 (by decide) ?_
      refine lv_goto (tgt := 15) hx hb dX7_in_11 (by decide) ?_
      exact x_zret (w := []) hB hr rfl hV hA (Nat.le_of_ble_eq_true rfl) (Nat.le_of_ble_eq_true rfl) [] rfl rfl (by decide) dX7_in_15 ⟨1, rfl, rfl, (Or.inl ⟨rfl, fun q => q.elim c1 c2⟩)⟩
set_option maxHeartbeats 4000000 in
set_option maxRecDepth 100000 in
theorem c_in_m1 (l : Launch) (D : va_G) (cI cZ cS : ClassId) (N0 : NT) (n : Int32)  : Mx l D cI cZ cS N0 yX7_in cX7_in 3 (some .boolean) 0 0 0 [.int n, .int 0, .int (-1)] [] (fun v w => v = some (.int 0) ∧ w = ([] : va_W)) := by
  refine x_enter (by decide) (Nat.le_of_ble_eq_true rfl) ?_
  intro p e s m args below meth c A ls H locs hB hr hin hl hV hA
  have hx := hB.1
  have hb := hB.2.1
  have hl : lv_has ls 3 [(0, .int n), (1, .int 0), (2, .int (-1))] := hl
  refine lv_iload_n hx hb dX7_in_0 rfl (lv_at hl 0 rfl) ?_
  refine lv_iload_n hx hb dX7_in_1 rfl (lv_at hl 1 rfl) ?_
  refine lv_icmp_lt (tgt := 14) hx hb dX7_in_2 (by decide) (fun c1 => ?_) (fun c1 => ?_)
  · refine lv_iconst (v := 0) hx hb dX7_in_14 (by decide) ?_
    exact x_zret (w := []) hB hr rfl hV hA (Nat.le_of_ble_eq_true rfl) (Nat.le_of_ble_eq_true rfl) [] rfl rfl (by decide) dX7_in_15 ⟨rfl, rfl⟩
  · refine lv_iload_n hx hb dX7_in_5 rfl (lv_at hl 0 rfl) ?_
    refine lv_iload_n hx hb dX7_in_6 rfl (lv_at hl 2 rfl) ?_
    refine lv_icmp_gt (tgt := 14) hx hb dX7_in_7 (by decide) (fun c_ => ?_) (fun c_ => absurd (gt_m1 c1) c_)
    refine lv_iconst (v := 0) hx hb dX7_in_14 (by decide) ?_
    exact x_zret (w := []) hB hr rfl hV hA (Nat.le_of_ble_eq_true rfl) (Nat.le_of_ble_eq_true rfl) [] rfl rfl (by decide) dX7_in_15 ⟨rfl, rfl⟩
set_option maxHeartbeats 4000000 in
set_option maxRecDepth 100000 in
theorem c_in_low (l : Launch) (D : va_G) (cI cZ cS : ClassId) (N0 : NT) (b : Int32)  : Mx l D cI cZ cS N0 yX7_in cX7_in 3 (some .boolean) 0 0 0 [.int (-1), .int 48, .int b] [] (fun v w => v = some (.int 0) ∧ w = ([] : va_W)) := by
  refine x_enter (by decide) (Nat.le_of_ble_eq_true rfl) ?_
  intro p e s m args below meth c A ls H locs hB hr hin hl hV hA
  have hx := hB.1
  have hb := hB.2.1
  have hl : lv_has ls 3 [(0, .int (-1)), (1, .int 48), (2, .int b)] := hl
  refine lv_iload_n hx hb dX7_in_0 rfl (lv_at hl 0 rfl) ?_
  refine lv_iload_n hx hb dX7_in_1 rfl (lv_at hl 1 rfl) ?_
  refine lv_icmp_lt (tgt := 14) hx hb dX7_in_2 (by decide) (fun c_ => ?_) (fun c_ => absurd (by decide) c_)
  refine lv_iconst (v := 0) hx hb dX7_in_14 (by decide) ?_
  exact x_zret (w := []) hB hr rfl hV hA (Nat.le_of_ble_eq_true rfl) (Nat.le_of_ble_eq_true rfl) [] rfl rfl (by decide) dX7_in_15 ⟨rfl, rfl⟩
set_option maxHeartbeats 4000000 in
set_option maxRecDepth 100000 in
theorem c_isService (l : Launch) (D : va_G) (cI cZ cS : ClassId) (N0 : NT) (h : Nat) (fs : List Value) (x1 : Int32) (h0 : fs[0]? = some (.int 0)) : Mx l D cI cZ cS N0 yX7_isService cX7_isService 2 (some .boolean) 1 0 0 [.ref h, .int x1] [(h, .inr (7, fs))] (fun v w => v = some (.int 0) ∧ w = ([(h, .inr (7, fs))] : va_W)) := by
  refine x_enter (by decide) (Nat.le_of_ble_eq_true rfl) ?_
  intro p e s m args below meth c A ls H locs hB hr hin hl hV hA
  have hx := hB.1
  have hb := hB.2.1
  have hl : lv_has ls 2 [(0, .ref h), (1, .int x1)] := hl
  refine lv_iload_n hx hb dX7_isService_0 rfl (lv_at hl 1 rfl) ?_
  refine lv_iconst (v := 0) hx hb dX7_isService_1 (by decide) ?_
  refine lv_aload_n hx hb dX7_isService_2 rfl (lv_at hl 0 rfl) ?_
  refine x_get (v := .int 0) hB hV 0 rfl rfl 0 (by decide) k_745 h0 dX7_isService_3 ?_
  refine lv_iconst (v := 1) hx hb dX7_isService_6 (by decide) ?_
  refine lv_isub hx hb dX7_isService_7 ?_
  refine x_ev (y := (-1)) (by decide) ?_
  refine x_callS (n := 3) (wr := [(h, .inr (7, fs))]) (As := [.int x1, .int 0, .int (-1)]) (rest := []) hB hV (x_N hB) hl.1 (c_in_m1 l D cI cZ cS N0 x1 ) k_954 k_65 k_952 k_953 (by decide +kernel) ⟨(Nat.le_of_ble_eq_true rfl), (Nat.le_of_ble_eq_true rfl)⟩ rfl (Nat.le_of_ble_eq_true rfl) ⟨(Nat.le_of_ble_eq_true rfl), (Nat.le_of_ble_eq_true rfl)⟩ [] [0] rfl rfl rfl ⟨by decide, by decide, by decide⟩ dX7_isService_8 (fun v w H locs hp hV => ?_)
  obtain ⟨rfl, rfl⟩ := hp
  have hV : Vx D A s.heap H locs [(h, .inr (7, fs))] := hV
  refine W.eq (g2 := F0 m 11 ls [.int 0]) rfl ?_
  exact x_zret (w := [(h, .inr (7, fs))]) hB hr rfl hV hA (Nat.le_of_ble_eq_true rfl) (Nat.le_of_ble_eq_true rfl) [0] rfl rfl (by decide) dX7_isService_11 ⟨rfl, rfl⟩
set_option maxHeartbeats 4000000 in
set_option maxRecDepth 100000 in
theorem m_change (l : Launch) (D : va_G) (cI cZ cS : ClassId) (N0 : NT) (h : Nat) (fs : List Value) (x1 : Int32) (h0 : fs[0]? = some (.int 0)) : Mx l D cI cZ cS N0 yX7_change cX7_change 2 (some .int) 2 0 0 [.ref h, .int x1] [(h, .inr (7, fs))] (fun v w => v = some (.int (-1)) ∧ w = ([] : va_W)) := by
  refine x_enter (by decide) (Nat.le_of_ble_eq_true rfl) ?_
  intro p e s m args below meth c A ls H locs hB hr hin hl hV hA
  have hx := hB.1
  have hb := hB.2.1
  have hl : lv_has ls 2 [(0, .ref h), (1, .int x1)] := hl
  refine lv_aload_n hx hb dX7_change_0 rfl (lv_at hl 0 rfl) ?_
  refine lv_iload_n hx hb dX7_change_1 rfl (lv_at hl 1 rfl) ?_
  refine x_callV (n := 1) (wr := []) (q0 := 0) (As := [.int x1]) (rest := []) hB hV (x_N hB) hl.1 (c_isService l D cI cZ cS N0 h fs x1 h0) rfl rfl k_991 k_65 k_988 k_990 k_27 (by decide +kernel) ⟨(Nat.le_of_ble_eq_true rfl), (Nat.le_of_ble_eq_true rfl)⟩ rfl (Nat.le_of_ble_eq_true rfl) ⟨(Nat.le_of_ble_eq_true rfl), (Nat.le_of_ble_eq_true rfl)⟩ [0] [] rfl rfl rfl ⟨by decide, by decide, by decide⟩ dX7_change_2 (fun v w H locs hp hV => ?_)
  obtain ⟨rfl, rfl⟩ := hp
  have hV : Vx D A s.heap H locs [(h, .inr (7, fs))] := hV
  refine W.eq (g2 := F0 m 5 ls [.int 0]) rfl ?_
  refine lv_if_ne (tgt := 10) hx hb dX7_change_5 (by decide) (fun c_ => absurd (by decide) c_) (fun c_ => ?_)
  refine lv_iconst (v := (-1)) hx hb dX7_change_8 (by decide) ?_
  exact x_iret (w := []) hB hr hV hA (Nat.le_of_ble_eq_true rfl) (Nat.le_of_ble_eq_true rfl) [] rfl rfl (by decide) dX7_change_9 ⟨rfl, rfl⟩
set_option maxHeartbeats 4000000 in
set_option maxRecDepth 100000 in
theorem m_mend (l : Launch) (D : va_G) (cI cZ cS : ClassId) (N0 : NT) (h : Nat) (fs : List Value) (x1 : Int32) (x2 : Int32) (x3 : Int32) (h0 : fs[0]? = some (.int 0)) : Mx l D cI cZ cS N0 yX7_mend cX7_mend 5 (some .int) 2 0 0 [.ref h, .int x1, .int x2, .int x3] [(h, .inr (7, fs))] (fun v w => v = some (.int (-1)) ∧ w = ([] : va_W)) := by
  refine x_enter (by decide) (Nat.le_of_ble_eq_true rfl) ?_
  intro p e s m args below meth c A ls H locs hB hr hin hl hV hA
  have hx := hB.1
  have hb := hB.2.1
  have hl : lv_has ls 5 [(0, .ref h), (1, .int x1), (2, .int x2), (3, .int x3)] := hl
  refine lv_aload_n hx hb dX7_mend_0 rfl (lv_at hl 0 rfl) ?_
  refine lv_iload_n hx hb dX7_mend_1 rfl (lv_at hl 1 rfl) ?_
  refine x_callV (n := 1) (wr := []) (q0 := 0) (As := [.int x1]) (rest := []) hB hV (x_N hB) hl.1 (c_isService l D cI cZ cS N0 h fs x1 h0) rfl rfl k_991 k_65 k_988 k_990 k_27 (by decide +kernel) ⟨(Nat.le_of_ble_eq_true rfl), (Nat.le_of_ble_eq_true rfl)⟩ rfl (Nat.le_of_ble_eq_true rfl) ⟨(Nat.le_of_ble_eq_true rfl), (Nat.le_of_ble_eq_true rfl)⟩ [0] [] rfl rfl rfl ⟨by decide, by decide, by decide⟩ dX7_mend_2 (fun v w H locs hp hV => ?_)
  obtain ⟨rfl, rfl⟩ := hp
  have hV : Vx D A s.heap H locs [(h, .inr (7, fs))] := hV
  refine W.eq (g2 := F0 m 5 ls [.int 0]) rfl ?_
  refine lv_if_eq (tgt := 17) hx hb dX7_mend_5 (by decide) (fun c_ => ?_) (fun c_ => absurd (by decide) c_)
  refine lv_iconst (v := (-1)) hx hb dX7_mend_17 (by decide) ?_
  exact x_iret (w := []) hB hr hV hA (Nat.le_of_ble_eq_true rfl) (Nat.le_of_ble_eq_true rfl) [] rfl rfl (by decide) dX7_mend_18 ⟨rfl, rfl⟩
set_option maxHeartbeats 4000000 in
set_option maxRecDepth 100000 in
theorem m_hold (l : Launch) (D : va_G) (cI cZ cS : ClassId) (N0 : NT) (h : Nat) (fs : List Value) (x1 : Int32) (x2 : Int32) (h0 : fs[0]? = some (.int 0)) : Mx l D cI cZ cS N0 yX7_hold cX7_hold 4 (some .int) 2 0 0 [.ref h, .int x1, .int x2] [(h, .inr (7, fs))] (fun v w => v = some (.int (-1)) ∧ w = ([] : va_W)) := by
  refine x_enter (by decide) (Nat.le_of_ble_eq_true rfl) ?_
  intro p e s m args below meth c A ls H locs hB hr hin hl hV hA
  have hx := hB.1
  have hb := hB.2.1
  have hl : lv_has ls 4 [(0, .ref h), (1, .int x1), (2, .int x2)] := hl
  refine lv_aload_n hx hb dX7_hold_0 rfl (lv_at hl 0 rfl) ?_
  refine lv_iload_n hx hb dX7_hold_1 rfl (lv_at hl 1 rfl) ?_
  refine x_callV (n := 1) (wr := []) (q0 := 0) (As := [.int x1]) (rest := []) hB hV (x_N hB) hl.1 (c_isService l D cI cZ cS N0 h fs x1 h0) rfl rfl k_991 k_65 k_988 k_990 k_27 (by decide +kernel) ⟨(Nat.le_of_ble_eq_true rfl), (Nat.le_of_ble_eq_true rfl)⟩ rfl (Nat.le_of_ble_eq_true rfl) ⟨(Nat.le_of_ble_eq_true rfl), (Nat.le_of_ble_eq_true rfl)⟩ [0] [] rfl rfl rfl ⟨by decide, by decide, by decide⟩ dX7_hold_2 (fun v w H locs hp hV => ?_)
  obtain ⟨rfl, rfl⟩ := hp
  have hV : Vx D A s.heap H locs [(h, .inr (7, fs))] := hV
  refine W.eq (g2 := F0 m 5 ls [.int 0]) rfl ?_
  refine lv_if_ne (tgt := 10) hx hb dX7_hold_5 (by decide) (fun c_ => absurd (by decide) c_) (fun c_ => ?_)
  refine lv_iconst (v := (-1)) hx hb dX7_hold_8 (by decide) ?_
  exact x_iret (w := []) hB hr hV hA (Nat.le_of_ble_eq_true rfl) (Nat.le_of_ble_eq_true rfl) [] rfl rfl (by decide) dX7_hold_9 ⟨rfl, rfl⟩
set_option maxHeartbeats 4000000 in
set_option maxRecDepth 100000 in
theorem m_set (l : Launch) (D : va_G) (cI cZ cS : ClassId) (N0 : NT) (h : Nat) (fs : List Value) (x1 : Int32) (x2 : Int32) (x3 : Int32) (h0 : fs[0]? = some (.int 0)) : Mx l D cI cZ cS N0 yX7_set cX7_set 5 (some .int) 2 0 0 [.ref h, .int x1, .int x2, .int x3] [(h, .inr (7, fs))] (fun v w => v = some (.int (-1)) ∧ w = ([] : va_W)) := by
  refine x_enter (by decide) (Nat.le_of_ble_eq_true rfl) ?_
  intro p e s m args below meth c A ls H locs hB hr hin hl hV hA
  have hx := hB.1
  have hb := hB.2.1
  have hl : lv_has ls 5 [(0, .ref h), (1, .int x1), (2, .int x2), (3, .int x3)] := hl
  refine lv_aload_n hx hb dX7_set_0 rfl (lv_at hl 0 rfl) ?_
  refine lv_iload_n hx hb dX7_set_1 rfl (lv_at hl 1 rfl) ?_
  refine x_callV (n := 1) (wr := []) (q0 := 0) (As := [.int x1]) (rest := []) hB hV (x_N hB) hl.1 (c_isService l D cI cZ cS N0 h fs x1 h0) rfl rfl k_991 k_65 k_988 k_990 k_27 (by decide +kernel) ⟨(Nat.le_of_ble_eq_true rfl), (Nat.le_of_ble_eq_true rfl)⟩ rfl (Nat.le_of_ble_eq_true rfl) ⟨(Nat.le_of_ble_eq_true rfl), (Nat.le_of_ble_eq_true rfl)⟩ [0] [] rfl rfl rfl ⟨by decide, by decide, by decide⟩ dX7_set_2 (fun v w H locs hp hV => ?_)
  obtain ⟨rfl, rfl⟩ := hp
  have hV : Vx D A s.heap H locs [(h, .inr (7, fs))] := hV
  refine W.eq (g2 := F0 m 5 ls [.int 0]) rfl ?_
  refine lv_if_eq (tgt := 17) hx hb dX7_set_5 (by decide) (fun c_ => ?_) (fun c_ => absurd (by decide) c_)
  refine lv_iconst (v := (-1)) hx hb dX7_set_17 (by decide) ?_
  exact x_iret (w := []) hB hr hV hA (Nat.le_of_ble_eq_true rfl) (Nat.le_of_ble_eq_true rfl) [] rfl rfl (by decide) dX7_set_18 ⟨rfl, rfl⟩
set_option maxHeartbeats 4000000 in
set_option maxRecDepth 100000 in
theorem m_about (l : Launch) (D : va_G) (cI cZ cS : ClassId) (N0 : NT) (h : Nat) (fs : List Value) (x1 : Int32) (x2 : Int32) (h0 : fs[0]? = some (.int 0)) : Mx l D cI cZ cS N0 yX7_about cX7_about 5 (some .int) 2 0 0 [.ref h, .int x1, .int x2] [(h, .inr (7, fs))] (fun v w => v = some (.int (-1)) ∧ w = ([] : va_W)) := by
  refine x_enter (by decide) (Nat.le_of_ble_eq_true rfl) ?_
  intro p e s m args below meth c A ls H locs hB hr hin hl hV hA
  have hx := hB.1
  have hb := hB.2.1
  have hl : lv_has ls 5 [(0, .ref h), (1, .int x1), (2, .int x2)] := hl
  refine lv_aload_n hx hb dX7_about_0 rfl (lv_at hl 0 rfl) ?_
  refine lv_iload_n hx hb dX7_about_1 rfl (lv_at hl 1 rfl) ?_
  refine x_callV (n := 1) (wr := []) (q0 := 0) (As := [.int x1]) (rest := []) hB hV (x_N hB) hl.1 (c_isService l D cI cZ cS N0 h fs x1 h0) rfl rfl k_991 k_65 k_988 k_990 k_27 (by decide +kernel) ⟨(Nat.le_of_ble_eq_true rfl), (Nat.le_of_ble_eq_true rfl)⟩ rfl (Nat.le_of_ble_eq_true rfl) ⟨(Nat.le_of_ble_eq_true rfl), (Nat.le_of_ble_eq_true rfl)⟩ [0] [] rfl rfl rfl ⟨by decide, by decide, by decide⟩ dX7_about_2 (fun v w H locs hp hV => ?_)
  obtain ⟨rfl, rfl⟩ := hp
  have hV : Vx D A s.heap H locs [(h, .inr (7, fs))] := hV
  refine W.eq (g2 := F0 m 5 ls [.int 0]) rfl ?_
  refine lv_if_eq (tgt := 18) hx hb dX7_about_5 (by decide) (fun c_ => ?_) (fun c_ => absurd (by decide) c_)
  refine lv_iconst (v := (-1)) hx hb dX7_about_18 (by decide) ?_
  exact x_iret (w := []) hB hr hV hA (Nat.le_of_ble_eq_true rfl) (Nat.le_of_ble_eq_true rfl) [] rfl rfl (by decide) dX7_about_19 ⟨rfl, rfl⟩
set_option maxHeartbeats 4000000 in
set_option maxRecDepth 100000 in
theorem m_act (l : Launch) (D : va_G) (cI cZ cS : ClassId) (N0 : NT) (h : Nat) (fs : List Value) (x1 : Int32) (x2 : Int32) (x3 : Int32) (h0 : fs[0]? = some (.int 0)) : Mx l D cI cZ cS N0 yX7_act cX7_act 5 (some .int) 2 0 0 [.ref h, .int x1, .int x2, .int x3] [(h, .inr (7, fs))] (fun v w => v = some (.int (-1)) ∧ w = ([] : va_W)) := by
  refine x_enter (by decide) (Nat.le_of_ble_eq_true rfl) ?_
  intro p e s m args below meth c A ls H locs hB hr hin hl hV hA
  have hx := hB.1
  have hb := hB.2.1
  have hl : lv_has ls 5 [(0, .ref h), (1, .int x1), (2, .int x2), (3, .int x3)] := hl
  refine lv_aload_n hx hb dX7_act_0 rfl (lv_at hl 0 rfl) ?_
  refine lv_iload_n hx hb dX7_act_1 rfl (lv_at hl 1 rfl) ?_
  refine x_callV (n := 1) (wr := []) (q0 := 0) (As := [.int x1]) (rest := []) hB hV (x_N hB) hl.1 (c_isService l D cI cZ cS N0 h fs x1 h0) rfl rfl k_991 k_65 k_988 k_990 k_27 (by decide +kernel) ⟨(Nat.le_of_ble_eq_true rfl), (Nat.le_of_ble_eq_true rfl)⟩ rfl (Nat.le_of_ble_eq_true rfl) ⟨(Nat.le_of_ble_eq_true rfl), (Nat.le_of_ble_eq_true rfl)⟩ [0] [] rfl rfl rfl ⟨by decide, by decide, by decide⟩ dX7_act_2 (fun v w H locs hp hV => ?_)
  obtain ⟨rfl, rfl⟩ := hp
  have hV : Vx D A s.heap H locs [(h, .inr (7, fs))] := hV
  refine W.eq (g2 := F0 m 5 ls [.int 0]) rfl ?_
  refine lv_if_eq (tgt := 24) hx hb dX7_act_5 (by decide) (fun c_ => ?_) (fun c_ => absurd (by decide) c_)
  refine lv_iconst (v := (-1)) hx hb dX7_act_24 (by decide) ?_
  exact x_iret (w := []) hB hr hV hA (Nat.le_of_ble_eq_true rfl) (Nat.le_of_ble_eq_true rfl) [] rfl rfl (by decide) dX7_act_25 ⟨rfl, rfl⟩
set_option maxHeartbeats 4000000 in
set_option maxRecDepth 100000 in
theorem m_call (l : Launch) (D : va_G) (cI cZ cS : ClassId) (N0 : NT) (h : Nat) (fs : List Value) (x1 : Int32) (x2 : Int32) (x3 : Int32) (x4 : Int32) (h0 : fs[0]? = some (.int 0)) : Mx l D cI cZ cS N0 yX7_call cX7_call 6 (some .int) 2 0 0 [.ref h, .int x1, .int x2, .int x3, .int x4] [(h, .inr (7, fs))] (fun v w => v = some (.int (-3)) ∧ w = ([] : va_W)) := by
  refine x_enter (by decide) (Nat.le_of_ble_eq_true rfl) ?_
  intro p e s m args below meth c A ls H locs hB hr hin hl hV hA
  have hx := hB.1
  have hb := hB.2.1
  have hl : lv_has ls 6 [(0, .ref h), (1, .int x1), (2, .int x2), (3, .int x3), (4, .int x4)] := hl
  refine lv_aload_n hx hb dX7_call_0 rfl (lv_at hl 0 rfl) ?_
  refine lv_iload_n hx hb dX7_call_1 rfl (lv_at hl 1 rfl) ?_
  refine x_callV (n := 1) (wr := []) (q0 := 0) (As := [.int x1]) (rest := []) hB hV (x_N hB) hl.1 (c_isService l D cI cZ cS N0 h fs x1 h0) rfl rfl k_991 k_65 k_988 k_990 k_27 (by decide +kernel) ⟨(Nat.le_of_ble_eq_true rfl), (Nat.le_of_ble_eq_true rfl)⟩ rfl (Nat.le_of_ble_eq_true rfl) ⟨(Nat.le_of_ble_eq_true rfl), (Nat.le_of_ble_eq_true rfl)⟩ [0] [] rfl rfl rfl ⟨by decide, by decide, by decide⟩ dX7_call_2 (fun v w H locs hp hV => ?_)
  obtain ⟨rfl, rfl⟩ := hp
  have hV : Vx D A s.heap H locs [(h, .inr (7, fs))] := hV
  refine W.eq (g2 := F0 m 5 ls [.int 0]) rfl ?_
  refine lv_if_ne (tgt := 11) hx hb dX7_call_5 (by decide) (fun c_ => absurd (by decide) c_) (fun c_ => ?_)
  refine lv_bipush (v := (-3)) hx hb dX7_call_8 (by decide) ?_
  exact x_iret (w := []) hB hr hV hA (Nat.le_of_ble_eq_true rfl) (Nat.le_of_ble_eq_true rfl) [] rfl rfl (by decide) dX7_call_10 ⟨rfl, rfl⟩
set_option maxHeartbeats 4000000 in
set_option maxRecDepth 100000 in
theorem m_row (l : Launch) (D : va_G) (cI cZ cS : ClassId) (N0 : NT) (h : Nat) (fs : List Value) (x1 : Int32) (x2 : Int32) (x3 : Int32) (h0 : fs[0]? = some (.int 0)) : Mx l D cI cZ cS N0 yX7_row cX7_row 4 (some .int) 2 0 0 [.ref h, .int x1, .int x2, .int x3] [(h, .inr (7, fs))] (fun v w => v = some (.int (-1)) ∧ w = ([] : va_W)) := by
  refine x_enter (by decide) (Nat.le_of_ble_eq_true rfl) ?_
  intro p e s m args below meth c A ls H locs hB hr hin hl hV hA
  have hx := hB.1
  have hb := hB.2.1
  have hl : lv_has ls 4 [(0, .ref h), (1, .int x1), (2, .int x2), (3, .int x3)] := hl
  refine lv_aload_n hx hb dX7_row_0 rfl (lv_at hl 0 rfl) ?_
  refine lv_iload_n hx hb dX7_row_1 rfl (lv_at hl 1 rfl) ?_
  refine x_callV (n := 1) (wr := []) (q0 := 0) (As := [.int x1]) (rest := []) hB hV (x_N hB) hl.1 (c_isService l D cI cZ cS N0 h fs x1 h0) rfl rfl k_991 k_65 k_988 k_990 k_27 (by decide +kernel) ⟨(Nat.le_of_ble_eq_true rfl), (Nat.le_of_ble_eq_true rfl)⟩ rfl (Nat.le_of_ble_eq_true rfl) ⟨(Nat.le_of_ble_eq_true rfl), (Nat.le_of_ble_eq_true rfl)⟩ [0] [] rfl rfl rfl ⟨by decide, by decide, by decide⟩ dX7_row_2 (fun v w H locs hp hV => ?_)
  obtain ⟨rfl, rfl⟩ := hp
  have hV : Vx D A s.heap H locs [(h, .inr (7, fs))] := hV
  refine W.eq (g2 := F0 m 5 ls [.int 0]) rfl ?_
  refine lv_if_ne (tgt := 10) hx hb dX7_row_5 (by decide) (fun c_ => absurd (by decide) c_) (fun c_ => ?_)
  refine lv_iconst (v := (-1)) hx hb dX7_row_8 (by decide) ?_
  exact x_iret (w := []) hB hr hV hA (Nat.le_of_ble_eq_true rfl) (Nat.le_of_ble_eq_true rfl) [] rfl rfl (by decide) dX7_row_9 ⟨rfl, rfl⟩
set_option maxHeartbeats 4000000 in
set_option maxRecDepth 100000 in
theorem m_outside (l : Launch) (D : va_G) (cI cZ cS : ClassId) (N0 : NT) (h : Nat) (fs : List Value) (x1 : Int32) (h22 : fs[22]? = some (.int 0)) : Mx l D cI cZ cS N0 yX7_outside cX7_outside 2 (some .int) 1 0 0 [.ref h, .int x1] [(h, .inr (7, fs))] (fun v w => v = some (.int (-1)) ∧ w = ([] : va_W)) := by
  refine x_enter (by decide) (Nat.le_of_ble_eq_true rfl) ?_
  intro p e s m args below meth c A ls H locs hB hr hin hl hV hA
  have hx := hB.1
  have hb := hB.2.1
  have hl : lv_has ls 2 [(0, .ref h), (1, .int x1)] := hl
  refine lv_iload_n hx hb dX7_outside_0 rfl (lv_at hl 1 rfl) ?_
  refine lv_iconst (v := 0) hx hb dX7_outside_1 (by decide) ?_
  refine lv_aload_n hx hb dX7_outside_2 rfl (lv_at hl 0 rfl) ?_
  refine x_get (v := .int 0) hB hV 0 rfl rfl 22 (by decide) k_767 h22 dX7_outside_3 ?_
  refine lv_bipush (v := 40) hx hb dX7_outside_6 (by decide) ?_
  refine lv_icmp_ge (tgt := 18) hx hb dX7_outside_8 (by decide) (fun c_ => absurd c_ (by decide)) (fun c_ => ?_)
  refine lv_aload_n hx hb dX7_outside_11 rfl (lv_at hl 0 rfl) ?_
  refine x_get (v := .int 0) hB hV 0 rfl rfl 22 (by decide) k_767 h22 dX7_outside_12 ?_
  refine lv_goto (tgt := 20) hx hb dX7_outside_15 (by decide) ?_
  refine lv_iconst (v := 1) hx hb dX7_outside_20 (by decide) ?_
  refine lv_isub hx hb dX7_outside_21 ?_
  refine x_ev (y := (-1)) (by decide) ?_
  refine x_callS (n := 3) (wr := [(h, .inr (7, fs))]) (As := [.int x1, .int 0, .int (-1)]) (rest := []) hB hV (x_N hB) hl.1 (c_in_m1 l D cI cZ cS N0 x1 ) k_954 k_65 k_952 k_953 (by decide +kernel) ⟨(Nat.le_of_ble_eq_true rfl), (Nat.le_of_ble_eq_true rfl)⟩ rfl (Nat.le_of_ble_eq_true rfl) ⟨(Nat.le_of_ble_eq_true rfl), (Nat.le_of_ble_eq_true rfl)⟩ [] [0] rfl rfl rfl ⟨by decide, by decide, by decide⟩ dX7_outside_22 (fun v w H locs hp hV => ?_)
  obtain ⟨rfl, rfl⟩ := hp
  have hV : Vx D A s.heap H locs [(h, .inr (7, fs))] := hV
  refine W.eq (g2 := F0 m 25 ls [.int 0]) rfl ?_
  refine lv_if_eq (tgt := 37) hx hb dX7_outside_25 (by decide) (fun c_ => ?_) (fun c_ => absurd (by decide) c_)
  refine lv_iconst (v := (-1)) hx hb dX7_outside_37 (by decide) ?_
  exact x_iret (w := []) hB hr hV hA (Nat.le_of_ble_eq_true rfl) (Nat.le_of_ble_eq_true rfl) [] rfl rfl (by decide) dX7_outside_38 ⟨rfl, rfl⟩
set_option maxHeartbeats 4000000 in
set_option maxRecDepth 100000 in
theorem m_clear (l : Launch) (D : va_G) (cI cZ cS : ClassId) (N0 : NT) (h : Nat) (fs : List Value) (h30 : fs[30]? = some (.int 0)) : Mx l D cI cZ cS N0 yX7_clear cX7_clear 2 (some .int) 1 0 0 [.ref h] [(h, .inr (7, fs))] (fun v w => v = some (.int 0) ∧ w = ([] : va_W)) := by
  refine x_enter (by decide) (Nat.le_of_ble_eq_true rfl) ?_
  intro p e s m args below meth c A ls H locs hB hr hin hl hV hA
  have hx := hB.1
  have hb := hB.2.1
  have hl : lv_has ls 2 [(0, .ref h)] := hl
  refine lv_aload_n hx hb dX7_clear_0 rfl (lv_at hl 0 rfl) ?_
  refine x_get (v := .int 0) hB hV 0 rfl rfl 30 (by decide) k_775 h30 dX7_clear_1 ?_
  refine lv_istore_n (lv' := [(1, .int 0), (0, .ref h)]) hx hb dX7_clear_4 rfl hl (by decide) rfl (fun ls hl => ?_)
  refine lv_aload_n hx hb dX7_clear_5 rfl (lv_at hl 1 rfl) ?_
  refine lv_iconst (v := 0) hx hb dX7_clear_6 (by decide) ?_
  refine x_put (v := .int 0) hB hV 0 rfl rfl 30 (by decide) k_775 rfl rfl rfl (fs_lt h30) dX7_clear_7 (fun H locs hV => ?_)
  have hV : Vx D A s.heap H locs [(h, .inr (7, (fs.set 30 (.int 0))))] := hV
  refine lv_iload_n hx hb dX7_clear_10 rfl (lv_at hl 0 rfl) ?_
  exact x_iret (w := []) hB hr hV hA (Nat.le_of_ble_eq_true rfl) (Nat.le_of_ble_eq_true rfl) [] rfl rfl (by decide) dX7_clear_11 ⟨rfl, rfl⟩
set_option maxHeartbeats 4000000 in
set_option maxRecDepth 100000 in
theorem m_free (l : Launch) (D : va_G) (cI cZ cS : ClassId) (N0 : NT) (h : Nat) (fs : List Value) (x1 : Int32) (h34 : fs[34]? = some (.int 0)) : Mx l D cI cZ cS N0 yX7_free cX7_free 3 (some .int) 1 0 0 [.ref h, .int x1] [(h, .inr (7, fs))] (fun v w => ∃ (r : Int32), v = some (.int r) ∧ w = ([] : va_W) ∧ (r = sp_free x1)) := by
  refine x_enter (by decide) (Nat.le_of_ble_eq_true rfl) ?_
  intro p e s m args below meth c A ls H locs hB hr hin hl hV hA
  have hx := hB.1
  have hb := hB.2.1
  have hl : lv_has ls 3 [(0, .ref h), (1, .int x1)] := hl
  refine lv_iload_n hx hb dX7_free_0 rfl (lv_at hl 1 rfl) ?_
  refine lv_iconst (v := 0) hx hb dX7_free_1 (by decide) ?_
  refine lv_iconst (v := 1) hx hb dX7_free_2 (by decide) ?_
  refine x_callS (n := 3) (wr := [(h, .inr (7, fs))]) (As := [.int x1, .int 0, .int 1]) (rest := []) hB hV (x_N hB) hl.1 (c_in l D cI cZ cS N0 x1 0 1 ) k_954 k_65 k_952 k_953 (by decide +kernel) ⟨(Nat.le_of_ble_eq_true rfl), (Nat.le_of_ble_eq_true rfl)⟩ rfl (Nat.le_of_ble_eq_true rfl) ⟨(Nat.le_of_ble_eq_true rfl), (Nat.le_of_ble_eq_true rfl)⟩ [] [0] rfl rfl rfl ⟨by decide, by decide, by decide⟩ dX7_free_3 (fun v w H locs hp hV => ?_)
  obtain ⟨r_1, rfl, rfl, f_2⟩ := hp
  have hV : Vx D A s.heap H locs [(h, .inr (7, fs))] := hV
  refine W.eq (g2 := F0 m 6 ls [.int r_1]) rfl ?_
  rcases f_2 with ⟨rfl, hw_3⟩ | ⟨rfl, hw_3⟩
  · refine W.eq (g2 := F0 m 6 ls [.int 1]) rfl ?_
    refine lv_if_ne (tgt := 12) hx hb dX7_free_6 (by decide) (fun c_ => ?_) (fun c_ => absurd c_ (by decide))
    refine lv_aload_n hx hb dX7_free_12 rfl (lv_at hl 0 rfl) ?_
    refine x_get (v := .int 0) hB hV 0 rfl rfl 34 (by decide) k_779 h34 dX7_free_13 ?_
    refine lv_if_eq (tgt := 23) hx hb dX7_free_16 (by decide) (fun c_ => ?_) (fun c_ => absurd (by decide) c_)
    refine lv_iconst (v := 0) hx hb dX7_free_23 (by decide) ?_
    refine lv_istore_n (lv' := [(2, .int 0), (0, .ref h), (1, .int x1)]) hx hb dX7_free_24 rfl hl (by decide) rfl (fun ls hl => ?_)
    refine lv_aload_n hx hb dX7_free_25 rfl (lv_at hl 1 rfl) ?_
    refine lv_iload_n hx hb dX7_free_26 rfl (lv_at hl 2 rfl) ?_
    refine lv_iconst (v := 1) hx hb dX7_free_27 (by decide) ?_
    refine lv_icmp_ne (tgt := 35) hx hb dX7_free_28 (by decide) (fun c5 => ?_) (fun c5 => ?_)
    · refine lv_iconst (v := 0) hx hb dX7_free_35 (by decide) ?_
      refine x_put (v := .int 0) hB hV 0 rfl rfl 34 (by decide) k_779 rfl rfl rfl (fs_lt h34) dX7_free_36 (fun H locs hV => ?_)
      have hV : Vx D A s.heap H locs [(h, .inr (7, (fs.set 34 (.int 0))))] := hV
      refine lv_iload_n hx hb dX7_free_39 rfl (lv_at hl 0 rfl) ?_
      exact x_iret (w := []) hB hr hV hA (Nat.le_of_ble_eq_true rfl) (Nat.le_of_ble_eq_true rfl) [] rfl rfl (by decide) dX7_free_40 ⟨0, rfl, rfl, (if_neg hw_3).symm⟩
    · refine lv_iconst (v := 1) hx hb dX7_free_31 (by decide) ?_
      refine lv_goto (tgt := 36) hx hb dX7_free_32 (by decide) ?_
      refine x_put (v := .int 1) hB hV 0 rfl rfl 34 (by decide) k_779 rfl rfl rfl (fs_lt h34) dX7_free_36 (fun H locs hV => ?_)
      have hV : Vx D A s.heap H locs [(h, .inr (7, (fs.set 34 (.int 1))))] := hV
      refine lv_iload_n hx hb dX7_free_39 rfl (lv_at hl 0 rfl) ?_
      exact x_iret (w := []) hB hr hV hA (Nat.le_of_ble_eq_true rfl) (Nat.le_of_ble_eq_true rfl) [] rfl rfl (by decide) dX7_free_40 ⟨0, rfl, rfl, (if_neg hw_3).symm⟩
  · refine W.eq (g2 := F0 m 6 ls [.int 0]) rfl ?_
    refine lv_if_ne (tgt := 12) hx hb dX7_free_6 (by decide) (fun c_ => absurd (by decide) c_) (fun c_ => ?_)
    refine lv_bipush (v := (-2)) hx hb dX7_free_9 (by decide) ?_
    exact x_iret (w := []) hB hr hV hA (Nat.le_of_ble_eq_true rfl) (Nat.le_of_ble_eq_true rfl) [] rfl rfl (by decide) dX7_free_11 ⟨(-2), rfl, rfl, (if_pos hw_3).symm⟩
set_option maxHeartbeats 4000000 in
set_option maxRecDepth 100000 in
theorem m_safe (l : Launch) (D : va_G) (cI cZ cS : ClassId) (N0 : NT) (h : Nat) (fs : List Value) (x1 : Int32) (x2 : Int32) (x3 : Int32) (h30 : fs[30]? = some (.int 0)) : Mx l D cI cZ cS N0 yX7_safe cX7_safe 4 (some .int) 1 0 0 [.ref h, .int x1, .int x2, .int x3] [(h, .inr (7, fs))] (fun v w => v = some (.int (-1)) ∧ w = ([] : va_W)) := by
  refine x_enter (by decide) (Nat.le_of_ble_eq_true rfl) ?_
  intro p e s m args below meth c A ls H locs hB hr hin hl hV hA
  have hx := hB.1
  have hb := hB.2.1
  have hl : lv_has ls 4 [(0, .ref h), (1, .int x1), (2, .int x2), (3, .int x3)] := hl
  refine lv_iload_n hx hb dX7_safe_0 rfl (lv_at hl 1 rfl) ?_
  refine lv_iconst (v := 0) hx hb dX7_safe_1 (by decide) ?_
  refine lv_aload_n hx hb dX7_safe_2 rfl (lv_at hl 0 rfl) ?_
  refine x_get (v := .int 0) hB hV 0 rfl rfl 30 (by decide) k_775 h30 dX7_safe_3 ?_
  refine lv_iconst (v := 1) hx hb dX7_safe_6 (by decide) ?_
  refine lv_isub hx hb dX7_safe_7 ?_
  refine x_ev (y := (-1)) (by decide) ?_
  refine x_callS (n := 3) (wr := [(h, .inr (7, fs))]) (As := [.int x1, .int 0, .int (-1)]) (rest := []) hB hV (x_N hB) hl.1 (c_in_m1 l D cI cZ cS N0 x1 ) k_954 k_65 k_952 k_953 (by decide +kernel) ⟨(Nat.le_of_ble_eq_true rfl), (Nat.le_of_ble_eq_true rfl)⟩ rfl (Nat.le_of_ble_eq_true rfl) ⟨(Nat.le_of_ble_eq_true rfl), (Nat.le_of_ble_eq_true rfl)⟩ [] [0] rfl rfl rfl ⟨by decide, by decide, by decide⟩ dX7_safe_8 (fun v w H locs hp hV => ?_)
  obtain ⟨rfl, rfl⟩ := hp
  have hV : Vx D A s.heap H locs [(h, .inr (7, fs))] := hV
  refine W.eq (g2 := F0 m 11 ls [.int 0]) rfl ?_
  refine lv_if_ne (tgt := 16) hx hb dX7_safe_11 (by decide) (fun c_ => absurd (by decide) c_) (fun c_ => ?_)
  refine lv_iconst (v := (-1)) hx hb dX7_safe_14 (by decide) ?_
  exact x_iret (w := []) hB hr hV hA (Nat.le_of_ble_eq_true rfl) (Nat.le_of_ble_eq_true rfl) [] rfl rfl (by decide) dX7_safe_15 ⟨rfl, rfl⟩
set_option maxHeartbeats 4000000 in
set_option maxRecDepth 100000 in
theorem m_orders (l : Launch) (D : va_G) (cI cZ cS : ClassId) (N0 : NT) (h : Nat) (fs : List Value) (x1 : Int32) (x2 : Int32) (h30 : fs[30]? = some (.int 0)) : Mx l D cI cZ cS N0 yX7_orders cX7_orders 7 (some .int) 1 0 0 [.ref h, .int x1, .int x2] [(h, .inr (7, fs))] (fun v w => v = some (.int (-1)) ∧ w = ([] : va_W)) := by
  refine x_enter (by decide) (Nat.le_of_ble_eq_true rfl) ?_
  intro p e s m args below meth c A ls H locs hB hr hin hl hV hA
  have hx := hB.1
  have hb := hB.2.1
  have hl : lv_has ls 7 [(0, .ref h), (1, .int x1), (2, .int x2)] := hl
  refine lv_iload_n hx hb dX7_orders_0 rfl (lv_at hl 1 rfl) ?_
  refine lv_iconst (v := 0) hx hb dX7_orders_1 (by decide) ?_
  refine lv_aload_n hx hb dX7_orders_2 rfl (lv_at hl 0 rfl) ?_
  refine x_get (v := .int 0) hB hV 0 rfl rfl 30 (by decide) k_775 h30 dX7_orders_3 ?_
  refine lv_iconst (v := 1) hx hb dX7_orders_6 (by decide) ?_
  refine lv_isub hx hb dX7_orders_7 ?_
  refine x_ev (y := (-1)) (by decide) ?_
  refine x_callS (n := 3) (wr := [(h, .inr (7, fs))]) (As := [.int x1, .int 0, .int (-1)]) (rest := []) hB hV (x_N hB) hl.1 (c_in_m1 l D cI cZ cS N0 x1 ) k_954 k_65 k_952 k_953 (by decide +kernel) ⟨(Nat.le_of_ble_eq_true rfl), (Nat.le_of_ble_eq_true rfl)⟩ rfl (Nat.le_of_ble_eq_true rfl) ⟨(Nat.le_of_ble_eq_true rfl), (Nat.le_of_ble_eq_true rfl)⟩ [] [0] rfl rfl rfl ⟨by decide, by decide, by decide⟩ dX7_orders_8 (fun v w H locs hp hV => ?_)
  obtain ⟨rfl, rfl⟩ := hp
  have hV : Vx D A s.heap H locs [(h, .inr (7, fs))] := hV
  refine W.eq (g2 := F0 m 11 ls [.int 0]) rfl ?_
  refine lv_if_eq (tgt := 23) hx hb dX7_orders_11 (by decide) (fun c_ => ?_) (fun c_ => absurd (by decide) c_)
  refine lv_iconst (v := (-1)) hx hb dX7_orders_23 (by decide) ?_
  exact x_iret (w := []) hB hr hV hA (Nat.le_of_ble_eq_true rfl) (Nat.le_of_ble_eq_true rfl) [] rfl rfl (by decide) dX7_orders_24 ⟨rfl, rfl⟩
set_option maxHeartbeats 4000000 in
set_option maxRecDepth 100000 in
theorem m_log (l : Launch) (D : va_G) (cI cZ cS : ClassId) (N0 : NT) (h : Nat) (fs : List Value) (x1 : Int32) (x2 : Int32) (h24 : fs[24]? = some (.int 0)) : Mx l D cI cZ cS N0 yX7_log cX7_log 3 (some .int) 1 0 0 [.ref h, .int x1, .int x2] [(h, .inr (7, fs))] (fun v w => v = some (.int (-1)) ∧ w = ([] : va_W)) := by
  refine x_enter (by decide) (Nat.le_of_ble_eq_true rfl) ?_
  intro p e s m args below meth c A ls H locs hB hr hin hl hV hA
  have hx := hB.1
  have hb := hB.2.1
  have hl : lv_has ls 3 [(0, .ref h), (1, .int x1), (2, .int x2)] := hl
  refine lv_iload_n hx hb dX7_log_0 rfl (lv_at hl 1 rfl) ?_
  refine lv_iconst (v := 0) hx hb dX7_log_1 (by decide) ?_
  refine lv_aload_n hx hb dX7_log_2 rfl (lv_at hl 0 rfl) ?_
  refine x_get (v := .int 0) hB hV 0 rfl rfl 24 (by decide) k_769 h24 dX7_log_3 ?_
  refine lv_iconst (v := 1) hx hb dX7_log_6 (by decide) ?_
  refine lv_isub hx hb dX7_log_7 ?_
  refine x_ev (y := (-1)) (by decide) ?_
  refine x_callS (n := 3) (wr := [(h, .inr (7, fs))]) (As := [.int x1, .int 0, .int (-1)]) (rest := []) hB hV (x_N hB) hl.1 (c_in_m1 l D cI cZ cS N0 x1 ) k_954 k_65 k_952 k_953 (by decide +kernel) ⟨(Nat.le_of_ble_eq_true rfl), (Nat.le_of_ble_eq_true rfl)⟩ rfl (Nat.le_of_ble_eq_true rfl) ⟨(Nat.le_of_ble_eq_true rfl), (Nat.le_of_ble_eq_true rfl)⟩ [] [0] rfl rfl rfl ⟨by decide, by decide, by decide⟩ dX7_log_8 (fun v w H locs hp hV => ?_)
  obtain ⟨rfl, rfl⟩ := hp
  have hV : Vx D A s.heap H locs [(h, .inr (7, fs))] := hV
  refine W.eq (g2 := F0 m 11 ls [.int 0]) rfl ?_
  refine lv_if_ne (tgt := 16) hx hb dX7_log_11 (by decide) (fun c_ => absurd (by decide) c_) (fun c_ => ?_)
  refine lv_iconst (v := (-1)) hx hb dX7_log_14 (by decide) ?_
  exact x_iret (w := []) hB hr hV hA (Nat.le_of_ble_eq_true rfl) (Nat.le_of_ble_eq_true rfl) [] rfl rfl (by decide) dX7_log_15 ⟨rfl, rfl⟩
set_option maxHeartbeats 4000000 in
set_option maxRecDepth 100000 in
theorem m_price (l : Launch) (D : va_G) (cI cZ cS : ClassId) (N0 : NT) (h : Nat) (fs : List Value) (q_price : Nat) (x1 : Int32) (x2 : Int32) (h35 : fs[35]? = some (.ref q_price)) : Mx l D cI cZ cS N0 yX7_price cX7_price 4 (some .int) 1 0 0 [.ref h, .int x1, .int x2] [(h, .inr (7, fs)), (q_price, .inl (cI, 4, .inl (upd (upd (upd (upd (fun _ => 0) 0 1) 1 1) 2 1) 3 1)))] (fun v w => ∃ (r : Int32), v = some (.int r) ∧ w = ([] : va_W) ∧ (r = sp_price x1 x2)) := by
  refine x_enter (by decide) (Nat.le_of_ble_eq_true rfl) ?_
  intro p e s m args below meth c A ls H locs hB hr hin hl hV hA
  have hx := hB.1
  have hb := hB.2.1
  have hl : lv_has ls 4 [(0, .ref h), (1, .int x1), (2, .int x2)] := hl
  refine lv_iload_n hx hb dX7_price_0 rfl (lv_at hl 1 rfl) ?_
  refine lv_iconst (v := 0) hx hb dX7_price_1 (by decide) ?_
  refine lv_iconst (v := 3) hx hb dX7_price_2 (by decide) ?_
  refine x_callS (n := 3) (wr := [(h, .inr (7, fs)), (q_price, .inl (cI, 4, .inl (upd (upd (upd (upd (fun _ => 0) 0 1) 1 1) 2 1) 3 1)))]) (As := [.int x1, .int 0, .int 3]) (rest := []) hB hV (x_N hB) hl.1 (c_in l D cI cZ cS N0 x1 0 3 ) k_954 k_65 k_952 k_953 (by decide +kernel) ⟨(Nat.le_of_ble_eq_true rfl), (Nat.le_of_ble_eq_true rfl)⟩ rfl (Nat.le_of_ble_eq_true rfl) ⟨(Nat.le_of_ble_eq_true rfl), (Nat.le_of_ble_eq_true rfl)⟩ [] [0, 1] rfl rfl rfl ⟨by decide, by decide, by decide⟩ dX7_price_3 (fun v w H locs hp hV => ?_)
  obtain ⟨r_1, rfl, rfl, f_2⟩ := hp
  have hV : Vx D A s.heap H locs [(h, .inr (7, fs)), (q_price, .inl (cI, 4, .inl (upd (upd (upd (upd (fun _ => 0) 0 1) 1 1) 2 1) 3 1)))] := hV
  refine W.eq (g2 := F0 m 6 ls [.int r_1]) rfl ?_
  rcases f_2 with ⟨rfl, hw_3⟩ | ⟨rfl, hw_3⟩
  · refine W.eq (g2 := F0 m 6 ls [.int 1]) rfl ?_
    refine lv_if_ne (tgt := 11) hx hb dX7_price_6 (by decide) (fun c_ => ?_) (fun c_ => absurd c_ (by decide))
    refine lv_iload_n hx hb dX7_price_11 rfl (lv_at hl 2 rfl) ?_
    refine lv_iconst (v := 0) hx hb dX7_price_12 (by decide) ?_
    refine lv_bipush (v := 99) hx hb dX7_price_13 (by decide) ?_
    refine x_callS (n := 3) (wr := [(h, .inr (7, fs)), (q_price, .inl (cI, 4, .inl (upd (upd (upd (upd (fun _ => 0) 0 1) 1 1) 2 1) 3 1)))]) (As := [.int x2, .int 0, .int 99]) (rest := []) hB hV (x_N hB) hl.1 (c_in l D cI cZ cS N0 x2 0 99 ) k_954 k_65 k_952 k_953 (by decide +kernel) ⟨(Nat.le_of_ble_eq_true rfl), (Nat.le_of_ble_eq_true rfl)⟩ rfl (Nat.le_of_ble_eq_true rfl) ⟨(Nat.le_of_ble_eq_true rfl), (Nat.le_of_ble_eq_true rfl)⟩ [] [0, 1] rfl rfl rfl ⟨by decide, by decide, by decide⟩ dX7_price_15 (fun v w H locs hp hV => ?_)
    obtain ⟨r_4, rfl, rfl, f_5⟩ := hp
    have hV : Vx D A s.heap H locs [(h, .inr (7, fs)), (q_price, .inl (cI, 4, .inl (upd (upd (upd (upd (fun _ => 0) 0 1) 1 1) 2 1) 3 1)))] := hV
    refine W.eq (g2 := F0 m 18 ls [.int r_4]) rfl ?_
    rcases f_5 with ⟨rfl, hw_6⟩ | ⟨rfl, hw_6⟩
    · refine W.eq (g2 := F0 m 18 ls [.int 1]) rfl ?_
      refine lv_if_ne (tgt := 24) hx hb dX7_price_18 (by decide) (fun c_ => ?_) (fun c_ => absurd c_ (by decide))
      obtain ⟨j, hj, rfl⟩ := sw_in (n := 4) rfl hw_3
      refine lv_aload_n hx hb dX7_price_24 rfl (lv_at hl 0 rfl) ?_
      refine x_get (v := .ref q_price) hB hV 0 rfl rfl 35 (by decide) k_780 h35 dX7_price_25 ?_
      refine lv_iload_n hx hb dX7_price_28 rfl (lv_at hl 1 rfl) ?_
      refine x_iald (v := 1) hB hV 1 rfl (vp_in_nI (by omega) (by decide)) (pr_one hj) dX7_price_29 ?_
      refine lv_istore_n (lv' := [(3, .int 1), (0, .ref h), (1, .int (nI j)), (2, .int x2)]) hx hb dX7_price_30 rfl hl (by decide) rfl (fun ls hl => ?_)
      refine lv_aload_n hx hb dX7_price_31 rfl (lv_at hl 1 rfl) ?_
      refine x_get (v := .ref q_price) hB hV 0 rfl rfl 35 (by decide) k_780 h35 dX7_price_32 ?_
      refine lv_iload_n hx hb dX7_price_35 rfl (lv_at hl 2 rfl) ?_
      refine lv_iload_n hx hb dX7_price_36 rfl (lv_at hl 3 rfl) ?_
      refine x_iast (g := (upd (upd (upd (upd (upd (fun _ => 0) 0 1) 1 1) 2 1) 3 1) (nI j).toNatClampNeg x2)) hB hV 1 rfl (vp_in_nI (by omega) (by decide)) rfl dX7_price_37 (fun H locs hV => ?_)
      have hV : Vx D A s.heap H locs [(h, .inr (7, fs)), (q_price, .inl (cI, 4, .inl (upd (upd (upd (upd (upd (fun _ => 0) 0 1) 1 1) 2 1) 3 1) (nI j).toNatClampNeg x2)))] := hV
      refine lv_iload_n hx hb dX7_price_38 rfl (lv_at hl 0 rfl) ?_
      exact x_iret (w := []) hB hr hV hA (Nat.le_of_ble_eq_true rfl) (Nat.le_of_ble_eq_true rfl) [] rfl rfl (by decide) dX7_price_39 ⟨1, rfl, rfl, ((if_neg hw_3).trans (if_neg hw_6)).symm⟩
    · refine W.eq (g2 := F0 m 18 ls [.int 0]) rfl ?_
      refine lv_if_ne (tgt := 24) hx hb dX7_price_18 (by decide) (fun c_ => absurd (by decide) c_) (fun c_ => ?_)
      refine lv_bipush (v := (-2)) hx hb dX7_price_21 (by decide) ?_
      exact x_iret (w := []) hB hr hV hA (Nat.le_of_ble_eq_true rfl) (Nat.le_of_ble_eq_true rfl) [] rfl rfl (by decide) dX7_price_23 ⟨(-2), rfl, rfl, ((if_neg hw_3).trans (if_pos hw_6)).symm⟩
  · refine W.eq (g2 := F0 m 6 ls [.int 0]) rfl ?_
    refine lv_if_ne (tgt := 11) hx hb dX7_price_6 (by decide) (fun c_ => absurd (by decide) c_) (fun c_ => ?_)
    refine lv_iconst (v := (-1)) hx hb dX7_price_9 (by decide) ?_
    exact x_iret (w := []) hB hr hV hA (Nat.le_of_ble_eq_true rfl) (Nat.le_of_ble_eq_true rfl) [] rfl rfl (by decide) dX7_price_10 ⟨(-1), rfl, rfl, (if_pos hw_3).symm⟩
set_option maxHeartbeats 4000000 in
set_option maxRecDepth 100000 in
theorem m_count (l : Launch) (D : va_G) (cI cZ cS : ClassId) (N0 : NT) (h : Nat) (fs : List Value) (q_tick : Nat) (x1 : Int32) (h0 : fs[0]? = some (.int 0)) (h30 : fs[30]? = some (.int 0)) (h22 : fs[22]? = some (.int 0)) (h24 : fs[24]? = some (.int 0)) (h29 : fs[29]? = some (.int 0)) (h14 : fs[14]? = some (.ref q_tick)) : Mx l D cI cZ cS N0 yX7_count cX7_count 2 (some .int) 1 0 0 [.ref h, .int x1] [(h, .inr (7, fs)), (q_tick, .inl (cI, 2, .inl (fun _ => 0)))] (fun v w => ∃ (r : Int32), v = some (.int r) ∧ w = ([] : va_W) ∧ (r = sp_count x1)) := by
  refine x_enter (by decide) (Nat.le_of_ble_eq_true rfl) ?_
  intro p e s m args below meth c A ls H locs hB hr hin hl hV hA
  have hx := hB.1
  have hb := hB.2.1
  have hl : lv_has ls 2 [(0, .ref h), (1, .int x1)] := hl
  refine lv_iload_n hx hb dX7_count_0 rfl (lv_at hl 1 rfl) ?_
  by_cases ht_1 : (x1 < 0 ∨ 5 < x1)
  · refine lv_tableOut (tgt := 72) hx hb dX7_count_1 (sw_out ht_1) (by decide) ?_
    refine lv_iconst (v := (-1)) hx hb dX7_count_72 (by decide) ?_
    exact x_iret (w := []) hB hr hV hA (Nat.le_of_ble_eq_true rfl) (Nat.le_of_ble_eq_true rfl) [] rfl rfl (by decide) dX7_count_73 ⟨(-1), rfl, rfl, (if_pos ht_1).symm⟩
  · obtain ⟨j_2, hj_2, ej_2⟩ := sw_in (n := 6) rfl ht_1
    rcases (show j_2 = 0 ∨ j_2 = 1 ∨ j_2 = 2 ∨ j_2 = 3 ∨ j_2 = 4 ∨ j_2 = 5 by omega) with rfl | rfl | rfl | rfl | rfl | rfl
    · refine x_ev (y := 0) ej_2 ?_
      refine lv_tableIn (off := 39) (tgt := 40) hx hb dX7_count_1 (by decide) (by decide) rfl (by decide) ?_
      refine lv_aload_n hx hb dX7_count_40 rfl (lv_at hl 0 rfl) ?_
      refine x_get (v := .int 0) hB hV 0 rfl rfl 0 (by decide) k_745 h0 dX7_count_41 ?_
      exact x_iret (w := []) hB hr hV hA (Nat.le_of_ble_eq_true rfl) (Nat.le_of_ble_eq_true rfl) [] rfl rfl (by decide) dX7_count_44 ⟨0, rfl, rfl, (if_neg ht_1).symm⟩
    · refine x_ev (y := 1) ej_2 ?_
      refine lv_tableIn (off := 44) (tgt := 45) hx hb dX7_count_1 (by decide) (by decide) rfl (by decide) ?_
      refine lv_aload_n hx hb dX7_count_45 rfl (lv_at hl 0 rfl) ?_
      refine x_get (v := .int 0) hB hV 0 rfl rfl 30 (by decide) k_775 h30 dX7_count_46 ?_
      exact x_iret (w := []) hB hr hV hA (Nat.le_of_ble_eq_true rfl) (Nat.le_of_ble_eq_true rfl) [] rfl rfl (by decide) dX7_count_49 ⟨0, rfl, rfl, (if_neg ht_1).symm⟩
    · refine x_ev (y := 2) ej_2 ?_
      refine lv_tableIn (off := 49) (tgt := 50) hx hb dX7_count_1 (by decide) (by decide) rfl (by decide) ?_
      refine lv_aload_n hx hb dX7_count_50 rfl (lv_at hl 0 rfl) ?_
      refine x_get (v := .int 0) hB hV 0 rfl rfl 22 (by decide) k_767 h22 dX7_count_51 ?_
      exact x_iret (w := []) hB hr hV hA (Nat.le_of_ble_eq_true rfl) (Nat.le_of_ble_eq_true rfl) [] rfl rfl (by decide) dX7_count_54 ⟨0, rfl, rfl, (if_neg ht_1).symm⟩
    · refine x_ev (y := 3) ej_2 ?_
      refine lv_tableIn (off := 54) (tgt := 55) hx hb dX7_count_1 (by decide) (by decide) rfl (by decide) ?_
      refine lv_aload_n hx hb dX7_count_55 rfl (lv_at hl 0 rfl) ?_
      refine x_get (v := .ref q_tick) hB hV 0 rfl rfl 14 (by decide) k_759 h14 dX7_count_56 ?_
      refine lv_iconst (v := 0) hx hb dX7_count_59 (by decide) ?_
      refine x_iald (v := 0) hB hV 1 rfl (by unfold vp_in; decide) rfl dX7_count_60 ?_
      exact x_iret (w := []) hB hr hV hA (Nat.le_of_ble_eq_true rfl) (Nat.le_of_ble_eq_true rfl) [] rfl rfl (by decide) dX7_count_61 ⟨0, rfl, rfl, (if_neg ht_1).symm⟩
    · refine x_ev (y := 4) ej_2 ?_
      refine lv_tableIn (off := 61) (tgt := 62) hx hb dX7_count_1 (by decide) (by decide) rfl (by decide) ?_
      refine lv_aload_n hx hb dX7_count_62 rfl (lv_at hl 0 rfl) ?_
      refine x_get (v := .int 0) hB hV 0 rfl rfl 24 (by decide) k_769 h24 dX7_count_63 ?_
      exact x_iret (w := []) hB hr hV hA (Nat.le_of_ble_eq_true rfl) (Nat.le_of_ble_eq_true rfl) [] rfl rfl (by decide) dX7_count_66 ⟨0, rfl, rfl, (if_neg ht_1).symm⟩
    · refine x_ev (y := 5) ej_2 ?_
      refine lv_tableIn (off := 66) (tgt := 67) hx hb dX7_count_1 (by decide) (by decide) rfl (by decide) ?_
      refine lv_aload_n hx hb dX7_count_67 rfl (lv_at hl 0 rfl) ?_
      refine x_get (v := .int 0) hB hV 0 rfl rfl 29 (by decide) k_774 h29 dX7_count_68 ?_
      exact x_iret (w := []) hB hr hV hA (Nat.le_of_ble_eq_true rfl) (Nat.le_of_ble_eq_true rfl) [] rfl rfl (by decide) dX7_count_71 ⟨0, rfl, rfl, (if_neg ht_1).symm⟩
end
