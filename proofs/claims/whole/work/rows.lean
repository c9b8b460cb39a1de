section
/-- a private method of a class that the tables say can be made, by its rows of tables_1 -/
def lw_okq (q : MethodName × Nat) : Prop := (q.1.cls ≠ "java/lang/invoke/MethodHandle" ∧ q.1.cls ≠ "java/lang/invoke/VarHandle") ∧ Cond.instantiable q.1.cls q.2 ∈ tables_1 ∧ Cond.privateMethod q.1 ∈ tables_1 ∧ Cond.instanceMethod q.1 ∈ tables_1
theorem lw_p0 : lw_okq (⟨"StreamWatch$Stream", "emptyWindow", "()V"⟩, 8) := ⟨⟨by decide +kernel, by decide +kernel⟩, List.mem_of_getElem? (i := 93) (by decide +kernel), List.mem_of_getElem? (i := 99) (by decide +kernel), List.mem_of_getElem? (i := 100) (by decide +kernel)⟩
theorem lw_p1 : lw_okq (⟨"StreamWatch$Wire", "ipSum", "()I"⟩, 2) := ⟨⟨by decide +kernel, by decide +kernel⟩, List.mem_of_getElem? (i := 28) (by decide +kernel), List.mem_of_getElem? (i := 290) (by decide +kernel), List.mem_of_getElem? (i := 291) (by decide +kernel)⟩
theorem lw_p2 : lw_okq (⟨"StreamWatch$Wire", "sumOf", "(III)I"⟩, 2) := ⟨⟨by decide +kernel, by decide +kernel⟩, List.mem_of_getElem? (i := 28) (by decide +kernel), List.mem_of_getElem? (i := 294) (by decide +kernel), List.mem_of_getElem? (i := 295) (by decide +kernel)⟩
theorem lw_p3 : lw_okq (⟨"StreamWatch$Wire", "tcpWords", "()I"⟩, 2) := ⟨⟨by decide +kernel, by decide +kernel⟩, List.mem_of_getElem? (i := 28) (by decide +kernel), List.mem_of_getElem? (i := 302) (by decide +kernel), List.mem_of_getElem? (i := 303) (by decide +kernel)⟩
theorem lw_p4 : lw_okq (⟨"StreamWatch$Wire", "tcpSum", "()I"⟩, 2) := ⟨⟨by decide +kernel, by decide +kernel⟩, List.mem_of_getElem? (i := 28) (by decide +kernel), List.mem_of_getElem? (i := 310) (by decide +kernel), List.mem_of_getElem? (i := 311) (by decide +kernel)⟩
theorem lw_p5 : lw_okq (⟨"StreamWatch$Wire", "setPair", "(II)V"⟩, 2) := ⟨⟨by decide +kernel, by decide +kernel⟩, List.mem_of_getElem? (i := 28) (by decide +kernel), List.mem_of_getElem? (i := 318) (by decide +kernel), List.mem_of_getElem? (i := 319) (by decide +kernel)⟩
theorem lw_p6 : lw_okq (⟨"StreamWatch", "flowOfPacket", "()LStreamWatch$Flow;"⟩, 8) := ⟨⟨by decide +kernel, by decide +kernel⟩, List.mem_of_getElem? (i := 20) (by decide +kernel), List.mem_of_getElem? (i := 353) (by decide +kernel), List.mem_of_getElem? (i := 354) (by decide +kernel)⟩
theorem lw_p7 : lw_okq (⟨"StreamWatch$Flow", "isClient", "(II)Z"⟩, 8) := ⟨⟨by decide +kernel, by decide +kernel⟩, List.mem_of_getElem? (i := 87) (by decide +kernel), List.mem_of_getElem? (i := 373) (by decide +kernel), List.mem_of_getElem? (i := 374) (by decide +kernel)⟩
theorem lw_p8 : lw_okq (⟨"StreamWatch$Flow", "isServer", "(II)Z"⟩, 8) := ⟨⟨by decide +kernel, by decide +kernel⟩, List.mem_of_getElem? (i := 87) (by decide +kernel), List.mem_of_getElem? (i := 377) (by decide +kernel), List.mem_of_getElem? (i := 378) (by decide +kernel)⟩
theorem lw_p9 : lw_okq (⟨"StreamWatch", "receive", "(LStreamWatch$Flow;I)V"⟩, 8) := ⟨⟨by decide +kernel, by decide +kernel⟩, List.mem_of_getElem? (i := 20) (by decide +kernel), List.mem_of_getElem? (i := 407) (by decide +kernel), List.mem_of_getElem? (i := 408) (by decide +kernel)⟩
theorem lw_p10 : lw_okq (⟨"StreamWatch", "holdData", "(LStreamWatch$Stream;)V"⟩, 8) := ⟨⟨by decide +kernel, by decide +kernel⟩, List.mem_of_getElem? (i := 20) (by decide +kernel), List.mem_of_getElem? (i := 419) (by decide +kernel), List.mem_of_getElem? (i := 420) (by decide +kernel)⟩
theorem lw_p11 : lw_okq (⟨"StreamWatch", "raiseAlerts", "(LStreamWatch$Flow;LStreamWatch$Stream;I)V"⟩, 8) := ⟨⟨by decide +kernel, by decide +kernel⟩, List.mem_of_getElem? (i := 20) (by decide +kernel), List.mem_of_getElem? (i := 438) (by decide +kernel), List.mem_of_getElem? (i := 439) (by decide +kernel)⟩
theorem lw_p12 : lw_okq (⟨"StreamWatch", "ruleAt", "(I)LStreamWatch$Rule;"⟩, 8) := ⟨⟨by decide +kernel, by decide +kernel⟩, List.mem_of_getElem? (i := 20) (by decide +kernel), List.mem_of_getElem? (i := 442) (by decide +kernel), List.mem_of_getElem? (i := 443) (by decide +kernel)⟩
theorem lw_p13 : lw_okq (⟨"StreamWatch$Search", "find", "(LStreamWatch$Option;LStreamWatch$Stream;)V"⟩, 2) := ⟨⟨by decide +kernel, by decide +kernel⟩, List.mem_of_getElem? (i := 167) (by decide +kernel), List.mem_of_getElem? (i := 482) (by decide +kernel), List.mem_of_getElem? (i := 483) (by decide +kernel)⟩
theorem lw_p14 : lw_okq (⟨"StreamWatch$Option", "folded", "(I)I"⟩, 7) := ⟨⟨by decide +kernel, by decide +kernel⟩, List.mem_of_getElem? (i := 497) (by decide +kernel), List.mem_of_getElem? (i := 495) (by decide +kernel), List.mem_of_getElem? (i := 496) (by decide +kernel)⟩
theorem lw_p15 : lw_okq (⟨"StreamWatch$Search", "dropBases", "(LStreamWatch$Option;I)V"⟩, 2) := ⟨⟨by decide +kernel, by decide +kernel⟩, List.mem_of_getElem? (i := 167) (by decide +kernel), List.mem_of_getElem? (i := 502) (by decide +kernel), List.mem_of_getElem? (i := 503) (by decide +kernel)⟩
def lw_privs_1 : List (MethodName × Nat) := [(⟨"StreamWatch$Stream", "emptyWindow", "()V"⟩, 8), (⟨"StreamWatch$Wire", "ipSum", "()I"⟩, 2), (⟨"StreamWatch$Wire", "sumOf", "(III)I"⟩, 2), (⟨"StreamWatch$Wire", "tcpWords", "()I"⟩, 2), (⟨"StreamWatch$Wire", "tcpSum", "()I"⟩, 2), (⟨"StreamWatch$Wire", "setPair", "(II)V"⟩, 2), (⟨"StreamWatch", "flowOfPacket", "()LStreamWatch$Flow;"⟩, 8), (⟨"StreamWatch$Flow", "isClient", "(II)Z"⟩, 8), (⟨"StreamWatch$Flow", "isServer", "(II)Z"⟩, 8), (⟨"StreamWatch", "receive", "(LStreamWatch$Flow;I)V"⟩, 8), (⟨"StreamWatch", "holdData", "(LStreamWatch$Stream;)V"⟩, 8), (⟨"StreamWatch", "raiseAlerts", "(LStreamWatch$Flow;LStreamWatch$Stream;I)V"⟩, 8), (⟨"StreamWatch", "ruleAt", "(I)LStreamWatch$Rule;"⟩, 8), (⟨"StreamWatch$Search", "find", "(LStreamWatch$Option;LStreamWatch$Stream;)V"⟩, 2), (⟨"StreamWatch$Option", "folded", "(I)I"⟩, 7), (⟨"StreamWatch$Search", "dropBases", "(LStreamWatch$Option;I)V"⟩, 2)]
theorem lw_r1 : ∀ q ∈ lw_privs_1, lw_okq q := List.forall_mem_cons.mpr ⟨lw_p0, List.forall_mem_cons.mpr ⟨lw_p1, List.forall_mem_cons.mpr ⟨lw_p2, List.forall_mem_cons.mpr ⟨lw_p3, List.forall_mem_cons.mpr ⟨lw_p4, List.forall_mem_cons.mpr ⟨lw_p5, List.forall_mem_cons.mpr ⟨lw_p6, List.forall_mem_cons.mpr ⟨lw_p7, List.forall_mem_cons.mpr ⟨lw_p8, List.forall_mem_cons.mpr ⟨lw_p9, List.forall_mem_cons.mpr ⟨lw_p10, List.forall_mem_cons.mpr ⟨lw_p11, List.forall_mem_cons.mpr ⟨lw_p12, List.forall_mem_cons.mpr ⟨lw_p13, List.forall_mem_cons.mpr ⟨lw_p14, List.forall_mem_cons.mpr ⟨lw_p15, fun _ h => absurd h List.not_mem_nil⟩⟩⟩⟩⟩⟩⟩⟩⟩⟩⟩⟩⟩⟩⟩⟩
theorem lw_p16 : lw_okq (⟨"StreamWatch$Search", "moveBases", "(LStreamWatch$Option;I)V"⟩, 2) := ⟨⟨by decide +kernel, by decide +kernel⟩, List.mem_of_getElem? (i := 167) (by decide +kernel), List.mem_of_getElem? (i := 516) (by decide +kernel), List.mem_of_getElem? (i := 517) (by decide +kernel)⟩
theorem lw_p17 : lw_okq (⟨"StreamWatch", "streamAt", "(II)LStreamWatch$Stream;"⟩, 8) := ⟨⟨by decide +kernel, by decide +kernel⟩, List.mem_of_getElem? (i := 20) (by decide +kernel), List.mem_of_getElem? (i := 563) (by decide +kernel), List.mem_of_getElem? (i := 564) (by decide +kernel)⟩
theorem lw_p18 : lw_okq (⟨"java/lang/Throwable", "fillInStackTrace", "(I)Ljava/lang/Throwable;"⟩, 6) := ⟨⟨by decide +kernel, by decide +kernel⟩, List.mem_of_getElem? (i := 638) (by decide +kernel), List.mem_of_getElem? (i := 636) (by decide +kernel), List.mem_of_getElem? (i := 637) (by decide +kernel)⟩
theorem lw_p19 : lw_okq (⟨"StreamWatch", "writeIpHeader", "(III)V"⟩, 8) := ⟨⟨by decide +kernel, by decide +kernel⟩, List.mem_of_getElem? (i := 20) (by decide +kernel), List.mem_of_getElem? (i := 670) (by decide +kernel), List.mem_of_getElem? (i := 671) (by decide +kernel)⟩
theorem lw_p20 : lw_okq (⟨"StreamWatch", "writeTcpHeader", "(IIII)V"⟩, 8) := ⟨⟨by decide +kernel, by decide +kernel⟩, List.mem_of_getElem? (i := 20) (by decide +kernel), List.mem_of_getElem? (i := 678) (by decide +kernel), List.mem_of_getElem? (i := 679) (by decide +kernel)⟩
theorem lw_p21 : lw_okq (⟨"StreamWatchModel", "addNumber", "(II)V"⟩, 33) := ⟨⟨by decide +kernel, by decide +kernel⟩, List.mem_of_getElem? (i := 780) (by decide +kernel), List.mem_of_getElem? (i := 896) (by decide +kernel), List.mem_of_getElem? (i := 897) (by decide +kernel)⟩
theorem lw_p22 : lw_okq (⟨"StreamWatchModel", "add", "(I)V"⟩, 33) := ⟨⟨by decide +kernel, by decide +kernel⟩, List.mem_of_getElem? (i := 780) (by decide +kernel), List.mem_of_getElem? (i := 900) (by decide +kernel), List.mem_of_getElem? (i := 901) (by decide +kernel)⟩
theorem lw_p23 : lw_okq (⟨"StreamWatchModel", "close", "()V"⟩, 33) := ⟨⟨by decide +kernel, by decide +kernel⟩, List.mem_of_getElem? (i := 780) (by decide +kernel), List.mem_of_getElem? (i := 904) (by decide +kernel), List.mem_of_getElem? (i := 905) (by decide +kernel)⟩
theorem lw_p24 : lw_okq (⟨"StreamWatchModel", "headerSum", "()I"⟩, 33) := ⟨⟨by decide +kernel, by decide +kernel⟩, List.mem_of_getElem? (i := 780) (by decide +kernel), List.mem_of_getElem? (i := 909) (by decide +kernel), List.mem_of_getElem? (i := 910) (by decide +kernel)⟩
theorem lw_p25 : lw_okq (⟨"StreamWatchModel", "headerSize", "()I"⟩, 33) := ⟨⟨by decide +kernel, by decide +kernel⟩, List.mem_of_getElem? (i := 780) (by decide +kernel), List.mem_of_getElem? (i := 913) (by decide +kernel), List.mem_of_getElem? (i := 914) (by decide +kernel)⟩
theorem lw_p26 : lw_okq (⟨"StreamWatchModel", "total", "(II)I"⟩, 33) := ⟨⟨by decide +kernel, by decide +kernel⟩, List.mem_of_getElem? (i := 780) (by decide +kernel), List.mem_of_getElem? (i := 917) (by decide +kernel), List.mem_of_getElem? (i := 918) (by decide +kernel)⟩
theorem lw_p27 : lw_okq (⟨"StreamWatchModel", "partSum", "()I"⟩, 33) := ⟨⟨by decide +kernel, by decide +kernel⟩, List.mem_of_getElem? (i := 780) (by decide +kernel), List.mem_of_getElem? (i := 924) (by decide +kernel), List.mem_of_getElem? (i := 925) (by decide +kernel)⟩
theorem lw_p28 : lw_okq (⟨"StreamWatchModel", "pair", "(I)I"⟩, 33) := ⟨⟨by decide +kernel, by decide +kernel⟩, List.mem_of_getElem? (i := 780) (by decide +kernel), List.mem_of_getElem? (i := 928) (by decide +kernel), List.mem_of_getElem? (i := 929) (by decide +kernel)⟩
theorem lw_p29 : lw_okq (⟨"StreamWatchModel", "reason", "(Z)I"⟩, 33) := ⟨⟨by decide +kernel, by decide +kernel⟩, List.mem_of_getElem? (i := 780) (by decide +kernel), List.mem_of_getElem? (i := 952) (by decide +kernel), List.mem_of_getElem? (i := 953) (by decide +kernel)⟩
theorem lw_p30 : lw_okq (⟨"StreamWatchModel", "find", "(I)I"⟩, 33) := ⟨⟨by decide +kernel, by decide +kernel⟩, List.mem_of_getElem? (i := 780) (by decide +kernel), List.mem_of_getElem? (i := 968) (by decide +kernel), List.mem_of_getElem? (i := 969) (by decide +kernel)⟩
theorem lw_p31 : lw_okq (⟨"StreamWatchModel", "four", "(I)I"⟩, 33) := ⟨⟨by decide +kernel, by decide +kernel⟩, List.mem_of_getElem? (i := 780) (by decide +kernel), List.mem_of_getElem? (i := 972) (by decide +kernel), List.mem_of_getElem? (i := 973) (by decide +kernel)⟩
def lw_privs_2 : List (MethodName × Nat) := [(⟨"StreamWatch$Search", "moveBases", "(LStreamWatch$Option;I)V"⟩, 2), (⟨"StreamWatch", "streamAt", "(II)LStreamWatch$Stream;"⟩, 8), (⟨"java/lang/Throwable", "fillInStackTrace", "(I)Ljava/lang/Throwable;"⟩, 6), (⟨"StreamWatch", "writeIpHeader", "(III)V"⟩, 8), (⟨"StreamWatch", "writeTcpHeader", "(IIII)V"⟩, 8), (⟨"StreamWatchModel", "addNumber", "(II)V"⟩, 33), (⟨"StreamWatchModel", "add", "(I)V"⟩, 33), (⟨"StreamWatchModel", "close", "()V"⟩, 33), (⟨"StreamWatchModel", "headerSum", "()I"⟩, 33), (⟨"StreamWatchModel", "headerSize", "()I"⟩, 33), (⟨"StreamWatchModel", "total", "(II)I"⟩, 33), (⟨"StreamWatchModel", "partSum", "()I"⟩, 33), (⟨"StreamWatchModel", "pair", "(I)I"⟩, 33), (⟨"StreamWatchModel", "reason", "(Z)I"⟩, 33), (⟨"StreamWatchModel", "find", "(I)I"⟩, 33), (⟨"StreamWatchModel", "four", "(I)I"⟩, 33)]
theorem lw_r2 : ∀ q ∈ lw_privs_2, lw_okq q := List.forall_mem_cons.mpr ⟨lw_p16, List.forall_mem_cons.mpr ⟨lw_p17, List.forall_mem_cons.mpr ⟨lw_p18, List.forall_mem_cons.mpr ⟨lw_p19, List.forall_mem_cons.mpr ⟨lw_p20, List.forall_mem_cons.mpr ⟨lw_p21, List.forall_mem_cons.mpr ⟨lw_p22, List.forall_mem_cons.mpr ⟨lw_p23, List.forall_mem_cons.mpr ⟨lw_p24, List.forall_mem_cons.mpr ⟨lw_p25, List.forall_mem_cons.mpr ⟨lw_p26, List.forall_mem_cons.mpr ⟨lw_p27, List.forall_mem_cons.mpr ⟨lw_p28, List.forall_mem_cons.mpr ⟨lw_p29, List.forall_mem_cons.mpr ⟨lw_p30, List.forall_mem_cons.mpr ⟨lw_p31, fun _ h => absurd h List.not_mem_nil⟩⟩⟩⟩⟩⟩⟩⟩⟩⟩⟩⟩⟩⟩⟩⟩
theorem lw_p32 : lw_okq (⟨"StreamWatchModel", "room", "()I"⟩, 33) := ⟨⟨by decide +kernel, by decide +kernel⟩, List.mem_of_getElem? (i := 780) (by decide +kernel), List.mem_of_getElem? (i := 976) (by decide +kernel), List.mem_of_getElem? (i := 977) (by decide +kernel)⟩
theorem lw_p33 : lw_okq (⟨"StreamWatchModel", "begin", "(II)V"⟩, 33) := ⟨⟨by decide +kernel, by decide +kernel⟩, List.mem_of_getElem? (i := 780) (by decide +kernel), List.mem_of_getElem? (i := 980) (by decide +kernel), List.mem_of_getElem? (i := 981) (by decide +kernel)⟩
theorem lw_p34 : lw_okq (⟨"StreamWatchModel", "hold", "(III)V"⟩, 33) := ⟨⟨by decide +kernel, by decide +kernel⟩, List.mem_of_getElem? (i := 780) (by decide +kernel), List.mem_of_getElem? (i := 984) (by decide +kernel), List.mem_of_getElem? (i := 985) (by decide +kernel)⟩
theorem lw_p35 : lw_okq (⟨"StreamWatchModel", "grow", "(I)I"⟩, 33) := ⟨⟨by decide +kernel, by decide +kernel⟩, List.mem_of_getElem? (i := 780) (by decide +kernel), List.mem_of_getElem? (i := 988) (by decide +kernel), List.mem_of_getElem? (i := 989) (by decide +kernel)⟩
theorem lw_p36 : lw_okq (⟨"StreamWatchModel", "look", "(I)I"⟩, 33) := ⟨⟨by decide +kernel, by decide +kernel⟩, List.mem_of_getElem? (i := 780) (by decide +kernel), List.mem_of_getElem? (i := 992) (by decide +kernel), List.mem_of_getElem? (i := 993) (by decide +kernel)⟩
theorem lw_p37 : lw_okq (⟨"StreamWatchModel", "holdsOn", "(II)Z"⟩, 33) := ⟨⟨by decide +kernel, by decide +kernel⟩, List.mem_of_getElem? (i := 780) (by decide +kernel), List.mem_of_getElem? (i := 996) (by decide +kernel), List.mem_of_getElem? (i := 997) (by decide +kernel)⟩
theorem lw_p38 : lw_okq (⟨"StreamWatchModel", "clean", "(II)Z"⟩, 33) := ⟨⟨by decide +kernel, by decide +kernel⟩, List.mem_of_getElem? (i := 780) (by decide +kernel), List.mem_of_getElem? (i := 1000) (by decide +kernel), List.mem_of_getElem? (i := 1001) (by decide +kernel)⟩
theorem lw_p39 : lw_okq (⟨"StreamWatchModel", "base", "(II)I"⟩, 33) := ⟨⟨by decide +kernel, by decide +kernel⟩, List.mem_of_getElem? (i := 780) (by decide +kernel), List.mem_of_getElem? (i := 1004) (by decide +kernel), List.mem_of_getElem? (i := 1005) (by decide +kernel)⟩
theorem lw_p40 : lw_okq (⟨"StreamWatchModel", "found", "(IIII)Z"⟩, 33) := ⟨⟨by decide +kernel, by decide +kernel⟩, List.mem_of_getElem? (i := 780) (by decide +kernel), List.mem_of_getElem? (i := 1008) (by decide +kernel), List.mem_of_getElem? (i := 1009) (by decide +kernel)⟩
theorem lw_p41 : lw_okq (⟨"StreamWatchModel", "isFlow", "(I)Z"⟩, 33) := ⟨⟨by decide +kernel, by decide +kernel⟩, List.mem_of_getElem? (i := 780) (by decide +kernel), List.mem_of_getElem? (i := 1019) (by decide +kernel), List.mem_of_getElem? (i := 1020) (by decide +kernel)⟩
def lw_privs_3 : List (MethodName × Nat) := [(⟨"StreamWatchModel", "room", "()I"⟩, 33), (⟨"StreamWatchModel", "begin", "(II)V"⟩, 33), (⟨"StreamWatchModel", "hold", "(III)V"⟩, 33), (⟨"StreamWatchModel", "grow", "(I)I"⟩, 33), (⟨"StreamWatchModel", "look", "(I)I"⟩, 33), (⟨"StreamWatchModel", "holdsOn", "(II)Z"⟩, 33), (⟨"StreamWatchModel", "clean", "(II)Z"⟩, 33), (⟨"StreamWatchModel", "base", "(II)I"⟩, 33), (⟨"StreamWatchModel", "found", "(IIII)Z"⟩, 33), (⟨"StreamWatchModel", "isFlow", "(I)Z"⟩, 33)]
theorem lw_r3 : ∀ q ∈ lw_privs_3, lw_okq q := List.forall_mem_cons.mpr ⟨lw_p32, List.forall_mem_cons.mpr ⟨lw_p33, List.forall_mem_cons.mpr ⟨lw_p34, List.forall_mem_cons.mpr ⟨lw_p35, List.forall_mem_cons.mpr ⟨lw_p36, List.forall_mem_cons.mpr ⟨lw_p37, List.forall_mem_cons.mpr ⟨lw_p38, List.forall_mem_cons.mpr ⟨lw_p39, List.forall_mem_cons.mpr ⟨lw_p40, List.forall_mem_cons.mpr ⟨lw_p41, fun _ h => absurd h List.not_mem_nil⟩⟩⟩⟩⟩⟩⟩⟩⟩⟩
def lw_privs : List (MethodName × Nat) := lw_privs_1 ++ (lw_privs_2 ++ (lw_privs_3))
def lw_tbl : List Cond := k2_sels lw_privs ++ tables_1
theorem lw_privs_ok : ∀ q ∈ lw_privs, lw_okq q := by
  show ∀ q ∈ lw_privs_1 ++ (lw_privs_2 ++ (lw_privs_3)), lw_okq q
  exact List.forall_mem_append.mpr ⟨lw_r1, List.forall_mem_append.mpr ⟨lw_r2, lw_r3⟩⟩
end
section
/-! A small machine over worlds by places: a value's reference is a PLACE; 'ad' says at which address the place lies. Blocks of straight code are run by computation (mj_run); each instruction is sound (mj_Snd) over the kit's rows. -/
abbrev mj_C : Type := (Nat × Nat × ((Nat → Int32) ⊕ (Nat → Int64) ⊕ List (Option Nat))) ⊕ (Nat × List Value)
abbrev mj_M : Type := List (Nat × mj_C)
abbrev mj_L : Type := List (Nat × Value)
abbrev mj_S : Type := Option (List Prop × mj_L × List Value × mj_M)
abbrev mj_K : Type := List Prop → mj_L → List Value → mj_M → mj_S
abbrev mj_T : Type := List Prop → mj_L → List Value → mj_M → mj_K → mj_S
abbrev mj_G : Type := List vw_C × List Cond × List FieldType
def mj_al : List Prop → Prop
  | [] => True
  | c :: l => c ∧ mj_al l
def mj_v (ad : Nat → Nat) : Value → Value
  | .ref p => .ref (ad p)
  | v => v
def mj_e (ad : Nat → Nat) (cA : Nat → ClassId) : mj_C → va_E
  | .inl (t, n, .inl f) => .inl (cA t, n, .inl f)
  | .inl (t, n, .inr (.inl f)) => .inl (cA t, n, .inr (.inl f))
  | .inl (t, n, .inr (.inr l)) => .inl (cA t, n, .inr (.inr (.inr (.inr (fun j => (l.getD j none).map ad)))))
  | .inr (c, fs) => .inr (c, fs.map (mj_v ad))
def mj_w (ad : Nat → Nat) (cA : Nat → ClassId) (w : mj_M) : va_W := w.map (fun q => (ad q.1, mj_e ad cA q.2))
def mj_l (ad : Nat → Nat) (lv : mj_L) : mj_L := lv.map (fun q => (q.1, mj_v ad q.2))
def mj_tys (cA : Nat → ClassId) (tys : List FieldType) : List (ClassId × FieldType) := tys.mapIdx (fun t ty => (cA t, ty))
theorem mj_tys_at {cA : Nat → ClassId} {tys : List FieldType} {t : Nat} {ty : FieldType} (h : tys[t]? = some ty) : (mj_tys cA tys)[t]? = some (cA t, ty) := by
  simp [mj_tys, List.getElem?_mapIdx, h]
theorem mj_bq : ∀ n : Nat, Nat.beq n n = true
  | 0 => rfl
  | n + 1 => mj_bq n
theorem mj_bn {a b : Nat} (h : a ≠ b) : Nat.beq a b = false := by
  cases hb : Nat.beq a b with
  | false => rfl
  | true => exact absurd (Nat.eq_of_beq_eq_true hb) h
/-! looking up and laying, forced -/
def mj_lk {α β : Type} : List (Nat × α) → Nat → (α → Option β) → Option β
  | [], _, _ => none
  | (j, v) :: l, i, k => bif Nat.beq j i then k v else mj_lk l i k
def mj_st {β : Type} : mj_M → Nat → mj_C → (mj_M → Option β) → Option β
  | [], _, _, k => k []
  | (j, d) :: l, i, e, k => bif Nat.beq j i then k ((j, e) :: l) else mj_st l i e (fun l' => k ((j, d) :: l'))
theorem mj_lk_or {α β : Type} (l : List (Nat × α)) (i : Nat) : (∀ k : α → Option β, mj_lk l i k = none) ∨ ∃ (v : α) (q0 : Nat), (∀ k : α → Option β, mj_lk l i k = k v) ∧ l[q0]? = some (i, v) := by
  induction l with
  | nil => exact Or.inl fun _ => rfl
  | cons q l ih =>
    obtain ⟨qi, qv⟩ := q
    by_cases h : qi = i
    · subst h
      exact Or.inr ⟨qv, 0, fun k => by simp only [mj_lk, mj_bq, cond_true], rfl⟩
    · rcases ih with ih | ⟨v, q0, ih, hq⟩
      · exact Or.inl fun k => by rw [← ih k]; simp only [mj_lk, mj_bn h, cond_false]
      · exact Or.inr ⟨v, q0 + 1, fun k => by rw [← ih k]; simp only [mj_lk, mj_bn h, cond_false], hq⟩
theorem mj_wk_or {β : Type} (l : mj_M) (i : Nat) : (∀ k : mj_C → Option β, mj_lk l i k = none) ∨ ∃ (v : mj_C) (q0 : Nat), (∀ k : mj_C → Option β, mj_lk l i k = k v) ∧ l[q0]? = some (i, v) ∧ ∀ (e : mj_C) (k : mj_M → Option β), mj_st l i e k = k (l.set q0 (i, e)) := by
  induction l with
  | nil => exact Or.inl fun _ => rfl
  | cons q l ih =>
    obtain ⟨qi, qv⟩ := q
    by_cases h : qi = i
    · subst h
      exact Or.inr ⟨qv, 0, fun k => by simp only [mj_lk, mj_bq, cond_true], rfl, fun e k => by simp only [mj_st, mj_bq, cond_true, List.set_cons_zero]⟩
    · rcases ih with ih | ⟨v, q0, ih, hq, hs⟩
      · exact Or.inl fun k => by rw [← ih k]; simp only [mj_lk, mj_bn h, cond_false]
      · exact Or.inr ⟨v, q0 + 1, fun k => by rw [← ih k]; simp only [mj_lk, mj_bn h, cond_false], hq, fun e k => by simp only [mj_st, mj_bn h, cond_false, hs, List.set_cons_succ]⟩
def mj_nt {β : Type} : List Value → Nat → (Value → Option β) → Option β
  | [], _, _ => none
  | v :: _, 0, k => k v
  | _ :: l, n + 1, k => mj_nt l n k
theorem mj_nt_or {β : Type} (l : List Value) (n : Nat) : (∀ k : Value → Option β, mj_nt l n k = none) ∨ ∃ v : Value, (∀ k : Value → Option β, mj_nt l n k = k v) ∧ l[n]? = some v := by
  induction l generalizing n with
  | nil => exact Or.inl fun _ => rfl
  | cons v l ih =>
    cases n with
    | zero => exact Or.inr ⟨v, fun _ => rfl, rfl⟩
    | succ n =>
      rcases ih n with h | ⟨x, h, hx⟩
      · exact Or.inl fun k => h k
      · exact Or.inr ⟨x, fun k => h k, hx⟩
def mj_ns {β : Type} : List Value → Nat → Value → (List Value → Option β) → Option β
  | [], _, _, k => k []
  | _ :: l, 0, x, k => k (x :: l)
  | y :: l, n + 1, x, k => mj_ns l n x (fun l' => k (y :: l'))
theorem mj_ns_eq {β : Type} (l : List Value) (n : Nat) (x : Value) (k : List Value → Option β) : mj_ns l n x k = k (l.set n x) := by
  induction l generalizing n k with
  | nil => rfl
  | cons v l ih =>
    cases n with
    | zero => rfl
    | succ n => simp only [mj_ns, ih, List.set_cons_succ]
def mj_fi {β : Type} (p : Nat × Value → Bool) : mj_L → (mj_L → Option β) → Option β
  | [], k => k []
  | q :: l, k => bif p q then mj_fi p l (fun l' => k (q :: l')) else mj_fi p l k
theorem mj_fi_eq {β : Type} (p : Nat × Value → Bool) (l : mj_L) (k : mj_L → Option β) : mj_fi p l k = k (l.filter p) := by
  induction l generalizing k with
  | nil => rfl
  | cons q l ih =>
    cases h : p q with
    | true => simp only [mj_fi, h, cond_true, ih, List.filter_cons_of_pos h]
    | false => simp only [mj_fi, h, cond_false, ih, List.filter_cons_of_neg (show ¬ p q = true by rw [h]; exact Bool.false_ne_true)]
def mj_p1 (i : Nat) (q : Nat × Value) : Bool := !(Nat.beq q.1 i) && !(Nat.beq (q.1 + 1) i && Nat.beq q.2.category 2)
def mj_p2 (i : Nat) (q : Nat × Value) : Bool := !(Nat.beq q.1 i) && (!(Nat.beq q.1 (i + 1)) && !(Nat.beq (q.1 + 1) i && Nat.beq q.2.category 2))
theorem mj_beq (a b : Nat) : (a == b) = Nat.beq a b := by
  by_cases h : a = b
  · subst h
    rw [mj_bq]
    exact beq_self_eq_true a
  · rw [mj_bn h]
    exact beq_false_of_ne h
theorem mj_v_cat (ad : Nat → Nat) (v : Value) : (mj_v ad v).category = v.category := by cases v <;> rfl
theorem mj_l_p1 (ad : Nat → Nat) (lv : mj_L) (i : Nat) : (mj_l ad lv).filter (fun q => !(q.1 == i) && !(q.1 + 1 == i && q.2.category == 2)) = mj_l ad (lv.filter (mj_p1 i)) := by
  unfold mj_l
  rw [List.filter_map]
  congr 1
  apply List.filter_congr
  intro q _
  simp only [Function.comp, mj_v_cat, mj_p1, mj_beq]
theorem mj_l_p2 (ad : Nat → Nat) (lv : mj_L) (i : Nat) : (mj_l ad lv).filter (fun q => !(q.1 == i) && (!(q.1 == i + 1) && !(q.1 + 1 == i && q.2.category == 2))) = mj_l ad (lv.filter (mj_p2 i)) := by
  unfold mj_l
  rw [List.filter_map]
  congr 1
  apply List.filter_congr
  intro q _
  simp only [Function.comp, mj_v_cat, mj_p2, mj_beq]
theorem mj_l_at {ad : Nat → Nat} {lv : mj_L} {q0 i : Nat} {v : Value} (h : lv[q0]? = some (i, v)) : (mj_l ad lv)[q0]? = some (i, mj_v ad v) := by
  simp [mj_l, List.getElem?_map, h]
theorem mj_w_at {ad : Nat → Nat} {cA : Nat → ClassId} {w : mj_M} {q0 i : Nat} {v : mj_C} (h : w[q0]? = some (i, v)) : (mj_w ad cA w)[q0]? = some (ad i, mj_e ad cA v) := by
  simp [mj_w, List.getElem?_map, h]
theorem mj_w_set {ad : Nat → Nat} {cA : Nat → ClassId} {w : mj_M} {q0 i : Nat} {v : mj_C} : mj_w ad cA (w.set q0 (i, v)) = (mj_w ad cA w).set q0 (ad i, mj_e ad cA v) := by
  simp [mj_w, List.map_set]
/-! the walk's judgement -/
abbrev mj_X := Program × Launch × Env × Room × State × MethodId × Array Value × List Frame × Method × Code × (State → Prop) × va_G × (Nat → ClassId) × (Nat → Prop) × (Nat → Nat) × (Nat → Prop) × Nat
abbrev mj_Y : Type := String × String × ByteArray × Nat
def mj_W (G : mj_G) (X : mj_X) (cells slots pc : Nat) (lv : mj_L) (st : List Value) (w : mj_M) : Prop := match X with
  | (p, l, e, R, s, m, args, below, meth, c, Q, D, cA, A, ad0, kp, nL) =>
    ∀ (ad : Nat → Nat) (H : Heap) (locs : List Loc) (ls : Array Slot), (∀ q, kp q → ad q = ad0 q) → va_P D G.1 (mj_w ad cA w) H → va_D A (mj_w ad cA w) → va_S A s.heap H locs → lv_has ls nL (mj_l ad lv) →
      W p l e R s m args below meth c H locs cells slots Q (F0 m pc ls (st.map (mj_v ad)))
def mj_B (G : mj_G) (X : mj_X) (M : mj_Y) : Prop := match X with
  | (p, l, e, R, s, m, args, below, meth, c, Q, D, cA, A, ad0, kp, nL) =>
    p.tables.exec = Jvm.exec ∧ c.code = M.2.2.1 ∧ c.maxLocals = nL ∧ nL = M.2.2.2 ∧ s.vm.findClass M.1 = some m.cls ∧ (∀ w ∈ G.2.1, w.before args s = true) ∧ va_K D G.1 (mj_tys cA G.2.2) s ∧ (∀ q, s.heap.size ≤ q → A q) ∧ meth.name = M.2.1
def mj_Snd (G : mj_G) (M : mj_Y) (pc : Nat) (f : mj_T) (pc' : Nat) : Prop :=
  ∀ X : mj_X, mj_B G X M → ∀ (C : List Prop) (lv : mj_L) (st : List Value) (w : mj_M), (∀ k, f C lv st w k = none) ∨
    ∃ (C' : List Prop) (lv' : mj_L) (st' : List Value) (w' : mj_M), (∀ k, f C lv st w k = k C' lv' st' w') ∧ (mj_al C' → mj_al C) ∧ (mj_al C' → ∀ cells slots : Nat, mj_W G X cells slots pc' lv' st' w' → mj_W G X cells slots pc lv st w)
def mj_run : List mj_T → List Prop → mj_L → List Value → mj_M → mj_S
  | [], C, lv, st, w => some (C, lv, st, w)
  | f :: fs, C, lv, st, w => f C lv st w (mj_run fs)
def mj_Ch (G : mj_G) (M : mj_Y) : Nat → List mj_T → Nat → Prop
  | pc, [], pc' => pc = pc'
  | pc, f :: fs, pc' => ∃ mid, mj_Snd G M pc f mid ∧ mj_Ch G M mid fs pc'
theorem mj_blk0 {G : mj_G} {M : mj_Y} {X : mj_X} (hB : mj_B G X M) (cells slots : Nat) : ∀ (B : List mj_T) (pc pc' : Nat) (C0 C : List Prop) (lv lv' : mj_L) (st st' : List Value) (w w' : mj_M), mj_Ch G M pc B pc' → mj_run B C0 lv st w = some (C, lv', st', w') →
    mj_al C → mj_W G X cells slots pc' lv' st' w' → mj_al C0 ∧ mj_W G X cells slots pc lv st w := by
  intro B
  induction B with
  | nil =>
    intro pc pc' C0 C lv lv' st st' w w' hch hr hC kk
    have hch : pc = pc' := hch
    subst hch
    have hr : some (C0, lv, st, w) = some (C, lv', st', w') := hr
    injection hr with hr
    injection hr with e1 e2
    injection e2 with e2 e3
    injection e3 with e3 e4
    subst e1 e2 e3 e4
    exact ⟨hC, kk⟩
  | cons f fs ih =>
    intro pc pc' C0 C lv lv' st st' w w' hch hr hC kk
    obtain ⟨mid, hs, hch⟩ := hch
    rcases hs X hB C0 lv st w with h | ⟨C1, lv1, st1, w1, h, h1, h2⟩
    · have e1 : mj_run (f :: fs) C0 lv st w = none := h _
      rw [e1] at hr
      cases hr
    · have e1 : mj_run (f :: fs) C0 lv st w = mj_run fs C1 lv1 st1 w1 := h _
      rw [e1] at hr
      obtain ⟨a, b⟩ := ih mid pc' C1 C lv1 lv' st1 st' w1 w' hch hr hC kk
      exact ⟨h1 a, h2 a cells slots b⟩
theorem mj_blk {G : mj_G} {M : mj_Y} {X : mj_X} (hB : mj_B G X M) {B : List mj_T} {cells slots pc pc' : Nat} (hch : mj_Ch G M pc B pc') {lv : mj_L} {st : List Value} {w : mj_M} {C : List Prop} {lv' : mj_L} {st' : List Value} {w' : mj_M}
    (hr : mj_run B [] lv st w = some (C, lv', st', w')) (hC : mj_al C) (kk : mj_W G X cells slots pc' lv' st' w') : mj_W G X cells slots pc lv st w :=
  (mj_blk0 hB cells slots B pc pc' [] C lv lv' st st' w w' hch hr hC kk).2
/-! the instructions -/
section MJO
variable {G : mj_G} {own nm : String} {cc : ByteArray} {nL pc : Nat}
def x_iadd : mj_T := fun C lv st w k => match st with
  | .int y :: .int x :: r => k (C) lv (.int (x + y) :: r) w
  | _ => none
theorem mj_iadd (hd : decode cc pc = .ok (.iadd, 1)) : mj_Snd G (own, nm, cc, nL) pc (x_iadd) (pc + 1) := by
  intro X hB C lv st w
  obtain ⟨p, l, e, R, s, m, args, below, meth, c, Q, D, cA, A, ad0, kp, nL'⟩ := X
  rcases st with _ | ⟨v1, _ | ⟨v2, r⟩⟩
  · exact Or.inl fun _ => rfl
  · cases v1 <;> exact Or.inl fun _ => rfl
  cases v1 <;> cases v2 <;> first | exact Or.inl (fun _ => rfl) | exact Or.inr ⟨_, lv, _, w, fun _ => rfl, id, fun hc cells slots kk ad H locs ls h0 hP hD hS hl => lv_iadd hB.1 hB.2.1 hd (kk ad H locs ls h0 hP hD hS hl)⟩
def x_isub : mj_T := fun C lv st w k => match st with
  | .int y :: .int x :: r => k (C) lv (.int (x - y) :: r) w
  | _ => none
theorem mj_isub (hd : decode cc pc = .ok (.isub, 1)) : mj_Snd G (own, nm, cc, nL) pc (x_isub) (pc + 1) := by
  intro X hB C lv st w
  obtain ⟨p, l, e, R, s, m, args, below, meth, c, Q, D, cA, A, ad0, kp, nL'⟩ := X
  rcases st with _ | ⟨v1, _ | ⟨v2, r⟩⟩
  · exact Or.inl fun _ => rfl
  · cases v1 <;> exact Or.inl fun _ => rfl
  cases v1 <;> cases v2 <;> first | exact Or.inl (fun _ => rfl) | exact Or.inr ⟨_, lv, _, w, fun _ => rfl, id, fun hc cells slots kk ad H locs ls h0 hP hD hS hl => lv_isub hB.1 hB.2.1 hd (kk ad H locs ls h0 hP hD hS hl)⟩
def x_imul : mj_T := fun C lv st w k => match st with
  | .int y :: .int x :: r => k (C) lv (.int (x * y) :: r) w
  | _ => none
theorem mj_imul (hd : decode cc pc = .ok (.imul, 1)) : mj_Snd G (own, nm, cc, nL) pc (x_imul) (pc + 1) := by
  intro X hB C lv st w
  obtain ⟨p, l, e, R, s, m, args, below, meth, c, Q, D, cA, A, ad0, kp, nL'⟩ := X
  rcases st with _ | ⟨v1, _ | ⟨v2, r⟩⟩
  · exact Or.inl fun _ => rfl
  · cases v1 <;> exact Or.inl fun _ => rfl
  cases v1 <;> cases v2 <;> first | exact Or.inl (fun _ => rfl) | exact Or.inr ⟨_, lv, _, w, fun _ => rfl, id, fun hc cells slots kk ad H locs ls h0 hP hD hS hl => lv_imul hB.1 hB.2.1 hd (kk ad H locs ls h0 hP hD hS hl)⟩
def x_iand : mj_T := fun C lv st w k => match st with
  | .int y :: .int x :: r => k (C) lv (.int (x &&& y) :: r) w
  | _ => none
theorem mj_iand (hd : decode cc pc = .ok (.iand, 1)) : mj_Snd G (own, nm, cc, nL) pc (x_iand) (pc + 1) := by
  intro X hB C lv st w
  obtain ⟨p, l, e, R, s, m, args, below, meth, c, Q, D, cA, A, ad0, kp, nL'⟩ := X
  rcases st with _ | ⟨v1, _ | ⟨v2, r⟩⟩
  · exact Or.inl fun _ => rfl
  · cases v1 <;> exact Or.inl fun _ => rfl
  cases v1 <;> cases v2 <;> first | exact Or.inl (fun _ => rfl) | exact Or.inr ⟨_, lv, _, w, fun _ => rfl, id, fun hc cells slots kk ad H locs ls h0 hP hD hS hl => lv_iand hB.1 hB.2.1 hd (kk ad H locs ls h0 hP hD hS hl)⟩
def x_ior : mj_T := fun C lv st w k => match st with
  | .int y :: .int x :: r => k (C) lv (.int (x ||| y) :: r) w
  | _ => none
theorem mj_ior (hd : decode cc pc = .ok (.ior, 1)) : mj_Snd G (own, nm, cc, nL) pc (x_ior) (pc + 1) := by
  intro X hB C lv st w
  obtain ⟨p, l, e, R, s, m, args, below, meth, c, Q, D, cA, A, ad0, kp, nL'⟩ := X
  rcases st with _ | ⟨v1, _ | ⟨v2, r⟩⟩
  · exact Or.inl fun _ => rfl
  · cases v1 <;> exact Or.inl fun _ => rfl
  cases v1 <;> cases v2 <;> first | exact Or.inl (fun _ => rfl) | exact Or.inr ⟨_, lv, _, w, fun _ => rfl, id, fun hc cells slots kk ad H locs ls h0 hP hD hS hl => lv_ior hB.1 hB.2.1 hd (kk ad H locs ls h0 hP hD hS hl)⟩
def x_ixor : mj_T := fun C lv st w k => match st with
  | .int y :: .int x :: r => k (C) lv (.int (x ^^^ y) :: r) w
  | _ => none
theorem mj_ixor (hd : decode cc pc = .ok (.ixor, 1)) : mj_Snd G (own, nm, cc, nL) pc (x_ixor) (pc + 1) := by
  intro X hB C lv st w
  obtain ⟨p, l, e, R, s, m, args, below, meth, c, Q, D, cA, A, ad0, kp, nL'⟩ := X
  rcases st with _ | ⟨v1, _ | ⟨v2, r⟩⟩
  · exact Or.inl fun _ => rfl
  · cases v1 <;> exact Or.inl fun _ => rfl
  cases v1 <;> cases v2 <;> first | exact Or.inl (fun _ => rfl) | exact Or.inr ⟨_, lv, _, w, fun _ => rfl, id, fun hc cells slots kk ad H locs ls h0 hP hD hS hl => lv_ixor hB.1 hB.2.1 hd (kk ad H locs ls h0 hP hD hS hl)⟩
def x_ishl : mj_T := fun C lv st w k => match st with
  | .int y :: .int x :: r => k (C) lv (.int (x <<< (y &&& 31)) :: r) w
  | _ => none
theorem mj_ishl (hd : decode cc pc = .ok (.ishl, 1)) : mj_Snd G (own, nm, cc, nL) pc (x_ishl) (pc + 1) := by
  intro X hB C lv st w
  obtain ⟨p, l, e, R, s, m, args, below, meth, c, Q, D, cA, A, ad0, kp, nL'⟩ := X
  rcases st with _ | ⟨v1, _ | ⟨v2, r⟩⟩
  · exact Or.inl fun _ => rfl
  · cases v1 <;> exact Or.inl fun _ => rfl
  cases v1 <;> cases v2 <;> first | exact Or.inl (fun _ => rfl) | exact Or.inr ⟨_, lv, _, w, fun _ => rfl, id, fun hc cells slots kk ad H locs ls h0 hP hD hS hl => lv_ishl hB.1 hB.2.1 hd (kk ad H locs ls h0 hP hD hS hl)⟩
def x_ishr : mj_T := fun C lv st w k => match st with
  | .int y :: .int x :: r => k (C) lv (.int (x >>> (y &&& 31)) :: r) w
  | _ => none
theorem mj_ishr (hd : decode cc pc = .ok (.ishr, 1)) : mj_Snd G (own, nm, cc, nL) pc (x_ishr) (pc + 1) := by
  intro X hB C lv st w
  obtain ⟨p, l, e, R, s, m, args, below, meth, c, Q, D, cA, A, ad0, kp, nL'⟩ := X
  rcases st with _ | ⟨v1, _ | ⟨v2, r⟩⟩
  · exact Or.inl fun _ => rfl
  · cases v1 <;> exact Or.inl fun _ => rfl
  cases v1 <;> cases v2 <;> first | exact Or.inl (fun _ => rfl) | exact Or.inr ⟨_, lv, _, w, fun _ => rfl, id, fun hc cells slots kk ad H locs ls h0 hP hD hS hl => lv_ishr hB.1 hB.2.1 hd (kk ad H locs ls h0 hP hD hS hl)⟩
def x_iushr : mj_T := fun C lv st w k => match st with
  | .int y :: .int x :: r => k (C) lv (.int ((x.toUInt32 >>> (y.toUInt32 &&& Int32.toUInt32 31)).toInt32) :: r) w
  | _ => none
theorem mj_iushr (hd : decode cc pc = .ok (.iushr, 1)) : mj_Snd G (own, nm, cc, nL) pc (x_iushr) (pc + 1) := by
  intro X hB C lv st w
  obtain ⟨p, l, e, R, s, m, args, below, meth, c, Q, D, cA, A, ad0, kp, nL'⟩ := X
  rcases st with _ | ⟨v1, _ | ⟨v2, r⟩⟩
  · exact Or.inl fun _ => rfl
  · cases v1 <;> exact Or.inl fun _ => rfl
  cases v1 <;> cases v2 <;> first | exact Or.inl (fun _ => rfl) | exact Or.inr ⟨_, lv, _, w, fun _ => rfl, id, fun hc cells slots kk ad H locs ls h0 hP hD hS hl => lv_iushr hB.1 hB.2.1 hd rfl (kk ad H locs ls h0 hP hD hS hl)⟩
def x_idiv : mj_T := fun C lv st w k => match st with
  | .int y :: .int x :: r => k ((¬ y = 0) :: C) lv (.int (x / y) :: r) w
  | _ => none
theorem mj_idiv (hd : decode cc pc = .ok (.idiv, 1)) : mj_Snd G (own, nm, cc, nL) pc (x_idiv) (pc + 1) := by
  intro X hB C lv st w
  obtain ⟨p, l, e, R, s, m, args, below, meth, c, Q, D, cA, A, ad0, kp, nL'⟩ := X
  rcases st with _ | ⟨v1, _ | ⟨v2, r⟩⟩
  · exact Or.inl fun _ => rfl
  · cases v1 <;> exact Or.inl fun _ => rfl
  cases v1 <;> cases v2 <;> first | exact Or.inl (fun _ => rfl) | exact Or.inr ⟨_, lv, _, w, fun _ => rfl, fun h => h.2, fun hc cells slots kk ad H locs ls h0 hP hD hS hl => lv_idiv hB.1 hB.2.1 hd hc.1 (kk ad H locs ls h0 hP hD hS hl)⟩
def x_irem : mj_T := fun C lv st w k => match st with
  | .int y :: .int x :: r => k ((¬ y = 0) :: C) lv (.int (x - x / y * y) :: r) w
  | _ => none
theorem mj_irem (hd : decode cc pc = .ok (.irem, 1)) : mj_Snd G (own, nm, cc, nL) pc (x_irem) (pc + 1) := by
  intro X hB C lv st w
  obtain ⟨p, l, e, R, s, m, args, below, meth, c, Q, D, cA, A, ad0, kp, nL'⟩ := X
  rcases st with _ | ⟨v1, _ | ⟨v2, r⟩⟩
  · exact Or.inl fun _ => rfl
  · cases v1 <;> exact Or.inl fun _ => rfl
  cases v1 <;> cases v2 <;> first | exact Or.inl (fun _ => rfl) | exact Or.inr ⟨_, lv, _, w, fun _ => rfl, fun h => h.2, fun hc cells slots kk ad H locs ls h0 hP hD hS hl => lv_irem hB.1 hB.2.1 hd hc.1 (kk ad H locs ls h0 hP hD hS hl)⟩
def x_ineg : mj_T := fun C lv st w k => match st with
  | .int x :: r => k (C) lv (.int (-x) :: r) w
  | _ => none
theorem mj_ineg (hd : decode cc pc = .ok (.ineg, 1)) : mj_Snd G (own, nm, cc, nL) pc (x_ineg) (pc + 1) := by
  intro X hB C lv st w
  obtain ⟨p, l, e, R, s, m, args, below, meth, c, Q, D, cA, A, ad0, kp, nL'⟩ := X
  rcases st with _ | ⟨v1, r⟩
  · exact Or.inl fun _ => rfl
  cases v1 <;> first | exact Or.inl (fun _ => rfl) | exact Or.inr ⟨_, lv, _, w, fun _ => rfl, id, fun hc cells slots kk ad H locs ls h0 hP hD hS hl => lv_ineg hB.1 hB.2.1 hd (kk ad H locs ls h0 hP hD hS hl)⟩
def x_land : mj_T := fun C lv st w k => match st with
  | .long y :: .long x :: r => k (C) lv (.long (x &&& y) :: r) w
  | _ => none
theorem mj_land (hd : decode cc pc = .ok (.land, 1)) : mj_Snd G (own, nm, cc, nL) pc (x_land) (pc + 1) := by
  intro X hB C lv st w
  obtain ⟨p, l, e, R, s, m, args, below, meth, c, Q, D, cA, A, ad0, kp, nL'⟩ := X
  rcases st with _ | ⟨v1, _ | ⟨v2, r⟩⟩
  · exact Or.inl fun _ => rfl
  · cases v1 <;> exact Or.inl fun _ => rfl
  cases v1 <;> cases v2 <;> first | exact Or.inl (fun _ => rfl) | exact Or.inr ⟨_, lv, _, w, fun _ => rfl, id, fun hc cells slots kk ad H locs ls h0 hP hD hS hl => lv_land hB.1 hB.2.1 hd (kk ad H locs ls h0 hP hD hS hl)⟩
def x_lor : mj_T := fun C lv st w k => match st with
  | .long y :: .long x :: r => k (C) lv (.long (x ||| y) :: r) w
  | _ => none
theorem mj_lor (hd : decode cc pc = .ok (.lor, 1)) : mj_Snd G (own, nm, cc, nL) pc (x_lor) (pc + 1) := by
  intro X hB C lv st w
  obtain ⟨p, l, e, R, s, m, args, below, meth, c, Q, D, cA, A, ad0, kp, nL'⟩ := X
  rcases st with _ | ⟨v1, _ | ⟨v2, r⟩⟩
  · exact Or.inl fun _ => rfl
  · cases v1 <;> exact Or.inl fun _ => rfl
  cases v1 <;> cases v2 <;> first | exact Or.inl (fun _ => rfl) | exact Or.inr ⟨_, lv, _, w, fun _ => rfl, id, fun hc cells slots kk ad H locs ls h0 hP hD hS hl => lv_lor hB.1 hB.2.1 hd (kk ad H locs ls h0 hP hD hS hl)⟩
def x_lshl : mj_T := fun C lv st w k => match st with
  | .int y :: .long x :: r => k (C) lv (.long (x <<< (y.toInt64 &&& 63)) :: r) w
  | _ => none
theorem mj_lshl (hd : decode cc pc = .ok (.lshl, 1)) : mj_Snd G (own, nm, cc, nL) pc (x_lshl) (pc + 1) := by
  intro X hB C lv st w
  obtain ⟨p, l, e, R, s, m, args, below, meth, c, Q, D, cA, A, ad0, kp, nL'⟩ := X
  rcases st with _ | ⟨v1, _ | ⟨v2, r⟩⟩
  · exact Or.inl fun _ => rfl
  · cases v1 <;> exact Or.inl fun _ => rfl
  cases v1 <;> cases v2 <;> first | exact Or.inl (fun _ => rfl) | exact Or.inr ⟨_, lv, _, w, fun _ => rfl, id, fun hc cells slots kk ad H locs ls h0 hP hD hS hl => lv_lshl hB.1 hB.2.1 hd rfl (kk ad H locs ls h0 hP hD hS hl)⟩
def x_lshr : mj_T := fun C lv st w k => match st with
  | .int y :: .long x :: r => k (C) lv (.long (x >>> (y.toInt64 &&& 63)) :: r) w
  | _ => none
theorem mj_lshr (hd : decode cc pc = .ok (.lshr, 1)) : mj_Snd G (own, nm, cc, nL) pc (x_lshr) (pc + 1) := by
  intro X hB C lv st w
  obtain ⟨p, l, e, R, s, m, args, below, meth, c, Q, D, cA, A, ad0, kp, nL'⟩ := X
  rcases st with _ | ⟨v1, _ | ⟨v2, r⟩⟩
  · exact Or.inl fun _ => rfl
  · cases v1 <;> exact Or.inl fun _ => rfl
  cases v1 <;> cases v2 <;> first | exact Or.inl (fun _ => rfl) | exact Or.inr ⟨_, lv, _, w, fun _ => rfl, id, fun hc cells slots kk ad H locs ls h0 hP hD hS hl => lv_lshr hB.1 hB.2.1 hd rfl (kk ad H locs ls h0 hP hD hS hl)⟩
def x_lushr : mj_T := fun C lv st w k => match st with
  | .int y :: .long x :: r => k (C) lv (.long ((x.toUInt64 >>> (y.toInt64.toUInt64 &&& Int64.toUInt64 63)).toInt64) :: r) w
  | _ => none
theorem mj_lushr (hd : decode cc pc = .ok (.lushr, 1)) : mj_Snd G (own, nm, cc, nL) pc (x_lushr) (pc + 1) := by
  intro X hB C lv st w
  obtain ⟨p, l, e, R, s, m, args, below, meth, c, Q, D, cA, A, ad0, kp, nL'⟩ := X
  rcases st with _ | ⟨v1, _ | ⟨v2, r⟩⟩
  · exact Or.inl fun _ => rfl
  · cases v1 <;> exact Or.inl fun _ => rfl
  cases v1 <;> cases v2 <;> first | exact Or.inl (fun _ => rfl) | exact Or.inr ⟨_, lv, _, w, fun _ => rfl, id, fun hc cells slots kk ad H locs ls h0 hP hD hS hl => lv_lushr hB.1 hB.2.1 hd rfl (kk ad H locs ls h0 hP hD hS hl)⟩
def x_lcmp : mj_T := fun C lv st w k => match st with
  | .long y :: .long x :: r => k (C) lv (.int (lg_cmp x y) :: r) w
  | _ => none
theorem mj_lcmp (hd : decode cc pc = .ok (.lcmp, 1)) : mj_Snd G (own, nm, cc, nL) pc (x_lcmp) (pc + 1) := by
  intro X hB C lv st w
  obtain ⟨p, l, e, R, s, m, args, below, meth, c, Q, D, cA, A, ad0, kp, nL'⟩ := X
  rcases st with _ | ⟨v1, _ | ⟨v2, r⟩⟩
  · exact Or.inl fun _ => rfl
  · cases v1 <;> exact Or.inl fun _ => rfl
  cases v1 <;> cases v2 <;> first | exact Or.inl (fun _ => rfl) | exact Or.inr ⟨_, lv, _, w, fun _ => rfl, id, fun hc cells slots kk ad H locs ls h0 hP hD hS hl => W.lcmp hB.1 hB.2.1 hd (kk ad H locs ls h0 hP hD hS hl)⟩
def x_i2l : mj_T := fun C lv st w k => match st with
  | .int x :: r => k (C) lv (.long x.toInt64 :: r) w
  | _ => none
theorem mj_i2l (hd : decode cc pc = .ok (.i2l, 1)) : mj_Snd G (own, nm, cc, nL) pc (x_i2l) (pc + 1) := by
  intro X hB C lv st w
  obtain ⟨p, l, e, R, s, m, args, below, meth, c, Q, D, cA, A, ad0, kp, nL'⟩ := X
  rcases st with _ | ⟨v1, r⟩
  · exact Or.inl fun _ => rfl
  cases v1 <;> first | exact Or.inl (fun _ => rfl) | exact Or.inr ⟨_, lv, _, w, fun _ => rfl, id, fun hc cells slots kk ad H locs ls h0 hP hD hS hl => lv_i2l hB.1 hB.2.1 hd rfl (kk ad H locs ls h0 hP hD hS hl)⟩
def x_l2i : mj_T := fun C lv st w k => match st with
  | .long x :: r => k (C) lv (.int x.toInt32 :: r) w
  | _ => none
theorem mj_l2i (hd : decode cc pc = .ok (.l2i, 1)) : mj_Snd G (own, nm, cc, nL) pc (x_l2i) (pc + 1) := by
  intro X hB C lv st w
  obtain ⟨p, l, e, R, s, m, args, below, meth, c, Q, D, cA, A, ad0, kp, nL'⟩ := X
  rcases st with _ | ⟨v1, r⟩
  · exact Or.inl fun _ => rfl
  cases v1 <;> first | exact Or.inl (fun _ => rfl) | exact Or.inr ⟨_, lv, _, w, fun _ => rfl, id, fun hc cells slots kk ad H locs ls h0 hP hD hS hl => lv_l2i hB.1 hB.2.1 hd rfl (kk ad H locs ls h0 hP hD hS hl)⟩
def x_const (v : Int32) : mj_T := fun C lv st w k => match st with
  | r => k (C) lv (.int v :: r) w
theorem mj_const {v : Int32} {n : Int} (hv : Int32.ofInt n = v) (hd : decode cc pc = .ok (.iconst n, 1)) : mj_Snd G (own, nm, cc, nL) pc (x_const v) (pc + 1) := by
  intro X hB C lv st w
  obtain ⟨p, l, e, R, s, m, args, below, meth, c, Q, D, cA, A, ad0, kp, nL'⟩ := X
  exact Or.inr ⟨_, lv, _, w, fun _ => rfl, id, fun _ cells slots kk ad H locs ls h0 hP hD hS hl => lv_iconst hB.1 hB.2.1 hd hv (kk ad H locs ls h0 hP hD hS hl)⟩

theorem mj_bipush {v : Int32} {n : Int} (hv : (Int8.ofInt n).toInt32 = v) (hd : decode cc pc = .ok (.bipush n, 2)) : mj_Snd G (own, nm, cc, nL) pc (x_const v) (pc + 2) := by
  intro X hB C lv st w
  obtain ⟨p, l, e, R, s, m, args, below, meth, c, Q, D, cA, A, ad0, kp, nL'⟩ := X
  exact Or.inr ⟨_, lv, _, w, fun _ => rfl, id, fun _ cells slots kk ad H locs ls h0 hP hD hS hl => lv_bipush hB.1 hB.2.1 hd hv (kk ad H locs ls h0 hP hD hS hl)⟩
theorem mj_sipush {v : Int32} {n : Int} (hv : (Int16.ofInt n).toInt32 = v) (hd : decode cc pc = .ok (.sipush n, 3)) : mj_Snd G (own, nm, cc, nL) pc (x_const v) (pc + 3) := by
  intro X hB C lv st w
  obtain ⟨p, l, e, R, s, m, args, below, meth, c, Q, D, cA, A, ad0, kp, nL'⟩ := X
  exact Or.inr ⟨_, lv, _, w, fun _ => rfl, id, fun _ cells slots kk ad H locs ls h0 hP hD hS hl => lv_sipush hB.1 hB.2.1 hd hv (kk ad H locs ls h0 hP hD hS hl)⟩
theorem mj_ldc {v : Int32} {index : Nat} (hw : Jvm.Cond.constant own index v ∈ G.2.1) (hd : decode cc pc = .ok (.ldc index, 2)) : mj_Snd G (own, nm, cc, nL) pc (x_const v) (pc + 2) := by
  intro X hB C lv st w
  obtain ⟨p, l, e, R, s, m, args, below, meth, c, Q, D, cA, A, ad0, kp, nL'⟩ := X
  exact Or.inr ⟨_, lv, _, w, fun _ => rfl, id, fun _ cells slots kk ad H locs ls h0 hP hD hS hl => lv_ldc hB.1 hB.2.1 hB.2.2.2.2.1 (hB.2.2.2.2.2.1 _ hw) hd (kk ad H locs ls h0 hP hD hS hl)⟩
theorem mj_ldcw {v : Int32} {index : Nat} (hw : Jvm.Cond.constant own index v ∈ G.2.1) (hd : decode cc pc = .ok (.ldc_w index, 3)) : mj_Snd G (own, nm, cc, nL) pc (x_const v) (pc + 3) := by
  intro X hB C lv st w
  obtain ⟨p, l, e, R, s, m, args, below, meth, c, Q, D, cA, A, ad0, kp, nL'⟩ := X
  exact Or.inr ⟨_, lv, _, w, fun _ => rfl, id, fun _ cells slots kk ad H locs ls h0 hP hD hS hl => lv_ldcw hB.1 hB.2.1 hB.2.2.2.2.1 (hB.2.2.2.2.2.1 _ hw) hd (kk ad H locs ls h0 hP hD hS hl)⟩
def x_lconst (v : Int64) : mj_T := fun C lv st w k => match st with
  | r => k (C) lv (.long v :: r) w
theorem mj_lconst {v : Int64} {n : Fin 2} (hv : Int64.ofNat (n : Nat) = v) (hd : decode cc pc = .ok (.lconst n, 1)) : mj_Snd G (own, nm, cc, nL) pc (x_lconst v) (pc + 1) := by
  intro X hB C lv st w
  obtain ⟨p, l, e, R, s, m, args, below, meth, c, Q, D, cA, A, ad0, kp, nL'⟩ := X
  exact Or.inr ⟨_, lv, _, w, fun _ => rfl, id, fun _ cells slots kk ad H locs ls h0 hP hD hS hl => lv_lconst hB.1 hB.2.1 hd hv (kk ad H locs ls h0 hP hD hS hl)⟩

theorem mj_ldc2 {v : Int64} {index : Nat} (hw : Jvm.Cond.constantLong own index v ∈ G.2.1) (hd : decode cc pc = .ok (.ldc2_w index, 3)) : mj_Snd G (own, nm, cc, nL) pc (x_lconst v) (pc + 3) := by
  intro X hB C lv st w
  obtain ⟨p, l, e, R, s, m, args, below, meth, c, Q, D, cA, A, ad0, kp, nL'⟩ := X
  exact Or.inr ⟨_, lv, _, w, fun _ => rfl, id, fun _ cells slots kk ad H locs ls h0 hP hD hS hl => lv_ldc2 hB.1 hB.2.1 hB.2.2.2.2.1 (hB.2.2.2.2.2.1 _ hw) hd (kk ad H locs ls h0 hP hD hS hl)⟩
def x_null : mj_T := fun C lv st w k => match st with
  | r => k (C) lv (.null :: r) w
theorem mj_null (hd : decode cc pc = .ok (.aconst_null, 1)) : mj_Snd G (own, nm, cc, nL) pc (x_null) (pc + 1) := by
  intro X hB C lv st w
  obtain ⟨p, l, e, R, s, m, args, below, meth, c, Q, D, cA, A, ad0, kp, nL'⟩ := X
  exact Or.inr ⟨_, lv, _, w, fun _ => rfl, id, fun _ cells slots kk ad H locs ls h0 hP hD hS hl => lv_null hB.1 hB.2.1 hd (kk ad H locs ls h0 hP hD hS hl)⟩

def x_skip : mj_T := fun C lv st w k => k C lv st w
theorem mj_goto {off : Int} {tgt : Nat} (ht : (pc : Int) + off = (tgt : Int)) (hd : decode cc pc = .ok (.goto off, 3)) : mj_Snd G (own, nm, cc, nL) pc x_skip tgt := by
  intro X hB C lv st w
  obtain ⟨p, l, e, R, s, m, args, below, meth, c, Q, D, cA, A, ad0, kp, nL'⟩ := X
  exact Or.inr ⟨_, lv, _, w, fun _ => rfl, id, fun _ cells slots kk ad H locs ls h0 hP hD hS hl => lv_goto hB.1 hB.2.1 hd ht (kk ad H locs ls h0 hP hD hS hl)⟩
def x_dup : mj_T := fun C lv st w k => match st with
  | a1 :: r => bif Nat.beq a1.category 1 then (k C lv (a1 :: a1 :: r) w) else none
  | _ => none
theorem mj_dup (hd : decode cc pc = .ok (.dup, 1)) : mj_Snd G (own, nm, cc, nL) pc x_dup (pc + 1) := by
  intro X hB C lv st w
  obtain ⟨p, l, e, R, s, m, args, below, meth, c, Q, D, cA, A, ad0, kp, nL'⟩ := X
  rcases st with _ | ⟨v1, r⟩
  · exact Or.inl fun _ => rfl
  cases v1 <;> first | exact Or.inl (fun _ => rfl) | exact Or.inr ⟨C, lv, _, w, fun _ => rfl, id, fun _ cells slots kk ad H locs ls h0 hP hD hS hl => lv_dup hB.1 hB.2.1 hd rfl (kk ad H locs ls h0 hP hD hS hl)⟩
def x_pop : mj_T := fun C lv st w k => match st with
  | a1 :: r => bif Nat.beq a1.category 1 then k C lv r w else none
  | _ => none
theorem mj_pop (hd : decode cc pc = .ok (.pop, 1)) : mj_Snd G (own, nm, cc, nL) pc x_pop (pc + 1) := by
  intro X hB C lv st w
  obtain ⟨p, l, e, R, s, m, args, below, meth, c, Q, D, cA, A, ad0, kp, nL'⟩ := X
  rcases st with _ | ⟨v1, r⟩
  · exact Or.inl fun _ => rfl
  cases v1 <;> first | exact Or.inl (fun _ => rfl) | exact Or.inr ⟨C, lv, _, w, fun _ => rfl, id, fun _ cells slots kk ad H locs ls h0 hP hD hS hl => lv_pop hB.1 hB.2.1 hd rfl (kk ad H locs ls h0 hP hD hS hl)⟩
def x_dup_x1 : mj_T := fun C lv st w k => match st with
  | a1 :: a2 :: r => bif Nat.beq a1.category 1 then (bif Nat.beq a2.category 1 then (k C lv (a1 :: a2 :: a1 :: r) w) else none) else none
  | _ => none
theorem mj_dup_x1 (hd : decode cc pc = .ok (.dup_x1, 1)) : mj_Snd G (own, nm, cc, nL) pc x_dup_x1 (pc + 1) := by
  intro X hB C lv st w
  obtain ⟨p, l, e, R, s, m, args, below, meth, c, Q, D, cA, A, ad0, kp, nL'⟩ := X
  rcases st with _ | ⟨v1, _ | ⟨v2, r⟩⟩
  · exact Or.inl fun _ => rfl
  · exact Or.inl fun _ => rfl
  cases v1 <;> cases v2 <;> first | exact Or.inl (fun _ => rfl) | exact Or.inr ⟨C, lv, _, w, fun _ => rfl, id, fun _ cells slots kk ad H locs ls h0 hP hD hS hl => lv_dup_x1 hB.1 hB.2.1 hd rfl rfl (kk ad H locs ls h0 hP hD hS hl)⟩
def x_dup2 : mj_T := fun C lv st w k => match st with
  | a1 :: a2 :: r => bif Nat.beq a1.category 1 then (bif Nat.beq a2.category 1 then (k C lv (a1 :: a2 :: a1 :: a2 :: r) w) else none) else none
  | _ => none
theorem mj_dup2 (hd : decode cc pc = .ok (.dup2, 1)) : mj_Snd G (own, nm, cc, nL) pc x_dup2 (pc + 1) := by
  intro X hB C lv st w
  obtain ⟨p, l, e, R, s, m, args, below, meth, c, Q, D, cA, A, ad0, kp, nL'⟩ := X
  rcases st with _ | ⟨v1, _ | ⟨v2, r⟩⟩
  · exact Or.inl fun _ => rfl
  · exact Or.inl fun _ => rfl
  cases v1 <;> cases v2 <;> first | exact Or.inl (fun _ => rfl) | exact Or.inr ⟨C, lv, _, w, fun _ => rfl, id, fun _ cells slots kk ad H locs ls h0 hP hD hS hl => lv_dup2_11 hB.1 hB.2.1 hd rfl rfl (kk ad H locs ls h0 hP hD hS hl)⟩
def x_iload (i : Nat) : mj_T := fun C lv st w k => mj_lk lv i fun v => match v with
  | .int x => k C lv (.int x :: st) w
  | _ => none
theorem mj_iload_n {j : Fin 4} {i : Nat} (hi : (j : Nat) = i) (hd : decode cc pc = .ok (.iload_n j, 1)) : mj_Snd G (own, nm, cc, nL) pc (x_iload i) (pc + 1) := by
  intro X hB C lv st w
  obtain ⟨p, l, e, R, s, m, args, below, meth, c, Q, D, cA, A, ad0, kp, nL'⟩ := X
  rcases mj_lk_or lv i with h | ⟨v, q0, h, hq⟩
  · exact Or.inl fun k => h _
  cases v <;> first | exact Or.inr ⟨C, lv, _, w, fun k => h _, id, fun _ cells slots kk ad H locs ls h0 hP hD hS hl => lv_iload_n hB.1 hB.2.1 hd hi (lv_at hl q0 (mj_l_at hq)) (kk ad H locs ls h0 hP hD hS hl)⟩ | exact Or.inl (fun k => h _)
theorem mj_iload {i : Nat} (hd : decode cc pc = .ok (.iload i, 2)) : mj_Snd G (own, nm, cc, nL) pc (x_iload i) (pc + 2) := by
  intro X hB C lv st w
  obtain ⟨p, l, e, R, s, m, args, below, meth, c, Q, D, cA, A, ad0, kp, nL'⟩ := X
  rcases mj_lk_or lv i with h | ⟨v, q0, h, hq⟩
  · exact Or.inl fun k => h _
  cases v <;> first | exact Or.inr ⟨C, lv, _, w, fun k => h _, id, fun _ cells slots kk ad H locs ls h0 hP hD hS hl => lv_iload hB.1 hB.2.1 hd (lv_at hl q0 (mj_l_at hq)) (kk ad H locs ls h0 hP hD hS hl)⟩ | exact Or.inl (fun k => h _)
def x_lload (i : Nat) : mj_T := fun C lv st w k => mj_lk lv i fun v => match v with
  | .long x => k C lv (.long x :: st) w
  | _ => none
theorem mj_lload_n {j : Fin 4} {i : Nat} (hi : (j : Nat) = i) (hd : decode cc pc = .ok (.lload_n j, 1)) : mj_Snd G (own, nm, cc, nL) pc (x_lload i) (pc + 1) := by
  intro X hB C lv st w
  obtain ⟨p, l, e, R, s, m, args, below, meth, c, Q, D, cA, A, ad0, kp, nL'⟩ := X
  rcases mj_lk_or lv i with h | ⟨v, q0, h, hq⟩
  · exact Or.inl fun k => h _
  cases v <;> first | exact Or.inr ⟨C, lv, _, w, fun k => h _, id, fun _ cells slots kk ad H locs ls h0 hP hD hS hl => lv_lload_n hB.1 hB.2.1 hd hi (lv_at hl q0 (mj_l_at hq)) (kk ad H locs ls h0 hP hD hS hl)⟩ | exact Or.inl (fun k => h _)
theorem mj_lload {i : Nat} (hd : decode cc pc = .ok (.lload i, 2)) : mj_Snd G (own, nm, cc, nL) pc (x_lload i) (pc + 2) := by
  intro X hB C lv st w
  obtain ⟨p, l, e, R, s, m, args, below, meth, c, Q, D, cA, A, ad0, kp, nL'⟩ := X
  rcases mj_lk_or lv i with h | ⟨v, q0, h, hq⟩
  · exact Or.inl fun k => h _
  cases v <;> first | exact Or.inr ⟨C, lv, _, w, fun k => h _, id, fun _ cells slots kk ad H locs ls h0 hP hD hS hl => lv_lload hB.1 hB.2.1 hd (lv_at hl q0 (mj_l_at hq)) (kk ad H locs ls h0 hP hD hS hl)⟩ | exact Or.inl (fun k => h _)
def x_aload (i : Nat) : mj_T := fun C lv st w k => mj_lk lv i fun v => match v with
  | .ref x => k C lv (.ref x :: st) w
  | .null => k C lv (.null :: st) w
  | _ => none
theorem mj_aload_n {j : Fin 4} {i : Nat} (hi : (j : Nat) = i) (hd : decode cc pc = .ok (.aload_n j, 1)) : mj_Snd G (own, nm, cc, nL) pc (x_aload i) (pc + 1) := by
  intro X hB C lv st w
  obtain ⟨p, l, e, R, s, m, args, below, meth, c, Q, D, cA, A, ad0, kp, nL'⟩ := X
  rcases mj_lk_or lv i with h | ⟨v, q0, h, hq⟩
  · exact Or.inl fun k => h _
  cases v <;> first | exact Or.inr ⟨C, lv, _, w, fun k => h _, id, fun _ cells slots kk ad H locs ls h0 hP hD hS hl => lv_aload_n hB.1 hB.2.1 hd hi (lv_at hl q0 (mj_l_at hq)) (kk ad H locs ls h0 hP hD hS hl)⟩ | exact Or.inr ⟨C, lv, _, w, fun k => h _, id, fun _ cells slots kk ad H locs ls h0 hP hD hS hl => lv_aload_nN hB.1 hB.2.1 hd hi (lv_at hl q0 (mj_l_at hq)) (kk ad H locs ls h0 hP hD hS hl)⟩ | exact Or.inl (fun k => h _)
theorem mj_aload {i : Nat} (hd : decode cc pc = .ok (.aload i, 2)) : mj_Snd G (own, nm, cc, nL) pc (x_aload i) (pc + 2) := by
  intro X hB C lv st w
  obtain ⟨p, l, e, R, s, m, args, below, meth, c, Q, D, cA, A, ad0, kp, nL'⟩ := X
  rcases mj_lk_or lv i with h | ⟨v, q0, h, hq⟩
  · exact Or.inl fun k => h _
  cases v <;> first | exact Or.inr ⟨C, lv, _, w, fun k => h _, id, fun _ cells slots kk ad H locs ls h0 hP hD hS hl => lv_aload hB.1 hB.2.1 hd (lv_at hl q0 (mj_l_at hq)) (kk ad H locs ls h0 hP hD hS hl)⟩ | exact Or.inr ⟨C, lv, _, w, fun k => h _, id, fun _ cells slots kk ad H locs ls h0 hP hD hS hl => lv_aloadN hB.1 hB.2.1 hd (lv_at hl q0 (mj_l_at hq)) (kk ad H locs ls h0 hP hD hS hl)⟩ | exact Or.inl (fun k => h _)
def x_istore (i : Nat) : mj_T := fun C lv st w k => match st with
  | .int x :: r => mj_fi (mj_p1 i) lv fun lv' => k C ((i, .int x) :: lv') r w
  | _ => none
theorem mj_istore_n {j : Fin 4} {i : Nat} (hi : (j : Nat) = i) (hnl : i < nL) (hd : decode cc pc = .ok (.istore_n j, 1)) : mj_Snd G (own, nm, cc, nL) pc (x_istore i) (pc + 1) := by
  intro X hB C lv st w
  obtain ⟨p, l, e, R, s, m, args, below, meth, c, Q, D, cA, A, ad0, kp, nL'⟩ := X
  have hn : nL' = nL := hB.2.2.2.1
  subst hn
  rcases st with _ | ⟨v1, r⟩
  · exact Or.inl fun _ => rfl
  cases v1 <;> first | exact Or.inl (fun _ => rfl) | exact Or.inr ⟨C, (i, _) :: lv.filter (mj_p1 i), r, w, fun k => mj_fi_eq _ _ _, id, fun _ cells slots kk ad H locs ls h0 hP hD hS hl => lv_istore_n hB.1 hB.2.1 hd hi hl hnl rfl (fun ls' hl' => kk ad H locs ls' h0 hP hD hS (by rw [mj_l_p1] at hl'; exact hl'))⟩
theorem mj_istore {i : Nat} (hnl : i < nL) (hd : decode cc pc = .ok (.istore i, 2)) : mj_Snd G (own, nm, cc, nL) pc (x_istore i) (pc + 2) := by
  intro X hB C lv st w
  obtain ⟨p, l, e, R, s, m, args, below, meth, c, Q, D, cA, A, ad0, kp, nL'⟩ := X
  have hn : nL' = nL := hB.2.2.2.1
  subst hn
  rcases st with _ | ⟨v1, r⟩
  · exact Or.inl fun _ => rfl
  cases v1 <;> first | exact Or.inl (fun _ => rfl) | exact Or.inr ⟨C, (i, _) :: lv.filter (mj_p1 i), r, w, fun k => mj_fi_eq _ _ _, id, fun _ cells slots kk ad H locs ls h0 hP hD hS hl => lv_istore hB.1 hB.2.1 hd hl hnl rfl (fun ls' hl' => kk ad H locs ls' h0 hP hD hS (by rw [mj_l_p1] at hl'; exact hl'))⟩
def x_lstore (i : Nat) : mj_T := fun C lv st w k => match st with
  | .long x :: r => mj_fi (mj_p2 i) lv fun lv' => k C ((i, .long x) :: lv') r w
  | _ => none
theorem mj_lstore_n {j : Fin 4} {i : Nat} (hi : (j : Nat) = i) (hnl : i + 1 < nL) (hd : decode cc pc = .ok (.lstore_n j, 1)) : mj_Snd G (own, nm, cc, nL) pc (x_lstore i) (pc + 1) := by
  intro X hB C lv st w
  obtain ⟨p, l, e, R, s, m, args, below, meth, c, Q, D, cA, A, ad0, kp, nL'⟩ := X
  have hn : nL' = nL := hB.2.2.2.1
  subst hn
  rcases st with _ | ⟨v1, r⟩
  · exact Or.inl fun _ => rfl
  cases v1 <;> first | exact Or.inl (fun _ => rfl) | exact Or.inr ⟨C, (i, _) :: lv.filter (mj_p2 i), r, w, fun k => mj_fi_eq _ _ _, id, fun _ cells slots kk ad H locs ls h0 hP hD hS hl => lv_lstore_n hB.1 hB.2.1 hd hi hl hnl rfl (fun ls' hl' => kk ad H locs ls' h0 hP hD hS (by rw [mj_l_p2] at hl'; exact hl'))⟩
theorem mj_lstore {i : Nat} (hnl : i + 1 < nL) (hd : decode cc pc = .ok (.lstore i, 2)) : mj_Snd G (own, nm, cc, nL) pc (x_lstore i) (pc + 2) := by
  intro X hB C lv st w
  obtain ⟨p, l, e, R, s, m, args, below, meth, c, Q, D, cA, A, ad0, kp, nL'⟩ := X
  have hn : nL' = nL := hB.2.2.2.1
  subst hn
  rcases st with _ | ⟨v1, r⟩
  · exact Or.inl fun _ => rfl
  cases v1 <;> first | exact Or.inl (fun _ => rfl) | exact Or.inr ⟨C, (i, _) :: lv.filter (mj_p2 i), r, w, fun k => mj_fi_eq _ _ _, id, fun _ cells slots kk ad H locs ls h0 hP hD hS hl => lv_lstore hB.1 hB.2.1 hd hl hnl rfl (fun ls' hl' => kk ad H locs ls' h0 hP hD hS (by rw [mj_l_p2] at hl'; exact hl'))⟩
def x_astore (i : Nat) : mj_T := fun C lv st w k => match st with
  | .ref x :: r => mj_fi (mj_p1 i) lv fun lv' => k C ((i, .ref x) :: lv') r w
  | .null :: r => mj_fi (mj_p1 i) lv fun lv' => k C ((i, .null) :: lv') r w
  | _ => none
theorem mj_astore_n {j : Fin 4} {i : Nat} (hi : (j : Nat) = i) (hnl : i < nL) (hd : decode cc pc = .ok (.astore_n j, 1)) : mj_Snd G (own, nm, cc, nL) pc (x_astore i) (pc + 1) := by
  intro X hB C lv st w
  obtain ⟨p, l, e, R, s, m, args, below, meth, c, Q, D, cA, A, ad0, kp, nL'⟩ := X
  have hn : nL' = nL := hB.2.2.2.1
  subst hn
  rcases st with _ | ⟨v1, r⟩
  · exact Or.inl fun _ => rfl
  cases v1 <;> first | exact Or.inl (fun _ => rfl) | exact Or.inr ⟨C, (i, _) :: lv.filter (mj_p1 i), r, w, fun k => mj_fi_eq _ _ _, id, fun _ cells slots kk ad H locs ls h0 hP hD hS hl => lv_astore_n hB.1 hB.2.1 hd hi hl hnl rfl (fun ls' hl' => kk ad H locs ls' h0 hP hD hS (by rw [mj_l_p1] at hl'; exact hl'))⟩ | exact Or.inr ⟨C, (i, _) :: lv.filter (mj_p1 i), r, w, fun k => mj_fi_eq _ _ _, id, fun _ cells slots kk ad H locs ls h0 hP hD hS hl => lv_astore_nN hB.1 hB.2.1 hd hi hl hnl rfl (fun ls' hl' => kk ad H locs ls' h0 hP hD hS (by rw [mj_l_p1] at hl'; exact hl'))⟩
theorem mj_astore {i : Nat} (hnl : i < nL) (hd : decode cc pc = .ok (.astore i, 2)) : mj_Snd G (own, nm, cc, nL) pc (x_astore i) (pc + 2) := by
  intro X hB C lv st w
  obtain ⟨p, l, e, R, s, m, args, below, meth, c, Q, D, cA, A, ad0, kp, nL'⟩ := X
  have hn : nL' = nL := hB.2.2.2.1
  subst hn
  rcases st with _ | ⟨v1, r⟩
  · exact Or.inl fun _ => rfl
  cases v1 <;> first | exact Or.inl (fun _ => rfl) | exact Or.inr ⟨C, (i, _) :: lv.filter (mj_p1 i), r, w, fun k => mj_fi_eq _ _ _, id, fun _ cells slots kk ad H locs ls h0 hP hD hS hl => lv_astore hB.1 hB.2.1 hd hl hnl rfl (fun ls' hl' => kk ad H locs ls' h0 hP hD hS (by rw [mj_l_p1] at hl'; exact hl'))⟩ | exact Or.inr ⟨C, (i, _) :: lv.filter (mj_p1 i), r, w, fun k => mj_fi_eq _ _ _, id, fun _ cells slots kk ad H locs ls h0 hP hD hS hl => lv_astoreN hB.1 hB.2.1 hd hl hnl rfl (fun ls' hl' => kk ad H locs ls' h0 hP hD hS (by rw [mj_l_p1] at hl'; exact hl'))⟩
def x_iinc (i : Nat) (d : Int32) : mj_T := fun C lv st w k => mj_lk lv i fun v => match v with
  | .int x => mj_fi (mj_p1 i) lv fun lv' => k C ((i, .int (x + d)) :: lv') st w
  | _ => none
theorem mj_iinc {i : Nat} {n : Int} {d : Int32} (hv : Int32.ofInt n = d) (hnl : i < nL) (hd : decode cc pc = .ok (.iinc i n, 3)) : mj_Snd G (own, nm, cc, nL) pc (x_iinc i d) (pc + 3) := by
  intro X hB C lv st w
  obtain ⟨p, l, e, R, s, m, args, below, meth, c, Q, D, cA, A, ad0, kp, nL'⟩ := X
  have hn : nL' = nL := hB.2.2.2.1
  subst hn
  rcases mj_lk_or lv i with h | ⟨v, q0, h, hq⟩
  · exact Or.inl fun k => h _
  cases v <;> first | exact Or.inr ⟨C, (i, .int (_ + d)) :: lv.filter (mj_p1 i), st, w, fun k => (h _).trans (mj_fi_eq _ _ _), id, fun _ cells slots kk ad H locs ls h0 hP hD hS hl => lv_iinc hB.1 hB.2.1 hd hl (mj_l_at hq) (by rw [hv]) hnl rfl (fun ls' hl' => kk ad H locs ls' h0 hP hD hS (by rw [mj_l_p1] at hl'; exact hl'))⟩ | exact Or.inl (fun k => h _)
end MJO
end
section
/-! fields and arrays -/
section MJH
variable {G : mj_G} {own nm : String} {cc : ByteArray} {nL pc : Nat}
def x_getf (ci kf : Nat) : mj_T := fun C lv st w k => match st with
  | .ref a :: r => mj_lk w a fun e => match e with
    | .inr (c, fs) => bif Nat.beq c ci then mj_nt fs kf (fun v => k C lv (v :: r) w) else none
    | _ => none
  | _ => none
theorem mj_getf {C0 : String} {T : u_T} {N index ci kf : Nat} (hc : G.1[ci]? = some (C0, T, N)) (hk : kf < N) (hin : ∀ w ∈ u_ws C0 T N, w ∈ G.2.1) (hlink : Cond.fieldLink own index (T kf).1 (T kf).2.1 (T kf).2.2.1 ∈ G.2.1) (hd : decode cc pc = .ok (.getfield index, 3)) : mj_Snd G (own, nm, cc, nL) pc (x_getf ci kf) (pc + 3) := by
  intro X hB C lv st w
  obtain ⟨p, l, e, R, s, m, args, below, meth, c, Q, D, cA, A, ad0, kp, nL'⟩ := X
  rcases st with _ | ⟨v1, r⟩
  · exact Or.inl fun _ => rfl
  cases v1 with
  | ref a =>
    rcases mj_wk_or w a with h | ⟨v, q0, h, hq, -⟩
    · exact Or.inl fun k => h _
    · rcases v with v | ⟨c0, fs⟩
      · exact Or.inl fun k => h _
      · by_cases hcc : c0 = ci
        · subst hcc
          rcases mj_nt_or fs kf with h2 | ⟨x, h2, hx⟩
          · exact Or.inl fun k => (h _).trans (by show (bif Nat.beq c0 c0 then _ else _) = _; rw [mj_bq]; exact h2 _)
          · refine Or.inr ⟨C, lv, x :: r, w, fun k => (h _).trans (by show (bif Nat.beq c0 c0 then _ else _) = _; rw [mj_bq]; exact h2 _), id, fun _ cells slots kk ad H locs ls h0 hP hD hS hl => ?_⟩
            exact va_get hB.1 hB.2.1 hB.2.2.2.2.2.1 hin hB.2.2.2.2.1 hB.2.2.2.2.2.2.1 hP q0 (mj_w_at hq) hc kf hk (hB.2.2.2.2.2.1 _ hlink) (fun _ h => h) (by show (fs.map (mj_v ad))[kf]? = _; rw [List.getElem?_map, hx]; rfl) hd (kk ad H locs ls h0 hP hD hS hl)
        · exact Or.inl fun k => (h _).trans (by show (bif Nat.beq c0 ci then _ else _) = _; rw [mj_bn hcc]; rfl)
  | _ => exact Or.inl fun _ => rfl
def mj_fit (tn : Nat) (v : Value) (C : List Prop) (k : List Prop → mj_S) : mj_S := match v with
  | .int x => bif Nat.beq tn 0 then k C else bif Nat.beq tn 1 then k ((x = 0 ∨ x = 1) :: C) else none
  | .long _ => bif Nat.beq tn 2 then k C else none
  | .ref _ => bif Nat.beq tn 3 then k C else none
  | .null => bif Nat.beq tn 3 then k C else none
  | _ => none
def mj_tyn (ty : FieldType) : Nat := match ty with
  | .int => 0
  | .boolean => 1
  | .long => 2
  | .object _ => 3
  | .array _ => 3
  | _ => 4
theorem mj_fit_or (ty : FieldType) (v : Value) (C : List Prop) : (∀ k, mj_fit (mj_tyn ty) v C k = none) ∨ ∃ C', (∀ k, mj_fit (mj_tyn ty) v C k = k C') ∧ (mj_al C' → mj_al C) ∧ (mj_al C' → ∀ ad : Nat → Nat, narrow ty (mj_v ad v) = mj_v ad v ∧ fits ty (mj_v ad v) = true) := by
  cases ty <;> cases v <;> first
    | exact Or.inl (fun _ => rfl)
    | exact Or.inr ⟨C, fun _ => rfl, id, fun _ ad => ⟨rfl, rfl⟩⟩
    | exact Or.inr ⟨_ :: C, fun _ => rfl, fun h => h.2, fun h ad => by
        rcases h.1 with h1 | h1
        · subst h1
          exact (show narrow .boolean (.int 0) = .int 0 ∧ fits .boolean (.int 0) = true from ⟨by decide, by decide⟩)
        · subst h1
          exact (show narrow .boolean (.int 1) = .int 1 ∧ fits .boolean (.int 1) = true from ⟨by decide, by decide⟩)⟩
def x_putf (ci kf tn : Nat) : mj_T := fun C lv st w k => match st with
  | v :: .ref a :: r => mj_lk w a fun e => match e with
    | .inr (c, fs) => bif Nat.beq c ci then mj_nt fs kf (fun _ => mj_fit tn v C (fun C' => mj_ns fs kf v (fun fs' => mj_st w a (.inr (c, fs')) (fun w' => k C' lv r w')))) else none
    | _ => none
  | _ => none
theorem mj_map_set {ad : Nat → Nat} {fs : List Value} {k : Nat} {v : Value} : (fs.set k v).map (mj_v ad) = (fs.map (mj_v ad)).set k (mj_v ad v) := by simp [List.map_set]
theorem mj_putG {C0 : String} {T : u_T} {N index ci kf : Nat} {ty0 : Nat → FieldType} (hc : G.1[ci]? = some (C0, T, N)) (hk : kf < N) (hin : ∀ w ∈ u_ws C0 T N, w ∈ G.2.1) (hty : ∀ k, k < N → parseFieldDescriptor (T k).2.2.1 = some (ty0 k)) (hnm : ∀ a, a < N → ∀ b, b < N → a ≠ b → (T a).2.1 ≠ (T b).2.1) (hlink : Cond.fieldLink own index (T kf).1 (T kf).2.1 (T kf).2.2.1 ∈ G.2.1) (hfin : (T kf).2.2.2 = false ∨ ((T kf).2.2.2 = true ∧ nm = "<init>" ∧ (T kf).1 = own)) (hd : decode cc pc = .ok (.putfield index, 3)) : mj_Snd G (own, nm, cc, nL) pc (x_putf ci kf (mj_tyn (ty0 kf))) (pc + 3) := by
  intro X hB C lv st w
  obtain ⟨p, l, e, R, s, m, args, below, meth, c, Q, D, cA, A, ad0, kp, nL'⟩ := X
  rcases st with _ | ⟨x, _ | ⟨v2, r⟩⟩
  · exact Or.inl fun _ => rfl
  · exact Or.inl fun _ => rfl
  cases v2 with
  | ref a =>
    rcases mj_wk_or w a with h | ⟨v, q0, h, hq, hst⟩
    · exact Or.inl fun k => h _
    · rcases v with v | ⟨c0, fs⟩
      · exact Or.inl fun k => h _
      · by_cases hcc : c0 = ci
        · subst hcc
          rcases mj_nt_or fs kf with h2 | ⟨y, h2, hy⟩
          · exact Or.inl fun k => (h _).trans (by show (bif Nat.beq c0 c0 then _ else _) = _; rw [mj_bq]; exact h2 _)
          · rcases mj_fit_or (ty0 kf) x C with h3 | ⟨C', h3, h4, h5⟩
            · exact Or.inl fun k => (h _).trans (by show (bif Nat.beq c0 c0 then _ else _) = _; rw [mj_bq]; exact (h2 _).trans (h3 _))
            · refine Or.inr ⟨C', lv, r, w.set q0 (a, .inr (c0, fs.set kf x)), fun k => (h _).trans (by show (bif Nat.beq c0 c0 then _ else _) = _; rw [mj_bq]; exact (h2 _).trans ((h3 _).trans ((mj_ns_eq _ _ _ _).trans (hst _ _)))), h4, fun hC cells slots kk ad H locs ls h0 hP hD hS hl => ?_⟩
              have hlen : kf < (fs.map (mj_v ad)).length := by
                rw [List.length_map]
                exact (List.getElem?_eq_some_iff.mp hy).1
              have kk2 : ∀ (H1 : Heap) (locs1 : List Loc), va_P D G.1 ((mj_w ad cA w).set q0 (ad a, .inr (c0, (fs.map (mj_v ad)).set kf (mj_v ad x)))) H1 → va_D A ((mj_w ad cA w).set q0 (ad a, .inr (c0, (fs.map (mj_v ad)).set kf (mj_v ad x)))) → va_S A s.heap H1 locs1 → W p l e R s m args below meth c H1 locs1 cells slots Q (F0 m (pc + 3) ls (r.map (mj_v ad))) := by
                intro H1 locs1 hP1 hD1 hS1
                have e1 : mj_w ad cA (w.set q0 (a, .inr (c0, fs.set kf x))) = (mj_w ad cA w).set q0 (ad a, .inr (c0, (fs.map (mj_v ad)).set kf (mj_v ad x))) := by
                  rw [mj_w_set]
                  show (mj_w ad cA w).set q0 (ad a, .inr (c0, (fs.set kf x).map (mj_v ad))) = _
                  rw [mj_map_set]
                exact kk ad H1 locs1 ls h0 (by rw [e1]; exact hP1) (by rw [e1]; exact hD1) hS1 hl
              rcases hfin with hf | ⟨hf, hi, ho⟩
              · exact va_put hB.1 hB.2.1 hB.2.2.2.2.2.1 hin ty0 hty hnm hB.2.2.2.2.1 hB.2.2.2.2.2.2.1 hP hD hS q0 (mj_w_at hq) hc kf hk (hB.2.2.2.2.2.1 _ hlink) (fun _ h => h) hf (hty kf hk) (h5 hC ad).1 (h5 hC ad).2 hlen hd kk2
              · exact va_putF hB.1 hB.2.1 hB.2.2.2.2.2.1 hin ty0 hty hnm hB.2.2.2.2.1 hB.2.2.2.2.2.2.1 hP hD hS q0 (mj_w_at hq) hc kf hk (hB.2.2.2.2.2.1 _ hlink) (fun _ h => h) hf (hB.2.2.2.2.2.2.2.2.trans hi) ho (hty kf hk) (h5 hC ad).1 (h5 hC ad).2 hlen hd kk2
        · exact Or.inl fun k => (h _).trans (by show (bif Nat.beq c0 ci then _ else _) = _; rw [mj_bn hcc]; rfl)
  | _ => exact Or.inl fun _ => rfl
/-- int[] and boolean[] and long[]: t is the place of the type in G.2.2 -/
def x_iald (t0 : Nat) : mj_T := fun C lv st w k => match st with
  | .int i :: .ref a :: r => mj_lk w a fun e => match e with
    | .inl (t, n, .inl f) => bif Nat.beq t t0 then k (vp_in i n :: C) lv (.int (f i.toNatClampNeg) :: r) w else none
    | _ => none
  | _ => none
theorem mj_iald {t0 : Nat} (hG : G.2.2[t0]? = some .int) (hd : decode cc pc = .ok (.iaload, 1)) : mj_Snd G (own, nm, cc, nL) pc (x_iald t0) (pc + 1) := by
  intro X hB C lv st w
  obtain ⟨p, l, e, R, s, m, args, below, meth, c, Q, D, cA, A, ad0, kp, nL'⟩ := X
  rcases st with _ | ⟨v1, _ | ⟨v2, r⟩⟩
  · exact Or.inl fun _ => rfl
  · cases v1 <;> exact Or.inl fun _ => rfl
  cases v1 <;> cases v2 <;> try exact Or.inl fun _ => rfl
  rename_i i a
  rcases mj_wk_or w a with h | ⟨v, q0, h, hq, -⟩
  · exact Or.inl fun k => h _
  rcases v with ⟨t, n, f | f | f⟩ | v
  · by_cases ht : t = t0
    · subst ht
      exact Or.inr ⟨vp_in i n :: C, lv, .int (f i.toNatClampNeg) :: r, w, fun k => (h _).trans (by show (bif Nat.beq t t then _ else _) = _; rw [mj_bq]; rfl), fun h => h.2, fun hc cells slots kk ad H locs ls h0 hP hD hS hl => va_iald hB.1 hB.2.1 hB.2.2.2.2.2.2.1 hP q0 t (mj_w_at hq) (mj_tys_at hG) hc.1 hd (kk ad H locs ls h0 hP hD hS hl)⟩
    · exact Or.inl fun k => (h _).trans (by show (bif Nat.beq t t0 then _ else _) = _; rw [mj_bn ht]; rfl)
  · exact Or.inl fun k => h _
  · exact Or.inl fun k => h _
  · exact Or.inl fun k => h _
theorem mj_zald {t0 : Nat} (hG : G.2.2[t0]? = some .boolean) (hd : decode cc pc = .ok (.baload, 1)) : mj_Snd G (own, nm, cc, nL) pc (x_iald t0) (pc + 1) := by
  intro X hB C lv st w
  obtain ⟨p, l, e, R, s, m, args, below, meth, c, Q, D, cA, A, ad0, kp, nL'⟩ := X
  rcases st with _ | ⟨v1, _ | ⟨v2, r⟩⟩
  · exact Or.inl fun _ => rfl
  · cases v1 <;> exact Or.inl fun _ => rfl
  cases v1 <;> cases v2 <;> try exact Or.inl fun _ => rfl
  rename_i i a
  rcases mj_wk_or w a with h | ⟨v, q0, h, hq, -⟩
  · exact Or.inl fun k => h _
  rcases v with ⟨t, n, f | f | f⟩ | v
  · by_cases ht : t = t0
    · subst ht
      exact Or.inr ⟨vp_in i n :: C, lv, .int (f i.toNatClampNeg) :: r, w, fun k => (h _).trans (by show (bif Nat.beq t t then _ else _) = _; rw [mj_bq]; rfl), fun h => h.2, fun hc cells slots kk ad H locs ls h0 hP hD hS hl => va_zald hB.1 hB.2.1 hB.2.2.2.2.2.2.1 hP q0 t (mj_w_at hq) (mj_tys_at hG) hc.1 hd (kk ad H locs ls h0 hP hD hS hl)⟩
    · exact Or.inl fun k => (h _).trans (by show (bif Nat.beq t t0 then _ else _) = _; rw [mj_bn ht]; rfl)
  · exact Or.inl fun k => h _
  · exact Or.inl fun k => h _
  · exact Or.inl fun k => h _
def x_iast (t0 : Nat) : mj_T := fun C lv st w k => match st with
  | .int x :: .int i :: .ref a :: r => mj_lk w a fun e => match e with
    | .inl (t, n, .inl f) => bif Nat.beq t t0 then mj_st w a (.inl (t, n, .inl (upd f i.toNatClampNeg x))) (fun w' => k (vp_in i n :: C) lv r w') else none
    | _ => none
  | _ => none
theorem mj_iast {t0 : Nat} (hG : G.2.2[t0]? = some .int) (hd : decode cc pc = .ok (.iastore, 1)) : mj_Snd G (own, nm, cc, nL) pc (x_iast t0) (pc + 1) := by
  intro X hB C lv st w
  obtain ⟨p, l, e, R, s, m, args, below, meth, c, Q, D, cA, A, ad0, kp, nL'⟩ := X
  rcases st with _ | ⟨v1, _ | ⟨v2, _ | ⟨v3, r⟩⟩⟩
  · exact Or.inl fun _ => rfl
  · cases v1 <;> exact Or.inl fun _ => rfl
  · cases v1 <;> cases v2 <;> exact Or.inl fun _ => rfl
  cases v1 <;> try exact Or.inl fun _ => rfl
  cases v2 <;> try exact Or.inl fun _ => rfl
  cases v3 <;> try exact Or.inl fun _ => rfl
  rename_i x i a
  rcases mj_wk_or w a with h | ⟨v, q0, h, hq, hst⟩
  · exact Or.inl fun k => h _
  rcases v with ⟨t, n, f | f | f⟩ | v
  · by_cases ht : t = t0
    · subst ht
      exact Or.inr ⟨vp_in i n :: C, lv, r, w.set q0 (a, .inl (t, n, .inl (upd f i.toNatClampNeg x))), fun k => (h _).trans (by show (bif Nat.beq t t then _ else _) = _; rw [mj_bq]; exact hst _ _), fun h => h.2, fun hc cells slots kk ad H locs ls h0 hP hD hS hl =>
        va_iast hB.1 hB.2.1 hB.2.2.2.2.2.2.1 hP hD hS q0 t (mj_w_at hq) (mj_tys_at hG) hc.1 hd (fun H1 locs1 hP1 hD1 hS1 => kk ad H1 locs1 ls h0 (by rw [mj_w_set]; exact hP1) (by rw [mj_w_set]; exact hD1) hS1 hl)⟩
    · exact Or.inl fun k => (h _).trans (by show (bif Nat.beq t t0 then _ else _) = _; rw [mj_bn ht]; rfl)
  · exact Or.inl fun k => h _
  · exact Or.inl fun k => h _
  · exact Or.inl fun k => h _
def x_zast (t0 : Nat) : mj_T := fun C lv st w k => match st with
  | .int x :: .int i :: .ref a :: r => mj_lk w a fun e => match e with
    | .inl (t, n, .inl f) => bif Nat.beq t t0 then mj_st w a (.inl (t, n, .inl (upd f i.toNatClampNeg x))) (fun w' => k (vp_in i n :: (x = 0 ∨ x = 1) :: C) lv r w') else none
    | _ => none
  | _ => none
theorem mj_nar_b {x : Int32} (h : x = 0 ∨ x = 1) : vp_nar .boolean x = x := by
  rcases h with h | h <;> (subst h; decide)
theorem mj_zast {t0 : Nat} (hG : G.2.2[t0]? = some .boolean) (hd : decode cc pc = .ok (.bastore, 1)) : mj_Snd G (own, nm, cc, nL) pc (x_zast t0) (pc + 1) := by
  intro X hB C lv st w
  obtain ⟨p, l, e, R, s, m, args, below, meth, c, Q, D, cA, A, ad0, kp, nL'⟩ := X
  rcases st with _ | ⟨v1, _ | ⟨v2, _ | ⟨v3, r⟩⟩⟩
  · exact Or.inl fun _ => rfl
  · cases v1 <;> exact Or.inl fun _ => rfl
  · cases v1 <;> cases v2 <;> exact Or.inl fun _ => rfl
  cases v1 <;> try exact Or.inl fun _ => rfl
  cases v2 <;> try exact Or.inl fun _ => rfl
  cases v3 <;> try exact Or.inl fun _ => rfl
  rename_i x i a
  rcases mj_wk_or w a with h | ⟨v, q0, h, hq, hst⟩
  · exact Or.inl fun k => h _
  rcases v with ⟨t, n, f | f | f⟩ | v
  · by_cases ht : t = t0
    · subst ht
      exact Or.inr ⟨vp_in i n :: (x = 0 ∨ x = 1) :: C, lv, r, w.set q0 (a, .inl (t, n, .inl (upd f i.toNatClampNeg x))), fun k => (h _).trans (by show (bif Nat.beq t t then _ else _) = _; rw [mj_bq]; exact hst _ _), fun h => h.2.2, fun hc cells slots kk ad H locs ls h0 hP hD hS hl =>
        va_zast hB.1 hB.2.1 hB.2.2.2.2.2.2.1 hP hD hS q0 t (mj_w_at hq) (mj_tys_at hG) hc.1 hd (fun H1 locs1 hP1 hD1 hS1 => kk ad H1 locs1 ls h0 (by rw [mj_w_set]; rw [mj_nar_b hc.2.1] at hP1; exact hP1) (by rw [mj_w_set]; rw [mj_nar_b hc.2.1] at hD1; exact hD1) hS1 hl)⟩
    · exact Or.inl fun k => (h _).trans (by show (bif Nat.beq t t0 then _ else _) = _; rw [mj_bn ht]; rfl)
  · exact Or.inl fun k => h _
  · exact Or.inl fun k => h _
  · exact Or.inl fun k => h _
def mj_rf : Option Nat → Value
  | some a => .ref a
  | none => .null
theorem mj_rf_v (ad : Nat → Nat) (o : Option Nat) : mj_v ad (mj_rf o) = va_rf (o.map ad) := by cases o <;> rfl
def x_aald (t0 : Nat) : mj_T := fun C lv st w k => match st with
  | .int i :: .ref a :: r => mj_lk w a fun e => match e with
    | .inl (t, n, .inr (.inr f)) => bif Nat.beq t t0 then k (vp_in i n :: C) lv (mj_rf (f.getD i.toNatClampNeg none) :: r) w else none
    | _ => none
  | _ => none
theorem mj_aald {t0 : Nat} {C0 : String} (hG : G.2.2[t0]? = some (.object C0)) (hd : decode cc pc = .ok (.aaload, 1)) : mj_Snd G (own, nm, cc, nL) pc (x_aald t0) (pc + 1) := by
  intro X hB C lv st w
  obtain ⟨p, l, e, R, s, m, args, below, meth, c, Q, D, cA, A, ad0, kp, nL'⟩ := X
  rcases st with _ | ⟨v1, _ | ⟨v2, r⟩⟩
  · exact Or.inl fun _ => rfl
  · cases v1 <;> exact Or.inl fun _ => rfl
  cases v1 <;> cases v2 <;> try exact Or.inl fun _ => rfl
  rename_i i a
  rcases mj_wk_or w a with h | ⟨v, q0, h, hq, -⟩
  · exact Or.inl fun k => h _
  rcases v with ⟨t, n, f | f | f⟩ | v
  · exact Or.inl fun k => h _
  · exact Or.inl fun k => h _
  · by_cases ht : t = t0
    · subst ht
      refine Or.inr ⟨vp_in i n :: C, lv, mj_rf (f.getD i.toNatClampNeg none) :: r, w, fun k => (h _).trans (by show (bif Nat.beq t t then _ else _) = _; rw [mj_bq]; rfl), fun h => h.2, fun hc cells slots kk ad H locs ls h0 hP hD hS hl => ?_⟩
      refine va_aldq hB.1 hB.2.1 hB.2.2.2.2.2.2.1 hP q0 t (mj_w_at hq) (mj_tys_at hG) hc.1 hd ?_
      have k2 := kk ad H locs ls h0 hP hD hS hl
      rw [List.map_cons, mj_rf_v] at k2
      exact k2
    · exact Or.inl fun k => (h _).trans (by show (bif Nat.beq t t0 then _ else _) = _; rw [mj_bn ht]; rfl)
  · exact Or.inl fun k => h _
end MJH
theorem mj_sub_w {ad : Nat → Nat} {cA : Nat → ClassId} {w w' : mj_M} {is : List Nat} (hs : is.map (fun i => w[i]?) = w'.map some) : is.map (fun i => (mj_w ad cA w)[i]?) = (mj_w ad cA w').map some := by
  have h1 : is.map (fun i => (mj_w ad cA w)[i]?) = (is.map (fun i => w[i]?)).map (Option.map (fun q => (ad q.1, mj_e ad cA q.2))) := by
    rw [List.map_map]
    apply List.map_congr_left
    intro i _
    simp [mj_w, List.getElem?_map]
  rw [h1, hs, List.map_map]
  simp [mj_w, List.map_map, Function.comp]
theorem mj_fm_of {α β : Type} {f : α → Option β} {is : List α} {l : List β} (h : is.map f = l.map some) : is.filterMap f = l := by
  induction is generalizing l with
  | nil => cases l with
    | nil => rfl
    | cons a l => cases h
  | cons i is ih => cases l with
    | nil => cases h
    | cons a l =>
      rw [List.map_cons, List.map_cons] at h
      injection h with h1 h2
      rw [List.filterMap_cons, h1, ih h2]
section MJB
variable {G : mj_G} {X : mj_X} {M : mj_Y} {cells slots pc : Nat} {lv : mj_L} {r : List Value} {w : mj_M}
theorem mj_ifeq (hB : mj_B G X M) {x : Int32} {off : Int} {tgt : Nat} (hd : decode M.2.2.1 pc = .ok (.ifCond .eq off, 3)) (ht : (pc : Int) + off = (tgt : Int)) (kt : (x = 0) → mj_W G X cells slots tgt lv r w) (kf : ¬ (x = 0) → mj_W G X cells slots (pc + 3) lv r w) : mj_W G X cells slots pc lv (.int x :: r) w := by
  obtain ⟨p, l, e, R, s, m, args, below, meth, c, Q, D, cA, A, ad0, kp, nL⟩ := X
  exact fun ad H locs ls h0 hP hD hS hl => lv_if_eq hB.1 hB.2.1 hd ht (fun h => kt h ad H locs ls h0 hP hD hS hl) (fun h => kf h ad H locs ls h0 hP hD hS hl)
theorem mj_ifne (hB : mj_B G X M) {x : Int32} {off : Int} {tgt : Nat} (hd : decode M.2.2.1 pc = .ok (.ifCond .ne off, 3)) (ht : (pc : Int) + off = (tgt : Int)) (kt : (¬ x = 0) → mj_W G X cells slots tgt lv r w) (kf : x = 0 → mj_W G X cells slots (pc + 3) lv r w) : mj_W G X cells slots pc lv (.int x :: r) w := by
  obtain ⟨p, l, e, R, s, m, args, below, meth, c, Q, D, cA, A, ad0, kp, nL⟩ := X
  exact fun ad H locs ls h0 hP hD hS hl => lv_if_ne hB.1 hB.2.1 hd ht (fun h => kt h ad H locs ls h0 hP hD hS hl) (fun h => kf h ad H locs ls h0 hP hD hS hl)
theorem mj_iflt (hB : mj_B G X M) {x : Int32} {off : Int} {tgt : Nat} (hd : decode M.2.2.1 pc = .ok (.ifCond .lt off, 3)) (ht : (pc : Int) + off = (tgt : Int)) (kt : (x < 0) → mj_W G X cells slots tgt lv r w) (kf : ¬ (x < 0) → mj_W G X cells slots (pc + 3) lv r w) : mj_W G X cells slots pc lv (.int x :: r) w := by
  obtain ⟨p, l, e, R, s, m, args, below, meth, c, Q, D, cA, A, ad0, kp, nL⟩ := X
  exact fun ad H locs ls h0 hP hD hS hl => lv_if_lt hB.1 hB.2.1 hd ht (fun h => kt h ad H locs ls h0 hP hD hS hl) (fun h => kf h ad H locs ls h0 hP hD hS hl)
theorem mj_ifge (hB : mj_B G X M) {x : Int32} {off : Int} {tgt : Nat} (hd : decode M.2.2.1 pc = .ok (.ifCond .ge off, 3)) (ht : (pc : Int) + off = (tgt : Int)) (kt : (0 ≤ x) → mj_W G X cells slots tgt lv r w) (kf : ¬ (0 ≤ x) → mj_W G X cells slots (pc + 3) lv r w) : mj_W G X cells slots pc lv (.int x :: r) w := by
  obtain ⟨p, l, e, R, s, m, args, below, meth, c, Q, D, cA, A, ad0, kp, nL⟩ := X
  exact fun ad H locs ls h0 hP hD hS hl => lv_if_ge hB.1 hB.2.1 hd ht (fun h => kt h ad H locs ls h0 hP hD hS hl) (fun h => kf h ad H locs ls h0 hP hD hS hl)
theorem mj_ifgt (hB : mj_B G X M) {x : Int32} {off : Int} {tgt : Nat} (hd : decode M.2.2.1 pc = .ok (.ifCond .gt off, 3)) (ht : (pc : Int) + off = (tgt : Int)) (kt : (0 < x) → mj_W G X cells slots tgt lv r w) (kf : ¬ (0 < x) → mj_W G X cells slots (pc + 3) lv r w) : mj_W G X cells slots pc lv (.int x :: r) w := by
  obtain ⟨p, l, e, R, s, m, args, below, meth, c, Q, D, cA, A, ad0, kp, nL⟩ := X
  exact fun ad H locs ls h0 hP hD hS hl => lv_if_gt hB.1 hB.2.1 hd ht (fun h => kt h ad H locs ls h0 hP hD hS hl) (fun h => kf h ad H locs ls h0 hP hD hS hl)
theorem mj_ifle (hB : mj_B G X M) {x : Int32} {off : Int} {tgt : Nat} (hd : decode M.2.2.1 pc = .ok (.ifCond .le off, 3)) (ht : (pc : Int) + off = (tgt : Int)) (kt : (x ≤ 0) → mj_W G X cells slots tgt lv r w) (kf : ¬ (x ≤ 0) → mj_W G X cells slots (pc + 3) lv r w) : mj_W G X cells slots pc lv (.int x :: r) w := by
  obtain ⟨p, l, e, R, s, m, args, below, meth, c, Q, D, cA, A, ad0, kp, nL⟩ := X
  exact fun ad H locs ls h0 hP hD hS hl => lv_if_le hB.1 hB.2.1 hd ht (fun h => kt h ad H locs ls h0 hP hD hS hl) (fun h => kf h ad H locs ls h0 hP hD hS hl)
theorem mj_iceq (hB : mj_B G X M) {x y : Int32} {off : Int} {tgt : Nat} (hd : decode M.2.2.1 pc = .ok (.if_icmp .eq off, 3)) (ht : (pc : Int) + off = (tgt : Int)) (kt : (x = y) → mj_W G X cells slots tgt lv r w) (kf : ¬ (x = y) → mj_W G X cells slots (pc + 3) lv r w) : mj_W G X cells slots pc lv (.int y :: .int x :: r) w := by
  obtain ⟨p, l, e, R, s, m, args, below, meth, c, Q, D, cA, A, ad0, kp, nL⟩ := X
  exact fun ad H locs ls h0 hP hD hS hl => lv_icmp_eq hB.1 hB.2.1 hd ht (fun h => kt h ad H locs ls h0 hP hD hS hl) (fun h => kf h ad H locs ls h0 hP hD hS hl)
theorem mj_icne (hB : mj_B G X M) {x y : Int32} {off : Int} {tgt : Nat} (hd : decode M.2.2.1 pc = .ok (.if_icmp .ne off, 3)) (ht : (pc : Int) + off = (tgt : Int)) (kt : (¬ x = y) → mj_W G X cells slots tgt lv r w) (kf : x = y → mj_W G X cells slots (pc + 3) lv r w) : mj_W G X cells slots pc lv (.int y :: .int x :: r) w := by
  obtain ⟨p, l, e, R, s, m, args, below, meth, c, Q, D, cA, A, ad0, kp, nL⟩ := X
  exact fun ad H locs ls h0 hP hD hS hl => lv_icmp_ne hB.1 hB.2.1 hd ht (fun h => kt h ad H locs ls h0 hP hD hS hl) (fun h => kf h ad H locs ls h0 hP hD hS hl)
theorem mj_iclt (hB : mj_B G X M) {x y : Int32} {off : Int} {tgt : Nat} (hd : decode M.2.2.1 pc = .ok (.if_icmp .lt off, 3)) (ht : (pc : Int) + off = (tgt : Int)) (kt : (x < y) → mj_W G X cells slots tgt lv r w) (kf : ¬ (x < y) → mj_W G X cells slots (pc + 3) lv r w) : mj_W G X cells slots pc lv (.int y :: .int x :: r) w := by
  obtain ⟨p, l, e, R, s, m, args, below, meth, c, Q, D, cA, A, ad0, kp, nL⟩ := X
  exact fun ad H locs ls h0 hP hD hS hl => lv_icmp_lt hB.1 hB.2.1 hd ht (fun h => kt h ad H locs ls h0 hP hD hS hl) (fun h => kf h ad H locs ls h0 hP hD hS hl)
theorem mj_icge (hB : mj_B G X M) {x y : Int32} {off : Int} {tgt : Nat} (hd : decode M.2.2.1 pc = .ok (.if_icmp .ge off, 3)) (ht : (pc : Int) + off = (tgt : Int)) (kt : (y ≤ x) → mj_W G X cells slots tgt lv r w) (kf : ¬ (y ≤ x) → mj_W G X cells slots (pc + 3) lv r w) : mj_W G X cells slots pc lv (.int y :: .int x :: r) w := by
  obtain ⟨p, l, e, R, s, m, args, below, meth, c, Q, D, cA, A, ad0, kp, nL⟩ := X
  exact fun ad H locs ls h0 hP hD hS hl => lv_icmp_ge hB.1 hB.2.1 hd ht (fun h => kt h ad H locs ls h0 hP hD hS hl) (fun h => kf h ad H locs ls h0 hP hD hS hl)
theorem mj_icgt (hB : mj_B G X M) {x y : Int32} {off : Int} {tgt : Nat} (hd : decode M.2.2.1 pc = .ok (.if_icmp .gt off, 3)) (ht : (pc : Int) + off = (tgt : Int)) (kt : (y < x) → mj_W G X cells slots tgt lv r w) (kf : ¬ (y < x) → mj_W G X cells slots (pc + 3) lv r w) : mj_W G X cells slots pc lv (.int y :: .int x :: r) w := by
  obtain ⟨p, l, e, R, s, m, args, below, meth, c, Q, D, cA, A, ad0, kp, nL⟩ := X
  exact fun ad H locs ls h0 hP hD hS hl => lv_icmp_gt hB.1 hB.2.1 hd ht (fun h => kt h ad H locs ls h0 hP hD hS hl) (fun h => kf h ad H locs ls h0 hP hD hS hl)
theorem mj_icle (hB : mj_B G X M) {x y : Int32} {off : Int} {tgt : Nat} (hd : decode M.2.2.1 pc = .ok (.if_icmp .le off, 3)) (ht : (pc : Int) + off = (tgt : Int)) (kt : (x ≤ y) → mj_W G X cells slots tgt lv r w) (kf : ¬ (x ≤ y) → mj_W G X cells slots (pc + 3) lv r w) : mj_W G X cells slots pc lv (.int y :: .int x :: r) w := by
  obtain ⟨p, l, e, R, s, m, args, below, meth, c, Q, D, cA, A, ad0, kp, nL⟩ := X
  exact fun ad H locs ls h0 hP hD hS hl => lv_icmp_le hB.1 hB.2.1 hd ht (fun h => kt h ad H locs ls h0 hP hD hS hl) (fun h => kf h ad H locs ls h0 hP hD hS hl)
theorem mj_ifnull_r (hB : mj_B G X M) {x : Nat} {off : Int} (hd : decode M.2.2.1 pc = .ok (.ifnull off, 3)) (kk : mj_W G X cells slots (pc + 3) lv r w) : mj_W G X cells slots pc lv (.ref x :: r) w := by
  obtain ⟨p, l, e, R, s, m, args, below, meth, c, Q, D, cA, A, ad0, kp, nL⟩ := X
  exact fun ad H locs ls h0 hP hD hS hl => lv_ifnull hB.1 hB.2.1 hd (kk ad H locs ls h0 hP hD hS hl)
theorem mj_ifnonnull_r (hB : mj_B G X M) {x : Nat} {off : Int} {tgt : Nat} (hd : decode M.2.2.1 pc = .ok (.ifnonnull off, 3)) (ht : (pc : Int) + off = (tgt : Int)) (kk : mj_W G X cells slots (tgt) lv r w) : mj_W G X cells slots pc lv (.ref x :: r) w := by
  obtain ⟨p, l, e, R, s, m, args, below, meth, c, Q, D, cA, A, ad0, kp, nL⟩ := X
  exact fun ad H locs ls h0 hP hD hS hl => lv_ifnonnull hB.1 hB.2.1 hd ht (kk ad H locs ls h0 hP hD hS hl)
theorem mj_ifnull_n (hB : mj_B G X M) {off : Int} {tgt : Nat} (hd : decode M.2.2.1 pc = .ok (.ifnull off, 3)) (ht : (pc : Int) + off = (tgt : Int)) (kk : mj_W G X cells slots (tgt) lv r w) : mj_W G X cells slots pc lv (.null :: r) w := by
  obtain ⟨p, l, e, R, s, m, args, below, meth, c, Q, D, cA, A, ad0, kp, nL⟩ := X
  exact fun ad H locs ls h0 hP hD hS hl => lv_ifnullN hB.1 hB.2.1 hd ht (kk ad H locs ls h0 hP hD hS hl)
theorem mj_ifnonnull_n (hB : mj_B G X M) {off : Int} (hd : decode M.2.2.1 pc = .ok (.ifnonnull off, 3)) (kk : mj_W G X cells slots (pc + 3) lv r w) : mj_W G X cells slots pc lv (.null :: r) w := by
  obtain ⟨p, l, e, R, s, m, args, below, meth, c, Q, D, cA, A, ad0, kp, nL⟩ := X
  exact fun ad H locs ls h0 hP hD hS hl => lv_ifnonnullN hB.1 hB.2.1 hd (kk ad H locs ls h0 hP hD hS hl)
theorem mj_widen {k n : Nat} (h1 : cells ≤ k) (h2 : slots ≤ n) {st : List Value} (kk : mj_W G X k n pc lv st w) : mj_W G X cells slots pc lv st w := by
  obtain ⟨p, l, e, R, s, m, args, below, meth, c, Q, D, cA, A, ad0, kp, nL⟩ := X
  exact fun ad H locs ls h0 hP hD hS hl => W.widen h1 h2 (kk ad H locs ls h0 hP hD hS hl)
/-- fewer listed locals -/
theorem mj_lsub {lv' : mj_L} {st : List Value} (hs : ∀ q ∈ lv', q ∈ lv) (kk : mj_W G X cells slots pc lv' st w) : mj_W G X cells slots pc lv st w := by
  obtain ⟨p, l, e, R, s, m, args, below, meth, c, Q, D, cA, A, ad0, kp, nL⟩ := X
  refine fun ad H locs ls h0 hP hD hS hl => kk ad H locs ls h0 hP hD hS ⟨hl.1, hl.2.1, fun q hq => ?_⟩
  obtain ⟨z, hz, rfl⟩ := List.mem_map.mp hq
  exact hl.2.2 _ (List.mem_map.mpr ⟨z, hs z hz, rfl⟩)
/-- fewer cells, in another order -/
theorem mj_wsub {w' : mj_M} {st : List Value} (is : List Nat) (hn : va_nd is = true) (hs : is.map (fun i => w[i]?) = w'.map some) (kk : mj_W G X cells slots pc lv st w') : mj_W G X cells slots pc lv st w := by
  obtain ⟨p, l, e, R, s, m, args, below, meth, c, Q, D, cA, A, ad0, kp, nL⟩ := X
  refine fun ad H locs ls h0 hP hD hS hl => kk ad H locs ls h0 (hP.sub is ?_) (hD.sub is hn ?_) hS hl
  · have h1 := mj_sub_w (ad := ad) (cA := cA) hs
    rw [show (fun i => (mj_w ad cA w)[i]?) = (fun i => (mj_w ad cA w)[i]?) from rfl]
    exact mj_fm_of h1
  · exact mj_sub_w hs
end MJB
/-! a method's start and end -/
abbrev mj_N : Type := MethodName × ByteArray × Nat × Option FieldType
abbrev mj_R : Type := Option Value → mj_M → Prop
def mj_Q (G : mj_G) (D : va_G) (cA : Nat → ClassId) (A : Nat → Prop) (ad : Nat → Nat) (kp : Nat → Prop) (post : mj_R) : Array Value → State → Outcome → State → Prop := fun _ st oc t =>
  (∃ (r : Option Value) (w' : mj_M) (ad' : Nat → Nat), (∀ q, kp q → ad' q = ad q) ∧ post r w' ∧ oc = .returned (r.map (mj_v ad')) ∧ va_P D G.1 (mj_w ad' cA w') t.heap ∧ va_K D G.1 (mj_tys cA G.2.2) t ∧ va_D A (mj_w ad' cA w')) ∧ va_F A st t
def mj_Ev (G : mj_G) (l : Launch) (D : va_G) (cA : Nat → ClassId) (Y : mj_N) (fr lo mc ms : Nat) (args : List Value) (w : mj_M) (kp : Nat → Prop) (post : mj_R) : Prop :=
  ∀ (ad : Nat → Nat) (sz : Nat), Met l Y.1 (Cond.code Y.1 Y.2.1 Y.2.2.1 Y.2.2.2 :: G.2.1) { frames := fr, cells := mc, slots := ms, locals := lo } (va_Pc (args.map (mj_v ad)) (fun U => U.heap.size = sz ∧ va_P D G.1 (mj_w ad cA w) U.heap ∧ va_K D G.1 (mj_tys cA G.2.2) U ∧ va_D (fun _ => True) (mj_w ad cA w))) (mj_Q G D cA (va_A (mj_w ad cA w) sz) ad kp post) mc ms (va_A (mj_w ad cA w) sz)
def mj_F (G : mj_G) (X : mj_X) (l : Launch) (D : va_G) (cA : Nat → ClassId) (ret : Option FieldType) (fr lo mc ms : Nat) (kp : Nat → Prop) (post : mj_R) : Prop := match X with
  | (_, l', _, R, s, _, args, below, meth, _, Q, D', cA', A, ad0, kp', _) => l' = l ∧ D' = D ∧ cA' = cA ∧ kp' = kp ∧ R.frames = fr ∧ R.cells = mc ∧ R.slots = ms ∧ R.locals = lo ∧ Q = MQ below (mj_Q G D cA A ad0 kp post) args s mc ms A ∧ meth.sig.returnType = ret ∧ meth.locks = false
def mj_E (G : mj_G) (X : mj_X) (l : Launch) (D : va_G) (cA : Nat → ClassId) (Y : mj_N) (fr lo mc ms : Nat) (kp : Nat → Prop) (post : mj_R) : Prop :=
  mj_B G X (Y.1.cls, Y.1.name, Y.2.1, Y.2.2.1) ∧ mj_F G X l D cA Y.2.2.2 fr lo mc ms kp post
theorem mj_sl_len (ad : Nat → Nat) (vs : List Value) : (lg_sl (vs.map (mj_v ad))).length = (lg_sl vs).length := by
  induction vs with
  | nil => rfl
  | cons v vs ih =>
    have h1 : ∀ (a : Value) (l : List Value), lg_sl (a :: l) = (if a.category = 2 then [Slot.val a, Slot.second] else [Slot.val a]) ++ lg_sl l := fun a l => by simp [lg_sl]
    rw [List.map_cons, h1, h1, List.length_append, List.length_append, ih, mj_v_cat]
    by_cases h : v.category = 2 <;> simp [h]
theorem mj_l_args (ad : Nat → Nat) (vs : List Value) (i : Nat) : mj_l ad (lv_args i vs) = lv_args i (vs.map (mj_v ad)) := by
  induction vs generalizing i with
  | nil => rfl
  | cons v vs ih =>
    show (i, mj_v ad v) :: mj_l ad (lv_args (if v.category = 2 then i + 2 else i + 1) vs) = (i, mj_v ad v) :: lv_args (if (mj_v ad v).category = 2 then i + 2 else i + 1) (vs.map (mj_v ad))
    rw [ih, mj_v_cat]
theorem mj_ev {G : mj_G} {l : Launch} {D : va_G} {cA : Nat → ClassId} {Y : mj_N} {fr lo mc ms : Nat} {args : List Value} {w : mj_M} {kp : Nat → Prop} {post : mj_R} {lv : mj_L} (hy : plainName Y.1.cls = true) (hlen : (lg_sl args).length ≤ Y.2.2.1) (hlv : lv_args 0 args = lv)
    (body : ∀ X : mj_X, mj_E G X l D cA Y fr lo mc ms kp post → mj_W G X 0 0 0 lv [] w) : mj_Ev G l D cA Y fr lo mc ms args w kp post := by
  intro ad sz
  refine Met.ofW (cc := Y.2.1) (maxL := Y.2.2.1) (ret := Y.2.2.2) hy rfl ?_
  intro p e s m args' below meth c s₁ B hml hv
  obtain ⟨rfl, hsz, hP, hK, hD0⟩ := hv
  have hts := atoms_spec (ws := Cond.code Y.1 Y.2.1 Y.2.2.1 Y.2.2.2 :: G.2.1) B.pre
  have hown := findClass_of_methodNamed B.named
  have hin := (name_of_methodNamed B.named B.method).1
  subst hsz
  have hD := hD0.self (sz := s.heap.size)
  have hA : ∀ q, s.heap.size ≤ q → va_A (mj_w ad cA w) s.heap.size q := fun q h => Or.inr h
  have hl := lv_entry (args.map (mj_v ad)) (n := Y.2.2.1) (by rw [mj_sl_len]; exact hlen)
  rw [lg_entry_eq]
  have hb := body (p, l, e, (headSpec (Cond.code Y.1 Y.2.1 Y.2.2.1 Y.2.2.2 :: G.2.1) { frames := fr, cells := mc, slots := ms, locals := lo }).room, s, m, (args.map (mj_v ad)).toArray, below, meth, c, MQ below (mj_Q G D cA (va_A (mj_w ad cA w) s.heap.size) ad kp post) (args.map (mj_v ad)).toArray s mc ms (va_A (mj_w ad cA w) s.heap.size), D, cA, va_A (mj_w ad cA w) s.heap.size, ad, kp, Y.2.2.1)
    ⟨⟨B.exec, B.bytes, hml, rfl, hown, fun w h => hts w (List.mem_cons_of_mem _ h), hK, hA, hin⟩, rfl, rfl, rfl, rfl, rfl, rfl, rfl, rfl, rfl, B.returns, B.notSynchronized⟩
  refine hb ad s.heap [] _ (fun _ _ => rfl) hP hD va_S.rf ?_
  rw [← hlv, mj_l_args]
  exact hl
section MJE
variable {G : mj_G} {X : mj_X} {l : Launch} {D : va_G} {cA : Nat → ClassId} {Y : mj_N} {fr lo mc ms : Nat} {kp : Nat → Prop} {post : mj_R} {cells slots pc : Nat} {lv : mj_L} {w : mj_M}
theorem mj_iret (h : mj_E G X l D cA Y fr lo mc ms kp post) {v : Int32} (hret : Y.2.2.2 = some .int) (hd : decode Y.2.1 pc = .ok (.ireturn, 1)) (hc : cells ≤ mc) (hs : slots ≤ ms) (hp : post (some (.int v)) w) : mj_W G X cells slots pc lv [.int v] w := by
  obtain ⟨p, l', e, R, s, m, args, below, meth, c, Q, D', cA', A, ad0, kp', nL⟩ := X
  obtain ⟨hB, rfl, rfl, rfl, rfl, -, -, -, -, hQ, hr, hlk⟩ := h
  subst hQ
  intro ad H locs ls h0 hP hD hS hl
  refine W.widen (k := mc) (n := ms) hc hs ?_
  exact W.iret hB.1 hB.2.1 (hr.trans hret) (fun t ht hW => ⟨⟨some (.int v), w, ad, h0, hp, rfl, by rw [ht]; exact hP, va_K.moved hW.alike hB.2.2.2.2.2.2.1, hD⟩, hS.F ht⟩) hS.2.2 hd hlk
theorem mj_zret (h : mj_E G X l D cA Y fr lo mc ms kp post) {v : Int32} (hret : Y.2.2.2 = some .boolean) (hv : v = 0 ∨ v = 1) (hd : decode Y.2.1 pc = .ok (.ireturn, 1)) (hc : cells ≤ mc) (hs : slots ≤ ms) (hp : post (some (.int v)) w) : mj_W G X cells slots pc lv [.int v] w := by
  obtain ⟨p, l', e, R, s, m, args, below, meth, c, Q, D', cA', A, ad0, kp', nL⟩ := X
  obtain ⟨hB, rfl, rfl, rfl, rfl, -, -, -, -, hQ, hr, hlk⟩ := h
  subst hQ
  intro ad H locs ls h0 hP hD hS hl
  refine W.widen (k := mc) (n := ms) hc hs ?_
  exact W.zret hB.1 hB.2.1 (hr.trans hret) (by rcases hv with h | h <;> (subst h; decide)) (fun t ht hW => ⟨⟨some (.int v), w, ad, h0, hp, rfl, by rw [ht]; exact hP, va_K.moved hW.alike hB.2.2.2.2.2.2.1, hD⟩, hS.F ht⟩) hS.2.2 hd hlk
theorem mj_vret (h : mj_E G X l D cA Y fr lo mc ms kp post) (hret : Y.2.2.2 = none) (hd : decode Y.2.1 pc = .ok (.return_, 1)) (hc : cells ≤ mc) (hs : slots ≤ ms) (hp : post none w) : mj_W G X cells slots pc lv [] w := by
  obtain ⟨p, l', e, R, s, m, args, below, meth, c, Q, D', cA', A, ad0, kp', nL⟩ := X
  obtain ⟨hB, rfl, rfl, rfl, rfl, -, -, -, -, hQ, hr, hlk⟩ := h
  subst hQ
  intro ad H locs ls h0 hP hD hS hl
  refine W.widen (k := mc) (n := ms) hc hs ?_
  exact W.vret hB.1 hB.2.1 (hr.trans hret) (fun t ht hW => ⟨⟨none, w, ad, h0, hp, rfl, by rw [ht]; exact hP, va_K.moved hW.alike hB.2.2.2.2.2.2.1, hD⟩, hS.F ht⟩) hS.2.2 hd hlk
theorem mj_aret (h : mj_E G X l D cA Y fr lo mc ms kp post) {v : Nat} {n : String} (hret : Y.2.2.2 = some (.object n)) (hd : decode Y.2.1 pc = .ok (.areturn, 1)) (hc : cells ≤ mc) (hs : slots ≤ ms) (hp : post (some (.ref v)) w) : mj_W G X cells slots pc lv [.ref v] w := by
  obtain ⟨p, l', e, R, s, m, args, below, meth, c, Q, D', cA', A, ad0, kp', nL⟩ := X
  obtain ⟨hB, rfl, rfl, rfl, rfl, -, -, -, -, hQ, hr, hlk⟩ := h
  subst hQ
  intro ad H locs ls h0 hP hD hS hl
  refine W.widen (k := mc) (n := ms) hc hs ?_
  exact W.aret hB.1 hB.2.1 (hr.trans hret) (Or.inl ⟨n, rfl⟩) (Or.inr ⟨ad v, rfl⟩) (fun t ht hW => ⟨⟨some (.ref v), w, ad, h0, hp, rfl, by rw [ht]; exact hP, va_K.moved hW.alike hB.2.2.2.2.2.2.1, hD⟩, hS.F ht⟩) hS.2.2 hd hlk
theorem mj_aretN (h : mj_E G X l D cA Y fr lo mc ms kp post) {n : String} (hret : Y.2.2.2 = some (.object n)) (hd : decode Y.2.1 pc = .ok (.areturn, 1)) (hc : cells ≤ mc) (hs : slots ≤ ms) (hp : post (some .null) w) : mj_W G X cells slots pc lv [.null] w := by
  obtain ⟨p, l', e, R, s, m, args, below, meth, c, Q, D', cA', A, ad0, kp', nL⟩ := X
  obtain ⟨hB, rfl, rfl, rfl, rfl, -, -, -, -, hQ, hr, hlk⟩ := h
  subst hQ
  intro ad H locs ls h0 hP hD hS hl
  refine W.widen (k := mc) (n := ms) hc hs ?_
  exact W.aret hB.1 hB.2.1 (hr.trans hret) (Or.inl ⟨n, rfl⟩) (Or.inl rfl) (fun t ht hW => ⟨⟨some .null, w, ad, h0, hp, rfl, by rw [ht]; exact hP, va_K.moved hW.alike hB.2.2.2.2.2.2.1, hD⟩, hS.F ht⟩) hS.2.2 hd hlk
end MJE
theorem mj_top {G : mj_G} {X : mj_X} {cells slots pc : Nat} {lv : mj_L} {r : List Value} {w : mj_M} {x y : Int32} (e : x = y) (kk : mj_W G X cells slots pc lv (.int y :: r) w) : mj_W G X cells slots pc lv (.int x :: r) w := e ▸ kk
theorem mj_ifeq0 {G : mj_G} {X : mj_X} {M : mj_Y} {cells slots pc : Nat} {lv : mj_L} {r : List Value} {w : mj_M} (hB : mj_B G X M) {off : Int} {tgt : Nat} (hd : decode M.2.2.1 pc = .ok (.ifCond .eq off, 3)) (ht : (pc : Int) + off = (tgt : Int)) (kt : mj_W G X cells slots tgt lv r w) : mj_W G X cells slots pc lv (.int 0 :: r) w := mj_ifeq hB hd ht (fun _ => kt) (fun h => absurd rfl h)
theorem mj_ifeq1 {G : mj_G} {X : mj_X} {M : mj_Y} {cells slots pc : Nat} {lv : mj_L} {r : List Value} {w : mj_M} (hB : mj_B G X M) {off : Int} {tgt : Nat} (hd : decode M.2.2.1 pc = .ok (.ifCond .eq off, 3)) (ht : (pc : Int) + off = (tgt : Int)) (kf : mj_W G X cells slots (pc + 3) lv r w) : mj_W G X cells slots pc lv (.int 1 :: r) w := mj_ifeq hB hd ht (fun h => absurd h (by decide)) (fun _ => kf)
theorem mj_ifne0 {G : mj_G} {X : mj_X} {M : mj_Y} {cells slots pc : Nat} {lv : mj_L} {r : List Value} {w : mj_M} (hB : mj_B G X M) {off : Int} {tgt : Nat} (hd : decode M.2.2.1 pc = .ok (.ifCond .ne off, 3)) (ht : (pc : Int) + off = (tgt : Int)) (kf : mj_W G X cells slots (pc + 3) lv r w) : mj_W G X cells slots pc lv (.int 0 :: r) w := mj_ifne hB hd ht (fun h => absurd rfl h) (fun _ => kf)
theorem mj_ifne1 {G : mj_G} {X : mj_X} {M : mj_Y} {cells slots pc : Nat} {lv : mj_L} {r : List Value} {w : mj_M} (hB : mj_B G X M) {off : Int} {tgt : Nat} (hd : decode M.2.2.1 pc = .ok (.ifCond .ne off, 3)) (ht : (pc : Int) + off = (tgt : Int)) (kt : mj_W G X cells slots tgt lv r w) : mj_W G X cells slots pc lv (.int 1 :: r) w := mj_ifne hB hd ht (fun _ => kt) (fun h => absurd h (by decide))
theorem mj_lpk {G : mj_G} {X : mj_X} {cells slots pc : Nat} {lv lv' : mj_L} {st : List Value} {w : mj_M} (ks : List Nat) (hl : ks.filterMap (fun k => lv[k]?) = lv') (kk : mj_W G X cells slots pc lv' st w) : mj_W G X cells slots pc lv st w :=
  mj_lsub (fun q hq => by
    rw [← hl] at hq
    obtain ⟨k, -, hk⟩ := List.mem_filterMap.mp hq
    exact List.mem_of_getElem? hk) kk
theorem mj_z01 {p : Prop} [Decidable p] : (if p then (1 : Int32) else 0) = 0 ∨ (if p then (1 : Int32) else 0) = 1 := by
  by_cases h : p
  · exact Or.inr (if_pos h)
  · exact Or.inl (if_neg h)
theorem mj_ifeqB {G : mj_G} {X : mj_X} {M : mj_Y} {cells slots pc : Nat} {lv : mj_L} {r : List Value} {w : mj_M} (hB : mj_B G X M) {P : Prop} [Decidable P] {off : Int} {tgt : Nat} (hd : decode M.2.2.1 pc = .ok (.ifCond .eq off, 3)) (ht : (pc : Int) + off = (tgt : Int)) (kt : ¬ P → mj_W G X cells slots tgt lv r w) (kf : P → mj_W G X cells slots (pc + 3) lv r w) : mj_W G X cells slots pc lv (.int (if P then 1 else 0) :: r) w :=
  mj_ifeq hB hd ht (fun h => kt (fun p => by rw [if_pos p] at h; exact absurd h (by decide))) (fun h => kf (Decidable.byContradiction fun p => h (if_neg p)))
theorem mj_ifneB {G : mj_G} {X : mj_X} {M : mj_Y} {cells slots pc : Nat} {lv : mj_L} {r : List Value} {w : mj_M} (hB : mj_B G X M) {P : Prop} [Decidable P] {off : Int} {tgt : Nat} (hd : decode M.2.2.1 pc = .ok (.ifCond .ne off, 3)) (ht : (pc : Int) + off = (tgt : Int)) (kt : P → mj_W G X cells slots tgt lv r w) (kf : ¬ P → mj_W G X cells slots (pc + 3) lv r w) : mj_W G X cells slots pc lv (.int (if P then 1 else 0) :: r) w :=
  mj_ifne hB hd ht (fun h => kt (Decidable.byContradiction fun p => h (if_neg p))) (fun h => kf (fun p => by rw [if_pos p] at h; exact absurd h (by decide)))
end
section
/-! calls: the callee's places are renamed (ρ); what it doesn't hold stays -/
def mj_ff : List (Nat × Nat) → Nat → Nat
  | [], _ => 0
  | (j, v) :: l, i => bif Nat.beq j i then v else mj_ff l i
def mj_rk {β : Type} : List (Nat × Nat) → Nat → (Nat → Option β) → Option β
  | [], _, _ => none
  | (j, v) :: l, i, k => bif Nat.beq j i then k v else mj_rk l i k
theorem mj_rk_or {β : Type} (ρ : List (Nat × Nat)) (i : Nat) : (∀ k : Nat → Option β, mj_rk ρ i k = none) ∨ ∀ k : Nat → Option β, mj_rk ρ i k = k (mj_ff ρ i) := by
  induction ρ with
  | nil => exact Or.inl fun _ => rfl
  | cons q l ih =>
    obtain ⟨qi, qv⟩ := q
    by_cases h : qi = i
    · subst h
      exact Or.inr fun k => by simp only [mj_rk, mj_ff, mj_bq, cond_true]
    · rcases ih with ih | ih
      · exact Or.inl fun k => by rw [← ih k]; simp only [mj_rk, mj_bn h, cond_false]
      · exact Or.inr fun k => by
          have h2 : mj_ff ((qi, qv) :: l) i = mj_ff l i := by simp only [mj_ff, mj_bn h, cond_false]
          rw [h2, ← ih k]
          simp only [mj_rk, mj_bn h, cond_false]
def mj_rv {β : Type} (ρ : List (Nat × Nat)) (v : Value) (k : Value → Option β) : Option β := match v with
  | .ref a => mj_rk ρ a (fun b => k (.ref b))
  | .int x => k (.int x)
  | .long x => k (.long x)
  | .null => k .null
  | _ => none
theorem mj_rv_or {β : Type} (ρ : List (Nat × Nat)) (v : Value) : (∀ k : Value → Option β, mj_rv ρ v k = none) ∨ ∀ k : Value → Option β, mj_rv ρ v k = k (mj_v (mj_ff ρ) v) := by
  cases v with
  | ref a =>
    rcases mj_rk_or (β := β) ρ a with h | h
    · exact Or.inl fun k => h _
    · exact Or.inr fun k => h _
  | int x => exact Or.inr fun _ => rfl
  | long x => exact Or.inr fun _ => rfl
  | null => exact Or.inr fun _ => rfl
  | _ => exact Or.inl fun _ => rfl
def mj_rl {β : Type} (ρ : List (Nat × Nat)) : List Value → (List Value → Option β) → Option β
  | [], k => k []
  | v :: l, k => mj_rv ρ v (fun v' => mj_rl ρ l (fun l' => k (v' :: l')))
theorem mj_rl_or {β : Type} (ρ : List (Nat × Nat)) (l : List Value) : (∀ k : List Value → Option β, mj_rl ρ l k = none) ∨ ∀ k : List Value → Option β, mj_rl ρ l k = k (l.map (mj_v (mj_ff ρ))) := by
  induction l with
  | nil => exact Or.inr fun _ => rfl
  | cons v l ih =>
    rcases mj_rv_or (β := β) ρ v with h | h
    · exact Or.inl fun k => h _
    · rcases ih with ih | ih
      · exact Or.inl fun k => (h _).trans (ih _)
      · exact Or.inr fun k => (h _).trans (ih _)
def mj_ro {β : Type} (ρ : List (Nat × Nat)) : List (Option Nat) → (List (Option Nat) → Option β) → Option β
  | [], k => k []
  | none :: l, k => mj_ro ρ l (fun l' => k (none :: l'))
  | some a :: l, k => mj_rk ρ a (fun b => mj_ro ρ l (fun l' => k (some b :: l')))
theorem mj_ro_or {β : Type} (ρ : List (Nat × Nat)) (l : List (Option Nat)) : (∀ k : List (Option Nat) → Option β, mj_ro ρ l k = none) ∨ ∀ k : List (Option Nat) → Option β, mj_ro ρ l k = k (l.map (Option.map (mj_ff ρ))) := by
  induction l with
  | nil => exact Or.inr fun _ => rfl
  | cons v l ih =>
    cases v with
    | none =>
      rcases ih with ih | ih
      · exact Or.inl fun k => ih _
      · exact Or.inr fun k => ih _
    | some a =>
      rcases mj_rk_or (β := β) ρ a with h | h
      · exact Or.inl fun k => h _
      · rcases ih with ih | ih
        · exact Or.inl fun k => (h _).trans (ih _)
        · exact Or.inr fun k => (h _).trans (ih _)
/-- a cell renamed -/
def mj_cr (g : Nat → Nat) : mj_C → mj_C
  | .inl (t, n, .inl f) => .inl (t, n, .inl f)
  | .inl (t, n, .inr (.inl f)) => .inl (t, n, .inr (.inl f))
  | .inl (t, n, .inr (.inr l)) => .inl (t, n, .inr (.inr (l.map (Option.map g))))
  | .inr (c, fs) => .inr (c, fs.map (mj_v g))
def mj_wr (g : Nat → Nat) (w : mj_M) : mj_M := w.map (fun q => (g q.1, mj_cr g q.2))
def mj_rc {β : Type} (ρ : List (Nat × Nat)) (e : mj_C) (k : mj_C → Option β) : Option β := match e with
  | .inl (t, n, .inl f) => k (.inl (t, n, .inl f))
  | .inl (t, n, .inr (.inl f)) => k (.inl (t, n, .inr (.inl f)))
  | .inl (t, n, .inr (.inr l)) => mj_ro ρ l (fun l' => k (.inl (t, n, .inr (.inr l'))))
  | .inr (c, fs) => mj_rl ρ fs (fun fs' => k (.inr (c, fs')))
theorem mj_rc_or {β : Type} (ρ : List (Nat × Nat)) (e : mj_C) : (∀ k : mj_C → Option β, mj_rc ρ e k = none) ∨ ∀ k : mj_C → Option β, mj_rc ρ e k = k (mj_cr (mj_ff ρ) e) := by
  rcases e with ⟨t, n, f | f | f⟩ | ⟨c, fs⟩
  · exact Or.inr fun _ => rfl
  · exact Or.inr fun _ => rfl
  · rcases mj_ro_or (β := β) ρ f with h | h
    · exact Or.inl fun k => h _
    · exact Or.inr fun k => h _
  · rcases mj_rl_or (β := β) ρ fs with h | h
    · exact Or.inl fun k => h _
    · exact Or.inr fun k => h _
def mj_rw {β : Type} (ρ : List (Nat × Nat)) : mj_M → (mj_M → Option β) → Option β
  | [], k => k []
  | (j, d) :: w, k => mj_rk ρ j (fun i => mj_rc ρ d (fun e => mj_rw ρ w (fun w' => k ((i, e) :: w'))))
theorem mj_rw_or {β : Type} (ρ : List (Nat × Nat)) (w : mj_M) : (∀ k : mj_M → Option β, mj_rw ρ w k = none) ∨ ∀ k : mj_M → Option β, mj_rw ρ w k = k (mj_wr (mj_ff ρ) w) := by
  induction w with
  | nil => exact Or.inr fun _ => rfl
  | cons q w ih =>
    obtain ⟨qi, qd⟩ := q
    rcases mj_rk_or (β := β) ρ qi with h | h
    · exact Or.inl fun k => h _
    · rcases mj_rc_or (β := β) ρ qd with h2 | h2
      · exact Or.inl fun k => (h _).trans (h2 _)
      · rcases ih with ih | ih
        · exact Or.inl fun k => (h _).trans ((h2 _).trans (ih _))
        · exact Or.inr fun k => (h _).trans ((h2 _).trans (ih _))
theorem mj_rw_eq {ρ : List (Nat × Nat)} {w w' : mj_M} (h : mj_rw ρ w some = some w') : mj_wr (mj_ff ρ) w = w' := by
  rcases mj_rw_or (β := mj_M) ρ w with h1 | h1
  · rw [h1] at h
    cases h
  · rw [h1] at h
    exact Option.some.inj h
theorem mj_v_v (ad g : Nat → Nat) (v : Value) : mj_v ad (mj_v g v) = mj_v (fun q => ad (g q)) v := by cases v <;> rfl
theorem mj_e_cr (ad g : Nat → Nat) (cA : Nat → ClassId) (e : mj_C) : mj_e ad cA (mj_cr g e) = mj_e (fun q => ad (g q)) cA e := by
  rcases e with ⟨t, n, f | f | f⟩ | ⟨c, fs⟩
  · rfl
  · rfl
  · show (Sum.inl (cA t, n, .inr (.inr (.inr (.inr (fun j => ((f.map (Option.map g)).getD j none).map ad))))) : va_E) = .inl (cA t, n, .inr (.inr (.inr (.inr (fun j => (f.getD j none).map (fun q => ad (g q)))))))
    have hfun : (fun j => ((f.map (Option.map g)).getD j none).map ad) = (fun j => (f.getD j none).map (fun q => ad (g q))) := by
      funext j
      simp only [List.getD_eq_getElem?_getD, List.getElem?_map]
      cases f[j]? with
      | none => rfl
      | some o => cases o <;> rfl
    rw [hfun]
  · show (Sum.inr (c, (fs.map (mj_v g)).map (mj_v ad)) : va_E) = .inr (c, fs.map (mj_v (fun q => ad (g q))))
    rw [List.map_map]
    congr 2
    apply List.map_congr_left
    intro v _
    exact mj_v_v ad g v
theorem mj_w_wr (ad g : Nat → Nat) (cA : Nat → ClassId) (w : mj_M) : mj_w ad cA (mj_wr g w) = mj_w (fun q => ad (g q)) cA w := by
  unfold mj_w mj_wr
  rw [List.map_map]
  apply List.map_congr_left
  intro q _
  show (ad (g q.1), mj_e ad cA (mj_cr g q.2)) = _
  rw [mj_e_cr]
/-- the callee's cells among the caller's -/
def mj_sl {β : Type} (w : mj_M) : List Nat → (mj_M → Option β) → Option β
  | [], k => k []
  | i :: is, k => mj_lk w i (fun e => mj_sl w is (fun l => k ((i, e) :: l)))
theorem mj_sl_or {β : Type} (w : mj_M) (is : List Nat) : (∀ k : mj_M → Option β, mj_sl w is k = none) ∨ ∃ l : mj_M, (∀ k : mj_M → Option β, mj_sl w is k = k l) ∧ ∀ q ∈ l, q ∈ w := by
  induction is with
  | nil => exact Or.inr ⟨[], fun _ => rfl, fun q h => by cases h⟩
  | cons i is ih =>
    rcases mj_lk_or (β := β) w i with h | ⟨v, q0, h, hq⟩
    · exact Or.inl fun k => h _
    · rcases ih with ih | ⟨l, ih, hl⟩
      · exact Or.inl fun k => (h _).trans (ih _)
      · refine Or.inr ⟨(i, v) :: l, fun k => (h _).trans (ih _), fun q hq2 => ?_⟩
        rcases List.mem_cons.mp hq2 with rfl | h3
        · exact List.mem_of_getElem? hq
        · exact hl q h3
def mj_ct (ρ : List (Nat × Nat)) (wc w : mj_M) : Option (mj_M × mj_M) := mj_rw ρ wc (fun w1 => mj_sl w (w1.map Prod.fst) (fun w3 => some (w1, w3)))
theorem mj_ct_in {ρ : List (Nat × Nat)} {wc w wx : mj_M} (h : mj_ct ρ wc w = some (wx, wx)) : wx = mj_wr (mj_ff ρ) wc ∧ ∀ q ∈ mj_wr (mj_ff ρ) wc, q ∈ w := by
  unfold mj_ct at h
  rcases mj_rw_or (β := mj_M × mj_M) ρ wc with h1 | h1
  · rw [h1] at h; cases h
  · rw [h1] at h
    rcases mj_sl_or (β := mj_M × mj_M) w ((mj_wr (mj_ff ρ) wc).map Prod.fst) with h2 | ⟨l, h2, h3⟩
    · rw [h2] at h; cases h
    · rw [h2] at h
      obtain ⟨h4, h5⟩ := Prod.mk.inj (Option.some.inj h)
      refine ⟨h4.symm, fun q hq => h3 q ?_⟩
      rw [h5, ← h4]
      exact hq
/-- what came back, laid over what was there -/
def mj_ld {β : Type} : mj_M → Nat → mj_C → (mj_C → Option β) → Option β
  | [], _, d, k => k d
  | (j, v) :: l, i, d, k => bif Nat.beq j i then k v else mj_ld l i d k
def mj_rm : mj_M → Nat → mj_M
  | [], _ => []
  | (j, v) :: l, i => bif Nat.beq j i then l else (j, v) :: mj_rm l i
def mj_ul {β : Type} : Nat → mj_M → mj_M → (mj_M → Option β) → Option β
  | 0, _, _, _ => none
  | n + 1, w1, w, k => match w1 with
    | [] => k w
    | z :: w1' => match w with
      | [] => k []
      | (i, d) :: w' => mj_ld (z :: w1') i d (fun e => mj_ul n (mj_rm (z :: w1') i) w' (fun l => k ((i, e) :: l)))
theorem mj_rm_sub {w1 : mj_M} {i : Nat} : ∀ q ∈ mj_rm w1 i, q ∈ w1 := by
  induction w1 with
  | nil => intro q h; cases h
  | cons z l ih =>
    obtain ⟨j, v⟩ := z
    intro q h
    by_cases hj : j = i
    · subst hj
      simp only [mj_rm, mj_bq, cond_true] at h
      exact List.mem_cons_of_mem _ h
    · simp only [mj_rm, mj_bn hj, cond_false] at h
      rcases List.mem_cons.mp h with rfl | h
      · exact List.mem_cons_self
      · exact List.mem_cons_of_mem _ (ih q h)
theorem mj_rm_or {w1 : mj_M} {i : Nat} : ∀ q ∈ w1, q ∈ mj_rm w1 i ∨ q.1 = i := by
  induction w1 with
  | nil => intro q h; cases h
  | cons z l ih =>
    obtain ⟨j, v⟩ := z
    intro q h
    by_cases hj : j = i
    · subst hj
      simp only [mj_rm, mj_bq, cond_true]
      rcases List.mem_cons.mp h with rfl | h
      · exact Or.inr rfl
      · exact Or.inl h
    · simp only [mj_rm, mj_bn hj, cond_false]
      rcases List.mem_cons.mp h with rfl | h
      · exact Or.inl List.mem_cons_self
      · rcases ih q h with h | h
        · exact Or.inl (List.mem_cons_of_mem _ h)
        · exact Or.inr h
theorem mj_ld_or {β : Type} (w1 : mj_M) (i : Nat) (d : mj_C) : ∃ e : mj_C, (∀ k : mj_C → Option β, mj_ld w1 i d k = k e) ∧ ((i, e) ∈ w1 ∨ (e = d ∧ ∀ q ∈ w1, q.1 ≠ i)) := by
  induction w1 with
  | nil => exact ⟨d, fun _ => rfl, Or.inr ⟨rfl, fun q h => by cases h⟩⟩
  | cons q l ih =>
    obtain ⟨qi, qv⟩ := q
    by_cases h : qi = i
    · subst h
      exact ⟨qv, fun k => by simp only [mj_ld, mj_bq, cond_true], Or.inl List.mem_cons_self⟩
    · obtain ⟨e, h1, h2⟩ := ih
      refine ⟨e, fun k => by rw [← h1 k]; simp only [mj_ld, mj_bn h, cond_false], ?_⟩
      rcases h2 with h2 | ⟨h2, h3⟩
      · exact Or.inl (List.mem_cons_of_mem _ h2)
      · refine Or.inr ⟨h2, fun z hz => ?_⟩
        rcases List.mem_cons.mp hz with rfl | hz
        · exact h
        · exact h3 z hz
abbrev mj_pw (w : mj_M) : Prop := w.Pairwise (fun a b => a.1 ≠ b.1)
theorem mj_ul_or {β : Type} : ∀ (n : Nat) (w1 w : mj_M), (∀ k : mj_M → Option β, mj_ul n w1 w k = none) ∨ ∃ w2 : mj_M, (∀ k : mj_M → Option β, mj_ul n w1 w k = k w2) ∧ w2.map Prod.fst = w.map Prod.fst ∧ (mj_pw w → ∀ q ∈ w2, q ∈ w1 ∨ (q ∈ w ∧ ∀ z ∈ w1, z.1 ≠ q.1)) := by
  intro n
  induction n with
  | zero => exact fun _ _ => Or.inl fun _ => rfl
  | succ n ih =>
    intro w1 w
    cases w1 with
    | nil => exact Or.inr ⟨w, fun _ => rfl, rfl, fun _ q hq => Or.inr ⟨hq, fun z hz => by cases hz⟩⟩
    | cons z w1 =>
      cases w with
      | nil => exact Or.inr ⟨[], fun _ => rfl, rfl, fun _ q hq => by cases hq⟩
      | cons q w =>
        obtain ⟨i, d⟩ := q
        obtain ⟨e, h1, h2⟩ := mj_ld_or (β := β) (z :: w1) i d
        rcases ih (mj_rm (z :: w1) i) w with h3 | ⟨w2, h3, h4, h5⟩
        · exact Or.inl fun k => by
            show mj_ld (z :: w1) i d (fun e => mj_ul n (mj_rm (z :: w1) i) w (fun l => k ((i, e) :: l))) = none
            rw [h1]
            exact h3 _
        · refine Or.inr ⟨(i, e) :: w2, fun k => by
            show mj_ld (z :: w1) i d (fun e => mj_ul n (mj_rm (z :: w1) i) w (fun l => k ((i, e) :: l))) = k ((i, e) :: w2)
            rw [h1]
            exact h3 _, by rw [List.map_cons, List.map_cons, h4], fun hpw x hx => ?_⟩
          obtain ⟨hp1, hp2⟩ := List.pairwise_cons.mp hpw
          rcases List.mem_cons.mp hx with rfl | hx
          · rcases h2 with h2 | ⟨h2, h6⟩
            · exact Or.inl h2
            · refine Or.inr ⟨?_, h6⟩
              rw [h2]
              exact List.mem_cons_self
          · rcases h5 hp2 x hx with h | ⟨h, h6⟩
            · exact Or.inl (mj_rm_sub x h)
            · refine Or.inr ⟨List.mem_cons_of_mem _ h, fun y hy => ?_⟩
              rcases mj_rm_or (i := i) y hy with h7 | h7
              · exact h6 y h7
              · rw [h7]
                exact hp1 x h
theorem mj_D_pw {A : Nat → Prop} {ad : Nat → Nat} {cA : Nat → ClassId} {w : mj_M} (hD : va_D A (mj_w ad cA w)) : mj_pw w := by
  refine List.pairwise_iff_getElem.mpr ?_
  intro i j hi hj hij he
  have h1 : (mj_w ad cA w)[i]? = some (ad w[i].1, mj_e ad cA w[i].2) := mj_w_at (by rw [List.getElem?_eq_getElem hi])
  have h2 : (mj_w ad cA w)[j]? = some (ad w[j].1, mj_e ad cA w[j].2) := mj_w_at (by rw [List.getElem?_eq_getElem hj])
  have h3 := hD.1 i j _ _ h1 h2 (by show ad w[i].1 = ad w[j].1; rw [he])
  omega
theorem mj_D_keys {A : Nat → Prop} {ad : Nat → Nat} {cA : Nat → ClassId} {w w2 : mj_M} (h : w2.map Prod.fst = w.map Prod.fst) (hD : va_D A (mj_w ad cA w)) : va_D A (mj_w ad cA w2) := by
  have hk : ∀ (k : Nat) (q : Nat × va_E), (mj_w ad cA w2)[k]? = some q → ∃ q' : Nat × va_E, (mj_w ad cA w)[k]? = some q' ∧ q'.1 = q.1 := by
    intro k q hq
    have h1 : (w2.map Prod.fst)[k]? = (w.map Prod.fst)[k]? := by rw [h]
    rw [List.getElem?_map, List.getElem?_map] at h1
    unfold mj_w at hq ⊢
    rw [List.getElem?_map] at hq
    cases h2 : w2[k]? with
    | none => rw [h2] at hq; cases hq
    | some z =>
      rw [h2] at hq h1
      cases h3 : w[k]? with
      | none => rw [h3] at h1; cases h1
      | some y =>
        rw [h3] at h1
        have h4 : z.1 = y.1 := Option.some.inj h1
        have h5 : (ad z.1, mj_e ad cA z.2) = q := Option.some.inj hq
        refine ⟨(ad y.1, mj_e ad cA y.2), by rw [List.getElem?_map, h3]; rfl, ?_⟩
        rw [← h5, h4]
  refine ⟨fun i j p q hp hq hpq => ?_, fun k q hq => ?_⟩
  · obtain ⟨p', h1, h2⟩ := hk i p hp
    obtain ⟨q', h3, h4⟩ := hk j q hq
    exact hD.1 i j p' q' h1 h3 (by rw [h2, h4, hpq])
  · obtain ⟨q', h1, h2⟩ := hk k q hq
    rw [← h2]
    exact hD.2 k q' h1
theorem mj_in_at {ad : Nat → Nat} {cA : Nat → ClassId} {w : mj_M} {q : Nat × mj_C} (h : q ∈ w) : ∃ k : Nat, (mj_w ad cA w)[k]? = some (ad q.1, mj_e ad cA q.2) ∧ w[k]? = some q := by
  obtain ⟨k, hk⟩ := List.getElem?_of_mem h
  exact ⟨k, by simp [mj_w, List.getElem?_map, hk], hk⟩
theorem mj_join0 {A : Nat → Prop} {D : va_G} {cl : List vw_C} {ad : Nat → Nat} {cA : Nat → ClassId} {w w1c w1 w2 : mj_M} {H H1 : Heap} (hP : va_P D cl (mj_w ad cA w) H) (hD : va_D A (mj_w ad cA w)) (hin : ∀ q ∈ w1c, q ∈ w) (hkeys : w1.map Prod.fst = w1c.map Prod.fst) (h2 : ∀ q ∈ w2, q ∈ w1 ∨ (q ∈ w ∧ ∀ z ∈ w1, z.1 ≠ q.1))
    (hP1 : va_P D cl (mj_w ad cA w1) H1) (hk : ∀ q : Nat, q < H.size → ¬ va_A (mj_w ad cA w1c) H.size q → H1[q]? = H[q]?) : va_P D cl (mj_w ad cA w2) H1 := by
  intro k q hq
  unfold mj_w at hq
  rw [List.getElem?_map] at hq
  cases hz : w2[k]? with
  | none => rw [hz] at hq; cases hq
  | some z =>
    rw [hz] at hq
    have hq : (ad z.1, mj_e ad cA z.2) = q := Option.some.inj hq
    subst hq
    rcases h2 z (List.mem_of_getElem? hz) with h | ⟨h, hne⟩
    · obtain ⟨k1, hk1, -⟩ := mj_in_at (ad := ad) (cA := cA) h
      exact hP1 k1 _ hk1
    · obtain ⟨kz, hkz, hwz⟩ := mj_in_at (ad := ad) (cA := cA) h
      have hat := hP kz _ hkz
      refine hat.kept (hk _ hat.lt ?_)
      rintro (⟨ky, ey, hy⟩ | hy)
      · unfold mj_w at hy
        rw [List.getElem?_map] at hy
        cases hyy : w1c[ky]? with
        | none => rw [hyy] at hy; cases hy
        | some y =>
          rw [hyy] at hy
          have hy : (ad y.1, mj_e ad cA y.2) = (ad z.1, ey) := Option.some.inj hy
          have hy1 : ad y.1 = ad z.1 := (Prod.mk.inj hy).1
          have hym := List.mem_of_getElem? hyy
          obtain ⟨kyw, hkyw, hwy⟩ := mj_in_at (ad := ad) (cA := cA) (hin y hym)
          have := hD.1 kyw kz _ _ hkyw hkz hy1
          subst this
          have hyz : y = z := Option.some.inj (hwy.symm.trans hwz)
          subst hyz
          have hmem : y.1 ∈ w1.map Prod.fst := by
            rw [hkeys]
            exact List.mem_map.mpr ⟨y, hym, rfl⟩
          obtain ⟨x, hx, hx1⟩ := List.mem_map.mp hmem
          exact hne x hx hx1
      · exact absurd hat.lt (Nat.not_lt.mpr hy)
def mj_app {β : Type} : List Value → List Value → (List Value → Option β) → Option β
  | [], r, k => k r
  | v :: l, r, k => mj_app l r (fun l' => k (v :: l'))
theorem mj_app_eq {β : Type} (l r : List Value) (k : List Value → Option β) : mj_app l r k = k (l ++ r) := by
  induction l generalizing k with
  | nil => rfl
  | cons v l ih => simp only [mj_app, ih, List.cons_append]
def mj_fin (ρ : List (Nat × Nat)) (r : Option Value) (w' w : mj_M) (rest : List Value) : Option (List Value × mj_M) :=
  mj_rl ρ r.toList (fun rs => mj_rw ρ w' (fun w1 => mj_ul 200 w1 w (fun w2 => mj_app rs rest (fun st2 => some (st2, w2)))))
theorem mj_fin_eq {ρ : List (Nat × Nat)} {r : Option Value} {w' w : mj_M} {rest st2 : List Value} {w2 : mj_M} (h : mj_fin ρ r w' w rest = some (st2, w2)) (hpw : mj_pw w) :
    st2 = r.toList.map (mj_v (mj_ff ρ)) ++ rest ∧ w2.map Prod.fst = w.map Prod.fst ∧ ∀ q ∈ w2, q ∈ mj_wr (mj_ff ρ) w' ∨ (q ∈ w ∧ ∀ z ∈ mj_wr (mj_ff ρ) w', z.1 ≠ q.1) := by
  unfold mj_fin at h
  rcases mj_rl_or (β := List Value × mj_M) ρ r.toList with h1 | h1
  · rw [h1] at h
    cases h
  · rw [h1] at h
    rcases mj_rw_or (β := List Value × mj_M) ρ w' with h2 | h2
    · rw [h2] at h
      cases h
    · rw [h2] at h
      rcases mj_ul_or (β := List Value × mj_M) 200 (mj_wr (mj_ff ρ) w') w with h3 | ⟨w3, h3, h4, h5⟩
      · rw [h3] at h
        cases h
      · rw [h3, mj_app_eq] at h
        have h := Option.some.inj h
        obtain ⟨h6, h7⟩ := Prod.mk.inj h
        subst h6 h7
        exact ⟨rfl, h4, h5 hpw⟩
/-- behind a call that makes nothing -/
theorem mj_afterP {p : Program} {l : Launch} {e : Env} {R : Room} {s : State} {m : MethodId} {args : Array Value} {below : List Frame} {meth : Method} {c : Code} {H : Heap} {locs : List Loc} {cells slots mcc msc pc : Nat} {Q : State → Prop} {ls : Array Slot} {rest st0 : List Value} {a : Array Value} {A : Nat → Prop} {G : mj_G} {D : va_G} {cA : Nat → ClassId} {ad : Nat → Nat} {ρ : List (Nat × Nat)} {w wc : mj_M} {postc : mj_R}
    (hr : va_Run p l e R s m args below meth c H locs cells slots mcc msc (F0 m pc ls st0) (rest.map (mj_v ad)) (mj_Q G D cA (va_A (mj_w (fun q => ad (mj_ff ρ q)) cA wc) H.size) (fun q => ad (mj_ff ρ q)) (fun _ => True) postc a) (va_A (mj_w (fun q => ad (mj_ff ρ q)) cA wc) H.size))
    (hS : va_S A s.heap H locs) (hP : va_P D G.1 (mj_w ad cA w) H) (hD : va_D A (mj_w ad cA w)) (hA : ∀ q, s.heap.size ≤ q → A q) (hin : ∀ q ∈ mj_wr (mj_ff ρ) wc, q ∈ w)
    (kk : ∀ (r : Option Value) (w' : mj_M), postc r w' → mj_pw w → ∃ (st2 : List Value) (w2 : mj_M), (st2 = r.toList.map (mj_v (mj_ff ρ)) ++ rest ∧ w2.map Prod.fst = w.map Prod.fst ∧ ∀ q ∈ w2, q ∈ mj_wr (mj_ff ρ) w' ∨ (q ∈ w ∧ ∀ z ∈ mj_wr (mj_ff ρ) w', z.1 ≠ q.1)) ∧ w'.map Prod.fst = wc.map Prod.fst ∧
      ∀ (H1 : Heap) (locs1 : List Loc), va_P D G.1 (mj_w ad cA w2) H1 → va_D A (mj_w ad cA w2) → va_S A s.heap H1 locs1 → W p l e R s m args below meth c H1 locs1 (cells + mcc) (slots + msc) Q (F0 m (pc + 3) ls (st2.map (mj_v ad)))) : W p l e R s m args below meth c H locs cells slots Q (F0 m pc ls st0) := by
  have hw1 := mj_w_wr ad (mj_ff ρ) cA wc
  have hAA : ∀ q, va_A (mj_w (fun q => ad (mj_ff ρ q)) cA wc) H.size q → A q := by
    rintro q (⟨k, e1, hk⟩ | hk)
    · rw [← hw1] at hk
      unfold mj_w at hk
      rw [List.getElem?_map] at hk
      cases hz : (mj_wr (mj_ff ρ) wc)[k]? with
      | none => rw [hz] at hk; cases hk
      | some z =>
        rw [hz] at hk
        have hk : (ad z.1, mj_e ad cA z.2) = (q, e1) := Option.some.inj hk
        obtain ⟨kz, hkz, -⟩ := mj_in_at (ad := ad) (cA := cA) (hin z (List.mem_of_getElem? hz))
        have := hD.2 kz _ hkz
        rw [← (Prod.mk.inj hk).1]
        exact this
    · exact hA q (Nat.le_trans hS.1 hk)
  intro T hT X
  obtain ⟨v, st₀, t, T', L, h0, X', hL, e1, e2, ⟨⟨r, w', ad', had, hpost, hoc, hP1, -, -⟩, hz, hk⟩, st⟩ := hr T hT X
  have hade : ad' = fun q => ad (mj_ff ρ q) := funext fun q => had q trivial
  subst hade
  injection hoc with hoc
  subst hoc
  rw [h0] at hz hk
  obtain ⟨st2, w2, ⟨hst2, hkw, h2⟩, hkeys, kk⟩ := kk r w' hpost (mj_D_pw hD)
  have hP2 : va_P D G.1 (mj_w ad cA w2) T'.heap := by
    refine mj_join0 hP hD hin (w1 := mj_wr (mj_ff ρ) w') ?_ h2 ?_ ?_
    · unfold mj_wr
      rw [List.map_map, List.map_map]
      have hcomp : (Prod.fst ∘ fun q : Nat × mj_C => (mj_ff ρ q.1, mj_cr (mj_ff ρ) q.2)) = (mj_ff ρ) ∘ Prod.fst := rfl
      rw [hcomp, ← List.map_map, ← List.map_map, hkeys]
    · rw [mj_w_wr, e1]
      exact hP1
    · intro q h1 h3
      rw [hw1] at h3
      rw [e1]
      exact hk q h1 h3
  obtain ⟨t2, a1, b1⟩ := kk T'.heap (locs ++ L) hP2 (mj_D_keys hkw hD)
    ⟨Nat.le_trans hS.1 (by rw [e1]; exact hz), fun q h1 h3 => by rw [e1, hk q (Nat.lt_of_lt_of_le h1 hS.1) (fun z => h3 (hAA q z))]; exact hS.2.1 q h1 h3, fun q hq => by
      rcases List.mem_append.mp hq with h | h
      · exact hS.2.2 q h
      · exact hAA _ (hL q h)⟩ T' rfl X'
  refine ⟨t2, st t2 ?_, b1⟩
  have hstk : (r.map (mj_v fun q => ad (mj_ff ρ q))).toList ++ rest.map (mj_v ad) = st2.map (mj_v ad) := by
    rw [hst2, List.map_append]
    congr 1
    cases r with
    | none => rfl
    | some x =>
      show [mj_v (fun q => ad (mj_ff ρ q)) x] = [mj_v ad (mj_v (mj_ff ρ) x)]
      rw [mj_v_v]
  rw [hstk]
  exact a1
/-- what the tables must say of a method that is called -/
def mj_VW (G : mj_G) (Y : mj_N) (n : Nat) : Prop := Cond.instanceMethod Y.1 ∈ G.2.1 ∧ Cond.selects Y.1.cls Y.1 Y.1 ∈ G.2.1 ∧ Cond.initialized Y.1.cls ∈ G.2.1 ∧ Cond.code Y.1 Y.2.1 Y.2.2.1 Y.2.2.2 ∈ G.2.1 ∧ Y.1.cls ≠ "java/lang/invoke/MethodHandle" ∧ Y.1.cls ≠ "java/lang/invoke/VarHandle" ∧ (parseMethodDescriptor Y.1.desc).map (fun d => d.parameters.length) = some n
def mj_SW (G : mj_G) (Y : mj_N) (n : Nat) : Prop := Cond.static Y.1 ∈ G.2.1 ∧ Cond.initialized Y.1.cls ∈ G.2.1 ∧ Cond.code Y.1 Y.2.1 Y.2.2.1 Y.2.2.2 ∈ G.2.1 ∧ Y.1.cls ≠ "java/lang/invoke/MethodHandle" ∧ Y.1.cls ≠ "java/lang/invoke/VarHandle" ∧ (parseMethodDescriptor Y.1.desc).map (fun d => d.parameters.length) = some n
theorem mj_pre_blind {G : mj_G} {D : va_G} {cA : Nat → ClassId} {av : List Value} {sz : Nat} {W0 : va_W} : FrameBlind (va_Pc av (fun U => U.heap.size = sz ∧ va_P D G.1 W0 U.heap ∧ va_K D G.1 (mj_tys cA G.2.2) U ∧ va_D (fun _ => True) W0)) := by
  intro a U g mk q
  obtain ⟨q0, q1, qP, qK, qD⟩ := q
  exact ⟨q0, q1, qP, va_K.moved (u := U) (U := U.calling g mk a) (Vm.Alike.refl U.vm) qK, qD⟩
theorem mj_P_in {D : va_G} {cl : List vw_C} {ad : Nat → Nat} {cA : Nat → ClassId} {w w1 : mj_M} {H : Heap} (hP : va_P D cl (mj_w ad cA w) H) (hin : ∀ q ∈ w1, q ∈ w) : va_P D cl (mj_w ad cA w1) H := by
  intro k q hq
  unfold mj_w at hq
  rw [List.getElem?_map] at hq
  cases hz : w1[k]? with
  | none => rw [hz] at hq; cases hq
  | some z =>
    rw [hz] at hq
    have hq : (ad z.1, mj_e ad cA z.2) = q := Option.some.inj hq
    subst hq
    obtain ⟨kz, hkz, -⟩ := mj_in_at (ad := ad) (cA := cA) (hin z (List.mem_of_getElem? hz))
    exact hP kz _ hkz
theorem mj_D_in {A : Nat → Prop} {ad : Nat → Nat} {cA : Nat → ClassId} {w w1 : mj_M} (hD : va_D A (mj_w ad cA w)) (hin : ∀ q ∈ w1, q ∈ w) (hn : va_nd (w1.map Prod.fst) = true) : va_D A (mj_w ad cA w1) := by
  have key : ∀ (k : Nat) (q : Nat × va_E), (mj_w ad cA w1)[k]? = some q → ∃ z : Nat × mj_C, w1[k]? = some z ∧ q = (ad z.1, mj_e ad cA z.2) := by
    intro k q hq
    unfold mj_w at hq
    rw [List.getElem?_map] at hq
    cases hz : w1[k]? with
    | none => rw [hz] at hq; cases hq
    | some z =>
      rw [hz] at hq
      exact ⟨z, rfl, (Option.some.inj hq).symm⟩
  refine ⟨fun i j p q hp hq hpq => ?_, fun k q hq => ?_⟩
  · obtain ⟨y, hy, rfl⟩ := key i p hp
    obtain ⟨z, hz, rfl⟩ := key j q hq
    obtain ⟨ky, hky, hwy⟩ := mj_in_at (ad := ad) (cA := cA) (hin y (List.mem_of_getElem? hy))
    obtain ⟨kz, hkz, hwz⟩ := mj_in_at (ad := ad) (cA := cA) (hin z (List.mem_of_getElem? hz))
    have := hD.1 ky kz _ _ hky hkz hpq
    subst this
    have hyz : y = z := Option.some.inj (hwy.symm.trans hwz)
    subst hyz
    exact va_nd_inj _ hn i j y.1 (by rw [List.getElem?_map, hy]; rfl) (by rw [List.getElem?_map, hz]; rfl)
  · obtain ⟨z, hz, rfl⟩ := key k q hq
    obtain ⟨kz, hkz, -⟩ := mj_in_at (ad := ad) (cA := cA) (hin z (List.mem_of_getElem? hz))
    exact hD.2 kz _ hkz
theorem mj_rl_eq {ρ : List (Nat × Nat)} {l l2 : List Value} (h : mj_rl ρ l some = some l2) : l2 = l.map (mj_v (mj_ff ρ)) := by
  rcases mj_rl_or (β := List Value) ρ l with h1 | h1
  · rw [h1] at h; cases h
  · rw [h1] at h; exact (Option.some.inj h).symm
theorem mj_gin {G : mj_G} (hg : GoodIn G.2.1 G.2.1) {L : List Cond} (h : ∀ w ∈ L, w ∈ G.2.1) : GoodIn G.2.1 L := fun w hw => ⟨h w hw, (hg w (h w hw)).2⟩
theorem mj_k {G : mj_G} {X : mj_X} {cells slots pc : Nat} {lv : mj_L} {ρ : List (Nat × Nat)} {r : Option Value} {w' wc w w2 : mj_M} {rest st2 : List Value} (h1 : mj_fin ρ r w' w rest = some (st2, w2)) (h2 : w'.map Prod.fst = wc.map Prod.fst) (h3 : mj_W G X cells slots pc lv st2 w2) :
    ∃ (st2 : List Value) (w2 : mj_M), mj_fin ρ r w' w rest = some (st2, w2) ∧ w'.map Prod.fst = wc.map Prod.fst ∧ mj_W G X cells slots pc lv st2 w2 := ⟨st2, w2, h1, h2, h3⟩
section MJC
variable {G : mj_G} {X : mj_X} {l : Launch} {D : va_G} {cA : Nat → ClassId} {Y : mj_N} {fr lo mc ms : Nat} {kp : Nat → Prop} {post : mj_R} {cells slots pc : Nat} {lv : mj_L} {st : List Value} {w : mj_M}
theorem mj_callV0 (h : mj_E G X l D cA Y fr lo mc ms kp post) (hg : GoodIn G.2.1 G.2.1) {Yc : mj_N} {frc loc mcc msc n index : Nat} {As : List Value} {a0 : Nat} {wc : mj_M} {postc : mj_R} (hev : mj_Ev G l D cA Yc frc loc mcc msc (.ref a0 :: As) wc (fun _ => True) postc) (hvw : mj_VW G Yc n)
    (hlink : Cond.methodLink Y.1.cls index Yc.1 ∈ G.2.1) (hd : decode Y.2.1 pc = .ok (.invokevirtual index, 3)) (hn : As.length = n) (hroom : frc + 1 ≤ fr ∧ 8 + (Yc.2.2.1 + 11) + loc ≤ lo) (hcells : cells + mcc ≤ mc ∧ slots + msc ≤ ms)
    (ρ : List (Nat × Nat)) {rest : List Value} {ci : Nat} {fs : List Value} {T : u_T} {N : Nat} (hrec : mj_lk wc a0 some = some (.inr (ci, fs))) (hci : G.1[ci]? = some (Yc.1.cls, T, N))
    (hin : ∀ q ∈ mj_wr (mj_ff ρ) wc, q ∈ w) (hnd : va_nd ((mj_wr (mj_ff ρ) wc).map Prod.fst) = true) (hst : st = ((Value.ref a0 :: As).map (mj_v (mj_ff ρ))).reverse ++ rest) (hrr : (rest.map fun v => v.category).sum ≤ 8)
    (kk : ∀ (r : Option Value) (w' : mj_M), postc r w' → mj_pw w → ∃ (st2 : List Value) (w2 : mj_M), (st2 = r.toList.map (mj_v (mj_ff ρ)) ++ rest ∧ w2.map Prod.fst = w.map Prod.fst ∧ ∀ q ∈ w2, q ∈ mj_wr (mj_ff ρ) w' ∨ (q ∈ w ∧ ∀ z ∈ mj_wr (mj_ff ρ) w', z.1 ≠ q.1)) ∧ w'.map Prod.fst = wc.map Prod.fst ∧ mj_W G X (cells + mcc) (slots + msc) (pc + 3) lv st2 w2) : mj_W G X cells slots pc lv st w := by
  obtain ⟨p, l', e, R, s, m, args, below, meth, c, Q, D', cA', A, ad0, kp', nL⟩ := X
  obtain ⟨hB, rfl, rfl, rfl, rfl, hR1, hR2, hR3, hR4, hQ, hr, hlk⟩ := h
  intro ad H locs ls h0 hP hD hS hl
  obtain ⟨hv1, hv2, hv3, hv4, hv5, hv6, hv7⟩ := hvw
  have hWc := mj_w_wr ad (mj_ff ρ) cA' wc
  have hPc : va_P D' G.1 (mj_w (fun q => ad (mj_ff ρ q)) cA' wc) H := by
    rw [← hWc]
    exact mj_P_in hP hin
  have hDc : va_D (fun _ => True) (mj_w (fun q => ad (mj_ff ρ q)) cA' wc) := by
    rw [← hWc]
    exact (mj_D_in hD hin hnd).weaken (fun _ _ _ _ => trivial)
  obtain ⟨q0, hq0⟩ : ∃ q0 : Nat, wc[q0]? = some (a0, (Sum.inr (ci, fs) : mj_C)) := by
    rcases mj_lk_or (β := mj_C) wc a0 with h1 | ⟨v, q0, h1, h2⟩
    · rw [h1] at hrec; cases hrec
    · rw [h1] at hrec
      exact ⟨q0, by rw [h2, Option.some.inj hrec]⟩
  have hgood : GoodIn G.2.1 (wsV Y.1.cls index Yc.1.cls Yc.1 (Cond.code Yc.1 Yc.2.1 Yc.2.2.1 Yc.2.2.2 :: G.2.1)) := by
    refine mj_gin hg (fun x hx => ?_)
    unfold wsV at hx
    rcases List.mem_append.mp hx with hx | hx
    · simp only [List.mem_cons, List.not_mem_nil, or_false] at hx
      rcases hx with rfl | rfl | rfl | rfl
      · exact hlink
      · exact hv1
      · exact hv2
      · exact hv3
    · rcases List.mem_cons.mp hx with rfl | hx
      · exact hv4
      · exact hx
  have hrun := va_runV (C := Yc.1.cls) (b := ad (mj_ff ρ a0)) (As := As.map (mj_v fun q => ad (mj_ff ρ q))) (rest := rest.map (mj_v ad)) (g := F0 m pc ls (st.map (mj_v ad))) (cells := cells) (slots := slots) (locs := locs) (below := below) (meth := meth) (e := e) (H := H)
    ⟨hB.1, hB.2.1, hB.2.2.1, hB.2.2.2.2.1, hB.2.2.2.2.2.1⟩ (hev (fun q => ad (mj_ff ρ q)) H.size)
    (cwV (R := R) n hB.2.2.2.2.2.1 hgood rfl rfl rfl ⟨rfl, hv5, hv6, hv7⟩ ⟨by rw [hR1]; exact hroom.1, by rw [hR4]; exact hroom.2⟩)
    ⟨mj_pre_blind, va_recv hB.2.2.2.2.2.2.1 hPc hci (mj_w_at hq0), fun U hU hW => ⟨rfl, by rw [hU], by rw [hU]; exact hPc, va_K.moved hW.alike hB.2.2.2.2.2.2.1, hDc⟩⟩
    rfl (by rw [List.length_map]; exact hn) hl.1 (by
      show st.map (mj_v ad) = _
      have e9 : ((Value.ref a0 :: As).map (mj_v (mj_ff ρ))).map (mj_v ad) = (Value.ref a0 :: As).map (mj_v fun q => ad (mj_ff ρ q)) := by
        rw [List.map_map]
        exact List.map_congr_left (fun v _ => mj_v_v ad (mj_ff ρ) v)
      rw [hst, List.map_append, List.map_reverse, e9, List.map_cons, List.reverse_cons, List.append_assoc]
      rfl) (lv_room (by simpa [Function.comp_def, mj_v_cat] using hrr)) hd ⟨by rw [hR2]; exact hcells.1, by rw [hR3]; exact hcells.2⟩
  refine mj_afterP (ρ := ρ) (w := w) (wc := wc) (postc := postc) hrun hS hP hD hB.2.2.2.2.2.2.2.1 hin (fun r w' hp hpw => ?_)
  obtain ⟨st2, w2, h1, h2, k⟩ := kk r w' hp hpw
  exact ⟨st2, w2, h1, h2, fun H1 locs1 hP1 hD1 hS1 => k ad H1 locs1 ls h0 hP1 hD1 hS1 hl⟩
theorem mj_callV (h : mj_E G X l D cA Y fr lo mc ms kp post) (hg : GoodIn G.2.1 G.2.1) {Yc : mj_N} {frc loc mcc msc n index : Nat} {As : List Value} {a0 : Nat} {wc : mj_M} {postc : mj_R} (hev : mj_Ev G l D cA Yc frc loc mcc msc (.ref a0 :: As) wc (fun _ => True) postc) (hvw : mj_VW G Yc n)
    (hlink : Cond.methodLink Y.1.cls index Yc.1 ∈ G.2.1) (hd : decode Y.2.1 pc = .ok (.invokevirtual index, 3)) (hn : As.length = n) (hroom : frc + 1 ≤ fr ∧ 8 + (Yc.2.2.1 + 11) + loc ≤ lo) (hcells : cells + mcc ≤ mc ∧ slots + msc ≤ ms)
    (ρ : List (Nat × Nat)) {wx : mj_M} {rest as2 : List Value} {ci : Nat} {fs : List Value} {T : u_T} {N : Nat} (hrec : mj_lk wc a0 some = some (.inr (ci, fs))) (hci : G.1[ci]? = some (Yc.1.cls, T, N))
    (hsub : mj_ct ρ wc w = some (wx, wx)) (hnd : va_nd (wx.map Prod.fst) = true) (hargs : mj_rl ρ (.ref a0 :: As) some = some as2) (hst : st = as2.reverse ++ rest) (hrr : (rest.map fun v => v.category).sum ≤ 8)
    (kk : ∀ (r : Option Value) (w' : mj_M), postc r w' → ∃ (st2 : List Value) (w2 : mj_M), mj_fin ρ r w' w rest = some (st2, w2) ∧ w'.map Prod.fst = wc.map Prod.fst ∧ mj_W G X (cells + mcc) (slots + msc) (pc + 3) lv st2 w2) : mj_W G X cells slots pc lv st w := by
  obtain ⟨hwx, hin⟩ := mj_ct_in hsub
  rw [hwx] at hnd
  have hargs2 := mj_rl_eq hargs
  rw [hargs2] at hst
  refine mj_callV0 h hg hev hvw hlink hd hn hroom hcells ρ hrec hci hin hnd hst hrr (fun r w' hp hpw => ?_)
  obtain ⟨st2, w2, h1, h2, h3⟩ := kk r w' hp
  exact ⟨st2, w2, mj_fin_eq h1 hpw, h2, h3⟩
/-- a call on cells of which some lie in a part of the world that isn't looked into -/
theorem mj_callVx (h : mj_E G X l D cA Y fr lo mc ms kp post) (hg : GoodIn G.2.1 G.2.1) {Yc : mj_N} {frc loc mcc msc n index : Nat} {As : List Value} {a0 : Nat} {wa wb : mj_M} {postc : mj_R} (hev : mj_Ev G l D cA Yc frc loc mcc msc (.ref a0 :: As) (wa ++ wb) (fun _ => True) postc) (hvw : mj_VW G Yc n)
    (hlink : Cond.methodLink Y.1.cls index Yc.1 ∈ G.2.1) (hd : decode Y.2.1 pc = .ok (.invokevirtual index, 3)) (hn : As.length = n) (hroom : frc + 1 ≤ fr ∧ 8 + (Yc.2.2.1 + 11) + loc ≤ lo) (hcells : cells + mcc ≤ mc ∧ slots + msc ≤ ms)
    (ρ : List (Nat × Nat)) {wf Rw wx : mj_M} {rest : List Value} {ci : Nat} {fs : List Value} {T : u_T} {N : Nat} (hrec : mj_lk (wa ++ wb) a0 some = some (.inr (ci, fs))) (hci : G.1[ci]? = some (Yc.1.cls, T, N))
    (hsub : mj_ct ρ wa wf = some (wx, wx)) (hsubR : ∀ q ∈ mj_wr (mj_ff ρ) wb, q ∈ Rw) (hnd : va_nd ((mj_wr (mj_ff ρ) (wa ++ wb)).map Prod.fst) = true) (hst : st = ((Value.ref a0 :: As).map (mj_v (mj_ff ρ))).reverse ++ rest) (hrr : (rest.map fun v => v.category).sum ≤ 8)
    (kk : ∀ (r : Option Value) (w' : mj_M), postc r w' → ∃ (wa' : mj_M) (st2 : List Value) (w2 : mj_M), w' = wa' ++ wb ∧ wa'.map Prod.fst = wa.map Prod.fst ∧ mj_fin ρ r wa' wf rest = some (st2, w2) ∧ mj_W G X (cells + mcc) (slots + msc) (pc + 3) lv st2 (w2 ++ Rw)) : mj_W G X cells slots pc lv st (wf ++ Rw) := by
  obtain ⟨-, hin1⟩ := mj_ct_in hsub
  have happ : ∀ x y : mj_M, mj_wr (mj_ff ρ) (x ++ y) = mj_wr (mj_ff ρ) x ++ mj_wr (mj_ff ρ) y := fun x y => by unfold mj_wr; rw [List.map_append]
  have hin : ∀ q ∈ mj_wr (mj_ff ρ) (wa ++ wb), q ∈ wf ++ Rw := by
    intro q hq
    rw [happ] at hq
    rcases List.mem_append.mp hq with hq | hq
    · exact List.mem_append_left _ (hin1 q hq)
    · exact List.mem_append_right _ (hsubR q hq)
  refine mj_callV0 h hg hev hvw hlink hd hn hroom hcells ρ hrec hci hin hnd hst hrr (fun r w' hp hpw => ?_)
  obtain ⟨wa', st2, w2, h1, h2, h3, h4⟩ := kk r w' hp
  subst h1
  obtain ⟨hp1, hp2, hp3⟩ := List.pairwise_append.mp hpw
  obtain ⟨e1, e2, e3⟩ := mj_fin_eq h3 hp1
  have hkey : ∀ z ∈ mj_wr (mj_ff ρ) wa', ∃ y ∈ wf, y.1 = z.1 := by
    intro z hz
    have hz1 : z.1 ∈ (mj_wr (mj_ff ρ) wa').map Prod.fst := List.mem_map.mpr ⟨z, hz, rfl⟩
    have hk : (mj_wr (mj_ff ρ) wa').map Prod.fst = (mj_wr (mj_ff ρ) wa).map Prod.fst := by
      unfold mj_wr
      rw [List.map_map, List.map_map]
      have hcomp : (Prod.fst ∘ fun q : Nat × mj_C => (mj_ff ρ q.1, mj_cr (mj_ff ρ) q.2)) = (mj_ff ρ) ∘ Prod.fst := rfl
      rw [hcomp, ← List.map_map, ← List.map_map, h2]
    rw [hk] at hz1
    obtain ⟨y, hy, hy1⟩ := List.mem_map.mp hz1
    exact ⟨y, hin1 y hy, hy1⟩
  refine ⟨st2, w2 ++ Rw, ⟨e1, by rw [List.map_append, List.map_append, e2], fun q hq => ?_⟩, by rw [List.map_append, List.map_append, h2], h4⟩
  rw [happ]
  rcases List.mem_append.mp hq with hq | hq
  · rcases e3 q hq with h5 | ⟨h5, h6⟩
    · exact Or.inl (List.mem_append_left _ h5)
    · refine Or.inr ⟨List.mem_append_left _ h5, fun z hz => ?_⟩
      rcases List.mem_append.mp hz with hz | hz
      · exact h6 z hz
      · exact fun h7 => hp3 q h5 z (hsubR z hz) h7.symm
  · by_cases hb : q ∈ mj_wr (mj_ff ρ) wb
    · exact Or.inl (List.mem_append_right _ hb)
    · refine Or.inr ⟨List.mem_append_right _ hq, fun z hz h7 => ?_⟩
      rcases List.mem_append.mp hz with hz | hz
      · obtain ⟨y, hy, hy1⟩ := hkey z hz
        exact hp3 y hy q hq (hy1.trans h7)
      · have hzR := hsubR z hz
        have hzq : z = q := by
          obtain ⟨i, hi⟩ := List.getElem?_of_mem hzR
          obtain ⟨j, hj⟩ := List.getElem?_of_mem hq
          obtain ⟨hi1, hi2⟩ := List.getElem?_eq_some_iff.mp hi
          obtain ⟨hj1, hj2⟩ := List.getElem?_eq_some_iff.mp hj
          have hpp := List.pairwise_iff_getElem.mp hp2
          rcases Nat.lt_trichotomy i j with h8 | h8 | h8
          · exact absurd (by rw [hi2, hj2]; exact h7) (hpp i j hi1 hj1 h8)
          · subst h8
            rw [← hi2, ← hj2]
          · exact absurd (by rw [hi2, hj2]; exact h7.symm) (hpp j i hj1 hi1 h8)
        exact hb (hzq ▸ hz)
theorem mj_callS (h : mj_E G X l D cA Y fr lo mc ms kp post) (hg : GoodIn G.2.1 G.2.1) {Yc : mj_N} {frc loc mcc msc n index : Nat} {As : List Value} {wc : mj_M} {postc : mj_R} (hev : mj_Ev G l D cA Yc frc loc mcc msc As wc (fun _ => True) postc) (hvw : mj_SW G Yc n) (hcls : Yc.1.cls = Y.1.cls)
    (hlink : Cond.methodLink Y.1.cls index Yc.1 ∈ G.2.1) (hd : decode Y.2.1 pc = .ok (.invokestatic index, 3)) (hn : As.length = n) (hroom : frc + 1 ≤ fr ∧ 8 + (Yc.2.2.1 + 11) + loc ≤ lo) (hcells : cells + mcc ≤ mc ∧ slots + msc ≤ ms)
    (ρ : List (Nat × Nat)) {wx : mj_M} {rest as2 : List Value}
    (hsub : mj_ct ρ wc w = some (wx, wx)) (hnd : va_nd (wx.map Prod.fst) = true) (hargs : mj_rl ρ As some = some as2) (hst : st = as2.reverse ++ rest) (hrr : (rest.map fun v => v.category).sum ≤ 8)
    (kk : ∀ (r : Option Value) (w' : mj_M), postc r w' → ∃ (st2 : List Value) (w2 : mj_M), mj_fin ρ r w' w rest = some (st2, w2) ∧ w'.map Prod.fst = wc.map Prod.fst ∧ mj_W G X (cells + mcc) (slots + msc) (pc + 3) lv st2 w2) : mj_W G X cells slots pc lv st w := by
  obtain ⟨p, l', e, R, s, m, args, below, meth, c, Q, D', cA', A, ad0, kp', nL⟩ := X
  obtain ⟨hB, rfl, rfl, rfl, rfl, hR1, hR2, hR3, hR4, hQ, hr, hlk⟩ := h
  intro ad H locs ls h0 hP hD hS hl
  obtain ⟨hv1, hv3, hv4, hv5, hv6, hv7⟩ := hvw
  obtain ⟨hwx, hin⟩ := mj_ct_in hsub
  rw [hwx] at hnd
  have hargs2 := mj_rl_eq hargs
  have hWc := mj_w_wr ad (mj_ff ρ) cA' wc
  have hPc : va_P D' G.1 (mj_w (fun q => ad (mj_ff ρ q)) cA' wc) H := by
    rw [← hWc]
    exact mj_P_in hP hin
  have hDc : va_D (fun _ => True) (mj_w (fun q => ad (mj_ff ρ q)) cA' wc) := by
    rw [← hWc]
    exact (mj_D_in hD hin hnd).weaken (fun _ _ _ _ => trivial)
  have hgood : GoodIn G.2.1 (wsS Y.1.cls index Yc.1 (Cond.code Yc.1 Yc.2.1 Yc.2.2.1 Yc.2.2.2 :: G.2.1)) := by
    refine mj_gin hg (fun x hx => ?_)
    unfold wsS at hx
    rcases List.mem_append.mp hx with hx | hx
    · simp only [List.mem_cons, List.not_mem_nil, or_false] at hx
      rcases hx with rfl | rfl | rfl
      · exact hlink
      · exact hv1
      · rw [← hcls]
        exact hv3
    · rcases List.mem_cons.mp hx with rfl | hx
      · exact hv4
      · exact hx
  have hrun := va_runS (As := As.map (mj_v fun q => ad (mj_ff ρ q))) (rest := rest.map (mj_v ad)) (g := F0 m pc ls (st.map (mj_v ad))) (cells := cells) (slots := slots) (locs := locs) (below := below) (meth := meth) (e := e) (H := H)
    ⟨hB.1, hB.2.1, hB.2.2.1, hB.2.2.2.2.1, hB.2.2.2.2.2.1⟩ (hev (fun q => ad (mj_ff ρ q)) H.size)
    (cwS (R := R) n hB.2.2.2.2.2.1 hgood rfl rfl rfl ⟨hcls, hv5, hv6, hv7⟩ ⟨by rw [hR1]; exact hroom.1, by rw [hR4]; exact hroom.2⟩)
    ⟨mj_pre_blind, fun U hU hW => ⟨rfl, by rw [hU], by rw [hU]; exact hPc, va_K.moved hW.alike hB.2.2.2.2.2.2.1, hDc⟩⟩
    rfl (by rw [List.length_map]; exact hn) hl.1 (by
      show st.map (mj_v ad) = _
      have e9 : as2.map (mj_v ad) = As.map (mj_v fun q => ad (mj_ff ρ q)) := by
        rw [hargs2, List.map_map]
        exact List.map_congr_left (fun v _ => mj_v_v ad (mj_ff ρ) v)
      rw [hst, List.map_append, List.map_reverse, e9]) (lv_room (by simpa [Function.comp_def, mj_v_cat] using hrr)) hd ⟨by rw [hR2]; exact hcells.1, by rw [hR3]; exact hcells.2⟩
  refine mj_afterP (ρ := ρ) (w := w) (wc := wc) (postc := postc) hrun hS hP hD hB.2.2.2.2.2.2.2.1 hin (fun r w' hp hpw => ?_)
  obtain ⟨st2, w2, h1, h2, k⟩ := kk r w' hp
  exact ⟨st2, w2, mj_fin_eq h1 hpw, h2, fun H1 locs1 hP1 hD1 hS1 => k ad H1 locs1 ls h0 hP1 hD1 hS1 hl⟩
theorem mj_min (h : mj_E G X l D cA Y fr lo mc ms kp post) {index : Nat} {x y : Int32} {rest : List Value} (h1 : Cond.methodLink Y.1.cls index Lib.Math.min.name ∈ G.2.1) (h2 : Cond.static Lib.Math.min.name ∈ G.2.1) (h3 : Cond.initialized "java/lang/Math" ∈ G.2.1) (h4 : Cond.code Lib.Math.min.name Lib.Math.min.code 2 (some .int) ∈ G.2.1) (hfr : 1 ≤ fr) (hlo : (rest.map fun v => v.category).sum + 13 ≤ lo) (hc : cells ≤ mc) (hs : slots ≤ ms) (hd : decode Y.2.1 pc = .ok (.invokestatic index, 3))
    (kk : mj_W G X cells slots (pc + 3) lv (.int (if y < x then y else x) :: rest) w) : mj_W G X cells slots pc lv (.int y :: .int x :: rest) w := by
  obtain ⟨p, l', e, R, s, m, args, below, meth, c, Q, D', cA', A, ad0, kp', nL⟩ := X
  obtain ⟨hB, rfl, rfl, rfl, rfl, hR1, hR2, hR3, hR4, hQ, hr, hlk⟩ := h
  intro ad H locs ls h0 hP hD hS hl
  exact va_mmin hB.1 hB.2.1 (hB.2.2.1.trans hl.1.symm) hB.2.2.2.2.1 (hB.2.2.2.2.2.1 _ h1) (hB.2.2.2.2.2.1 _ h2) (hB.2.2.2.2.2.1 _ h3) (hB.2.2.2.2.2.1 _ h4) (by rw [hR1]; exact hfr) (by rw [hR4]; simpa [Function.comp_def, mj_v_cat] using hlo) (by rw [hR2]; exact hc) (by rw [hR3]; exact hs) hd (kk ad H locs ls h0 hP hD hS hl)
theorem mj_max (h : mj_E G X l D cA Y fr lo mc ms kp post) {index : Nat} {x y : Int32} {rest : List Value} (h1 : Cond.methodLink Y.1.cls index Lib.Math.max.name ∈ G.2.1) (h2 : Cond.static Lib.Math.max.name ∈ G.2.1) (h3 : Cond.initialized "java/lang/Math" ∈ G.2.1) (h4 : Cond.code Lib.Math.max.name Lib.Math.max.code 2 (some .int) ∈ G.2.1) (hfr : 1 ≤ fr) (hlo : (rest.map fun v => v.category).sum + 13 ≤ lo) (hc : cells ≤ mc) (hs : slots ≤ ms) (hd : decode Y.2.1 pc = .ok (.invokestatic index, 3))
    (kk : mj_W G X cells slots (pc + 3) lv (.int (if x < y then y else x) :: rest) w) : mj_W G X cells slots pc lv (.int y :: .int x :: rest) w := by
  obtain ⟨p, l', e, R, s, m, args, below, meth, c, Q, D', cA', A, ad0, kp', nL⟩ := X
  obtain ⟨hB, rfl, rfl, rfl, rfl, hR1, hR2, hR3, hR4, hQ, hr, hlk⟩ := h
  intro ad H locs ls h0 hP hD hS hl
  exact va_mmax hB.1 hB.2.1 (hB.2.2.1.trans hl.1.symm) hB.2.2.2.2.1 (hB.2.2.2.2.2.1 _ h1) (hB.2.2.2.2.2.1 _ h2) (hB.2.2.2.2.2.1 _ h3) (hB.2.2.2.2.2.1 _ h4) (by rw [hR1]; exact hfr) (by rw [hR4]; simpa [Function.comp_def, mj_v_cat] using hlo) (by rw [hR2]; exact hc) (by rw [hR3]; exact hs) hd (kk ad H locs ls h0 hP hD hS hl)
end MJC
/-! making cells -/
def mj_nv (pn : Nat) : Value → Prop
  | .ref a => a ≠ pn
  | _ => True
def mj_nc (pn : Nat) : mj_C → Prop
  | .inl (_, _, .inl _) => True
  | .inl (_, _, .inr (.inl _)) => True
  | .inl (_, _, .inr (.inr l)) => some pn ∉ l
  | .inr (_, fs) => ∀ v ∈ fs, mj_nv pn v
def mj_nw (pn : Nat) (w : mj_M) : Prop := ∀ q ∈ w, q.1 ≠ pn ∧ mj_nc pn q.2
def mj_nl (pn : Nat) (lv : mj_L) : Prop := ∀ q ∈ lv, mj_nv pn q.2
def mj_ns2 (pn : Nat) (st : List Value) : Prop := ∀ v ∈ st, mj_nv pn v
def mj_au (ad : Nat → Nat) (pn q : Nat) : Nat → Nat := fun i => if i = pn then q else ad i
theorem mj_au_v {ad : Nat → Nat} {pn q : Nat} {v : Value} (h : mj_nv pn v) : mj_v (mj_au ad pn q) v = mj_v ad v := by
  cases v with
  | ref a =>
    show Value.ref (if a = pn then q else ad a) = .ref (ad a)
    rw [if_neg h]
  | _ => rfl
theorem mj_au_e {ad : Nat → Nat} {pn q : Nat} {cA : Nat → ClassId} {e : mj_C} (h : mj_nc pn e) : mj_e (mj_au ad pn q) cA e = mj_e ad cA e := by
  rcases e with ⟨t, n, f | f | f⟩ | ⟨c, fs⟩
  · rfl
  · rfl
  · show (Sum.inl (cA t, n, .inr (.inr (.inr (.inr (fun j => (f.getD j none).map (mj_au ad pn q)))))) : va_E) = .inl (cA t, n, .inr (.inr (.inr (.inr (fun j => (f.getD j none).map ad)))))
    have hfun : (fun j => (f.getD j none).map (mj_au ad pn q)) = (fun j => (f.getD j none).map ad) := by
     funext j
     cases hj : f.getD j none with
     | none => rfl
     | some a =>
       have hm : some a ∈ f := by
         rw [List.getD_eq_getElem?_getD] at hj
         cases h2 : f[j]? with
         | none => rw [h2] at hj; cases hj
         | some o =>
           rw [h2] at hj
           have hj : o = some a := hj
           rw [← hj]
           exact List.mem_of_getElem? h2
       have hne : a ≠ pn := fun h3 => h (h3 ▸ hm)
       show some (if a = pn then q else ad a) = some (ad a)
       rw [if_neg hne]
    rw [hfun]
  · show (Sum.inr (c, fs.map (mj_v (mj_au ad pn q))) : va_E) = .inr (c, fs.map (mj_v ad))
    congr 2
    apply List.map_congr_left
    intro v hv
    exact mj_au_v (h v hv)
theorem mj_au_w {ad : Nat → Nat} {pn q : Nat} {cA : Nat → ClassId} {w : mj_M} (h : mj_nw pn w) : mj_w (mj_au ad pn q) cA w = mj_w ad cA w := by
  unfold mj_w
  apply List.map_congr_left
  intro z hz
  show (mj_au ad pn q z.1, mj_e (mj_au ad pn q) cA z.2) = _
  rw [mj_au_e (h z hz).2]
  show ((if z.1 = pn then q else ad z.1), _) = _
  rw [if_neg (h z hz).1]
theorem mj_au_l {ad : Nat → Nat} {pn q : Nat} {lv : mj_L} (h : mj_nl pn lv) : mj_l (mj_au ad pn q) lv = mj_l ad lv := by
  unfold mj_l
  apply List.map_congr_left
  intro z hz
  rw [mj_au_v (h z hz)]
theorem mj_au_s {ad : Nat → Nat} {pn q : Nat} {st : List Value} (h : mj_ns2 pn st) : st.map (mj_v (mj_au ad pn q)) = st.map (mj_v ad) := by
  apply List.map_congr_left
  intro z hz
  exact mj_au_v (h z hz)
def mj_sn {β : Type} : mj_M → (Nat × mj_C) → (mj_M → Option β) → Option β
  | [], x, k => k [x]
  | q :: w, x, k => mj_sn w x (fun l => k (q :: l))
theorem mj_sn_eq {β : Type} (w : mj_M) (x : Nat × mj_C) (k : mj_M → Option β) : mj_sn w x k = k (w ++ [x]) := by
  induction w generalizing k with
  | nil => rfl
  | cons q w ih => simp only [mj_sn, ih, List.cons_append]
def mj_il : (Nat → Int32) ⊕ (Nat → Int64) → (Nat → Int32) ⊕ (Nat → Int64) ⊕ List (Option Nat)
  | .inl f => .inl f
  | .inr f => .inr (.inl f)
def mj_va (n : Nat) : (Nat → Int32) ⊕ (Nat → Int64) → vp_A
  | .inl f => (n, .inl f)
  | .inr f => (n, .inr (.inl f))
section MJA
variable {G : mj_G} {X : mj_X} {M : mj_Y} {cells slots pc : Nat} {lv : mj_L} {st : List Value} {w w2 : mj_M}
/-- X's room and what it keeps -/
def mj_Rm (X : mj_X) (mc ms : Nat) (kp : Nat → Prop) : Prop := X.2.2.2.1.cells = mc ∧ X.2.2.2.1.slots = ms ∧ X.2.2.2.2.2.2.2.2.2.2.2.2.2.2.2.1 = kp
theorem mj_new (hB : mj_B G X M) {mc ms : Nat} {kp : Nat → Prop} (hX : mj_Rm X mc ms kp) {C0 : String} {T : u_T} {N index ci : Nat} {ty0 : Nat → FieldType} {fs : List Value} (hc : G.1[ci]? = some (C0, T, N)) (hin : ∀ w ∈ u_ws C0 T N, w ∈ G.2.1) (hty : ∀ k, k < N → parseFieldDescriptor (T k).2.2.1 = some (ty0 k)) (h1 : Cond.classLink M.1 index C0 ∈ G.2.1) (h2 : Cond.instantiable C0 N ∈ G.2.1) (h3 : Cond.initialized C0 ∈ G.2.1) (hfs : ∀ j, j < N → defaultValue (ty0 j) = vp_V fs j) (hnr : ∀ ad : Nat → Nat, fs.map (mj_v ad) = fs)
    (hd : decode M.2.2.1 pc = .ok (.new index, 3)) (hcells : cells + 1 ≤ mc) (hslots : slots + N ≤ ms) (pn : Nat) (hkp : ¬ kp pn) (hf : mj_nw pn w ∧ mj_nl pn lv ∧ mj_ns2 pn st) (hw2 : mj_sn w (pn, .inr (ci, fs)) some = some w2)
    (kk : mj_W G X (cells + 1) (slots + N) (pc + 3) lv (.ref pn :: st) w2) : mj_W G X cells slots pc lv st w := by
  obtain ⟨p, l, e, R, s, m, args, below, meth, c, Q, D, cA, A, ad0, kp', nL⟩ := X
  obtain ⟨hx1, hx2, hx3⟩ := hX
  have hx1 : R.cells = mc := hx1
  have hx2 : R.slots = ms := hx2
  have hx3 : kp' = kp := hx3
  subst hx3
  intro ad H locs ls h0 hP hD hS hl
  rw [mj_sn_eq] at hw2
  have hw2 := Option.some.inj hw2
  subst hw2
  refine va_new (ci := ci) (fs := fs) (C := C0) (T := T) (N := N) hB.1 hB.2.1 hB.2.2.2.2.2.1 hin ty0 hty hB.2.2.2.2.1 (hB.2.2.2.2.2.1 _ h1) (hB.2.2.2.2.2.1 _ h2) (hB.2.2.2.2.2.1 _ h3) hB.2.2.2.2.2.2.1 hP hD hS hB.2.2.2.2.2.2.2.1 hc hfs (by rw [hx1]; exact hcells) (by rw [hx2]; exact hslots) hd (fun q H1 hP1 hD1 hS1 => ?_)
  have e1 : mj_w (mj_au ad pn q) cA (w ++ [(pn, .inr (ci, fs))]) = mj_w ad cA w ++ [(q, .inr (ci, fs))] := by
    have e2 : mj_w (mj_au ad pn q) cA (w ++ [(pn, .inr (ci, fs))]) = mj_w (mj_au ad pn q) cA w ++ [(mj_au ad pn q pn, .inr (ci, fs.map (mj_v (mj_au ad pn q))))] := by
      unfold mj_w
      rw [List.map_append]
      rfl
    rw [e2, mj_au_w hf.1, hnr]
    show mj_w ad cA w ++ [((if pn = pn then q else ad pn), _)] = _
    rw [if_pos rfl]
  have k2 := kk (mj_au ad pn q) H1 locs ls (fun z hz => by
    show (if z = pn then q else ad z) = ad0 z
    rw [if_neg (show ¬ z = pn from fun h => hkp (h ▸ hz))]
    exact h0 z hz) (by rw [e1]; exact hP1) (by rw [e1]; exact hD1) hS1 (by rw [mj_au_l hf.2.1]; exact hl)
  have e3 : (Value.ref pn :: st).map (mj_v (mj_au ad pn q)) = .ref q :: st.map (mj_v ad) := by
    rw [List.map_cons, mj_au_s hf.2.2]
    show Value.ref (if pn = pn then q else ad pn) :: _ = _
    rw [if_pos rfl]
  rw [e3] at k2
  exact k2
theorem mj_newa (hB : mj_B G X M) {mc ms : Nat} {kp : Nat → Prop} (hX : mj_Rm X mc ms kp) {atype : ArrayType} {ty : FieldType} {t N' : Nat} {n : Int32} {f : (Nat → Int32) ⊕ (Nat → Int64)} (harr : Cond.arrayClass (newarray.typeOf atype) ∈ G.2.1) (hty : newarray.typeOf atype = ty) (hG : G.2.2[t]? = some ty) (hRA : ∀ (U : State) (cA : ClassId), va_RA U cA ty → U.vm.findClass ("[" ++ ty.toString) = some cA)
    (ha : ∀ cB : ClassId, vp_cell cB (mj_va N' f) = arrV cB N' (fun _ => defaultValue ty)) (hn : ¬ n < 0) (hN : n.toNatClampNeg = N') (hbytes : N' * componentBytes ty ≤ 536870912)
    (hd : decode M.2.2.1 pc = .ok (.newarray atype, 2)) (hcells : cells + 1 ≤ mc) (hslots : slots + N' ≤ ms) (pn : Nat) (hkp : ¬ kp pn) (hf : mj_nw pn w ∧ mj_nl pn lv ∧ mj_ns2 pn st) (hw2 : mj_sn w (pn, .inl (t, N', mj_il f)) some = some w2)
    (kk : mj_W G X (cells + 1) (slots + N') (pc + 2) lv (.ref pn :: st) w2) : mj_W G X cells slots pc lv (.int n :: st) w := by
  obtain ⟨p, l, e, R, s, m, args, below, meth, c, Q, D, cA, A, ad0, kp', nL⟩ := X
  obtain ⟨hx1, hx2, hx3⟩ := hX
  have hx1 : R.cells = mc := hx1
  have hx2 : R.slots = ms := hx2
  have hx3 : kp' = kp := hx3
  subst hx3
  intro ad H locs ls h0 hP hD hS hl
  rw [mj_sn_eq] at hw2
  have hw2 := Option.some.inj hw2
  subst hw2
  refine va_newa hB.1 hB.2.1 (hB.2.2.2.2.2.1 _ harr) hty hB.2.2.2.2.2.2.1 hP hD hS hB.2.2.2.2.2.2.2.1 ha hn hN hbytes (by rw [hx1]; exact hcells) (by rw [hx2]; exact hslots) hd (fun q cB H1 hK1 hP1 hD1 hS1 => ?_)
  have hcB : cB = cA t := by
    have r1 := hRA _ _ (hK1.2 (mj_tys cA G.2.2).length (cB, ty) (by simp)).2
    have r2 := hRA _ _ (hB.2.2.2.2.2.2.1.2 t (cA t, ty) (mj_tys_at hG)).2
    exact Option.some.inj (r1.symm.trans r2)
  subst hcB
  have hnc : ∀ ad : Nat → Nat, mj_e ad cA (.inl (t, N', mj_il f)) = .inl (cA t, mj_va N' f) := by
    intro ad
    rcases f with f | f <;> rfl
  have e1 : mj_w (mj_au ad pn q) cA (w ++ [(pn, .inl (t, N', mj_il f))]) = mj_w ad cA w ++ [(q, .inl (cA t, mj_va N' f))] := by
    have e2 : mj_w (mj_au ad pn q) cA (w ++ [(pn, .inl (t, N', mj_il f))]) = mj_w (mj_au ad pn q) cA w ++ [(mj_au ad pn q pn, mj_e (mj_au ad pn q) cA (.inl (t, N', mj_il f)))] := by
      unfold mj_w
      rw [List.map_append]
      rfl
    rw [e2, mj_au_w hf.1, hnc]
    show mj_w ad cA w ++ [((if pn = pn then q else ad pn), _)] = _
    rw [if_pos rfl]
  have k2 := kk (mj_au ad pn q) H1 locs ls (fun z hz => by
    show (if z = pn then q else ad z) = ad0 z
    rw [if_neg (show ¬ z = pn from fun h => hkp (h ▸ hz))]
    exact h0 z hz) (by rw [e1]; exact hP1) (by rw [e1]; exact hD1) hS1 (by rw [mj_au_l hf.2.1]; exact hl)
  have e3 : (Value.ref pn :: st).map (mj_v (mj_au ad pn q)) = .ref q :: st.map (mj_v ad) := by
    rw [List.map_cons, mj_au_s hf.2.2]
    show Value.ref (if pn = pn then q else ad pn) :: _ = _
    rw [if_pos rfl]
  rw [e3] at k2
  exact k2
end MJA
end
