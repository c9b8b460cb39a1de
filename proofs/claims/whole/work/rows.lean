section
/-- a private method of a class that the tables say can be made, by its rows of tables_1 -/
def lw_okq (q : MethodName × Nat) : Prop := (q.1.cls ≠ "java/lang/invoke/MethodHandle" ∧ q.1.cls ≠ "java/lang/invoke/VarHandle") ∧ Cond.instantiable q.1.cls q.2 ∈ tables_1 ∧ Cond.privateMethod q.1 ∈ tables_1 ∧ Cond.instanceMethod q.1 ∈ tables_1
theorem lw_p0 : lw_okq (⟨"StreamWatch$Stream", "emptyWindow", "()V"⟩, 8) := ⟨⟨by decide +kernel, by decide +kernel⟩, List.mem_of_getElem? (i := 93) (by decide +kernel), List.mem_of_getElem? (i := 99) (by decide +kernel), List.mem_of_getElem? (i := 100) (by decide +kernel)⟩
theorem lw_p1 : lw_okq (⟨"StreamWatch$Wire", "ipSum", "()I"⟩, 2) := ⟨⟨by decide +kernel, by decide +kernel⟩, List.mem_of_getElem? (i := 28) (by decide +kernel), List.mem_of_getElem? (i := 290) (by decide +kernel), List.mem_of_getElem? (i := 291) (by decide +kernel)⟩
theorem lw_p2 : lw_okq (⟨"StreamWatch$Wire", "sumOf", "(III)I"⟩, 2) := ⟨⟨by decide +kernel, by decide +kernel⟩, List.mem_of_getElem? (i := 28) (by decide +kernel), List.mem_of_getElem? (i := 294) (by decide +kernel), List.mem_of_getElem? (i := 295) (by decide +kernel)⟩
theorem lw_p3 : lw_okq (⟨"StreamWatch$Wire", "tcpWords", "()I"⟩, 2) := ⟨⟨by decide +kernel, by decide +kernel⟩, List.mem_of_getElem? (i := 28) (by decide +kernel), List.mem_of_getElem? (i := 302) (by decide +kernel), List.mem_of_getElem? (i := 303) (by decide +kernel)⟩
theorem lw_p4 : lw_okq (⟨"StreamWatch$Wire", "tcpSum", "()I"⟩, 2) := ⟨⟨by decide +kernel, by decide +kernel⟩, List.mem_of_getElem? (i := 28) (by decide +kernel), List.mem_of_getElem? (i := 310) (by decide +kernel), List.mem_of_getElem? (i := 311) (by decide +kernel)⟩
theorem lw_p5 : lw_okq (⟨"StreamWatch$Wire", "setPair", "(II)V"⟩, 2) := ⟨⟨by decide +kernel, by decide +kernel⟩, List.mem_of_getElem? (i := 28) (by decide +kernel), List.mem_of_getElem? (i := 318) (by decide +kernel), List.mem_of_getElem? (i := 319) (by decide +kernel)⟩
theorem lw_p6 : lw_okq (⟨"StreamWatch", "flowOfPacket", "()LStreamWatch$Flow;"⟩, 8) := ⟨⟨by decide +kernel, by decide +kernel⟩, List.mem_of_getElem? (i := 20) (by decide +kernel), List.mem_of_getElem? (i := 353) (by decide +kernel), List.mem_of_getElem? (i := 354) (by decide +kernel)⟩
theorem lw_p7 : lw_okq (⟨"StreamWatch$Flow", "isClient", "(II)Z"⟩, 8) := ⟨⟨by decide +kernel, by decide +kernel⟩, List.mem_of_getElem? (i := 87) (by decide +kernel), List.mem_of_getElem? (i := 373) (by decide +kernel), List.mem_of_getElem? (i := 374) (by decide +kernel)⟩
theorem lw_p8 : lw_okq (⟨"StreamWatch$Flow", "isServer", "(II)Z"⟩, 8) := ⟨⟨by decide +kernel, by decide +kernel⟩, List.mem_of_getElem? (i := 87) (by decide +kernel), List.mem_of_getElem? (i := 377) (by decide +kernel), List.mem_of_getElem? (i := 378) (by decide +kernel)⟩
theorem lw_p9 : lw_okq (⟨"StreamWatch", "receive", "(LStreamWatch$Flow;I)V"⟩, 8) := ⟨⟨by decide +kernel, by decide +kernel⟩, List.mem_of_getElem? (i := 20) (by decide +kernel), List.mem_of_getElem? (i := 407) (by decide +kernel), List.mem_of_getElem? (i := 408) (by decide +kernel)⟩
theorem lw_p10 : lw_okq (⟨"StreamWatch", "holdData", "(LStreamWatch$Stream;)V"⟩, 8) := ⟨⟨by decide +kernel, by decide +kernel⟩, List.mem_of_getElem? (i := 20) (by decide +kernel), List.mem_of_getElem? (i := 419) (by decide +kernel), List.mem_of_getElem? (i := 420) (by decide +kernel)⟩
theorem lw_p11 : lw_okq (⟨"StreamWatch", "raiseAlerts", "(LStreamWatch$Flow;LStreamWatch$Stream;I)V"⟩, 8) := ⟨⟨by decide +kernel, by decide +kernel⟩, List.mem_of_getElem? (i := 20) (by decide +kernel), List.mem_of_getElem? (i := 438) (by decide +kernel), List.mem_of_getElem? (i := 439) (by decide +kernel)⟩
theorem lw_p12 : lw_okq (⟨"StreamWatch", "ruleAt", "(I)LStreamWatch$Rule;"⟩, 8) := ⟨⟨by decide +kernel, by decide +kernel⟩, List.mem_of_getElem? (i := 20) (by decide +kernel), List.mem_of_getElem? (i := 442) (by decide +kernel), List.mem_of_getElem? (i := 443) (by decide +kernel)⟩
theorem lw_p13 : lw_okq (⟨"StreamWatch$Search", "find", "(LStreamWatch$Option;LStreamWatch$Stream;)V"⟩, 2) := ⟨⟨by decide +kernel, by decide +kernel⟩, List.mem_of_getElem? (i := 167) (by decide +kernel), List.mem_of_getElem? (i := 482) (by decide +kernel), List.mem_of_getElem? (i := 483) (by decide +kernel)⟩
theorem lw_p14 : lw_okq (⟨"StreamWatch$Option", "folded", "(I)I"⟩, 7) := ⟨⟨by decide +kernel, by decide +kernel⟩, List.mem_of_getElem? (i := 497) (by decide +kernel), List.mem_of_getElem? (i := 495) (by decide +kernel), List.mem_of_getElem? (i := 496) (by decide +kernel)⟩
theorem lw_p15 : lw_okq (⟨"StreamWatch$Search", "dropBases", "(LStreamWatch$Option;I)V"⟩, 2) := ⟨⟨by decide +kernel, by decide +kernel⟩, List.mem_of_getElem? (i := 167) (by decide +kernel), List.mem_of_getElem? (i := 502) (by decide +kernel), List.mem_of_getElem? (i := 503) (by decide +kernel)⟩
def lw_privs_1 : List (MethodName × Nat) := [(⟨"StreamWatch$Stream", "emptyWindow", "()V"⟩, 8), (⟨"StreamWatch$Wire", "ipSum", "()I"⟩, 2), (⟨"StreamWatch$Wire", "sumOf", "(III)I"⟩, 2), (⟨"StreamWatch$Wire", "tcpWords", "()I"⟩, 2), (⟨"StreamWatch$Wire", "tcpSum", "()I"⟩, 2), (⟨"StreamWatch$Wire", "setPair", "(II)V"⟩, 2), (⟨"StreamWatch", "flowOfPacket", "()LStreamWatch$Flow;"⟩, 8), (⟨"StreamWatch$Flow", "isClient", "(II)Z"⟩, 8), (⟨"StreamWatch$Flow", "isServer", "(II)Z"⟩, 8), (⟨"StreamWatch", "receive", "(LStreamWatch$Flow;I)V"⟩, 8), (⟨"StreamWatch", "holdData", "(LStreamWatch$Stream;)V"⟩, 8), (⟨"StreamWatch", "raiseAlerts", "(LStreamWatch$Flow;LStreamWatch$Stream;I)V"⟩, 8), (⟨"StreamWatch", "ruleAt", "(I)LStreamWatch$Rule;"⟩, 8), (⟨"StreamWatch$Search", "find", "(LStreamWatch$Option;LStreamWatch$Stream;)V"⟩, 2), (⟨"StreamWatch$Option", "folded", "(I)I"⟩, 7), (⟨"StreamWatch$Search", "dropBases", "(LStreamWatch$Option;I)V"⟩, 2)]
theorem lw_r1 : ∀ q ∈ lw_privs_1, lw_okq q := List.forall_mem_cons.mpr ⟨lw_p0, List.forall_mem_cons.mpr ⟨lw_p1, List.forall_mem_cons.mpr ⟨lw_p2, List.forall_mem_cons.mpr ⟨lw_p3, List.forall_mem_cons.mpr ⟨lw_p4, List.forall_mem_cons.mpr ⟨lw_p5, List.forall_mem_cons.mpr ⟨lw_p6, List.forall_mem_cons.mpr ⟨lw_p7, List.forall_mem_cons.mpr ⟨lw_p8, List.forall_mem_cons.mpr ⟨lw_p9, List.forall_mem_cons.mpr ⟨lw_p10, List.forall_mem_cons.mpr ⟨lw_p11, List.forall_mem_cons.mpr ⟨lw_p12, List.forall_mem_cons.mpr ⟨lw_p13, List.forall_mem_cons.mpr ⟨lw_p14, List.forall_mem_cons.mpr ⟨lw_p15, fun _ h => absurd h List.not_mem_nil⟩⟩⟩⟩⟩⟩⟩⟩⟩⟩⟩⟩⟩⟩⟩⟩
theorem lw_p16 : lw_okq (⟨"StreamWatch$Search", "moveBases", "(LStreamWatch$Option;I)V"⟩, 2) := ⟨⟨by decide +kernel, by decide +kernel⟩, List.mem_of_getElem? (i := 167) (by decide +kernel), List.mem_of_getElem? (i := 516) (by decide +kernel), List.mem_of_getElem? (i := 517) (by decide +kernel)⟩
theorem lw_p17 : lw_okq (⟨"StreamWatch", "streamAt", "(II)LStreamWatch$Stream;"⟩, 8) := ⟨⟨by decide +kernel, by decide +kernel⟩, List.mem_of_getElem? (i := 20) (by decide +kernel), List.mem_of_getElem? (i := 563) (by decide +kernel), List.mem_of_getElem? (i := 564) (by decide +kernel)⟩
theorem lw_p18 : lw_okq (⟨"java/lang/Throwable", "fillInStackTrace", "(I)Ljava/lang/Throwable;"⟩, 6) := ⟨⟨by decide +kernel, by decide +kernel⟩, List.mem_of_getElem? (i := 638) (by decide +kernel), List.mem_of_getElem? (i := 636) (by decide +kernel), List.mem_of_getElem? (i := 637) (by decide +kernel)⟩
theorem lw_p19 : lw_okq (⟨"StreamWatch", "writeIpHeader", "(III)V"⟩, 8) := ⟨⟨by decide +kernel, by decide +kernel⟩, List.mem_of_getElem? (i := 20) (by decide +kernel), List.mem_of_getElem? (i := 670) (by decide +kernel), List.mem_of_getElem? (i := 671) (by decide +kernel)⟩
theorem lw_p20 : lw_okq (⟨"StreamWatch", "writeTcpHeader", "(IIII)V"⟩, 8) := ⟨⟨by decide +kernel, by decide +kernel⟩, List.mem_of_getElem? (i := 20) (by decide +kernel), List.mem_of_getElem? (i := 678) (by decide +kernel), List.mem_of_getElem? (i := 679) (by decide +kernel)⟩
theorem lw_p21 : lw_okq (⟨"StreamWatchModel", "addNumber", "(II)V"⟩, 33) := ⟨⟨by decide +kernel, by decide +kernel⟩, List.mem_of_getElem? (i := 780) (by decide +kernel), List.mem_of_getElem? (i := 896) (by decide +kernel), List.mem_of_getElem? (i := 897) (by decide +kernel)⟩
theorem lw_p22 : lw_okq (⟨"StreamWatchModel", "add", "(I)V"⟩, 33) := ⟨⟨by decide +kernel, by decide +kernel⟩, List.mem_of_getElem? (i := 780) (by decide +kernel), List.mem_of_getElem? (i := 900) (by decide +kernel), List.mem_of_getElem? (i := 901) (by decide +kernel)⟩
theorem lw_p23 : lw_okq (⟨"StreamWatchModel", "close", "()V"⟩, 33) := ⟨⟨by decide +kernel, by decide +kernel⟩, List.mem_of_getElem? (i := 780) (by decide +kernel), List.mem_of_getElem? (i := 904) (by decide +kernel), List.mem_of_getElem? (i := 905) (by decide +kernel)⟩
theorem lw_p24 : lw_okq (⟨"StreamWatchModel", "headerSum", "()I"⟩, 33) := ⟨⟨by decide +kernel, by decide +kernel⟩, List.mem_of_getElem? (i := 780) (by decide +kernel), List.mem_of_getElem? (i := 909) (by decide +kernel), List.mem_of_getElem? (i := 910) (by decide +kernel)⟩
theorem lw_p25 : lw_okq (⟨"StreamWatchModel", "headerSize", "()I"⟩, 33) := ⟨⟨by decide +kernel, by decide +kernel⟩, List.mem_of_getElem? (i := 780) (by decide +kernel), List.mem_of_getElem? (i := 913) (by decide +kernel), List.mem_of_getElem? (i := 914) (by decide +kernel)⟩
theorem lw_p26 : lw_okq (⟨"StreamWatchModel", "total", "(II)I"⟩, 33) := ⟨⟨by decide +kernel, by decide +kernel⟩, List.mem_of_getElem? (i := 780) (by decide +kernel), List.mem_of_getElem? (i := 917) (by decide +kernel), List.mem_of_getElem? (i := 918) (by decide +kernel)⟩
theorem lw_p27 : lw_okq (⟨"StreamWatchModel", "partSum", "()I"⟩, 33) := ⟨⟨by decide +kernel, by decide +kernel⟩, List.mem_of_getElem? (i := 780) (by decide +kernel), List.mem_of_getElem? (i := 924) (by decide +kernel), List.mem_of_getElem? (i := 925) (by decide +kernel)⟩
theorem lw_p28 : lw_okq (⟨"StreamWatchModel", "pair", "(I)I"⟩, 33) := ⟨⟨by decide +kernel, by decide +kernel⟩, List.mem_of_getElem? (i := 780) (by decide +kernel), List.mem_of_getElem? (i := 928) (by decide +kernel), List.mem_of_getElem? (i := 929) (by decide +kernel)⟩
theorem lw_p29 : lw_okq (⟨"StreamWatchModel", "reason", "(Z)I"⟩, 33) := ⟨⟨by decide +kernel, by decide +kernel⟩, List.mem_of_getElem? (i := 780) (by decide +kernel), List.mem_of_getElem? (i := 952) (by decide +kernel), List.mem_of_getElem? (i := 953) (by decide +kernel)⟩
theorem lw_p30 : lw_okq (⟨"StreamWatchModel", "find", "(I)I"⟩, 33) := ⟨⟨by decide +kernel, by decide +kernel⟩, List.mem_of_getElem? (i := 780) (by decide +kernel), List.mem_of_getElem? (i := 968) (by decide +kernel), List.mem_of_getElem? (i := 969) (by decide +kernel)⟩
theorem lw_p31 : lw_okq (⟨"StreamWatchModel", "four", "(I)I"⟩, 33) := ⟨⟨by decide +kernel, by decide +kernel⟩, List.mem_of_getElem? (i := 780) (by decide +kernel), List.mem_of_getElem? (i := 972) (by decide +kernel), List.mem_of_getElem? (i := 973) (by decide +kernel)⟩
def lw_privs_2 : List (MethodName × Nat) := [(⟨"StreamWatch$Search", "moveBases", "(LStreamWatch$Option;I)V"⟩, 2), (⟨"StreamWatch", "streamAt", "(II)LStreamWatch$Stream;"⟩, 8), (⟨"java/lang/Throwable", "fillInStackTrace", "(I)Ljava/lang/Throwable;"⟩, 6), (⟨"StreamWatch", "writeIpHeader", "(III)V"⟩, 8), (⟨"StreamWatch", "writeTcpHeader", "(IIII)V"⟩, 8), (⟨"StreamWatchModel", "addNumber", "(II)V"⟩, 33), (⟨"StreamWatchModel", "add", "(I)V"⟩, 33), (⟨"StreamWatchModel", "close", "()V"⟩, 33), (⟨"StreamWatchModel", "headerSum", "()I"⟩, 33), (⟨"StreamWatchModel", "headerSize", "()I"⟩, 33), (⟨"StreamWatchModel", "total", "(II)I"⟩, 33), (⟨"StreamWatchModel", "partSum", "()I"⟩, 33), (⟨"StreamWatchModel", "pair", "(I)I"⟩, 33), (⟨"StreamWatchModel", "reason", "(Z)I"⟩, 33), (⟨"StreamWatchModel", "find", "(I)I"⟩, 33), (⟨"StreamWatchModel", "four", "(I)I"⟩, 33)]
theorem lw_r2 : ∀ q ∈ lw_privs_2, lw_okq q := List.forall_mem_cons.mpr ⟨lw_p16, List.forall_mem_cons.mpr ⟨lw_p17, List.forall_mem_cons.mpr ⟨lw_p18, List.forall_mem_cons.mpr ⟨lw_p19, List.forall_mem_cons.mpr ⟨lw_p20, List.forall_mem_cons.mpr ⟨lw_p21, List.forall_mem_cons.mpr ⟨lw_p22, List.forall_mem_cons.mpr ⟨lw_p23, List.forall_mem_cons.mpr ⟨lw_p24, List.forall_mem_cons.mpr ⟨lw_p25, List.forall_mem_cons.mpr ⟨lw_p26, List.forall_mem_cons.mpr ⟨lw_p27, List.forall_mem_cons.mpr ⟨lw_p28, List.forall_mem_cons.mpr ⟨lw_p29, List.forall_mem_cons.mpr ⟨lw_p30, List.forall_mem_cons.mpr ⟨lw_p31, fun _ h => absurd h List.not_mem_nil⟩⟩⟩⟩⟩⟩⟩⟩⟩⟩⟩⟩⟩⟩⟩⟩
theorem lw_p32 : lw_okq (⟨"StreamWatchModel", "room", "()I"⟩, 33) := ⟨⟨by decide +kernel, by decide +kernel⟩, List.mem_of_getElem? (i := 780) (by decide +kernel), List.mem_of_getElem? (i := 976) (by decide +kernel), List.mem_of_getElem? (i := 977) (by decide +kernel)⟩
theorem lw_p33 : lw_okq (⟨"StreamWatchModel", "begin", "(II)V"⟩, 33) := ⟨⟨by decide +kernel, by decide +kernel⟩, List.mem_of_getElem? (i := 780) (by decide +kernel), List.mem_of_getElem? (i := 980) (by decide +kernel), List.mem_of_getElem? (i := 981) (by decide +kernel)⟩
theorem lw_p34 : lw_okq (⟨"StreamWatchModel", "hold", "(III)V"⟩, 33) := ⟨⟨by decide +kernel, by decide +kernel⟩, List.mem_of_getElem? (i := 780) (by decide +kernel), List.mem_of_getElem? (i := 984) (by decide +kernel), List.mem_of_getElem? (i := 985) (by decide +kernel)⟩
theorem lw_p35 : lw_okq (⟨"StreamWatchModel", "grow", "(I)I"⟩, 33) := ⟨⟨by decide +kernel, by decide +kernel⟩, List.mem_of_getElem? (i := 780) (by decide +kernel), List.mem_of_getElem? (i := 988) (by decide +kernel), List.mem_of_getElem? (i := 989) (by decide +kernel)⟩
theorem lw_p36 : lw_okq (⟨"StreamWatchModel", "look", "(I)I"⟩, 33) := ⟨⟨by decide +kernel, by decide +kernel⟩, List.mem_of_getElem? (i := 780) (by decide +kernel), List.mem_of_getElem? (i := 992) (by decide +kernel), List.mem_of_getElem? (i := 993) (by decide +kernel)⟩
theorem lw_p37 : lw_okq (⟨"StreamWatchModel", "holdsOn", "(II)Z"⟩, 33) := ⟨⟨by decide +kernel, by decide +kernel⟩, List.mem_of_getElem? (i := 780) (by decide +kernel), List.mem_of_getElem? (i := 996) (by decide +kernel), List.mem_of_getElem? (i := 997) (by decide +kernel)⟩
theorem lw_p38 : lw_okq (⟨"StreamWatchModel", "clean", "(II)Z"⟩, 33) := ⟨⟨by decide +kernel, by decide +kernel⟩, List.mem_of_getElem? (i := 780) (by decide +kernel), List.mem_of_getElem? (i := 1000) (by decide +kernel), List.mem_of_getElem? (i := 1001) (by decide +kernel)⟩
theorem lw_p39 : lw_okq (⟨"StreamWatchModel", "base", "(II)I"⟩, 33) := ⟨⟨by decide +kernel, by decide +kernel⟩, List.mem_of_getElem? (i := 780) (by decide +kernel), List.mem_of_getElem? (i := 1004) (by decide +kernel), List.mem_of_getElem? (i := 1005) (by decide +kernel)⟩
theorem lw_p40 : lw_okq (⟨"StreamWatchModel", "found", "(IIII)Z"⟩, 33) := ⟨⟨by decide +kernel, by decide +kernel⟩, List.mem_of_getElem? (i := 780) (by decide +kernel), List.mem_of_getElem? (i := 1008) (by decide +kernel), List.mem_of_getElem? (i := 1009) (by decide +kernel)⟩
theorem lw_p41 : lw_okq (⟨"StreamWatchModel", "isFlow", "(I)Z"⟩, 33) := ⟨⟨by decide +kernel, by decide +kernel⟩, List.mem_of_getElem? (i := 780) (by decide +kernel), List.mem_of_getElem? (i := 1019) (by decide +kernel), List.mem_of_getElem? (i := 1020) (by decide +kernel)⟩
def lw_privs_3 : List (MethodName × Nat) := [(⟨"StreamWatchModel", "room", "()I"⟩, 33), (⟨"StreamWatchModel", "begin", "(II)V"⟩, 33), (⟨"StreamWatchModel", "hold", "(III)V"⟩, 33), (⟨"StreamWatchModel", "grow", "(I)I"⟩, 33), (⟨"StreamWatchModel", "look", "(I)I"⟩, 33), (⟨"StreamWatchModel", "holdsOn", "(II)Z"⟩, 33), (⟨"StreamWatchModel", "clean", "(II)Z"⟩, 33), (⟨"StreamWatchModel", "base", "(II)I"⟩, 33), (⟨"StreamWatchModel", "found", "(IIII)Z"⟩, 33), (⟨"StreamWatchModel", "isFlow", "(I)Z"⟩, 33)]
theorem lw_r3 : ∀ q ∈ lw_privs_3, lw_okq q := List.forall_mem_cons.mpr ⟨lw_p32, List.forall_mem_cons.mpr ⟨lw_p33, List.forall_mem_cons.mpr ⟨lw_p34, List.forall_mem_cons.mpr ⟨lw_p35, List.forall_mem_cons.mpr ⟨lw_p36, List.forall_mem_cons.mpr ⟨lw_p37, List.forall_mem_cons.mpr ⟨lw_p38, List.forall_mem_cons.mpr ⟨lw_p39, List.forall_mem_cons.mpr ⟨lw_p40, List.forall_mem_cons.mpr ⟨lw_p41, fun _ h => absurd h List.not_mem_nil⟩⟩⟩⟩⟩⟩⟩⟩⟩⟩
def lw_privs : List (MethodName × Nat) := lw_privs_1 ++ (lw_privs_2 ++ (lw_privs_3))
def lw_tbl : List Cond := k2_sels lw_privs ++ tables_1
theorem lw_privs_ok : ∀ q ∈ lw_privs, lw_okq q := by
  show ∀ q ∈ lw_privs_1 ++ (lw_privs_2 ++ (lw_privs_3)), lw_okq q
  exact List.forall_mem_append.mpr ⟨lw_r1, List.forall_mem_append.mpr ⟨lw_r2, lw_r3⟩⟩
end
section
/-! A small machine over worlds by places: a value's reference is a PLACE; 'ad' says at which address the place lies. Blocks of straight code are run by computation (mj_run); each instruction is sound (mj_Snd) over the kit's rows. -/
abbrev mj_C : Type := (Nat × Nat × ((Nat → Int32) ⊕ (Nat → Int64) ⊕ List (Option Nat))) ⊕ (Nat × List Value)
abbrev mj_M : Type := List (Nat × mj_C)
abbrev mj_L : Type := List (Nat × Value)
abbrev mj_S : Type := Option (List Prop × mj_L × List Value × mj_M)
abbrev mj_K : Type := List Prop → mj_L → List Value → mj_M → mj_S
abbrev mj_T : Type := List Prop → mj_L → List Value → mj_M → mj_K → mj_S
abbrev mj_G : Type := List vw_C × List Cond × List FieldType
def mj_al : List Prop → Prop
  | [] => True
  | c :: l => c ∧ mj_al l
def mj_v (ad : Nat → Nat) : Value → Value
  | .ref p => .ref (ad p)
  | v => v
def mj_e (ad : Nat → Nat) (cA : Nat → ClassId) : mj_C → va_E
  | .inl (t, n, .inl f) => .inl (cA t, n, .inl f)
  | .inl (t, n, .inr (.inl f)) => .inl (cA t, n, .inr (.inl f))
  | .inl (t, n, .inr (.inr l)) => .inl (cA t, n, .inr (.inr (.inr (.inr (fun j => (l.getD j none).map ad)))))
  | .inr (c, fs) => .inr (c, fs.map (mj_v ad))
def mj_w (ad : Nat → Nat) (cA : Nat → ClassId) (w : mj_M) : va_W := w.map (fun q => (ad q.1, mj_e ad cA q.2))
def mj_l (ad : Nat → Nat) (lv : mj_L) : mj_L := lv.map (fun q => (q.1, mj_v ad q.2))
def mj_tys (cA : Nat → ClassId) (tys : List FieldType) : List (ClassId × FieldType) := tys.mapIdx (fun t ty => (cA t, ty))
theorem mj_tys_at {cA : Nat → ClassId} {tys : List FieldType} {t : Nat} {ty : FieldType} (h : tys[t]? = some ty) : (mj_tys cA tys)[t]? = some (cA t, ty) := by
  simp [mj_tys, List.getElem?_mapIdx, h]
theorem mj_bq : ∀ n : Nat, Nat.beq n n = true
  | 0 => rfl
  | n + 1 => mj_bq n
theorem mj_bn {a b : Nat} (h : a ≠ b) : Nat.beq a b = false := by
  cases hb : Nat.beq a b with
  | false => rfl
  | true => exact absurd (Nat.eq_of_beq_eq_true hb) h
/-! looking up and laying, forced -/
def mj_lk {α β : Type} : List (Nat × α) → Nat → (α → Option β) → Option β
  | [], _, _ => none
  | (j, v) :: l, i, k => bif Nat.beq j i then k v else mj_lk l i k
def mj_st {β : Type} : mj_M → Nat → mj_C → (mj_M → Option β) → Option β
  | [], _, _, k => k []
  | (j, d) :: l, i, e, k => bif Nat.beq j i then k ((j, e) :: l) else mj_st l i e (fun l' => k ((j, d) :: l'))
theorem mj_lk_or {α β : Type} (l : List (Nat × α)) (i : Nat) : (∀ k : α → Option β, mj_lk l i k = none) ∨ ∃ (v : α) (q0 : Nat), (∀ k : α → Option β, mj_lk l i k = k v) ∧ l[q0]? = some (i, v) := by
  induction l with
  | nil => exact Or.inl fun _ => rfl
  | cons q l ih =>
    obtain ⟨qi, qv⟩ := q
    by_cases h : qi = i
    · subst h
      exact Or.inr ⟨qv, 0, fun k => by simp only [mj_lk, mj_bq, cond_true], rfl⟩
    · rcases ih with ih | ⟨v, q0, ih, hq⟩
      · exact Or.inl fun k => by rw [← ih k]; simp only [mj_lk, mj_bn h, cond_false]
      · exact Or.inr ⟨v, q0 + 1, fun k => by rw [← ih k]; simp only [mj_lk, mj_bn h, cond_false], hq⟩
theorem mj_wk_or {β : Type} (l : mj_M) (i : Nat) : (∀ k : mj_C → Option β, mj_lk l i k = none) ∨ ∃ (v : mj_C) (q0 : Nat), (∀ k : mj_C → Option β, mj_lk l i k = k v) ∧ l[q0]? = some (i, v) ∧ ∀ (e : mj_C) (k : mj_M → Option β), mj_st l i e k = k (l.set q0 (i, e)) := by
  induction l with
  | nil => exact Or.inl fun _ => rfl
  | cons q l ih =>
    obtain ⟨qi, qv⟩ := q
    by_cases h : qi = i
    · subst h
      exact Or.inr ⟨qv, 0, fun k => by simp only [mj_lk, mj_bq, cond_true], rfl, fun e k => by simp only [mj_st, mj_bq, cond_true, List.set_cons_zero]⟩
    · rcases ih with ih | ⟨v, q0, ih, hq, hs⟩
      · exact Or.inl fun k => by rw [← ih k]; simp only [mj_lk, mj_bn h, cond_false]
      · exact Or.inr ⟨v, q0 + 1, fun k => by rw [← ih k]; simp only [mj_lk, mj_bn h, cond_false], hq, fun e k => by simp only [mj_st, mj_bn h, cond_false, hs, List.set_cons_succ]⟩
def mj_nt {β : Type} : List Value → Nat → (Value → Option β) → Option β
  | [], _, _ => none
  | v :: _, 0, k => k v
  | _ :: l, n + 1, k => mj_nt l n k
theorem mj_nt_or {β : Type} (l : List Value) (n : Nat) : (∀ k : Value → Option β, mj_nt l n k = none) ∨ ∃ v : Value, (∀ k : Value → Option β, mj_nt l n k = k v) ∧ l[n]? = some v := by
  induction l generalizing n with
  | nil => exact Or.inl fun _ => rfl
  | cons v l ih =>
    cases n with
    | zero => exact Or.inr ⟨v, fun _ => rfl, rfl⟩
    | succ n =>
      rcases ih n with h | ⟨x, h, hx⟩
      · exact Or.inl fun k => h k
      · exact Or.inr ⟨x, fun k => h k, hx⟩
def mj_ns {β : Type} : List Value → Nat → Value → (List Value → Option β) → Option β
  | [], _, _, k => k []
  | _ :: l, 0, x, k => k (x :: l)
  | y :: l, n + 1, x, k => mj_ns l n x (fun l' => k (y :: l'))
theorem mj_ns_eq {β : Type} (l : List Value) (n : Nat) (x : Value) (k : List Value → Option β) : mj_ns l n x k = k (l.set n x) := by
  induction l generalizing n k with
  | nil => rfl
  | cons v l ih =>
    cases n with
    | zero => rfl
    | succ n => simp only [mj_ns, ih, List.set_cons_succ]
def mj_fi {β : Type} (p : Nat × Value → Bool) : mj_L → (mj_L → Option β) → Option β
  | [], k => k []
  | q :: l, k => bif p q then mj_fi p l (fun l' => k (q :: l')) else mj_fi p l k
theorem mj_fi_eq {β : Type} (p : Nat × Value → Bool) (l : mj_L) (k : mj_L → Option β) : mj_fi p l k = k (l.filter p) := by
  induction l generalizing k with
  | nil => rfl
  | cons q l ih =>
    cases h : p q with
    | true => simp only [mj_fi, h, cond_true, ih, List.filter_cons_of_pos h]
    | false => simp only [mj_fi, h, cond_false, ih, List.filter_cons_of_neg (show ¬ p q = true by rw [h]; exact Bool.false_ne_true)]
def mj_p1 (i : Nat) (q : Nat × Value) : Bool := !(Nat.beq q.1 i) && !(Nat.beq (q.1 + 1) i && Nat.beq q.2.category 2)
def mj_p2 (i : Nat) (q : Nat × Value) : Bool := !(Nat.beq q.1 i) && (!(Nat.beq q.1 (i + 1)) && !(Nat.beq (q.1 + 1) i && Nat.beq q.2.category 2))
theorem mj_beq (a b : Nat) : (a == b) = Nat.beq a b := by
  by_cases h : a = b
  · subst h
    rw [mj_bq]
    exact beq_self_eq_true a
  · rw [mj_bn h]
    exact beq_false_of_ne h
theorem mj_v_cat (ad : Nat → Nat) (v : Value) : (mj_v ad v).category = v.category := by cases v <;> rfl
theorem mj_l_p1 (ad : Nat → Nat) (lv : mj_L) (i : Nat) : (mj_l ad lv).filter (fun q => !(q.1 == i) && !(q.1 + 1 == i && q.2.category == 2)) = mj_l ad (lv.filter (mj_p1 i)) := by
  unfold mj_l
  rw [List.filter_map]
  congr 1
  apply List.filter_congr
  intro q _
  simp only [Function.comp, mj_v_cat, mj_p1, mj_beq]
theorem mj_l_p2 (ad : Nat → Nat) (lv : mj_L) (i : Nat) : (mj_l ad lv).filter (fun q => !(q.1 == i) && (!(q.1 == i + 1) && !(q.1 + 1 == i && q.2.category == 2))) = mj_l ad (lv.filter (mj_p2 i)) := by
  unfold mj_l
  rw [List.filter_map]
  congr 1
  apply List.filter_congr
  intro q _
  simp only [Function.comp, mj_v_cat, mj_p2, mj_beq]
theorem mj_l_at {ad : Nat → Nat} {lv : mj_L} {q0 i : Nat} {v : Value} (h : lv[q0]? = some (i, v)) : (mj_l ad lv)[q0]? = some (i, mj_v ad v) := by
  simp [mj_l, List.getElem?_map, h]
theorem mj_w_at {ad : Nat → Nat} {cA : Nat → ClassId} {w : mj_M} {q0 i : Nat} {v : mj_C} (h : w[q0]? = some (i, v)) : (mj_w ad cA w)[q0]? = some (ad i, mj_e ad cA v) := by
  simp [mj_w, List.getElem?_map, h]
theorem mj_w_set {ad : Nat → Nat} {cA : Nat → ClassId} {w : mj_M} {q0 i : Nat} {v : mj_C} : mj_w ad cA (w.set q0 (i, v)) = (mj_w ad cA w).set q0 (ad i, mj_e ad cA v) := by
  simp [mj_w, List.map_set]
/-! the walk's judgement -/
abbrev mj_X := Program × Launch × Env × Room × State × MethodId × Array Value × List Frame × Method × Code × (State → Prop) × va_G × (Nat → ClassId) × (Nat → Prop) × (Nat → Nat) × (Nat → Prop) × Nat
abbrev mj_Y : Type := String × String × ByteArray × Nat
def mj_W (G : mj_G) (X : mj_X) (cells slots pc : Nat) (lv : mj_L) (st : List Value) (w : mj_M) : Prop := match X with
  | (p, l, e, R, s, m, args, below, meth, c, Q, D, cA, A, ad0, kp, nL) =>
    ∀ (ad : Nat → Nat) (H : Heap) (locs : List Loc) (ls : Array Slot), (∀ q, kp q → ad q = ad0 q) → va_P D G.1 (mj_w ad cA w) H → va_D A (mj_w ad cA w) → va_S A s.heap H locs → lv_has ls nL (mj_l ad lv) →
      W p l e R s m args below meth c H locs cells slots Q (F0 m pc ls (st.map (mj_v ad)))
def mj_B (G : mj_G) (X : mj_X) (M : mj_Y) : Prop := match X with
  | (p, l, e, R, s, m, args, below, meth, c, Q, D, cA, A, ad0, kp, nL) =>
    p.tables.exec = Jvm.exec ∧ c.code = M.2.2.1 ∧ c.maxLocals = nL ∧ nL = M.2.2.2 ∧ s.vm.findClass M.1 = some m.cls ∧ (∀ w ∈ G.2.1, w.before args s = true) ∧ va_K D G.1 (mj_tys cA G.2.2) s ∧ (∀ q, s.heap.size ≤ q → A q) ∧ meth.name = M.2.1
def mj_Snd (G : mj_G) (M : mj_Y) (pc : Nat) (f : mj_T) (pc' : Nat) : Prop :=
  ∀ X : mj_X, mj_B G X M → ∀ (C : List Prop) (lv : mj_L) (st : List Value) (w : mj_M), (∀ k, f C lv st w k = none) ∨
    ∃ (C' : List Prop) (lv' : mj_L) (st' : List Value) (w' : mj_M), (∀ k, f C lv st w k = k C' lv' st' w') ∧ (mj_al C' → mj_al C) ∧ (mj_al C' → ∀ cells slots : Nat, mj_W G X cells slots pc' lv' st' w' → mj_W G X cells slots pc lv st w)
def mj_run : List mj_T → List Prop → mj_L → List Value → mj_M → mj_S
  | [], C, lv, st, w => some (C, lv, st, w)
  | f :: fs, C, lv, st, w => f C lv st w (mj_run fs)
def mj_Ch (G : mj_G) (M : mj_Y) : Nat → List mj_T → Nat → Prop
  | pc, [], pc' => pc = pc'
  | pc, f :: fs, pc' => ∃ mid, mj_Snd G M pc f mid ∧ mj_Ch G M mid fs pc'
theorem mj_blk0 {G : mj_G} {M : mj_Y} {X : mj_X} (hB : mj_B G X M) (cells slots : Nat) : ∀ (B : List mj_T) (pc pc' : Nat) (C0 C : List Prop) (lv lv' : mj_L) (st st' : List Value) (w w' : mj_M), mj_Ch G M pc B pc' → mj_run B C0 lv st w = some (C, lv', st', w') →
    mj_al C → mj_W G X cells slots pc' lv' st' w' → mj_al C0 ∧ mj_W G X cells slots pc lv st w := by
  intro B
  induction B with
  | nil =>
    intro pc pc' C0 C lv lv' st st' w w' hch hr hC kk
    have hch : pc = pc' := hch
    subst hch
    have hr : some (C0, lv, st, w) = some (C, lv', st', w') := hr
    injection hr with hr
    injection hr with e1 e2
    injection e2 with e2 e3
    injection e3 with e3 e4
    subst e1 e2 e3 e4
    exact ⟨hC, kk⟩
  | cons f fs ih =>
    intro pc pc' C0 C lv lv' st st' w w' hch hr hC kk
    obtain ⟨mid, hs, hch⟩ := hch
    rcases hs X hB C0 lv st w with h | ⟨C1, lv1, st1, w1, h, h1, h2⟩
    · have e1 : mj_run (f :: fs) C0 lv st w = none := h _
      rw [e1] at hr
      cases hr
    · have e1 : mj_run (f :: fs) C0 lv st w = mj_run fs C1 lv1 st1 w1 := h _
      rw [e1] at hr
      obtain ⟨a, b⟩ := ih mid pc' C1 C lv1 lv' st1 st' w1 w' hch hr hC kk
      exact ⟨h1 a, h2 a cells slots b⟩
theorem mj_blk {G : mj_G} {M : mj_Y} {X : mj_X} (hB : mj_B G X M) {B : List mj_T} {cells slots pc pc' : Nat} (hch : mj_Ch G M pc B pc') {lv : mj_L} {st : List Value} {w : mj_M} {C : List Prop} {lv' : mj_L} {st' : List Value} {w' : mj_M}
    (hr : mj_run B [] lv st w = some (C, lv', st', w')) (hC : mj_al C) (kk : mj_W G X cells slots pc' lv' st' w') : mj_W G X cells slots pc lv st w :=
  (mj_blk0 hB cells slots B pc pc' [] C lv lv' st st' w w' hch hr hC kk).2
/-! the instructions -/
section MJO
variable {G : mj_G} {own nm : String} {cc : ByteArray} {nL pc : Nat}
def x_iadd : mj_T := fun C lv st w k => match st with
  | .int y :: .int x :: r => k (C) lv (.int (x + y) :: r) w
  | _ => none
theorem mj_iadd (hd : decode cc pc = .ok (.iadd, 1)) : mj_Snd G (own, nm, cc, nL) pc (x_iadd) (pc + 1) := by
  intro X hB C lv st w
  obtain ⟨p, l, e, R, s, m, args, below, meth, c, Q, D, cA, A, ad0, kp, nL'⟩ := X
  rcases st with _ | ⟨v1, _ | ⟨v2, r⟩⟩
  · exact Or.inl fun _ => rfl
  · cases v1 <;> exact Or.inl fun _ => rfl
  cases v1 <;> cases v2 <;> first | exact Or.inl (fun _ => rfl) | exact Or.inr ⟨_, lv, _, w, fun _ => rfl, id, fun hc cells slots kk ad H locs ls h0 hP hD hS hl => lv_iadd hB.1 hB.2.1 hd (kk ad H locs ls h0 hP hD hS hl)⟩
def x_isub : mj_T := fun C lv st w k => match st with
  | .int y :: .int x :: r => k (C) lv (.int (x - y) :: r) w
  | _ => none
theorem mj_isub (hd : decode cc pc = .ok (.isub, 1)) : mj_Snd G (own, nm, cc, nL) pc (x_isub) (pc + 1) := by
  intro X hB C lv st w
  obtain ⟨p, l, e, R, s, m, args, below, meth, c, Q, D, cA, A, ad0, kp, nL'⟩ := X
  rcases st with _ | ⟨v1, _ | ⟨v2, r⟩⟩
  · exact Or.inl fun _ => rfl
  · cases v1 <;> exact Or.inl fun _ => rfl
  cases v1 <;> cases v2 <;> first | exact Or.inl (fun _ => rfl) | exact Or.inr ⟨_, lv, _, w, fun _ => rfl, id, fun hc cells slots kk ad H locs ls h0 hP hD hS hl => lv_isub hB.1 hB.2.1 hd (kk ad H locs ls h0 hP hD hS hl)⟩
def x_imul : mj_T := fun C lv st w k => match st with
  | .int y :: .int x :: r => k (C) lv (.int (x * y) :: r) w
  | _ => none
theorem mj_imul (hd : decode cc pc = .ok (.imul, 1)) : mj_Snd G (own, nm, cc, nL) pc (x_imul) (pc + 1) := by
  intro X hB C lv st w
  obtain ⟨p, l, e, R, s, m, args, below, meth, c, Q, D, cA, A, ad0, kp, nL'⟩ := X
  rcases st with _ | ⟨v1, _ | ⟨v2, r⟩⟩
  · exact Or.inl fun _ => rfl
  · cases v1 <;> exact Or.inl fun _ => rfl
  cases v1 <;> cases v2 <;> first | exact Or.inl (fun _ => rfl) | exact Or.inr ⟨_, lv, _, w, fun _ => rfl, id, fun hc cells slots kk ad H locs ls h0 hP hD hS hl => lv_imul hB.1 hB.2.1 hd (kk ad H locs ls h0 hP hD hS hl)⟩
def x_iand : mj_T := fun C lv st w k => match st with
  | .int y :: .int x :: r => k (C) lv (.int (x &&& y) :: r) w
  | _ => none
theorem mj_iand (hd : decode cc pc = .ok (.iand, 1)) : mj_Snd G (own, nm, cc, nL) pc (x_iand) (pc + 1) := by
  intro X hB C lv st w
  obtain ⟨p, l, e, R, s, m, args, below, meth, c, Q, D, cA, A, ad0, kp, nL'⟩ := X
  rcases st with _ | ⟨v1, _ | ⟨v2, r⟩⟩
  · exact Or.inl fun _ => rfl
  · cases v1 <;> exact Or.inl fun _ => rfl
  cases v1 <;> cases v2 <;> first | exact Or.inl (fun _ => rfl) | exact Or.inr ⟨_, lv, _, w, fun _ => rfl, id, fun hc cells slots kk ad H locs ls h0 hP hD hS hl => lv_iand hB.1 hB.2.1 hd (kk ad H locs ls h0 hP hD hS hl)⟩
def x_ior : mj_T := fun C lv st w k => match st with
  | .int y :: .int x :: r => k (C) lv (.int (x ||| y) :: r) w
  | _ => none
theorem mj_ior (hd : decode cc pc = .ok (.ior, 1)) : mj_Snd G (own, nm, cc, nL) pc (x_ior) (pc + 1) := by
  intro X hB C lv st w
  obtain ⟨p, l, e, R, s, m, args, below, meth, c, Q, D, cA, A, ad0, kp, nL'⟩ := X
  rcases st with _ | ⟨v1, _ | ⟨v2, r⟩⟩
  · exact Or.inl fun _ => rfl
  · cases v1 <;> exact Or.inl fun _ => rfl
  cases v1 <;> cases v2 <;> first | exact Or.inl (fun _ => rfl) | exact Or.inr ⟨_, lv, _, w, fun _ => rfl, id, fun hc cells slots kk ad H locs ls h0 hP hD hS hl => lv_ior hB.1 hB.2.1 hd (kk ad H locs ls h0 hP hD hS hl)⟩
def x_ixor : mj_T := fun C lv st w k => match st with
  | .int y :: .int x :: r => k (C) lv (.int (x ^^^ y) :: r) w
  | _ => none
theorem mj_ixor (hd : decode cc pc = .ok (.ixor, 1)) : mj_Snd G (own, nm, cc, nL) pc (x_ixor) (pc + 1) := by
  intro X hB C lv st w
  obtain ⟨p, l, e, R, s, m, args, below, meth, c, Q, D, cA, A, ad0, kp, nL'⟩ := X
  rcases st with _ | ⟨v1, _ | ⟨v2, r⟩⟩
  · exact Or.inl fun _ => rfl
  · cases v1 <;> exact Or.inl fun _ => rfl
  cases v1 <;> cases v2 <;> first | exact Or.inl (fun _ => rfl) | exact Or.inr ⟨_, lv, _, w, fun _ => rfl, id, fun hc cells slots kk ad H locs ls h0 hP hD hS hl => lv_ixor hB.1 hB.2.1 hd (kk ad H locs ls h0 hP hD hS hl)⟩
def x_ishl : mj_T := fun C lv st w k => match st with
  | .int y :: .int x :: r => k (C) lv (.int (x <<< (y &&& 31)) :: r) w
  | _ => none
theorem mj_ishl (hd : decode cc pc = .ok (.ishl, 1)) : mj_Snd G (own, nm, cc, nL) pc (x_ishl) (pc + 1) := by
  intro X hB C lv st w
  obtain ⟨p, l, e, R, s, m, args, below, meth, c, Q, D, cA, A, ad0, kp, nL'⟩ := X
  rcases st with _ | ⟨v1, _ | ⟨v2, r⟩⟩
  · exact Or.inl fun _ => rfl
  · cases v1 <;> exact Or.inl fun _ => rfl
  cases v1 <;> cases v2 <;> first | exact Or.inl (fun _ => rfl) | exact Or.inr ⟨_, lv, _, w, fun _ => rfl, id, fun hc cells slots kk ad H locs ls h0 hP hD hS hl => lv_ishl hB.1 hB.2.1 hd (kk ad H locs ls h0 hP hD hS hl)⟩
def x_ishr : mj_T := fun C lv st w k => match st with
  | .int y :: .int x :: r => k (C) lv (.int (x >>> (y &&& 31)) :: r) w
  | _ => none
theorem mj_ishr (hd : decode cc pc = .ok (.ishr, 1)) : mj_Snd G (own, nm, cc, nL) pc (x_ishr) (pc + 1) := by
  intro X hB C lv st w
  obtain ⟨p, l, e, R, s, m, args, below, meth, c, Q, D, cA, A, ad0, kp, nL'⟩ := X
  rcases st with _ | ⟨v1, _ | ⟨v2, r⟩⟩
  · exact Or.inl fun _ => rfl
  · cases v1 <;> exact Or.inl fun _ => rfl
  cases v1 <;> cases v2 <;> first | exact Or.inl (fun _ => rfl) | exact Or.inr ⟨_, lv, _, w, fun _ => rfl, id, fun hc cells slots kk ad H locs ls h0 hP hD hS hl => lv_ishr hB.1 hB.2.1 hd (kk ad H locs ls h0 hP hD hS hl)⟩
def x_iushr : mj_T := fun C lv st w k => match st with
  | .int y :: .int x :: r => k (C) lv (.int ((x.toUInt32 >>> (y.toUInt32 &&& Int32.toUInt32 31)).toInt32) :: r) w
  | _ => none
theorem mj_iushr (hd : decode cc pc = .ok (.iushr, 1)) : mj_Snd G (own, nm, cc, nL) pc (x_iushr) (pc + 1) := by
  intro X hB C lv st w
  obtain ⟨p, l, e, R, s, m, args, below, meth, c, Q, D, cA, A, ad0, kp, nL'⟩ := X
  rcases st with _ | ⟨v1, _ | ⟨v2, r⟩⟩
  · exact Or.inl fun _ => rfl
  · cases v1 <;> exact Or.inl fun _ => rfl
  cases v1 <;> cases v2 <;> first | exact Or.inl (fun _ => rfl) | exact Or.inr ⟨_, lv, _, w, fun _ => rfl, id, fun hc cells slots kk ad H locs ls h0 hP hD hS hl => lv_iushr hB.1 hB.2.1 hd rfl (kk ad H locs ls h0 hP hD hS hl)⟩
def x_idiv : mj_T := fun C lv st w k => match st with
  | .int y :: .int x :: r => k ((¬ y = 0) :: C) lv (.int (x / y) :: r) w
  | _ => none
theorem mj_idiv (hd : decode cc pc = .ok (.idiv, 1)) : mj_Snd G (own, nm, cc, nL) pc (x_idiv) (pc + 1) := by
  intro X hB C lv st w
  obtain ⟨p, l, e, R, s, m, args, below, meth, c, Q, D, cA, A, ad0, kp, nL'⟩ := X
  rcases st with _ | ⟨v1, _ | ⟨v2, r⟩⟩
  · exact Or.inl fun _ => rfl
  · cases v1 <;> exact Or.inl fun _ => rfl
  cases v1 <;> cases v2 <;> first | exact Or.inl (fun _ => rfl) | exact Or.inr ⟨_, lv, _, w, fun _ => rfl, fun h => h.2, fun hc cells slots kk ad H locs ls h0 hP hD hS hl => lv_idiv hB.1 hB.2.1 hd hc.1 (kk ad H locs ls h0 hP hD hS hl)⟩
def x_irem : mj_T := fun C lv st w k => match st with
  | .int y :: .int x :: r => k ((¬ y = 0) :: C) lv (.int (x - x / y * y) :: r) w
  | _ => none
theorem mj_irem (hd : decode cc pc = .ok (.irem, 1)) : mj_Snd G (own, nm, cc, nL) pc (x_irem) (pc + 1) := by
  intro X hB C lv st w
  obtain ⟨p, l, e, R, s, m, args, below, meth, c, Q, D, cA, A, ad0, kp, nL'⟩ := X
  rcases st with _ | ⟨v1, _ | ⟨v2, r⟩⟩
  · exact Or.inl fun _ => rfl
  · cases v1 <;> exact Or.inl fun _ => rfl
  cases v1 <;> cases v2 <;> first | exact Or.inl (fun _ => rfl) | exact Or.inr ⟨_, lv, _, w, fun _ => rfl, fun h => h.2, fun hc cells slots kk ad H locs ls h0 hP hD hS hl => lv_irem hB.1 hB.2.1 hd hc.1 (kk ad H locs ls h0 hP hD hS hl)⟩
def x_ineg : mj_T := fun C lv st w k => match st with
  | .int x :: r => k (C) lv (.int (-x) :: r) w
  | _ => none
theorem mj_ineg (hd : decode cc pc = .ok (.ineg, 1)) : mj_Snd G (own, nm, cc, nL) pc (x_ineg) (pc + 1) := by
  intro X hB C lv st w
  obtain ⟨p, l, e, R, s, m, args, below, meth, c, Q, D, cA, A, ad0, kp, nL'⟩ := X
  rcases st with _ | ⟨v1, r⟩
  · exact Or.inl fun _ => rfl
  cases v1 <;> first | exact Or.inl (fun _ => rfl) | exact Or.inr ⟨_, lv, _, w, fun _ => rfl, id, fun hc cells slots kk ad H locs ls h0 hP hD hS hl => lv_ineg hB.1 hB.2.1 hd (kk ad H locs ls h0 hP hD hS hl)⟩
def x_land : mj_T := fun C lv st w k => match st with
  | .long y :: .long x :: r => k (C) lv (.long (x &&& y) :: r) w
  | _ => none
theorem mj_land (hd : decode cc pc = .ok (.land, 1)) : mj_Snd G (own, nm, cc, nL) pc (x_land) (pc + 1) := by
  intro X hB C lv st w
  obtain ⟨p, l, e, R, s, m, args, below, meth, c, Q, D, cA, A, ad0, kp, nL'⟩ := X
  rcases st with _ | ⟨v1, _ | ⟨v2, r⟩⟩
  · exact Or.inl fun _ => rfl
  · cases v1 <;> exact Or.inl fun _ => rfl
  cases v1 <;> cases v2 <;> first | exact Or.inl (fun _ => rfl) | exact Or.inr ⟨_, lv, _, w, fun _ => rfl, id, fun hc cells slots kk ad H locs ls h0 hP hD hS hl => lv_land hB.1 hB.2.1 hd (kk ad H locs ls h0 hP hD hS hl)⟩
def x_lor : mj_T := fun C lv st w k => match st with
  | .long y :: .long x :: r => k (C) lv (.long (x ||| y) :: r) w
  | _ => none
theorem mj_lor (hd : decode cc pc = .ok (.lor, 1)) : mj_Snd G (own, nm, cc, nL) pc (x_lor) (pc + 1) := by
  intro X hB C lv st w
  obtain ⟨p, l, e, R, s, m, args, below, meth, c, Q, D, cA, A, ad0, kp, nL'⟩ := X
  rcases st with _ | ⟨v1, _ | ⟨v2, r⟩⟩
  · exact Or.inl fun _ => rfl
  · cases v1 <;> exact Or.inl fun _ => rfl
  cases v1 <;> cases v2 <;> first | exact Or.inl (fun _ => rfl) | exact Or.inr ⟨_, lv, _, w, fun _ => rfl, id, fun hc cells slots kk ad H locs ls h0 hP hD hS hl => lv_lor hB.1 hB.2.1 hd (kk ad H locs ls h0 hP hD hS hl)⟩
def x_lshl : mj_T := fun C lv st w k => match st with
  | .int y :: .long x :: r => k (C) lv (.long (x <<< (y.toInt64 &&& 63)) :: r) w
  | _ => none
theorem mj_lshl (hd : decode cc pc = .ok (.lshl, 1)) : mj_Snd G (own, nm, cc, nL) pc (x_lshl) (pc + 1) := by
  intro X hB C lv st w
  obtain ⟨p, l, e, R, s, m, args, below, meth, c, Q, D, cA, A, ad0, kp, nL'⟩ := X
  rcases st with _ | ⟨v1, _ | ⟨v2, r⟩⟩
  · exact Or.inl fun _ => rfl
  · cases v1 <;> exact Or.inl fun _ => rfl
  cases v1 <;> cases v2 <;> first | exact Or.inl (fun _ => rfl) | exact Or.inr ⟨_, lv, _, w, fun _ => rfl, id, fun hc cells slots kk ad H locs ls h0 hP hD hS hl => lv_lshl hB.1 hB.2.1 hd rfl (kk ad H locs ls h0 hP hD hS hl)⟩
def x_lshr : mj_T := fun C lv st w k => match st with
  | .int y :: .long x :: r => k (C) lv (.long (x >>> (y.toInt64 &&& 63)) :: r) w
  | _ => none
theorem mj_lshr (hd : decode cc pc = .ok (.lshr, 1)) : mj_Snd G (own, nm, cc, nL) pc (x_lshr) (pc + 1) := by
  intro X hB C lv st w
  obtain ⟨p, l, e, R, s, m, args, below, meth, c, Q, D, cA, A, ad0, kp, nL'⟩ := X
  rcases st with _ | ⟨v1, _ | ⟨v2, r⟩⟩
  · exact Or.inl fun _ => rfl
  · cases v1 <;> exact Or.inl fun _ => rfl
  cases v1 <;> cases v2 <;> first | exact Or.inl (fun _ => rfl) | exact Or.inr ⟨_, lv, _, w, fun _ => rfl, id, fun hc cells slots kk ad H locs ls h0 hP hD hS hl => lv_lshr hB.1 hB.2.1 hd rfl (kk ad H locs ls h0 hP hD hS hl)⟩
def x_lushr : mj_T := fun C lv st w k => match st with
  | .int y :: .long x :: r => k (C) lv (.long ((x.toUInt64 >>> (y.toInt64.toUInt64 &&& Int64.toUInt64 63)).toInt64) :: r) w
  | _ => none
theorem mj_lushr (hd : decode cc pc = .ok (.lushr, 1)) : mj_Snd G (own, nm, cc, nL) pc (x_lushr) (pc + 1) := by
  intro X hB C lv st w
  obtain ⟨p, l, e, R, s, m, args, below, meth, c, Q, D, cA, A, ad0, kp, nL'⟩ := X
  rcases st with _ | ⟨v1, _ | ⟨v2, r⟩⟩
  · exact Or.inl fun _ => rfl
  · cases v1 <;> exact Or.inl fun _ => rfl
  cases v1 <;> cases v2 <;> first | exact Or.inl (fun _ => rfl) | exact Or.inr ⟨_, lv, _, w, fun _ => rfl, id, fun hc cells slots kk ad H locs ls h0 hP hD hS hl => lv_lushr hB.1 hB.2.1 hd rfl (kk ad H locs ls h0 hP hD hS hl)⟩
def x_lcmp : mj_T := fun C lv st w k => match st with
  | .long y :: .long x :: r => k (C) lv (.int (lg_cmp x y) :: r) w
  | _ => none
theorem mj_lcmp (hd : decode cc pc = .ok (.lcmp, 1)) : mj_Snd G (own, nm, cc, nL) pc (x_lcmp) (pc + 1) := by
  intro X hB C lv st w
  obtain ⟨p, l, e, R, s, m, args, below, meth, c, Q, D, cA, A, ad0, kp, nL'⟩ := X
  rcases st with _ | ⟨v1, _ | ⟨v2, r⟩⟩
  · exact Or.inl fun _ => rfl
  · cases v1 <;> exact Or.inl fun _ => rfl
  cases v1 <;> cases v2 <;> first | exact Or.inl (fun _ => rfl) | exact Or.inr ⟨_, lv, _, w, fun _ => rfl, id, fun hc cells slots kk ad H locs ls h0 hP hD hS hl => W.lcmp hB.1 hB.2.1 hd (kk ad H locs ls h0 hP hD hS hl)⟩
def x_i2l : mj_T := fun C lv st w k => match st with
  | .int x :: r => k (C) lv (.long x.toInt64 :: r) w
  | _ => none
theorem mj_i2l (hd : decode cc pc = .ok (.i2l, 1)) : mj_Snd G (own, nm, cc, nL) pc (x_i2l) (pc + 1) := by
  intro X hB C lv st w
  obtain ⟨p, l, e, R, s, m, args, below, meth, c, Q, D, cA, A, ad0, kp, nL'⟩ := X
  rcases st with _ | ⟨v1, r⟩
  · exact Or.inl fun _ => rfl
  cases v1 <;> first | exact Or.inl (fun _ => rfl) | exact Or.inr ⟨_, lv, _, w, fun _ => rfl, id, fun hc cells slots kk ad H locs ls h0 hP hD hS hl => lv_i2l hB.1 hB.2.1 hd rfl (kk ad H locs ls h0 hP hD hS hl)⟩
def x_l2i : mj_T := fun C lv st w k => match st with
  | .long x :: r => k (C) lv (.int x.toInt32 :: r) w
  | _ => none
theorem mj_l2i (hd : decode cc pc = .ok (.l2i, 1)) : mj_Snd G (own, nm, cc, nL) pc (x_l2i) (pc + 1) := by
  intro X hB C lv st w
  obtain ⟨p, l, e, R, s, m, args, below, meth, c, Q, D, cA, A, ad0, kp, nL'⟩ := X
  rcases st with _ | ⟨v1, r⟩
  · exact Or.inl fun _ => rfl
  cases v1 <;> first | exact Or.inl (fun _ => rfl) | exact Or.inr ⟨_, lv, _, w, fun _ => rfl, id, fun hc cells slots kk ad H locs ls h0 hP hD hS hl => lv_l2i hB.1 hB.2.1 hd rfl (kk ad H locs ls h0 hP hD hS hl)⟩
def x_const (v : Int32) : mj_T := fun C lv st w k => match st with
  | r => k (C) lv (.int v :: r) w
theorem mj_const {v : Int32} {n : Int} (hv : Int32.ofInt n = v) (hd : decode cc pc = .ok (.iconst n, 1)) : mj_Snd G (own, nm, cc, nL) pc (x_const v) (pc + 1) := by
  intro X hB C lv st w
  obtain ⟨p, l, e, R, s, m, args, below, meth, c, Q, D, cA, A, ad0, kp, nL'⟩ := X
  exact Or.inr ⟨_, lv, _, w, fun _ => rfl, id, fun _ cells slots kk ad H locs ls h0 hP hD hS hl => lv_iconst hB.1 hB.2.1 hd hv (kk ad H locs ls h0 hP hD hS hl)⟩

theorem mj_bipush {v : Int32} {n : Int} (hv : (Int8.ofInt n).toInt32 = v) (hd : decode cc pc = .ok (.bipush n, 2)) : mj_Snd G (own, nm, cc, nL) pc (x_const v) (pc + 2) := by
  intro X hB C lv st w
  obtain ⟨p, l, e, R, s, m, args, below, meth, c, Q, D, cA, A, ad0, kp, nL'⟩ := X
  exact Or.inr ⟨_, lv, _, w, fun _ => rfl, id, fun _ cells slots kk ad H locs ls h0 hP hD hS hl => lv_bipush hB.1 hB.2.1 hd hv (kk ad H locs ls h0 hP hD hS hl)⟩
theorem mj_sipush {v : Int32} {n : Int} (hv : (Int16.ofInt n).toInt32 = v) (hd : decode cc pc = .ok (.sipush n, 3)) : mj_Snd G (own, nm, cc, nL) pc (x_const v) (pc + 3) := by
  intro X hB C lv st w
  obtain ⟨p, l, e, R, s, m, args, below, meth, c, Q, D, cA, A, ad0, kp, nL'⟩ := X
  exact Or.inr ⟨_, lv, _, w, fun _ => rfl, id, fun _ cells slots kk ad H locs ls h0 hP hD hS hl => lv_sipush hB.1 hB.2.1 hd hv (kk ad H locs ls h0 hP hD hS hl)⟩
theorem mj_ldc {v : Int32} {index : Nat} (hw : Jvm.Cond.constant own index v ∈ G.2.1) (hd : decode cc pc = .ok (.ldc index, 2)) : mj_Snd G (own, nm, cc, nL) pc (x_const v) (pc + 2) := by
  intro X hB C lv st w
  obtain ⟨p, l, e, R, s, m, args, below, meth, c, Q, D, cA, A, ad0, kp, nL'⟩ := X
  exact Or.inr ⟨_, lv, _, w, fun _ => rfl, id, fun _ cells slots kk ad H locs ls h0 hP hD hS hl => lv_ldc hB.1 hB.2.1 hB.2.2.2.2.1 (hB.2.2.2.2.2.1 _ hw) hd (kk ad H locs ls h0 hP hD hS hl)⟩
theorem mj_ldcw {v : Int32} {index : Nat} (hw : Jvm.Cond.constant own index v ∈ G.2.1) (hd : decode cc pc = .ok (.ldc_w index, 3)) : mj_Snd G (own, nm, cc, nL) pc (x_const v) (pc + 3) := by
  intro X hB C lv st w
  obtain ⟨p, l, e, R, s, m, args, below, meth, c, Q, D, cA, A, ad0, kp, nL'⟩ := X
  exact Or.inr ⟨_, lv, _, w, fun _ => rfl, id, fun _ cells slots kk ad H locs ls h0 hP hD hS hl => lv_ldcw hB.1 hB.2.1 hB.2.2.2.2.1 (hB.2.2.2.2.2.1 _ hw) hd (kk ad H locs ls h0 hP hD hS hl)⟩
def x_lconst (v : Int64) : mj_T := fun C lv st w k => match st with
  | r => k (C) lv (.long v :: r) w
theorem mj_lconst {v : Int64} {n : Fin 2} (hv : Int64.ofNat (n : Nat) = v) (hd : decode cc pc = .ok (.lconst n, 1)) : mj_Snd G (own, nm, cc, nL) pc (x_lconst v) (pc + 1) := by
  intro X hB C lv st w
  obtain ⟨p, l, e, R, s, m, args, below, meth, c, Q, D, cA, A, ad0, kp, nL'⟩ := X
  exact Or.inr ⟨_, lv, _, w, fun _ => rfl, id, fun _ cells slots kk ad H locs ls h0 hP hD hS hl => lv_lconst hB.1 hB.2.1 hd hv (kk ad H locs ls h0 hP hD hS hl)⟩

theorem mj_ldc2 {v : Int64} {index : Nat} (hw : Jvm.Cond.constantLong own index v ∈ G.2.1) (hd : decode cc pc = .ok (.ldc2_w index, 3)) : mj_Snd G (own, nm, cc, nL) pc (x_lconst v) (pc + 3) := by
  intro X hB C lv st w
  obtain ⟨p, l, e, R, s, m, args, below, meth, c, Q, D, cA, A, ad0, kp, nL'⟩ := X
  exact Or.inr ⟨_, lv, _, w, fun _ => rfl, id, fun _ cells slots kk ad H locs ls h0 hP hD hS hl => lv_ldc2 hB.1 hB.2.1 hB.2.2.2.2.1 (hB.2.2.2.2.2.1 _ hw) hd (kk ad H locs ls h0 hP hD hS hl)⟩
def x_null : mj_T := fun C lv st w k => match st with
  | r => k (C) lv (.null :: r) w
theorem mj_null (hd : decode cc pc = .ok (.aconst_null, 1)) : mj_Snd G (own, nm, cc, nL) pc (x_null) (pc + 1) := by
  intro X hB C lv st w
  obtain ⟨p, l, e, R, s, m, args, below, meth, c, Q, D, cA, A, ad0, kp, nL'⟩ := X
  exact Or.inr ⟨_, lv, _, w, fun _ => rfl, id, fun _ cells slots kk ad H locs ls h0 hP hD hS hl => lv_null hB.1 hB.2.1 hd (kk ad H locs ls h0 hP hD hS hl)⟩

def x_skip : mj_T := fun C lv st w k => k C lv st w
theorem mj_goto {off : Int} {tgt : Nat} (ht : (pc : Int) + off = (tgt : Int)) (hd : decode cc pc = .ok (.goto off, 3)) : mj_Snd G (own, nm, cc, nL) pc x_skip tgt := by
  intro X hB C lv st w
  obtain ⟨p, l, e, R, s, m, args, below, meth, c, Q, D, cA, A, ad0, kp, nL'⟩ := X
  exact Or.inr ⟨_, lv, _, w, fun _ => rfl, id, fun _ cells slots kk ad H locs ls h0 hP hD hS hl => lv_goto hB.1 hB.2.1 hd ht (kk ad H locs ls h0 hP hD hS hl)⟩
def x_dup : mj_T := fun C lv st w k => match st with
  | a1 :: r => bif Nat.beq a1.category 1 then (k C lv (a1 :: a1 :: r) w) else none
  | _ => none
theorem mj_dup (hd : decode cc pc = .ok (.dup, 1)) : mj_Snd G (own, nm, cc, nL) pc x_dup (pc + 1) := by
  intro X hB C lv st w
  obtain ⟨p, l, e, R, s, m, args, below, meth, c, Q, D, cA, A, ad0, kp, nL'⟩ := X
  rcases st with _ | ⟨v1, r⟩
  · exact Or.inl fun _ => rfl
  cases v1 <;> first | exact Or.inl (fun _ => rfl) | exact Or.inr ⟨C, lv, _, w, fun _ => rfl, id, fun _ cells slots kk ad H locs ls h0 hP hD hS hl => lv_dup hB.1 hB.2.1 hd rfl (kk ad H locs ls h0 hP hD hS hl)⟩
def x_pop : mj_T := fun C lv st w k => match st with
  | a1 :: r => bif Nat.beq a1.category 1 then k C lv r w else none
  | _ => none
theorem mj_pop (hd : decode cc pc = .ok (.pop, 1)) : mj_Snd G (own, nm, cc, nL) pc x_pop (pc + 1) := by
  intro X hB C lv st w
  obtain ⟨p, l, e, R, s, m, args, below, meth, c, Q, D, cA, A, ad0, kp, nL'⟩ := X
  rcases st with _ | ⟨v1, r⟩
  · exact Or.inl fun _ => rfl
  cases v1 <;> first | exact Or.inl (fun _ => rfl) | exact Or.inr ⟨C, lv, _, w, fun _ => rfl, id, fun _ cells slots kk ad H locs ls h0 hP hD hS hl => lv_pop hB.1 hB.2.1 hd rfl (kk ad H locs ls h0 hP hD hS hl)⟩
def x_dup_x1 : mj_T := fun C lv st w k => match st with
  | a1 :: a2 :: r => bif Nat.beq a1.category 1 then (bif Nat.beq a2.category 1 then (k C lv (a1 :: a2 :: a1 :: r) w) else none) else none
  | _ => none
theorem mj_dup_x1 (hd : decode cc pc = .ok (.dup_x1, 1)) : mj_Snd G (own, nm, cc, nL) pc x_dup_x1 (pc + 1) := by
  intro X hB C lv st w
  obtain ⟨p, l, e, R, s, m, args, below, meth, c, Q, D, cA, A, ad0, kp, nL'⟩ := X
  rcases st with _ | ⟨v1, _ | ⟨v2, r⟩⟩
  · exact Or.inl fun _ => rfl
  · exact Or.inl fun _ => rfl
  cases v1 <;> cases v2 <;> first | exact Or.inl (fun _ => rfl) | exact Or.inr ⟨C, lv, _, w, fun _ => rfl, id, fun _ cells slots kk ad H locs ls h0 hP hD hS hl => lv_dup_x1 hB.1 hB.2.1 hd rfl rfl (kk ad H locs ls h0 hP hD hS hl)⟩
def x_dup2 : mj_T := fun C lv st w k => match st with
  | a1 :: a2 :: r => bif Nat.beq a1.category 1 then (bif Nat.beq a2.category 1 then (k C lv (a1 :: a2 :: a1 :: a2 :: r) w) else none) else none
  | _ => none
theorem mj_dup2 (hd : decode cc pc = .ok (.dup2, 1)) : mj_Snd G (own, nm, cc, nL) pc x_dup2 (pc + 1) := by
  intro X hB C lv st w
  obtain ⟨p, l, e, R, s, m, args, below, meth, c, Q, D, cA, A, ad0, kp, nL'⟩ := X
  rcases st with _ | ⟨v1, _ | ⟨v2, r⟩⟩
  · exact Or.inl fun _ => rfl
  · exact Or.inl fun _ => rfl
  cases v1 <;> cases v2 <;> first | exact Or.inl (fun _ => rfl) | exact Or.inr ⟨C, lv, _, w, fun _ => rfl, id, fun _ cells slots kk ad H locs ls h0 hP hD hS hl => lv_dup2_11 hB.1 hB.2.1 hd rfl rfl (kk ad H locs ls h0 hP hD hS hl)⟩
def x_iload (i : Nat) : mj_T := fun C lv st w k => mj_lk lv i fun v => match v with
  | .int x => k C lv (.int x :: st) w
  | _ => none
theorem mj_iload_n {j : Fin 4} {i : Nat} (hi : (j : Nat) = i) (hd : decode cc pc = .ok (.iload_n j, 1)) : mj_Snd G (own, nm, cc, nL) pc (x_iload i) (pc + 1) := by
  intro X hB C lv st w
  obtain ⟨p, l, e, R, s, m, args, below, meth, c, Q, D, cA, A, ad0, kp, nL'⟩ := X
  rcases mj_lk_or lv i with h | ⟨v, q0, h, hq⟩
  · exact Or.inl fun k => h _
  cases v <;> first | exact Or.inr ⟨C, lv, _, w, fun k => h _, id, fun _ cells slots kk ad H locs ls h0 hP hD hS hl => lv_iload_n hB.1 hB.2.1 hd hi (lv_at hl q0 (mj_l_at hq)) (kk ad H locs ls h0 hP hD hS hl)⟩ | exact Or.inl (fun k => h _)
theorem mj_iload {i : Nat} (hd : decode cc pc = .ok (.iload i, 2)) : mj_Snd G (own, nm, cc, nL) pc (x_iload i) (pc + 2) := by
  intro X hB C lv st w
  obtain ⟨p, l, e, R, s, m, args, below, meth, c, Q, D, cA, A, ad0, kp, nL'⟩ := X
  rcases mj_lk_or lv i with h | ⟨v, q0, h, hq⟩
  · exact Or.inl fun k => h _
  cases v <;> first | exact Or.inr ⟨C, lv, _, w, fun k => h _, id, fun _ cells slots kk ad H locs ls h0 hP hD hS hl => lv_iload hB.1 hB.2.1 hd (lv_at hl q0 (mj_l_at hq)) (kk ad H locs ls h0 hP hD hS hl)⟩ | exact Or.inl (fun k => h _)
def x_lload (i : Nat) : mj_T := fun C lv st w k => mj_lk lv i fun v => match v with
  | .long x => k C lv (.long x :: st) w
  | _ => none
theorem mj_lload_n {j : Fin 4} {i : Nat} (hi : (j : Nat) = i) (hd : decode cc pc = .ok (.lload_n j, 1)) : mj_Snd G (own, nm, cc, nL) pc (x_lload i) (pc + 1) := by
  intro X hB C lv st w
  obtain ⟨p, l, e, R, s, m, args, below, meth, c, Q, D, cA, A, ad0, kp, nL'⟩ := X
  rcases mj_lk_or lv i with h | ⟨v, q0, h, hq⟩
  · exact Or.inl fun k => h _
  cases v <;> first | exact Or.inr ⟨C, lv, _, w, fun k => h _, id, fun _ cells slots kk ad H locs ls h0 hP hD hS hl => lv_lload_n hB.1 hB.2.1 hd hi (lv_at hl q0 (mj_l_at hq)) (kk ad H locs ls h0 hP hD hS hl)⟩ | exact Or.inl (fun k => h _)
theorem mj_lload {i : Nat} (hd : decode cc pc = .ok (.lload i, 2)) : mj_Snd G (own, nm, cc, nL) pc (x_lload i) (pc + 2) := by
  intro X hB C lv st w
  obtain ⟨p, l, e, R, s, m, args, below, meth, c, Q, D, cA, A, ad0, kp, nL'⟩ := X
  rcases mj_lk_or lv i with h | ⟨v, q0, h, hq⟩
  · exact Or.inl fun k => h _
  cases v <;> first | exact Or.inr ⟨C, lv, _, w, fun k => h _, id, fun _ cells slots kk ad H locs ls h0 hP hD hS hl => lv_lload hB.1 hB.2.1 hd (lv_at hl q0 (mj_l_at hq)) (kk ad H locs ls h0 hP hD hS hl)⟩ | exact Or.inl (fun k => h _)
def x_aload (i : Nat) : mj_T := fun C lv st w k => mj_lk lv i fun v => match v with
  | .ref x => k C lv (.ref x :: st) w
  | .null => k C lv (.null :: st) w
  | _ => none
theorem mj_aload_n {j : Fin 4} {i : Nat} (hi : (j : Nat) = i) (hd : decode cc pc = .ok (.aload_n j, 1)) : mj_Snd G (own, nm, cc, nL) pc (x_aload i) (pc + 1) := by
  intro X hB C lv st w
  obtain ⟨p, l, e, R, s, m, args, below, meth, c, Q, D, cA, A, ad0, kp, nL'⟩ := X
  rcases mj_lk_or lv i with h | ⟨v, q0, h, hq⟩
  · exact Or.inl fun k => h _
  cases v <;> first | exact Or.inr ⟨C, lv, _, w, fun k => h _, id, fun _ cells slots kk ad H locs ls h0 hP hD hS hl => lv_aload_n hB.1 hB.2.1 hd hi (lv_at hl q0 (mj_l_at hq)) (kk ad H locs ls h0 hP hD hS hl)⟩ | exact Or.inr ⟨C, lv, _, w, fun k => h _, id, fun _ cells slots kk ad H locs ls h0 hP hD hS hl => lv_aload_nN hB.1 hB.2.1 hd hi (lv_at hl q0 (mj_l_at hq)) (kk ad H locs ls h0 hP hD hS hl)⟩ | exact Or.inl (fun k => h _)
theorem mj_aload {i : Nat} (hd : decode cc pc = .ok (.aload i, 2)) : mj_Snd G (own, nm, cc, nL) pc (x_aload i) (pc + 2) := by
  intro X hB C lv st w
  obtain ⟨p, l, e, R, s, m, args, below, meth, c, Q, D, cA, A, ad0, kp, nL'⟩ := X
  rcases mj_lk_or lv i with h | ⟨v, q0, h, hq⟩
  · exact Or.inl fun k => h _
  cases v <;> first | exact Or.inr ⟨C, lv, _, w, fun k => h _, id, fun _ cells slots kk ad H locs ls h0 hP hD hS hl => lv_aload hB.1 hB.2.1 hd (lv_at hl q0 (mj_l_at hq)) (kk ad H locs ls h0 hP hD hS hl)⟩ | exact Or.inr ⟨C, lv, _, w, fun k => h _, id, fun _ cells slots kk ad H locs ls h0 hP hD hS hl => lv_aloadN hB.1 hB.2.1 hd (lv_at hl q0 (mj_l_at hq)) (kk ad H locs ls h0 hP hD hS hl)⟩ | exact Or.inl (fun k => h _)
def x_istore (i : Nat) : mj_T := fun C lv st w k => match st with
  | .int x :: r => mj_fi (mj_p1 i) lv fun lv' => k C ((i, .int x) :: lv') r w
  | _ => none
theorem mj_istore_n {j : Fin 4} {i : Nat} (hi : (j : Nat) = i) (hnl : i < nL) (hd : decode cc pc = .ok (.istore_n j, 1)) : mj_Snd G (own, nm, cc, nL) pc (x_istore i) (pc + 1) := by
  intro X hB C lv st w
  obtain ⟨p, l, e, R, s, m, args, below, meth, c, Q, D, cA, A, ad0, kp, nL'⟩ := X
  have hn : nL' = nL := hB.2.2.2.1
  subst hn
  rcases st with _ | ⟨v1, r⟩
  · exact Or.inl fun _ => rfl
  cases v1 <;> first | exact Or.inl (fun _ => rfl) | exact Or.inr ⟨C, (i, _) :: lv.filter (mj_p1 i), r, w, fun k => mj_fi_eq _ _ _, id, fun _ cells slots kk ad H locs ls h0 hP hD hS hl => lv_istore_n hB.1 hB.2.1 hd hi hl hnl rfl (fun ls' hl' => kk ad H locs ls' h0 hP hD hS (by rw [mj_l_p1] at hl'; exact hl'))⟩
theorem mj_istore {i : Nat} (hnl : i < nL) (hd : decode cc pc = .ok (.istore i, 2)) : mj_Snd G (own, nm, cc, nL) pc (x_istore i) (pc + 2) := by
  intro X hB C lv st w
  obtain ⟨p, l, e, R, s, m, args, below, meth, c, Q, D, cA, A, ad0, kp, nL'⟩ := X
  have hn : nL' = nL := hB.2.2.2.1
  subst hn
  rcases st with _ | ⟨v1, r⟩
  · exact Or.inl fun _ => rfl
  cases v1 <;> first | exact Or.inl (fun _ => rfl) | exact Or.inr ⟨C, (i, _) :: lv.filter (mj_p1 i), r, w, fun k => mj_fi_eq _ _ _, id, fun _ cells slots kk ad H locs ls h0 hP hD hS hl => lv_istore hB.1 hB.2.1 hd hl hnl rfl (fun ls' hl' => kk ad H locs ls' h0 hP hD hS (by rw [mj_l_p1] at hl'; exact hl'))⟩
def x_lstore (i : Nat) : mj_T := fun C lv st w k => match st with
  | .long x :: r => mj_fi (mj_p2 i) lv fun lv' => k C ((i, .long x) :: lv') r w
  | _ => none
theorem mj_lstore_n {j : Fin 4} {i : Nat} (hi : (j : Nat) = i) (hnl : i + 1 < nL) (hd : decode cc pc = .ok (.lstore_n j, 1)) : mj_Snd G (own, nm, cc, nL) pc (x_lstore i) (pc + 1) := by
  intro X hB C lv st w
  obtain ⟨p, l, e, R, s, m, args, below, meth, c, Q, D, cA, A, ad0, kp, nL'⟩ := X
  have hn : nL' = nL := hB.2.2.2.1
  subst hn
  rcases st with _ | ⟨v1, r⟩
  · exact Or.inl fun _ => rfl
  cases v1 <;> first | exact Or.inl (fun _ => rfl) | exact Or.inr ⟨C, (i, _) :: lv.filter (mj_p2 i), r, w, fun k => mj_fi_eq _ _ _, id, fun _ cells slots kk ad H locs ls h0 hP hD hS hl => lv_lstore_n hB.1 hB.2.1 hd hi hl hnl rfl (fun ls' hl' => kk ad H locs ls' h0 hP hD hS (by rw [mj_l_p2] at hl'; exact hl'))⟩
theorem mj_lstore {i : Nat} (hnl : i + 1 < nL) (hd : decode cc pc = .ok (.lstore i, 2)) : mj_Snd G (own, nm, cc, nL) pc (x_lstore i) (pc + 2) := by
  intro X hB C lv st w
  obtain ⟨p, l, e, R, s, m, args, below, meth, c, Q, D, cA, A, ad0, kp, nL'⟩ := X
  have hn : nL' = nL := hB.2.2.2.1
  subst hn
  rcases st with _ | ⟨v1, r⟩
  · exact Or.inl fun _ => rfl
  cases v1 <;> first | exact Or.inl (fun _ => rfl) | exact Or.inr ⟨C, (i, _) :: lv.filter (mj_p2 i), r, w, fun k => mj_fi_eq _ _ _, id, fun _ cells slots kk ad H locs ls h0 hP hD hS hl => lv_lstore hB.1 hB.2.1 hd hl hnl rfl (fun ls' hl' => kk ad H locs ls' h0 hP hD hS (by rw [mj_l_p2] at hl'; exact hl'))⟩
def x_astore (i : Nat) : mj_T := fun C lv st w k => match st with
  | .ref x :: r => mj_fi (mj_p1 i) lv fun lv' => k C ((i, .ref x) :: lv') r w
  | .null :: r => mj_fi (mj_p1 i) lv fun lv' => k C ((i, .null) :: lv') r w
  | _ => none
theorem mj_astore_n {j : Fin 4} {i : Nat} (hi : (j : Nat) = i) (hnl : i < nL) (hd : decode cc pc = .ok (.astore_n j, 1)) : mj_Snd G (own, nm, cc, nL) pc (x_astore i) (pc + 1) := by
  intro X hB C lv st w
  obtain ⟨p, l, e, R, s, m, args, below, meth, c, Q, D, cA, A, ad0, kp, nL'⟩ := X
  have hn : nL' = nL := hB.2.2.2.1
  subst hn
  rcases st with _ | ⟨v1, r⟩
  · exact Or.inl fun _ => rfl
  cases v1 <;> first | exact Or.inl (fun _ => rfl) | exact Or.inr ⟨C, (i, _) :: lv.filter (mj_p1 i), r, w, fun k => mj_fi_eq _ _ _, id, fun _ cells slots kk ad H locs ls h0 hP hD hS hl => lv_astore_n hB.1 hB.2.1 hd hi hl hnl rfl (fun ls' hl' => kk ad H locs ls' h0 hP hD hS (by rw [mj_l_p1] at hl'; exact hl'))⟩ | exact Or.inr ⟨C, (i, _) :: lv.filter (mj_p1 i), r, w, fun k => mj_fi_eq _ _ _, id, fun _ cells slots kk ad H locs ls h0 hP hD hS hl => lv_astore_nN hB.1 hB.2.1 hd hi hl hnl rfl (fun ls' hl' => kk ad H locs ls' h0 hP hD hS (by rw [mj_l_p1] at hl'; exact hl'))⟩
theorem mj_astore {i : Nat} (hnl : i < nL) (hd : decode cc pc = .ok (.astore i, 2)) : mj_Snd G (own, nm, cc, nL) pc (x_astore i) (pc + 2) := by
  intro X hB C lv st w
  obtain ⟨p, l, e, R, s, m, args, below, meth, c, Q, D, cA, A, ad0, kp, nL'⟩ := X
  have hn : nL' = nL := hB.2.2.2.1
  subst hn
  rcases st with _ | ⟨v1, r⟩
  · exact Or.inl fun _ => rfl
  cases v1 <;> first | exact Or.inl (fun _ => rfl) | exact Or.inr ⟨C, (i, _) :: lv.filter (mj_p1 i), r, w, fun k => mj_fi_eq _ _ _, id, fun _ cells slots kk ad H locs ls h0 hP hD hS hl => lv_astore hB.1 hB.2.1 hd hl hnl rfl (fun ls' hl' => kk ad H locs ls' h0 hP hD hS (by rw [mj_l_p1] at hl'; exact hl'))⟩ | exact Or.inr ⟨C, (i, _) :: lv.filter (mj_p1 i), r, w, fun k => mj_fi_eq _ _ _, id, fun _ cells slots kk ad H locs ls h0 hP hD hS hl => lv_astoreN hB.1 hB.2.1 hd hl hnl rfl (fun ls' hl' => kk ad H locs ls' h0 hP hD hS (by rw [mj_l_p1] at hl'; exact hl'))⟩
def x_iinc (i : Nat) (d : Int32) : mj_T := fun C lv st w k => mj_lk lv i fun v => match v with
  | .int x => mj_fi (mj_p1 i) lv fun lv' => k C ((i, .int (x + d)) :: lv') st w
  | _ => none
theorem mj_iinc {i : Nat} {n : Int} {d : Int32} (hv : Int32.ofInt n = d) (hnl : i < nL) (hd : decode cc pc = .ok (.iinc i n, 3)) : mj_Snd G (own, nm, cc, nL) pc (x_iinc i d) (pc + 3) := by
  intro X hB C lv st w
  obtain ⟨p, l, e, R, s, m, args, below, meth, c, Q, D, cA, A, ad0, kp, nL'⟩ := X
  have hn : nL' = nL := hB.2.2.2.1
  subst hn
  rcases mj_lk_or lv i with h | ⟨v, q0, h, hq⟩
  · exact Or.inl fun k => h _
  cases v <;> first | exact Or.inr ⟨C, (i, .int (_ + d)) :: lv.filter (mj_p1 i), st, w, fun k => (h _).trans (mj_fi_eq _ _ _), id, fun _ cells slots kk ad H locs ls h0 hP hD hS hl => lv_iinc hB.1 hB.2.1 hd hl (mj_l_at hq) (by rw [hv]) hnl rfl (fun ls' hl' => kk ad H locs ls' h0 hP hD hS (by rw [mj_l_p1] at hl'; exact hl'))⟩ | exact Or.inl (fun k => h _)
end MJO
end
section
/-! fields and arrays -/
section MJH
variable {G : mj_G} {own nm : String} {cc : ByteArray} {nL pc : Nat}
def x_getf (ci kf : Nat) : mj_T := fun C lv st w k => match st with
  | .ref a :: r => mj_lk w a fun e => match e with
    | .inr (c, fs) => bif Nat.beq c ci then mj_nt fs kf (fun v => k C lv (v :: r) w) else none
    | _ => none
  | _ => none
theorem mj_getf {C0 : String} {T : u_T} {N index ci kf : Nat} (hc : G.1[ci]? = some (C0, T, N)) (hk : kf < N) (hin : ∀ w ∈ u_ws C0 T N, w ∈ G.2.1) (hlink : Cond.fieldLink own index (T kf).1 (T kf).2.1 (T kf).2.2.1 ∈ G.2.1) (hd : decode cc pc = .ok (.getfield index, 3)) : mj_Snd G (own, nm, cc, nL) pc (x_getf ci kf) (pc + 3) := by
  intro X hB C lv st w
  obtain ⟨p, l, e, R, s, m, args, below, meth, c, Q, D, cA, A, ad0, kp, nL'⟩ := X
  rcases st with _ | ⟨v1, r⟩
  · exact Or.inl fun _ => rfl
  cases v1 with
  | ref a =>
    rcases mj_wk_or w a with h | ⟨v, q0, h, hq, -⟩
    · exact Or.inl fun k => h _
    · rcases v with v | ⟨c0, fs⟩
      · exact Or.inl fun k => h _
      · by_cases hcc : c0 = ci
        · subst hcc
          rcases mj_nt_or fs kf with h2 | ⟨x, h2, hx⟩
          · exact Or.inl fun k => (h _).trans (by show (bif Nat.beq c0 c0 then _ else _) = _; rw [mj_bq]; exact h2 _)
          · refine Or.inr ⟨C, lv, x :: r, w, fun k => (h _).trans (by show (bif Nat.beq c0 c0 then _ else _) = _; rw [mj_bq]; exact h2 _), id, fun _ cells slots kk ad H locs ls h0 hP hD hS hl => ?_⟩
            exact va_get hB.1 hB.2.1 hB.2.2.2.2.2.1 hin hB.2.2.2.2.1 hB.2.2.2.2.2.2.1 hP q0 (mj_w_at hq) hc kf hk (hB.2.2.2.2.2.1 _ hlink) (fun _ h => h) (by show (fs.map (mj_v ad))[kf]? = _; rw [List.getElem?_map, hx]; rfl) hd (kk ad H locs ls h0 hP hD hS hl)
        · exact Or.inl fun k => (h _).trans (by show (bif Nat.beq c0 ci then _ else _) = _; rw [mj_bn hcc]; rfl)
  | _ => exact Or.inl fun _ => rfl
def mj_fit (tn : Nat) (v : Value) (C : List Prop) (k : List Prop → mj_S) : mj_S := match v with
  | .int x => bif Nat.beq tn 0 then k C else bif Nat.beq tn 1 then k ((x = 0 ∨ x = 1) :: C) else none
  | .long _ => bif Nat.beq tn 2 then k C else none
  | .ref _ => bif Nat.beq tn 3 then k C else none
  | .null => bif Nat.beq tn 3 then k C else none
  | _ => none
def mj_tyn (ty : FieldType) : Nat := match ty with
  | .int => 0
  | .boolean => 1
  | .long => 2
  | .object _ => 3
  | .array _ => 3
  | _ => 4
theorem mj_fit_or (ty : FieldType) (v : Value) (C : List Prop) : (∀ k, mj_fit (mj_tyn ty) v C k = none) ∨ ∃ C', (∀ k, mj_fit (mj_tyn ty) v C k = k C') ∧ (mj_al C' → mj_al C) ∧ (mj_al C' → ∀ ad : Nat → Nat, narrow ty (mj_v ad v) = mj_v ad v ∧ fits ty (mj_v ad v) = true) := by
  cases ty <;> cases v <;> first
    | exact Or.inl (fun _ => rfl)
    | exact Or.inr ⟨C, fun _ => rfl, id, fun _ ad => ⟨rfl, rfl⟩⟩
    | exact Or.inr ⟨_ :: C, fun _ => rfl, fun h => h.2, fun h ad => by
        rcases h.1 with h1 | h1
        · subst h1
          exact (show narrow .boolean (.int 0) = .int 0 ∧ fits .boolean (.int 0) = true from ⟨by decide, by decide⟩)
        · subst h1
          exact (show narrow .boolean (.int 1) = .int 1 ∧ fits .boolean (.int 1) = true from ⟨by decide, by decide⟩)⟩
def x_putf (ci kf tn : Nat) : mj_T := fun C lv st w k => match st with
  | v :: .ref a :: r => mj_lk w a fun e => match e with
    | .inr (c, fs) => bif Nat.beq c ci then mj_nt fs kf (fun _ => mj_fit tn v C (fun C' => mj_ns fs kf v (fun fs' => mj_st w a (.inr (c, fs')) (fun w' => k C' lv r w')))) else none
    | _ => none
  | _ => none
theorem mj_map_set {ad : Nat → Nat} {fs : List Value} {k : Nat} {v : Value} : (fs.set k v).map (mj_v ad) = (fs.map (mj_v ad)).set k (mj_v ad v) := by simp [List.map_set]
theorem mj_putG {C0 : String} {T : u_T} {N index ci kf : Nat} {ty0 : Nat → FieldType} (hc : G.1[ci]? = some (C0, T, N)) (hk : kf < N) (hin : ∀ w ∈ u_ws C0 T N, w ∈ G.2.1) (hty : ∀ k, k < N → parseFieldDescriptor (T k).2.2.1 = some (ty0 k)) (hnm : ∀ a, a < N → ∀ b, b < N → a ≠ b → (T a).2.1 ≠ (T b).2.1) (hlink : Cond.fieldLink own index (T kf).1 (T kf).2.1 (T kf).2.2.1 ∈ G.2.1) (hfin : (T kf).2.2.2 = false ∨ ((T kf).2.2.2 = true ∧ nm = "<init>" ∧ (T kf).1 = own)) (hd : decode cc pc = .ok (.putfield index, 3)) : mj_Snd G (own, nm, cc, nL) pc (x_putf ci kf (mj_tyn (ty0 kf))) (pc + 3) := by
  intro X hB C lv st w
  obtain ⟨p, l, e, R, s, m, args, below, meth, c, Q, D, cA, A, ad0, kp, nL'⟩ := X
  rcases st with _ | ⟨x, _ | ⟨v2, r⟩⟩
  · exact Or.inl fun _ => rfl
  · exact Or.inl fun _ => rfl
  cases v2 with
  | ref a =>
    rcases mj_wk_or w a with h | ⟨v, q0, h, hq, hst⟩
    · exact Or.inl fun k => h _
    · rcases v with v | ⟨c0, fs⟩
      · exact Or.inl fun k => h _
      · by_cases hcc : c0 = ci
        · subst hcc
          rcases mj_nt_or fs kf with h2 | ⟨y, h2, hy⟩
          · exact Or.inl fun k => (h _).trans (by show (bif Nat.beq c0 c0 then _ else _) = _; rw [mj_bq]; exact h2 _)
          · rcases mj_fit_or (ty0 kf) x C with h3 | ⟨C', h3, h4, h5⟩
            · exact Or.inl fun k => (h _).trans (by show (bif Nat.beq c0 c0 then _ else _) = _; rw [mj_bq]; exact (h2 _).trans (h3 _))
            · refine Or.inr ⟨C', lv, r, w.set q0 (a, .inr (c0, fs.set kf x)), fun k => (h _).trans (by show (bif Nat.beq c0 c0 then _ else _) = _; rw [mj_bq]; exact (h2 _).trans ((h3 _).trans ((mj_ns_eq _ _ _ _).trans (hst _ _)))), h4, fun hC cells slots kk ad H locs ls h0 hP hD hS hl => ?_⟩
              have hlen : kf < (fs.map (mj_v ad)).length := by
                rw [List.length_map]
                exact (List.getElem?_eq_some_iff.mp hy).1
              have kk2 : ∀ (H1 : Heap) (locs1 : List Loc), va_P D G.1 ((mj_w ad cA w).set q0 (ad a, .inr (c0, (fs.map (mj_v ad)).set kf (mj_v ad x)))) H1 → va_D A ((mj_w ad cA w).set q0 (ad a, .inr (c0, (fs.map (mj_v ad)).set kf (mj_v ad x)))) → va_S A s.heap H1 locs1 → W p l e R s m args below meth c H1 locs1 cells slots Q (F0 m (pc + 3) ls (r.map (mj_v ad))) := by
                intro H1 locs1 hP1 hD1 hS1
                have e1 : mj_w ad cA (w.set q0 (a, .inr (c0, fs.set kf x))) = (mj_w ad cA w).set q0 (ad a, .inr (c0, (fs.map (mj_v ad)).set kf (mj_v ad x))) := by
                  rw [mj_w_set]
                  show (mj_w ad cA w).set q0 (ad a, .inr (c0, (fs.set kf x).map (mj_v ad))) = _
                  rw [mj_map_set]
                exact kk ad H1 locs1 ls h0 (by rw [e1]; exact hP1) (by rw [e1]; exact hD1) hS1 hl
              rcases hfin with hf | ⟨hf, hi, ho⟩
              · exact va_put hB.1 hB.2.1 hB.2.2.2.2.2.1 hin ty0 hty hnm hB.2.2.2.2.1 hB.2.2.2.2.2.2.1 hP hD hS q0 (mj_w_at hq) hc kf hk (hB.2.2.2.2.2.1 _ hlink) (fun _ h => h) hf (hty kf hk) (h5 hC ad).1 (h5 hC ad).2 hlen hd kk2
              · exact va_putF hB.1 hB.2.1 hB.2.2.2.2.2.1 hin ty0 hty hnm hB.2.2.2.2.1 hB.2.2.2.2.2.2.1 hP hD hS q0 (mj_w_at hq) hc kf hk (hB.2.2.2.2.2.1 _ hlink) (fun _ h => h) hf (hB.2.2.2.2.2.2.2.2.trans hi) ho (hty kf hk) (h5 hC ad).1 (h5 hC ad).2 hlen hd kk2
        · exact Or.inl fun k => (h _).trans (by show (bif Nat.beq c0 ci then _ else _) = _; rw [mj_bn hcc]; rfl)
  | _ => exact Or.inl fun _ => rfl
/-- int[] and boolean[] and long[]: t is the place of the type in G.2.2 -/
def x_iald (t0 : Nat) : mj_T := fun C lv st w k => match st with
  | .int i :: .ref a :: r => mj_lk w a fun e => match e with
    | .inl (t, n, .inl f) => bif Nat.beq t t0 then k (vp_in i n :: C) lv (.int (f i.toNatClampNeg) :: r) w else none
    | _ => none
  | _ => none
theorem mj_iald {t0 : Nat} (hG : G.2.2[t0]? = some .int) (hd : decode cc pc = .ok (.iaload, 1)) : mj_Snd G (own, nm, cc, nL) pc (x_iald t0) (pc + 1) := by
  intro X hB C lv st w
  obtain ⟨p, l, e, R, s, m, args, below, meth, c, Q, D, cA, A, ad0, kp, nL'⟩ := X
  rcases st with _ | ⟨v1, _ | ⟨v2, r⟩⟩
  · exact Or.inl fun _ => rfl
  · cases v1 <;> exact Or.inl fun _ => rfl
  cases v1 <;> cases v2 <;> try exact Or.inl fun _ => rfl
  rename_i i a
  rcases mj_wk_or w a with h | ⟨v, q0, h, hq, -⟩
  · exact Or.inl fun k => h _
  rcases v with ⟨t, n, f | f | f⟩ | v
  · by_cases ht : t = t0
    · subst ht
      exact Or.inr ⟨vp_in i n :: C, lv, .int (f i.toNatClampNeg) :: r, w, fun k => (h _).trans (by show (bif Nat.beq t t then _ else _) = _; rw [mj_bq]; rfl), fun h => h.2, fun hc cells slots kk ad H locs ls h0 hP hD hS hl => va_iald hB.1 hB.2.1 hB.2.2.2.2.2.2.1 hP q0 t (mj_w_at hq) (mj_tys_at hG) hc.1 hd (kk ad H locs ls h0 hP hD hS hl)⟩
    · exact Or.inl fun k => (h _).trans (by show (bif Nat.beq t t0 then _ else _) = _; rw [mj_bn ht]; rfl)
  · exact Or.inl fun k => h _
  · exact Or.inl fun k => h _
  · exact Or.inl fun k => h _
theorem mj_zald {t0 : Nat} (hG : G.2.2[t0]? = some .boolean) (hd : decode cc pc = .ok (.baload, 1)) : mj_Snd G (own, nm, cc, nL) pc (x_iald t0) (pc + 1) := by
  intro X hB C lv st w
  obtain ⟨p, l, e, R, s, m, args, below, meth, c, Q, D, cA, A, ad0, kp, nL'⟩ := X
  rcases st with _ | ⟨v1, _ | ⟨v2, r⟩⟩
  · exact Or.inl fun _ => rfl
  · cases v1 <;> exact Or.inl fun _ => rfl
  cases v1 <;> cases v2 <;> try exact Or.inl fun _ => rfl
  rename_i i a
  rcases mj_wk_or w a with h | ⟨v, q0, h, hq, -⟩
  · exact Or.inl fun k => h _
  rcases v with ⟨t, n, f | f | f⟩ | v
  · by_cases ht : t = t0
    · subst ht
      exact Or.inr ⟨vp_in i n :: C, lv, .int (f i.toNatClampNeg) :: r, w, fun k => (h _).trans (by show (bif Nat.beq t t then _ else _) = _; rw [mj_bq]; rfl), fun h => h.2, fun hc cells slots kk ad H locs ls h0 hP hD hS hl => va_zald hB.1 hB.2.1 hB.2.2.2.2.2.2.1 hP q0 t (mj_w_at hq) (mj_tys_at hG) hc.1 hd (kk ad H locs ls h0 hP hD hS hl)⟩
    · exact Or.inl fun k => (h _).trans (by show (bif Nat.beq t t0 then _ else _) = _; rw [mj_bn ht]; rfl)
  · exact Or.inl fun k => h _
  · exact Or.inl fun k => h _
  · exact Or.inl fun k => h _
def x_iast (t0 : Nat) : mj_T := fun C lv st w k => match st with
  | .int x :: .int i :: .ref a :: r => mj_lk w a fun e => match e with
    | .inl (t, n, .inl f) => bif Nat.beq t t0 then mj_st w a (.inl (t, n, .inl (upd f i.toNatClampNeg x))) (fun w' => k (vp_in i n :: C) lv r w') else none
    | _ => none
  | _ => none
theorem mj_iast {t0 : Nat} (hG : G.2.2[t0]? = some .int) (hd : decode cc pc = .ok (.iastore, 1)) : mj_Snd G (own, nm, cc, nL) pc (x_iast t0) (pc + 1) := by
  intro X hB C lv st w
  obtain ⟨p, l, e, R, s, m, args, below, meth, c, Q, D, cA, A, ad0, kp, nL'⟩ := X
  rcases st with _ | ⟨v1, _ | ⟨v2, _ | ⟨v3, r⟩⟩⟩
  · exact Or.inl fun _ => rfl
  · cases v1 <;> exact Or.inl fun _ => rfl
  · cases v1 <;> cases v2 <;> exact Or.inl fun _ => rfl
  cases v1 <;> try exact Or.inl fun _ => rfl
  cases v2 <;> try exact Or.inl fun _ => rfl
  cases v3 <;> try exact Or.inl fun _ => rfl
  rename_i x i a
  rcases mj_wk_or w a with h | ⟨v, q0, h, hq, hst⟩
  · exact Or.inl fun k => h _
  rcases v with ⟨t, n, f | f | f⟩ | v
  · by_cases ht : t = t0
    · subst ht
      exact Or.inr ⟨vp_in i n :: C, lv, r, w.set q0 (a, .inl (t, n, .inl (upd f i.toNatClampNeg x))), fun k => (h _).trans (by show (bif Nat.beq t t then _ else _) = _; rw [mj_bq]; exact hst _ _), fun h => h.2, fun hc cells slots kk ad H locs ls h0 hP hD hS hl =>
        va_iast hB.1 hB.2.1 hB.2.2.2.2.2.2.1 hP hD hS q0 t (mj_w_at hq) (mj_tys_at hG) hc.1 hd (fun H1 locs1 hP1 hD1 hS1 => kk ad H1 locs1 ls h0 (by rw [mj_w_set]; exact hP1) (by rw [mj_w_set]; exact hD1) hS1 hl)⟩
    · exact Or.inl fun k => (h _).trans (by show (bif Nat.beq t t0 then _ else _) = _; rw [mj_bn ht]; rfl)
  · exact Or.inl fun k => h _
  · exact Or.inl fun k => h _
  · exact Or.inl fun k => h _
def x_zast (t0 : Nat) : mj_T := fun C lv st w k => match st with
  | .int x :: .int i :: .ref a :: r => mj_lk w a fun e => match e with
    | .inl (t, n, .inl f) => bif Nat.beq t t0 then mj_st w a (.inl (t, n, .inl (upd f i.toNatClampNeg x))) (fun w' => k (vp_in i n :: (x = 0 ∨ x = 1) :: C) lv r w') else none
    | _ => none
  | _ => none
theorem mj_nar_b {x : Int32} (h : x = 0 ∨ x = 1) : vp_nar .boolean x = x := by
  rcases h with h | h <;> (subst h; decide)
theorem mj_zast {t0 : Nat} (hG : G.2.2[t0]? = some .boolean) (hd : decode cc pc = .ok (.bastore, 1)) : mj_Snd G (own, nm, cc, nL) pc (x_zast t0) (pc + 1) := by
  intro X hB C lv st w
  obtain ⟨p, l, e, R, s, m, args, below, meth, c, Q, D, cA, A, ad0, kp, nL'⟩ := X
  rcases st with _ | ⟨v1, _ | ⟨v2, _ | ⟨v3, r⟩⟩⟩
  · exact Or.inl fun _ => rfl
  · cases v1 <;> exact Or.inl fun _ => rfl
  · cases v1 <;> cases v2 <;> exact Or.inl fun _ => rfl
  cases v1 <;> try exact Or.inl fun _ => rfl
  cases v2 <;> try exact Or.inl fun _ => rfl
  cases v3 <;> try exact Or.inl fun _ => rfl
  rename_i x i a
  rcases mj_wk_or w a with h | ⟨v, q0, h, hq, hst⟩
  · exact Or.inl fun k => h _
  rcases v with ⟨t, n, f | f | f⟩ | v
  · by_cases ht : t = t0
    · subst ht
      exact Or.inr ⟨vp_in i n :: (x = 0 ∨ x = 1) :: C, lv, r, w.set q0 (a, .inl (t, n, .inl (upd f i.toNatClampNeg x))), fun k => (h _).trans (by show (bif Nat.beq t t then _ else _) = _; rw [mj_bq]; exact hst _ _), fun h => h.2.2, fun hc cells slots kk ad H locs ls h0 hP hD hS hl =>
        va_zast hB.1 hB.2.1 hB.2.2.2.2.2.2.1 hP hD hS q0 t (mj_w_at hq) (mj_tys_at hG) hc.1 hd (fun H1 locs1 hP1 hD1 hS1 => kk ad H1 locs1 ls h0 (by rw [mj_w_set]; rw [mj_nar_b hc.2.1] at hP1; exact hP1) (by rw [mj_w_set]; rw [mj_nar_b hc.2.1] at hD1; exact hD1) hS1 hl)⟩
    · exact Or.inl fun k => (h _).trans (by show (bif Nat.beq t t0 then _ else _) = _; rw [mj_bn ht]; rfl)
  · exact Or.inl fun k => h _
  · exact Or.inl fun k => h _
  · exact Or.inl fun k => h _
def mj_rf : Option Nat → Value
  | some a => .ref a
  | none => .null
theorem mj_rf_v (ad : Nat → Nat) (o : Option Nat) : mj_v ad (mj_rf o) = va_rf (o.map ad) := by cases o <;> rfl
def x_aald (t0 : Nat) : mj_T := fun C lv st w k => match st with
  | .int i :: .ref a :: r => mj_lk w a fun e => match e with
    | .inl (t, n, .inr (.inr f)) => bif Nat.beq t t0 then k (vp_in i n :: C) lv (mj_rf (f.getD i.toNatClampNeg none) :: r) w else none
    | _ => none
  | _ => none
theorem mj_aald {t0 : Nat} {C0 : String} (hG : G.2.2[t0]? = some (.object C0)) (hd : decode cc pc = .ok (.aaload, 1)) : mj_Snd G (own, nm, cc, nL) pc (x_aald t0) (pc + 1) := by
  intro X hB C lv st w
  obtain ⟨p, l, e, R, s, m, args, below, meth, c, Q, D, cA, A, ad0, kp, nL'⟩ := X
  rcases st with _ | ⟨v1, _ | ⟨v2, r⟩⟩
  · exact Or.inl fun _ => rfl
  · cases v1 <;> exact Or.inl fun _ => rfl
  cases v1 <;> cases v2 <;> try exact Or.inl fun _ => rfl
  rename_i i a
  rcases mj_wk_or w a with h | ⟨v, q0, h, hq, -⟩
  · exact Or.inl fun k => h _
  rcases v with ⟨t, n, f | f | f⟩ | v
  · exact Or.inl fun k => h _
  · exact Or.inl fun k => h _
  · by_cases ht : t = t0
    · subst ht
      refine Or.inr ⟨vp_in i n :: C, lv, mj_rf (f.getD i.toNatClampNeg none) :: r, w, fun k => (h _).trans (by show (bif Nat.beq t t then _ else _) = _; rw [mj_bq]; rfl), fun h => h.2, fun hc cells slots kk ad H locs ls h0 hP hD hS hl => ?_⟩
      refine va_aldq hB.1 hB.2.1 hB.2.2.2.2.2.2.1 hP q0 t (mj_w_at hq) (mj_tys_at hG) hc.1 hd ?_
      have k2 := kk ad H locs ls h0 hP hD hS hl
      rw [List.map_cons, mj_rf_v] at k2
      exact k2
    · exact Or.inl fun k => (h _).trans (by show (bif Nat.beq t t0 then _ else _) = _; rw [mj_bn ht]; rfl)
  · exact Or.inl fun k => h _
end MJH
theorem mj_sub_w {ad : Nat → Nat} {cA : Nat → ClassId} {w w' : mj_M} {is : List Nat} (hs : is.map (fun i => w[i]?) = w'.map some) : is.map (fun i => (mj_w ad cA w)[i]?) = (mj_w ad cA w').map some := by
  have h1 : is.map (fun i => (mj_w ad cA w)[i]?) = (is.map (fun i => w[i]?)).map (Option.map (fun q => (ad q.1, mj_e ad cA q.2))) := by
    rw [List.map_map]
    apply List.map_congr_left
    intro i _
    simp [mj_w, List.getElem?_map]
  rw [h1, hs, List.map_map]
  simp [mj_w, List.map_map, Function.comp]
theorem mj_fm_of {α β : Type} {f : α → Option β} {is : List α} {l : List β} (h : is.map f = l.map some) : is.filterMap f = l := by
  induction is generalizing l with
  | nil => cases l with
    | nil => rfl
    | cons a l => cases h
  | cons i is ih => cases l with
    | nil => cases h
    | cons a l =>
      rw [List.map_cons, List.map_cons] at h
      injection h with h1 h2
      rw [List.filterMap_cons, h1, ih h2]
section MJB
variable {G : mj_G} {X : mj_X} {M : mj_Y} {cells slots pc : Nat} {lv : mj_L} {r : List Value} {w : mj_M}
theorem mj_ifeq (hB : mj_B G X M) {x : Int32} {off : Int} {tgt : Nat} (hd : decode M.2.2.1 pc = .ok (.ifCond .eq off, 3)) (ht : (pc : Int) + off = (tgt : Int)) (kt : (x = 0) → mj_W G X cells slots tgt lv r w) (kf : ¬ (x = 0) → mj_W G X cells slots (pc + 3) lv r w) : mj_W G X cells slots pc lv (.int x :: r) w := by
  obtain ⟨p, l, e, R, s, m, args, below, meth, c, Q, D, cA, A, ad0, kp, nL⟩ := X
  exact fun ad H locs ls h0 hP hD hS hl => lv_if_eq hB.1 hB.2.1 hd ht (fun h => kt h ad H locs ls h0 hP hD hS hl) (fun h => kf h ad H locs ls h0 hP hD hS hl)
theorem mj_ifne (hB : mj_B G X M) {x : Int32} {off : Int} {tgt : Nat} (hd : decode M.2.2.1 pc = .ok (.ifCond .ne off, 3)) (ht : (pc : Int) + off = (tgt : Int)) (kt : (¬ x = 0) → mj_W G X cells slots tgt lv r w) (kf : x = 0 → mj_W G X cells slots (pc + 3) lv r w) : mj_W G X cells slots pc lv (.int x :: r) w := by
  obtain ⟨p, l, e, R, s, m, args, below, meth, c, Q, D, cA, A, ad0, kp, nL⟩ := X
  exact fun ad H locs ls h0 hP hD hS hl => lv_if_ne hB.1 hB.2.1 hd ht (fun h => kt h ad H locs ls h0 hP hD hS hl) (fun h => kf h ad H locs ls h0 hP hD hS hl)
theorem mj_iflt (hB : mj_B G X M) {x : Int32} {off : Int} {tgt : Nat} (hd : decode M.2.2.1 pc = .ok (.ifCond .lt off, 3)) (ht : (pc : Int) + off = (tgt : Int)) (kt : (x < 0) → mj_W G X cells slots tgt lv r w) (kf : ¬ (x < 0) → mj_W G X cells slots (pc + 3) lv r w) : mj_W G X cells slots pc lv (.int x :: r) w := by
  obtain ⟨p, l, e, R, s, m, args, below, meth, c, Q, D, cA, A, ad0, kp, nL⟩ := X
  exact fun ad H locs ls h0 hP hD hS hl => lv_if_lt hB.1 hB.2.1 hd ht (fun h => kt h ad H locs ls h0 hP hD hS hl) (fun h => kf h ad H locs ls h0 hP hD hS hl)
theorem mj_ifge (hB : mj_B G X M) {x : Int32} {off : Int} {tgt : Nat} (hd : decode M.2.2.1 pc = .ok (.ifCond .ge off, 3)) (ht : (pc : Int) + off = (tgt : Int)) (kt : (0 ≤ x) → mj_W G X cells slots tgt lv r w) (kf : ¬ (0 ≤ x) → mj_W G X cells slots (pc + 3) lv r w) : mj_W G X cells slots pc lv (.int x :: r) w := by
  obtain ⟨p, l, e, R, s, m, args, below, meth, c, Q, D, cA, A, ad0, kp, nL⟩ := X
  exact fun ad H locs ls h0 hP hD hS hl => lv_if_ge hB.1 hB.2.1 hd ht (fun h => kt h ad H locs ls h0 hP hD hS hl) (fun h => kf h ad H locs ls h0 hP hD hS hl)
theorem mj_ifgt (hB : mj_B G X M) {x : Int32} {off : Int} {tgt : Nat} (hd : decode M.2.2.1 pc = .ok (.ifCond .gt off, 3)) (ht : (pc : Int) + off = (tgt : Int)) (kt : (0 < x) → mj_W G X cells slots tgt lv r w) (kf : ¬ (0 < x) → mj_W G X cells slots (pc + 3) lv r w) : mj_W G X cells slots pc lv (.int x :: r) w := by
  obtain ⟨p, l, e, R, s, m, args, below, meth, c, Q, D, cA, A, ad0, kp, nL⟩ := X
  exact fun ad H locs ls h0 hP hD hS hl => lv_if_gt hB.1 hB.2.1 hd ht (fun h => kt h ad H locs ls h0 hP hD hS hl) (fun h => kf h ad H locs ls h0 hP hD hS hl)
theorem mj_ifle (hB : mj_B G X M) {x : Int32} {off : Int} {tgt : Nat} (hd : decode M.2.2.1 pc = .ok (.ifCond .le off, 3)) (ht : (pc : Int) + off = (tgt : Int)) (kt : (x ≤ 0) → mj_W G X cells slots tgt lv r w) (kf : ¬ (x ≤ 0) → mj_W G X cells slots (pc + 3) lv r w) : mj_W G X cells slots pc lv (.int x :: r) w := by
  obtain ⟨p, l, e, R, s, m, args, below, meth, c, Q, D, cA, A, ad0, kp, nL⟩ := X
  exact fun ad H locs ls h0 hP hD hS hl => lv_if_le hB.1 hB.2.1 hd ht (fun h => kt h ad H locs ls h0 hP hD hS hl) (fun h => kf h ad H locs ls h0 hP hD hS hl)
theorem mj_iceq (hB : mj_B G X M) {x y : Int32} {off : Int} {tgt : Nat} (hd : decode M.2.2.1 pc = .ok (.if_icmp .eq off, 3)) (ht : (pc : Int) + off = (tgt : Int)) (kt : (x = y) → mj_W G X cells slots tgt lv r w) (kf : ¬ (x = y) → mj_W G X cells slots (pc + 3) lv r w) : mj_W G X cells slots pc lv (.int y :: .int x :: r) w := by
  obtain ⟨p, l, e, R, s, m, args, below, meth, c, Q, D, cA, A, ad0, kp, nL⟩ := X
  exact fun ad H locs ls h0 hP hD hS hl => lv_icmp_eq hB.1 hB.2.1 hd ht (fun h => kt h ad H locs ls h0 hP hD hS hl) (fun h => kf h ad H locs ls h0 hP hD hS hl)
theorem mj_icne (hB : mj_B G X M) {x y : Int32} {off : Int} {tgt : Nat} (hd : decode M.2.2.1 pc = .ok (.if_icmp .ne off, 3)) (ht : (pc : Int) + off = (tgt : Int)) (kt : (¬ x = y) → mj_W G X cells slots tgt lv r w) (kf : x = y → mj_W G X cells slots (pc + 3) lv r w) : mj_W G X cells slots pc lv (.int y :: .int x :: r) w := by
  obtain ⟨p, l, e, R, s, m, args, below, meth, c, Q, D, cA, A, ad0, kp, nL⟩ := X
  exact fun ad H locs ls h0 hP hD hS hl => lv_icmp_ne hB.1 hB.2.1 hd ht (fun h => kt h ad H locs ls h0 hP hD hS hl) (fun h => kf h ad H locs ls h0 hP hD hS hl)
theorem mj_iclt (hB : mj_B G X M) {x y : Int32} {off : Int} {tgt : Nat} (hd : decode M.2.2.1 pc = .ok (.if_icmp .lt off, 3)) (ht : (pc : Int) + off = (tgt : Int)) (kt : (x < y) → mj_W G X cells slots tgt lv r w) (kf : ¬ (x < y) → mj_W G X cells slots (pc + 3) lv r w) : mj_W G X cells slots pc lv (.int y :: .int x :: r) w := by
  obtain ⟨p, l, e, R, s, m, args, below, meth, c, Q, D, cA, A, ad0, kp, nL⟩ := X
  exact fun ad H locs ls h0 hP hD hS hl => lv_icmp_lt hB.1 hB.2.1 hd ht (fun h => kt h ad H locs ls h0 hP hD hS hl) (fun h => kf h ad H locs ls h0 hP hD hS hl)
theorem mj_icge (hB : mj_B G X M) {x y : Int32} {off : Int} {tgt : Nat} (hd : decode M.2.2.1 pc = .ok (.if_icmp .ge off, 3)) (ht : (pc : Int) + off = (tgt : Int)) (kt : (y ≤ x) → mj_W G X cells slots tgt lv r w) (kf : ¬ (y ≤ x) → mj_W G X cells slots (pc + 3) lv r w) : mj_W G X cells slots pc lv (.int y :: .int x :: r) w := by
  obtain ⟨p, l, e, R, s, m, args, below, meth, c, Q, D, cA, A, ad0, kp, nL⟩ := X
  exact fun ad H locs ls h0 hP hD hS hl => lv_icmp_ge hB.1 hB.2.1 hd ht (fun h => kt h ad H locs ls h0 hP hD hS hl) (fun h => kf h ad H locs ls h0 hP hD hS hl)
theorem mj_icgt (hB : mj_B G X M) {x y : Int32} {off : Int} {tgt : Nat} (hd : decode M.2.2.1 pc = .ok (.if_icmp .gt off, 3)) (ht : (pc : Int) + off = (tgt : Int)) (kt : (y < x) → mj_W G X cells slots tgt lv r w) (kf : ¬ (y < x) → mj_W G X cells slots (pc + 3) lv r w) : mj_W G X cells slots pc lv (.int y :: .int x :: r) w := by
  obtain ⟨p, l, e, R, s, m, args, below, meth, c, Q, D, cA, A, ad0, kp, nL⟩ := X
  exact fun ad H locs ls h0 hP hD hS hl => lv_icmp_gt hB.1 hB.2.1 hd ht (fun h => kt h ad H locs ls h0 hP hD hS hl) (fun h => kf h ad H locs ls h0 hP hD hS hl)
theorem mj_icle (hB : mj_B G X M) {x y : Int32} {off : Int} {tgt : Nat} (hd : decode M.2.2.1 pc = .ok (.if_icmp .le off, 3)) (ht : (pc : Int) + off = (tgt : Int)) (kt : (x ≤ y) → mj_W G X cells slots tgt lv r w) (kf : ¬ (x ≤ y) → mj_W G X cells slots (pc + 3) lv r w) : mj_W G X cells slots pc lv (.int y :: .int x :: r) w := by
  obtain ⟨p, l, e, R, s, m, args, below, meth, c, Q, D, cA, A, ad0, kp, nL⟩ := X
  exact fun ad H locs ls h0 hP hD hS hl => lv_icmp_le hB.1 hB.2.1 hd ht (fun h => kt h ad H locs ls h0 hP hD hS hl) (fun h => kf h ad H locs ls h0 hP hD hS hl)
theorem mj_ifnull_r (hB : mj_B G X M) {x : Nat} {off : Int} (hd : decode M.2.2.1 pc = .ok (.ifnull off, 3)) (kk : mj_W G X cells slots (pc + 3) lv r w) : mj_W G X cells slots pc lv (.ref x :: r) w := by
  obtain ⟨p, l, e, R, s, m, args, below, meth, c, Q, D, cA, A, ad0, kp, nL⟩ := X
  exact fun ad H locs ls h0 hP hD hS hl => lv_ifnull hB.1 hB.2.1 hd (kk ad H locs ls h0 hP hD hS hl)
theorem mj_ifnonnull_r (hB : mj_B G X M) {x : Nat} {off : Int} {tgt : Nat} (hd : decode M.2.2.1 pc = .ok (.ifnonnull off, 3)) (ht : (pc : Int) + off = (tgt : Int)) (kk : mj_W G X cells slots (tgt) lv r w) : mj_W G X cells slots pc lv (.ref x :: r) w := by
  obtain ⟨p, l, e, R, s, m, args, below, meth, c, Q, D, cA, A, ad0, kp, nL⟩ := X
  exact fun ad H locs ls h0 hP hD hS hl => lv_ifnonnull hB.1 hB.2.1 hd ht (kk ad H locs ls h0 hP hD hS hl)
theorem mj_ifnull_n (hB : mj_B G X M) {off : Int} {tgt : Nat} (hd : decode M.2.2.1 pc = .ok (.ifnull off, 3)) (ht : (pc : Int) + off = (tgt : Int)) (kk : mj_W G X cells slots (tgt) lv r w) : mj_W G X cells slots pc lv (.null :: r) w := by
  obtain ⟨p, l, e, R, s, m, args, below, meth, c, Q, D, cA, A, ad0, kp, nL⟩ := X
  exact fun ad H locs ls h0 hP hD hS hl => lv_ifnullN hB.1 hB.2.1 hd ht (kk ad H locs ls h0 hP hD hS hl)
theorem mj_ifnonnull_n (hB : mj_B G X M) {off : Int} (hd : decode M.2.2.1 pc = .ok (.ifnonnull off, 3)) (kk : mj_W G X cells slots (pc + 3) lv r w) : mj_W G X cells slots pc lv (.null :: r) w := by
  obtain ⟨p, l, e, R, s, m, args, below, meth, c, Q, D, cA, A, ad0, kp, nL⟩ := X
  exact fun ad H locs ls h0 hP hD hS hl => lv_ifnonnullN hB.1 hB.2.1 hd (kk ad H locs ls h0 hP hD hS hl)
theorem mj_widen {k n : Nat} (h1 : cells ≤ k) (h2 : slots ≤ n) {st : List Value} (kk : mj_W G X k n pc lv st w) : mj_W G X cells slots pc lv st w := by
  obtain ⟨p, l, e, R, s, m, args, below, meth, c, Q, D, cA, A, ad0, kp, nL⟩ := X
  exact fun ad H locs ls h0 hP hD hS hl => W.widen h1 h2 (kk ad H locs ls h0 hP hD hS hl)
/-- fewer listed locals -/
theorem mj_lsub {lv' : mj_L} {st : List Value} (hs : ∀ q ∈ lv', q ∈ lv) (kk : mj_W G X cells slots pc lv' st w) : mj_W G X cells slots pc lv st w := by
  obtain ⟨p, l, e, R, s, m, args, below, meth, c, Q, D, cA, A, ad0, kp, nL⟩ := X
  refine fun ad H locs ls h0 hP hD hS hl => kk ad H locs ls h0 hP hD hS ⟨hl.1, hl.2.1, fun q hq => ?_⟩
  obtain ⟨z, hz, rfl⟩ := List.mem_map.mp hq
  exact hl.2.2 _ (List.mem_map.mpr ⟨z, hs z hz, rfl⟩)
/-- fewer cells, in another order -/
theorem mj_wsub {w' : mj_M} {st : List Value} (is : List Nat) (hn : va_nd is = true) (hs : is.map (fun i => w[i]?) = w'.map some) (kk : mj_W G X cells slots pc lv st w') : mj_W G X cells slots pc lv st w := by
  obtain ⟨p, l, e, R, s, m, args, below, meth, c, Q, D, cA, A, ad0, kp, nL⟩ := X
  refine fun ad H locs ls h0 hP hD hS hl => kk ad H locs ls h0 (hP.sub is ?_) (hD.sub is hn ?_) hS hl
  · have h1 := mj_sub_w (ad := ad) (cA := cA) hs
    rw [show (fun i => (mj_w ad cA w)[i]?) = (fun i => (mj_w ad cA w)[i]?) from rfl]
    exact mj_fm_of h1
  · exact mj_sub_w hs
end MJB
/-! a method's start and end -/
abbrev mj_N : Type := MethodName × ByteArray × Nat × Option FieldType
abbrev mj_R : Type := Option Value → mj_M → Prop
def mj_Q (G : mj_G) (D : va_G) (cA : Nat → ClassId) (A : Nat → Prop) (ad : Nat → Nat) (kp : Nat → Prop) (post : mj_R) : Array Value → State → Outcome → State → Prop := fun _ st oc t =>
  (∃ (r : Option Value) (w' : mj_M) (ad' : Nat → Nat), (∀ q, kp q → ad' q = ad q) ∧ post r w' ∧ oc = .returned (r.map (mj_v ad')) ∧ va_P D G.1 (mj_w ad' cA w') t.heap ∧ va_K D G.1 (mj_tys cA G.2.2) t ∧ va_D A (mj_w ad' cA w')) ∧ va_F A st t
def mj_Ev (G : mj_G) (l : Launch) (D : va_G) (cA : Nat → ClassId) (Y : mj_N) (fr lo mc ms : Nat) (args : List Value) (w : mj_M) (kp : Nat → Prop) (post : mj_R) : Prop :=
  ∀ (ad : Nat → Nat) (sz : Nat), Met l Y.1 (Cond.code Y.1 Y.2.1 Y.2.2.1 Y.2.2.2 :: G.2.1) { frames := fr, cells := mc, slots := ms, locals := lo } (va_Pc (args.map (mj_v ad)) (fun U => U.heap.size = sz ∧ va_P D G.1 (mj_w ad cA w) U.heap ∧ va_K D G.1 (mj_tys cA G.2.2) U ∧ va_D (fun _ => True) (mj_w ad cA w))) (mj_Q G D cA (va_A (mj_w ad cA w) sz) ad kp post) mc ms (va_A (mj_w ad cA w) sz)
def mj_F (G : mj_G) (X : mj_X) (l : Launch) (D : va_G) (cA : Nat → ClassId) (ret : Option FieldType) (fr lo mc ms : Nat) (kp : Nat → Prop) (post : mj_R) : Prop := match X with
  | (_, l', _, R, s, _, args, below, meth, _, Q, D', cA', A, ad0, kp', _) => l' = l ∧ D' = D ∧ cA' = cA ∧ kp' = kp ∧ R.frames = fr ∧ R.cells = mc ∧ R.slots = ms ∧ R.locals = lo ∧ Q = MQ below (mj_Q G D cA A ad0 kp post) args s mc ms A ∧ meth.sig.returnType = ret ∧ meth.locks = false
def mj_E (G : mj_G) (X : mj_X) (l : Launch) (D : va_G) (cA : Nat → ClassId) (Y : mj_N) (fr lo mc ms : Nat) (kp : Nat → Prop) (post : mj_R) : Prop :=
  mj_B G X (Y.1.cls, Y.1.name, Y.2.1, Y.2.2.1) ∧ mj_F G X l D cA Y.2.2.2 fr lo mc ms kp post
theorem mj_sl_len (ad : Nat → Nat) (vs : List Value) : (lg_sl (vs.map (mj_v ad))).length = (lg_sl vs).length := by
  induction vs with
  | nil => rfl
  | cons v vs ih =>
    have h1 : ∀ (a : Value) (l : List Value), lg_sl (a :: l) = (if a.category = 2 then [Slot.val a, Slot.second] else [Slot.val a]) ++ lg_sl l := fun a l => by simp [lg_sl]
    rw [List.map_cons, h1, h1, List.length_append, List.length_append, ih, mj_v_cat]
    by_cases h : v.category = 2 <;> simp [h]
theorem mj_l_args (ad : Nat → Nat) (vs : List Value) (i : Nat) : mj_l ad (lv_args i vs) = lv_args i (vs.map (mj_v ad)) := by
  induction vs generalizing i with
  | nil => rfl
  | cons v vs ih =>
    show (i, mj_v ad v) :: mj_l ad (lv_args (if v.category = 2 then i + 2 else i + 1) vs) = (i, mj_v ad v) :: lv_args (if (mj_v ad v).category = 2 then i + 2 else i + 1) (vs.map (mj_v ad))
    rw [ih, mj_v_cat]
theorem mj_ev {G : mj_G} {l : Launch} {D : va_G} {cA : Nat → ClassId} {Y : mj_N} {fr lo mc ms : Nat} {args : List Value} {w : mj_M} {kp : Nat → Prop} {post : mj_R} {lv : mj_L} (hy : plainName Y.1.cls = true) (hlen : (lg_sl args).length ≤ Y.2.2.1) (hlv : lv_args 0 args = lv)
    (body : ∀ X : mj_X, mj_E G X l D cA Y fr lo mc ms kp post → mj_W G X 0 0 0 lv [] w) : mj_Ev G l D cA Y fr lo mc ms args w kp post := by
  intro ad sz
  refine Met.ofW (cc := Y.2.1) (maxL := Y.2.2.1) (ret := Y.2.2.2) hy rfl ?_
  intro p e s m args' below meth c s₁ B hml hv
  obtain ⟨rfl, hsz, hP, hK, hD0⟩ := hv
  have hts := atoms_spec (ws := Cond.code Y.1 Y.2.1 Y.2.2.1 Y.2.2.2 :: G.2.1) B.pre
  have hown := findClass_of_methodNamed B.named
  have hin := (name_of_methodNamed B.named B.method).1
  subst hsz
  have hD := hD0.self (sz := s.heap.size)
  have hA : ∀ q, s.heap.size ≤ q → va_A (mj_w ad cA w) s.heap.size q := fun q h => Or.inr h
  have hl := lv_entry (args.map (mj_v ad)) (n := Y.2.2.1) (by rw [mj_sl_len]; exact hlen)
  rw [lg_entry_eq]
  have hb := body (p, l, e, (headSpec (Cond.code Y.1 Y.2.1 Y.2.2.1 Y.2.2.2 :: G.2.1) { frames := fr, cells := mc, slots := ms, locals := lo }).room, s, m, (args.map (mj_v ad)).toArray, below, meth, c, MQ below (mj_Q G D cA (va_A (mj_w ad cA w) s.heap.size) ad kp post) (args.map (mj_v ad)).toArray s mc ms (va_A (mj_w ad cA w) s.heap.size), D, cA, va_A (mj_w ad cA w) s.heap.size, ad, kp, Y.2.2.1)
    ⟨⟨B.exec, B.bytes, hml, rfl, hown, fun w h => hts w (List.mem_cons_of_mem _ h), hK, hA, hin⟩, rfl, rfl, rfl, rfl, rfl, rfl, rfl, rfl, rfl, B.returns, B.notSynchronized⟩
  refine hb ad s.heap [] _ (fun _ _ => rfl) hP hD va_S.rf ?_
  rw [← hlv, mj_l_args]
  exact hl
section MJE
variable {G : mj_G} {X : mj_X} {l : Launch} {D : va_G} {cA : Nat → ClassId} {Y : mj_N} {fr lo mc ms : Nat} {kp : Nat → Prop} {post : mj_R} {cells slots pc : Nat} {lv : mj_L} {w : mj_M}
theorem mj_iret (h : mj_E G X l D cA Y fr lo mc ms kp post) {v : Int32} (hret : Y.2.2.2 = some .int) (hd : decode Y.2.1 pc = .ok (.ireturn, 1)) (hc : cells ≤ mc) (hs : slots ≤ ms) (hp : post (some (.int v)) w) : mj_W G X cells slots pc lv [.int v] w := by
  obtain ⟨p, l', e, R, s, m, args, below, meth, c, Q, D', cA', A, ad0, kp', nL⟩ := X
  obtain ⟨hB, rfl, rfl, rfl, rfl, -, -, -, -, hQ, hr, hlk⟩ := h
  subst hQ
  intro ad H locs ls h0 hP hD hS hl
  refine W.widen (k := mc) (n := ms) hc hs ?_
  exact W.iret hB.1 hB.2.1 (hr.trans hret) (fun t ht hW => ⟨⟨some (.int v), w, ad, h0, hp, rfl, by rw [ht]; exact hP, va_K.moved hW.alike hB.2.2.2.2.2.2.1, hD⟩, hS.F ht⟩) hS.2.2 hd hlk
theorem mj_zret (h : mj_E G X l D cA Y fr lo mc ms kp post) {v : Int32} (hret : Y.2.2.2 = some .boolean) (hv : v = 0 ∨ v = 1) (hd : decode Y.2.1 pc = .ok (.ireturn, 1)) (hc : cells ≤ mc) (hs : slots ≤ ms) (hp : post (some (.int v)) w) : mj_W G X cells slots pc lv [.int v] w := by
  obtain ⟨p, l', e, R, s, m, args, below, meth, c, Q, D', cA', A, ad0, kp', nL⟩ := X
  obtain ⟨hB, rfl, rfl, rfl, rfl, -, -, -, -, hQ, hr, hlk⟩ := h
  subst hQ
  intro ad H locs ls h0 hP hD hS hl
  refine W.widen (k := mc) (n := ms) hc hs ?_
  exact W.zret hB.1 hB.2.1 (hr.trans hret) (by rcases hv with h | h <;> (subst h; decide)) (fun t ht hW => ⟨⟨some (.int v), w, ad, h0, hp, rfl, by rw [ht]; exact hP, va_K.moved hW.alike hB.2.2.2.2.2.2.1, hD⟩, hS.F ht⟩) hS.2.2 hd hlk
theorem mj_vret (h : mj_E G X l D cA Y fr lo mc ms kp post) (hret : Y.2.2.2 = none) (hd : decode Y.2.1 pc = .ok (.return_, 1)) (hc : cells ≤ mc) (hs : slots ≤ ms) (hp : post none w) : mj_W G X cells slots pc lv [] w := by
  obtain ⟨p, l', e, R, s, m, args, below, meth, c, Q, D', cA', A, ad0, kp', nL⟩ := X
  obtain ⟨hB, rfl, rfl, rfl, rfl, -, -, -, -, hQ, hr, hlk⟩ := h
  subst hQ
  intro ad H locs ls h0 hP hD hS hl
  refine W.widen (k := mc) (n := ms) hc hs ?_
  exact W.vret hB.1 hB.2.1 (hr.trans hret) (fun t ht hW => ⟨⟨none, w, ad, h0, hp, rfl, by rw [ht]; exact hP, va_K.moved hW.alike hB.2.2.2.2.2.2.1, hD⟩, hS.F ht⟩) hS.2.2 hd hlk
theorem mj_aret (h : mj_E G X l D cA Y fr lo mc ms kp post) {v : Nat} {n : String} (hret : Y.2.2.2 = some (.object n)) (hd : decode Y.2.1 pc = .ok (.areturn, 1)) (hc : cells ≤ mc) (hs : slots ≤ ms) (hp : post (some (.ref v)) w) : mj_W G X cells slots pc lv [.ref v] w := by
  obtain ⟨p, l', e, R, s, m, args, below, meth, c, Q, D', cA', A, ad0, kp', nL⟩ := X
  obtain ⟨hB, rfl, rfl, rfl, rfl, -, -, -, -, hQ, hr, hlk⟩ := h
  subst hQ
  intro ad H locs ls h0 hP hD hS hl
  refine W.widen (k := mc) (n := ms) hc hs ?_
  exact W.aret hB.1 hB.2.1 (hr.trans hret) (Or.inl ⟨n, rfl⟩) (Or.inr ⟨ad v, rfl⟩) (fun t ht hW => ⟨⟨some (.ref v), w, ad, h0, hp, rfl, by rw [ht]; exact hP, va_K.moved hW.alike hB.2.2.2.2.2.2.1, hD⟩, hS.F ht⟩) hS.2.2 hd hlk
theorem mj_aretN (h : mj_E G X l D cA Y fr lo mc ms kp post) {n : String} (hret : Y.2.2.2 = some (.object n)) (hd : decode Y.2.1 pc = .ok (.areturn, 1)) (hc : cells ≤ mc) (hs : slots ≤ ms) (hp : post (some .null) w) : mj_W G X cells slots pc lv [.null] w := by
  obtain ⟨p, l', e, R, s, m, args, below, meth, c, Q, D', cA', A, ad0, kp', nL⟩ := X
  obtain ⟨hB, rfl, rfl, rfl, rfl, -, -, -, -, hQ, hr, hlk⟩ := h
  subst hQ
  intro ad H locs ls h0 hP hD hS hl
  refine W.widen (k := mc) (n := ms) hc hs ?_
  exact W.aret hB.1 hB.2.1 (hr.trans hret) (Or.inl ⟨n, rfl⟩) (Or.inl rfl) (fun t ht hW => ⟨⟨some .null, w, ad, h0, hp, rfl, by rw [ht]; exact hP, va_K.moved hW.alike hB.2.2.2.2.2.2.1, hD⟩, hS.F ht⟩) hS.2.2 hd hlk
end MJE
theorem mj_top {G : mj_G} {X : mj_X} {cells slots pc : Nat} {lv : mj_L} {r : List Value} {w : mj_M} {x y : Int32} (e : x = y) (kk : mj_W G X cells slots pc lv (.int y :: r) w) : mj_W G X cells slots pc lv (.int x :: r) w := e ▸ kk
theorem mj_ifeq0 {G : mj_G} {X : mj_X} {M : mj_Y} {cells slots pc : Nat} {lv : mj_L} {r : List Value} {w : mj_M} (hB : mj_B G X M) {off : Int} {tgt : Nat} (hd : decode M.2.2.1 pc = .ok (.ifCond .eq off, 3)) (ht : (pc : Int) + off = (tgt : Int)) (kt : mj_W G X cells slots tgt lv r w) : mj_W G X cells slots pc lv (.int 0 :: r) w := mj_ifeq hB hd ht (fun _ => kt) (fun h => absurd rfl h)
theorem mj_ifeq1 {G : mj_G} {X : mj_X} {M : mj_Y} {cells slots pc : Nat} {lv : mj_L} {r : List Value} {w : mj_M} (hB : mj_B G X M) {off : Int} {tgt : Nat} (hd : decode M.2.2.1 pc = .ok (.ifCond .eq off, 3)) (ht : (pc : Int) + off = (tgt : Int)) (kf : mj_W G X cells slots (pc + 3) lv r w) : mj_W G X cells slots pc lv (.int 1 :: r) w := mj_ifeq hB hd ht (fun h => absurd h (by decide)) (fun _ => kf)
theorem mj_ifne0 {G : mj_G} {X : mj_X} {M : mj_Y} {cells slots pc : Nat} {lv : mj_L} {r : List Value} {w : mj_M} (hB : mj_B G X M) {off : Int} {tgt : Nat} (hd : decode M.2.2.1 pc = .ok (.ifCond .ne off, 3)) (ht : (pc : Int) + off = (tgt : Int)) (kf : mj_W G X cells slots (pc + 3) lv r w) : mj_W G X cells slots pc lv (.int 0 :: r) w := mj_ifne hB hd ht (fun h => absurd rfl h) (fun _ => kf)
theorem mj_ifne1 {G : mj_G} {X : mj_X} {M : mj_Y} {cells slots pc : Nat} {lv : mj_L} {r : List Value} {w : mj_M} (hB : mj_B G X M) {off : Int} {tgt : Nat} (hd : decode M.2.2.1 pc = .ok (.ifCond .ne off, 3)) (ht : (pc : Int) + off = (tgt : Int)) (kt : mj_W G X cells slots tgt lv r w) : mj_W G X cells slots pc lv (.int 1 :: r) w := mj_ifne hB hd ht (fun _ => kt) (fun h => absurd h (by decide))
theorem mj_lpk {G : mj_G} {X : mj_X} {cells slots pc : Nat} {lv lv' : mj_L} {st : List Value} {w : mj_M} (ks : List Nat) (hl : ks.filterMap (fun k => lv[k]?) = lv') (kk : mj_W G X cells slots pc lv' st w) : mj_W G X cells slots pc lv st w :=
  mj_lsub (fun q hq => by
    rw [← hl] at hq
    obtain ⟨k, -, hk⟩ := List.mem_filterMap.mp hq
    exact List.mem_of_getElem? hk) kk
theorem mj_z01 {p : Prop} [Decidable p] : (if p then (1 : Int32) else 0) = 0 ∨ (if p then (1 : Int32) else 0) = 1 := by
  by_cases h : p
  · exact Or.inr (if_pos h)
  · exact Or.inl (if_neg h)
theorem mj_ifeqB {G : mj_G} {X : mj_X} {M : mj_Y} {cells slots pc : Nat} {lv : mj_L} {r : List Value} {w : mj_M} (hB : mj_B G X M) {P : Prop} [Decidable P] {off : Int} {tgt : Nat} (hd : decode M.2.2.1 pc = .ok (.ifCond .eq off, 3)) (ht : (pc : Int) + off = (tgt : Int)) (kt : ¬ P → mj_W G X cells slots tgt lv r w) (kf : P → mj_W G X cells slots (pc + 3) lv r w) : mj_W G X cells slots pc lv (.int (if P then 1 else 0) :: r) w :=
  mj_ifeq hB hd ht (fun h => kt (fun p => by rw [if_pos p] at h; exact absurd h (by decide))) (fun h => kf (Decidable.byContradiction fun p => h (if_neg p)))
theorem mj_ifneB {G : mj_G} {X : mj_X} {M : mj_Y} {cells slots pc : Nat} {lv : mj_L} {r : List Value} {w : mj_M} (hB : mj_B G X M) {P : Prop} [Decidable P] {off : Int} {tgt : Nat} (hd : decode M.2.2.1 pc = .ok (.ifCond .ne off, 3)) (ht : (pc : Int) + off = (tgt : Int)) (kt : P → mj_W G X cells slots tgt lv r w) (kf : ¬ P → mj_W G X cells slots (pc + 3) lv r w) : mj_W G X cells slots pc lv (.int (if P then 1 else 0) :: r) w :=
  mj_ifne hB hd ht (fun h => kt (Decidable.byContradiction fun p => h (if_neg p))) (fun h => kf (fun p => by rw [if_pos p] at h; exact absurd h (by decide)))
end
section
/-! calls: the callee's places are renamed (ρ); what it doesn't hold stays -/
def mj_ff : List (Nat × Nat) → Nat → Nat
  | [], _ => 0
  | (j, v) :: l, i => bif Nat.beq j i then v else mj_ff l i
def mj_rk {β : Type} : List (Nat × Nat) → Nat → (Nat → Option β) → Option β
  | [], _, _ => none
  | (j, v) :: l, i, k => bif Nat.beq j i then k v else mj_rk l i k
theorem mj_rk_or {β : Type} (ρ : List (Nat × Nat)) (i : Nat) : (∀ k : Nat → Option β, mj_rk ρ i k = none) ∨ ∀ k : Nat → Option β, mj_rk ρ i k = k (mj_ff ρ i) := by
  induction ρ with
  | nil => exact Or.inl fun _ => rfl
  | cons q l ih =>
    obtain ⟨qi, qv⟩ := q
    by_cases h : qi = i
    · subst h
      exact Or.inr fun k => by simp only [mj_rk, mj_ff, mj_bq, cond_true]
    · rcases ih with ih | ih
      · exact Or.inl fun k => by rw [← ih k]; simp only [mj_rk, mj_bn h, cond_false]
      · exact Or.inr fun k => by
          have h2 : mj_ff ((qi, qv) :: l) i = mj_ff l i := by simp only [mj_ff, mj_bn h, cond_false]
          rw [h2, ← ih k]
          simp only [mj_rk, mj_bn h, cond_false]
def mj_rv {β : Type} (ρ : List (Nat × Nat)) (v : Value) (k : Value → Option β) : Option β := match v with
  | .ref a => mj_rk ρ a (fun b => k (.ref b))
  | .int x => k (.int x)
  | .long x => k (.long x)
  | .null => k .null
  | _ => none
theorem mj_rv_or {β : Type} (ρ : List (Nat × Nat)) (v : Value) : (∀ k : Value → Option β, mj_rv ρ v k = none) ∨ ∀ k : Value → Option β, mj_rv ρ v k = k (mj_v (mj_ff ρ) v) := by
  cases v with
  | ref a =>
    rcases mj_rk_or (β := β) ρ a with h | h
    · exact Or.inl fun k => h _
    · exact Or.inr fun k => h _
  | int x => exact Or.inr fun _ => rfl
  | long x => exact Or.inr fun _ => rfl
  | null => exact Or.inr fun _ => rfl
  | _ => exact Or.inl fun _ => rfl
def mj_rl {β : Type} (ρ : List (Nat × Nat)) : List Value → (List Value → Option β) → Option β
  | [], k => k []
  | v :: l, k => mj_rv ρ v (fun v' => mj_rl ρ l (fun l' => k (v' :: l')))
theorem mj_rl_or {β : Type} (ρ : List (Nat × Nat)) (l : List Value) : (∀ k : List Value → Option β, mj_rl ρ l k = none) ∨ ∀ k : List Value → Option β, mj_rl ρ l k = k (l.map (mj_v (mj_ff ρ))) := by
  induction l with
  | nil => exact Or.inr fun _ => rfl
  | cons v l ih =>
    rcases mj_rv_or (β := β) ρ v with h | h
    · exact Or.inl fun k => h _
    · rcases ih with ih | ih
      · exact Or.inl fun k => (h _).trans (ih _)
      · exact Or.inr fun k => (h _).trans (ih _)
def mj_ro {β : Type} (ρ : List (Nat × Nat)) : List (Option Nat) → (List (Option Nat) → Option β) → Option β
  | [], k => k []
  | none :: l, k => mj_ro ρ l (fun l' => k (none :: l'))
  | some a :: l, k => mj_rk ρ a (fun b => mj_ro ρ l (fun l' => k (some b :: l')))
theorem mj_ro_or {β : Type} (ρ : List (Nat × Nat)) (l : List (Option Nat)) : (∀ k : List (Option Nat) → Option β, mj_ro ρ l k = none) ∨ ∀ k : List (Option Nat) → Option β, mj_ro ρ l k = k (l.map (Option.map (mj_ff ρ))) := by
  induction l with
  | nil => exact Or.inr fun _ => rfl
  | cons v l ih =>
    cases v with
    | none =>
      rcases ih with ih | ih
      · exact Or.inl fun k => ih _
      · exact Or.inr fun k => ih _
    | some a =>
      rcases mj_rk_or (β := β) ρ a with h | h
      · exact Or.inl fun k => h _
      · rcases ih with ih | ih
        · exact Or.inl fun k => (h _).trans (ih _)
        · exact Or.inr fun k => (h _).trans (ih _)
/-- a cell renamed -/
def mj_cr (g : Nat → Nat) : mj_C → mj_C
  | .inl (t, n, .inl f) => .inl (t, n, .inl f)
  | .inl (t, n, .inr (.inl f)) => .inl (t, n, .inr (.inl f))
  | .inl (t, n, .inr (.inr l)) => .inl (t, n, .inr (.inr (l.map (Option.map g))))
  | .inr (c, fs) => .inr (c, fs.map (mj_v g))
def mj_wr (g : Nat → Nat) (w : mj_M) : mj_M := w.map (fun q => (g q.1, mj_cr g q.2))
def mj_rc {β : Type} (ρ : List (Nat × Nat)) (e : mj_C) (k : mj_C → Option β) : Option β := match e with
  | .inl (t, n, .inl f) => k (.inl (t, n, .inl f))
  | .inl (t, n, .inr (.inl f)) => k (.inl (t, n, .inr (.inl f)))
  | .inl (t, n, .inr (.inr l)) => mj_ro ρ l (fun l' => k (.inl (t, n, .inr (.inr l'))))
  | .inr (c, fs) => mj_rl ρ fs (fun fs' => k (.inr (c, fs')))
theorem mj_rc_or {β : Type} (ρ : List (Nat × Nat)) (e : mj_C) : (∀ k : mj_C → Option β, mj_rc ρ e k = none) ∨ ∀ k : mj_C → Option β, mj_rc ρ e k = k (mj_cr (mj_ff ρ) e) := by
  rcases e with ⟨t, n, f | f | f⟩ | ⟨c, fs⟩
  · exact Or.inr fun _ => rfl
  · exact Or.inr fun _ => rfl
  · rcases mj_ro_or (β := β) ρ f with h | h
    · exact Or.inl fun k => h _
    · exact Or.inr fun k => h _
  · rcases mj_rl_or (β := β) ρ fs with h | h
    · exact Or.inl fun k => h _
    · exact Or.inr fun k => h _
def mj_rw {β : Type} (ρ : List (Nat × Nat)) : mj_M → (mj_M → Option β) → Option β
  | [], k => k []
  | (j, d) :: w, k => mj_rk ρ j (fun i => mj_rc ρ d (fun e => mj_rw ρ w (fun w' => k ((i, e) :: w'))))
theorem mj_rw_or {β : Type} (ρ : List (Nat × Nat)) (w : mj_M) : (∀ k : mj_M → Option β, mj_rw ρ w k = none) ∨ ∀ k : mj_M → Option β, mj_rw ρ w k = k (mj_wr (mj_ff ρ) w) := by
  induction w with
  | nil => exact Or.inr fun _ => rfl
  | cons q w ih =>
    obtain ⟨qi, qd⟩ := q
    rcases mj_rk_or (β := β) ρ qi with h | h
    · exact Or.inl fun k => h _
    · rcases mj_rc_or (β := β) ρ qd with h2 | h2
      · exact Or.inl fun k => (h _).trans (h2 _)
      · rcases ih with ih | ih
        · exact Or.inl fun k => (h _).trans ((h2 _).trans (ih _))
        · exact Or.inr fun k => (h _).trans ((h2 _).trans (ih _))
theorem mj_rw_eq {ρ : List (Nat × Nat)} {w w' : mj_M} (h : mj_rw ρ w some = some w') : mj_wr (mj_ff ρ) w = w' := by
  rcases mj_rw_or (β := mj_M) ρ w with h1 | h1
  · rw [h1] at h
    cases h
  · rw [h1] at h
    exact Option.some.inj h
theorem mj_v_v (ad g : Nat → Nat) (v : Value) : mj_v ad (mj_v g v) = mj_v (fun q => ad (g q)) v := by cases v <;> rfl
theorem mj_e_cr (ad g : Nat → Nat) (cA : Nat → ClassId) (e : mj_C) : mj_e ad cA (mj_cr g e) = mj_e (fun q => ad (g q)) cA e := by
  rcases e with ⟨t, n, f | f | f⟩ | ⟨c, fs⟩
  · rfl
  · rfl
  · show (Sum.inl (cA t, n, .inr (.inr (.inr (.inr (fun j => ((f.map (Option.map g)).getD j none).map ad))))) : va_E) = .inl (cA t, n, .inr (.inr (.inr (.inr (fun j => (f.getD j none).map (fun q => ad (g q)))))))
    have hfun : (fun j => ((f.map (Option.map g)).getD j none).map ad) = (fun j => (f.getD j none).map (fun q => ad (g q))) := by
      funext j
      simp only [List.getD_eq_getElem?_getD, List.getElem?_map]
      cases f[j]? with
      | none => rfl
      | some o => cases o <;> rfl
    rw [hfun]
  · show (Sum.inr (c, (fs.map (mj_v g)).map (mj_v ad)) : va_E) = .inr (c, fs.map (mj_v (fun q => ad (g q))))
    rw [List.map_map]
    congr 2
    apply List.map_congr_left
    intro v _
    exact mj_v_v ad g v
theorem mj_w_wr (ad g : Nat → Nat) (cA : Nat → ClassId) (w : mj_M) : mj_w ad cA (mj_wr g w) = mj_w (fun q => ad (g q)) cA w := by
  unfold mj_w mj_wr
  rw [List.map_map]
  apply List.map_congr_left
  intro q _
  show (ad (g q.1), mj_e ad cA (mj_cr g q.2)) = _
  rw [mj_e_cr]
/-- the callee's cells among the caller's -/
def mj_sl {β : Type} (w : mj_M) : List Nat → (mj_M → Option β) → Option β
  | [], k => k []
  | i :: is, k => mj_lk w i (fun e => mj_sl w is (fun l => k ((i, e) :: l)))
theorem mj_sl_or {β : Type} (w : mj_M) (is : List Nat) : (∀ k : mj_M → Option β, mj_sl w is k = none) ∨ ∃ l : mj_M, (∀ k : mj_M → Option β, mj_sl w is k = k l) ∧ ∀ q ∈ l, q ∈ w := by
  induction is with
  | nil => exact Or.inr ⟨[], fun _ => rfl, fun q h => by cases h⟩
  | cons i is ih =>
    rcases mj_lk_or (β := β) w i with h | ⟨v, q0, h, hq⟩
    · exact Or.inl fun k => h _
    · rcases ih with ih | ⟨l, ih, hl⟩
      · exact Or.inl fun k => (h _).trans (ih _)
      · refine Or.inr ⟨(i, v) :: l, fun k => (h _).trans (ih _), fun q hq2 => ?_⟩
        rcases List.mem_cons.mp hq2 with rfl | h3
        · exact List.mem_of_getElem? hq
        · exact hl q h3
def mj_ct (ρ : List (Nat × Nat)) (wc w : mj_M) : Option (mj_M × mj_M) := mj_rw ρ wc (fun w1 => mj_sl w (w1.map Prod.fst) (fun w3 => some (w1, w3)))
theorem mj_ct_in {ρ : List (Nat × Nat)} {wc w wx : mj_M} (h : mj_ct ρ wc w = some (wx, wx)) : wx = mj_wr (mj_ff ρ) wc ∧ ∀ q ∈ mj_wr (mj_ff ρ) wc, q ∈ w := by
  unfold mj_ct at h
  rcases mj_rw_or (β := mj_M × mj_M) ρ wc with h1 | h1
  · rw [h1] at h; cases h
  · rw [h1] at h
    rcases mj_sl_or (β := mj_M × mj_M) w ((mj_wr (mj_ff ρ) wc).map Prod.fst) with h2 | ⟨l, h2, h3⟩
    · rw [h2] at h; cases h
    · rw [h2] at h
      obtain ⟨h4, h5⟩ := Prod.mk.inj (Option.some.inj h)
      refine ⟨h4.symm, fun q hq => h3 q ?_⟩
      rw [h5, ← h4]
      exact hq
/-- what came back, laid over what was there -/
def mj_ld {β : Type} : mj_M → Nat → mj_C → (mj_C → Option β) → Option β
  | [], _, d, k => k d
  | (j, v) :: l, i, d, k => bif Nat.beq j i then k v else mj_ld l i d k
def mj_ul {β : Type} (w1 : mj_M) : mj_M → (mj_M → Option β) → Option β
  | [], k => k []
  | (i, d) :: w, k => mj_ld w1 i d (fun e => mj_ul w1 w (fun l => k ((i, e) :: l)))
theorem mj_ld_or {β : Type} (w1 : mj_M) (i : Nat) (d : mj_C) : ∃ e : mj_C, (∀ k : mj_C → Option β, mj_ld w1 i d k = k e) ∧ ((i, e) ∈ w1 ∨ (e = d ∧ ∀ q ∈ w1, q.1 ≠ i)) := by
  induction w1 with
  | nil => exact ⟨d, fun _ => rfl, Or.inr ⟨rfl, fun q h => by cases h⟩⟩
  | cons q l ih =>
    obtain ⟨qi, qv⟩ := q
    by_cases h : qi = i
    · subst h
      exact ⟨qv, fun k => by simp only [mj_ld, mj_bq, cond_true], Or.inl List.mem_cons_self⟩
    · obtain ⟨e, h1, h2⟩ := ih
      refine ⟨e, fun k => by rw [← h1 k]; simp only [mj_ld, mj_bn h, cond_false], ?_⟩
      rcases h2 with h2 | ⟨h2, h3⟩
      · exact Or.inl (List.mem_cons_of_mem _ h2)
      · refine Or.inr ⟨h2, fun z hz => ?_⟩
        rcases List.mem_cons.mp hz with rfl | hz
        · exact h
        · exact h3 z hz
theorem mj_ul_or {β : Type} (w1 : mj_M) (w : mj_M) : ∃ w2 : mj_M, (∀ k : mj_M → Option β, mj_ul w1 w k = k w2) ∧ w2.map Prod.fst = w.map Prod.fst ∧ ∀ q ∈ w2, q ∈ w1 ∨ (q ∈ w ∧ ∀ z ∈ w1, z.1 ≠ q.1) := by
  induction w with
  | nil => exact ⟨[], fun _ => rfl, rfl, fun q h => by cases h⟩
  | cons q w ih =>
    obtain ⟨e, h1, h2⟩ := mj_ld_or (β := β) w1 q.1 q.2
    obtain ⟨w2, h3, h4, h5⟩ := ih
    obtain ⟨qi, qd⟩ := q
    refine ⟨(qi, e) :: w2, fun k => (h1 _).trans (h3 _), by rw [List.map_cons, List.map_cons, h4], fun z hz => ?_⟩
    rcases List.mem_cons.mp hz with rfl | hz
    · rcases h2 with h2 | ⟨h2, h6⟩
      · exact Or.inl h2
      · refine Or.inr ⟨?_, h6⟩
        rw [h2]
        exact List.mem_cons_self
    · rcases h5 z hz with h | ⟨h, h6⟩
      · exact Or.inl h
      · exact Or.inr ⟨List.mem_cons_of_mem _ h, h6⟩
theorem mj_D_keys {A : Nat → Prop} {ad : Nat → Nat} {cA : Nat → ClassId} {w w2 : mj_M} (h : w2.map Prod.fst = w.map Prod.fst) (hD : va_D A (mj_w ad cA w)) : va_D A (mj_w ad cA w2) := by
  have hk : ∀ (k : Nat) (q : Nat × va_E), (mj_w ad cA w2)[k]? = some q → ∃ q' : Nat × va_E, (mj_w ad cA w)[k]? = some q' ∧ q'.1 = q.1 := by
    intro k q hq
    have h1 : (w2.map Prod.fst)[k]? = (w.map Prod.fst)[k]? := by rw [h]
    rw [List.getElem?_map, List.getElem?_map] at h1
    unfold mj_w at hq ⊢
    rw [List.getElem?_map] at hq
    cases h2 : w2[k]? with
    | none => rw [h2] at hq; cases hq
    | some z =>
      rw [h2] at hq h1
      cases h3 : w[k]? with
      | none => rw [h3] at h1; cases h1
      | some y =>
        rw [h3] at h1
        have h4 : z.1 = y.1 := Option.some.inj h1
        have h5 : (ad z.1, mj_e ad cA z.2) = q := Option.some.inj hq
        refine ⟨(ad y.1, mj_e ad cA y.2), by rw [List.getElem?_map, h3]; rfl, ?_⟩
        rw [← h5, h4]
  refine ⟨fun i j p q hp hq hpq => ?_, fun k q hq => ?_⟩
  · obtain ⟨p', h1, h2⟩ := hk i p hp
    obtain ⟨q', h3, h4⟩ := hk j q hq
    exact hD.1 i j p' q' h1 h3 (by rw [h2, h4, hpq])
  · obtain ⟨q', h1, h2⟩ := hk k q hq
    rw [← h2]
    exact hD.2 k q' h1
theorem mj_in_at {ad : Nat → Nat} {cA : Nat → ClassId} {w : mj_M} {q : Nat × mj_C} (h : q ∈ w) : ∃ k : Nat, (mj_w ad cA w)[k]? = some (ad q.1, mj_e ad cA q.2) ∧ w[k]? = some q := by
  obtain ⟨k, hk⟩ := List.getElem?_of_mem h
  exact ⟨k, by simp [mj_w, List.getElem?_map, hk], hk⟩
theorem mj_join0 {A : Nat → Prop} {D : va_G} {cl : List vw_C} {ad : Nat → Nat} {cA : Nat → ClassId} {w w1c w1 w2 : mj_M} {H H1 : Heap} (hP : va_P D cl (mj_w ad cA w) H) (hD : va_D A (mj_w ad cA w)) (hin : ∀ q ∈ w1c, q ∈ w) (hkeys : w1.map Prod.fst = w1c.map Prod.fst) (h2 : ∀ q ∈ w2, q ∈ w1 ∨ (q ∈ w ∧ ∀ z ∈ w1, z.1 ≠ q.1))
    (hP1 : va_P D cl (mj_w ad cA w1) H1) (hk : ∀ q : Nat, q < H.size → ¬ va_A (mj_w ad cA w1c) H.size q → H1[q]? = H[q]?) : va_P D cl (mj_w ad cA w2) H1 := by
  intro k q hq
  unfold mj_w at hq
  rw [List.getElem?_map] at hq
  cases hz : w2[k]? with
  | none => rw [hz] at hq; cases hq
  | some z =>
    rw [hz] at hq
    have hq : (ad z.1, mj_e ad cA z.2) = q := Option.some.inj hq
    subst hq
    rcases h2 z (List.mem_of_getElem? hz) with h | ⟨h, hne⟩
    · obtain ⟨k1, hk1, -⟩ := mj_in_at (ad := ad) (cA := cA) h
      exact hP1 k1 _ hk1
    · obtain ⟨kz, hkz, hwz⟩ := mj_in_at (ad := ad) (cA := cA) h
      have hat := hP kz _ hkz
      refine hat.kept (hk _ hat.lt ?_)
      rintro (⟨ky, ey, hy⟩ | hy)
      · unfold mj_w at hy
        rw [List.getElem?_map] at hy
        cases hyy : w1c[ky]? with
        | none => rw [hyy] at hy; cases hy
        | some y =>
          rw [hyy] at hy
          have hy : (ad y.1, mj_e ad cA y.2) = (ad z.1, ey) := Option.some.inj hy
          have hy1 : ad y.1 = ad z.1 := (Prod.mk.inj hy).1
          have hym := List.mem_of_getElem? hyy
          obtain ⟨kyw, hkyw, hwy⟩ := mj_in_at (ad := ad) (cA := cA) (hin y hym)
          have := hD.1 kyw kz _ _ hkyw hkz hy1
          subst this
          have hyz : y = z := Option.some.inj (hwy.symm.trans hwz)
          subst hyz
          have hmem : y.1 ∈ w1.map Prod.fst := by
            rw [hkeys]
            exact List.mem_map.mpr ⟨y, hym, rfl⟩
          obtain ⟨x, hx, hx1⟩ := List.mem_map.mp hmem
          exact hne x hx hx1
      · exact absurd hat.lt (Nat.not_lt.mpr hy)
def mj_app {β : Type} : List Value → List Value → (List Value → Option β) → Option β
  | [], r, k => k r
  | v :: l, r, k => mj_app l r (fun l' => k (v :: l'))
theorem mj_app_eq {β : Type} (l r : List Value) (k : List Value → Option β) : mj_app l r k = k (l ++ r) := by
  induction l generalizing k with
  | nil => rfl
  | cons v l ih => simp only [mj_app, ih, List.cons_append]
def mj_fin (ρ : List (Nat × Nat)) (r : Option Value) (w' w : mj_M) (rest : List Value) : Option (List Value × mj_M) :=
  mj_rl ρ r.toList (fun rs => mj_rw ρ w' (fun w1 => mj_ul w1 w (fun w2 => mj_app rs rest (fun st2 => some (st2, w2)))))
theorem mj_fin_eq {ρ : List (Nat × Nat)} {r : Option Value} {w' w : mj_M} {rest st2 : List Value} {w2 : mj_M} (h : mj_fin ρ r w' w rest = some (st2, w2)) :
    st2 = r.toList.map (mj_v (mj_ff ρ)) ++ rest ∧ w2.map Prod.fst = w.map Prod.fst ∧ ∀ q ∈ w2, q ∈ mj_wr (mj_ff ρ) w' ∨ (q ∈ w ∧ ∀ z ∈ mj_wr (mj_ff ρ) w', z.1 ≠ q.1) := by
  unfold mj_fin at h
  rcases mj_rl_or (β := List Value × mj_M) ρ r.toList with h1 | h1
  · rw [h1] at h
    cases h
  · rw [h1] at h
    rcases mj_rw_or (β := List Value × mj_M) ρ w' with h2 | h2
    · rw [h2] at h
      cases h
    · rw [h2] at h
      obtain ⟨w3, h3, h4, h5⟩ := mj_ul_or (β := List Value × mj_M) (mj_wr (mj_ff ρ) w') w
      rw [h3, mj_app_eq] at h
      have h := Option.some.inj h
      obtain ⟨h6, h7⟩ := Prod.mk.inj h
      subst h6 h7
      exact ⟨rfl, h4, h5⟩
/-- behind a call that makes nothing -/
theorem mj_after {p : Program} {l : Launch} {e : Env} {R : Room} {s : State} {m : MethodId} {args : Array Value} {below : List Frame} {meth : Method} {c : Code} {H : Heap} {locs : List Loc} {cells slots mcc msc pc : Nat} {Q : State → Prop} {ls : Array Slot} {rest st0 : List Value} {a : Array Value} {A : Nat → Prop} {G : mj_G} {D : va_G} {cA : Nat → ClassId} {ad : Nat → Nat} {ρ : List (Nat × Nat)} {w wc : mj_M} {postc : mj_R}
    (hr : va_Run p l e R s m args below meth c H locs cells slots mcc msc (F0 m pc ls st0) (rest.map (mj_v ad)) (mj_Q G D cA (va_A (mj_w (fun q => ad (mj_ff ρ q)) cA wc) H.size) (fun q => ad (mj_ff ρ q)) (fun _ => True) postc a) (va_A (mj_w (fun q => ad (mj_ff ρ q)) cA wc) H.size))
    (hS : va_S A s.heap H locs) (hP : va_P D G.1 (mj_w ad cA w) H) (hD : va_D A (mj_w ad cA w)) (hA : ∀ q, s.heap.size ≤ q → A q) (hin : ∀ q ∈ mj_wr (mj_ff ρ) wc, q ∈ w)
    (kk : ∀ (r : Option Value) (w' : mj_M), postc r w' → ∃ (st2 : List Value) (w2 : mj_M), mj_fin ρ r w' w rest = some (st2, w2) ∧ w'.map Prod.fst = wc.map Prod.fst ∧
      ∀ (H1 : Heap) (locs1 : List Loc), va_P D G.1 (mj_w ad cA w2) H1 → va_D A (mj_w ad cA w2) → va_S A s.heap H1 locs1 → W p l e R s m args below meth c H1 locs1 (cells + mcc) (slots + msc) Q (F0 m (pc + 3) ls (st2.map (mj_v ad)))) : W p l e R s m args below meth c H locs cells slots Q (F0 m pc ls st0) := by
  have hw1 := mj_w_wr ad (mj_ff ρ) cA wc
  have hAA : ∀ q, va_A (mj_w (fun q => ad (mj_ff ρ q)) cA wc) H.size q → A q := by
    rintro q (⟨k, e1, hk⟩ | hk)
    · rw [← hw1] at hk
      unfold mj_w at hk
      rw [List.getElem?_map] at hk
      cases hz : (mj_wr (mj_ff ρ) wc)[k]? with
      | none => rw [hz] at hk; cases hk
      | some z =>
        rw [hz] at hk
        have hk : (ad z.1, mj_e ad cA z.2) = (q, e1) := Option.some.inj hk
        obtain ⟨kz, hkz, -⟩ := mj_in_at (ad := ad) (cA := cA) (hin z (List.mem_of_getElem? hz))
        have := hD.2 kz _ hkz
        rw [← (Prod.mk.inj hk).1]
        exact this
    · exact hA q (Nat.le_trans hS.1 hk)
  intro T hT X
  obtain ⟨v, st₀, t, T', L, h0, X', hL, e1, e2, ⟨⟨r, w', ad', had, hpost, hoc, hP1, -, -⟩, hz, hk⟩, st⟩ := hr T hT X
  have hade : ad' = fun q => ad (mj_ff ρ q) := funext fun q => had q trivial
  subst hade
  injection hoc with hoc
  subst hoc
  rw [h0] at hz hk
  obtain ⟨st2, w2, hf, hkeys, kk⟩ := kk r w' hpost
  obtain ⟨hst2, hkw, h2⟩ := mj_fin_eq hf
  have hP2 : va_P D G.1 (mj_w ad cA w2) T'.heap := by
    refine mj_join0 hP hD hin (w1 := mj_wr (mj_ff ρ) w') ?_ h2 ?_ ?_
    · unfold mj_wr
      rw [List.map_map, List.map_map]
      have hcomp : (Prod.fst ∘ fun q : Nat × mj_C => (mj_ff ρ q.1, mj_cr (mj_ff ρ) q.2)) = (mj_ff ρ) ∘ Prod.fst := rfl
      rw [hcomp, ← List.map_map, ← List.map_map, hkeys]
    · rw [mj_w_wr, e1]
      exact hP1
    · intro q h1 h3
      rw [hw1] at h3
      rw [e1]
      exact hk q h1 h3
  obtain ⟨t2, a1, b1⟩ := kk T'.heap (locs ++ L) hP2 (mj_D_keys hkw hD)
    ⟨Nat.le_trans hS.1 (by rw [e1]; exact hz), fun q h1 h3 => by rw [e1, hk q (Nat.lt_of_lt_of_le h1 hS.1) (fun z => h3 (hAA q z))]; exact hS.2.1 q h1 h3, fun q hq => by
      rcases List.mem_append.mp hq with h | h
      · exact hS.2.2 q h
      · exact hAA _ (hL q h)⟩ T' rfl X'
  refine ⟨t2, st t2 ?_, b1⟩
  have hstk : (r.map (mj_v fun q => ad (mj_ff ρ q))).toList ++ rest.map (mj_v ad) = st2.map (mj_v ad) := by
    rw [hst2, List.map_append]
    congr 1
    cases r with
    | none => rfl
    | some x =>
      show [mj_v (fun q => ad (mj_ff ρ q)) x] = [mj_v ad (mj_v (mj_ff ρ) x)]
      rw [mj_v_v]
  rw [hstk]
  exact a1
/-- what the tables must say of a method that is called -/
def mj_VW (G : mj_G) (Y : mj_N) (n : Nat) : Prop := Cond.instanceMethod Y.1 ∈ G.2.1 ∧ Cond.selects Y.1.cls Y.1 Y.1 ∈ G.2.1 ∧ Cond.initialized Y.1.cls ∈ G.2.1 ∧ Cond.code Y.1 Y.2.1 Y.2.2.1 Y.2.2.2 ∈ G.2.1 ∧ Y.1.cls ≠ "java/lang/invoke/MethodHandle" ∧ Y.1.cls ≠ "java/lang/invoke/VarHandle" ∧ (parseMethodDescriptor Y.1.desc).map (fun d => d.parameters.length) = some n
def mj_SW (G : mj_G) (Y : mj_N) (n : Nat) : Prop := Cond.static Y.1 ∈ G.2.1 ∧ Cond.initialized Y.1.cls ∈ G.2.1 ∧ Cond.code Y.1 Y.2.1 Y.2.2.1 Y.2.2.2 ∈ G.2.1 ∧ Y.1.cls ≠ "java/lang/invoke/MethodHandle" ∧ Y.1.cls ≠ "java/lang/invoke/VarHandle" ∧ (parseMethodDescriptor Y.1.desc).map (fun d => d.parameters.length) = some n
theorem mj_pre_blind {G : mj_G} {D : va_G} {cA : Nat → ClassId} {av : List Value} {sz : Nat} {W0 : va_W} : FrameBlind (va_Pc av (fun U => U.heap.size = sz ∧ va_P D G.1 W0 U.heap ∧ va_K D G.1 (mj_tys cA G.2.2) U ∧ va_D (fun _ => True) W0)) := by
  intro a U g mk q
  obtain ⟨q0, q1, qP, qK, qD⟩ := q
  exact ⟨q0, q1, qP, va_K.moved (u := U) (U := U.calling g mk a) (Vm.Alike.refl U.vm) qK, qD⟩
theorem mj_P_in {D : va_G} {cl : List vw_C} {ad : Nat → Nat} {cA : Nat → ClassId} {w w1 : mj_M} {H : Heap} (hP : va_P D cl (mj_w ad cA w) H) (hin : ∀ q ∈ w1, q ∈ w) : va_P D cl (mj_w ad cA w1) H := by
  intro k q hq
  unfold mj_w at hq
  rw [List.getElem?_map] at hq
  cases hz : w1[k]? with
  | none => rw [hz] at hq; cases hq
  | some z =>
    rw [hz] at hq
    have hq : (ad z.1, mj_e ad cA z.2) = q := Option.some.inj hq
    subst hq
    obtain ⟨kz, hkz, -⟩ := mj_in_at (ad := ad) (cA := cA) (hin z (List.mem_of_getElem? hz))
    exact hP kz _ hkz
theorem mj_D_in {A : Nat → Prop} {ad : Nat → Nat} {cA : Nat → ClassId} {w w1 : mj_M} (hD : va_D A (mj_w ad cA w)) (hin : ∀ q ∈ w1, q ∈ w) (hn : va_nd (w1.map Prod.fst) = true) : va_D A (mj_w ad cA w1) := by
  have key : ∀ (k : Nat) (q : Nat × va_E), (mj_w ad cA w1)[k]? = some q → ∃ z : Nat × mj_C, w1[k]? = some z ∧ q = (ad z.1, mj_e ad cA z.2) := by
    intro k q hq
    unfold mj_w at hq
    rw [List.getElem?_map] at hq
    cases hz : w1[k]? with
    | none => rw [hz] at hq; cases hq
    | some z =>
      rw [hz] at hq
      exact ⟨z, rfl, (Option.some.inj hq).symm⟩
  refine ⟨fun i j p q hp hq hpq => ?_, fun k q hq => ?_⟩
  · obtain ⟨y, hy, rfl⟩ := key i p hp
    obtain ⟨z, hz, rfl⟩ := key j q hq
    obtain ⟨ky, hky, hwy⟩ := mj_in_at (ad := ad) (cA := cA) (hin y (List.mem_of_getElem? hy))
    obtain ⟨kz, hkz, hwz⟩ := mj_in_at (ad := ad) (cA := cA) (hin z (List.mem_of_getElem? hz))
    have := hD.1 ky kz _ _ hky hkz hpq
    subst this
    have hyz : y = z := Option.some.inj (hwy.symm.trans hwz)
    subst hyz
    exact va_nd_inj _ hn i j y.1 (by rw [List.getElem?_map, hy]; rfl) (by rw [List.getElem?_map, hz]; rfl)
  · obtain ⟨z, hz, rfl⟩ := key k q hq
    obtain ⟨kz, hkz, -⟩ := mj_in_at (ad := ad) (cA := cA) (hin z (List.mem_of_getElem? hz))
    exact hD.2 kz _ hkz
theorem mj_rl_eq {ρ : List (Nat × Nat)} {l l2 : List Value} (h : mj_rl ρ l some = some l2) : l2 = l.map (mj_v (mj_ff ρ)) := by
  rcases mj_rl_or (β := List Value) ρ l with h1 | h1
  · rw [h1] at h; cases h
  · rw [h1] at h; exact (Option.some.inj h).symm
theorem mj_gin {G : mj_G} (hg : GoodIn G.2.1 G.2.1) {L : List Cond} (h : ∀ w ∈ L, w ∈ G.2.1) : GoodIn G.2.1 L := fun w hw => ⟨h w hw, (hg w (h w hw)).2⟩
theorem mj_k {G : mj_G} {X : mj_X} {cells slots pc : Nat} {lv : mj_L} {ρ : List (Nat × Nat)} {r : Option Value} {w' wc w w2 : mj_M} {rest st2 : List Value} (h1 : mj_fin ρ r w' w rest = some (st2, w2)) (h2 : w'.map Prod.fst = wc.map Prod.fst) (h3 : mj_W G X cells slots pc lv st2 w2) :
    ∃ (st2 : List Value) (w2 : mj_M), mj_fin ρ r w' w rest = some (st2, w2) ∧ w'.map Prod.fst = wc.map Prod.fst ∧ mj_W G X cells slots pc lv st2 w2 := ⟨st2, w2, h1, h2, h3⟩
section MJC
variable {G : mj_G} {X : mj_X} {l : Launch} {D : va_G} {cA : Nat → ClassId} {Y : mj_N} {fr lo mc ms : Nat} {kp : Nat → Prop} {post : mj_R} {cells slots pc : Nat} {lv : mj_L} {st : List Value} {w : mj_M}
theorem mj_callV (h : mj_E G X l D cA Y fr lo mc ms kp post) (hg : GoodIn G.2.1 G.2.1) {Yc : mj_N} {frc loc mcc msc n index : Nat} {As : List Value} {a0 : Nat} {wc : mj_M} {postc : mj_R} (hev : mj_Ev G l D cA Yc frc loc mcc msc (.ref a0 :: As) wc (fun _ => True) postc) (hvw : mj_VW G Yc n)
    (hlink : Cond.methodLink Y.1.cls index Yc.1 ∈ G.2.1) (hd : decode Y.2.1 pc = .ok (.invokevirtual index, 3)) (hn : As.length = n) (hroom : frc + 1 ≤ fr ∧ 8 + (Yc.2.2.1 + 11) + loc ≤ lo) (hcells : cells + mcc ≤ mc ∧ slots + msc ≤ ms)
    (ρ : List (Nat × Nat)) {wx : mj_M} {rest as2 : List Value} {ci : Nat} {fs : List Value} {T : u_T} {N : Nat} (hrec : mj_lk wc a0 some = some (.inr (ci, fs))) (hci : G.1[ci]? = some (Yc.1.cls, T, N))
    (hsub : mj_ct ρ wc w = some (wx, wx)) (hnd : va_nd (wx.map Prod.fst) = true) (hargs : mj_rl ρ (.ref a0 :: As) some = some as2) (hst : st = as2.reverse ++ rest) (hrr : (rest.map fun v => v.category).sum ≤ 8)
    (kk : ∀ (r : Option Value) (w' : mj_M), postc r w' → ∃ (st2 : List Value) (w2 : mj_M), mj_fin ρ r w' w rest = some (st2, w2) ∧ w'.map Prod.fst = wc.map Prod.fst ∧ mj_W G X (cells + mcc) (slots + msc) (pc + 3) lv st2 w2) : mj_W G X cells slots pc lv st w := by
  obtain ⟨p, l', e, R, s, m, args, below, meth, c, Q, D', cA', A, ad0, kp', nL⟩ := X
  obtain ⟨hB, rfl, rfl, rfl, rfl, hR1, hR2, hR3, hR4, hQ, hr, hlk⟩ := h
  intro ad H locs ls h0 hP hD hS hl
  obtain ⟨hv1, hv2, hv3, hv4, hv5, hv6, hv7⟩ := hvw
  obtain ⟨hwx, hin⟩ := mj_ct_in hsub
  rw [hwx] at hnd
  have hargs2 := mj_rl_eq hargs
  have hWc := mj_w_wr ad (mj_ff ρ) cA' wc
  have hPc : va_P D' G.1 (mj_w (fun q => ad (mj_ff ρ q)) cA' wc) H := by
    rw [← hWc]
    exact mj_P_in hP hin
  have hDc : va_D (fun _ => True) (mj_w (fun q => ad (mj_ff ρ q)) cA' wc) := by
    rw [← hWc]
    exact (mj_D_in hD hin hnd).weaken (fun _ _ _ _ => trivial)
  obtain ⟨q0, hq0⟩ : ∃ q0 : Nat, wc[q0]? = some (a0, (Sum.inr (ci, fs) : mj_C)) := by
    rcases mj_lk_or (β := mj_C) wc a0 with h1 | ⟨v, q0, h1, h2⟩
    · rw [h1] at hrec; cases hrec
    · rw [h1] at hrec
      exact ⟨q0, by rw [h2, Option.some.inj hrec]⟩
  have hgood : GoodIn G.2.1 (wsV Y.1.cls index Yc.1.cls Yc.1 (Cond.code Yc.1 Yc.2.1 Yc.2.2.1 Yc.2.2.2 :: G.2.1)) := by
    refine mj_gin hg (fun x hx => ?_)
    unfold wsV at hx
    rcases List.mem_append.mp hx with hx | hx
    · simp only [List.mem_cons, List.not_mem_nil, or_false] at hx
      rcases hx with rfl | rfl | rfl | rfl
      · exact hlink
      · exact hv1
      · exact hv2
      · exact hv3
    · rcases List.mem_cons.mp hx with rfl | hx
      · exact hv4
      · exact hx
  have hrun := va_runV (C := Yc.1.cls) (b := ad (mj_ff ρ a0)) (As := As.map (mj_v fun q => ad (mj_ff ρ q))) (rest := rest.map (mj_v ad)) (g := F0 m pc ls (st.map (mj_v ad))) (cells := cells) (slots := slots) (locs := locs) (below := below) (meth := meth) (e := e) (H := H)
    ⟨hB.1, hB.2.1, hB.2.2.1, hB.2.2.2.2.1, hB.2.2.2.2.2.1⟩ (hev (fun q => ad (mj_ff ρ q)) H.size)
    (cwV (R := R) n hB.2.2.2.2.2.1 hgood rfl rfl rfl ⟨rfl, hv5, hv6, hv7⟩ ⟨by rw [hR1]; exact hroom.1, by rw [hR4]; exact hroom.2⟩)
    ⟨mj_pre_blind, va_recv hB.2.2.2.2.2.2.1 hPc hci (mj_w_at hq0), fun U hU hW => ⟨rfl, by rw [hU], by rw [hU]; exact hPc, va_K.moved hW.alike hB.2.2.2.2.2.2.1, hDc⟩⟩
    rfl (by rw [List.length_map]; exact hn) hl.1 (by
      show st.map (mj_v ad) = _
      have e9 : as2.map (mj_v ad) = (Value.ref a0 :: As).map (mj_v fun q => ad (mj_ff ρ q)) := by
        rw [hargs2, List.map_map]
        exact List.map_congr_left (fun v _ => mj_v_v ad (mj_ff ρ) v)
      rw [hst, List.map_append, List.map_reverse, e9, List.map_cons, List.reverse_cons, List.append_assoc]
      rfl) (lv_room (by simpa [Function.comp_def, mj_v_cat] using hrr)) hd ⟨by rw [hR2]; exact hcells.1, by rw [hR3]; exact hcells.2⟩
  refine mj_after (ρ := ρ) (w := w) (wc := wc) (postc := postc) hrun hS hP hD hB.2.2.2.2.2.2.2.1 hin (fun r w' hp => ?_)
  obtain ⟨st2, w2, h1, h2, k⟩ := kk r w' hp
  exact ⟨st2, w2, h1, h2, fun H1 locs1 hP1 hD1 hS1 => k ad H1 locs1 ls h0 hP1 hD1 hS1 hl⟩
theorem mj_callS (h : mj_E G X l D cA Y fr lo mc ms kp post) (hg : GoodIn G.2.1 G.2.1) {Yc : mj_N} {frc loc mcc msc n index : Nat} {As : List Value} {wc : mj_M} {postc : mj_R} (hev : mj_Ev G l D cA Yc frc loc mcc msc As wc (fun _ => True) postc) (hvw : mj_SW G Yc n) (hcls : Yc.1.cls = Y.1.cls)
    (hlink : Cond.methodLink Y.1.cls index Yc.1 ∈ G.2.1) (hd : decode Y.2.1 pc = .ok (.invokestatic index, 3)) (hn : As.length = n) (hroom : frc + 1 ≤ fr ∧ 8 + (Yc.2.2.1 + 11) + loc ≤ lo) (hcells : cells + mcc ≤ mc ∧ slots + msc ≤ ms)
    (ρ : List (Nat × Nat)) {wx : mj_M} {rest as2 : List Value}
    (hsub : mj_ct ρ wc w = some (wx, wx)) (hnd : va_nd (wx.map Prod.fst) = true) (hargs : mj_rl ρ As some = some as2) (hst : st = as2.reverse ++ rest) (hrr : (rest.map fun v => v.category).sum ≤ 8)
    (kk : ∀ (r : Option Value) (w' : mj_M), postc r w' → ∃ (st2 : List Value) (w2 : mj_M), mj_fin ρ r w' w rest = some (st2, w2) ∧ w'.map Prod.fst = wc.map Prod.fst ∧ mj_W G X (cells + mcc) (slots + msc) (pc + 3) lv st2 w2) : mj_W G X cells slots pc lv st w := by
  obtain ⟨p, l', e, R, s, m, args, below, meth, c, Q, D', cA', A, ad0, kp', nL⟩ := X
  obtain ⟨hB, rfl, rfl, rfl, rfl, hR1, hR2, hR3, hR4, hQ, hr, hlk⟩ := h
  intro ad H locs ls h0 hP hD hS hl
  obtain ⟨hv1, hv3, hv4, hv5, hv6, hv7⟩ := hvw
  obtain ⟨hwx, hin⟩ := mj_ct_in hsub
  rw [hwx] at hnd
  have hargs2 := mj_rl_eq hargs
  have hWc := mj_w_wr ad (mj_ff ρ) cA' wc
  have hPc : va_P D' G.1 (mj_w (fun q => ad (mj_ff ρ q)) cA' wc) H := by
    rw [← hWc]
    exact mj_P_in hP hin
  have hDc : va_D (fun _ => True) (mj_w (fun q => ad (mj_ff ρ q)) cA' wc) := by
    rw [← hWc]
    exact (mj_D_in hD hin hnd).weaken (fun _ _ _ _ => trivial)
  have hgood : GoodIn G.2.1 (wsS Y.1.cls index Yc.1 (Cond.code Yc.1 Yc.2.1 Yc.2.2.1 Yc.2.2.2 :: G.2.1)) := by
    refine mj_gin hg (fun x hx => ?_)
    unfold wsS at hx
    rcases List.mem_append.mp hx with hx | hx
    · simp only [List.mem_cons, List.not_mem_nil, or_false] at hx
      rcases hx with rfl | rfl | rfl
      · exact hlink
      · exact hv1
      · rw [← hcls]
        exact hv3
    · rcases List.mem_cons.mp hx with rfl | hx
      · exact hv4
      · exact hx
  have hrun := va_runS (As := As.map (mj_v fun q => ad (mj_ff ρ q))) (rest := rest.map (mj_v ad)) (g := F0 m pc ls (st.map (mj_v ad))) (cells := cells) (slots := slots) (locs := locs) (below := below) (meth := meth) (e := e) (H := H)
    ⟨hB.1, hB.2.1, hB.2.2.1, hB.2.2.2.2.1, hB.2.2.2.2.2.1⟩ (hev (fun q => ad (mj_ff ρ q)) H.size)
    (cwS (R := R) n hB.2.2.2.2.2.1 hgood rfl rfl rfl ⟨hcls, hv5, hv6, hv7⟩ ⟨by rw [hR1]; exact hroom.1, by rw [hR4]; exact hroom.2⟩)
    ⟨mj_pre_blind, fun U hU hW => ⟨rfl, by rw [hU], by rw [hU]; exact hPc, va_K.moved hW.alike hB.2.2.2.2.2.2.1, hDc⟩⟩
    rfl (by rw [List.length_map]; exact hn) hl.1 (by
      show st.map (mj_v ad) = _
      have e9 : as2.map (mj_v ad) = As.map (mj_v fun q => ad (mj_ff ρ q)) := by
        rw [hargs2, List.map_map]
        exact List.map_congr_left (fun v _ => mj_v_v ad (mj_ff ρ) v)
      rw [hst, List.map_append, List.map_reverse, e9]) (lv_room (by simpa [Function.comp_def, mj_v_cat] using hrr)) hd ⟨by rw [hR2]; exact hcells.1, by rw [hR3]; exact hcells.2⟩
  refine mj_after (ρ := ρ) (w := w) (wc := wc) (postc := postc) hrun hS hP hD hB.2.2.2.2.2.2.2.1 hin (fun r w' hp => ?_)
  obtain ⟨st2, w2, h1, h2, k⟩ := kk r w' hp
  exact ⟨st2, w2, h1, h2, fun H1 locs1 hP1 hD1 hS1 => k ad H1 locs1 ls h0 hP1 hD1 hS1 hl⟩
theorem mj_min (h : mj_E G X l D cA Y fr lo mc ms kp post) {index : Nat} {x y : Int32} {rest : List Value} (h1 : Cond.methodLink Y.1.cls index Lib.Math.min.name ∈ G.2.1) (h2 : Cond.static Lib.Math.min.name ∈ G.2.1) (h3 : Cond.initialized "java/lang/Math" ∈ G.2.1) (h4 : Cond.code Lib.Math.min.name Lib.Math.min.code 2 (some .int) ∈ G.2.1) (hfr : 1 ≤ fr) (hlo : (rest.map fun v => v.category).sum + 13 ≤ lo) (hc : cells ≤ mc) (hs : slots ≤ ms) (hd : decode Y.2.1 pc = .ok (.invokestatic index, 3))
    (kk : mj_W G X cells slots (pc + 3) lv (.int (if y < x then y else x) :: rest) w) : mj_W G X cells slots pc lv (.int y :: .int x :: rest) w := by
  obtain ⟨p, l', e, R, s, m, args, below, meth, c, Q, D', cA', A, ad0, kp', nL⟩ := X
  obtain ⟨hB, rfl, rfl, rfl, rfl, hR1, hR2, hR3, hR4, hQ, hr, hlk⟩ := h
  intro ad H locs ls h0 hP hD hS hl
  exact va_mmin hB.1 hB.2.1 (hB.2.2.1.trans hl.1.symm) hB.2.2.2.2.1 (hB.2.2.2.2.2.1 _ h1) (hB.2.2.2.2.2.1 _ h2) (hB.2.2.2.2.2.1 _ h3) (hB.2.2.2.2.2.1 _ h4) (by rw [hR1]; exact hfr) (by rw [hR4]; simpa [Function.comp_def, mj_v_cat] using hlo) (by rw [hR2]; exact hc) (by rw [hR3]; exact hs) hd (kk ad H locs ls h0 hP hD hS hl)
theorem mj_max (h : mj_E G X l D cA Y fr lo mc ms kp post) {index : Nat} {x y : Int32} {rest : List Value} (h1 : Cond.methodLink Y.1.cls index Lib.Math.max.name ∈ G.2.1) (h2 : Cond.static Lib.Math.max.name ∈ G.2.1) (h3 : Cond.initialized "java/lang/Math" ∈ G.2.1) (h4 : Cond.code Lib.Math.max.name Lib.Math.max.code 2 (some .int) ∈ G.2.1) (hfr : 1 ≤ fr) (hlo : (rest.map fun v => v.category).sum + 13 ≤ lo) (hc : cells ≤ mc) (hs : slots ≤ ms) (hd : decode Y.2.1 pc = .ok (.invokestatic index, 3))
    (kk : mj_W G X cells slots (pc + 3) lv (.int (if x < y then y else x) :: rest) w) : mj_W G X cells slots pc lv (.int y :: .int x :: rest) w := by
  obtain ⟨p, l', e, R, s, m, args, below, meth, c, Q, D', cA', A, ad0, kp', nL⟩ := X
  obtain ⟨hB, rfl, rfl, rfl, rfl, hR1, hR2, hR3, hR4, hQ, hr, hlk⟩ := h
  intro ad H locs ls h0 hP hD hS hl
  exact va_mmax hB.1 hB.2.1 (hB.2.2.1.trans hl.1.symm) hB.2.2.2.2.1 (hB.2.2.2.2.2.1 _ h1) (hB.2.2.2.2.2.1 _ h2) (hB.2.2.2.2.2.1 _ h3) (hB.2.2.2.2.2.1 _ h4) (by rw [hR1]; exact hfr) (by rw [hR4]; simpa [Function.comp_def, mj_v_cat] using hlo) (by rw [hR2]; exact hc) (by rw [hR3]; exact hs) hd (kk ad H locs ls h0 hP hD hS hl)
end MJC
/-! making cells -/
def mj_nv (pn : Nat) : Value → Prop
  | .ref a => a ≠ pn
  | _ => True
def mj_nc (pn : Nat) : mj_C → Prop
  | .inl (_, _, .inl _) => True
  | .inl (_, _, .inr (.inl _)) => True
  | .inl (_, _, .inr (.inr l)) => some pn ∉ l
  | .inr (_, fs) => ∀ v ∈ fs, mj_nv pn v
def mj_nw (pn : Nat) (w : mj_M) : Prop := ∀ q ∈ w, q.1 ≠ pn ∧ mj_nc pn q.2
def mj_nl (pn : Nat) (lv : mj_L) : Prop := ∀ q ∈ lv, mj_nv pn q.2
def mj_ns2 (pn : Nat) (st : List Value) : Prop := ∀ v ∈ st, mj_nv pn v
def mj_au (ad : Nat → Nat) (pn q : Nat) : Nat → Nat := fun i => if i = pn then q else ad i
theorem mj_au_v {ad : Nat → Nat} {pn q : Nat} {v : Value} (h : mj_nv pn v) : mj_v (mj_au ad pn q) v = mj_v ad v := by
  cases v with
  | ref a =>
    show Value.ref (if a = pn then q else ad a) = .ref (ad a)
    rw [if_neg h]
  | _ => rfl
theorem mj_au_e {ad : Nat → Nat} {pn q : Nat} {cA : Nat → ClassId} {e : mj_C} (h : mj_nc pn e) : mj_e (mj_au ad pn q) cA e = mj_e ad cA e := by
  rcases e with ⟨t, n, f | f | f⟩ | ⟨c, fs⟩
  · rfl
  · rfl
  · show (Sum.inl (cA t, n, .inr (.inr (.inr (.inr (fun j => (f.getD j none).map (mj_au ad pn q)))))) : va_E) = .inl (cA t, n, .inr (.inr (.inr (.inr (fun j => (f.getD j none).map ad)))))
    have hfun : (fun j => (f.getD j none).map (mj_au ad pn q)) = (fun j => (f.getD j none).map ad) := by
     funext j
     cases hj : f.getD j none with
     | none => rfl
     | some a =>
       have hm : some a ∈ f := by
         rw [List.getD_eq_getElem?_getD] at hj
         cases h2 : f[j]? with
         | none => rw [h2] at hj; cases hj
         | some o =>
           rw [h2] at hj
           have hj : o = some a := hj
           rw [← hj]
           exact List.mem_of_getElem? h2
       have hne : a ≠ pn := fun h3 => h (h3 ▸ hm)
       show some (if a = pn then q else ad a) = some (ad a)
       rw [if_neg hne]
    rw [hfun]
  · show (Sum.inr (c, fs.map (mj_v (mj_au ad pn q))) : va_E) = .inr (c, fs.map (mj_v ad))
    congr 2
    apply List.map_congr_left
    intro v hv
    exact mj_au_v (h v hv)
theorem mj_au_w {ad : Nat → Nat} {pn q : Nat} {cA : Nat → ClassId} {w : mj_M} (h : mj_nw pn w) : mj_w (mj_au ad pn q) cA w = mj_w ad cA w := by
  unfold mj_w
  apply List.map_congr_left
  intro z hz
  show (mj_au ad pn q z.1, mj_e (mj_au ad pn q) cA z.2) = _
  rw [mj_au_e (h z hz).2]
  show ((if z.1 = pn then q else ad z.1), _) = _
  rw [if_neg (h z hz).1]
theorem mj_au_l {ad : Nat → Nat} {pn q : Nat} {lv : mj_L} (h : mj_nl pn lv) : mj_l (mj_au ad pn q) lv = mj_l ad lv := by
  unfold mj_l
  apply List.map_congr_left
  intro z hz
  rw [mj_au_v (h z hz)]
theorem mj_au_s {ad : Nat → Nat} {pn q : Nat} {st : List Value} (h : mj_ns2 pn st) : st.map (mj_v (mj_au ad pn q)) = st.map (mj_v ad) := by
  apply List.map_congr_left
  intro z hz
  exact mj_au_v (h z hz)
def mj_sn {β : Type} : mj_M → (Nat × mj_C) → (mj_M → Option β) → Option β
  | [], x, k => k [x]
  | q :: w, x, k => mj_sn w x (fun l => k (q :: l))
theorem mj_sn_eq {β : Type} (w : mj_M) (x : Nat × mj_C) (k : mj_M → Option β) : mj_sn w x k = k (w ++ [x]) := by
  induction w generalizing k with
  | nil => rfl
  | cons q w ih => simp only [mj_sn, ih, List.cons_append]
def mj_il : (Nat → Int32) ⊕ (Nat → Int64) → (Nat → Int32) ⊕ (Nat → Int64) ⊕ List (Option Nat)
  | .inl f => .inl f
  | .inr f => .inr (.inl f)
def mj_va (n : Nat) : (Nat → Int32) ⊕ (Nat → Int64) → vp_A
  | .inl f => (n, .inl f)
  | .inr f => (n, .inr (.inl f))
section MJA
variable {G : mj_G} {X : mj_X} {M : mj_Y} {cells slots pc : Nat} {lv : mj_L} {st : List Value} {w w2 : mj_M}
/-- X's room and what it keeps -/
def mj_Rm (X : mj_X) (mc ms : Nat) (kp : Nat → Prop) : Prop := X.2.2.2.1.cells = mc ∧ X.2.2.2.1.slots = ms ∧ X.2.2.2.2.2.2.2.2.2.2.2.2.2.2.2.1 = kp
theorem mj_new (hB : mj_B G X M) {mc ms : Nat} {kp : Nat → Prop} (hX : mj_Rm X mc ms kp) {C0 : String} {T : u_T} {N index ci : Nat} {ty0 : Nat → FieldType} {fs : List Value} (hc : G.1[ci]? = some (C0, T, N)) (hin : ∀ w ∈ u_ws C0 T N, w ∈ G.2.1) (hty : ∀ k, k < N → parseFieldDescriptor (T k).2.2.1 = some (ty0 k)) (h1 : Cond.classLink M.1 index C0 ∈ G.2.1) (h2 : Cond.instantiable C0 N ∈ G.2.1) (h3 : Cond.initialized C0 ∈ G.2.1) (hfs : ∀ j, j < N → defaultValue (ty0 j) = vp_V fs j) (hnr : ∀ ad : Nat → Nat, fs.map (mj_v ad) = fs)
    (hd : decode M.2.2.1 pc = .ok (.new index, 3)) (hcells : cells + 1 ≤ mc) (hslots : slots + N ≤ ms) (pn : Nat) (hkp : ¬ kp pn) (hf : mj_nw pn w ∧ mj_nl pn lv ∧ mj_ns2 pn st) (hw2 : mj_sn w (pn, .inr (ci, fs)) some = some w2)
    (kk : mj_W G X (cells + 1) (slots + N) (pc + 3) lv (.ref pn :: st) w2) : mj_W G X cells slots pc lv st w := by
  obtain ⟨p, l, e, R, s, m, args, below, meth, c, Q, D, cA, A, ad0, kp', nL⟩ := X
  obtain ⟨hx1, hx2, hx3⟩ := hX
  have hx1 : R.cells = mc := hx1
  have hx2 : R.slots = ms := hx2
  have hx3 : kp' = kp := hx3
  subst hx3
  intro ad H locs ls h0 hP hD hS hl
  rw [mj_sn_eq] at hw2
  have hw2 := Option.some.inj hw2
  subst hw2
  refine va_new (ci := ci) (fs := fs) (C := C0) (T := T) (N := N) hB.1 hB.2.1 hB.2.2.2.2.2.1 hin ty0 hty hB.2.2.2.2.1 (hB.2.2.2.2.2.1 _ h1) (hB.2.2.2.2.2.1 _ h2) (hB.2.2.2.2.2.1 _ h3) hB.2.2.2.2.2.2.1 hP hD hS hB.2.2.2.2.2.2.2.1 hc hfs (by rw [hx1]; exact hcells) (by rw [hx2]; exact hslots) hd (fun q H1 hP1 hD1 hS1 => ?_)
  have e1 : mj_w (mj_au ad pn q) cA (w ++ [(pn, .inr (ci, fs))]) = mj_w ad cA w ++ [(q, .inr (ci, fs))] := by
    have e2 : mj_w (mj_au ad pn q) cA (w ++ [(pn, .inr (ci, fs))]) = mj_w (mj_au ad pn q) cA w ++ [(mj_au ad pn q pn, .inr (ci, fs.map (mj_v (mj_au ad pn q))))] := by
      unfold mj_w
      rw [List.map_append]
      rfl
    rw [e2, mj_au_w hf.1, hnr]
    show mj_w ad cA w ++ [((if pn = pn then q else ad pn), _)] = _
    rw [if_pos rfl]
  have k2 := kk (mj_au ad pn q) H1 locs ls (fun z hz => by
    show (if z = pn then q else ad z) = ad0 z
    rw [if_neg (show ¬ z = pn from fun h => hkp (h ▸ hz))]
    exact h0 z hz) (by rw [e1]; exact hP1) (by rw [e1]; exact hD1) hS1 (by rw [mj_au_l hf.2.1]; exact hl)
  have e3 : (Value.ref pn :: st).map (mj_v (mj_au ad pn q)) = .ref q :: st.map (mj_v ad) := by
    rw [List.map_cons, mj_au_s hf.2.2]
    show Value.ref (if pn = pn then q else ad pn) :: _ = _
    rw [if_pos rfl]
  rw [e3] at k2
  exact k2
theorem mj_newa (hB : mj_B G X M) {mc ms : Nat} {kp : Nat → Prop} (hX : mj_Rm X mc ms kp) {atype : ArrayType} {ty : FieldType} {t N' : Nat} {n : Int32} {f : (Nat → Int32) ⊕ (Nat → Int64)} (harr : Cond.arrayClass (newarray.typeOf atype) ∈ G.2.1) (hty : newarray.typeOf atype = ty) (hG : G.2.2[t]? = some ty) (hRA : ∀ (U : State) (cA : ClassId), va_RA U cA ty → U.vm.findClass ("[" ++ ty.toString) = some cA)
    (ha : ∀ cB : ClassId, vp_cell cB (mj_va N' f) = arrV cB N' (fun _ => defaultValue ty)) (hn : ¬ n < 0) (hN : n.toNatClampNeg = N') (hbytes : N' * componentBytes ty ≤ 536870912)
    (hd : decode M.2.2.1 pc = .ok (.newarray atype, 2)) (hcells : cells + 1 ≤ mc) (hslots : slots + N' ≤ ms) (pn : Nat) (hkp : ¬ kp pn) (hf : mj_nw pn w ∧ mj_nl pn lv ∧ mj_ns2 pn st) (hw2 : mj_sn w (pn, .inl (t, N', mj_il f)) some = some w2)
    (kk : mj_W G X (cells + 1) (slots + N') (pc + 2) lv (.ref pn :: st) w2) : mj_W G X cells slots pc lv (.int n :: st) w := by
  obtain ⟨p, l, e, R, s, m, args, below, meth, c, Q, D, cA, A, ad0, kp', nL⟩ := X
  obtain ⟨hx1, hx2, hx3⟩ := hX
  have hx1 : R.cells = mc := hx1
  have hx2 : R.slots = ms := hx2
  have hx3 : kp' = kp := hx3
  subst hx3
  intro ad H locs ls h0 hP hD hS hl
  rw [mj_sn_eq] at hw2
  have hw2 := Option.some.inj hw2
  subst hw2
  refine va_newa hB.1 hB.2.1 (hB.2.2.2.2.2.1 _ harr) hty hB.2.2.2.2.2.2.1 hP hD hS hB.2.2.2.2.2.2.2.1 ha hn hN hbytes (by rw [hx1]; exact hcells) (by rw [hx2]; exact hslots) hd (fun q cB H1 hK1 hP1 hD1 hS1 => ?_)
  have hcB : cB = cA t := by
    have r1 := hRA _ _ (hK1.2 (mj_tys cA G.2.2).length (cB, ty) (by simp)).2
    have r2 := hRA _ _ (hB.2.2.2.2.2.2.1.2 t (cA t, ty) (mj_tys_at hG)).2
    exact Option.some.inj (r1.symm.trans r2)
  subst hcB
  have hnc : ∀ ad : Nat → Nat, mj_e ad cA (.inl (t, N', mj_il f)) = .inl (cA t, mj_va N' f) := by
    intro ad
    rcases f with f | f <;> rfl
  have e1 : mj_w (mj_au ad pn q) cA (w ++ [(pn, .inl (t, N', mj_il f))]) = mj_w ad cA w ++ [(q, .inl (cA t, mj_va N' f))] := by
    have e2 : mj_w (mj_au ad pn q) cA (w ++ [(pn, .inl (t, N', mj_il f))]) = mj_w (mj_au ad pn q) cA w ++ [(mj_au ad pn q pn, mj_e (mj_au ad pn q) cA (.inl (t, N', mj_il f)))] := by
      unfold mj_w
      rw [List.map_append]
      rfl
    rw [e2, mj_au_w hf.1, hnc]
    show mj_w ad cA w ++ [((if pn = pn then q else ad pn), _)] = _
    rw [if_pos rfl]
  have k2 := kk (mj_au ad pn q) H1 locs ls (fun z hz => by
    show (if z = pn then q else ad z) = ad0 z
    rw [if_neg (show ¬ z = pn from fun h => hkp (h ▸ hz))]
    exact h0 z hz) (by rw [e1]; exact hP1) (by rw [e1]; exact hD1) hS1 (by rw [mj_au_l hf.2.1]; exact hl)
  have e3 : (Value.ref pn :: st).map (mj_v (mj_au ad pn q)) = .ref q :: st.map (mj_v ad) := by
    rw [List.map_cons, mj_au_s hf.2.2]
    show Value.ref (if pn = pn then q else ad pn) :: _ = _
    rw [if_pos rfl]
  rw [e3] at k2
  exact k2
end MJA
end
section
/-! names of classes, fields, words; by program (wip/whole/gen.py) -/
def zTb : List Cond := lw_tbl.filter goodWord
theorem zin1 {w : Cond} (h : w ∈ tables_1_1) (hg : goodWord w = true) : w ∈ zTb := List.mem_filter.mpr ⟨List.mem_append_right _ (show w ∈ tables_1_1 ++ (tables_1_2 ++ (tables_1_3 ++ (tables_1_4 ++ (tables_1_5)))) from List.mem_append_left _ h), hg⟩
theorem zin2 {w : Cond} (h : w ∈ tables_1_2) (hg : goodWord w = true) : w ∈ zTb := List.mem_filter.mpr ⟨List.mem_append_right _ (show w ∈ tables_1_1 ++ (tables_1_2 ++ (tables_1_3 ++ (tables_1_4 ++ (tables_1_5)))) from List.mem_append_right _ (List.mem_append_left _ h)), hg⟩
theorem zin3 {w : Cond} (h : w ∈ tables_1_3) (hg : goodWord w = true) : w ∈ zTb := List.mem_filter.mpr ⟨List.mem_append_right _ (show w ∈ tables_1_1 ++ (tables_1_2 ++ (tables_1_3 ++ (tables_1_4 ++ (tables_1_5)))) from List.mem_append_right _ (List.mem_append_right _ (List.mem_append_left _ h))), hg⟩
theorem zin4 {w : Cond} (h : w ∈ tables_1_4) (hg : goodWord w = true) : w ∈ zTb := List.mem_filter.mpr ⟨List.mem_append_right _ (show w ∈ tables_1_1 ++ (tables_1_2 ++ (tables_1_3 ++ (tables_1_4 ++ (tables_1_5)))) from List.mem_append_right _ (List.mem_append_right _ (List.mem_append_right _ (List.mem_append_left _ h)))), hg⟩
theorem zin5 {w : Cond} (h : w ∈ tables_1_5) (hg : goodWord w = true) : w ∈ zTb := List.mem_filter.mpr ⟨List.mem_append_right _ (show w ∈ tables_1_1 ++ (tables_1_2 ++ (tables_1_3 ++ (tables_1_4 ++ (tables_1_5)))) from List.mem_append_right _ (List.mem_append_right _ (List.mem_append_right _ (List.mem_append_right _ (h))))), hg⟩
theorem zinP {q : MethodName × Nat} (h : q ∈ lw_privs) : Cond.selects q.1.cls q.1 q.1 ∈ zTb := List.mem_filter.mpr ⟨List.mem_append_left _ (List.mem_map.mpr ⟨q, h, rfl⟩), rfl⟩
theorem zGood : GoodIn zTb zTb := fun w h => ⟨h, good_of_word (List.mem_filter.mp h).2⟩
theorem z1_0 : Cond.initialized "StreamWatchLaw" ∈ zTb := zin1 (List.mem_of_getElem? (i := 0) rfl) rfl
theorem z1_1 : Cond.initialized "StreamWatch" ∈ zTb := zin1 (List.mem_of_getElem? (i := 1) rfl) rfl
theorem z1_2 : Cond.initialized "StreamWatch$Wire" ∈ zTb := zin1 (List.mem_of_getElem? (i := 2) rfl) rfl
theorem z1_3 : Cond.initialized "StreamWatch$Packet" ∈ zTb := zin1 (List.mem_of_getElem? (i := 3) rfl) rfl
theorem z1_4 : Cond.initialized "StreamWatch$FlowTable" ∈ zTb := zin1 (List.mem_of_getElem? (i := 4) rfl) rfl
theorem z1_5 : Cond.initialized "StreamWatch$Flow" ∈ zTb := zin1 (List.mem_of_getElem? (i := 5) rfl) rfl
theorem z1_6 : Cond.initialized "StreamWatch$Stream" ∈ zTb := zin1 (List.mem_of_getElem? (i := 6) rfl) rfl
theorem z1_7 : Cond.initialized "StreamWatch$Search" ∈ zTb := zin1 (List.mem_of_getElem? (i := 7) rfl) rfl
theorem z1_8 : Cond.initialized "StreamWatch$Marks" ∈ zTb := zin1 (List.mem_of_getElem? (i := 8) rfl) rfl
theorem z1_9 : Cond.initialized "StreamWatch$AlertLog" ∈ zTb := zin1 (List.mem_of_getElem? (i := 9) rfl) rfl
theorem z1_10 : Cond.initialized "StreamWatchModel" ∈ zTb := zin1 (List.mem_of_getElem? (i := 10) rfl) rfl
theorem z1_11 : Cond.initialized "java/lang/Throwable" ∈ zTb := zin1 (List.mem_of_getElem? (i := 11) rfl) rfl
theorem z1_12 : Cond.initialized "java/lang/Exception" ∈ zTb := zin1 (List.mem_of_getElem? (i := 12) rfl) rfl
theorem z1_13 : Cond.initialized "java/lang/RuntimeException" ∈ zTb := zin1 (List.mem_of_getElem? (i := 13) rfl) rfl
theorem z1_14 : Cond.initialized "java/lang/IllegalArgumentException" ∈ zTb := zin1 (List.mem_of_getElem? (i := 14) rfl) rfl
theorem z1_15 : Cond.initialized "java/lang/Math" ∈ zTb := zin1 (List.mem_of_getElem? (i := 15) rfl) rfl
theorem z1_16 : Cond.initialized "java/lang/IllegalStateException" ∈ zTb := zin1 (List.mem_of_getElem? (i := 16) rfl) rfl
theorem z1_17 : Cond.initialized "StreamWatch$Rule" ∈ zTb := zin1 (List.mem_of_getElem? (i := 17) rfl) rfl
theorem z1_18 : Cond.initialized "StreamWatch$Option" ∈ zTb := zin1 (List.mem_of_getElem? (i := 18) rfl) rfl
theorem z1_19 : Cond.classLink "StreamWatchLaw" 8 "StreamWatch" ∈ zTb := zin1 (List.mem_of_getElem? (i := 19) rfl) rfl
theorem z1_20 : Cond.instantiable "StreamWatch" 8 ∈ zTb := zin1 (List.mem_of_getElem? (i := 20) rfl) rfl
theorem z1_21 : Cond.methodLink "StreamWatchLaw" 31 ⟨"StreamWatch", "<init>", "(I)V"⟩ ∈ zTb := zin1 (List.mem_of_getElem? (i := 21) rfl) rfl
theorem z1_22 : Cond.instanceMethod ⟨"StreamWatch", "<init>", "(I)V"⟩ ∈ zTb := zin1 (List.mem_of_getElem? (i := 22) rfl) rfl
theorem z1_23 : Cond.code ⟨"StreamWatch", "<init>", "(I)V"⟩ prog_1_method_1_code 2 (Option.none : Option FieldType) ∈ zTb := zin1 (List.mem_of_getElem? (i := 23) rfl) rfl
theorem z1_24 : Cond.methodLink "StreamWatch" 1 ⟨"java/lang/Object", "<init>", "()V"⟩ ∈ zTb := zin1 (List.mem_of_getElem? (i := 24) rfl) rfl
theorem z1_25 : Cond.instanceMethod ⟨"java/lang/Object", "<init>", "()V"⟩ ∈ zTb := zin1 (List.mem_of_getElem? (i := 25) rfl) rfl
theorem z1_26 : Cond.code ⟨"java/lang/Object", "<init>", "()V"⟩ object_method_1_code 1 (Option.none : Option FieldType) ∈ zTb := zin1 (List.mem_of_getElem? (i := 26) rfl) rfl
theorem z1_27 : Cond.classLink "StreamWatch" 7 "StreamWatch$Wire" ∈ zTb := zin1 (List.mem_of_getElem? (i := 27) rfl) rfl
theorem z1_28 : Cond.instantiable "StreamWatch$Wire" 2 ∈ zTb := zin1 (List.mem_of_getElem? (i := 28) rfl) rfl
theorem z1_30 : Cond.instanceMethod ⟨"StreamWatch$Wire", "<init>", "()V"⟩ ∈ zTb := zin1 (List.mem_of_getElem? (i := 30) rfl) rfl
theorem z1_31 : Cond.code ⟨"StreamWatch$Wire", "<init>", "()V"⟩ prog_11_method_1_code 1 (Option.none : Option FieldType) ∈ zTb := zin1 (List.mem_of_getElem? (i := 31) rfl) rfl
theorem z1_32 : Cond.methodLink "StreamWatch$Wire" 1 ⟨"java/lang/Object", "<init>", "()V"⟩ ∈ zTb := zin1 (List.mem_of_getElem? (i := 32) rfl) rfl
theorem z1_33 : Cond.fieldLink "StreamWatch$Wire" 9 "StreamWatch$Wire" "bytes" "[I" ∈ zTb := zin1 (List.mem_of_getElem? (i := 33) rfl) rfl
theorem z1_34 : Cond.fieldLink "StreamWatch$Wire" 13 "StreamWatch$Wire" "count" "I" ∈ zTb := zin1 (List.mem_of_getElem? (i := 34) rfl) rfl
theorem z1_35 : Cond.laysFinal "StreamWatch$Wire" "StreamWatch$Wire" "bytes" "[I" ∈ zTb := zin1 (List.mem_of_getElem? (i := 35) rfl) rfl
theorem z1_37 : Cond.lays "StreamWatch$Wire" "StreamWatch$Wire" "count" "I" ∈ zTb := zin1 (List.mem_of_getElem? (i := 37) rfl) rfl
theorem z1_40 : Cond.arrayClass FieldType.int ∈ zTb := zin1 (List.mem_of_getElem? (i := 40) rfl) rfl
theorem z1_41 : Cond.classLink "StreamWatch" 16 "StreamWatch$Packet" ∈ zTb := zin1 (List.mem_of_getElem? (i := 41) rfl) rfl
theorem z1_42 : Cond.instantiable "StreamWatch$Packet" 8 ∈ zTb := zin1 (List.mem_of_getElem? (i := 42) rfl) rfl
theorem z1_44 : Cond.instanceMethod ⟨"StreamWatch$Packet", "<init>", "()V"⟩ ∈ zTb := zin1 (List.mem_of_getElem? (i := 44) rfl) rfl
theorem z1_45 : Cond.code ⟨"StreamWatch$Packet", "<init>", "()V"⟩ prog_7_method_1_code 1 (Option.none : Option FieldType) ∈ zTb := zin1 (List.mem_of_getElem? (i := 45) rfl) rfl
theorem z1_46 : Cond.methodLink "StreamWatch$Packet" 3 ⟨"java/lang/Object", "<init>", "()V"⟩ ∈ zTb := zin1 (List.mem_of_getElem? (i := 46) rfl) rfl
theorem z1_47 : Cond.fieldLink "StreamWatch$Packet" 9 "StreamWatch$Packet" "fromHost" "I" ∈ zTb := zin1 (List.mem_of_getElem? (i := 47) rfl) rfl
theorem z1_48 : Cond.fieldLink "StreamWatch$Flow" 41 "StreamWatch$Packet" "fromHost" "I" ∈ zTb := zin1 (List.mem_of_getElem? (i := 48) rfl) rfl
theorem z1_49 : Cond.fieldLink "StreamWatch$Packet" 15 "StreamWatch$Packet" "fromPort" "I" ∈ zTb := zin1 (List.mem_of_getElem? (i := 49) rfl) rfl
theorem z1_50 : Cond.fieldLink "StreamWatch$Flow" 46 "StreamWatch$Packet" "fromPort" "I" ∈ zTb := zin1 (List.mem_of_getElem? (i := 50) rfl) rfl
theorem z1_51 : Cond.fieldLink "StreamWatch$Packet" 18 "StreamWatch$Packet" "toHost" "I" ∈ zTb := zin1 (List.mem_of_getElem? (i := 51) rfl) rfl
theorem z1_52 : Cond.fieldLink "StreamWatch$Flow" 49 "StreamWatch$Packet" "toHost" "I" ∈ zTb := zin1 (List.mem_of_getElem? (i := 52) rfl) rfl
theorem z1_53 : Cond.fieldLink "StreamWatch$Packet" 21 "StreamWatch$Packet" "toPort" "I" ∈ zTb := zin1 (List.mem_of_getElem? (i := 53) rfl) rfl
theorem z1_54 : Cond.fieldLink "StreamWatch$Flow" 52 "StreamWatch$Packet" "toPort" "I" ∈ zTb := zin1 (List.mem_of_getElem? (i := 54) rfl) rfl
theorem z1_55 : Cond.fieldLink "StreamWatch$Packet" 24 "StreamWatch$Packet" "firstNumber" "I" ∈ zTb := zin1 (List.mem_of_getElem? (i := 55) rfl) rfl
theorem z1_56 : Cond.fieldLink "StreamWatch" 239 "StreamWatch$Packet" "firstNumber" "I" ∈ zTb := zin1 (List.mem_of_getElem? (i := 56) rfl) rfl
theorem z1_57 : Cond.fieldLink "StreamWatch$Packet" 27 "StreamWatch$Packet" "dataStart" "I" ∈ zTb := zin1 (List.mem_of_getElem? (i := 57) rfl) rfl
theorem z1_58 : Cond.fieldLink "StreamWatch" 269 "StreamWatch$Packet" "dataStart" "I" ∈ zTb := zin1 (List.mem_of_getElem? (i := 58) rfl) rfl
theorem z1_59 : Cond.fieldLink "StreamWatch$Packet" 30 "StreamWatch$Packet" "dataSize" "I" ∈ zTb := zin1 (List.mem_of_getElem? (i := 59) rfl) rfl
theorem z1_60 : Cond.fieldLink "StreamWatch" 260 "StreamWatch$Packet" "dataSize" "I" ∈ zTb := zin1 (List.mem_of_getElem? (i := 60) rfl) rfl
theorem z1_61 : Cond.fieldLink "StreamWatch$Packet" 33 "StreamWatch$Packet" "flags" "I" ∈ zTb := zin1 (List.mem_of_getElem? (i := 61) rfl) rfl
theorem z1_62 : Cond.lays "StreamWatch$Packet" "StreamWatch$Packet" "fromHost" "I" ∈ zTb := zin1 (List.mem_of_getElem? (i := 62) rfl) rfl
theorem z1_64 : Cond.lays "StreamWatch$Packet" "StreamWatch$Packet" "fromPort" "I" ∈ zTb := zin1 (List.mem_of_getElem? (i := 64) rfl) rfl
theorem z1_66 : Cond.lays "StreamWatch$Packet" "StreamWatch$Packet" "toHost" "I" ∈ zTb := zin1 (List.mem_of_getElem? (i := 66) rfl) rfl
theorem z1_68 : Cond.lays "StreamWatch$Packet" "StreamWatch$Packet" "toPort" "I" ∈ zTb := zin1 (List.mem_of_getElem? (i := 68) rfl) rfl
theorem z1_70 : Cond.lays "StreamWatch$Packet" "StreamWatch$Packet" "firstNumber" "I" ∈ zTb := zin1 (List.mem_of_getElem? (i := 70) rfl) rfl
theorem z1_72 : Cond.lays "StreamWatch$Packet" "StreamWatch$Packet" "dataStart" "I" ∈ zTb := zin1 (List.mem_of_getElem? (i := 72) rfl) rfl
theorem z1_74 : Cond.lays "StreamWatch$Packet" "StreamWatch$Packet" "dataSize" "I" ∈ zTb := zin1 (List.mem_of_getElem? (i := 74) rfl) rfl
theorem z1_76 : Cond.lays "StreamWatch$Packet" "StreamWatch$Packet" "flags" "I" ∈ zTb := zin1 (List.mem_of_getElem? (i := 76) rfl) rfl
theorem z1_79 : Cond.classLink "StreamWatch" 23 "StreamWatch$FlowTable" ∈ zTb := zin1 (List.mem_of_getElem? (i := 79) rfl) rfl
theorem z1_80 : Cond.instantiable "StreamWatch$FlowTable" 2 ∈ zTb := zin1 (List.mem_of_getElem? (i := 80) rfl) rfl
theorem z1_81 : Cond.methodLink "StreamWatch" 25 ⟨"StreamWatch$FlowTable", "<init>", "()V"⟩ ∈ zTb := zin1 (List.mem_of_getElem? (i := 81) rfl) rfl
theorem z1_82 : Cond.instanceMethod ⟨"StreamWatch$FlowTable", "<init>", "()V"⟩ ∈ zTb := zin1 (List.mem_of_getElem? (i := 82) rfl) rfl
theorem z1_83 : Cond.code ⟨"StreamWatch$FlowTable", "<init>", "()V"⟩ prog_4_method_1_code 2 (Option.none : Option FieldType) ∈ zTb := zin1 (List.mem_of_getElem? (i := 83) rfl) rfl
theorem z1_84 : Cond.methodLink "StreamWatch$FlowTable" 3 ⟨"java/lang/Object", "<init>", "()V"⟩ ∈ zTb := zin1 (List.mem_of_getElem? (i := 84) rfl) rfl
theorem z1_85 : Cond.classLink "StreamWatch$FlowTable" 11 "StreamWatch$Flow" ∈ zTb := zin1 (List.mem_of_getElem? (i := 85) rfl) rfl
theorem z1_87 : Cond.instantiable "StreamWatch$Flow" 8 ∈ zTb := zin1 (List.mem_of_getElem? (i := 87) rfl) rfl
theorem z1_89 : Cond.instanceMethod ⟨"StreamWatch$Flow", "<init>", "()V"⟩ ∈ zTb := zin1 (List.mem_of_getElem? (i := 89) rfl) rfl
theorem z1_90 : Cond.code ⟨"StreamWatch$Flow", "<init>", "()V"⟩ prog_3_method_1_code 1 (Option.none : Option FieldType) ∈ zTb := zin1 (List.mem_of_getElem? (i := 90) rfl) rfl
theorem z1_91 : Cond.methodLink "StreamWatch$Flow" 3 ⟨"java/lang/Object", "<init>", "()V"⟩ ∈ zTb := zin1 (List.mem_of_getElem? (i := 91) rfl) rfl
theorem z1_92 : Cond.classLink "StreamWatch$Flow" 27 "StreamWatch$Stream" ∈ zTb := zin1 (List.mem_of_getElem? (i := 92) rfl) rfl
theorem z1_93 : Cond.instantiable "StreamWatch$Stream" 8 ∈ zTb := zin1 (List.mem_of_getElem? (i := 93) rfl) rfl
theorem z1_94 : Cond.methodLink "StreamWatch$Flow" 29 ⟨"StreamWatch$Stream", "<init>", "()V"⟩ ∈ zTb := zin1 (List.mem_of_getElem? (i := 94) rfl) rfl
theorem z1_95 : Cond.instanceMethod ⟨"StreamWatch$Stream", "<init>", "()V"⟩ ∈ zTb := zin1 (List.mem_of_getElem? (i := 95) rfl) rfl
theorem z1_96 : Cond.code ⟨"StreamWatch$Stream", "<init>", "()V"⟩ prog_10_method_1_code 1 (Option.none : Option FieldType) ∈ zTb := zin1 (List.mem_of_getElem? (i := 96) rfl) rfl
theorem z1_97 : Cond.methodLink "StreamWatch$Stream" 3 ⟨"java/lang/Object", "<init>", "()V"⟩ ∈ zTb := zin1 (List.mem_of_getElem? (i := 97) rfl) rfl
theorem z1_98 : Cond.methodLink "StreamWatch$Stream" 38 ⟨"StreamWatch$Stream", "emptyWindow", "()V"⟩ ∈ zTb := zin1 (List.mem_of_getElem? (i := 98) rfl) rfl
theorem z1_100 : Cond.instanceMethod ⟨"StreamWatch$Stream", "emptyWindow", "()V"⟩ ∈ zTb := zin1 (List.mem_of_getElem? (i := 100) rfl) rfl
theorem z1_101 : Cond.code ⟨"StreamWatch$Stream", "emptyWindow", "()V"⟩ prog_10_method_15_code 2 (Option.none : Option FieldType) ∈ zTb := zin1 (List.mem_of_getElem? (i := 101) rfl) rfl
theorem z1_102 : Cond.fieldLink "StreamWatch$Stream" 9 "StreamWatch$Stream" "text" "[I" ∈ zTb := zin1 (List.mem_of_getElem? (i := 102) rfl) rfl
theorem z1_103 : Cond.fieldLink "StreamWatch$Stream" 15 "StreamWatch$Stream" "held" "[I" ∈ zTb := zin1 (List.mem_of_getElem? (i := 103) rfl) rfl
theorem z1_104 : Cond.fieldLink "StreamWatch$Stream" 18 "StreamWatch$Stream" "textSize" "I" ∈ zTb := zin1 (List.mem_of_getElem? (i := 104) rfl) rfl
theorem z1_105 : Cond.fieldLink "StreamWatch$Stream" 22 "StreamWatch$Stream" "heldSize" "I" ∈ zTb := zin1 (List.mem_of_getElem? (i := 105) rfl) rfl
theorem z1_106 : Cond.fieldLink "StreamWatch$Stream" 25 "StreamWatch$Stream" "next" "I" ∈ zTb := zin1 (List.mem_of_getElem? (i := 106) rfl) rfl
theorem z1_107 : Cond.fieldLink "StreamWatch$Stream" 28 "StreamWatch$Stream" "raisedRules" "I" ∈ zTb := zin1 (List.mem_of_getElem? (i := 107) rfl) rfl
theorem z1_108 : Cond.fieldLink "StreamWatch$Stream" 31 "StreamWatch$Stream" "begun" "Z" ∈ zTb := zin1 (List.mem_of_getElem? (i := 108) rfl) rfl
theorem z1_109 : Cond.fieldLink "StreamWatch$Stream" 35 "StreamWatch$Stream" "ended" "Z" ∈ zTb := zin1 (List.mem_of_getElem? (i := 109) rfl) rfl
theorem z1_110 : Cond.laysFinal "StreamWatch$Stream" "StreamWatch$Stream" "text" "[I" ∈ zTb := zin1 (List.mem_of_getElem? (i := 110) rfl) rfl
theorem z1_112 : Cond.laysFinal "StreamWatch$Stream" "StreamWatch$Stream" "held" "[I" ∈ zTb := zin1 (List.mem_of_getElem? (i := 112) rfl) rfl
theorem z1_114 : Cond.lays "StreamWatch$Stream" "StreamWatch$Stream" "textSize" "I" ∈ zTb := zin1 (List.mem_of_getElem? (i := 114) rfl) rfl
theorem z1_116 : Cond.lays "StreamWatch$Stream" "StreamWatch$Stream" "heldSize" "I" ∈ zTb := zin1 (List.mem_of_getElem? (i := 116) rfl) rfl
theorem z1_118 : Cond.lays "StreamWatch$Stream" "StreamWatch$Stream" "next" "I" ∈ zTb := zin1 (List.mem_of_getElem? (i := 118) rfl) rfl
theorem z1_120 : Cond.lays "StreamWatch$Stream" "StreamWatch$Stream" "raisedRules" "I" ∈ zTb := zin1 (List.mem_of_getElem? (i := 120) rfl) rfl
theorem z1_122 : Cond.lays "StreamWatch$Stream" "StreamWatch$Stream" "begun" "Z" ∈ zTb := zin1 (List.mem_of_getElem? (i := 122) rfl) rfl
theorem z1_124 : Cond.lays "StreamWatch$Stream" "StreamWatch$Stream" "ended" "Z" ∈ zTb := zin1 (List.mem_of_getElem? (i := 124) rfl) rfl
theorem z1_127 : Cond.fieldLink "StreamWatch$Flow" 9 "StreamWatch$Flow" "clientHost" "I" ∈ zTb := zin1 (List.mem_of_getElem? (i := 127) rfl) rfl
theorem z1_128 : Cond.fieldLink "StreamWatch" 180 "StreamWatch$Flow" "clientHost" "I" ∈ zTb := zin1 (List.mem_of_getElem? (i := 128) rfl) rfl
theorem z1_129 : Cond.fieldLink "StreamWatch$Flow" 15 "StreamWatch$Flow" "clientPort" "I" ∈ zTb := zin1 (List.mem_of_getElem? (i := 129) rfl) rfl
theorem z1_130 : Cond.fieldLink "StreamWatch" 183 "StreamWatch$Flow" "clientPort" "I" ∈ zTb := zin1 (List.mem_of_getElem? (i := 130) rfl) rfl
theorem z1_131 : Cond.fieldLink "StreamWatch$Flow" 18 "StreamWatch$Flow" "serverHost" "I" ∈ zTb := zin1 (List.mem_of_getElem? (i := 131) rfl) rfl
theorem z1_132 : Cond.fieldLink "StreamWatch" 186 "StreamWatch$Flow" "serverHost" "I" ∈ zTb := zin1 (List.mem_of_getElem? (i := 132) rfl) rfl
theorem z1_133 : Cond.fieldLink "StreamWatch$Flow" 21 "StreamWatch$Flow" "serverPort" "I" ∈ zTb := zin1 (List.mem_of_getElem? (i := 133) rfl) rfl
theorem z1_134 : Cond.fieldLink "StreamWatch" 189 "StreamWatch$Flow" "serverPort" "I" ∈ zTb := zin1 (List.mem_of_getElem? (i := 134) rfl) rfl
theorem z1_135 : Cond.fieldLink "StreamWatch$Flow" 24 "StreamWatch$Flow" "heardAt" "I" ∈ zTb := zin1 (List.mem_of_getElem? (i := 135) rfl) rfl
theorem z1_136 : Cond.fieldLink "StreamWatch$FlowTable" 34 "StreamWatch$Flow" "heardAt" "I" ∈ zTb := zin1 (List.mem_of_getElem? (i := 136) rfl) rfl
theorem z1_137 : Cond.fieldLink "StreamWatch$Flow" 30 "StreamWatch$Flow" "toServer" "LStreamWatch$Stream;" ∈ zTb := zin1 (List.mem_of_getElem? (i := 137) rfl) rfl
theorem z1_138 : Cond.fieldLink "StreamWatch$Flow" 34 "StreamWatch$Flow" "toClient" "LStreamWatch$Stream;" ∈ zTb := zin1 (List.mem_of_getElem? (i := 138) rfl) rfl
theorem z1_139 : Cond.fieldLink "StreamWatch$Flow" 37 "StreamWatch$Flow" "live" "Z" ∈ zTb := zin1 (List.mem_of_getElem? (i := 139) rfl) rfl
theorem z1_140 : Cond.lays "StreamWatch$Flow" "StreamWatch$Flow" "clientHost" "I" ∈ zTb := zin1 (List.mem_of_getElem? (i := 140) rfl) rfl
theorem z1_142 : Cond.lays "StreamWatch$Flow" "StreamWatch$Flow" "clientPort" "I" ∈ zTb := zin1 (List.mem_of_getElem? (i := 142) rfl) rfl
theorem z1_144 : Cond.lays "StreamWatch$Flow" "StreamWatch$Flow" "serverHost" "I" ∈ zTb := zin1 (List.mem_of_getElem? (i := 144) rfl) rfl
theorem z1_146 : Cond.lays "StreamWatch$Flow" "StreamWatch$Flow" "serverPort" "I" ∈ zTb := zin1 (List.mem_of_getElem? (i := 146) rfl) rfl
theorem z1_148 : Cond.lays "StreamWatch$Flow" "StreamWatch$Flow" "heardAt" "I" ∈ zTb := zin1 (List.mem_of_getElem? (i := 148) rfl) rfl
theorem z1_150 : Cond.laysFinal "StreamWatch$Flow" "StreamWatch$Flow" "toServer" "LStreamWatch$Stream;" ∈ zTb := zin1 (List.mem_of_getElem? (i := 150) rfl) rfl
theorem z1_152 : Cond.laysFinal "StreamWatch$Flow" "StreamWatch$Flow" "toClient" "LStreamWatch$Stream;" ∈ zTb := zin1 (List.mem_of_getElem? (i := 152) rfl) rfl
theorem z1_154 : Cond.lays "StreamWatch$Flow" "StreamWatch$Flow" "live" "Z" ∈ zTb := zin1 (List.mem_of_getElem? (i := 154) rfl) rfl
theorem z1_157 : Cond.fieldLink "StreamWatch$FlowTable" 13 "StreamWatch$FlowTable" "places" "[LStreamWatch$Flow;" ∈ zTb := zin1 (List.mem_of_getElem? (i := 157) rfl) rfl
theorem z1_158 : Cond.fieldLink "StreamWatch$FlowTable" 17 "StreamWatch$FlowTable" "packetsHeard" "I" ∈ zTb := zin1 (List.mem_of_getElem? (i := 158) rfl) rfl
theorem z1_159 : Cond.laysFinal "StreamWatch$FlowTable" "StreamWatch$FlowTable" "places" "[LStreamWatch$Flow;" ∈ zTb := zin1 (List.mem_of_getElem? (i := 159) rfl) rfl
theorem z1_161 : Cond.lays "StreamWatch$FlowTable" "StreamWatch$FlowTable" "packetsHeard" "I" ∈ zTb := zin1 (List.mem_of_getElem? (i := 161) rfl) rfl
theorem z1_164 : Cond.classLink "StreamWatch" 30 "StreamWatch$Rule" ∈ zTb := zin1 (List.mem_of_getElem? (i := 164) rfl) rfl
theorem z1_166 : Cond.classLink "StreamWatch" 36 "StreamWatch$Search" ∈ zTb := zin1 (List.mem_of_getElem? (i := 166) rfl) rfl
theorem z1_167 : Cond.instantiable "StreamWatch$Search" 2 ∈ zTb := zin1 (List.mem_of_getElem? (i := 167) rfl) rfl
theorem z1_169 : Cond.instanceMethod ⟨"StreamWatch$Search", "<init>", "()V"⟩ ∈ zTb := zin1 (List.mem_of_getElem? (i := 169) rfl) rfl
theorem z1_170 : Cond.code ⟨"StreamWatch$Search", "<init>", "()V"⟩ prog_9_method_1_code 1 (Option.none : Option FieldType) ∈ zTb := zin1 (List.mem_of_getElem? (i := 170) rfl) rfl
theorem z1_171 : Cond.methodLink "StreamWatch$Search" 1 ⟨"java/lang/Object", "<init>", "()V"⟩ ∈ zTb := zin1 (List.mem_of_getElem? (i := 171) rfl) rfl
theorem z1_172 : Cond.classLink "StreamWatch$Search" 7 "StreamWatch$Marks" ∈ zTb := zin1 (List.mem_of_getElem? (i := 172) rfl) rfl
theorem z1_173 : Cond.instantiable "StreamWatch$Marks" 3 ∈ zTb := zin1 (List.mem_of_getElem? (i := 173) rfl) rfl
theorem z1_175 : Cond.instanceMethod ⟨"StreamWatch$Marks", "<init>", "()V"⟩ ∈ zTb := zin1 (List.mem_of_getElem? (i := 175) rfl) rfl
theorem z1_176 : Cond.code ⟨"StreamWatch$Marks", "<init>", "()V"⟩ prog_5_method_1_code 1 (Option.none : Option FieldType) ∈ zTb := zin1 (List.mem_of_getElem? (i := 176) rfl) rfl
theorem z1_177 : Cond.methodLink "StreamWatch$Marks" 3 ⟨"java/lang/Object", "<init>", "()V"⟩ ∈ zTb := zin1 (List.mem_of_getElem? (i := 177) rfl) rfl
theorem z1_178 : Cond.fieldLink "StreamWatch$Marks" 9 "StreamWatch$Marks" "marked" "[Z" ∈ zTb := zin1 (List.mem_of_getElem? (i := 178) rfl) rfl
theorem z1_179 : Cond.fieldLink "StreamWatch$Marks" 15 "StreamWatch$Marks" "latest" "[I" ∈ zTb := zin1 (List.mem_of_getElem? (i := 179) rfl) rfl
theorem z1_180 : Cond.fieldLink "StreamWatch$Marks" 19 "StreamWatch$Marks" "top" "I" ∈ zTb := zin1 (List.mem_of_getElem? (i := 180) rfl) rfl
theorem z1_181 : Cond.laysFinal "StreamWatch$Marks" "StreamWatch$Marks" "marked" "[Z" ∈ zTb := zin1 (List.mem_of_getElem? (i := 181) rfl) rfl
theorem z1_183 : Cond.laysFinal "StreamWatch$Marks" "StreamWatch$Marks" "latest" "[I" ∈ zTb := zin1 (List.mem_of_getElem? (i := 183) rfl) rfl
theorem z1_185 : Cond.lays "StreamWatch$Marks" "StreamWatch$Marks" "top" "I" ∈ zTb := zin1 (List.mem_of_getElem? (i := 185) rfl) rfl
theorem z1_188 : Cond.arrayClass FieldType.boolean ∈ zTb := zin1 (List.mem_of_getElem? (i := 188) rfl) rfl
theorem z1_189 : Cond.fieldLink "StreamWatch$Search" 10 "StreamWatch$Search" "bases" "LStreamWatch$Marks;" ∈ zTb := zin1 (List.mem_of_getElem? (i := 189) rfl) rfl
theorem z1_190 : Cond.fieldLink "StreamWatch$Search" 16 "StreamWatch$Search" "found" "LStreamWatch$Marks;" ∈ zTb := zin1 (List.mem_of_getElem? (i := 190) rfl) rfl
theorem z1_191 : Cond.laysFinal "StreamWatch$Search" "StreamWatch$Search" "bases" "LStreamWatch$Marks;" ∈ zTb := zin1 (List.mem_of_getElem? (i := 191) rfl) rfl
theorem z1_193 : Cond.laysFinal "StreamWatch$Search" "StreamWatch$Search" "found" "LStreamWatch$Marks;" ∈ zTb := zin1 (List.mem_of_getElem? (i := 193) rfl) rfl
theorem z1_196 : Cond.classLink "StreamWatch" 43 "StreamWatch$AlertLog" ∈ zTb := zin1 (List.mem_of_getElem? (i := 196) rfl) rfl
theorem z1_197 : Cond.instantiable "StreamWatch$AlertLog" 3 ∈ zTb := zin1 (List.mem_of_getElem? (i := 197) rfl) rfl
theorem z1_199 : Cond.instanceMethod ⟨"StreamWatch$AlertLog", "<init>", "()V"⟩ ∈ zTb := zin1 (List.mem_of_getElem? (i := 199) rfl) rfl
theorem z1_200 : Cond.code ⟨"StreamWatch$AlertLog", "<init>", "()V"⟩ prog_2_method_1_code 1 (Option.none : Option FieldType) ∈ zTb := zin1 (List.mem_of_getElem? (i := 200) rfl) rfl
theorem z1_201 : Cond.methodLink "StreamWatch$AlertLog" 3 ⟨"java/lang/Object", "<init>", "()V"⟩ ∈ zTb := zin1 (List.mem_of_getElem? (i := 201) rfl) rfl
theorem z1_202 : Cond.fieldLink "StreamWatch$AlertLog" 11 "StreamWatch$AlertLog" "rows" "[I" ∈ zTb := zin1 (List.mem_of_getElem? (i := 202) rfl) rfl
theorem z1_203 : Cond.fieldLink "StreamWatch$AlertLog" 15 "StreamWatch$AlertLog" "total" "I" ∈ zTb := zin1 (List.mem_of_getElem? (i := 203) rfl) rfl
theorem z1_204 : Cond.fieldLink "StreamWatch$AlertLog" 19 "StreamWatch$AlertLog" "newest" "I" ∈ zTb := zin1 (List.mem_of_getElem? (i := 204) rfl) rfl
theorem z1_205 : Cond.laysFinal "StreamWatch$AlertLog" "StreamWatch$AlertLog" "rows" "[I" ∈ zTb := zin1 (List.mem_of_getElem? (i := 205) rfl) rfl
theorem z1_207 : Cond.lays "StreamWatch$AlertLog" "StreamWatch$AlertLog" "total" "I" ∈ zTb := zin1 (List.mem_of_getElem? (i := 207) rfl) rfl
theorem z1_209 : Cond.lays "StreamWatch$AlertLog" "StreamWatch$AlertLog" "newest" "I" ∈ zTb := zin1 (List.mem_of_getElem? (i := 209) rfl) rfl
theorem z1_212 : Cond.fieldLink "StreamWatch" 54 "StreamWatch" "lastStays" "Z" ∈ zTb := zin1 (List.mem_of_getElem? (i := 212) rfl) rfl
theorem z1_213 : Cond.fieldLink "StreamWatch" 10 "StreamWatch" "line" "LStreamWatch$Wire;" ∈ zTb := zin1 (List.mem_of_getElem? (i := 213) rfl) rfl
theorem z1_214 : Cond.fieldLink "StreamWatch" 19 "StreamWatch" "packet" "LStreamWatch$Packet;" ∈ zTb := zin1 (List.mem_of_getElem? (i := 214) rfl) rfl
theorem z1_215 : Cond.fieldLink "StreamWatch" 26 "StreamWatch" "flows" "LStreamWatch$FlowTable;" ∈ zTb := zin1 (List.mem_of_getElem? (i := 215) rfl) rfl
theorem z1_216 : Cond.fieldLink "StreamWatch" 32 "StreamWatch" "rules" "[LStreamWatch$Rule;" ∈ zTb := zin1 (List.mem_of_getElem? (i := 216) rfl) rfl
theorem z1_217 : Cond.fieldLink "StreamWatch" 39 "StreamWatch" "search" "LStreamWatch$Search;" ∈ zTb := zin1 (List.mem_of_getElem? (i := 217) rfl) rfl
theorem z1_218 : Cond.fieldLink "StreamWatch" 46 "StreamWatch" "log" "LStreamWatch$AlertLog;" ∈ zTb := zin1 (List.mem_of_getElem? (i := 218) rfl) rfl
theorem z1_219 : Cond.fieldLink "StreamWatch" 50 "StreamWatch" "ruleCount" "I" ∈ zTb := zin1 (List.mem_of_getElem? (i := 219) rfl) rfl
theorem z1_220 : Cond.laysFinal "StreamWatch" "StreamWatch" "lastStays" "Z" ∈ zTb := zin1 (List.mem_of_getElem? (i := 220) rfl) rfl
theorem z1_222 : Cond.laysFinal "StreamWatch" "StreamWatch" "line" "LStreamWatch$Wire;" ∈ zTb := zin1 (List.mem_of_getElem? (i := 222) rfl) rfl
theorem z1_224 : Cond.laysFinal "StreamWatch" "StreamWatch" "packet" "LStreamWatch$Packet;" ∈ zTb := zin1 (List.mem_of_getElem? (i := 224) rfl) rfl
theorem z1_226 : Cond.laysFinal "StreamWatch" "StreamWatch" "flows" "LStreamWatch$FlowTable;" ∈ zTb := zin1 (List.mem_of_getElem? (i := 226) rfl) rfl
theorem z1_228 : Cond.laysFinal "StreamWatch" "StreamWatch" "rules" "[LStreamWatch$Rule;" ∈ zTb := zin1 (List.mem_of_getElem? (i := 228) rfl) rfl
theorem z1_230 : Cond.laysFinal "StreamWatch" "StreamWatch" "search" "LStreamWatch$Search;" ∈ zTb := zin1 (List.mem_of_getElem? (i := 230) rfl) rfl
theorem z1_232 : Cond.laysFinal "StreamWatch" "StreamWatch" "log" "LStreamWatch$AlertLog;" ∈ zTb := zin1 (List.mem_of_getElem? (i := 232) rfl) rfl
theorem z1_234 : Cond.lays "StreamWatch" "StreamWatch" "ruleCount" "I" ∈ zTb := zin1 (List.mem_of_getElem? (i := 234) rfl) rfl
theorem z1_237 : Cond.methodLink "StreamWatchLaw" 47 ⟨"StreamWatch", "alter", "(II)Z"⟩ ∈ zTb := zin1 (List.mem_of_getElem? (i := 237) rfl) rfl
theorem z1_238 : Cond.instanceMethod ⟨"StreamWatch", "alter", "(II)Z"⟩ ∈ zTb := zin1 (List.mem_of_getElem? (i := 238) rfl) rfl
theorem z1_239 : Cond.selects "StreamWatch" ⟨"StreamWatch", "alter", "(II)Z"⟩ ⟨"StreamWatch", "alter", "(II)Z"⟩ ∈ zTb := zin1 (List.mem_of_getElem? (i := 239) rfl) rfl
theorem z2_0 : Cond.code ⟨"StreamWatch", "alter", "(II)Z"⟩ prog_1_method_3_code 3 (Option.some FieldType.boolean) ∈ zTb := zin2 (List.mem_of_getElem? (i := 0) rfl) rfl
theorem z2_1 : Cond.methodLink "StreamWatch" 91 ⟨"StreamWatch$Wire", "flip", "(II)Z"⟩ ∈ zTb := zin2 (List.mem_of_getElem? (i := 1) rfl) rfl
theorem z2_2 : Cond.instanceMethod ⟨"StreamWatch$Wire", "flip", "(II)Z"⟩ ∈ zTb := zin2 (List.mem_of_getElem? (i := 2) rfl) rfl
theorem z2_3 : Cond.selects "StreamWatch$Wire" ⟨"StreamWatch$Wire", "flip", "(II)Z"⟩ ⟨"StreamWatch$Wire", "flip", "(II)Z"⟩ ∈ zTb := zin2 (List.mem_of_getElem? (i := 3) rfl) rfl
theorem z2_4 : Cond.code ⟨"StreamWatch$Wire", "flip", "(II)Z"⟩ prog_11_method_6_code 3 (Option.some FieldType.boolean) ∈ zTb := zin2 (List.mem_of_getElem? (i := 4) rfl) rfl
theorem z2_5 : Cond.methodLink "StreamWatch$Wire" 17 ⟨"StreamWatch$Wire", "has", "(I)Z"⟩ ∈ zTb := zin2 (List.mem_of_getElem? (i := 5) rfl) rfl
theorem z2_6 : Cond.instanceMethod ⟨"StreamWatch$Wire", "has", "(I)Z"⟩ ∈ zTb := zin2 (List.mem_of_getElem? (i := 6) rfl) rfl
theorem z2_7 : Cond.selects "StreamWatch$Wire" ⟨"StreamWatch$Wire", "has", "(I)Z"⟩ ⟨"StreamWatch$Wire", "has", "(I)Z"⟩ ∈ zTb := zin2 (List.mem_of_getElem? (i := 7) rfl) rfl
theorem z2_8 : Cond.code ⟨"StreamWatch$Wire", "has", "(I)Z"⟩ prog_11_method_3_code 2 (Option.some FieldType.boolean) ∈ zTb := zin2 (List.mem_of_getElem? (i := 8) rfl) rfl
theorem z2_9 : Cond.methodLink "StreamWatchLaw" 52 ⟨"StreamWatch", "wipe", "()V"⟩ ∈ zTb := zin2 (List.mem_of_getElem? (i := 9) rfl) rfl
theorem z2_10 : Cond.instanceMethod ⟨"StreamWatch", "wipe", "()V"⟩ ∈ zTb := zin2 (List.mem_of_getElem? (i := 10) rfl) rfl
theorem z2_11 : Cond.selects "StreamWatch" ⟨"StreamWatch", "wipe", "()V"⟩ ⟨"StreamWatch", "wipe", "()V"⟩ ∈ zTb := zin2 (List.mem_of_getElem? (i := 11) rfl) rfl
theorem z2_12 : Cond.code ⟨"StreamWatch", "wipe", "()V"⟩ prog_1_method_4_code 1 (Option.none : Option FieldType) ∈ zTb := zin2 (List.mem_of_getElem? (i := 12) rfl) rfl
theorem z2_13 : Cond.methodLink "StreamWatch" 69 ⟨"StreamWatch$Wire", "clear", "()V"⟩ ∈ zTb := zin2 (List.mem_of_getElem? (i := 13) rfl) rfl
theorem z2_14 : Cond.instanceMethod ⟨"StreamWatch$Wire", "clear", "()V"⟩ ∈ zTb := zin2 (List.mem_of_getElem? (i := 14) rfl) rfl
theorem z2_15 : Cond.selects "StreamWatch$Wire" ⟨"StreamWatch$Wire", "clear", "()V"⟩ ⟨"StreamWatch$Wire", "clear", "()V"⟩ ∈ zTb := zin2 (List.mem_of_getElem? (i := 15) rfl) rfl
theorem z2_16 : Cond.code ⟨"StreamWatch$Wire", "clear", "()V"⟩ prog_11_method_5_code 1 (Option.none : Option FieldType) ∈ zTb := zin2 (List.mem_of_getElem? (i := 16) rfl) rfl
theorem z2_17 : Cond.methodLink "StreamWatchLaw" 56 ⟨"StreamWatch", "put", "(IJ)Z"⟩ ∈ zTb := zin2 (List.mem_of_getElem? (i := 17) rfl) rfl
theorem z2_18 : Cond.instanceMethod ⟨"StreamWatch", "put", "(IJ)Z"⟩ ∈ zTb := zin2 (List.mem_of_getElem? (i := 18) rfl) rfl
theorem z2_19 : Cond.selects "StreamWatch" ⟨"StreamWatch", "put", "(IJ)Z"⟩ ⟨"StreamWatch", "put", "(IJ)Z"⟩ ∈ zTb := zin2 (List.mem_of_getElem? (i := 19) rfl) rfl
theorem z2_20 : Cond.code ⟨"StreamWatch", "put", "(IJ)Z"⟩ prog_1_method_5_code 4 (Option.some FieldType.boolean) ∈ zTb := zin2 (List.mem_of_getElem? (i := 20) rfl) rfl
theorem z2_21 : Cond.methodLink "StreamWatch" 80 ⟨"StreamWatch$Wire", "append", "(IJ)Z"⟩ ∈ zTb := zin2 (List.mem_of_getElem? (i := 21) rfl) rfl
theorem z2_22 : Cond.instanceMethod ⟨"StreamWatch$Wire", "append", "(IJ)Z"⟩ ∈ zTb := zin2 (List.mem_of_getElem? (i := 22) rfl) rfl
theorem z2_23 : Cond.selects "StreamWatch$Wire" ⟨"StreamWatch$Wire", "append", "(IJ)Z"⟩ ⟨"StreamWatch$Wire", "append", "(IJ)Z"⟩ ∈ zTb := zin2 (List.mem_of_getElem? (i := 23) rfl) rfl
theorem z2_24 : Cond.code ⟨"StreamWatch$Wire", "append", "(IJ)Z"⟩ prog_11_method_7_code 5 (Option.some FieldType.boolean) ∈ zTb := zin2 (List.mem_of_getElem? (i := 24) rfl) rfl
theorem z2_25 : Cond.methodLink "StreamWatchLaw" 61 ⟨"StreamWatch", "seal", "()Z"⟩ ∈ zTb := zin2 (List.mem_of_getElem? (i := 25) rfl) rfl
theorem z2_26 : Cond.instanceMethod ⟨"StreamWatch", "seal", "()Z"⟩ ∈ zTb := zin2 (List.mem_of_getElem? (i := 26) rfl) rfl
theorem z2_27 : Cond.selects "StreamWatch" ⟨"StreamWatch", "seal", "()Z"⟩ ⟨"StreamWatch", "seal", "()Z"⟩ ∈ zTb := zin2 (List.mem_of_getElem? (i := 27) rfl) rfl
theorem z2_28 : Cond.code ⟨"StreamWatch", "seal", "()Z"⟩ prog_1_method_6_code 1 (Option.some FieldType.boolean) ∈ zTb := zin2 (List.mem_of_getElem? (i := 28) rfl) rfl
theorem z2_29 : Cond.methodLink "StreamWatch" 95 ⟨"StreamWatch$Wire", "fault", "(Z)I"⟩ ∈ zTb := zin2 (List.mem_of_getElem? (i := 29) rfl) rfl
theorem z2_30 : Cond.instanceMethod ⟨"StreamWatch$Wire", "fault", "(Z)I"⟩ ∈ zTb := zin2 (List.mem_of_getElem? (i := 30) rfl) rfl
theorem z2_31 : Cond.selects "StreamWatch$Wire" ⟨"StreamWatch$Wire", "fault", "(Z)I"⟩ ⟨"StreamWatch$Wire", "fault", "(Z)I"⟩ ∈ zTb := zin2 (List.mem_of_getElem? (i := 31) rfl) rfl
theorem z2_32 : Cond.code ⟨"StreamWatch$Wire", "fault", "(Z)I"⟩ prog_11_method_8_code 2 (Option.some FieldType.int) ∈ zTb := zin2 (List.mem_of_getElem? (i := 32) rfl) rfl
theorem z2_33 : Cond.methodLink "StreamWatch$Wire" 21 ⟨"StreamWatch$Wire", "at", "(I)I"⟩ ∈ zTb := zin2 (List.mem_of_getElem? (i := 33) rfl) rfl
theorem z2_34 : Cond.instanceMethod ⟨"StreamWatch$Wire", "at", "(I)I"⟩ ∈ zTb := zin2 (List.mem_of_getElem? (i := 34) rfl) rfl
theorem z2_35 : Cond.selects "StreamWatch$Wire" ⟨"StreamWatch$Wire", "at", "(I)I"⟩ ⟨"StreamWatch$Wire", "at", "(I)I"⟩ ∈ zTb := zin2 (List.mem_of_getElem? (i := 35) rfl) rfl
theorem z2_36 : Cond.code ⟨"StreamWatch$Wire", "at", "(I)I"⟩ prog_11_method_4_code 2 (Option.some FieldType.int) ∈ zTb := zin2 (List.mem_of_getElem? (i := 36) rfl) rfl
theorem z2_37 : Cond.methodLink "StreamWatch$Wire" 25 ⟨"StreamWatch$Wire", "length", "()I"⟩ ∈ zTb := zin2 (List.mem_of_getElem? (i := 37) rfl) rfl
theorem z2_38 : Cond.instanceMethod ⟨"StreamWatch$Wire", "length", "()I"⟩ ∈ zTb := zin2 (List.mem_of_getElem? (i := 38) rfl) rfl
theorem z2_39 : Cond.selects "StreamWatch$Wire" ⟨"StreamWatch$Wire", "length", "()I"⟩ ⟨"StreamWatch$Wire", "length", "()I"⟩ ∈ zTb := zin2 (List.mem_of_getElem? (i := 39) rfl) rfl
theorem z2_40 : Cond.code ⟨"StreamWatch$Wire", "length", "()I"⟩ prog_11_method_11_code 1 (Option.some FieldType.int) ∈ zTb := zin2 (List.mem_of_getElem? (i := 40) rfl) rfl
theorem z2_41 : Cond.methodLink "StreamWatch$Wire" 36 ⟨"StreamWatch$Wire", "pairAt", "(I)I"⟩ ∈ zTb := zin2 (List.mem_of_getElem? (i := 41) rfl) rfl
theorem z2_42 : Cond.instanceMethod ⟨"StreamWatch$Wire", "pairAt", "(I)I"⟩ ∈ zTb := zin2 (List.mem_of_getElem? (i := 42) rfl) rfl
theorem z2_43 : Cond.selects "StreamWatch$Wire" ⟨"StreamWatch$Wire", "pairAt", "(I)I"⟩ ⟨"StreamWatch$Wire", "pairAt", "(I)I"⟩ ∈ zTb := zin2 (List.mem_of_getElem? (i := 43) rfl) rfl
theorem z2_44 : Cond.code ⟨"StreamWatch$Wire", "pairAt", "(I)I"⟩ prog_11_method_13_code 2 (Option.some FieldType.int) ∈ zTb := zin2 (List.mem_of_getElem? (i := 44) rfl) rfl
theorem z2_45 : Cond.methodLink "StreamWatch$Wire" 29 ⟨"StreamWatch$Wire", "ipSize", "()I"⟩ ∈ zTb := zin2 (List.mem_of_getElem? (i := 45) rfl) rfl
theorem z2_46 : Cond.instanceMethod ⟨"StreamWatch$Wire", "ipSize", "()I"⟩ ∈ zTb := zin2 (List.mem_of_getElem? (i := 46) rfl) rfl
theorem z2_47 : Cond.selects "StreamWatch$Wire" ⟨"StreamWatch$Wire", "ipSize", "()I"⟩ ⟨"StreamWatch$Wire", "ipSize", "()I"⟩ ∈ zTb := zin2 (List.mem_of_getElem? (i := 47) rfl) rfl
theorem z2_48 : Cond.code ⟨"StreamWatch$Wire", "ipSize", "()I"⟩ prog_11_method_10_code 1 (Option.some FieldType.int) ∈ zTb := zin2 (List.mem_of_getElem? (i := 48) rfl) rfl
theorem z2_49 : Cond.methodLink "StreamWatch$Wire" 32 ⟨"StreamWatch$Wire", "ipSum", "()I"⟩ ∈ zTb := zin2 (List.mem_of_getElem? (i := 49) rfl) rfl
theorem z2_51 : Cond.instanceMethod ⟨"StreamWatch$Wire", "ipSum", "()I"⟩ ∈ zTb := zin2 (List.mem_of_getElem? (i := 51) rfl) rfl
theorem z2_52 : Cond.code ⟨"StreamWatch$Wire", "ipSum", "()I"⟩ prog_11_method_16_code 1 (Option.some FieldType.int) ∈ zTb := zin2 (List.mem_of_getElem? (i := 52) rfl) rfl
theorem z2_53 : Cond.methodLink "StreamWatch$Wire" 52 ⟨"StreamWatch$Wire", "sumOf", "(III)I"⟩ ∈ zTb := zin2 (List.mem_of_getElem? (i := 53) rfl) rfl
theorem z2_55 : Cond.instanceMethod ⟨"StreamWatch$Wire", "sumOf", "(III)I"⟩ ∈ zTb := zin2 (List.mem_of_getElem? (i := 55) rfl) rfl
theorem z2_56 : Cond.code ⟨"StreamWatch$Wire", "sumOf", "(III)I"⟩ prog_11_method_18_code 7 (Option.some FieldType.int) ∈ zTb := zin2 (List.mem_of_getElem? (i := 56) rfl) rfl
theorem z2_57 : Cond.methodLink "StreamWatch$Wire" 56 ⟨"StreamWatch$Wire", "addToSum", "(II)I"⟩ ∈ zTb := zin2 (List.mem_of_getElem? (i := 57) rfl) rfl
theorem z2_58 : Cond.static ⟨"StreamWatch$Wire", "addToSum", "(II)I"⟩ ∈ zTb := zin2 (List.mem_of_getElem? (i := 58) rfl) rfl
theorem z2_59 : Cond.code ⟨"StreamWatch$Wire", "addToSum", "(II)I"⟩ prog_11_method_19_code 3 (Option.some FieldType.int) ∈ zTb := zin2 (List.mem_of_getElem? (i := 59) rfl) rfl
theorem z2_60 : Cond.constant "StreamWatch$Wire" 35 (65535 : Int32) ∈ zTb := zin2 (List.mem_of_getElem? (i := 60) rfl) rfl
theorem z2_61 : Cond.methodLink "StreamWatch$Wire" 39 ⟨"StreamWatch$Wire", "tcpWords", "()I"⟩ ∈ zTb := zin2 (List.mem_of_getElem? (i := 61) rfl) rfl
theorem z2_63 : Cond.instanceMethod ⟨"StreamWatch$Wire", "tcpWords", "()I"⟩ ∈ zTb := zin2 (List.mem_of_getElem? (i := 63) rfl) rfl
theorem z2_64 : Cond.code ⟨"StreamWatch$Wire", "tcpWords", "()I"⟩ prog_11_method_15_code 1 (Option.some FieldType.int) ∈ zTb := zin2 (List.mem_of_getElem? (i := 64) rfl) rfl
theorem z2_65 : Cond.methodLink "StreamWatch$Wire" 42 ⟨"StreamWatch$Wire", "dataStart", "()I"⟩ ∈ zTb := zin2 (List.mem_of_getElem? (i := 65) rfl) rfl
theorem z2_66 : Cond.instanceMethod ⟨"StreamWatch$Wire", "dataStart", "()I"⟩ ∈ zTb := zin2 (List.mem_of_getElem? (i := 66) rfl) rfl
theorem z2_67 : Cond.selects "StreamWatch$Wire" ⟨"StreamWatch$Wire", "dataStart", "()I"⟩ ⟨"StreamWatch$Wire", "dataStart", "()I"⟩ ∈ zTb := zin2 (List.mem_of_getElem? (i := 67) rfl) rfl
theorem z2_68 : Cond.code ⟨"StreamWatch$Wire", "dataStart", "()I"⟩ prog_11_method_12_code 1 (Option.some FieldType.int) ∈ zTb := zin2 (List.mem_of_getElem? (i := 68) rfl) rfl
theorem z2_69 : Cond.methodLink "StreamWatch$Wire" 45 ⟨"StreamWatch$Wire", "tcpSum", "()I"⟩ ∈ zTb := zin2 (List.mem_of_getElem? (i := 69) rfl) rfl
theorem z2_71 : Cond.instanceMethod ⟨"StreamWatch$Wire", "tcpSum", "()I"⟩ ∈ zTb := zin2 (List.mem_of_getElem? (i := 71) rfl) rfl
theorem z2_72 : Cond.code ⟨"StreamWatch$Wire", "tcpSum", "()I"⟩ prog_11_method_17_code 2 (Option.some FieldType.int) ∈ zTb := zin2 (List.mem_of_getElem? (i := 72) rfl) rfl
theorem z2_73 : Cond.methodLink "StreamWatch" 84 ⟨"StreamWatch$Wire", "makeSumsRight", "()V"⟩ ∈ zTb := zin2 (List.mem_of_getElem? (i := 73) rfl) rfl
theorem z2_74 : Cond.instanceMethod ⟨"StreamWatch$Wire", "makeSumsRight", "()V"⟩ ∈ zTb := zin2 (List.mem_of_getElem? (i := 74) rfl) rfl
theorem z2_75 : Cond.selects "StreamWatch$Wire" ⟨"StreamWatch$Wire", "makeSumsRight", "()V"⟩ ⟨"StreamWatch$Wire", "makeSumsRight", "()V"⟩ ∈ zTb := zin2 (List.mem_of_getElem? (i := 75) rfl) rfl
theorem z2_76 : Cond.code ⟨"StreamWatch$Wire", "makeSumsRight", "()V"⟩ prog_11_method_9_code 2 (Option.none : Option FieldType) ∈ zTb := zin2 (List.mem_of_getElem? (i := 76) rfl) rfl
theorem z2_77 : Cond.methodLink "StreamWatch$Wire" 48 ⟨"StreamWatch$Wire", "setPair", "(II)V"⟩ ∈ zTb := zin2 (List.mem_of_getElem? (i := 77) rfl) rfl
theorem z2_79 : Cond.instanceMethod ⟨"StreamWatch$Wire", "setPair", "(II)V"⟩ ∈ zTb := zin2 (List.mem_of_getElem? (i := 79) rfl) rfl
theorem z2_80 : Cond.code ⟨"StreamWatch$Wire", "setPair", "(II)V"⟩ prog_11_method_20_code 3 (Option.none : Option FieldType) ∈ zTb := zin2 (List.mem_of_getElem? (i := 80) rfl) rfl
theorem z2_81 : Cond.methodLink "StreamWatchLaw" 66 ⟨"StreamWatch", "wire", "(I)I"⟩ ∈ zTb := zin2 (List.mem_of_getElem? (i := 81) rfl) rfl
theorem z2_82 : Cond.instanceMethod ⟨"StreamWatch", "wire", "(I)I"⟩ ∈ zTb := zin2 (List.mem_of_getElem? (i := 82) rfl) rfl
theorem z2_83 : Cond.selects "StreamWatch" ⟨"StreamWatch", "wire", "(I)I"⟩ ⟨"StreamWatch", "wire", "(I)I"⟩ ∈ zTb := zin2 (List.mem_of_getElem? (i := 83) rfl) rfl
theorem z2_84 : Cond.code ⟨"StreamWatch", "wire", "(I)I"⟩ prog_1_method_7_code 2 (Option.some FieldType.int) ∈ zTb := zin2 (List.mem_of_getElem? (i := 84) rfl) rfl
theorem z2_85 : Cond.methodLink "StreamWatch" 87 ⟨"StreamWatch$Wire", "size", "()I"⟩ ∈ zTb := zin2 (List.mem_of_getElem? (i := 85) rfl) rfl
theorem z2_86 : Cond.instanceMethod ⟨"StreamWatch$Wire", "size", "()I"⟩ ∈ zTb := zin2 (List.mem_of_getElem? (i := 86) rfl) rfl
theorem z2_87 : Cond.selects "StreamWatch$Wire" ⟨"StreamWatch$Wire", "size", "()I"⟩ ⟨"StreamWatch$Wire", "size", "()I"⟩ ∈ zTb := zin2 (List.mem_of_getElem? (i := 87) rfl) rfl
theorem z2_88 : Cond.code ⟨"StreamWatch$Wire", "size", "()I"⟩ prog_11_method_2_code 1 (Option.some FieldType.int) ∈ zTb := zin2 (List.mem_of_getElem? (i := 88) rfl) rfl
theorem z2_89 : Cond.methodLink "StreamWatch" 99 ⟨"StreamWatch$Wire", "has", "(I)Z"⟩ ∈ zTb := zin2 (List.mem_of_getElem? (i := 89) rfl) rfl
theorem z2_90 : Cond.methodLink "StreamWatch" 103 ⟨"StreamWatch$Wire", "at", "(I)I"⟩ ∈ zTb := zin2 (List.mem_of_getElem? (i := 90) rfl) rfl
theorem z2_91 : Cond.methodLink "StreamWatchLaw" 71 ⟨"StreamWatch", "watch", "()I"⟩ ∈ zTb := zin2 (List.mem_of_getElem? (i := 91) rfl) rfl
theorem z2_92 : Cond.instanceMethod ⟨"StreamWatch", "watch", "()I"⟩ ∈ zTb := zin2 (List.mem_of_getElem? (i := 92) rfl) rfl
theorem z2_93 : Cond.selects "StreamWatch" ⟨"StreamWatch", "watch", "()I"⟩ ⟨"StreamWatch", "watch", "()I"⟩ ∈ zTb := zin2 (List.mem_of_getElem? (i := 93) rfl) rfl
theorem z2_94 : Cond.code ⟨"StreamWatch", "watch", "()I"⟩ prog_1_method_8_code 4 (Option.some FieldType.int) ∈ zTb := zin2 (List.mem_of_getElem? (i := 94) rfl) rfl
theorem z2_95 : Cond.methodLink "StreamWatch" 107 ⟨"StreamWatch$Packet", "read", "(LStreamWatch$Wire;)V"⟩ ∈ zTb := zin2 (List.mem_of_getElem? (i := 95) rfl) rfl
theorem z2_96 : Cond.instanceMethod ⟨"StreamWatch$Packet", "read", "(LStreamWatch$Wire;)V"⟩ ∈ zTb := zin2 (List.mem_of_getElem? (i := 96) rfl) rfl
theorem z2_97 : Cond.selects "StreamWatch$Packet" ⟨"StreamWatch$Packet", "read", "(LStreamWatch$Wire;)V"⟩ ⟨"StreamWatch$Packet", "read", "(LStreamWatch$Wire;)V"⟩ ∈ zTb := zin2 (List.mem_of_getElem? (i := 97) rfl) rfl
theorem z2_98 : Cond.code ⟨"StreamWatch$Packet", "read", "(LStreamWatch$Wire;)V"⟩ prog_7_method_2_code 3 (Option.none : Option FieldType) ∈ zTb := zin2 (List.mem_of_getElem? (i := 98) rfl) rfl
theorem z2_99 : Cond.methodLink "StreamWatch$Packet" 36 ⟨"StreamWatch$Wire", "ipSize", "()I"⟩ ∈ zTb := zin2 (List.mem_of_getElem? (i := 99) rfl) rfl
theorem z2_100 : Cond.methodLink "StreamWatch$Packet" 42 ⟨"StreamWatch$Wire", "quadAt", "(I)I"⟩ ∈ zTb := zin2 (List.mem_of_getElem? (i := 100) rfl) rfl
theorem z2_101 : Cond.instanceMethod ⟨"StreamWatch$Wire", "quadAt", "(I)I"⟩ ∈ zTb := zin2 (List.mem_of_getElem? (i := 101) rfl) rfl
theorem z2_102 : Cond.selects "StreamWatch$Wire" ⟨"StreamWatch$Wire", "quadAt", "(I)I"⟩ ⟨"StreamWatch$Wire", "quadAt", "(I)I"⟩ ∈ zTb := zin2 (List.mem_of_getElem? (i := 102) rfl) rfl
theorem z2_103 : Cond.code ⟨"StreamWatch$Wire", "quadAt", "(I)I"⟩ prog_11_method_14_code 2 (Option.some FieldType.int) ∈ zTb := zin2 (List.mem_of_getElem? (i := 103) rfl) rfl
theorem z2_104 : Cond.methodLink "StreamWatch$Packet" 46 ⟨"StreamWatch$Wire", "pairAt", "(I)I"⟩ ∈ zTb := zin2 (List.mem_of_getElem? (i := 104) rfl) rfl
theorem z2_105 : Cond.methodLink "StreamWatch$Packet" 49 ⟨"StreamWatch$Wire", "at", "(I)I"⟩ ∈ zTb := zin2 (List.mem_of_getElem? (i := 105) rfl) rfl
theorem z2_106 : Cond.methodLink "StreamWatch$Packet" 52 ⟨"StreamWatch$Packet", "hasFlag", "(I)Z"⟩ ∈ zTb := zin2 (List.mem_of_getElem? (i := 106) rfl) rfl
theorem z2_107 : Cond.instanceMethod ⟨"StreamWatch$Packet", "hasFlag", "(I)Z"⟩ ∈ zTb := zin2 (List.mem_of_getElem? (i := 107) rfl) rfl
theorem z2_108 : Cond.selects "StreamWatch$Packet" ⟨"StreamWatch$Packet", "hasFlag", "(I)Z"⟩ ⟨"StreamWatch$Packet", "hasFlag", "(I)Z"⟩ ∈ zTb := zin2 (List.mem_of_getElem? (i := 108) rfl) rfl
theorem z2_109 : Cond.code ⟨"StreamWatch$Packet", "hasFlag", "(I)Z"⟩ prog_7_method_3_code 2 (Option.some FieldType.boolean) ∈ zTb := zin2 (List.mem_of_getElem? (i := 109) rfl) rfl
theorem z2_110 : Cond.methodLink "StreamWatch$Packet" 56 ⟨"StreamWatch$Wire", "dataStart", "()I"⟩ ∈ zTb := zin2 (List.mem_of_getElem? (i := 110) rfl) rfl
theorem z2_111 : Cond.methodLink "StreamWatch$Packet" 58 ⟨"StreamWatch$Wire", "length", "()I"⟩ ∈ zTb := zin2 (List.mem_of_getElem? (i := 111) rfl) rfl
theorem z2_112 : Cond.methodLink "StreamWatch" 111 ⟨"StreamWatch", "flowOfPacket", "()LStreamWatch$Flow;"⟩ ∈ zTb := zin2 (List.mem_of_getElem? (i := 112) rfl) rfl
theorem z2_114 : Cond.instanceMethod ⟨"StreamWatch", "flowOfPacket", "()LStreamWatch$Flow;"⟩ ∈ zTb := zin2 (List.mem_of_getElem? (i := 114) rfl) rfl
theorem z2_115 : Cond.code ⟨"StreamWatch", "flowOfPacket", "()LStreamWatch$Flow;"⟩ prog_1_method_18_code 3 (Option.some (FieldType.object "StreamWatch$Flow")) ∈ zTb := zin2 (List.mem_of_getElem? (i := 115) rfl) rfl
theorem z2_116 : Cond.methodLink "StreamWatch" 228 ⟨"StreamWatch$FlowTable", "of", "(LStreamWatch$Packet;)LStreamWatch$Flow;"⟩ ∈ zTb := zin2 (List.mem_of_getElem? (i := 116) rfl) rfl
theorem z2_117 : Cond.instanceMethod ⟨"StreamWatch$FlowTable", "of", "(LStreamWatch$Packet;)LStreamWatch$Flow;"⟩ ∈ zTb := zin2 (List.mem_of_getElem? (i := 117) rfl) rfl
theorem z2_118 : Cond.selects "StreamWatch$FlowTable" ⟨"StreamWatch$FlowTable", "of", "(LStreamWatch$Packet;)LStreamWatch$Flow;"⟩ ⟨"StreamWatch$FlowTable", "of", "(LStreamWatch$Packet;)LStreamWatch$Flow;"⟩ ∈ zTb := zin2 (List.mem_of_getElem? (i := 118) rfl) rfl
theorem z2_119 : Cond.code ⟨"StreamWatch$FlowTable", "of", "(LStreamWatch$Packet;)LStreamWatch$Flow;"⟩ prog_4_method_3_code 4 (Option.some (FieldType.object "StreamWatch$Flow")) ∈ zTb := zin2 (List.mem_of_getElem? (i := 119) rfl) rfl
theorem z2_120 : Cond.methodLink "StreamWatch$FlowTable" 26 ⟨"StreamWatch$FlowTable", "at", "(I)LStreamWatch$Flow;"⟩ ∈ zTb := zin2 (List.mem_of_getElem? (i := 120) rfl) rfl
theorem z2_121 : Cond.instanceMethod ⟨"StreamWatch$FlowTable", "at", "(I)LStreamWatch$Flow;"⟩ ∈ zTb := zin2 (List.mem_of_getElem? (i := 121) rfl) rfl
theorem z2_122 : Cond.selects "StreamWatch$FlowTable" ⟨"StreamWatch$FlowTable", "at", "(I)LStreamWatch$Flow;"⟩ ⟨"StreamWatch$FlowTable", "at", "(I)LStreamWatch$Flow;"⟩ ∈ zTb := zin2 (List.mem_of_getElem? (i := 122) rfl) rfl
theorem z2_123 : Cond.code ⟨"StreamWatch$FlowTable", "at", "(I)LStreamWatch$Flow;"⟩ prog_4_method_2_code 2 (Option.some (FieldType.object "StreamWatch$Flow")) ∈ zTb := zin2 (List.mem_of_getElem? (i := 123) rfl) rfl
theorem z2_124 : Cond.methodLink "StreamWatch$FlowTable" 22 ⟨"StreamWatch$Flow", "isLive", "()Z"⟩ ∈ zTb := zin2 (List.mem_of_getElem? (i := 124) rfl) rfl
theorem z2_125 : Cond.instanceMethod ⟨"StreamWatch$Flow", "isLive", "()Z"⟩ ∈ zTb := zin2 (List.mem_of_getElem? (i := 125) rfl) rfl
theorem z2_126 : Cond.selects "StreamWatch$Flow" ⟨"StreamWatch$Flow", "isLive", "()Z"⟩ ⟨"StreamWatch$Flow", "isLive", "()Z"⟩ ∈ zTb := zin2 (List.mem_of_getElem? (i := 126) rfl) rfl
theorem z2_127 : Cond.code ⟨"StreamWatch$Flow", "isLive", "()Z"⟩ prog_3_method_2_code 1 (Option.some FieldType.boolean) ∈ zTb := zin2 (List.mem_of_getElem? (i := 127) rfl) rfl
theorem z2_128 : Cond.methodLink "StreamWatch$FlowTable" 30 ⟨"StreamWatch$Flow", "wayOf", "(LStreamWatch$Packet;)I"⟩ ∈ zTb := zin2 (List.mem_of_getElem? (i := 128) rfl) rfl
theorem z2_129 : Cond.instanceMethod ⟨"StreamWatch$Flow", "wayOf", "(LStreamWatch$Packet;)I"⟩ ∈ zTb := zin2 (List.mem_of_getElem? (i := 129) rfl) rfl
theorem z2_130 : Cond.selects "StreamWatch$Flow" ⟨"StreamWatch$Flow", "wayOf", "(LStreamWatch$Packet;)I"⟩ ⟨"StreamWatch$Flow", "wayOf", "(LStreamWatch$Packet;)I"⟩ ∈ zTb := zin2 (List.mem_of_getElem? (i := 130) rfl) rfl
theorem z2_131 : Cond.code ⟨"StreamWatch$Flow", "wayOf", "(LStreamWatch$Packet;)I"⟩ prog_3_method_6_code 4 (Option.some FieldType.int) ∈ zTb := zin2 (List.mem_of_getElem? (i := 131) rfl) rfl
theorem z2_132 : Cond.methodLink "StreamWatch$Flow" 65 ⟨"StreamWatch$Flow", "isClient", "(II)Z"⟩ ∈ zTb := zin2 (List.mem_of_getElem? (i := 132) rfl) rfl
theorem z2_134 : Cond.instanceMethod ⟨"StreamWatch$Flow", "isClient", "(II)Z"⟩ ∈ zTb := zin2 (List.mem_of_getElem? (i := 134) rfl) rfl
theorem z2_135 : Cond.code ⟨"StreamWatch$Flow", "isClient", "(II)Z"⟩ prog_3_method_8_code 3 (Option.some FieldType.boolean) ∈ zTb := zin2 (List.mem_of_getElem? (i := 135) rfl) rfl
theorem z2_136 : Cond.methodLink "StreamWatch$Flow" 69 ⟨"StreamWatch$Flow", "isServer", "(II)Z"⟩ ∈ zTb := zin2 (List.mem_of_getElem? (i := 136) rfl) rfl
theorem z2_138 : Cond.instanceMethod ⟨"StreamWatch$Flow", "isServer", "(II)Z"⟩ ∈ zTb := zin2 (List.mem_of_getElem? (i := 138) rfl) rfl
theorem z2_139 : Cond.code ⟨"StreamWatch$Flow", "isServer", "(II)Z"⟩ prog_3_method_9_code 3 (Option.some FieldType.boolean) ∈ zTb := zin2 (List.mem_of_getElem? (i := 139) rfl) rfl
theorem z2_140 : Cond.methodLink "StreamWatch" 122 ⟨"StreamWatch$Packet", "hasFlag", "(I)Z"⟩ ∈ zTb := zin2 (List.mem_of_getElem? (i := 140) rfl) rfl
theorem z2_141 : Cond.methodLink "StreamWatch" 232 ⟨"StreamWatch$FlowTable", "open", "(LStreamWatch$Packet;)LStreamWatch$Flow;"⟩ ∈ zTb := zin2 (List.mem_of_getElem? (i := 141) rfl) rfl
theorem z2_142 : Cond.instanceMethod ⟨"StreamWatch$FlowTable", "open", "(LStreamWatch$Packet;)LStreamWatch$Flow;"⟩ ∈ zTb := zin2 (List.mem_of_getElem? (i := 142) rfl) rfl
theorem z2_143 : Cond.selects "StreamWatch$FlowTable" ⟨"StreamWatch$FlowTable", "open", "(LStreamWatch$Packet;)LStreamWatch$Flow;"⟩ ⟨"StreamWatch$FlowTable", "open", "(LStreamWatch$Packet;)LStreamWatch$Flow;"⟩ ∈ zTb := zin2 (List.mem_of_getElem? (i := 143) rfl) rfl
theorem z2_144 : Cond.code ⟨"StreamWatch$FlowTable", "open", "(LStreamWatch$Packet;)LStreamWatch$Flow;"⟩ prog_4_method_4_code 4 (Option.some (FieldType.object "StreamWatch$Flow")) ∈ zTb := zin2 (List.mem_of_getElem? (i := 144) rfl) rfl
theorem z2_145 : Cond.methodLink "StreamWatch$FlowTable" 37 ⟨"StreamWatch$Flow", "open", "(LStreamWatch$Packet;)V"⟩ ∈ zTb := zin2 (List.mem_of_getElem? (i := 145) rfl) rfl
theorem z2_146 : Cond.instanceMethod ⟨"StreamWatch$Flow", "open", "(LStreamWatch$Packet;)V"⟩ ∈ zTb := zin2 (List.mem_of_getElem? (i := 146) rfl) rfl
theorem z2_147 : Cond.selects "StreamWatch$Flow" ⟨"StreamWatch$Flow", "open", "(LStreamWatch$Packet;)V"⟩ ⟨"StreamWatch$Flow", "open", "(LStreamWatch$Packet;)V"⟩ ∈ zTb := zin2 (List.mem_of_getElem? (i := 147) rfl) rfl
theorem z2_148 : Cond.code ⟨"StreamWatch$Flow", "open", "(LStreamWatch$Packet;)V"⟩ prog_3_method_3_code 2 (Option.none : Option FieldType) ∈ zTb := zin2 (List.mem_of_getElem? (i := 148) rfl) rfl
theorem z2_149 : Cond.methodLink "StreamWatch$Flow" 55 ⟨"StreamWatch$Stream", "reset", "()V"⟩ ∈ zTb := zin2 (List.mem_of_getElem? (i := 149) rfl) rfl
theorem z2_150 : Cond.instanceMethod ⟨"StreamWatch$Stream", "reset", "()V"⟩ ∈ zTb := zin2 (List.mem_of_getElem? (i := 150) rfl) rfl
theorem z2_151 : Cond.selects "StreamWatch$Stream" ⟨"StreamWatch$Stream", "reset", "()V"⟩ ⟨"StreamWatch$Stream", "reset", "()V"⟩ ∈ zTb := zin2 (List.mem_of_getElem? (i := 151) rfl) rfl
theorem z2_152 : Cond.code ⟨"StreamWatch$Stream", "reset", "()V"⟩ prog_10_method_2_code 1 (Option.none : Option FieldType) ∈ zTb := zin2 (List.mem_of_getElem? (i := 152) rfl) rfl
theorem z2_153 : Cond.methodLink "StreamWatch" 115 ⟨"StreamWatch$FlowTable", "hear", "(LStreamWatch$Flow;)V"⟩ ∈ zTb := zin2 (List.mem_of_getElem? (i := 153) rfl) rfl
theorem z2_154 : Cond.instanceMethod ⟨"StreamWatch$FlowTable", "hear", "(LStreamWatch$Flow;)V"⟩ ∈ zTb := zin2 (List.mem_of_getElem? (i := 154) rfl) rfl
theorem z2_155 : Cond.selects "StreamWatch$FlowTable" ⟨"StreamWatch$FlowTable", "hear", "(LStreamWatch$Flow;)V"⟩ ⟨"StreamWatch$FlowTable", "hear", "(LStreamWatch$Flow;)V"⟩ ∈ zTb := zin2 (List.mem_of_getElem? (i := 155) rfl) rfl
theorem z2_156 : Cond.code ⟨"StreamWatch$FlowTable", "hear", "(LStreamWatch$Flow;)V"⟩ prog_4_method_5_code 2 (Option.none : Option FieldType) ∈ zTb := zin2 (List.mem_of_getElem? (i := 156) rfl) rfl
theorem z2_157 : Cond.methodLink "StreamWatch" 119 ⟨"StreamWatch$AlertLog", "total", "()I"⟩ ∈ zTb := zin2 (List.mem_of_getElem? (i := 157) rfl) rfl
theorem z2_158 : Cond.instanceMethod ⟨"StreamWatch$AlertLog", "total", "()I"⟩ ∈ zTb := zin2 (List.mem_of_getElem? (i := 158) rfl) rfl
theorem z2_159 : Cond.selects "StreamWatch$AlertLog" ⟨"StreamWatch$AlertLog", "total", "()I"⟩ ⟨"StreamWatch$AlertLog", "total", "()I"⟩ ∈ zTb := zin2 (List.mem_of_getElem? (i := 159) rfl) rfl
theorem z2_160 : Cond.code ⟨"StreamWatch$AlertLog", "total", "()I"⟩ prog_2_method_2_code 1 (Option.some FieldType.int) ∈ zTb := zin2 (List.mem_of_getElem? (i := 160) rfl) rfl
theorem z2_161 : Cond.methodLink "StreamWatch" 125 ⟨"StreamWatch$Flow", "free", "()V"⟩ ∈ zTb := zin2 (List.mem_of_getElem? (i := 161) rfl) rfl
theorem z2_162 : Cond.instanceMethod ⟨"StreamWatch$Flow", "free", "()V"⟩ ∈ zTb := zin2 (List.mem_of_getElem? (i := 162) rfl) rfl
theorem z2_163 : Cond.selects "StreamWatch$Flow" ⟨"StreamWatch$Flow", "free", "()V"⟩ ⟨"StreamWatch$Flow", "free", "()V"⟩ ∈ zTb := zin2 (List.mem_of_getElem? (i := 163) rfl) rfl
theorem z2_164 : Cond.code ⟨"StreamWatch$Flow", "free", "()V"⟩ prog_3_method_4_code 1 (Option.none : Option FieldType) ∈ zTb := zin2 (List.mem_of_getElem? (i := 164) rfl) rfl
theorem z2_165 : Cond.methodLink "StreamWatch" 130 ⟨"StreamWatch$Flow", "wayOf", "(LStreamWatch$Packet;)I"⟩ ∈ zTb := zin2 (List.mem_of_getElem? (i := 165) rfl) rfl
theorem z2_166 : Cond.methodLink "StreamWatch" 134 ⟨"StreamWatch", "receive", "(LStreamWatch$Flow;I)V"⟩ ∈ zTb := zin2 (List.mem_of_getElem? (i := 166) rfl) rfl
theorem z2_168 : Cond.instanceMethod ⟨"StreamWatch", "receive", "(LStreamWatch$Flow;I)V"⟩ ∈ zTb := zin2 (List.mem_of_getElem? (i := 168) rfl) rfl
theorem z2_169 : Cond.code ⟨"StreamWatch", "receive", "(LStreamWatch$Flow;I)V"⟩ prog_1_method_19_code 5 (Option.none : Option FieldType) ∈ zTb := zin2 (List.mem_of_getElem? (i := 169) rfl) rfl
theorem z2_170 : Cond.methodLink "StreamWatch" 235 ⟨"StreamWatch$Flow", "streamOf", "(I)LStreamWatch$Stream;"⟩ ∈ zTb := zin2 (List.mem_of_getElem? (i := 170) rfl) rfl
theorem z2_171 : Cond.instanceMethod ⟨"StreamWatch$Flow", "streamOf", "(I)LStreamWatch$Stream;"⟩ ∈ zTb := zin2 (List.mem_of_getElem? (i := 171) rfl) rfl
theorem z2_172 : Cond.selects "StreamWatch$Flow" ⟨"StreamWatch$Flow", "streamOf", "(I)LStreamWatch$Stream;"⟩ ⟨"StreamWatch$Flow", "streamOf", "(I)LStreamWatch$Stream;"⟩ ∈ zTb := zin2 (List.mem_of_getElem? (i := 172) rfl) rfl
theorem z2_173 : Cond.code ⟨"StreamWatch$Flow", "streamOf", "(I)LStreamWatch$Stream;"⟩ prog_3_method_7_code 2 (Option.some (FieldType.object "StreamWatch$Stream")) ∈ zTb := zin2 (List.mem_of_getElem? (i := 173) rfl) rfl
theorem z2_174 : Cond.methodLink "StreamWatch" 242 ⟨"StreamWatch$Stream", "begin", "(I)V"⟩ ∈ zTb := zin2 (List.mem_of_getElem? (i := 174) rfl) rfl
theorem z2_175 : Cond.instanceMethod ⟨"StreamWatch$Stream", "begin", "(I)V"⟩ ∈ zTb := zin2 (List.mem_of_getElem? (i := 175) rfl) rfl
theorem z2_176 : Cond.selects "StreamWatch$Stream" ⟨"StreamWatch$Stream", "begin", "(I)V"⟩ ⟨"StreamWatch$Stream", "begin", "(I)V"⟩ ∈ zTb := zin2 (List.mem_of_getElem? (i := 176) rfl) rfl
theorem z2_177 : Cond.code ⟨"StreamWatch$Stream", "begin", "(I)V"⟩ prog_10_method_3_code 2 (Option.none : Option FieldType) ∈ zTb := zin2 (List.mem_of_getElem? (i := 177) rfl) rfl
theorem z2_178 : Cond.methodLink "StreamWatch" 246 ⟨"StreamWatch", "holdData", "(LStreamWatch$Stream;)V"⟩ ∈ zTb := zin2 (List.mem_of_getElem? (i := 178) rfl) rfl
theorem z2_180 : Cond.instanceMethod ⟨"StreamWatch", "holdData", "(LStreamWatch$Stream;)V"⟩ ∈ zTb := zin2 (List.mem_of_getElem? (i := 180) rfl) rfl
theorem z2_181 : Cond.code ⟨"StreamWatch", "holdData", "(LStreamWatch$Stream;)V"⟩ prog_1_method_20_code 3 (Option.none : Option FieldType) ∈ zTb := zin2 (List.mem_of_getElem? (i := 181) rfl) rfl
theorem z2_182 : Cond.methodLink "StreamWatch" 272 ⟨"StreamWatch$Stream", "hold", "(IIZ)V"⟩ ∈ zTb := zin2 (List.mem_of_getElem? (i := 182) rfl) rfl
theorem z2_183 : Cond.instanceMethod ⟨"StreamWatch$Stream", "hold", "(IIZ)V"⟩ ∈ zTb := zin2 (List.mem_of_getElem? (i := 183) rfl) rfl
theorem z2_184 : Cond.selects "StreamWatch$Stream" ⟨"StreamWatch$Stream", "hold", "(IIZ)V"⟩ ⟨"StreamWatch$Stream", "hold", "(IIZ)V"⟩ ∈ zTb := zin2 (List.mem_of_getElem? (i := 184) rfl) rfl
theorem z2_185 : Cond.code ⟨"StreamWatch$Stream", "hold", "(IIZ)V"⟩ prog_10_method_4_code 6 (Option.none : Option FieldType) ∈ zTb := zin2 (List.mem_of_getElem? (i := 185) rfl) rfl
theorem z2_186 : Cond.methodLink "StreamWatch$Stream" 41 ⟨"StreamWatch$Stream", "placeOf", "(I)I"⟩ ∈ zTb := zin2 (List.mem_of_getElem? (i := 186) rfl) rfl
theorem z2_187 : Cond.static ⟨"StreamWatch$Stream", "placeOf", "(I)I"⟩ ∈ zTb := zin2 (List.mem_of_getElem? (i := 187) rfl) rfl
theorem z2_188 : Cond.code ⟨"StreamWatch$Stream", "placeOf", "(I)I"⟩ prog_10_method_16_code 1 (Option.some FieldType.int) ∈ zTb := zin2 (List.mem_of_getElem? (i := 188) rfl) rfl
theorem z2_189 : Cond.methodLink "StreamWatch" 250 ⟨"StreamWatch$Stream", "isNextHeld", "()Z"⟩ ∈ zTb := zin2 (List.mem_of_getElem? (i := 189) rfl) rfl
theorem z2_190 : Cond.instanceMethod ⟨"StreamWatch$Stream", "isNextHeld", "()Z"⟩ ∈ zTb := zin2 (List.mem_of_getElem? (i := 190) rfl) rfl
theorem z2_191 : Cond.selects "StreamWatch$Stream" ⟨"StreamWatch$Stream", "isNextHeld", "()Z"⟩ ⟨"StreamWatch$Stream", "isNextHeld", "()Z"⟩ ∈ zTb := zin2 (List.mem_of_getElem? (i := 191) rfl) rfl
theorem z2_192 : Cond.code ⟨"StreamWatch$Stream", "isNextHeld", "()Z"⟩ prog_10_method_5_code 1 (Option.some FieldType.boolean) ∈ zTb := zin2 (List.mem_of_getElem? (i := 192) rfl) rfl
theorem z2_193 : Cond.methodLink "StreamWatch" 253 ⟨"StreamWatch$Stream", "takeNext", "()Z"⟩ ∈ zTb := zin2 (List.mem_of_getElem? (i := 193) rfl) rfl
theorem z2_194 : Cond.instanceMethod ⟨"StreamWatch$Stream", "takeNext", "()Z"⟩ ∈ zTb := zin2 (List.mem_of_getElem? (i := 194) rfl) rfl
theorem z2_195 : Cond.selects "StreamWatch$Stream" ⟨"StreamWatch$Stream", "takeNext", "()Z"⟩ ⟨"StreamWatch$Stream", "takeNext", "()Z"⟩ ∈ zTb := zin2 (List.mem_of_getElem? (i := 195) rfl) rfl
theorem z2_196 : Cond.code ⟨"StreamWatch$Stream", "takeNext", "()Z"⟩ prog_10_method_6_code 3 (Option.some FieldType.boolean) ∈ zTb := zin2 (List.mem_of_getElem? (i := 196) rfl) rfl
theorem z2_197 : Cond.methodLink "StreamWatch" 256 ⟨"StreamWatch", "raiseAlerts", "(LStreamWatch$Flow;LStreamWatch$Stream;I)V"⟩ ∈ zTb := zin2 (List.mem_of_getElem? (i := 197) rfl) rfl
theorem z2_199 : Cond.instanceMethod ⟨"StreamWatch", "raiseAlerts", "(LStreamWatch$Flow;LStreamWatch$Stream;I)V"⟩ ∈ zTb := zin2 (List.mem_of_getElem? (i := 199) rfl) rfl
theorem z2_200 : Cond.code ⟨"StreamWatch", "raiseAlerts", "(LStreamWatch$Flow;LStreamWatch$Stream;I)V"⟩ prog_1_method_21_code 6 (Option.none : Option FieldType) ∈ zTb := zin2 (List.mem_of_getElem? (i := 200) rfl) rfl
theorem z2_201 : Cond.methodLink "StreamWatch" 159 ⟨"StreamWatch", "ruleAt", "(I)LStreamWatch$Rule;"⟩ ∈ zTb := zin2 (List.mem_of_getElem? (i := 201) rfl) rfl
theorem z2_203 : Cond.instanceMethod ⟨"StreamWatch", "ruleAt", "(I)LStreamWatch$Rule;"⟩ ∈ zTb := zin2 (List.mem_of_getElem? (i := 203) rfl) rfl
theorem z2_204 : Cond.code ⟨"StreamWatch", "ruleAt", "(I)LStreamWatch$Rule;"⟩ prog_1_method_22_code 2 (Option.some (FieldType.object "StreamWatch$Rule")) ∈ zTb := zin2 (List.mem_of_getElem? (i := 204) rfl) rfl
theorem z2_205 : Cond.methodLink "StreamWatch" 276 ⟨"StreamWatch$Rule", "isFor", "(II)Z"⟩ ∈ zTb := zin2 (List.mem_of_getElem? (i := 205) rfl) rfl
theorem z2_206 : Cond.instanceMethod ⟨"StreamWatch$Rule", "isFor", "(II)Z"⟩ ∈ zTb := zin2 (List.mem_of_getElem? (i := 206) rfl) rfl
theorem z2_207 : Cond.selects "StreamWatch$Rule" ⟨"StreamWatch$Rule", "isFor", "(II)Z"⟩ ⟨"StreamWatch$Rule", "isFor", "(II)Z"⟩ ∈ zTb := zin2 (List.mem_of_getElem? (i := 207) rfl) rfl
theorem z2_208 : Cond.code ⟨"StreamWatch$Rule", "isFor", "(II)Z"⟩ prog_8_method_5_code 4 (Option.some FieldType.boolean) ∈ zTb := zin2 (List.mem_of_getElem? (i := 208) rfl) rfl
theorem z2_209 : Cond.methodLink "StreamWatch" 279 ⟨"StreamWatch$Stream", "hasRaised", "(I)Z"⟩ ∈ zTb := zin2 (List.mem_of_getElem? (i := 209) rfl) rfl
theorem z2_210 : Cond.instanceMethod ⟨"StreamWatch$Stream", "hasRaised", "(I)Z"⟩ ∈ zTb := zin2 (List.mem_of_getElem? (i := 210) rfl) rfl
theorem z2_211 : Cond.selects "StreamWatch$Stream" ⟨"StreamWatch$Stream", "hasRaised", "(I)Z"⟩ ⟨"StreamWatch$Stream", "hasRaised", "(I)Z"⟩ ∈ zTb := zin2 (List.mem_of_getElem? (i := 211) rfl) rfl
theorem z2_212 : Cond.code ⟨"StreamWatch$Stream", "hasRaised", "(I)Z"⟩ prog_10_method_13_code 2 (Option.some FieldType.boolean) ∈ zTb := zin2 (List.mem_of_getElem? (i := 212) rfl) rfl
theorem z2_213 : Cond.methodLink "StreamWatch" 282 ⟨"StreamWatch$Search", "holds", "(LStreamWatch$Rule;LStreamWatch$Stream;)Z"⟩ ∈ zTb := zin2 (List.mem_of_getElem? (i := 213) rfl) rfl
theorem z2_214 : Cond.instanceMethod ⟨"StreamWatch$Search", "holds", "(LStreamWatch$Rule;LStreamWatch$Stream;)Z"⟩ ∈ zTb := zin2 (List.mem_of_getElem? (i := 214) rfl) rfl
theorem z2_215 : Cond.selects "StreamWatch$Search" ⟨"StreamWatch$Search", "holds", "(LStreamWatch$Rule;LStreamWatch$Stream;)Z"⟩ ⟨"StreamWatch$Search", "holds", "(LStreamWatch$Rule;LStreamWatch$Stream;)Z"⟩ ∈ zTb := zin2 (List.mem_of_getElem? (i := 215) rfl) rfl
theorem z2_216 : Cond.code ⟨"StreamWatch$Search", "holds", "(LStreamWatch$Rule;LStreamWatch$Stream;)Z"⟩ prog_9_method_2_code 7 (Option.some FieldType.boolean) ∈ zTb := zin2 (List.mem_of_getElem? (i := 216) rfl) rfl
theorem z2_217 : Cond.methodLink "StreamWatch$Search" 19 ⟨"StreamWatch$Stream", "size", "()I"⟩ ∈ zTb := zin2 (List.mem_of_getElem? (i := 217) rfl) rfl
theorem z2_218 : Cond.instanceMethod ⟨"StreamWatch$Stream", "size", "()I"⟩ ∈ zTb := zin2 (List.mem_of_getElem? (i := 218) rfl) rfl
theorem z2_219 : Cond.selects "StreamWatch$Stream" ⟨"StreamWatch$Stream", "size", "()I"⟩ ⟨"StreamWatch$Stream", "size", "()I"⟩ ∈ zTb := zin2 (List.mem_of_getElem? (i := 219) rfl) rfl
theorem z2_220 : Cond.code ⟨"StreamWatch$Stream", "size", "()I"⟩ prog_10_method_9_code 1 (Option.some FieldType.int) ∈ zTb := zin2 (List.mem_of_getElem? (i := 220) rfl) rfl
theorem z2_221 : Cond.methodLink "StreamWatch$Search" 25 ⟨"StreamWatch$Marks", "markStartOnly", "(I)V"⟩ ∈ zTb := zin2 (List.mem_of_getElem? (i := 221) rfl) rfl
theorem z2_222 : Cond.instanceMethod ⟨"StreamWatch$Marks", "markStartOnly", "(I)V"⟩ ∈ zTb := zin2 (List.mem_of_getElem? (i := 222) rfl) rfl
theorem z2_223 : Cond.selects "StreamWatch$Marks" ⟨"StreamWatch$Marks", "markStartOnly", "(I)V"⟩ ⟨"StreamWatch$Marks", "markStartOnly", "(I)V"⟩ ∈ zTb := zin2 (List.mem_of_getElem? (i := 223) rfl) rfl
theorem z2_224 : Cond.code ⟨"StreamWatch$Marks", "markStartOnly", "(I)V"⟩ prog_5_method_2_code 3 (Option.none : Option FieldType) ∈ zTb := zin2 (List.mem_of_getElem? (i := 224) rfl) rfl
theorem z2_225 : Cond.methodLink "StreamWatch$Marks" 23 ⟨"StreamWatch$Marks", "set", "(IZ)V"⟩ ∈ zTb := zin2 (List.mem_of_getElem? (i := 225) rfl) rfl
theorem z2_226 : Cond.instanceMethod ⟨"StreamWatch$Marks", "set", "(IZ)V"⟩ ∈ zTb := zin2 (List.mem_of_getElem? (i := 226) rfl) rfl
theorem z2_227 : Cond.selects "StreamWatch$Marks" ⟨"StreamWatch$Marks", "set", "(IZ)V"⟩ ⟨"StreamWatch$Marks", "set", "(IZ)V"⟩ ∈ zTb := zin2 (List.mem_of_getElem? (i := 227) rfl) rfl
theorem z2_228 : Cond.code ⟨"StreamWatch$Marks", "set", "(IZ)V"⟩ prog_5_method_3_code 3 (Option.none : Option FieldType) ∈ zTb := zin2 (List.mem_of_getElem? (i := 228) rfl) rfl
theorem z2_229 : Cond.methodLink "StreamWatch$Marks" 27 ⟨"StreamWatch$Marks", "settle", "(I)V"⟩ ∈ zTb := zin2 (List.mem_of_getElem? (i := 229) rfl) rfl
theorem z2_230 : Cond.instanceMethod ⟨"StreamWatch$Marks", "settle", "(I)V"⟩ ∈ zTb := zin2 (List.mem_of_getElem? (i := 230) rfl) rfl
theorem z2_231 : Cond.selects "StreamWatch$Marks" ⟨"StreamWatch$Marks", "settle", "(I)V"⟩ ⟨"StreamWatch$Marks", "settle", "(I)V"⟩ ∈ zTb := zin2 (List.mem_of_getElem? (i := 231) rfl) rfl
theorem z2_232 : Cond.code ⟨"StreamWatch$Marks", "settle", "(I)V"⟩ prog_5_method_5_code 4 (Option.none : Option FieldType) ∈ zTb := zin2 (List.mem_of_getElem? (i := 232) rfl) rfl
theorem z2_233 : Cond.methodLink "StreamWatch$Search" 29 ⟨"StreamWatch$Rule", "size", "()I"⟩ ∈ zTb := zin2 (List.mem_of_getElem? (i := 233) rfl) rfl
theorem z2_234 : Cond.instanceMethod ⟨"StreamWatch$Rule", "size", "()I"⟩ ∈ zTb := zin2 (List.mem_of_getElem? (i := 234) rfl) rfl
theorem z2_235 : Cond.selects "StreamWatch$Rule" ⟨"StreamWatch$Rule", "size", "()I"⟩ ⟨"StreamWatch$Rule", "size", "()I"⟩ ∈ zTb := zin2 (List.mem_of_getElem? (i := 235) rfl) rfl
theorem z2_236 : Cond.code ⟨"StreamWatch$Rule", "size", "()I"⟩ prog_8_method_2_code 1 (Option.some FieldType.int) ∈ zTb := zin2 (List.mem_of_getElem? (i := 236) rfl) rfl
theorem z2_237 : Cond.methodLink "StreamWatch$Search" 32 ⟨"StreamWatch$Rule", "at", "(I)LStreamWatch$Option;"⟩ ∈ zTb := zin2 (List.mem_of_getElem? (i := 237) rfl) rfl
theorem z2_238 : Cond.instanceMethod ⟨"StreamWatch$Rule", "at", "(I)LStreamWatch$Option;"⟩ ∈ zTb := zin2 (List.mem_of_getElem? (i := 238) rfl) rfl
theorem z2_239 : Cond.selects "StreamWatch$Rule" ⟨"StreamWatch$Rule", "at", "(I)LStreamWatch$Option;"⟩ ⟨"StreamWatch$Rule", "at", "(I)LStreamWatch$Option;"⟩ ∈ zTb := zin2 (List.mem_of_getElem? (i := 239) rfl) rfl
theorem z3_0 : Cond.code ⟨"StreamWatch$Rule", "at", "(I)LStreamWatch$Option;"⟩ prog_8_method_4_code 2 (Option.some (FieldType.object "StreamWatch$Option")) ∈ zTb := zin3 (List.mem_of_getElem? (i := 0) rfl) rfl
theorem z3_1 : Cond.methodLink "StreamWatch$Search" 36 ⟨"StreamWatch$Search", "find", "(LStreamWatch$Option;LStreamWatch$Stream;)V"⟩ ∈ zTb := zin3 (List.mem_of_getElem? (i := 1) rfl) rfl
theorem z3_3 : Cond.instanceMethod ⟨"StreamWatch$Search", "find", "(LStreamWatch$Option;LStreamWatch$Stream;)V"⟩ ∈ zTb := zin3 (List.mem_of_getElem? (i := 3) rfl) rfl
theorem z3_4 : Cond.code ⟨"StreamWatch$Search", "find", "(LStreamWatch$Option;LStreamWatch$Stream;)V"⟩ prog_9_method_3_code 5 (Option.none : Option FieldType) ∈ zTb := zin3 (List.mem_of_getElem? (i := 4) rfl) rfl
theorem z3_5 : Cond.methodLink "StreamWatch$Search" 60 ⟨"StreamWatch$Option", "standsAt", "(ILStreamWatch$Stream;)Z"⟩ ∈ zTb := zin3 (List.mem_of_getElem? (i := 5) rfl) rfl
theorem z3_6 : Cond.instanceMethod ⟨"StreamWatch$Option", "standsAt", "(ILStreamWatch$Stream;)Z"⟩ ∈ zTb := zin3 (List.mem_of_getElem? (i := 6) rfl) rfl
theorem z3_7 : Cond.selects "StreamWatch$Option" ⟨"StreamWatch$Option", "standsAt", "(ILStreamWatch$Stream;)Z"⟩ ⟨"StreamWatch$Option", "standsAt", "(ILStreamWatch$Stream;)Z"⟩ ∈ zTb := zin3 (List.mem_of_getElem? (i := 7) rfl) rfl
theorem z3_8 : Cond.code ⟨"StreamWatch$Option", "standsAt", "(ILStreamWatch$Stream;)Z"⟩ prog_6_method_2_code 5 (Option.some FieldType.boolean) ∈ zTb := zin3 (List.mem_of_getElem? (i := 8) rfl) rfl
theorem z3_9 : Cond.methodLink "StreamWatch$Option" 35 ⟨"StreamWatch$Stream", "size", "()I"⟩ ∈ zTb := zin3 (List.mem_of_getElem? (i := 9) rfl) rfl
theorem z3_10 : Cond.methodLink "StreamWatch$Option" 40 ⟨"StreamWatch$Stream", "byteAt", "(I)I"⟩ ∈ zTb := zin3 (List.mem_of_getElem? (i := 10) rfl) rfl
theorem z3_11 : Cond.instanceMethod ⟨"StreamWatch$Stream", "byteAt", "(I)I"⟩ ∈ zTb := zin3 (List.mem_of_getElem? (i := 11) rfl) rfl
theorem z3_12 : Cond.selects "StreamWatch$Stream" ⟨"StreamWatch$Stream", "byteAt", "(I)I"⟩ ⟨"StreamWatch$Stream", "byteAt", "(I)I"⟩ ∈ zTb := zin3 (List.mem_of_getElem? (i := 12) rfl) rfl
theorem z3_13 : Cond.code ⟨"StreamWatch$Stream", "byteAt", "(I)I"⟩ prog_10_method_12_code 2 (Option.some FieldType.int) ∈ zTb := zin3 (List.mem_of_getElem? (i := 13) rfl) rfl
theorem z3_14 : Cond.methodLink "StreamWatch$Option" 44 ⟨"StreamWatch$Option", "folded", "(I)I"⟩ ∈ zTb := zin3 (List.mem_of_getElem? (i := 14) rfl) rfl
theorem z3_16 : Cond.instanceMethod ⟨"StreamWatch$Option", "folded", "(I)I"⟩ ∈ zTb := zin3 (List.mem_of_getElem? (i := 16) rfl) rfl
theorem z3_17 : Cond.instantiable "StreamWatch$Option" 7 ∈ zTb := zin3 (List.mem_of_getElem? (i := 17) rfl) rfl
theorem z3_18 : Cond.code ⟨"StreamWatch$Option", "folded", "(I)I"⟩ prog_6_method_3_code 2 (Option.some FieldType.int) ∈ zTb := zin3 (List.mem_of_getElem? (i := 18) rfl) rfl
theorem z3_19 : Cond.methodLink "StreamWatch$Search" 64 ⟨"StreamWatch$Marks", "set", "(IZ)V"⟩ ∈ zTb := zin3 (List.mem_of_getElem? (i := 19) rfl) rfl
theorem z3_20 : Cond.methodLink "StreamWatch$Search" 53 ⟨"StreamWatch$Marks", "settle", "(I)V"⟩ ∈ zTb := zin3 (List.mem_of_getElem? (i := 20) rfl) rfl
theorem z3_21 : Cond.methodLink "StreamWatch$Search" 46 ⟨"StreamWatch$Search", "dropBases", "(LStreamWatch$Option;I)V"⟩ ∈ zTb := zin3 (List.mem_of_getElem? (i := 21) rfl) rfl
theorem z3_23 : Cond.instanceMethod ⟨"StreamWatch$Search", "dropBases", "(LStreamWatch$Option;I)V"⟩ ∈ zTb := zin3 (List.mem_of_getElem? (i := 23) rfl) rfl
theorem z3_24 : Cond.code ⟨"StreamWatch$Search", "dropBases", "(LStreamWatch$Option;I)V"⟩ prog_9_method_4_code 5 (Option.none : Option FieldType) ∈ zTb := zin3 (List.mem_of_getElem? (i := 24) rfl) rfl
theorem z3_25 : Cond.methodLink "StreamWatch$Search" 56 ⟨"StreamWatch$Marks", "isAnyIn", "(II)Z"⟩ ∈ zTb := zin3 (List.mem_of_getElem? (i := 25) rfl) rfl
theorem z3_26 : Cond.instanceMethod ⟨"StreamWatch$Marks", "isAnyIn", "(II)Z"⟩ ∈ zTb := zin3 (List.mem_of_getElem? (i := 26) rfl) rfl
theorem z3_27 : Cond.selects "StreamWatch$Marks" ⟨"StreamWatch$Marks", "isAnyIn", "(II)Z"⟩ ⟨"StreamWatch$Marks", "isAnyIn", "(II)Z"⟩ ∈ zTb := zin3 (List.mem_of_getElem? (i := 27) rfl) rfl
theorem z3_28 : Cond.code ⟨"StreamWatch$Marks", "isAnyIn", "(II)Z"⟩ prog_5_method_6_code 4 (Option.some FieldType.boolean) ∈ zTb := zin3 (List.mem_of_getElem? (i := 28) rfl) rfl
theorem z3_29 : Cond.methodLink "StreamWatch$Marks" 31 ⟨"java/lang/Math", "min", "(II)I"⟩ ∈ zTb := zin3 (List.mem_of_getElem? (i := 29) rfl) rfl
theorem z3_30 : Cond.static ⟨"java/lang/Math", "min", "(II)I"⟩ ∈ zTb := zin3 (List.mem_of_getElem? (i := 30) rfl) rfl
theorem z3_31 : Cond.code ⟨"java/lang/Math", "min", "(II)I"⟩ prog_17_method_69_code 2 (Option.some FieldType.int) ∈ zTb := zin3 (List.mem_of_getElem? (i := 31) rfl) rfl
theorem z3_32 : Cond.methodLink "StreamWatch$Marks" 37 ⟨"java/lang/Math", "max", "(II)I"⟩ ∈ zTb := zin3 (List.mem_of_getElem? (i := 32) rfl) rfl
theorem z3_33 : Cond.static ⟨"java/lang/Math", "max", "(II)I"⟩ ∈ zTb := zin3 (List.mem_of_getElem? (i := 33) rfl) rfl
theorem z3_34 : Cond.code ⟨"java/lang/Math", "max", "(II)I"⟩ prog_17_method_65_code 2 (Option.some FieldType.int) ∈ zTb := zin3 (List.mem_of_getElem? (i := 34) rfl) rfl
theorem z3_35 : Cond.methodLink "StreamWatch$Search" 50 ⟨"StreamWatch$Search", "moveBases", "(LStreamWatch$Option;I)V"⟩ ∈ zTb := zin3 (List.mem_of_getElem? (i := 35) rfl) rfl
theorem z3_37 : Cond.instanceMethod ⟨"StreamWatch$Search", "moveBases", "(LStreamWatch$Option;I)V"⟩ ∈ zTb := zin3 (List.mem_of_getElem? (i := 37) rfl) rfl
theorem z3_38 : Cond.code ⟨"StreamWatch$Search", "moveBases", "(LStreamWatch$Option;I)V"⟩ prog_9_method_5_code 6 (Option.none : Option FieldType) ∈ zTb := zin3 (List.mem_of_getElem? (i := 38) rfl) rfl
theorem z3_39 : Cond.methodLink "StreamWatch$Search" 80 ⟨"StreamWatch$Marks", "has", "(I)Z"⟩ ∈ zTb := zin3 (List.mem_of_getElem? (i := 39) rfl) rfl
theorem z3_40 : Cond.instanceMethod ⟨"StreamWatch$Marks", "has", "(I)Z"⟩ ∈ zTb := zin3 (List.mem_of_getElem? (i := 40) rfl) rfl
theorem z3_41 : Cond.selects "StreamWatch$Marks" ⟨"StreamWatch$Marks", "has", "(I)Z"⟩ ⟨"StreamWatch$Marks", "has", "(I)Z"⟩ ∈ zTb := zin3 (List.mem_of_getElem? (i := 41) rfl) rfl
theorem z3_42 : Cond.code ⟨"StreamWatch$Marks", "has", "(I)Z"⟩ prog_5_method_4_code 2 (Option.some FieldType.boolean) ∈ zTb := zin3 (List.mem_of_getElem? (i := 42) rfl) rfl
theorem z3_43 : Cond.methodLink "StreamWatch" 286 ⟨"StreamWatch$Stream", "setRaised", "(I)V"⟩ ∈ zTb := zin3 (List.mem_of_getElem? (i := 43) rfl) rfl
theorem z3_44 : Cond.instanceMethod ⟨"StreamWatch$Stream", "setRaised", "(I)V"⟩ ∈ zTb := zin3 (List.mem_of_getElem? (i := 44) rfl) rfl
theorem z3_45 : Cond.selects "StreamWatch$Stream" ⟨"StreamWatch$Stream", "setRaised", "(I)V"⟩ ⟨"StreamWatch$Stream", "setRaised", "(I)V"⟩ ∈ zTb := zin3 (List.mem_of_getElem? (i := 45) rfl) rfl
theorem z3_46 : Cond.code ⟨"StreamWatch$Stream", "setRaised", "(I)V"⟩ prog_10_method_14_code 2 (Option.none : Option FieldType) ∈ zTb := zin3 (List.mem_of_getElem? (i := 46) rfl) rfl
theorem z3_47 : Cond.methodLink "StreamWatch" 200 ⟨"StreamWatch$Stream", "size", "()I"⟩ ∈ zTb := zin3 (List.mem_of_getElem? (i := 47) rfl) rfl
theorem z3_48 : Cond.methodLink "StreamWatch" 289 ⟨"StreamWatch$AlertLog", "add", "(IIII)V"⟩ ∈ zTb := zin3 (List.mem_of_getElem? (i := 48) rfl) rfl
theorem z3_49 : Cond.instanceMethod ⟨"StreamWatch$AlertLog", "add", "(IIII)V"⟩ ∈ zTb := zin3 (List.mem_of_getElem? (i := 49) rfl) rfl
theorem z3_50 : Cond.selects "StreamWatch$AlertLog" ⟨"StreamWatch$AlertLog", "add", "(IIII)V"⟩ ⟨"StreamWatch$AlertLog", "add", "(IIII)V"⟩ ∈ zTb := zin3 (List.mem_of_getElem? (i := 50) rfl) rfl
theorem z3_51 : Cond.code ⟨"StreamWatch$AlertLog", "add", "(IIII)V"⟩ prog_2_method_3_code 6 (Option.none : Option FieldType) ∈ zTb := zin3 (List.mem_of_getElem? (i := 51) rfl) rfl
theorem z3_52 : Cond.methodLink "StreamWatch" 203 ⟨"StreamWatch$Stream", "next", "()I"⟩ ∈ zTb := zin3 (List.mem_of_getElem? (i := 52) rfl) rfl
theorem z3_53 : Cond.instanceMethod ⟨"StreamWatch$Stream", "next", "()I"⟩ ∈ zTb := zin3 (List.mem_of_getElem? (i := 53) rfl) rfl
theorem z3_54 : Cond.selects "StreamWatch$Stream" ⟨"StreamWatch$Stream", "next", "()I"⟩ ⟨"StreamWatch$Stream", "next", "()I"⟩ ∈ zTb := zin3 (List.mem_of_getElem? (i := 54) rfl) rfl
theorem z3_55 : Cond.code ⟨"StreamWatch$Stream", "next", "()I"⟩ prog_10_method_10_code 1 (Option.some FieldType.int) ∈ zTb := zin3 (List.mem_of_getElem? (i := 55) rfl) rfl
theorem z3_56 : Cond.methodLink "StreamWatch" 263 ⟨"StreamWatch$Stream", "end", "()V"⟩ ∈ zTb := zin3 (List.mem_of_getElem? (i := 56) rfl) rfl
theorem z3_57 : Cond.instanceMethod ⟨"StreamWatch$Stream", "end", "()V"⟩ ∈ zTb := zin3 (List.mem_of_getElem? (i := 57) rfl) rfl
theorem z3_58 : Cond.selects "StreamWatch$Stream" ⟨"StreamWatch$Stream", "end", "()V"⟩ ⟨"StreamWatch$Stream", "end", "()V"⟩ ∈ zTb := zin3 (List.mem_of_getElem? (i := 58) rfl) rfl
theorem z3_59 : Cond.code ⟨"StreamWatch$Stream", "end", "()V"⟩ prog_10_method_7_code 1 (Option.none : Option FieldType) ∈ zTb := zin3 (List.mem_of_getElem? (i := 59) rfl) rfl
theorem z3_60 : Cond.methodLink "StreamWatch" 266 ⟨"StreamWatch$Flow", "freeIfBothEnded", "()V"⟩ ∈ zTb := zin3 (List.mem_of_getElem? (i := 60) rfl) rfl
theorem z3_61 : Cond.instanceMethod ⟨"StreamWatch$Flow", "freeIfBothEnded", "()V"⟩ ∈ zTb := zin3 (List.mem_of_getElem? (i := 61) rfl) rfl
theorem z3_62 : Cond.selects "StreamWatch$Flow" ⟨"StreamWatch$Flow", "freeIfBothEnded", "()V"⟩ ⟨"StreamWatch$Flow", "freeIfBothEnded", "()V"⟩ ∈ zTb := zin3 (List.mem_of_getElem? (i := 62) rfl) rfl
theorem z3_63 : Cond.code ⟨"StreamWatch$Flow", "freeIfBothEnded", "()V"⟩ prog_3_method_5_code 1 (Option.none : Option FieldType) ∈ zTb := zin3 (List.mem_of_getElem? (i := 63) rfl) rfl
theorem z3_64 : Cond.methodLink "StreamWatch$Flow" 58 ⟨"StreamWatch$Stream", "hasEnded", "()Z"⟩ ∈ zTb := zin3 (List.mem_of_getElem? (i := 64) rfl) rfl
theorem z3_65 : Cond.instanceMethod ⟨"StreamWatch$Stream", "hasEnded", "()Z"⟩ ∈ zTb := zin3 (List.mem_of_getElem? (i := 65) rfl) rfl
theorem z3_66 : Cond.selects "StreamWatch$Stream" ⟨"StreamWatch$Stream", "hasEnded", "()Z"⟩ ⟨"StreamWatch$Stream", "hasEnded", "()Z"⟩ ∈ zTb := zin3 (List.mem_of_getElem? (i := 66) rfl) rfl
theorem z3_67 : Cond.code ⟨"StreamWatch$Stream", "hasEnded", "()Z"⟩ prog_10_method_8_code 1 (Option.some FieldType.boolean) ∈ zTb := zin3 (List.mem_of_getElem? (i := 67) rfl) rfl
theorem z3_68 : Cond.methodLink "StreamWatch$Flow" 62 ⟨"StreamWatch$Flow", "free", "()V"⟩ ∈ zTb := zin3 (List.mem_of_getElem? (i := 68) rfl) rfl
theorem z3_69 : Cond.methodLink "StreamWatchLaw" 83 ⟨"StreamWatch", "flow", "(II)I"⟩ ∈ zTb := zin3 (List.mem_of_getElem? (i := 69) rfl) rfl
theorem z3_70 : Cond.instanceMethod ⟨"StreamWatch", "flow", "(II)I"⟩ ∈ zTb := zin3 (List.mem_of_getElem? (i := 70) rfl) rfl
theorem z3_71 : Cond.selects "StreamWatch" ⟨"StreamWatch", "flow", "(II)I"⟩ ⟨"StreamWatch", "flow", "(II)I"⟩ ∈ zTb := zin3 (List.mem_of_getElem? (i := 71) rfl) rfl
theorem z3_72 : Cond.code ⟨"StreamWatch", "flow", "(II)I"⟩ prog_1_method_11_code 4 (Option.some FieldType.int) ∈ zTb := zin3 (List.mem_of_getElem? (i := 72) rfl) rfl
theorem z3_73 : Cond.methodLink "StreamWatch" 177 ⟨"StreamWatch$FlowTable", "at", "(I)LStreamWatch$Flow;"⟩ ∈ zTb := zin3 (List.mem_of_getElem? (i := 73) rfl) rfl
theorem z3_74 : Cond.methodLink "StreamWatch" 192 ⟨"StreamWatch$FlowTable", "heardAfter", "(LStreamWatch$Flow;)I"⟩ ∈ zTb := zin3 (List.mem_of_getElem? (i := 74) rfl) rfl
theorem z3_75 : Cond.instanceMethod ⟨"StreamWatch$FlowTable", "heardAfter", "(LStreamWatch$Flow;)I"⟩ ∈ zTb := zin3 (List.mem_of_getElem? (i := 75) rfl) rfl
theorem z3_76 : Cond.selects "StreamWatch$FlowTable" ⟨"StreamWatch$FlowTable", "heardAfter", "(LStreamWatch$Flow;)I"⟩ ⟨"StreamWatch$FlowTable", "heardAfter", "(LStreamWatch$Flow;)I"⟩ ∈ zTb := zin3 (List.mem_of_getElem? (i := 76) rfl) rfl
theorem z3_77 : Cond.code ⟨"StreamWatch$FlowTable", "heardAfter", "(LStreamWatch$Flow;)I"⟩ prog_4_method_6_code 5 (Option.some FieldType.int) ∈ zTb := zin3 (List.mem_of_getElem? (i := 77) rfl) rfl
theorem z3_78 : Cond.methodLink "StreamWatchLaw" 87 ⟨"StreamWatch", "stream", "(III)I"⟩ ∈ zTb := zin3 (List.mem_of_getElem? (i := 78) rfl) rfl
theorem z3_79 : Cond.instanceMethod ⟨"StreamWatch", "stream", "(III)I"⟩ ∈ zTb := zin3 (List.mem_of_getElem? (i := 79) rfl) rfl
theorem z3_80 : Cond.selects "StreamWatch" ⟨"StreamWatch", "stream", "(III)I"⟩ ⟨"StreamWatch", "stream", "(III)I"⟩ ∈ zTb := zin3 (List.mem_of_getElem? (i := 80) rfl) rfl
theorem z3_81 : Cond.code ⟨"StreamWatch", "stream", "(III)I"⟩ prog_1_method_12_code 5 (Option.some FieldType.int) ∈ zTb := zin3 (List.mem_of_getElem? (i := 81) rfl) rfl
theorem z3_82 : Cond.methodLink "StreamWatch" 196 ⟨"StreamWatch", "streamAt", "(II)LStreamWatch$Stream;"⟩ ∈ zTb := zin3 (List.mem_of_getElem? (i := 82) rfl) rfl
theorem z3_84 : Cond.instanceMethod ⟨"StreamWatch", "streamAt", "(II)LStreamWatch$Stream;"⟩ ∈ zTb := zin3 (List.mem_of_getElem? (i := 84) rfl) rfl
theorem z3_85 : Cond.code ⟨"StreamWatch", "streamAt", "(II)LStreamWatch$Stream;"⟩ prog_1_method_23_code 4 (Option.some (FieldType.object "StreamWatch$Stream")) ∈ zTb := zin3 (List.mem_of_getElem? (i := 85) rfl) rfl
theorem z3_86 : Cond.methodLink "StreamWatch" 206 ⟨"StreamWatch$Stream", "heldCount", "()I"⟩ ∈ zTb := zin3 (List.mem_of_getElem? (i := 86) rfl) rfl
theorem z3_87 : Cond.instanceMethod ⟨"StreamWatch$Stream", "heldCount", "()I"⟩ ∈ zTb := zin3 (List.mem_of_getElem? (i := 87) rfl) rfl
theorem z3_88 : Cond.selects "StreamWatch$Stream" ⟨"StreamWatch$Stream", "heldCount", "()I"⟩ ⟨"StreamWatch$Stream", "heldCount", "()I"⟩ ∈ zTb := zin3 (List.mem_of_getElem? (i := 88) rfl) rfl
theorem z3_89 : Cond.code ⟨"StreamWatch$Stream", "heldCount", "()I"⟩ prog_10_method_11_code 1 (Option.some FieldType.int) ∈ zTb := zin3 (List.mem_of_getElem? (i := 89) rfl) rfl
theorem z3_90 : Cond.methodLink "StreamWatch" 209 ⟨"StreamWatch$Stream", "hasEnded", "()Z"⟩ ∈ zTb := zin3 (List.mem_of_getElem? (i := 90) rfl) rfl
theorem z3_91 : Cond.methodLink "StreamWatchLaw" 92 ⟨"StreamWatch", "text", "(III)I"⟩ ∈ zTb := zin3 (List.mem_of_getElem? (i := 91) rfl) rfl
theorem z3_92 : Cond.instanceMethod ⟨"StreamWatch", "text", "(III)I"⟩ ∈ zTb := zin3 (List.mem_of_getElem? (i := 92) rfl) rfl
theorem z3_93 : Cond.selects "StreamWatch" ⟨"StreamWatch", "text", "(III)I"⟩ ⟨"StreamWatch", "text", "(III)I"⟩ ∈ zTb := zin3 (List.mem_of_getElem? (i := 93) rfl) rfl
theorem z3_94 : Cond.code ⟨"StreamWatch", "text", "(III)I"⟩ prog_1_method_13_code 5 (Option.some FieldType.int) ∈ zTb := zin3 (List.mem_of_getElem? (i := 94) rfl) rfl
theorem z3_95 : Cond.methodLink "StreamWatch" 213 ⟨"StreamWatch$Stream", "byteAt", "(I)I"⟩ ∈ zTb := zin3 (List.mem_of_getElem? (i := 95) rfl) rfl
theorem z3_96 : Cond.methodLink "StreamWatchLaw" 96 ⟨"StreamWatch", "alerts", "()I"⟩ ∈ zTb := zin3 (List.mem_of_getElem? (i := 96) rfl) rfl
theorem z3_97 : Cond.instanceMethod ⟨"StreamWatch", "alerts", "()I"⟩ ∈ zTb := zin3 (List.mem_of_getElem? (i := 97) rfl) rfl
theorem z3_98 : Cond.selects "StreamWatch" ⟨"StreamWatch", "alerts", "()I"⟩ ⟨"StreamWatch", "alerts", "()I"⟩ ∈ zTb := zin3 (List.mem_of_getElem? (i := 98) rfl) rfl
theorem z3_99 : Cond.code ⟨"StreamWatch", "alerts", "()I"⟩ prog_1_method_14_code 1 (Option.some FieldType.int) ∈ zTb := zin3 (List.mem_of_getElem? (i := 99) rfl) rfl
theorem z3_100 : Cond.methodLink "StreamWatchLaw" 100 ⟨"StreamWatch", "alert", "(II)I"⟩ ∈ zTb := zin3 (List.mem_of_getElem? (i := 100) rfl) rfl
theorem z3_101 : Cond.instanceMethod ⟨"StreamWatch", "alert", "(II)I"⟩ ∈ zTb := zin3 (List.mem_of_getElem? (i := 101) rfl) rfl
theorem z3_102 : Cond.selects "StreamWatch" ⟨"StreamWatch", "alert", "(II)I"⟩ ⟨"StreamWatch", "alert", "(II)I"⟩ ∈ zTb := zin3 (List.mem_of_getElem? (i := 102) rfl) rfl
theorem z3_103 : Cond.code ⟨"StreamWatch", "alert", "(II)I"⟩ prog_1_method_15_code 3 (Option.some FieldType.int) ∈ zTb := zin3 (List.mem_of_getElem? (i := 103) rfl) rfl
theorem z3_104 : Cond.methodLink "StreamWatch" 216 ⟨"StreamWatch$AlertLog", "read", "(II)I"⟩ ∈ zTb := zin3 (List.mem_of_getElem? (i := 104) rfl) rfl
theorem z3_105 : Cond.instanceMethod ⟨"StreamWatch$AlertLog", "read", "(II)I"⟩ ∈ zTb := zin3 (List.mem_of_getElem? (i := 105) rfl) rfl
theorem z3_106 : Cond.selects "StreamWatch$AlertLog" ⟨"StreamWatch$AlertLog", "read", "(II)I"⟩ ⟨"StreamWatch$AlertLog", "read", "(II)I"⟩ ∈ zTb := zin3 (List.mem_of_getElem? (i := 106) rfl) rfl
theorem z3_107 : Cond.code ⟨"StreamWatch$AlertLog", "read", "(II)I"⟩ prog_2_method_4_code 5 (Option.some FieldType.int) ∈ zTb := zin3 (List.mem_of_getElem? (i := 107) rfl) rfl
theorem z3_108 : Cond.methodLink "StreamWatch$AlertLog" 22 ⟨"java/lang/Math", "min", "(II)I"⟩ ∈ zTb := zin3 (List.mem_of_getElem? (i := 108) rfl) rfl
theorem z3_109 : Cond.methodLink "StreamWatchLaw" 25 ⟨"StreamWatchLaw", "cell", "([II)I"⟩ ∈ zTb := zin3 (List.mem_of_getElem? (i := 109) rfl) rfl
theorem z3_110 : Cond.static ⟨"StreamWatchLaw", "cell", "([II)I"⟩ ∈ zTb := zin3 (List.mem_of_getElem? (i := 110) rfl) rfl
theorem z3_111 : Cond.code ⟨"StreamWatchLaw", "cell", "([II)I"⟩ method_2_code 2 (Option.some FieldType.int) ∈ zTb := zin3 (List.mem_of_getElem? (i := 111) rfl) rfl
theorem z3_112 : Cond.methodLink "StreamWatchLaw" 39 ⟨"StreamWatchLaw", "craft", "(LStreamWatch;IIIIIJ[J)I"⟩ ∈ zTb := zin3 (List.mem_of_getElem? (i := 112) rfl) rfl
theorem z3_113 : Cond.static ⟨"StreamWatchLaw", "craft", "(LStreamWatch;IIIIIJ[J)I"⟩ ∈ zTb := zin3 (List.mem_of_getElem? (i := 113) rfl) rfl
theorem z3_115 : Cond.classLink "StreamWatchLaw" 13 "java/lang/IllegalArgumentException" ∈ zTb := zin3 (List.mem_of_getElem? (i := 115) rfl) rfl
theorem z3_116 : Cond.methodLink "StreamWatchLaw" 7 ⟨"StreamWatch", "craft", "(IIIIIJ)I"⟩ ∈ zTb := zin3 (List.mem_of_getElem? (i := 116) rfl) rfl
theorem z3_117 : Cond.instanceMethod ⟨"StreamWatch", "craft", "(IIIIIJ)I"⟩ ∈ zTb := zin3 (List.mem_of_getElem? (i := 117) rfl) rfl
theorem z3_118 : Cond.selects "StreamWatch" ⟨"StreamWatch", "craft", "(IIIIIJ)I"⟩ ⟨"StreamWatch", "craft", "(IIIIIJ)I"⟩ ∈ zTb := zin3 (List.mem_of_getElem? (i := 118) rfl) rfl
theorem z3_119 : Cond.code ⟨"StreamWatch", "craft", "(IIIIIJ)I"⟩ prog_1_method_2_code 8 (Option.some FieldType.int) ∈ zTb := zin3 (List.mem_of_getElem? (i := 119) rfl) rfl
theorem z3_120 : Cond.classLink "StreamWatch" 58 "java/lang/IllegalArgumentException" ∈ zTb := zin3 (List.mem_of_getElem? (i := 120) rfl) rfl
theorem z3_121 : Cond.instantiable "java/lang/IllegalArgumentException" 6 ∈ zTb := zin3 (List.mem_of_getElem? (i := 121) rfl) rfl
theorem z3_129 : Cond.selects "java/lang/IllegalArgumentException" ⟨"java/lang/Throwable", "fillInStackTrace", "(I)Ljava/lang/Throwable;"⟩ ⟨"java/lang/Throwable", "fillInStackTrace", "(I)Ljava/lang/Throwable;"⟩ ∈ zTb := zin3 (List.mem_of_getElem? (i := 129) rfl) rfl
theorem z3_130 : Cond.selects "java/lang/IllegalArgumentException" ⟨"java/lang/Throwable", "fillInStackTrace", "()Ljava/lang/Throwable;"⟩ ⟨"java/lang/Throwable", "fillInStackTrace", "()Ljava/lang/Throwable;"⟩ ∈ zTb := zin3 (List.mem_of_getElem? (i := 130) rfl) rfl
theorem z3_131 : Cond.lays "java/lang/IllegalArgumentException" "java/lang/Throwable" "cause" "Ljava/lang/Throwable;" ∈ zTb := zin3 (List.mem_of_getElem? (i := 131) rfl) rfl
theorem z3_132 : Cond.lays "java/lang/Throwable" "java/lang/Throwable" "cause" "Ljava/lang/Throwable;" ∈ zTb := zin3 (List.mem_of_getElem? (i := 132) rfl) rfl
theorem z3_133 : Cond.lays "java/lang/IllegalArgumentException" "java/lang/Throwable" "stackTrace" "[Ljava/lang/StackTraceElement;" ∈ zTb := zin3 (List.mem_of_getElem? (i := 133) rfl) rfl
theorem z3_134 : Cond.lays "java/lang/Throwable" "java/lang/Throwable" "stackTrace" "[Ljava/lang/StackTraceElement;" ∈ zTb := zin3 (List.mem_of_getElem? (i := 134) rfl) rfl
theorem z3_135 : Cond.lays "java/lang/IllegalArgumentException" "java/lang/Throwable" "suppressedExceptions" "Ljava/util/List;" ∈ zTb := zin3 (List.mem_of_getElem? (i := 135) rfl) rfl
theorem z3_136 : Cond.lays "java/lang/Throwable" "java/lang/Throwable" "suppressedExceptions" "Ljava/util/List;" ∈ zTb := zin3 (List.mem_of_getElem? (i := 136) rfl) rfl
theorem z3_137 : Cond.lays "java/lang/IllegalArgumentException" "java/lang/Throwable" "detailMessage" "Ljava/lang/String;" ∈ zTb := zin3 (List.mem_of_getElem? (i := 137) rfl) rfl
theorem z3_138 : Cond.lays "java/lang/Throwable" "java/lang/Throwable" "detailMessage" "Ljava/lang/String;" ∈ zTb := zin3 (List.mem_of_getElem? (i := 138) rfl) rfl
theorem z3_139 : Cond.lays "java/lang/IllegalArgumentException" "java/lang/Throwable" "backtrace" "Ljava/lang/Object;" ∈ zTb := zin3 (List.mem_of_getElem? (i := 139) rfl) rfl
theorem z3_140 : Cond.lays "java/lang/Throwable" "java/lang/Throwable" "backtrace" "Ljava/lang/Object;" ∈ zTb := zin3 (List.mem_of_getElem? (i := 140) rfl) rfl
theorem z3_141 : Cond.fieldLink "java/lang/Throwable" 198 "java/lang/Throwable" "backtrace" "Ljava/lang/Object;" ∈ zTb := zin3 (List.mem_of_getElem? (i := 141) rfl) rfl
theorem z3_143 : Cond.instanceMethod ⟨"java/lang/Throwable", "<init>", "()V"⟩ ∈ zTb := zin3 (List.mem_of_getElem? (i := 143) rfl) rfl
theorem z3_144 : Cond.code ⟨"java/lang/Throwable", "<init>", "()V"⟩ prog_20_method_1_code 1 (Option.none : Option FieldType) ∈ zTb := zin3 (List.mem_of_getElem? (i := 144) rfl) rfl
theorem z3_145 : Cond.methodLink "java/lang/Throwable" 1 ⟨"java/lang/Object", "<init>", "()V"⟩ ∈ zTb := zin3 (List.mem_of_getElem? (i := 145) rfl) rfl
theorem z3_146 : Cond.fieldLink "java/lang/Throwable" 13 "java/lang/Throwable" "UNASSIGNED_STACK" "[Ljava/lang/StackTraceElement;" ∈ zTb := zin3 (List.mem_of_getElem? (i := 146) rfl) rfl
theorem z3_148 : Cond.fieldLink "java/lang/Throwable" 20 "java/lang/Throwable" "SUPPRESSED_SENTINEL" "Ljava/util/List;" ∈ zTb := zin3 (List.mem_of_getElem? (i := 148) rfl) rfl
theorem z3_150 : Cond.methodLink "java/lang/Throwable" 27 ⟨"java/lang/Throwable", "fillInStackTrace", "()Ljava/lang/Throwable;"⟩ ∈ zTb := zin3 (List.mem_of_getElem? (i := 150) rfl) rfl
theorem z3_151 : Cond.instanceMethod ⟨"java/lang/Throwable", "fillInStackTrace", "()Ljava/lang/Throwable;"⟩ ∈ zTb := zin3 (List.mem_of_getElem? (i := 151) rfl) rfl
theorem z3_153 : Cond.selects "java/lang/IllegalStateException" ⟨"java/lang/Throwable", "fillInStackTrace", "()Ljava/lang/Throwable;"⟩ ⟨"java/lang/Throwable", "fillInStackTrace", "()Ljava/lang/Throwable;"⟩ ∈ zTb := zin3 (List.mem_of_getElem? (i := 153) rfl) rfl
theorem z3_155 : Cond.methodLink "java/lang/Throwable" 202 ⟨"java/lang/Throwable", "fillInStackTrace", "(I)Ljava/lang/Throwable;"⟩ ∈ zTb := zin3 (List.mem_of_getElem? (i := 155) rfl) rfl
theorem z3_157 : Cond.instanceMethod ⟨"java/lang/Throwable", "fillInStackTrace", "(I)Ljava/lang/Throwable;"⟩ ∈ zTb := zin3 (List.mem_of_getElem? (i := 157) rfl) rfl
theorem z3_158 : Cond.instantiable "java/lang/Throwable" 6 ∈ zTb := zin3 (List.mem_of_getElem? (i := 158) rfl) rfl
theorem z3_161 : Cond.methodLink "StreamWatch" 62 ⟨"java/lang/IllegalArgumentException", "<init>", "(Ljava/lang/String;)V"⟩ ∈ zTb := zin3 (List.mem_of_getElem? (i := 161) rfl) rfl
theorem z3_162 : Cond.instanceMethod ⟨"java/lang/IllegalArgumentException", "<init>", "(Ljava/lang/String;)V"⟩ ∈ zTb := zin3 (List.mem_of_getElem? (i := 162) rfl) rfl
theorem z3_163 : Cond.code ⟨"java/lang/IllegalArgumentException", "<init>", "(Ljava/lang/String;)V"⟩ prog_15_method_2_code 2 (Option.none : Option FieldType) ∈ zTb := zin3 (List.mem_of_getElem? (i := 163) rfl) rfl
theorem z3_164 : Cond.methodLink "java/lang/IllegalArgumentException" 7 ⟨"java/lang/RuntimeException", "<init>", "(Ljava/lang/String;)V"⟩ ∈ zTb := zin3 (List.mem_of_getElem? (i := 164) rfl) rfl
theorem z3_165 : Cond.instanceMethod ⟨"java/lang/RuntimeException", "<init>", "(Ljava/lang/String;)V"⟩ ∈ zTb := zin3 (List.mem_of_getElem? (i := 165) rfl) rfl
theorem z3_166 : Cond.code ⟨"java/lang/RuntimeException", "<init>", "(Ljava/lang/String;)V"⟩ prog_18_method_2_code 2 (Option.none : Option FieldType) ∈ zTb := zin3 (List.mem_of_getElem? (i := 166) rfl) rfl
theorem z3_167 : Cond.methodLink "java/lang/RuntimeException" 7 ⟨"java/lang/Exception", "<init>", "(Ljava/lang/String;)V"⟩ ∈ zTb := zin3 (List.mem_of_getElem? (i := 167) rfl) rfl
theorem z3_168 : Cond.instanceMethod ⟨"java/lang/Exception", "<init>", "(Ljava/lang/String;)V"⟩ ∈ zTb := zin3 (List.mem_of_getElem? (i := 168) rfl) rfl
theorem z3_169 : Cond.code ⟨"java/lang/Exception", "<init>", "(Ljava/lang/String;)V"⟩ prog_14_method_2_code 2 (Option.none : Option FieldType) ∈ zTb := zin3 (List.mem_of_getElem? (i := 169) rfl) rfl
theorem z3_170 : Cond.methodLink "java/lang/Exception" 7 ⟨"java/lang/Throwable", "<init>", "(Ljava/lang/String;)V"⟩ ∈ zTb := zin3 (List.mem_of_getElem? (i := 170) rfl) rfl
theorem z3_171 : Cond.instanceMethod ⟨"java/lang/Throwable", "<init>", "(Ljava/lang/String;)V"⟩ ∈ zTb := zin3 (List.mem_of_getElem? (i := 171) rfl) rfl
theorem z3_172 : Cond.code ⟨"java/lang/Throwable", "<init>", "(Ljava/lang/String;)V"⟩ prog_20_method_2_code 2 (Option.none : Option FieldType) ∈ zTb := zin3 (List.mem_of_getElem? (i := 172) rfl) rfl
theorem z3_173 : Cond.fieldLink "java/lang/Throwable" 198 "java/lang/Throwable" "backtrace" "Ljava/lang/Object;" ∈ zTb := zin3 (List.mem_of_getElem? (i := 173) rfl) rfl
theorem z3_174 : Cond.fieldLink "java/lang/Throwable" 31 "java/lang/Throwable" "detailMessage" "Ljava/lang/String;" ∈ zTb := zin3 (List.mem_of_getElem? (i := 174) rfl) rfl
theorem z3_175 : Cond.fieldLink "java/lang/Throwable" 7 "java/lang/Throwable" "cause" "Ljava/lang/Throwable;" ∈ zTb := zin3 (List.mem_of_getElem? (i := 175) rfl) rfl
theorem z3_176 : Cond.fieldLink "java/lang/Throwable" 17 "java/lang/Throwable" "stackTrace" "[Ljava/lang/StackTraceElement;" ∈ zTb := zin3 (List.mem_of_getElem? (i := 176) rfl) rfl
theorem z3_177 : Cond.fieldLink "java/lang/Throwable" 24 "java/lang/Throwable" "suppressedExceptions" "Ljava/util/List;" ∈ zTb := zin3 (List.mem_of_getElem? (i := 177) rfl) rfl
theorem z3_182 : Cond.lays "java/lang/IllegalArgumentException" "java/lang/Throwable" "depth" "I" ∈ zTb := zin3 (List.mem_of_getElem? (i := 182) rfl) rfl
theorem z3_186 : Cond.arrayClass FieldType.byte ∈ zTb := zin3 (List.mem_of_getElem? (i := 186) rfl) rfl
theorem z3_189 : Cond.methodLink "StreamWatch" 72 ⟨"StreamWatch", "writeIpHeader", "(III)V"⟩ ∈ zTb := zin3 (List.mem_of_getElem? (i := 189) rfl) rfl
theorem z3_191 : Cond.instanceMethod ⟨"StreamWatch", "writeIpHeader", "(III)V"⟩ ∈ zTb := zin3 (List.mem_of_getElem? (i := 191) rfl) rfl
theorem z3_192 : Cond.code ⟨"StreamWatch", "writeIpHeader", "(III)V"⟩ prog_1_method_16_code 5 (Option.none : Option FieldType) ∈ zTb := zin3 (List.mem_of_getElem? (i := 192) rfl) rfl
theorem z3_193 : Cond.constant "StreamWatch" 219 (167772161 : Int32) ∈ zTb := zin3 (List.mem_of_getElem? (i := 193) rfl) rfl
theorem z3_194 : Cond.constantLong "StreamWatch" 220 (17664 : Int64) ∈ zTb := zin3 (List.mem_of_getElem? (i := 194) rfl) rfl
theorem z3_195 : Cond.constantLong "StreamWatch" 222 (393216 : Int64) ∈ zTb := zin3 (List.mem_of_getElem? (i := 195) rfl) rfl
theorem z3_196 : Cond.constantLong "StreamWatch" 224 (167772417 : Int64) ∈ zTb := zin3 (List.mem_of_getElem? (i := 196) rfl) rfl
theorem z3_197 : Cond.methodLink "StreamWatch" 76 ⟨"StreamWatch", "writeTcpHeader", "(IIII)V"⟩ ∈ zTb := zin3 (List.mem_of_getElem? (i := 197) rfl) rfl
theorem z3_199 : Cond.instanceMethod ⟨"StreamWatch", "writeTcpHeader", "(IIII)V"⟩ ∈ zTb := zin3 (List.mem_of_getElem? (i := 199) rfl) rfl
theorem z3_200 : Cond.code ⟨"StreamWatch", "writeTcpHeader", "(IIII)V"⟩ prog_1_method_17_code 6 (Option.none : Option FieldType) ∈ zTb := zin3 (List.mem_of_getElem? (i := 200) rfl) rfl
theorem z3_201 : Cond.constantLong "StreamWatch" 226 (80 : Int64) ∈ zTb := zin3 (List.mem_of_getElem? (i := 201) rfl) rfl
theorem z3_202 : Cond.methodLink "StreamWatchLaw" 75 ⟨"StreamWatchLaw", "rule", "(LStreamWatch;II[J)I"⟩ ∈ zTb := zin3 (List.mem_of_getElem? (i := 202) rfl) rfl
theorem z3_203 : Cond.static ⟨"StreamWatchLaw", "rule", "(LStreamWatch;II[J)I"⟩ ∈ zTb := zin3 (List.mem_of_getElem? (i := 203) rfl) rfl
theorem z3_205 : Cond.classLink "StreamWatchLaw" 19 "java/lang/IllegalStateException" ∈ zTb := zin3 (List.mem_of_getElem? (i := 205) rfl) rfl
theorem z3_206 : Cond.methodLink "StreamWatchLaw" 15 ⟨"StreamWatch", "rule", "(II)I"⟩ ∈ zTb := zin3 (List.mem_of_getElem? (i := 206) rfl) rfl
theorem z3_207 : Cond.instanceMethod ⟨"StreamWatch", "rule", "(II)I"⟩ ∈ zTb := zin3 (List.mem_of_getElem? (i := 207) rfl) rfl
theorem z3_208 : Cond.selects "StreamWatch" ⟨"StreamWatch", "rule", "(II)I"⟩ ⟨"StreamWatch", "rule", "(II)I"⟩ ∈ zTb := zin3 (List.mem_of_getElem? (i := 208) rfl) rfl
theorem z3_209 : Cond.code ⟨"StreamWatch", "rule", "(II)I"⟩ prog_1_method_9_code 3 (Option.some FieldType.int) ∈ zTb := zin3 (List.mem_of_getElem? (i := 209) rfl) rfl
theorem z3_211 : Cond.constant "StreamWatch" 140 (65535 : Int32) ∈ zTb := zin3 (List.mem_of_getElem? (i := 211) rfl) rfl
theorem z3_213 : Cond.classLink "StreamWatch" 143 "java/lang/IllegalStateException" ∈ zTb := zin3 (List.mem_of_getElem? (i := 213) rfl) rfl
theorem z3_214 : Cond.instantiable "java/lang/IllegalStateException" 6 ∈ zTb := zin3 (List.mem_of_getElem? (i := 214) rfl) rfl
theorem z3_216 : Cond.selects "java/lang/IllegalStateException" ⟨"java/lang/Throwable", "fillInStackTrace", "(I)Ljava/lang/Throwable;"⟩ ⟨"java/lang/Throwable", "fillInStackTrace", "(I)Ljava/lang/Throwable;"⟩ ∈ zTb := zin3 (List.mem_of_getElem? (i := 216) rfl) rfl
theorem z3_217 : Cond.lays "java/lang/IllegalStateException" "java/lang/Throwable" "cause" "Ljava/lang/Throwable;" ∈ zTb := zin3 (List.mem_of_getElem? (i := 217) rfl) rfl
theorem z3_218 : Cond.lays "java/lang/IllegalStateException" "java/lang/Throwable" "stackTrace" "[Ljava/lang/StackTraceElement;" ∈ zTb := zin3 (List.mem_of_getElem? (i := 218) rfl) rfl
theorem z3_219 : Cond.lays "java/lang/IllegalStateException" "java/lang/Throwable" "suppressedExceptions" "Ljava/util/List;" ∈ zTb := zin3 (List.mem_of_getElem? (i := 219) rfl) rfl
theorem z3_220 : Cond.lays "java/lang/IllegalStateException" "java/lang/Throwable" "detailMessage" "Ljava/lang/String;" ∈ zTb := zin3 (List.mem_of_getElem? (i := 220) rfl) rfl
theorem z3_221 : Cond.lays "java/lang/IllegalStateException" "java/lang/Throwable" "backtrace" "Ljava/lang/Object;" ∈ zTb := zin3 (List.mem_of_getElem? (i := 221) rfl) rfl
theorem z3_223 : Cond.methodLink "StreamWatch" 147 ⟨"java/lang/IllegalStateException", "<init>", "(Ljava/lang/String;)V"⟩ ∈ zTb := zin3 (List.mem_of_getElem? (i := 223) rfl) rfl
theorem z3_224 : Cond.instanceMethod ⟨"java/lang/IllegalStateException", "<init>", "(Ljava/lang/String;)V"⟩ ∈ zTb := zin3 (List.mem_of_getElem? (i := 224) rfl) rfl
theorem z3_225 : Cond.code ⟨"java/lang/IllegalStateException", "<init>", "(Ljava/lang/String;)V"⟩ prog_16_method_2_code 2 (Option.none : Option FieldType) ∈ zTb := zin3 (List.mem_of_getElem? (i := 225) rfl) rfl
theorem z3_226 : Cond.methodLink "java/lang/IllegalStateException" 7 ⟨"java/lang/RuntimeException", "<init>", "(Ljava/lang/String;)V"⟩ ∈ zTb := zin3 (List.mem_of_getElem? (i := 226) rfl) rfl
theorem z3_227 : Cond.lays "java/lang/IllegalStateException" "java/lang/Throwable" "depth" "I" ∈ zTb := zin3 (List.mem_of_getElem? (i := 227) rfl) rfl
theorem z3_229 : Cond.instantiable "StreamWatch$Rule" 4 ∈ zTb := zin3 (List.mem_of_getElem? (i := 229) rfl) rfl
theorem z3_230 : Cond.methodLink "StreamWatch" 148 ⟨"StreamWatch$Rule", "<init>", "(II)V"⟩ ∈ zTb := zin3 (List.mem_of_getElem? (i := 230) rfl) rfl
theorem z3_231 : Cond.instanceMethod ⟨"StreamWatch$Rule", "<init>", "(II)V"⟩ ∈ zTb := zin3 (List.mem_of_getElem? (i := 231) rfl) rfl
theorem z3_232 : Cond.code ⟨"StreamWatch$Rule", "<init>", "(II)V"⟩ prog_8_method_1_code 3 (Option.none : Option FieldType) ∈ zTb := zin3 (List.mem_of_getElem? (i := 232) rfl) rfl
theorem z3_233 : Cond.methodLink "StreamWatch$Rule" 3 ⟨"java/lang/Object", "<init>", "()V"⟩ ∈ zTb := zin3 (List.mem_of_getElem? (i := 233) rfl) rfl
theorem z3_234 : Cond.classLink "StreamWatch$Rule" 9 "StreamWatch$Option" ∈ zTb := zin3 (List.mem_of_getElem? (i := 234) rfl) rfl
theorem z3_236 : Cond.fieldLink "StreamWatch$Rule" 21 "StreamWatch$Rule" "way" "I" ∈ zTb := zin3 (List.mem_of_getElem? (i := 236) rfl) rfl
theorem z3_237 : Cond.fieldLink "StreamWatch$Rule" 24 "StreamWatch$Rule" "port" "I" ∈ zTb := zin3 (List.mem_of_getElem? (i := 237) rfl) rfl
theorem z3_238 : Cond.fieldLink "StreamWatch$Rule" 11 "StreamWatch$Rule" "options" "[LStreamWatch$Option;" ∈ zTb := zin3 (List.mem_of_getElem? (i := 238) rfl) rfl
theorem z3_239 : Cond.fieldLink "StreamWatch$Rule" 17 "StreamWatch$Rule" "count" "I" ∈ zTb := zin3 (List.mem_of_getElem? (i := 239) rfl) rfl
theorem z4_0 : Cond.laysFinal "StreamWatch$Rule" "StreamWatch$Rule" "way" "I" ∈ zTb := zin4 (List.mem_of_getElem? (i := 0) rfl) rfl
theorem z4_2 : Cond.laysFinal "StreamWatch$Rule" "StreamWatch$Rule" "port" "I" ∈ zTb := zin4 (List.mem_of_getElem? (i := 2) rfl) rfl
theorem z4_4 : Cond.laysFinal "StreamWatch$Rule" "StreamWatch$Rule" "options" "[LStreamWatch$Option;" ∈ zTb := zin4 (List.mem_of_getElem? (i := 4) rfl) rfl
theorem z4_6 : Cond.lays "StreamWatch$Rule" "StreamWatch$Rule" "count" "I" ∈ zTb := zin4 (List.mem_of_getElem? (i := 6) rfl) rfl
theorem z4_9 : Cond.methodLink "StreamWatchLaw" 79 ⟨"StreamWatchLaw", "option", "(LStreamWatch;IJIII[J)I"⟩ ∈ zTb := zin4 (List.mem_of_getElem? (i := 9) rfl) rfl
theorem z4_10 : Cond.static ⟨"StreamWatchLaw", "option", "(LStreamWatch;IJIII[J)I"⟩ ∈ zTb := zin4 (List.mem_of_getElem? (i := 10) rfl) rfl
theorem z4_12 : Cond.methodLink "StreamWatchLaw" 21 ⟨"StreamWatch", "option", "(IJIII)I"⟩ ∈ zTb := zin4 (List.mem_of_getElem? (i := 12) rfl) rfl
theorem z4_13 : Cond.instanceMethod ⟨"StreamWatch", "option", "(IJIII)I"⟩ ∈ zTb := zin4 (List.mem_of_getElem? (i := 13) rfl) rfl
theorem z4_14 : Cond.selects "StreamWatch" ⟨"StreamWatch", "option", "(IJIII)I"⟩ ⟨"StreamWatch", "option", "(IJIII)I"⟩ ∈ zTb := zin4 (List.mem_of_getElem? (i := 14) rfl) rfl
theorem z4_15 : Cond.code ⟨"StreamWatch", "option", "(IJIII)I"⟩ prog_1_method_10_code 8 (Option.some FieldType.int) ∈ zTb := zin4 (List.mem_of_getElem? (i := 15) rfl) rfl
theorem z4_21 : Cond.methodLink "StreamWatch" 165 ⟨"StreamWatch$Rule", "size", "()I"⟩ ∈ zTb := zin4 (List.mem_of_getElem? (i := 21) rfl) rfl
theorem z4_23 : Cond.classLink "StreamWatch" 168 "StreamWatch$Option" ∈ zTb := zin4 (List.mem_of_getElem? (i := 23) rfl) rfl
theorem z4_24 : Cond.methodLink "StreamWatch" 170 ⟨"StreamWatch$Option", "<init>", "(IJIII)V"⟩ ∈ zTb := zin4 (List.mem_of_getElem? (i := 24) rfl) rfl
theorem z4_25 : Cond.instanceMethod ⟨"StreamWatch$Option", "<init>", "(IJIII)V"⟩ ∈ zTb := zin4 (List.mem_of_getElem? (i := 25) rfl) rfl
theorem z4_26 : Cond.code ⟨"StreamWatch$Option", "<init>", "(IJIII)V"⟩ prog_6_method_1_code 7 (Option.none : Option FieldType) ∈ zTb := zin4 (List.mem_of_getElem? (i := 26) rfl) rfl
theorem z4_27 : Cond.methodLink "StreamWatch$Option" 3 ⟨"java/lang/Object", "<init>", "()V"⟩ ∈ zTb := zin4 (List.mem_of_getElem? (i := 27) rfl) rfl
theorem z4_28 : Cond.fieldLink "StreamWatch$Option" 23 "StreamWatch$Option" "not" "Z" ∈ zTb := zin4 (List.mem_of_getElem? (i := 28) rfl) rfl
theorem z4_29 : Cond.fieldLink "StreamWatch$Search" 40 "StreamWatch$Option" "not" "Z" ∈ zTb := zin4 (List.mem_of_getElem? (i := 29) rfl) rfl
theorem z4_30 : Cond.fieldLink "StreamWatch$Option" 26 "StreamWatch$Option" "relative" "Z" ∈ zTb := zin4 (List.mem_of_getElem? (i := 30) rfl) rfl
theorem z4_31 : Cond.fieldLink "StreamWatch$Search" 68 "StreamWatch$Option" "relative" "Z" ∈ zTb := zin4 (List.mem_of_getElem? (i := 31) rfl) rfl
theorem z4_32 : Cond.fieldLink "StreamWatch$Option" 29 "StreamWatch$Option" "least" "I" ∈ zTb := zin4 (List.mem_of_getElem? (i := 32) rfl) rfl
theorem z4_33 : Cond.fieldLink "StreamWatch$Search" 71 "StreamWatch$Option" "least" "I" ∈ zTb := zin4 (List.mem_of_getElem? (i := 33) rfl) rfl
theorem z4_34 : Cond.fieldLink "StreamWatch$Option" 32 "StreamWatch$Option" "most" "I" ∈ zTb := zin4 (List.mem_of_getElem? (i := 34) rfl) rfl
theorem z4_35 : Cond.fieldLink "StreamWatch$Search" 75 "StreamWatch$Option" "most" "I" ∈ zTb := zin4 (List.mem_of_getElem? (i := 35) rfl) rfl
theorem z4_36 : Cond.fieldLink "StreamWatch$Option" 9 "StreamWatch$Option" "size" "I" ∈ zTb := zin4 (List.mem_of_getElem? (i := 36) rfl) rfl
theorem z4_37 : Cond.fieldLink "StreamWatch$Search" 78 "StreamWatch$Option" "size" "I" ∈ zTb := zin4 (List.mem_of_getElem? (i := 37) rfl) rfl
theorem z4_38 : Cond.fieldLink "StreamWatch$Option" 15 "StreamWatch$Option" "content" "J" ∈ zTb := zin4 (List.mem_of_getElem? (i := 38) rfl) rfl
theorem z4_39 : Cond.fieldLink "StreamWatch$Option" 19 "StreamWatch$Option" "anyCase" "Z" ∈ zTb := zin4 (List.mem_of_getElem? (i := 39) rfl) rfl
theorem z4_40 : Cond.laysFinal "StreamWatch$Option" "StreamWatch$Option" "not" "Z" ∈ zTb := zin4 (List.mem_of_getElem? (i := 40) rfl) rfl
theorem z4_42 : Cond.laysFinal "StreamWatch$Option" "StreamWatch$Option" "relative" "Z" ∈ zTb := zin4 (List.mem_of_getElem? (i := 42) rfl) rfl
theorem z4_44 : Cond.laysFinal "StreamWatch$Option" "StreamWatch$Option" "least" "I" ∈ zTb := zin4 (List.mem_of_getElem? (i := 44) rfl) rfl
theorem z4_46 : Cond.laysFinal "StreamWatch$Option" "StreamWatch$Option" "most" "I" ∈ zTb := zin4 (List.mem_of_getElem? (i := 46) rfl) rfl
theorem z4_48 : Cond.laysFinal "StreamWatch$Option" "StreamWatch$Option" "size" "I" ∈ zTb := zin4 (List.mem_of_getElem? (i := 48) rfl) rfl
theorem z4_50 : Cond.laysFinal "StreamWatch$Option" "StreamWatch$Option" "content" "J" ∈ zTb := zin4 (List.mem_of_getElem? (i := 50) rfl) rfl
theorem z4_52 : Cond.laysFinal "StreamWatch$Option" "StreamWatch$Option" "anyCase" "Z" ∈ zTb := zin4 (List.mem_of_getElem? (i := 52) rfl) rfl
theorem z4_55 : Cond.methodLink "StreamWatch" 173 ⟨"StreamWatch$Rule", "add", "(LStreamWatch$Option;)V"⟩ ∈ zTb := zin4 (List.mem_of_getElem? (i := 55) rfl) rfl
theorem z4_56 : Cond.instanceMethod ⟨"StreamWatch$Rule", "add", "(LStreamWatch$Option;)V"⟩ ∈ zTb := zin4 (List.mem_of_getElem? (i := 56) rfl) rfl
theorem z4_57 : Cond.selects "StreamWatch$Rule" ⟨"StreamWatch$Rule", "add", "(LStreamWatch$Option;)V"⟩ ⟨"StreamWatch$Rule", "add", "(LStreamWatch$Option;)V"⟩ ∈ zTb := zin4 (List.mem_of_getElem? (i := 57) rfl) rfl
theorem z4_58 : Cond.code ⟨"StreamWatch$Rule", "add", "(LStreamWatch$Option;)V"⟩ prog_8_method_3_code 2 (Option.none : Option FieldType) ∈ zTb := zin4 (List.mem_of_getElem? (i := 58) rfl) rfl
theorem z4_59 : Cond.classLink "StreamWatchLaw" 34 "StreamWatchModel" ∈ zTb := zin4 (List.mem_of_getElem? (i := 59) rfl) rfl
theorem z4_60 : Cond.instantiable "StreamWatchModel" 33 ∈ zTb := zin4 (List.mem_of_getElem? (i := 60) rfl) rfl
theorem z4_61 : Cond.methodLink "StreamWatchLaw" 36 ⟨"StreamWatchModel", "<init>", "(I)V"⟩ ∈ zTb := zin4 (List.mem_of_getElem? (i := 61) rfl) rfl
theorem z4_62 : Cond.instanceMethod ⟨"StreamWatchModel", "<init>", "(I)V"⟩ ∈ zTb := zin4 (List.mem_of_getElem? (i := 62) rfl) rfl
theorem z4_63 : Cond.code ⟨"StreamWatchModel", "<init>", "(I)V"⟩ prog_13_method_1_code 2 (Option.none : Option FieldType) ∈ zTb := zin4 (List.mem_of_getElem? (i := 63) rfl) rfl
theorem z4_64 : Cond.methodLink "StreamWatchModel" 1 ⟨"java/lang/Object", "<init>", "()V"⟩ ∈ zTb := zin4 (List.mem_of_getElem? (i := 64) rfl) rfl
theorem z4_65 : Cond.fieldLink "StreamWatchModel" 93 "StreamWatchModel" "thrown" "I" ∈ zTb := zin4 (List.mem_of_getElem? (i := 65) rfl) rfl
theorem z4_66 : Cond.fieldLink "StreamWatchModel" 89 "StreamWatchModel" "last" "Z" ∈ zTb := zin4 (List.mem_of_getElem? (i := 66) rfl) rfl
theorem z4_67 : Cond.fieldLink "StreamWatchModel" 97 "StreamWatchModel" "length" "I" ∈ zTb := zin4 (List.mem_of_getElem? (i := 67) rfl) rfl
theorem z4_68 : Cond.fieldLink "StreamWatchModel" 7 "StreamWatchModel" "wire" "[I" ∈ zTb := zin4 (List.mem_of_getElem? (i := 68) rfl) rfl
theorem z4_69 : Cond.fieldLink "StreamWatchModel" 13 "StreamWatchModel" "used" "[Z" ∈ zTb := zin4 (List.mem_of_getElem? (i := 69) rfl) rfl
theorem z4_70 : Cond.fieldLink "StreamWatchModel" 17 "StreamWatchModel" "clientHost" "[I" ∈ zTb := zin4 (List.mem_of_getElem? (i := 70) rfl) rfl
theorem z4_71 : Cond.fieldLink "StreamWatchModel" 20 "StreamWatchModel" "clientPort" "[I" ∈ zTb := zin4 (List.mem_of_getElem? (i := 71) rfl) rfl
theorem z4_72 : Cond.fieldLink "StreamWatchModel" 23 "StreamWatchModel" "serverHost" "[I" ∈ zTb := zin4 (List.mem_of_getElem? (i := 72) rfl) rfl
theorem z4_73 : Cond.fieldLink "StreamWatchModel" 26 "StreamWatchModel" "serverPort" "[I" ∈ zTb := zin4 (List.mem_of_getElem? (i := 73) rfl) rfl
theorem z4_74 : Cond.fieldLink "StreamWatchModel" 29 "StreamWatchModel" "heard" "[I" ∈ zTb := zin4 (List.mem_of_getElem? (i := 74) rfl) rfl
theorem z4_75 : Cond.fieldLink "StreamWatchModel" 180 "StreamWatchModel" "clock" "I" ∈ zTb := zin4 (List.mem_of_getElem? (i := 75) rfl) rfl
theorem z4_76 : Cond.fieldLink "StreamWatchModel" 32 "StreamWatchModel" "begun" "[Z" ∈ zTb := zin4 (List.mem_of_getElem? (i := 76) rfl) rfl
theorem z4_77 : Cond.fieldLink "StreamWatchModel" 35 "StreamWatchModel" "next" "[I" ∈ zTb := zin4 (List.mem_of_getElem? (i := 77) rfl) rfl
theorem z4_78 : Cond.fieldLink "StreamWatchModel" 38 "StreamWatchModel" "ended" "[Z" ∈ zTb := zin4 (List.mem_of_getElem? (i := 78) rfl) rfl
theorem z4_79 : Cond.fieldLink "StreamWatchModel" 41 "StreamWatchModel" "size" "[I" ∈ zTb := zin4 (List.mem_of_getElem? (i := 79) rfl) rfl
theorem z4_80 : Cond.fieldLink "StreamWatchModel" 44 "StreamWatchModel" "text" "[I" ∈ zTb := zin4 (List.mem_of_getElem? (i := 80) rfl) rfl
theorem z4_81 : Cond.fieldLink "StreamWatchModel" 47 "StreamWatchModel" "holds" "[Z" ∈ zTb := zin4 (List.mem_of_getElem? (i := 81) rfl) rfl
theorem z4_82 : Cond.fieldLink "StreamWatchModel" 50 "StreamWatchModel" "heldByte" "[I" ∈ zTb := zin4 (List.mem_of_getElem? (i := 82) rfl) rfl
theorem z4_83 : Cond.fieldLink "StreamWatchModel" 53 "StreamWatchModel" "raised" "[Z" ∈ zTb := zin4 (List.mem_of_getElem? (i := 83) rfl) rfl
theorem z4_84 : Cond.fieldLink "StreamWatchModel" 139 "StreamWatchModel" "rules" "I" ∈ zTb := zin4 (List.mem_of_getElem? (i := 84) rfl) rfl
theorem z4_85 : Cond.fieldLink "StreamWatchModel" 56 "StreamWatchModel" "ruleWay" "[I" ∈ zTb := zin4 (List.mem_of_getElem? (i := 85) rfl) rfl
theorem z4_86 : Cond.fieldLink "StreamWatchModel" 59 "StreamWatchModel" "rulePort" "[I" ∈ zTb := zin4 (List.mem_of_getElem? (i := 86) rfl) rfl
theorem z4_87 : Cond.fieldLink "StreamWatchModel" 62 "StreamWatchModel" "options" "[I" ∈ zTb := zin4 (List.mem_of_getElem? (i := 87) rfl) rfl
theorem z4_88 : Cond.fieldLink "StreamWatchModel" 65 "StreamWatchModel" "contentSize" "[I" ∈ zTb := zin4 (List.mem_of_getElem? (i := 88) rfl) rfl
theorem z4_89 : Cond.fieldLink "StreamWatchModel" 68 "StreamWatchModel" "content" "[I" ∈ zTb := zin4 (List.mem_of_getElem? (i := 89) rfl) rfl
theorem z4_90 : Cond.fieldLink "StreamWatchModel" 71 "StreamWatchModel" "marks" "[I" ∈ zTb := zin4 (List.mem_of_getElem? (i := 90) rfl) rfl
theorem z4_91 : Cond.fieldLink "StreamWatchModel" 74 "StreamWatchModel" "least" "[I" ∈ zTb := zin4 (List.mem_of_getElem? (i := 91) rfl) rfl
theorem z4_92 : Cond.fieldLink "StreamWatchModel" 77 "StreamWatchModel" "span" "[I" ∈ zTb := zin4 (List.mem_of_getElem? (i := 92) rfl) rfl
theorem z4_93 : Cond.fieldLink "StreamWatchModel" 145 "StreamWatchModel" "tried" "I" ∈ zTb := zin4 (List.mem_of_getElem? (i := 93) rfl) rfl
theorem z4_94 : Cond.fieldLink "StreamWatchModel" 80 "StreamWatchModel" "level" "[I" ∈ zTb := zin4 (List.mem_of_getElem? (i := 94) rfl) rfl
theorem z4_95 : Cond.fieldLink "StreamWatchModel" 83 "StreamWatchModel" "place" "[I" ∈ zTb := zin4 (List.mem_of_getElem? (i := 95) rfl) rfl
theorem z4_96 : Cond.fieldLink "StreamWatchModel" 162 "StreamWatchModel" "alerts" "I" ∈ zTb := zin4 (List.mem_of_getElem? (i := 96) rfl) rfl
theorem z4_97 : Cond.fieldLink "StreamWatchModel" 86 "StreamWatchModel" "alert" "[I" ∈ zTb := zin4 (List.mem_of_getElem? (i := 97) rfl) rfl
theorem z4_98 : Cond.lays "StreamWatchModel" "StreamWatchModel" "thrown" "I" ∈ zTb := zin4 (List.mem_of_getElem? (i := 98) rfl) rfl
theorem z4_100 : Cond.lays "StreamWatchModel" "StreamWatchModel" "last" "Z" ∈ zTb := zin4 (List.mem_of_getElem? (i := 100) rfl) rfl
theorem z4_102 : Cond.lays "StreamWatchModel" "StreamWatchModel" "length" "I" ∈ zTb := zin4 (List.mem_of_getElem? (i := 102) rfl) rfl
theorem z4_104 : Cond.lays "StreamWatchModel" "StreamWatchModel" "wire" "[I" ∈ zTb := zin4 (List.mem_of_getElem? (i := 104) rfl) rfl
theorem z4_106 : Cond.lays "StreamWatchModel" "StreamWatchModel" "used" "[Z" ∈ zTb := zin4 (List.mem_of_getElem? (i := 106) rfl) rfl
theorem z4_108 : Cond.lays "StreamWatchModel" "StreamWatchModel" "clientHost" "[I" ∈ zTb := zin4 (List.mem_of_getElem? (i := 108) rfl) rfl
theorem z4_110 : Cond.lays "StreamWatchModel" "StreamWatchModel" "clientPort" "[I" ∈ zTb := zin4 (List.mem_of_getElem? (i := 110) rfl) rfl
theorem z4_112 : Cond.lays "StreamWatchModel" "StreamWatchModel" "serverHost" "[I" ∈ zTb := zin4 (List.mem_of_getElem? (i := 112) rfl) rfl
theorem z4_114 : Cond.lays "StreamWatchModel" "StreamWatchModel" "serverPort" "[I" ∈ zTb := zin4 (List.mem_of_getElem? (i := 114) rfl) rfl
theorem z4_116 : Cond.lays "StreamWatchModel" "StreamWatchModel" "heard" "[I" ∈ zTb := zin4 (List.mem_of_getElem? (i := 116) rfl) rfl
theorem z4_118 : Cond.lays "StreamWatchModel" "StreamWatchModel" "clock" "I" ∈ zTb := zin4 (List.mem_of_getElem? (i := 118) rfl) rfl
theorem z4_120 : Cond.lays "StreamWatchModel" "StreamWatchModel" "begun" "[Z" ∈ zTb := zin4 (List.mem_of_getElem? (i := 120) rfl) rfl
theorem z4_122 : Cond.lays "StreamWatchModel" "StreamWatchModel" "next" "[I" ∈ zTb := zin4 (List.mem_of_getElem? (i := 122) rfl) rfl
theorem z4_124 : Cond.lays "StreamWatchModel" "StreamWatchModel" "ended" "[Z" ∈ zTb := zin4 (List.mem_of_getElem? (i := 124) rfl) rfl
theorem z4_126 : Cond.lays "StreamWatchModel" "StreamWatchModel" "size" "[I" ∈ zTb := zin4 (List.mem_of_getElem? (i := 126) rfl) rfl
theorem z4_128 : Cond.lays "StreamWatchModel" "StreamWatchModel" "text" "[I" ∈ zTb := zin4 (List.mem_of_getElem? (i := 128) rfl) rfl
theorem z4_130 : Cond.lays "StreamWatchModel" "StreamWatchModel" "holds" "[Z" ∈ zTb := zin4 (List.mem_of_getElem? (i := 130) rfl) rfl
theorem z4_132 : Cond.lays "StreamWatchModel" "StreamWatchModel" "heldByte" "[I" ∈ zTb := zin4 (List.mem_of_getElem? (i := 132) rfl) rfl
theorem z4_134 : Cond.lays "StreamWatchModel" "StreamWatchModel" "raised" "[Z" ∈ zTb := zin4 (List.mem_of_getElem? (i := 134) rfl) rfl
theorem z4_136 : Cond.lays "StreamWatchModel" "StreamWatchModel" "rules" "I" ∈ zTb := zin4 (List.mem_of_getElem? (i := 136) rfl) rfl
theorem z4_138 : Cond.lays "StreamWatchModel" "StreamWatchModel" "ruleWay" "[I" ∈ zTb := zin4 (List.mem_of_getElem? (i := 138) rfl) rfl
theorem z4_140 : Cond.lays "StreamWatchModel" "StreamWatchModel" "rulePort" "[I" ∈ zTb := zin4 (List.mem_of_getElem? (i := 140) rfl) rfl
theorem z4_142 : Cond.lays "StreamWatchModel" "StreamWatchModel" "options" "[I" ∈ zTb := zin4 (List.mem_of_getElem? (i := 142) rfl) rfl
theorem z4_144 : Cond.lays "StreamWatchModel" "StreamWatchModel" "contentSize" "[I" ∈ zTb := zin4 (List.mem_of_getElem? (i := 144) rfl) rfl
theorem z4_146 : Cond.lays "StreamWatchModel" "StreamWatchModel" "content" "[I" ∈ zTb := zin4 (List.mem_of_getElem? (i := 146) rfl) rfl
theorem z4_148 : Cond.lays "StreamWatchModel" "StreamWatchModel" "marks" "[I" ∈ zTb := zin4 (List.mem_of_getElem? (i := 148) rfl) rfl
theorem z4_150 : Cond.lays "StreamWatchModel" "StreamWatchModel" "least" "[I" ∈ zTb := zin4 (List.mem_of_getElem? (i := 150) rfl) rfl
theorem z4_152 : Cond.lays "StreamWatchModel" "StreamWatchModel" "span" "[I" ∈ zTb := zin4 (List.mem_of_getElem? (i := 152) rfl) rfl
theorem z4_154 : Cond.lays "StreamWatchModel" "StreamWatchModel" "tried" "I" ∈ zTb := zin4 (List.mem_of_getElem? (i := 154) rfl) rfl
theorem z4_156 : Cond.lays "StreamWatchModel" "StreamWatchModel" "level" "[I" ∈ zTb := zin4 (List.mem_of_getElem? (i := 156) rfl) rfl
theorem z4_158 : Cond.lays "StreamWatchModel" "StreamWatchModel" "place" "[I" ∈ zTb := zin4 (List.mem_of_getElem? (i := 158) rfl) rfl
theorem z4_160 : Cond.lays "StreamWatchModel" "StreamWatchModel" "alerts" "I" ∈ zTb := zin4 (List.mem_of_getElem? (i := 160) rfl) rfl
theorem z4_162 : Cond.lays "StreamWatchModel" "StreamWatchModel" "alert" "[I" ∈ zTb := zin4 (List.mem_of_getElem? (i := 162) rfl) rfl
theorem z4_165 : Cond.methodLink "StreamWatchLaw" 43 ⟨"StreamWatchModel", "thrown", "()I"⟩ ∈ zTb := zin4 (List.mem_of_getElem? (i := 165) rfl) rfl
theorem z4_166 : Cond.instanceMethod ⟨"StreamWatchModel", "thrown", "()I"⟩ ∈ zTb := zin4 (List.mem_of_getElem? (i := 166) rfl) rfl
theorem z4_167 : Cond.selects "StreamWatchModel" ⟨"StreamWatchModel", "thrown", "()I"⟩ ⟨"StreamWatchModel", "thrown", "()I"⟩ ∈ zTb := zin4 (List.mem_of_getElem? (i := 167) rfl) rfl
theorem z4_168 : Cond.code ⟨"StreamWatchModel", "thrown", "()I"⟩ prog_13_method_2_code 1 (Option.some FieldType.int) ∈ zTb := zin4 (List.mem_of_getElem? (i := 168) rfl) rfl
theorem z4_169 : Cond.methodLink "StreamWatchLaw" 42 ⟨"StreamWatchModel", "craft", "(IIIIIJ)I"⟩ ∈ zTb := zin4 (List.mem_of_getElem? (i := 169) rfl) rfl
theorem z4_170 : Cond.instanceMethod ⟨"StreamWatchModel", "craft", "(IIIIIJ)I"⟩ ∈ zTb := zin4 (List.mem_of_getElem? (i := 170) rfl) rfl
theorem z4_171 : Cond.selects "StreamWatchModel" ⟨"StreamWatchModel", "craft", "(IIIIIJ)I"⟩ ⟨"StreamWatchModel", "craft", "(IIIIIJ)I"⟩ ∈ zTb := zin4 (List.mem_of_getElem? (i := 171) rfl) rfl
theorem z4_172 : Cond.code ⟨"StreamWatchModel", "craft", "(IIIIIJ)I"⟩ prog_13_method_5_code 11 (Option.some FieldType.int) ∈ zTb := zin4 (List.mem_of_getElem? (i := 172) rfl) rfl
theorem z4_173 : Cond.constant "StreamWatchModel" 104 (167772161 : Int32) ∈ zTb := zin4 (List.mem_of_getElem? (i := 173) rfl) rfl
theorem z4_174 : Cond.constant "StreamWatchModel" 105 (167772417 : Int32) ∈ zTb := zin4 (List.mem_of_getElem? (i := 174) rfl) rfl
theorem z4_175 : Cond.methodLink "StreamWatchModel" 106 ⟨"StreamWatchModel", "addNumber", "(II)V"⟩ ∈ zTb := zin4 (List.mem_of_getElem? (i := 175) rfl) rfl
theorem z4_177 : Cond.instanceMethod ⟨"StreamWatchModel", "addNumber", "(II)V"⟩ ∈ zTb := zin4 (List.mem_of_getElem? (i := 177) rfl) rfl
theorem z4_178 : Cond.code ⟨"StreamWatchModel", "addNumber", "(II)V"⟩ prog_13_method_4_code 4 (Option.none : Option FieldType) ∈ zTb := zin4 (List.mem_of_getElem? (i := 178) rfl) rfl
theorem z4_179 : Cond.methodLink "StreamWatchModel" 100 ⟨"StreamWatchModel", "add", "(I)V"⟩ ∈ zTb := zin4 (List.mem_of_getElem? (i := 179) rfl) rfl
theorem z4_181 : Cond.instanceMethod ⟨"StreamWatchModel", "add", "(I)V"⟩ ∈ zTb := zin4 (List.mem_of_getElem? (i := 181) rfl) rfl
theorem z4_182 : Cond.code ⟨"StreamWatchModel", "add", "(I)V"⟩ prog_13_method_3_code 2 (Option.none : Option FieldType) ∈ zTb := zin4 (List.mem_of_getElem? (i := 182) rfl) rfl
theorem z4_183 : Cond.methodLink "StreamWatchModel" 110 ⟨"StreamWatchModel", "close", "()V"⟩ ∈ zTb := zin4 (List.mem_of_getElem? (i := 183) rfl) rfl
theorem z4_185 : Cond.instanceMethod ⟨"StreamWatchModel", "close", "()V"⟩ ∈ zTb := zin4 (List.mem_of_getElem? (i := 185) rfl) rfl
theorem z4_186 : Cond.code ⟨"StreamWatchModel", "close", "()V"⟩ prog_13_method_18_code 3 (Option.none : Option FieldType) ∈ zTb := zin4 (List.mem_of_getElem? (i := 186) rfl) rfl
theorem z4_187 : Cond.constant "StreamWatchModel" 117 (65535 : Int32) ∈ zTb := zin4 (List.mem_of_getElem? (i := 187) rfl) rfl
theorem z4_188 : Cond.methodLink "StreamWatchModel" 129 ⟨"StreamWatchModel", "headerSum", "()I"⟩ ∈ zTb := zin4 (List.mem_of_getElem? (i := 188) rfl) rfl
theorem z4_190 : Cond.instanceMethod ⟨"StreamWatchModel", "headerSum", "()I"⟩ ∈ zTb := zin4 (List.mem_of_getElem? (i := 190) rfl) rfl
theorem z4_191 : Cond.code ⟨"StreamWatchModel", "headerSum", "()I"⟩ prog_13_method_15_code 1 (Option.some FieldType.int) ∈ zTb := zin4 (List.mem_of_getElem? (i := 191) rfl) rfl
theorem z4_192 : Cond.methodLink "StreamWatchModel" 118 ⟨"StreamWatchModel", "headerSize", "()I"⟩ ∈ zTb := zin4 (List.mem_of_getElem? (i := 192) rfl) rfl
theorem z4_194 : Cond.instanceMethod ⟨"StreamWatchModel", "headerSize", "()I"⟩ ∈ zTb := zin4 (List.mem_of_getElem? (i := 194) rfl) rfl
theorem z4_195 : Cond.code ⟨"StreamWatchModel", "headerSize", "()I"⟩ prog_13_method_14_code 1 (Option.some FieldType.int) ∈ zTb := zin4 (List.mem_of_getElem? (i := 195) rfl) rfl
theorem z4_196 : Cond.methodLink "StreamWatchModel" 122 ⟨"StreamWatchModel", "total", "(II)I"⟩ ∈ zTb := zin4 (List.mem_of_getElem? (i := 196) rfl) rfl
theorem z4_198 : Cond.instanceMethod ⟨"StreamWatchModel", "total", "(II)I"⟩ ∈ zTb := zin4 (List.mem_of_getElem? (i := 198) rfl) rfl
theorem z4_199 : Cond.code ⟨"StreamWatchModel", "total", "(II)I"⟩ prog_13_method_12_code 5 (Option.some FieldType.int) ∈ zTb := zin4 (List.mem_of_getElem? (i := 199) rfl) rfl
theorem z4_200 : Cond.methodLink "StreamWatchModel" 126 ⟨"StreamWatchModel", "folded", "(I)I"⟩ ∈ zTb := zin4 (List.mem_of_getElem? (i := 200) rfl) rfl
theorem z4_201 : Cond.static ⟨"StreamWatchModel", "folded", "(I)I"⟩ ∈ zTb := zin4 (List.mem_of_getElem? (i := 201) rfl) rfl
theorem z4_202 : Cond.code ⟨"StreamWatchModel", "folded", "(I)I"⟩ prog_13_method_13_code 3 (Option.some FieldType.int) ∈ zTb := zin4 (List.mem_of_getElem? (i := 202) rfl) rfl
theorem z4_203 : Cond.methodLink "StreamWatchModel" 132 ⟨"StreamWatchModel", "partSum", "()I"⟩ ∈ zTb := zin4 (List.mem_of_getElem? (i := 203) rfl) rfl
theorem z4_205 : Cond.instanceMethod ⟨"StreamWatchModel", "partSum", "()I"⟩ ∈ zTb := zin4 (List.mem_of_getElem? (i := 205) rfl) rfl
theorem z4_206 : Cond.code ⟨"StreamWatchModel", "partSum", "()I"⟩ prog_13_method_16_code 3 (Option.some FieldType.int) ∈ zTb := zin4 (List.mem_of_getElem? (i := 206) rfl) rfl
theorem z4_207 : Cond.methodLink "StreamWatchModel" 113 ⟨"StreamWatchModel", "pair", "(I)I"⟩ ∈ zTb := zin4 (List.mem_of_getElem? (i := 207) rfl) rfl
theorem z4_209 : Cond.instanceMethod ⟨"StreamWatchModel", "pair", "(I)I"⟩ ∈ zTb := zin4 (List.mem_of_getElem? (i := 209) rfl) rfl
theorem z4_210 : Cond.code ⟨"StreamWatchModel", "pair", "(I)I"⟩ prog_13_method_10_code 2 (Option.some FieldType.int) ∈ zTb := zin4 (List.mem_of_getElem? (i := 210) rfl) rfl
theorem z4_211 : Cond.methodLink "StreamWatchLaw" 51 ⟨"StreamWatchModel", "alter", "(II)Z"⟩ ∈ zTb := zin4 (List.mem_of_getElem? (i := 211) rfl) rfl
theorem z4_212 : Cond.instanceMethod ⟨"StreamWatchModel", "alter", "(II)Z"⟩ ∈ zTb := zin4 (List.mem_of_getElem? (i := 212) rfl) rfl
theorem z4_213 : Cond.selects "StreamWatchModel" ⟨"StreamWatchModel", "alter", "(II)Z"⟩ ⟨"StreamWatchModel", "alter", "(II)Z"⟩ ∈ zTb := zin4 (List.mem_of_getElem? (i := 213) rfl) rfl
theorem z4_214 : Cond.code ⟨"StreamWatchModel", "alter", "(II)Z"⟩ prog_13_method_6_code 3 (Option.some FieldType.boolean) ∈ zTb := zin4 (List.mem_of_getElem? (i := 214) rfl) rfl
theorem z4_215 : Cond.methodLink "StreamWatchLaw" 55 ⟨"StreamWatchModel", "wipe", "()V"⟩ ∈ zTb := zin4 (List.mem_of_getElem? (i := 215) rfl) rfl
theorem z4_216 : Cond.instanceMethod ⟨"StreamWatchModel", "wipe", "()V"⟩ ∈ zTb := zin4 (List.mem_of_getElem? (i := 216) rfl) rfl
theorem z4_217 : Cond.selects "StreamWatchModel" ⟨"StreamWatchModel", "wipe", "()V"⟩ ⟨"StreamWatchModel", "wipe", "()V"⟩ ∈ zTb := zin4 (List.mem_of_getElem? (i := 217) rfl) rfl
theorem z4_218 : Cond.code ⟨"StreamWatchModel", "wipe", "()V"⟩ prog_13_method_7_code 1 (Option.none : Option FieldType) ∈ zTb := zin4 (List.mem_of_getElem? (i := 218) rfl) rfl
theorem z4_219 : Cond.methodLink "StreamWatchLaw" 60 ⟨"StreamWatchModel", "put", "(IJ)Z"⟩ ∈ zTb := zin4 (List.mem_of_getElem? (i := 219) rfl) rfl
theorem z4_220 : Cond.instanceMethod ⟨"StreamWatchModel", "put", "(IJ)Z"⟩ ∈ zTb := zin4 (List.mem_of_getElem? (i := 220) rfl) rfl
theorem z4_221 : Cond.selects "StreamWatchModel" ⟨"StreamWatchModel", "put", "(IJ)Z"⟩ ⟨"StreamWatchModel", "put", "(IJ)Z"⟩ ∈ zTb := zin4 (List.mem_of_getElem? (i := 221) rfl) rfl
theorem z4_222 : Cond.code ⟨"StreamWatchModel", "put", "(IJ)Z"⟩ prog_13_method_8_code 5 (Option.some FieldType.boolean) ∈ zTb := zin4 (List.mem_of_getElem? (i := 222) rfl) rfl
theorem z4_223 : Cond.methodLink "StreamWatchLaw" 70 ⟨"StreamWatchModel", "wire", "(I)I"⟩ ∈ zTb := zin4 (List.mem_of_getElem? (i := 223) rfl) rfl
theorem z4_224 : Cond.instanceMethod ⟨"StreamWatchModel", "wire", "(I)I"⟩ ∈ zTb := zin4 (List.mem_of_getElem? (i := 224) rfl) rfl
theorem z4_225 : Cond.selects "StreamWatchModel" ⟨"StreamWatchModel", "wire", "(I)I"⟩ ⟨"StreamWatchModel", "wire", "(I)I"⟩ ∈ zTb := zin4 (List.mem_of_getElem? (i := 225) rfl) rfl
theorem z4_226 : Cond.code ⟨"StreamWatchModel", "wire", "(I)I"⟩ prog_13_method_9_code 2 (Option.some FieldType.int) ∈ zTb := zin4 (List.mem_of_getElem? (i := 226) rfl) rfl
theorem z4_227 : Cond.methodLink "StreamWatchLaw" 65 ⟨"StreamWatchModel", "seal", "()Z"⟩ ∈ zTb := zin4 (List.mem_of_getElem? (i := 227) rfl) rfl
theorem z4_228 : Cond.instanceMethod ⟨"StreamWatchModel", "seal", "()Z"⟩ ∈ zTb := zin4 (List.mem_of_getElem? (i := 228) rfl) rfl
theorem z4_229 : Cond.selects "StreamWatchModel" ⟨"StreamWatchModel", "seal", "()Z"⟩ ⟨"StreamWatchModel", "seal", "()Z"⟩ ∈ zTb := zin4 (List.mem_of_getElem? (i := 229) rfl) rfl
theorem z4_230 : Cond.code ⟨"StreamWatchModel", "seal", "()Z"⟩ prog_13_method_19_code 1 (Option.some FieldType.boolean) ∈ zTb := zin4 (List.mem_of_getElem? (i := 230) rfl) rfl
theorem z4_231 : Cond.methodLink "StreamWatchModel" 135 ⟨"StreamWatchModel", "reason", "(Z)I"⟩ ∈ zTb := zin4 (List.mem_of_getElem? (i := 231) rfl) rfl
theorem z4_233 : Cond.instanceMethod ⟨"StreamWatchModel", "reason", "(Z)I"⟩ ∈ zTb := zin4 (List.mem_of_getElem? (i := 233) rfl) rfl
theorem z4_234 : Cond.code ⟨"StreamWatchModel", "reason", "(Z)I"⟩ prog_13_method_17_code 5 (Option.some FieldType.int) ∈ zTb := zin4 (List.mem_of_getElem? (i := 234) rfl) rfl
theorem z4_235 : Cond.methodLink "StreamWatchLaw" 78 ⟨"StreamWatchModel", "rule", "(II)I"⟩ ∈ zTb := zin4 (List.mem_of_getElem? (i := 235) rfl) rfl
theorem z4_236 : Cond.instanceMethod ⟨"StreamWatchModel", "rule", "(II)I"⟩ ∈ zTb := zin4 (List.mem_of_getElem? (i := 236) rfl) rfl
theorem z4_237 : Cond.selects "StreamWatchModel" ⟨"StreamWatchModel", "rule", "(II)I"⟩ ⟨"StreamWatchModel", "rule", "(II)I"⟩ ∈ zTb := zin4 (List.mem_of_getElem? (i := 237) rfl) rfl
theorem z4_238 : Cond.code ⟨"StreamWatchModel", "rule", "(II)I"⟩ prog_13_method_20_code 3 (Option.some FieldType.int) ∈ zTb := zin4 (List.mem_of_getElem? (i := 238) rfl) rfl
theorem z4_239 : Cond.methodLink "StreamWatchLaw" 82 ⟨"StreamWatchModel", "option", "(IJIII)I"⟩ ∈ zTb := zin4 (List.mem_of_getElem? (i := 239) rfl) rfl
theorem z5_0 : Cond.instanceMethod ⟨"StreamWatchModel", "option", "(IJIII)I"⟩ ∈ zTb := zin5 (List.mem_of_getElem? (i := 0) rfl) rfl
theorem z5_1 : Cond.selects "StreamWatchModel" ⟨"StreamWatchModel", "option", "(IJIII)I"⟩ ⟨"StreamWatchModel", "option", "(IJIII)I"⟩ ∈ zTb := zin5 (List.mem_of_getElem? (i := 1) rfl) rfl
theorem z5_2 : Cond.code ⟨"StreamWatchModel", "option", "(IJIII)I"⟩ prog_13_method_21_code 9 (Option.some FieldType.int) ∈ zTb := zin5 (List.mem_of_getElem? (i := 2) rfl) rfl
theorem z5_3 : Cond.methodLink "StreamWatchLaw" 74 ⟨"StreamWatchModel", "watch", "()I"⟩ ∈ zTb := zin5 (List.mem_of_getElem? (i := 3) rfl) rfl
theorem z5_4 : Cond.instanceMethod ⟨"StreamWatchModel", "watch", "()I"⟩ ∈ zTb := zin5 (List.mem_of_getElem? (i := 4) rfl) rfl
theorem z5_5 : Cond.selects "StreamWatchModel" ⟨"StreamWatchModel", "watch", "()I"⟩ ⟨"StreamWatchModel", "watch", "()I"⟩ ∈ zTb := zin5 (List.mem_of_getElem? (i := 5) rfl) rfl
theorem z5_6 : Cond.code ⟨"StreamWatchModel", "watch", "()I"⟩ prog_13_method_33_code 11 (Option.some FieldType.int) ∈ zTb := zin5 (List.mem_of_getElem? (i := 6) rfl) rfl
theorem z5_7 : Cond.methodLink "StreamWatchModel" 171 ⟨"StreamWatchModel", "find", "(I)I"⟩ ∈ zTb := zin5 (List.mem_of_getElem? (i := 7) rfl) rfl
theorem z5_9 : Cond.instanceMethod ⟨"StreamWatchModel", "find", "(I)I"⟩ ∈ zTb := zin5 (List.mem_of_getElem? (i := 9) rfl) rfl
theorem z5_10 : Cond.code ⟨"StreamWatchModel", "find", "(I)I"⟩ prog_13_method_30_code 7 (Option.some FieldType.int) ∈ zTb := zin5 (List.mem_of_getElem? (i := 10) rfl) rfl
theorem z5_11 : Cond.methodLink "StreamWatchModel" 165 ⟨"StreamWatchModel", "four", "(I)I"⟩ ∈ zTb := zin5 (List.mem_of_getElem? (i := 11) rfl) rfl
theorem z5_13 : Cond.instanceMethod ⟨"StreamWatchModel", "four", "(I)I"⟩ ∈ zTb := zin5 (List.mem_of_getElem? (i := 13) rfl) rfl
theorem z5_14 : Cond.code ⟨"StreamWatchModel", "four", "(I)I"⟩ prog_13_method_11_code 2 (Option.some FieldType.int) ∈ zTb := zin5 (List.mem_of_getElem? (i := 14) rfl) rfl
theorem z5_15 : Cond.methodLink "StreamWatchModel" 174 ⟨"StreamWatchModel", "room", "()I"⟩ ∈ zTb := zin5 (List.mem_of_getElem? (i := 15) rfl) rfl
theorem z5_17 : Cond.instanceMethod ⟨"StreamWatchModel", "room", "()I"⟩ ∈ zTb := zin5 (List.mem_of_getElem? (i := 17) rfl) rfl
theorem z5_18 : Cond.code ⟨"StreamWatchModel", "room", "()I"⟩ prog_13_method_29_code 3 (Option.some FieldType.int) ∈ zTb := zin5 (List.mem_of_getElem? (i := 18) rfl) rfl
theorem z5_19 : Cond.methodLink "StreamWatchModel" 177 ⟨"StreamWatchModel", "begin", "(II)V"⟩ ∈ zTb := zin5 (List.mem_of_getElem? (i := 19) rfl) rfl
theorem z5_21 : Cond.instanceMethod ⟨"StreamWatchModel", "begin", "(II)V"⟩ ∈ zTb := zin5 (List.mem_of_getElem? (i := 21) rfl) rfl
theorem z5_22 : Cond.code ⟨"StreamWatchModel", "begin", "(II)V"⟩ prog_13_method_28_code 5 (Option.none : Option FieldType) ∈ zTb := zin5 (List.mem_of_getElem? (i := 22) rfl) rfl
theorem z5_23 : Cond.methodLink "StreamWatchModel" 183 ⟨"StreamWatchModel", "hold", "(III)V"⟩ ∈ zTb := zin5 (List.mem_of_getElem? (i := 23) rfl) rfl
theorem z5_25 : Cond.instanceMethod ⟨"StreamWatchModel", "hold", "(III)V"⟩ ∈ zTb := zin5 (List.mem_of_getElem? (i := 25) rfl) rfl
theorem z5_26 : Cond.code ⟨"StreamWatchModel", "hold", "(III)V"⟩ prog_13_method_31_code 6 (Option.none : Option FieldType) ∈ zTb := zin5 (List.mem_of_getElem? (i := 26) rfl) rfl
theorem z5_27 : Cond.methodLink "StreamWatchModel" 187 ⟨"StreamWatchModel", "grow", "(I)I"⟩ ∈ zTb := zin5 (List.mem_of_getElem? (i := 27) rfl) rfl
theorem z5_29 : Cond.instanceMethod ⟨"StreamWatchModel", "grow", "(I)I"⟩ ∈ zTb := zin5 (List.mem_of_getElem? (i := 29) rfl) rfl
theorem z5_30 : Cond.code ⟨"StreamWatchModel", "grow", "(I)I"⟩ prog_13_method_32_code 6 (Option.some FieldType.int) ∈ zTb := zin5 (List.mem_of_getElem? (i := 30) rfl) rfl
theorem z5_31 : Cond.methodLink "StreamWatchModel" 168 ⟨"StreamWatchModel", "look", "(I)I"⟩ ∈ zTb := zin5 (List.mem_of_getElem? (i := 31) rfl) rfl
theorem z5_33 : Cond.instanceMethod ⟨"StreamWatchModel", "look", "(I)I"⟩ ∈ zTb := zin5 (List.mem_of_getElem? (i := 33) rfl) rfl
theorem z5_34 : Cond.code ⟨"StreamWatchModel", "look", "(I)I"⟩ prog_13_method_27_code 7 (Option.some FieldType.int) ∈ zTb := zin5 (List.mem_of_getElem? (i := 34) rfl) rfl
theorem z5_35 : Cond.methodLink "StreamWatchModel" 159 ⟨"StreamWatchModel", "holdsOn", "(II)Z"⟩ ∈ zTb := zin5 (List.mem_of_getElem? (i := 35) rfl) rfl
theorem z5_37 : Cond.instanceMethod ⟨"StreamWatchModel", "holdsOn", "(II)Z"⟩ ∈ zTb := zin5 (List.mem_of_getElem? (i := 37) rfl) rfl
theorem z5_38 : Cond.code ⟨"StreamWatchModel", "holdsOn", "(II)Z"⟩ prog_13_method_26_code 4 (Option.some FieldType.boolean) ∈ zTb := zin5 (List.mem_of_getElem? (i := 38) rfl) rfl
theorem z5_39 : Cond.methodLink "StreamWatchModel" 155 ⟨"StreamWatchModel", "clean", "(II)Z"⟩ ∈ zTb := zin5 (List.mem_of_getElem? (i := 39) rfl) rfl
theorem z5_41 : Cond.instanceMethod ⟨"StreamWatchModel", "clean", "(II)Z"⟩ ∈ zTb := zin5 (List.mem_of_getElem? (i := 41) rfl) rfl
theorem z5_42 : Cond.code ⟨"StreamWatchModel", "clean", "(II)Z"⟩ prog_13_method_25_code 8 (Option.some FieldType.boolean) ∈ zTb := zin5 (List.mem_of_getElem? (i := 42) rfl) rfl
theorem z5_43 : Cond.methodLink "StreamWatchModel" 148 ⟨"StreamWatchModel", "base", "(II)I"⟩ ∈ zTb := zin5 (List.mem_of_getElem? (i := 43) rfl) rfl
theorem z5_45 : Cond.instanceMethod ⟨"StreamWatchModel", "base", "(II)I"⟩ ∈ zTb := zin5 (List.mem_of_getElem? (i := 45) rfl) rfl
theorem z5_46 : Cond.code ⟨"StreamWatchModel", "base", "(II)I"⟩ prog_13_method_24_code 3 (Option.some FieldType.int) ∈ zTb := zin5 (List.mem_of_getElem? (i := 46) rfl) rfl
theorem z5_47 : Cond.methodLink "StreamWatchModel" 151 ⟨"StreamWatchModel", "found", "(IIII)Z"⟩ ∈ zTb := zin5 (List.mem_of_getElem? (i := 47) rfl) rfl
theorem z5_49 : Cond.instanceMethod ⟨"StreamWatchModel", "found", "(IIII)Z"⟩ ∈ zTb := zin5 (List.mem_of_getElem? (i := 49) rfl) rfl
theorem z5_50 : Cond.code ⟨"StreamWatchModel", "found", "(IIII)Z"⟩ prog_13_method_23_code 11 (Option.some FieldType.boolean) ∈ zTb := zin5 (List.mem_of_getElem? (i := 50) rfl) rfl
theorem z5_51 : Cond.methodLink "StreamWatchModel" 142 ⟨"StreamWatchModel", "upper", "(I)I"⟩ ∈ zTb := zin5 (List.mem_of_getElem? (i := 51) rfl) rfl
theorem z5_52 : Cond.static ⟨"StreamWatchModel", "upper", "(I)I"⟩ ∈ zTb := zin5 (List.mem_of_getElem? (i := 52) rfl) rfl
theorem z5_53 : Cond.code ⟨"StreamWatchModel", "upper", "(I)I"⟩ prog_13_method_22_code 1 (Option.some FieldType.int) ∈ zTb := zin5 (List.mem_of_getElem? (i := 53) rfl) rfl
theorem z5_54 : Cond.methodLink "StreamWatchLaw" 86 ⟨"StreamWatchModel", "flow", "(II)I"⟩ ∈ zTb := zin5 (List.mem_of_getElem? (i := 54) rfl) rfl
theorem z5_55 : Cond.instanceMethod ⟨"StreamWatchModel", "flow", "(II)I"⟩ ∈ zTb := zin5 (List.mem_of_getElem? (i := 55) rfl) rfl
theorem z5_56 : Cond.selects "StreamWatchModel" ⟨"StreamWatchModel", "flow", "(II)I"⟩ ⟨"StreamWatchModel", "flow", "(II)I"⟩ ∈ zTb := zin5 (List.mem_of_getElem? (i := 56) rfl) rfl
theorem z5_57 : Cond.code ⟨"StreamWatchModel", "flow", "(II)I"⟩ prog_13_method_35_code 5 (Option.some FieldType.int) ∈ zTb := zin5 (List.mem_of_getElem? (i := 57) rfl) rfl
theorem z5_58 : Cond.methodLink "StreamWatchModel" 190 ⟨"StreamWatchModel", "isFlow", "(I)Z"⟩ ∈ zTb := zin5 (List.mem_of_getElem? (i := 58) rfl) rfl
theorem z5_60 : Cond.instanceMethod ⟨"StreamWatchModel", "isFlow", "(I)Z"⟩ ∈ zTb := zin5 (List.mem_of_getElem? (i := 60) rfl) rfl
theorem z5_61 : Cond.code ⟨"StreamWatchModel", "isFlow", "(I)Z"⟩ prog_13_method_34_code 2 (Option.some FieldType.boolean) ∈ zTb := zin5 (List.mem_of_getElem? (i := 61) rfl) rfl
theorem z5_62 : Cond.methodLink "StreamWatchLaw" 91 ⟨"StreamWatchModel", "stream", "(III)I"⟩ ∈ zTb := zin5 (List.mem_of_getElem? (i := 62) rfl) rfl
theorem z5_63 : Cond.instanceMethod ⟨"StreamWatchModel", "stream", "(III)I"⟩ ∈ zTb := zin5 (List.mem_of_getElem? (i := 63) rfl) rfl
theorem z5_64 : Cond.selects "StreamWatchModel" ⟨"StreamWatchModel", "stream", "(III)I"⟩ ⟨"StreamWatchModel", "stream", "(III)I"⟩ ∈ zTb := zin5 (List.mem_of_getElem? (i := 64) rfl) rfl
theorem z5_65 : Cond.code ⟨"StreamWatchModel", "stream", "(III)I"⟩ prog_13_method_36_code 7 (Option.some FieldType.int) ∈ zTb := zin5 (List.mem_of_getElem? (i := 65) rfl) rfl
theorem z5_66 : Cond.methodLink "StreamWatchLaw" 95 ⟨"StreamWatchModel", "text", "(III)I"⟩ ∈ zTb := zin5 (List.mem_of_getElem? (i := 66) rfl) rfl
theorem z5_67 : Cond.instanceMethod ⟨"StreamWatchModel", "text", "(III)I"⟩ ∈ zTb := zin5 (List.mem_of_getElem? (i := 67) rfl) rfl
theorem z5_68 : Cond.selects "StreamWatchModel" ⟨"StreamWatchModel", "text", "(III)I"⟩ ⟨"StreamWatchModel", "text", "(III)I"⟩ ∈ zTb := zin5 (List.mem_of_getElem? (i := 68) rfl) rfl
theorem z5_69 : Cond.code ⟨"StreamWatchModel", "text", "(III)I"⟩ prog_13_method_37_code 4 (Option.some FieldType.int) ∈ zTb := zin5 (List.mem_of_getElem? (i := 69) rfl) rfl
theorem z5_70 : Cond.methodLink "StreamWatchLaw" 99 ⟨"StreamWatchModel", "alerts", "()I"⟩ ∈ zTb := zin5 (List.mem_of_getElem? (i := 70) rfl) rfl
theorem z5_71 : Cond.instanceMethod ⟨"StreamWatchModel", "alerts", "()I"⟩ ∈ zTb := zin5 (List.mem_of_getElem? (i := 71) rfl) rfl
theorem z5_72 : Cond.selects "StreamWatchModel" ⟨"StreamWatchModel", "alerts", "()I"⟩ ⟨"StreamWatchModel", "alerts", "()I"⟩ ∈ zTb := zin5 (List.mem_of_getElem? (i := 72) rfl) rfl
theorem z5_73 : Cond.code ⟨"StreamWatchModel", "alerts", "()I"⟩ prog_13_method_38_code 1 (Option.some FieldType.int) ∈ zTb := zin5 (List.mem_of_getElem? (i := 73) rfl) rfl
theorem z5_74 : Cond.methodLink "StreamWatchLaw" 103 ⟨"StreamWatchModel", "alert", "(II)I"⟩ ∈ zTb := zin5 (List.mem_of_getElem? (i := 74) rfl) rfl
theorem z5_75 : Cond.instanceMethod ⟨"StreamWatchModel", "alert", "(II)I"⟩ ∈ zTb := zin5 (List.mem_of_getElem? (i := 75) rfl) rfl
theorem z5_76 : Cond.selects "StreamWatchModel" ⟨"StreamWatchModel", "alert", "(II)I"⟩ ⟨"StreamWatchModel", "alert", "(II)I"⟩ ∈ zTb := zin5 (List.mem_of_getElem? (i := 76) rfl) rfl
theorem z5_77 : Cond.code ⟨"StreamWatchModel", "alert", "(II)I"⟩ prog_13_method_39_code 3 (Option.some FieldType.int) ∈ zTb := zin5 (List.mem_of_getElem? (i := 77) rfl) rfl
theorem z5_78 : Cond.constantLong "StreamWatchLaw" 37 (4294967295 : Int64) ∈ zTb := zin5 (List.mem_of_getElem? (i := 78) rfl) rfl
theorem z5_79 : Cond.arrayClass FieldType.long ∈ zTb := zin5 (List.mem_of_getElem? (i := 79) rfl) rfl
abbrev R_Al : String := "StreamWatch$AlertLog"
def T_Al : u_T := fun k => match k with
  | 0 => ("StreamWatch$AlertLog", "rows", "[I", true)
  | 1 => ("StreamWatch$AlertLog", "total", "I", false)
  | _ => ("StreamWatch$AlertLog", "newest", "I", false)
def t_Al : Nat → FieldType := fun k => match k with
  | 0 => .array .int
  | 1 => .int
  | _ => .int
theorem n_Al : ∀ a, a < 3 → ∀ b, b < 3 → a ≠ b → (T_Al a).2.1 ≠ (T_Al b).2.1 := by decide +kernel
theorem t_Al_ok : ∀ k, k < 3 → parseFieldDescriptor (T_Al k).2.2.1 = some (t_Al k) := by decide +kernel
theorem u_Al : ∀ w ∈ u_ws R_Al T_Al 3, w ∈ zTb := List.forall_mem_cons.mpr ⟨z1_205, List.forall_mem_cons.mpr ⟨z1_207, List.forall_mem_cons.mpr ⟨z1_209, fun _ h => nomatch h⟩⟩⟩
abbrev R_Fl : String := "StreamWatch$Flow"
def T_Fl : u_T := fun k => match k with
  | 0 => ("StreamWatch$Flow", "clientHost", "I", false)
  | 1 => ("StreamWatch$Flow", "clientPort", "I", false)
  | 2 => ("StreamWatch$Flow", "serverHost", "I", false)
  | 3 => ("StreamWatch$Flow", "serverPort", "I", false)
  | 4 => ("StreamWatch$Flow", "heardAt", "I", false)
  | 5 => ("StreamWatch$Flow", "toServer", "LStreamWatch$Stream;", true)
  | 6 => ("StreamWatch$Flow", "toClient", "LStreamWatch$Stream;", true)
  | _ => ("StreamWatch$Flow", "live", "Z", false)
def t_Fl : Nat → FieldType := fun k => match k with
  | 0 => .int
  | 1 => .int
  | 2 => .int
  | 3 => .int
  | 4 => .int
  | 5 => .object "StreamWatch$Stream"
  | 6 => .object "StreamWatch$Stream"
  | _ => .boolean
theorem n_Fl : ∀ a, a < 8 → ∀ b, b < 8 → a ≠ b → (T_Fl a).2.1 ≠ (T_Fl b).2.1 := by decide +kernel
theorem t_Fl_ok : ∀ k, k < 8 → parseFieldDescriptor (T_Fl k).2.2.1 = some (t_Fl k) := by decide +kernel
theorem u_Fl : ∀ w ∈ u_ws R_Fl T_Fl 8, w ∈ zTb := List.forall_mem_cons.mpr ⟨z1_140, List.forall_mem_cons.mpr ⟨z1_142, List.forall_mem_cons.mpr ⟨z1_144, List.forall_mem_cons.mpr ⟨z1_146, List.forall_mem_cons.mpr ⟨z1_148, List.forall_mem_cons.mpr ⟨z1_150, List.forall_mem_cons.mpr ⟨z1_152, List.forall_mem_cons.mpr ⟨z1_154, fun _ h => nomatch h⟩⟩⟩⟩⟩⟩⟩⟩
abbrev R_Ft : String := "StreamWatch$FlowTable"
def T_Ft : u_T := fun k => match k with
  | 0 => ("StreamWatch$FlowTable", "places", "[LStreamWatch$Flow;", true)
  | _ => ("StreamWatch$FlowTable", "packetsHeard", "I", false)
def t_Ft : Nat → FieldType := fun k => match k with
  | 0 => .array (.object "StreamWatch$Flow")
  | _ => .int
theorem n_Ft : ∀ a, a < 2 → ∀ b, b < 2 → a ≠ b → (T_Ft a).2.1 ≠ (T_Ft b).2.1 := by decide +kernel
theorem t_Ft_ok : ∀ k, k < 2 → parseFieldDescriptor (T_Ft k).2.2.1 = some (t_Ft k) := by decide +kernel
theorem u_Ft : ∀ w ∈ u_ws R_Ft T_Ft 2, w ∈ zTb := List.forall_mem_cons.mpr ⟨z1_159, List.forall_mem_cons.mpr ⟨z1_161, fun _ h => nomatch h⟩⟩
abbrev R_Mk : String := "StreamWatch$Marks"
def T_Mk : u_T := fun k => match k with
  | 0 => ("StreamWatch$Marks", "marked", "[Z", true)
  | 1 => ("StreamWatch$Marks", "latest", "[I", true)
  | _ => ("StreamWatch$Marks", "top", "I", false)
def t_Mk : Nat → FieldType := fun k => match k with
  | 0 => .array .boolean
  | 1 => .array .int
  | _ => .int
theorem n_Mk : ∀ a, a < 3 → ∀ b, b < 3 → a ≠ b → (T_Mk a).2.1 ≠ (T_Mk b).2.1 := by decide +kernel
theorem t_Mk_ok : ∀ k, k < 3 → parseFieldDescriptor (T_Mk k).2.2.1 = some (t_Mk k) := by decide +kernel
theorem u_Mk : ∀ w ∈ u_ws R_Mk T_Mk 3, w ∈ zTb := List.forall_mem_cons.mpr ⟨z1_181, List.forall_mem_cons.mpr ⟨z1_183, List.forall_mem_cons.mpr ⟨z1_185, fun _ h => nomatch h⟩⟩⟩
abbrev R_Op : String := "StreamWatch$Option"
def T_Op : u_T := fun k => match k with
  | 0 => ("StreamWatch$Option", "not", "Z", true)
  | 1 => ("StreamWatch$Option", "relative", "Z", true)
  | 2 => ("StreamWatch$Option", "least", "I", true)
  | 3 => ("StreamWatch$Option", "most", "I", true)
  | 4 => ("StreamWatch$Option", "size", "I", true)
  | 5 => ("StreamWatch$Option", "content", "J", true)
  | _ => ("StreamWatch$Option", "anyCase", "Z", true)
def t_Op : Nat → FieldType := fun k => match k with
  | 0 => .boolean
  | 1 => .boolean
  | 2 => .int
  | 3 => .int
  | 4 => .int
  | 5 => .long
  | _ => .boolean
theorem n_Op : ∀ a, a < 7 → ∀ b, b < 7 → a ≠ b → (T_Op a).2.1 ≠ (T_Op b).2.1 := by decide +kernel
theorem t_Op_ok : ∀ k, k < 7 → parseFieldDescriptor (T_Op k).2.2.1 = some (t_Op k) := by decide +kernel
theorem u_Op : ∀ w ∈ u_ws R_Op T_Op 7, w ∈ zTb := List.forall_mem_cons.mpr ⟨z4_40, List.forall_mem_cons.mpr ⟨z4_42, List.forall_mem_cons.mpr ⟨z4_44, List.forall_mem_cons.mpr ⟨z4_46, List.forall_mem_cons.mpr ⟨z4_48, List.forall_mem_cons.mpr ⟨z4_50, List.forall_mem_cons.mpr ⟨z4_52, fun _ h => nomatch h⟩⟩⟩⟩⟩⟩⟩
abbrev R_Pk : String := "StreamWatch$Packet"
def T_Pk : u_T := fun k => match k with
  | 0 => ("StreamWatch$Packet", "fromHost", "I", false)
  | 1 => ("StreamWatch$Packet", "fromPort", "I", false)
  | 2 => ("StreamWatch$Packet", "toHost", "I", false)
  | 3 => ("StreamWatch$Packet", "toPort", "I", false)
  | 4 => ("StreamWatch$Packet", "firstNumber", "I", false)
  | 5 => ("StreamWatch$Packet", "dataStart", "I", false)
  | 6 => ("StreamWatch$Packet", "dataSize", "I", false)
  | _ => ("StreamWatch$Packet", "flags", "I", false)
def t_Pk : Nat → FieldType := fun k => match k with
  | 0 => .int
  | 1 => .int
  | 2 => .int
  | 3 => .int
  | 4 => .int
  | 5 => .int
  | 6 => .int
  | _ => .int
theorem n_Pk : ∀ a, a < 8 → ∀ b, b < 8 → a ≠ b → (T_Pk a).2.1 ≠ (T_Pk b).2.1 := by decide +kernel
theorem t_Pk_ok : ∀ k, k < 8 → parseFieldDescriptor (T_Pk k).2.2.1 = some (t_Pk k) := by decide +kernel
theorem u_Pk : ∀ w ∈ u_ws R_Pk T_Pk 8, w ∈ zTb := List.forall_mem_cons.mpr ⟨z1_62, List.forall_mem_cons.mpr ⟨z1_64, List.forall_mem_cons.mpr ⟨z1_66, List.forall_mem_cons.mpr ⟨z1_68, List.forall_mem_cons.mpr ⟨z1_70, List.forall_mem_cons.mpr ⟨z1_72, List.forall_mem_cons.mpr ⟨z1_74, List.forall_mem_cons.mpr ⟨z1_76, fun _ h => nomatch h⟩⟩⟩⟩⟩⟩⟩⟩
abbrev R_Ru : String := "StreamWatch$Rule"
def T_Ru : u_T := fun k => match k with
  | 0 => ("StreamWatch$Rule", "way", "I", true)
  | 1 => ("StreamWatch$Rule", "port", "I", true)
  | 2 => ("StreamWatch$Rule", "options", "[LStreamWatch$Option;", true)
  | _ => ("StreamWatch$Rule", "count", "I", false)
def t_Ru : Nat → FieldType := fun k => match k with
  | 0 => .int
  | 1 => .int
  | 2 => .array (.object "StreamWatch$Option")
  | _ => .int
theorem n_Ru : ∀ a, a < 4 → ∀ b, b < 4 → a ≠ b → (T_Ru a).2.1 ≠ (T_Ru b).2.1 := by decide +kernel
theorem t_Ru_ok : ∀ k, k < 4 → parseFieldDescriptor (T_Ru k).2.2.1 = some (t_Ru k) := by decide +kernel
theorem u_Ru : ∀ w ∈ u_ws R_Ru T_Ru 4, w ∈ zTb := List.forall_mem_cons.mpr ⟨z4_0, List.forall_mem_cons.mpr ⟨z4_2, List.forall_mem_cons.mpr ⟨z4_4, List.forall_mem_cons.mpr ⟨z4_6, fun _ h => nomatch h⟩⟩⟩⟩
abbrev R_Se : String := "StreamWatch$Search"
def T_Se : u_T := fun k => match k with
  | 0 => ("StreamWatch$Search", "bases", "LStreamWatch$Marks;", true)
  | _ => ("StreamWatch$Search", "found", "LStreamWatch$Marks;", true)
def t_Se : Nat → FieldType := fun k => match k with
  | 0 => .object "StreamWatch$Marks"
  | _ => .object "StreamWatch$Marks"
theorem n_Se : ∀ a, a < 2 → ∀ b, b < 2 → a ≠ b → (T_Se a).2.1 ≠ (T_Se b).2.1 := by decide +kernel
theorem t_Se_ok : ∀ k, k < 2 → parseFieldDescriptor (T_Se k).2.2.1 = some (t_Se k) := by decide +kernel
theorem u_Se : ∀ w ∈ u_ws R_Se T_Se 2, w ∈ zTb := List.forall_mem_cons.mpr ⟨z1_191, List.forall_mem_cons.mpr ⟨z1_193, fun _ h => nomatch h⟩⟩
abbrev R_Sm : String := "StreamWatch$Stream"
def T_Sm : u_T := fun k => match k with
  | 0 => ("StreamWatch$Stream", "text", "[I", true)
  | 1 => ("StreamWatch$Stream", "held", "[I", true)
  | 2 => ("StreamWatch$Stream", "textSize", "I", false)
  | 3 => ("StreamWatch$Stream", "heldSize", "I", false)
  | 4 => ("StreamWatch$Stream", "next", "I", false)
  | 5 => ("StreamWatch$Stream", "raisedRules", "I", false)
  | 6 => ("StreamWatch$Stream", "begun", "Z", false)
  | _ => ("StreamWatch$Stream", "ended", "Z", false)
def t_Sm : Nat → FieldType := fun k => match k with
  | 0 => .array .int
  | 1 => .array .int
  | 2 => .int
  | 3 => .int
  | 4 => .int
  | 5 => .int
  | 6 => .boolean
  | _ => .boolean
theorem n_Sm : ∀ a, a < 8 → ∀ b, b < 8 → a ≠ b → (T_Sm a).2.1 ≠ (T_Sm b).2.1 := by decide +kernel
theorem t_Sm_ok : ∀ k, k < 8 → parseFieldDescriptor (T_Sm k).2.2.1 = some (t_Sm k) := by decide +kernel
theorem u_Sm : ∀ w ∈ u_ws R_Sm T_Sm 8, w ∈ zTb := List.forall_mem_cons.mpr ⟨z1_110, List.forall_mem_cons.mpr ⟨z1_112, List.forall_mem_cons.mpr ⟨z1_114, List.forall_mem_cons.mpr ⟨z1_116, List.forall_mem_cons.mpr ⟨z1_118, List.forall_mem_cons.mpr ⟨z1_120, List.forall_mem_cons.mpr ⟨z1_122, List.forall_mem_cons.mpr ⟨z1_124, fun _ h => nomatch h⟩⟩⟩⟩⟩⟩⟩⟩
abbrev R_Wi : String := "StreamWatch$Wire"
def T_Wi : u_T := fun k => match k with
  | 0 => ("StreamWatch$Wire", "bytes", "[I", true)
  | _ => ("StreamWatch$Wire", "count", "I", false)
def t_Wi : Nat → FieldType := fun k => match k with
  | 0 => .array .int
  | _ => .int
theorem n_Wi : ∀ a, a < 2 → ∀ b, b < 2 → a ≠ b → (T_Wi a).2.1 ≠ (T_Wi b).2.1 := by decide +kernel
theorem t_Wi_ok : ∀ k, k < 2 → parseFieldDescriptor (T_Wi k).2.2.1 = some (t_Wi k) := by decide +kernel
theorem u_Wi : ∀ w ∈ u_ws R_Wi T_Wi 2, w ∈ zTb := List.forall_mem_cons.mpr ⟨z1_35, List.forall_mem_cons.mpr ⟨z1_37, fun _ h => nomatch h⟩⟩
abbrev R_Sw : String := "StreamWatch"
def T_Sw : u_T := fun k => match k with
  | 0 => ("StreamWatch", "lastStays", "Z", true)
  | 1 => ("StreamWatch", "line", "LStreamWatch$Wire;", true)
  | 2 => ("StreamWatch", "packet", "LStreamWatch$Packet;", true)
  | 3 => ("StreamWatch", "flows", "LStreamWatch$FlowTable;", true)
  | 4 => ("StreamWatch", "rules", "[LStreamWatch$Rule;", true)
  | 5 => ("StreamWatch", "search", "LStreamWatch$Search;", true)
  | 6 => ("StreamWatch", "log", "LStreamWatch$AlertLog;", true)
  | _ => ("StreamWatch", "ruleCount", "I", false)
def t_Sw : Nat → FieldType := fun k => match k with
  | 0 => .boolean
  | 1 => .object "StreamWatch$Wire"
  | 2 => .object "StreamWatch$Packet"
  | 3 => .object "StreamWatch$FlowTable"
  | 4 => .array (.object "StreamWatch$Rule")
  | 5 => .object "StreamWatch$Search"
  | 6 => .object "StreamWatch$AlertLog"
  | _ => .int
theorem n_Sw : ∀ a, a < 8 → ∀ b, b < 8 → a ≠ b → (T_Sw a).2.1 ≠ (T_Sw b).2.1 := by decide +kernel
theorem t_Sw_ok : ∀ k, k < 8 → parseFieldDescriptor (T_Sw k).2.2.1 = some (t_Sw k) := by decide +kernel
theorem u_Sw : ∀ w ∈ u_ws R_Sw T_Sw 8, w ∈ zTb := List.forall_mem_cons.mpr ⟨z1_220, List.forall_mem_cons.mpr ⟨z1_222, List.forall_mem_cons.mpr ⟨z1_224, List.forall_mem_cons.mpr ⟨z1_226, List.forall_mem_cons.mpr ⟨z1_228, List.forall_mem_cons.mpr ⟨z1_230, List.forall_mem_cons.mpr ⟨z1_232, List.forall_mem_cons.mpr ⟨z1_234, fun _ h => nomatch h⟩⟩⟩⟩⟩⟩⟩⟩
abbrev R_Md : String := "StreamWatchModel"
def T_Md : u_T := fun k => match k with
  | 0 => ("StreamWatchModel", "thrown", "I", false)
  | 1 => ("StreamWatchModel", "last", "Z", false)
  | 2 => ("StreamWatchModel", "length", "I", false)
  | 3 => ("StreamWatchModel", "wire", "[I", false)
  | 4 => ("StreamWatchModel", "used", "[Z", false)
  | 5 => ("StreamWatchModel", "clientHost", "[I", false)
  | 6 => ("StreamWatchModel", "clientPort", "[I", false)
  | 7 => ("StreamWatchModel", "serverHost", "[I", false)
  | 8 => ("StreamWatchModel", "serverPort", "[I", false)
  | 9 => ("StreamWatchModel", "heard", "[I", false)
  | 10 => ("StreamWatchModel", "clock", "I", false)
  | 11 => ("StreamWatchModel", "begun", "[Z", false)
  | 12 => ("StreamWatchModel", "next", "[I", false)
  | 13 => ("StreamWatchModel", "ended", "[Z", false)
  | 14 => ("StreamWatchModel", "size", "[I", false)
  | 15 => ("StreamWatchModel", "text", "[I", false)
  | 16 => ("StreamWatchModel", "holds", "[Z", false)
  | 17 => ("StreamWatchModel", "heldByte", "[I", false)
  | 18 => ("StreamWatchModel", "raised", "[Z", false)
  | 19 => ("StreamWatchModel", "rules", "I", false)
  | 20 => ("StreamWatchModel", "ruleWay", "[I", false)
  | 21 => ("StreamWatchModel", "rulePort", "[I", false)
  | 22 => ("StreamWatchModel", "options", "[I", false)
  | 23 => ("StreamWatchModel", "contentSize", "[I", false)
  | 24 => ("StreamWatchModel", "content", "[I", false)
  | 25 => ("StreamWatchModel", "marks", "[I", false)
  | 26 => ("StreamWatchModel", "least", "[I", false)
  | 27 => ("StreamWatchModel", "span", "[I", false)
  | 28 => ("StreamWatchModel", "tried", "I", false)
  | 29 => ("StreamWatchModel", "level", "[I", false)
  | 30 => ("StreamWatchModel", "place", "[I", false)
  | 31 => ("StreamWatchModel", "alerts", "I", false)
  | _ => ("StreamWatchModel", "alert", "[I", false)
def t_Md : Nat → FieldType := fun k => match k with
  | 0 => .int
  | 1 => .boolean
  | 2 => .int
  | 3 => .array .int
  | 4 => .array .boolean
  | 5 => .array .int
  | 6 => .array .int
  | 7 => .array .int
  | 8 => .array .int
  | 9 => .array .int
  | 10 => .int
  | 11 => .array .boolean
  | 12 => .array .int
  | 13 => .array .boolean
  | 14 => .array .int
  | 15 => .array .int
  | 16 => .array .boolean
  | 17 => .array .int
  | 18 => .array .boolean
  | 19 => .int
  | 20 => .array .int
  | 21 => .array .int
  | 22 => .array .int
  | 23 => .array .int
  | 24 => .array .int
  | 25 => .array .int
  | 26 => .array .int
  | 27 => .array .int
  | 28 => .int
  | 29 => .array .int
  | 30 => .array .int
  | 31 => .int
  | _ => .array .int
theorem n_Md : ∀ a, a < 33 → ∀ b, b < 33 → a ≠ b → (T_Md a).2.1 ≠ (T_Md b).2.1 := by decide +kernel
theorem t_Md_ok : ∀ k, k < 33 → parseFieldDescriptor (T_Md k).2.2.1 = some (t_Md k) := by decide +kernel
theorem u_Md : ∀ w ∈ u_ws R_Md T_Md 33, w ∈ zTb := List.forall_mem_cons.mpr ⟨z4_98, List.forall_mem_cons.mpr ⟨z4_100, List.forall_mem_cons.mpr ⟨z4_102, List.forall_mem_cons.mpr ⟨z4_104, List.forall_mem_cons.mpr ⟨z4_106, List.forall_mem_cons.mpr ⟨z4_108, List.forall_mem_cons.mpr ⟨z4_110, List.forall_mem_cons.mpr ⟨z4_112, List.forall_mem_cons.mpr ⟨z4_114, List.forall_mem_cons.mpr ⟨z4_116, List.forall_mem_cons.mpr ⟨z4_118, List.forall_mem_cons.mpr ⟨z4_120, List.forall_mem_cons.mpr ⟨z4_122, List.forall_mem_cons.mpr ⟨z4_124, List.forall_mem_cons.mpr ⟨z4_126, List.forall_mem_cons.mpr ⟨z4_128, List.forall_mem_cons.mpr ⟨z4_130, List.forall_mem_cons.mpr ⟨z4_132, List.forall_mem_cons.mpr ⟨z4_134, List.forall_mem_cons.mpr ⟨z4_136, List.forall_mem_cons.mpr ⟨z4_138, List.forall_mem_cons.mpr ⟨z4_140, List.forall_mem_cons.mpr ⟨z4_142, List.forall_mem_cons.mpr ⟨z4_144, List.forall_mem_cons.mpr ⟨z4_146, List.forall_mem_cons.mpr ⟨z4_148, List.forall_mem_cons.mpr ⟨z4_150, List.forall_mem_cons.mpr ⟨z4_152, List.forall_mem_cons.mpr ⟨z4_154, List.forall_mem_cons.mpr ⟨z4_156, List.forall_mem_cons.mpr ⟨z4_158, List.forall_mem_cons.mpr ⟨z4_160, List.forall_mem_cons.mpr ⟨z4_162, fun _ h => nomatch h⟩⟩⟩⟩⟩⟩⟩⟩⟩⟩⟩⟩⟩⟩⟩⟩⟩⟩⟩⟩⟩⟩⟩⟩⟩⟩⟩⟩⟩⟩⟩⟩⟩
abbrev zCl : List vw_C := [(R_Al, T_Al, 3), (R_Fl, T_Fl, 8), (R_Ft, T_Ft, 2), (R_Mk, T_Mk, 3), (R_Op, T_Op, 7), (R_Pk, T_Pk, 8), (R_Ru, T_Ru, 4), (R_Se, T_Se, 2), (R_Sm, T_Sm, 8), (R_Wi, T_Wi, 2), (R_Sw, T_Sw, 8), (R_Md, T_Md, 33)]
abbrev zTy : List FieldType := [.int, .boolean, .long, .object "StreamWatch$Flow", .object "StreamWatch$Rule", .object "StreamWatch$Option"]
abbrev zG : mj_G := (zCl, zTb, zTy)
abbrev c_Al_init : ByteArray := prog_2_method_1_code
abbrev m_Al_init : mj_N := (⟨"StreamWatch$AlertLog", "<init>", "()V"⟩, c_Al_init, 1, none)
abbrev c_Al_total : ByteArray := prog_2_method_2_code
abbrev m_Al_total : mj_N := (⟨"StreamWatch$AlertLog", "total", "()I"⟩, c_Al_total, 1, some .int)
abbrev c_Al_add : ByteArray := prog_2_method_3_code
abbrev m_Al_add : mj_N := (⟨"StreamWatch$AlertLog", "add", "(IIII)V"⟩, c_Al_add, 6, none)
abbrev c_Al_read : ByteArray := prog_2_method_4_code
abbrev m_Al_read : mj_N := (⟨"StreamWatch$AlertLog", "read", "(II)I"⟩, c_Al_read, 5, some .int)
abbrev c_Fl_init : ByteArray := prog_3_method_1_code
abbrev m_Fl_init : mj_N := (⟨"StreamWatch$Flow", "<init>", "()V"⟩, c_Fl_init, 1, none)
abbrev c_Fl_isLive : ByteArray := prog_3_method_2_code
abbrev m_Fl_isLive : mj_N := (⟨"StreamWatch$Flow", "isLive", "()Z"⟩, c_Fl_isLive, 1, some .boolean)
abbrev c_Fl_open : ByteArray := prog_3_method_3_code
abbrev m_Fl_open : mj_N := (⟨"StreamWatch$Flow", "open", "(LStreamWatch$Packet;)V"⟩, c_Fl_open, 2, none)
abbrev c_Fl_free : ByteArray := prog_3_method_4_code
abbrev m_Fl_free : mj_N := (⟨"StreamWatch$Flow", "free", "()V"⟩, c_Fl_free, 1, none)
abbrev c_Fl_freeIfBothEnded : ByteArray := prog_3_method_5_code
abbrev m_Fl_freeIfBothEnded : mj_N := (⟨"StreamWatch$Flow", "freeIfBothEnded", "()V"⟩, c_Fl_freeIfBothEnded, 1, none)
abbrev c_Fl_wayOf : ByteArray := prog_3_method_6_code
abbrev m_Fl_wayOf : mj_N := (⟨"StreamWatch$Flow", "wayOf", "(LStreamWatch$Packet;)I"⟩, c_Fl_wayOf, 4, some .int)
abbrev c_Fl_streamOf : ByteArray := prog_3_method_7_code
abbrev m_Fl_streamOf : mj_N := (⟨"StreamWatch$Flow", "streamOf", "(I)LStreamWatch$Stream;"⟩, c_Fl_streamOf, 2, some (.object "StreamWatch$Stream"))
abbrev c_Fl_isClient : ByteArray := prog_3_method_8_code
abbrev m_Fl_isClient : mj_N := (⟨"StreamWatch$Flow", "isClient", "(II)Z"⟩, c_Fl_isClient, 3, some .boolean)
abbrev c_Fl_isServer : ByteArray := prog_3_method_9_code
abbrev m_Fl_isServer : mj_N := (⟨"StreamWatch$Flow", "isServer", "(II)Z"⟩, c_Fl_isServer, 3, some .boolean)
abbrev c_Ft_init : ByteArray := prog_4_method_1_code
abbrev m_Ft_init : mj_N := (⟨"StreamWatch$FlowTable", "<init>", "()V"⟩, c_Ft_init, 2, none)
abbrev c_Ft_at : ByteArray := prog_4_method_2_code
abbrev m_Ft_at : mj_N := (⟨"StreamWatch$FlowTable", "at", "(I)LStreamWatch$Flow;"⟩, c_Ft_at, 2, some (.object "StreamWatch$Flow"))
abbrev c_Ft_of : ByteArray := prog_4_method_3_code
abbrev m_Ft_of : mj_N := (⟨"StreamWatch$FlowTable", "of", "(LStreamWatch$Packet;)LStreamWatch$Flow;"⟩, c_Ft_of, 4, some (.object "StreamWatch$Flow"))
abbrev c_Ft_open : ByteArray := prog_4_method_4_code
abbrev m_Ft_open : mj_N := (⟨"StreamWatch$FlowTable", "open", "(LStreamWatch$Packet;)LStreamWatch$Flow;"⟩, c_Ft_open, 4, some (.object "StreamWatch$Flow"))
abbrev c_Ft_hear : ByteArray := prog_4_method_5_code
abbrev m_Ft_hear : mj_N := (⟨"StreamWatch$FlowTable", "hear", "(LStreamWatch$Flow;)V"⟩, c_Ft_hear, 2, none)
abbrev c_Ft_heardAfter : ByteArray := prog_4_method_6_code
abbrev m_Ft_heardAfter : mj_N := (⟨"StreamWatch$FlowTable", "heardAfter", "(LStreamWatch$Flow;)I"⟩, c_Ft_heardAfter, 5, some .int)
abbrev c_Mk_init : ByteArray := prog_5_method_1_code
abbrev m_Mk_init : mj_N := (⟨"StreamWatch$Marks", "<init>", "()V"⟩, c_Mk_init, 1, none)
abbrev c_Mk_markStartOnly : ByteArray := prog_5_method_2_code
abbrev m_Mk_markStartOnly : mj_N := (⟨"StreamWatch$Marks", "markStartOnly", "(I)V"⟩, c_Mk_markStartOnly, 3, none)
abbrev c_Mk_set : ByteArray := prog_5_method_3_code
abbrev m_Mk_set : mj_N := (⟨"StreamWatch$Marks", "set", "(IZ)V"⟩, c_Mk_set, 3, none)
abbrev c_Mk_has : ByteArray := prog_5_method_4_code
abbrev m_Mk_has : mj_N := (⟨"StreamWatch$Marks", "has", "(I)Z"⟩, c_Mk_has, 2, some .boolean)
abbrev c_Mk_settle : ByteArray := prog_5_method_5_code
abbrev m_Mk_settle : mj_N := (⟨"StreamWatch$Marks", "settle", "(I)V"⟩, c_Mk_settle, 4, none)
abbrev c_Mk_isAnyIn : ByteArray := prog_5_method_6_code
abbrev m_Mk_isAnyIn : mj_N := (⟨"StreamWatch$Marks", "isAnyIn", "(II)Z"⟩, c_Mk_isAnyIn, 4, some .boolean)
abbrev c_Op_init : ByteArray := prog_6_method_1_code
abbrev m_Op_init : mj_N := (⟨"StreamWatch$Option", "<init>", "(IJIII)V"⟩, c_Op_init, 7, none)
abbrev c_Op_standsAt : ByteArray := prog_6_method_2_code
abbrev m_Op_standsAt : mj_N := (⟨"StreamWatch$Option", "standsAt", "(ILStreamWatch$Stream;)Z"⟩, c_Op_standsAt, 5, some .boolean)
abbrev c_Op_folded : ByteArray := prog_6_method_3_code
abbrev m_Op_folded : mj_N := (⟨"StreamWatch$Option", "folded", "(I)I"⟩, c_Op_folded, 2, some .int)
abbrev c_Pk_init : ByteArray := prog_7_method_1_code
abbrev m_Pk_init : mj_N := (⟨"StreamWatch$Packet", "<init>", "()V"⟩, c_Pk_init, 1, none)
abbrev c_Pk_read : ByteArray := prog_7_method_2_code
abbrev m_Pk_read : mj_N := (⟨"StreamWatch$Packet", "read", "(LStreamWatch$Wire;)V"⟩, c_Pk_read, 3, none)
abbrev c_Pk_hasFlag : ByteArray := prog_7_method_3_code
abbrev m_Pk_hasFlag : mj_N := (⟨"StreamWatch$Packet", "hasFlag", "(I)Z"⟩, c_Pk_hasFlag, 2, some .boolean)
abbrev c_Ru_init : ByteArray := prog_8_method_1_code
abbrev m_Ru_init : mj_N := (⟨"StreamWatch$Rule", "<init>", "(II)V"⟩, c_Ru_init, 3, none)
abbrev c_Ru_size : ByteArray := prog_8_method_2_code
abbrev m_Ru_size : mj_N := (⟨"StreamWatch$Rule", "size", "()I"⟩, c_Ru_size, 1, some .int)
abbrev c_Ru_add : ByteArray := prog_8_method_3_code
abbrev m_Ru_add : mj_N := (⟨"StreamWatch$Rule", "add", "(LStreamWatch$Option;)V"⟩, c_Ru_add, 2, none)
abbrev c_Ru_at : ByteArray := prog_8_method_4_code
abbrev m_Ru_at : mj_N := (⟨"StreamWatch$Rule", "at", "(I)LStreamWatch$Option;"⟩, c_Ru_at, 2, some (.object "StreamWatch$Option"))
abbrev c_Ru_isFor : ByteArray := prog_8_method_5_code
abbrev m_Ru_isFor : mj_N := (⟨"StreamWatch$Rule", "isFor", "(II)Z"⟩, c_Ru_isFor, 4, some .boolean)
abbrev c_Se_init : ByteArray := prog_9_method_1_code
abbrev m_Se_init : mj_N := (⟨"StreamWatch$Search", "<init>", "()V"⟩, c_Se_init, 1, none)
abbrev c_Se_holds : ByteArray := prog_9_method_2_code
abbrev m_Se_holds : mj_N := (⟨"StreamWatch$Search", "holds", "(LStreamWatch$Rule;LStreamWatch$Stream;)Z"⟩, c_Se_holds, 7, some .boolean)
abbrev c_Se_find : ByteArray := prog_9_method_3_code
abbrev m_Se_find : mj_N := (⟨"StreamWatch$Search", "find", "(LStreamWatch$Option;LStreamWatch$Stream;)V"⟩, c_Se_find, 5, none)
abbrev c_Se_dropBases : ByteArray := prog_9_method_4_code
abbrev m_Se_dropBases : mj_N := (⟨"StreamWatch$Search", "dropBases", "(LStreamWatch$Option;I)V"⟩, c_Se_dropBases, 5, none)
abbrev c_Se_moveBases : ByteArray := prog_9_method_5_code
abbrev m_Se_moveBases : mj_N := (⟨"StreamWatch$Search", "moveBases", "(LStreamWatch$Option;I)V"⟩, c_Se_moveBases, 6, none)
abbrev c_Sm_init : ByteArray := prog_10_method_1_code
abbrev m_Sm_init : mj_N := (⟨"StreamWatch$Stream", "<init>", "()V"⟩, c_Sm_init, 1, none)
abbrev c_Sm_reset : ByteArray := prog_10_method_2_code
abbrev m_Sm_reset : mj_N := (⟨"StreamWatch$Stream", "reset", "()V"⟩, c_Sm_reset, 1, none)
abbrev c_Sm_begin : ByteArray := prog_10_method_3_code
abbrev m_Sm_begin : mj_N := (⟨"StreamWatch$Stream", "begin", "(I)V"⟩, c_Sm_begin, 2, none)
abbrev c_Sm_hold : ByteArray := prog_10_method_4_code
abbrev m_Sm_hold : mj_N := (⟨"StreamWatch$Stream", "hold", "(IIZ)V"⟩, c_Sm_hold, 6, none)
abbrev c_Sm_isNextHeld : ByteArray := prog_10_method_5_code
abbrev m_Sm_isNextHeld : mj_N := (⟨"StreamWatch$Stream", "isNextHeld", "()Z"⟩, c_Sm_isNextHeld, 1, some .boolean)
abbrev c_Sm_takeNext : ByteArray := prog_10_method_6_code
abbrev m_Sm_takeNext : mj_N := (⟨"StreamWatch$Stream", "takeNext", "()Z"⟩, c_Sm_takeNext, 3, some .boolean)
abbrev c_Sm_end : ByteArray := prog_10_method_7_code
abbrev m_Sm_end : mj_N := (⟨"StreamWatch$Stream", "end", "()V"⟩, c_Sm_end, 1, none)
abbrev c_Sm_hasEnded : ByteArray := prog_10_method_8_code
abbrev m_Sm_hasEnded : mj_N := (⟨"StreamWatch$Stream", "hasEnded", "()Z"⟩, c_Sm_hasEnded, 1, some .boolean)
abbrev c_Sm_size : ByteArray := prog_10_method_9_code
abbrev m_Sm_size : mj_N := (⟨"StreamWatch$Stream", "size", "()I"⟩, c_Sm_size, 1, some .int)
abbrev c_Sm_next : ByteArray := prog_10_method_10_code
abbrev m_Sm_next : mj_N := (⟨"StreamWatch$Stream", "next", "()I"⟩, c_Sm_next, 1, some .int)
abbrev c_Sm_heldCount : ByteArray := prog_10_method_11_code
abbrev m_Sm_heldCount : mj_N := (⟨"StreamWatch$Stream", "heldCount", "()I"⟩, c_Sm_heldCount, 1, some .int)
abbrev c_Sm_byteAt : ByteArray := prog_10_method_12_code
abbrev m_Sm_byteAt : mj_N := (⟨"StreamWatch$Stream", "byteAt", "(I)I"⟩, c_Sm_byteAt, 2, some .int)
abbrev c_Sm_hasRaised : ByteArray := prog_10_method_13_code
abbrev m_Sm_hasRaised : mj_N := (⟨"StreamWatch$Stream", "hasRaised", "(I)Z"⟩, c_Sm_hasRaised, 2, some .boolean)
abbrev c_Sm_setRaised : ByteArray := prog_10_method_14_code
abbrev m_Sm_setRaised : mj_N := (⟨"StreamWatch$Stream", "setRaised", "(I)V"⟩, c_Sm_setRaised, 2, none)
abbrev c_Sm_emptyWindow : ByteArray := prog_10_method_15_code
abbrev m_Sm_emptyWindow : mj_N := (⟨"StreamWatch$Stream", "emptyWindow", "()V"⟩, c_Sm_emptyWindow, 2, none)
abbrev c_Sm_placeOf : ByteArray := prog_10_method_16_code
abbrev m_Sm_placeOf : mj_N := (⟨"StreamWatch$Stream", "placeOf", "(I)I"⟩, c_Sm_placeOf, 1, some .int)
abbrev c_Wi_init : ByteArray := prog_11_method_1_code
abbrev m_Wi_init : mj_N := (⟨"StreamWatch$Wire", "<init>", "()V"⟩, c_Wi_init, 1, none)
abbrev c_Wi_size : ByteArray := prog_11_method_2_code
abbrev m_Wi_size : mj_N := (⟨"StreamWatch$Wire", "size", "()I"⟩, c_Wi_size, 1, some .int)
abbrev c_Wi_has : ByteArray := prog_11_method_3_code
abbrev m_Wi_has : mj_N := (⟨"StreamWatch$Wire", "has", "(I)Z"⟩, c_Wi_has, 2, some .boolean)
abbrev c_Wi_at : ByteArray := prog_11_method_4_code
abbrev m_Wi_at : mj_N := (⟨"StreamWatch$Wire", "at", "(I)I"⟩, c_Wi_at, 2, some .int)
abbrev c_Wi_clear : ByteArray := prog_11_method_5_code
abbrev m_Wi_clear : mj_N := (⟨"StreamWatch$Wire", "clear", "()V"⟩, c_Wi_clear, 1, none)
abbrev c_Wi_flip : ByteArray := prog_11_method_6_code
abbrev m_Wi_flip : mj_N := (⟨"StreamWatch$Wire", "flip", "(II)Z"⟩, c_Wi_flip, 3, some .boolean)
abbrev c_Wi_append : ByteArray := prog_11_method_7_code
abbrev m_Wi_append : mj_N := (⟨"StreamWatch$Wire", "append", "(IJ)Z"⟩, c_Wi_append, 5, some .boolean)
abbrev c_Wi_fault : ByteArray := prog_11_method_8_code
abbrev m_Wi_fault : mj_N := (⟨"StreamWatch$Wire", "fault", "(Z)I"⟩, c_Wi_fault, 2, some .int)
abbrev c_Wi_makeSumsRight : ByteArray := prog_11_method_9_code
abbrev m_Wi_makeSumsRight : mj_N := (⟨"StreamWatch$Wire", "makeSumsRight", "()V"⟩, c_Wi_makeSumsRight, 2, none)
abbrev c_Wi_ipSize : ByteArray := prog_11_method_10_code
abbrev m_Wi_ipSize : mj_N := (⟨"StreamWatch$Wire", "ipSize", "()I"⟩, c_Wi_ipSize, 1, some .int)
abbrev c_Wi_length : ByteArray := prog_11_method_11_code
abbrev m_Wi_length : mj_N := (⟨"StreamWatch$Wire", "length", "()I"⟩, c_Wi_length, 1, some .int)
abbrev c_Wi_dataStart : ByteArray := prog_11_method_12_code
abbrev m_Wi_dataStart : mj_N := (⟨"StreamWatch$Wire", "dataStart", "()I"⟩, c_Wi_dataStart, 1, some .int)
abbrev c_Wi_pairAt : ByteArray := prog_11_method_13_code
abbrev m_Wi_pairAt : mj_N := (⟨"StreamWatch$Wire", "pairAt", "(I)I"⟩, c_Wi_pairAt, 2, some .int)
abbrev c_Wi_quadAt : ByteArray := prog_11_method_14_code
abbrev m_Wi_quadAt : mj_N := (⟨"StreamWatch$Wire", "quadAt", "(I)I"⟩, c_Wi_quadAt, 2, some .int)
abbrev c_Wi_tcpWords : ByteArray := prog_11_method_15_code
abbrev m_Wi_tcpWords : mj_N := (⟨"StreamWatch$Wire", "tcpWords", "()I"⟩, c_Wi_tcpWords, 1, some .int)
abbrev c_Wi_ipSum : ByteArray := prog_11_method_16_code
abbrev m_Wi_ipSum : mj_N := (⟨"StreamWatch$Wire", "ipSum", "()I"⟩, c_Wi_ipSum, 1, some .int)
abbrev c_Wi_tcpSum : ByteArray := prog_11_method_17_code
abbrev m_Wi_tcpSum : mj_N := (⟨"StreamWatch$Wire", "tcpSum", "()I"⟩, c_Wi_tcpSum, 2, some .int)
abbrev c_Wi_sumOf : ByteArray := prog_11_method_18_code
abbrev m_Wi_sumOf : mj_N := (⟨"StreamWatch$Wire", "sumOf", "(III)I"⟩, c_Wi_sumOf, 7, some .int)
abbrev c_Wi_addToSum : ByteArray := prog_11_method_19_code
abbrev m_Wi_addToSum : mj_N := (⟨"StreamWatch$Wire", "addToSum", "(II)I"⟩, c_Wi_addToSum, 3, some .int)
abbrev c_Wi_setPair : ByteArray := prog_11_method_20_code
abbrev m_Wi_setPair : mj_N := (⟨"StreamWatch$Wire", "setPair", "(II)V"⟩, c_Wi_setPair, 3, none)
abbrev c_Sw_init : ByteArray := prog_1_method_1_code
abbrev m_Sw_init : mj_N := (⟨"StreamWatch", "<init>", "(I)V"⟩, c_Sw_init, 2, none)
abbrev c_Sw_craft : ByteArray := prog_1_method_2_code
abbrev m_Sw_craft : mj_N := (⟨"StreamWatch", "craft", "(IIIIIJ)I"⟩, c_Sw_craft, 8, some .int)
abbrev c_Sw_alter : ByteArray := prog_1_method_3_code
abbrev m_Sw_alter : mj_N := (⟨"StreamWatch", "alter", "(II)Z"⟩, c_Sw_alter, 3, some .boolean)
abbrev c_Sw_wipe : ByteArray := prog_1_method_4_code
abbrev m_Sw_wipe : mj_N := (⟨"StreamWatch", "wipe", "()V"⟩, c_Sw_wipe, 1, none)
abbrev c_Sw_put : ByteArray := prog_1_method_5_code
abbrev m_Sw_put : mj_N := (⟨"StreamWatch", "put", "(IJ)Z"⟩, c_Sw_put, 4, some .boolean)
abbrev c_Sw_seal : ByteArray := prog_1_method_6_code
abbrev m_Sw_seal : mj_N := (⟨"StreamWatch", "seal", "()Z"⟩, c_Sw_seal, 1, some .boolean)
abbrev c_Sw_wire : ByteArray := prog_1_method_7_code
abbrev m_Sw_wire : mj_N := (⟨"StreamWatch", "wire", "(I)I"⟩, c_Sw_wire, 2, some .int)
abbrev c_Sw_watch : ByteArray := prog_1_method_8_code
abbrev m_Sw_watch : mj_N := (⟨"StreamWatch", "watch", "()I"⟩, c_Sw_watch, 4, some .int)
abbrev c_Sw_rule : ByteArray := prog_1_method_9_code
abbrev m_Sw_rule : mj_N := (⟨"StreamWatch", "rule", "(II)I"⟩, c_Sw_rule, 3, some .int)
abbrev c_Sw_option : ByteArray := prog_1_method_10_code
abbrev m_Sw_option : mj_N := (⟨"StreamWatch", "option", "(IJIII)I"⟩, c_Sw_option, 8, some .int)
abbrev c_Sw_flow : ByteArray := prog_1_method_11_code
abbrev m_Sw_flow : mj_N := (⟨"StreamWatch", "flow", "(II)I"⟩, c_Sw_flow, 4, some .int)
abbrev c_Sw_stream : ByteArray := prog_1_method_12_code
abbrev m_Sw_stream : mj_N := (⟨"StreamWatch", "stream", "(III)I"⟩, c_Sw_stream, 5, some .int)
abbrev c_Sw_text : ByteArray := prog_1_method_13_code
abbrev m_Sw_text : mj_N := (⟨"StreamWatch", "text", "(III)I"⟩, c_Sw_text, 5, some .int)
abbrev c_Sw_alerts : ByteArray := prog_1_method_14_code
abbrev m_Sw_alerts : mj_N := (⟨"StreamWatch", "alerts", "()I"⟩, c_Sw_alerts, 1, some .int)
abbrev c_Sw_alert : ByteArray := prog_1_method_15_code
abbrev m_Sw_alert : mj_N := (⟨"StreamWatch", "alert", "(II)I"⟩, c_Sw_alert, 3, some .int)
abbrev c_Sw_writeIpHeader : ByteArray := prog_1_method_16_code
abbrev m_Sw_writeIpHeader : mj_N := (⟨"StreamWatch", "writeIpHeader", "(III)V"⟩, c_Sw_writeIpHeader, 5, none)
abbrev c_Sw_writeTcpHeader : ByteArray := prog_1_method_17_code
abbrev m_Sw_writeTcpHeader : mj_N := (⟨"StreamWatch", "writeTcpHeader", "(IIII)V"⟩, c_Sw_writeTcpHeader, 6, none)
abbrev c_Sw_flowOfPacket : ByteArray := prog_1_method_18_code
abbrev m_Sw_flowOfPacket : mj_N := (⟨"StreamWatch", "flowOfPacket", "()LStreamWatch$Flow;"⟩, c_Sw_flowOfPacket, 3, some (.object "StreamWatch$Flow"))
abbrev c_Sw_receive : ByteArray := prog_1_method_19_code
abbrev m_Sw_receive : mj_N := (⟨"StreamWatch", "receive", "(LStreamWatch$Flow;I)V"⟩, c_Sw_receive, 5, none)
abbrev c_Sw_holdData : ByteArray := prog_1_method_20_code
abbrev m_Sw_holdData : mj_N := (⟨"StreamWatch", "holdData", "(LStreamWatch$Stream;)V"⟩, c_Sw_holdData, 3, none)
abbrev c_Sw_raiseAlerts : ByteArray := prog_1_method_21_code
abbrev m_Sw_raiseAlerts : mj_N := (⟨"StreamWatch", "raiseAlerts", "(LStreamWatch$Flow;LStreamWatch$Stream;I)V"⟩, c_Sw_raiseAlerts, 6, none)
abbrev c_Sw_ruleAt : ByteArray := prog_1_method_22_code
abbrev m_Sw_ruleAt : mj_N := (⟨"StreamWatch", "ruleAt", "(I)LStreamWatch$Rule;"⟩, c_Sw_ruleAt, 2, some (.object "StreamWatch$Rule"))
abbrev c_Sw_streamAt : ByteArray := prog_1_method_23_code
abbrev m_Sw_streamAt : mj_N := (⟨"StreamWatch", "streamAt", "(II)LStreamWatch$Stream;"⟩, c_Sw_streamAt, 4, some (.object "StreamWatch$Stream"))
abbrev c_Md_init : ByteArray := prog_13_method_1_code
abbrev m_Md_init : mj_N := (⟨"StreamWatchModel", "<init>", "(I)V"⟩, c_Md_init, 2, none)
abbrev c_Md_thrown : ByteArray := prog_13_method_2_code
abbrev m_Md_thrown : mj_N := (⟨"StreamWatchModel", "thrown", "()I"⟩, c_Md_thrown, 1, some .int)
abbrev c_Md_add : ByteArray := prog_13_method_3_code
abbrev m_Md_add : mj_N := (⟨"StreamWatchModel", "add", "(I)V"⟩, c_Md_add, 2, none)
abbrev c_Md_addNumber : ByteArray := prog_13_method_4_code
abbrev m_Md_addNumber : mj_N := (⟨"StreamWatchModel", "addNumber", "(II)V"⟩, c_Md_addNumber, 4, none)
abbrev c_Md_craft : ByteArray := prog_13_method_5_code
abbrev m_Md_craft : mj_N := (⟨"StreamWatchModel", "craft", "(IIIIIJ)I"⟩, c_Md_craft, 11, some .int)
abbrev c_Md_alter : ByteArray := prog_13_method_6_code
abbrev m_Md_alter : mj_N := (⟨"StreamWatchModel", "alter", "(II)Z"⟩, c_Md_alter, 3, some .boolean)
abbrev c_Md_wipe : ByteArray := prog_13_method_7_code
abbrev m_Md_wipe : mj_N := (⟨"StreamWatchModel", "wipe", "()V"⟩, c_Md_wipe, 1, none)
abbrev c_Md_put : ByteArray := prog_13_method_8_code
abbrev m_Md_put : mj_N := (⟨"StreamWatchModel", "put", "(IJ)Z"⟩, c_Md_put, 5, some .boolean)
abbrev c_Md_wire : ByteArray := prog_13_method_9_code
abbrev m_Md_wire : mj_N := (⟨"StreamWatchModel", "wire", "(I)I"⟩, c_Md_wire, 2, some .int)
abbrev c_Md_pair : ByteArray := prog_13_method_10_code
abbrev m_Md_pair : mj_N := (⟨"StreamWatchModel", "pair", "(I)I"⟩, c_Md_pair, 2, some .int)
abbrev c_Md_four : ByteArray := prog_13_method_11_code
abbrev m_Md_four : mj_N := (⟨"StreamWatchModel", "four", "(I)I"⟩, c_Md_four, 2, some .int)
abbrev c_Md_total : ByteArray := prog_13_method_12_code
abbrev m_Md_total : mj_N := (⟨"StreamWatchModel", "total", "(II)I"⟩, c_Md_total, 5, some .int)
abbrev c_Md_folded : ByteArray := prog_13_method_13_code
abbrev m_Md_folded : mj_N := (⟨"StreamWatchModel", "folded", "(I)I"⟩, c_Md_folded, 3, some .int)
abbrev c_Md_headerSize : ByteArray := prog_13_method_14_code
abbrev m_Md_headerSize : mj_N := (⟨"StreamWatchModel", "headerSize", "()I"⟩, c_Md_headerSize, 1, some .int)
abbrev c_Md_headerSum : ByteArray := prog_13_method_15_code
abbrev m_Md_headerSum : mj_N := (⟨"StreamWatchModel", "headerSum", "()I"⟩, c_Md_headerSum, 1, some .int)
abbrev c_Md_partSum : ByteArray := prog_13_method_16_code
abbrev m_Md_partSum : mj_N := (⟨"StreamWatchModel", "partSum", "()I"⟩, c_Md_partSum, 3, some .int)
abbrev c_Md_reason : ByteArray := prog_13_method_17_code
abbrev m_Md_reason : mj_N := (⟨"StreamWatchModel", "reason", "(Z)I"⟩, c_Md_reason, 5, some .int)
abbrev c_Md_close : ByteArray := prog_13_method_18_code
abbrev m_Md_close : mj_N := (⟨"StreamWatchModel", "close", "()V"⟩, c_Md_close, 3, none)
abbrev c_Md_seal : ByteArray := prog_13_method_19_code
abbrev m_Md_seal : mj_N := (⟨"StreamWatchModel", "seal", "()Z"⟩, c_Md_seal, 1, some .boolean)
abbrev c_Md_rule : ByteArray := prog_13_method_20_code
abbrev m_Md_rule : mj_N := (⟨"StreamWatchModel", "rule", "(II)I"⟩, c_Md_rule, 3, some .int)
abbrev c_Md_option : ByteArray := prog_13_method_21_code
abbrev m_Md_option : mj_N := (⟨"StreamWatchModel", "option", "(IJIII)I"⟩, c_Md_option, 9, some .int)
abbrev c_Md_upper : ByteArray := prog_13_method_22_code
abbrev m_Md_upper : mj_N := (⟨"StreamWatchModel", "upper", "(I)I"⟩, c_Md_upper, 1, some .int)
abbrev c_Md_found : ByteArray := prog_13_method_23_code
abbrev m_Md_found : mj_N := (⟨"StreamWatchModel", "found", "(IIII)Z"⟩, c_Md_found, 11, some .boolean)
abbrev c_Md_base : ByteArray := prog_13_method_24_code
abbrev m_Md_base : mj_N := (⟨"StreamWatchModel", "base", "(II)I"⟩, c_Md_base, 3, some .int)
abbrev c_Md_clean : ByteArray := prog_13_method_25_code
abbrev m_Md_clean : mj_N := (⟨"StreamWatchModel", "clean", "(II)Z"⟩, c_Md_clean, 8, some .boolean)
abbrev c_Md_holdsOn : ByteArray := prog_13_method_26_code
abbrev m_Md_holdsOn : mj_N := (⟨"StreamWatchModel", "holdsOn", "(II)Z"⟩, c_Md_holdsOn, 4, some .boolean)
abbrev c_Md_look : ByteArray := prog_13_method_27_code
abbrev m_Md_look : mj_N := (⟨"StreamWatchModel", "look", "(I)I"⟩, c_Md_look, 7, some .int)
abbrev c_Md_begin : ByteArray := prog_13_method_28_code
abbrev m_Md_begin : mj_N := (⟨"StreamWatchModel", "begin", "(II)V"⟩, c_Md_begin, 5, none)
abbrev c_Md_room : ByteArray := prog_13_method_29_code
abbrev m_Md_room : mj_N := (⟨"StreamWatchModel", "room", "()I"⟩, c_Md_room, 3, some .int)
abbrev c_Md_find : ByteArray := prog_13_method_30_code
abbrev m_Md_find : mj_N := (⟨"StreamWatchModel", "find", "(I)I"⟩, c_Md_find, 7, some .int)
abbrev c_Md_hold : ByteArray := prog_13_method_31_code
abbrev m_Md_hold : mj_N := (⟨"StreamWatchModel", "hold", "(III)V"⟩, c_Md_hold, 6, none)
abbrev c_Md_grow : ByteArray := prog_13_method_32_code
abbrev m_Md_grow : mj_N := (⟨"StreamWatchModel", "grow", "(I)I"⟩, c_Md_grow, 6, some .int)
abbrev c_Md_watch : ByteArray := prog_13_method_33_code
abbrev m_Md_watch : mj_N := (⟨"StreamWatchModel", "watch", "()I"⟩, c_Md_watch, 11, some .int)
abbrev c_Md_isFlow : ByteArray := prog_13_method_34_code
abbrev m_Md_isFlow : mj_N := (⟨"StreamWatchModel", "isFlow", "(I)Z"⟩, c_Md_isFlow, 2, some .boolean)
abbrev c_Md_flow : ByteArray := prog_13_method_35_code
abbrev m_Md_flow : mj_N := (⟨"StreamWatchModel", "flow", "(II)I"⟩, c_Md_flow, 5, some .int)
abbrev c_Md_stream : ByteArray := prog_13_method_36_code
abbrev m_Md_stream : mj_N := (⟨"StreamWatchModel", "stream", "(III)I"⟩, c_Md_stream, 7, some .int)
abbrev c_Md_text : ByteArray := prog_13_method_37_code
abbrev m_Md_text : mj_N := (⟨"StreamWatchModel", "text", "(III)I"⟩, c_Md_text, 4, some .int)
abbrev c_Md_alerts : ByteArray := prog_13_method_38_code
abbrev m_Md_alerts : mj_N := (⟨"StreamWatchModel", "alerts", "()I"⟩, c_Md_alerts, 1, some .int)
abbrev c_Md_alert : ByteArray := prog_13_method_39_code
abbrev m_Md_alert : mj_N := (⟨"StreamWatchModel", "alert", "(II)I"⟩, c_Md_alert, 3, some .int)
abbrev c_Lw_cell : ByteArray := method_2_code
abbrev m_Lw_cell : mj_N := (⟨"StreamWatchLaw", "cell", "([II)I"⟩, c_Lw_cell, 2, some .int)
end
section
theorem i_Al_init_0 : mj_Snd zG ("StreamWatch$AlertLog", "<init>", c_Al_init, 1) 0 (x_aload 0) 1 := mj_aload_n (j := 0) rfl (by decide +kernel)
theorem d_Al_init_1 : decode c_Al_init 1 = .ok (.invokespecial 3, 3) := by decide +kernel
theorem i_Al_init_4 : mj_Snd zG ("StreamWatch$AlertLog", "<init>", c_Al_init, 1) 4 (x_aload 0) 5 := mj_aload_n (j := 0) rfl (by decide +kernel)
theorem i_Al_init_5 : mj_Snd zG ("StreamWatch$AlertLog", "<init>", c_Al_init, 1) 5 (x_const 96) 7 := mj_bipush (n := 96) (by decide) (by decide +kernel)
theorem d_Al_init_7 : decode c_Al_init 7 = .ok (.newarray .int, 2) := by decide +kernel
theorem i_Al_init_9 : mj_Snd zG ("StreamWatch$AlertLog", "<init>", c_Al_init, 1) 9 (x_putf 0 0 3) 12 := mj_putG (T := T_Al) (ty0 := t_Al) rfl (by decide) u_Al t_Al_ok n_Al z1_202 (Or.inr ⟨rfl, rfl, rfl⟩) (by decide +kernel)
theorem i_Al_init_12 : mj_Snd zG ("StreamWatch$AlertLog", "<init>", c_Al_init, 1) 12 (x_aload 0) 13 := mj_aload_n (j := 0) rfl (by decide +kernel)
theorem i_Al_init_13 : mj_Snd zG ("StreamWatch$AlertLog", "<init>", c_Al_init, 1) 13 (x_const 0) 14 := mj_const (n := 0) (by decide) (by decide +kernel)
theorem i_Al_init_14 : mj_Snd zG ("StreamWatch$AlertLog", "<init>", c_Al_init, 1) 14 (x_putf 0 1 0) 17 := mj_putG (T := T_Al) (ty0 := t_Al) rfl (by decide) u_Al t_Al_ok n_Al z1_203 (Or.inl rfl) (by decide +kernel)
theorem i_Al_init_17 : mj_Snd zG ("StreamWatch$AlertLog", "<init>", c_Al_init, 1) 17 (x_aload 0) 18 := mj_aload_n (j := 0) rfl (by decide +kernel)
theorem i_Al_init_18 : mj_Snd zG ("StreamWatch$AlertLog", "<init>", c_Al_init, 1) 18 (x_const (-1)) 19 := mj_const (n := (-1)) (by decide) (by decide +kernel)
theorem i_Al_init_19 : mj_Snd zG ("StreamWatch$AlertLog", "<init>", c_Al_init, 1) 19 (x_putf 0 2 0) 22 := mj_putG (T := T_Al) (ty0 := t_Al) rfl (by decide) u_Al t_Al_ok n_Al z1_204 (Or.inl rfl) (by decide +kernel)
theorem d_Al_init_22 : decode c_Al_init 22 = .ok (.return_, 1) := by decide +kernel
theorem b_Al_init_0 : mj_Ch zG ("StreamWatch$AlertLog", "<init>", c_Al_init, 1) 0 [x_aload 0] 1 := ⟨_, i_Al_init_0, rfl⟩
theorem b_Al_init_4 : mj_Ch zG ("StreamWatch$AlertLog", "<init>", c_Al_init, 1) 4 [x_aload 0, x_const 96] 7 := ⟨_, i_Al_init_4, _, i_Al_init_5, rfl⟩
theorem b_Al_init_9 : mj_Ch zG ("StreamWatch$AlertLog", "<init>", c_Al_init, 1) 9 [x_putf 0 0 3, x_aload 0, x_const 0, x_putf 0 1 0, x_aload 0, x_const (-1), x_putf 0 2 0] 22 := ⟨_, i_Al_init_9, _, i_Al_init_12, _, i_Al_init_13, _, i_Al_init_14, _, i_Al_init_17, _, i_Al_init_18, _, i_Al_init_19, rfl⟩
theorem i_Al_total_0 : mj_Snd zG ("StreamWatch$AlertLog", "total", c_Al_total, 1) 0 (x_aload 0) 1 := mj_aload_n (j := 0) rfl (by decide +kernel)
theorem i_Al_total_1 : mj_Snd zG ("StreamWatch$AlertLog", "total", c_Al_total, 1) 1 (x_getf 0 1) 4 := mj_getf (T := T_Al) rfl (by decide) u_Al z1_203 (by decide +kernel)
theorem d_Al_total_4 : decode c_Al_total 4 = .ok (.ireturn, 1) := by decide +kernel
theorem b_Al_total_0 : mj_Ch zG ("StreamWatch$AlertLog", "total", c_Al_total, 1) 0 [x_aload 0, x_getf 0 1] 4 := ⟨_, i_Al_total_0, _, i_Al_total_1, rfl⟩
theorem i_Al_add_0 : mj_Snd zG ("StreamWatch$AlertLog", "add", c_Al_add, 6) 0 (x_aload 0) 1 := mj_aload_n (j := 0) rfl (by decide +kernel)
theorem i_Al_add_1 : mj_Snd zG ("StreamWatch$AlertLog", "add", c_Al_add, 6) 1 (x_aload 0) 2 := mj_aload_n (j := 0) rfl (by decide +kernel)
theorem i_Al_add_2 : mj_Snd zG ("StreamWatch$AlertLog", "add", c_Al_add, 6) 2 (x_getf 0 2) 5 := mj_getf (T := T_Al) rfl (by decide) u_Al z1_204 (by decide +kernel)
theorem i_Al_add_5 : mj_Snd zG ("StreamWatch$AlertLog", "add", c_Al_add, 6) 5 (x_const 1) 6 := mj_const (n := 1) (by decide) (by decide +kernel)
theorem i_Al_add_6 : mj_Snd zG ("StreamWatch$AlertLog", "add", c_Al_add, 6) 6 (x_iadd) 7 := mj_iadd (by decide +kernel)
theorem i_Al_add_7 : mj_Snd zG ("StreamWatch$AlertLog", "add", c_Al_add, 6) 7 (x_const 24) 9 := mj_bipush (n := 24) (by decide) (by decide +kernel)
theorem d_Al_add_9 : decode c_Al_add 9 = .ok (.if_icmp .ge 12, 3) := by decide +kernel
theorem i_Al_add_12 : mj_Snd zG ("StreamWatch$AlertLog", "add", c_Al_add, 6) 12 (x_aload 0) 13 := mj_aload_n (j := 0) rfl (by decide +kernel)
theorem i_Al_add_13 : mj_Snd zG ("StreamWatch$AlertLog", "add", c_Al_add, 6) 13 (x_getf 0 2) 16 := mj_getf (T := T_Al) rfl (by decide) u_Al z1_204 (by decide +kernel)
theorem i_Al_add_16 : mj_Snd zG ("StreamWatch$AlertLog", "add", c_Al_add, 6) 16 (x_const 1) 17 := mj_const (n := 1) (by decide) (by decide +kernel)
theorem i_Al_add_17 : mj_Snd zG ("StreamWatch$AlertLog", "add", c_Al_add, 6) 17 (x_iadd) 18 := mj_iadd (by decide +kernel)
theorem i_Al_add_18 : mj_Snd zG ("StreamWatch$AlertLog", "add", c_Al_add, 6) 18 (x_skip) 22 := mj_goto (off := 4) (by decide) (by decide +kernel)
theorem i_Al_add_21 : mj_Snd zG ("StreamWatch$AlertLog", "add", c_Al_add, 6) 21 (x_const 0) 22 := mj_const (n := 0) (by decide) (by decide +kernel)
theorem i_Al_add_22 : mj_Snd zG ("StreamWatch$AlertLog", "add", c_Al_add, 6) 22 (x_putf 0 2 0) 25 := mj_putG (T := T_Al) (ty0 := t_Al) rfl (by decide) u_Al t_Al_ok n_Al z1_204 (Or.inl rfl) (by decide +kernel)
theorem i_Al_add_25 : mj_Snd zG ("StreamWatch$AlertLog", "add", c_Al_add, 6) 25 (x_aload 0) 26 := mj_aload_n (j := 0) rfl (by decide +kernel)
theorem i_Al_add_26 : mj_Snd zG ("StreamWatch$AlertLog", "add", c_Al_add, 6) 26 (x_dup) 27 := mj_dup (by decide +kernel)
theorem i_Al_add_27 : mj_Snd zG ("StreamWatch$AlertLog", "add", c_Al_add, 6) 27 (x_getf 0 1) 30 := mj_getf (T := T_Al) rfl (by decide) u_Al z1_203 (by decide +kernel)
theorem i_Al_add_30 : mj_Snd zG ("StreamWatch$AlertLog", "add", c_Al_add, 6) 30 (x_const 1) 31 := mj_const (n := 1) (by decide) (by decide +kernel)
theorem i_Al_add_31 : mj_Snd zG ("StreamWatch$AlertLog", "add", c_Al_add, 6) 31 (x_iadd) 32 := mj_iadd (by decide +kernel)
theorem i_Al_add_32 : mj_Snd zG ("StreamWatch$AlertLog", "add", c_Al_add, 6) 32 (x_putf 0 1 0) 35 := mj_putG (T := T_Al) (ty0 := t_Al) rfl (by decide) u_Al t_Al_ok n_Al z1_203 (Or.inl rfl) (by decide +kernel)
theorem i_Al_add_35 : mj_Snd zG ("StreamWatch$AlertLog", "add", c_Al_add, 6) 35 (x_aload 0) 36 := mj_aload_n (j := 0) rfl (by decide +kernel)
theorem i_Al_add_36 : mj_Snd zG ("StreamWatch$AlertLog", "add", c_Al_add, 6) 36 (x_getf 0 2) 39 := mj_getf (T := T_Al) rfl (by decide) u_Al z1_204 (by decide +kernel)
theorem i_Al_add_39 : mj_Snd zG ("StreamWatch$AlertLog", "add", c_Al_add, 6) 39 (x_const 4) 40 := mj_const (n := 4) (by decide) (by decide +kernel)
theorem i_Al_add_40 : mj_Snd zG ("StreamWatch$AlertLog", "add", c_Al_add, 6) 40 (x_imul) 41 := mj_imul (by decide +kernel)
theorem i_Al_add_41 : mj_Snd zG ("StreamWatch$AlertLog", "add", c_Al_add, 6) 41 (x_istore 5) 43 := mj_istore (by decide) (by decide +kernel)
theorem i_Al_add_43 : mj_Snd zG ("StreamWatch$AlertLog", "add", c_Al_add, 6) 43 (x_aload 0) 44 := mj_aload_n (j := 0) rfl (by decide +kernel)
theorem i_Al_add_44 : mj_Snd zG ("StreamWatch$AlertLog", "add", c_Al_add, 6) 44 (x_getf 0 0) 47 := mj_getf (T := T_Al) rfl (by decide) u_Al z1_202 (by decide +kernel)
theorem i_Al_add_47 : mj_Snd zG ("StreamWatch$AlertLog", "add", c_Al_add, 6) 47 (x_iload 5) 49 := mj_iload (by decide +kernel)
theorem i_Al_add_49 : mj_Snd zG ("StreamWatch$AlertLog", "add", c_Al_add, 6) 49 (x_iload 1) 50 := mj_iload_n (j := 1) rfl (by decide +kernel)
theorem i_Al_add_50 : mj_Snd zG ("StreamWatch$AlertLog", "add", c_Al_add, 6) 50 (x_iast 0) 51 := mj_iast rfl (by decide +kernel)
theorem i_Al_add_51 : mj_Snd zG ("StreamWatch$AlertLog", "add", c_Al_add, 6) 51 (x_aload 0) 52 := mj_aload_n (j := 0) rfl (by decide +kernel)
theorem i_Al_add_52 : mj_Snd zG ("StreamWatch$AlertLog", "add", c_Al_add, 6) 52 (x_getf 0 0) 55 := mj_getf (T := T_Al) rfl (by decide) u_Al z1_202 (by decide +kernel)
theorem i_Al_add_55 : mj_Snd zG ("StreamWatch$AlertLog", "add", c_Al_add, 6) 55 (x_iload 5) 57 := mj_iload (by decide +kernel)
theorem i_Al_add_57 : mj_Snd zG ("StreamWatch$AlertLog", "add", c_Al_add, 6) 57 (x_const 1) 58 := mj_const (n := 1) (by decide) (by decide +kernel)
theorem i_Al_add_58 : mj_Snd zG ("StreamWatch$AlertLog", "add", c_Al_add, 6) 58 (x_iadd) 59 := mj_iadd (by decide +kernel)
theorem i_Al_add_59 : mj_Snd zG ("StreamWatch$AlertLog", "add", c_Al_add, 6) 59 (x_iload 2) 60 := mj_iload_n (j := 2) rfl (by decide +kernel)
theorem i_Al_add_60 : mj_Snd zG ("StreamWatch$AlertLog", "add", c_Al_add, 6) 60 (x_iast 0) 61 := mj_iast rfl (by decide +kernel)
theorem i_Al_add_61 : mj_Snd zG ("StreamWatch$AlertLog", "add", c_Al_add, 6) 61 (x_aload 0) 62 := mj_aload_n (j := 0) rfl (by decide +kernel)
theorem i_Al_add_62 : mj_Snd zG ("StreamWatch$AlertLog", "add", c_Al_add, 6) 62 (x_getf 0 0) 65 := mj_getf (T := T_Al) rfl (by decide) u_Al z1_202 (by decide +kernel)
theorem i_Al_add_65 : mj_Snd zG ("StreamWatch$AlertLog", "add", c_Al_add, 6) 65 (x_iload 5) 67 := mj_iload (by decide +kernel)
theorem i_Al_add_67 : mj_Snd zG ("StreamWatch$AlertLog", "add", c_Al_add, 6) 67 (x_const 2) 68 := mj_const (n := 2) (by decide) (by decide +kernel)
theorem i_Al_add_68 : mj_Snd zG ("StreamWatch$AlertLog", "add", c_Al_add, 6) 68 (x_iadd) 69 := mj_iadd (by decide +kernel)
theorem i_Al_add_69 : mj_Snd zG ("StreamWatch$AlertLog", "add", c_Al_add, 6) 69 (x_iload 3) 70 := mj_iload_n (j := 3) rfl (by decide +kernel)
theorem i_Al_add_70 : mj_Snd zG ("StreamWatch$AlertLog", "add", c_Al_add, 6) 70 (x_iast 0) 71 := mj_iast rfl (by decide +kernel)
theorem i_Al_add_71 : mj_Snd zG ("StreamWatch$AlertLog", "add", c_Al_add, 6) 71 (x_aload 0) 72 := mj_aload_n (j := 0) rfl (by decide +kernel)
theorem i_Al_add_72 : mj_Snd zG ("StreamWatch$AlertLog", "add", c_Al_add, 6) 72 (x_getf 0 0) 75 := mj_getf (T := T_Al) rfl (by decide) u_Al z1_202 (by decide +kernel)
theorem i_Al_add_75 : mj_Snd zG ("StreamWatch$AlertLog", "add", c_Al_add, 6) 75 (x_iload 5) 77 := mj_iload (by decide +kernel)
theorem i_Al_add_77 : mj_Snd zG ("StreamWatch$AlertLog", "add", c_Al_add, 6) 77 (x_const 3) 78 := mj_const (n := 3) (by decide) (by decide +kernel)
theorem i_Al_add_78 : mj_Snd zG ("StreamWatch$AlertLog", "add", c_Al_add, 6) 78 (x_iadd) 79 := mj_iadd (by decide +kernel)
theorem i_Al_add_79 : mj_Snd zG ("StreamWatch$AlertLog", "add", c_Al_add, 6) 79 (x_iload 4) 81 := mj_iload (by decide +kernel)
theorem i_Al_add_81 : mj_Snd zG ("StreamWatch$AlertLog", "add", c_Al_add, 6) 81 (x_iast 0) 82 := mj_iast rfl (by decide +kernel)
theorem d_Al_add_82 : decode c_Al_add 82 = .ok (.return_, 1) := by decide +kernel
theorem b_Al_add_0 : mj_Ch zG ("StreamWatch$AlertLog", "add", c_Al_add, 6) 0 [x_aload 0, x_aload 0, x_getf 0 2, x_const 1, x_iadd, x_const 24] 9 := ⟨_, i_Al_add_0, _, i_Al_add_1, _, i_Al_add_2, _, i_Al_add_5, _, i_Al_add_6, _, i_Al_add_7, rfl⟩
theorem b_Al_add_12 : mj_Ch zG ("StreamWatch$AlertLog", "add", c_Al_add, 6) 12 [x_aload 0, x_getf 0 2, x_const 1, x_iadd, x_skip] 22 := ⟨_, i_Al_add_12, _, i_Al_add_13, _, i_Al_add_16, _, i_Al_add_17, _, i_Al_add_18, rfl⟩
theorem b_Al_add_21 : mj_Ch zG ("StreamWatch$AlertLog", "add", c_Al_add, 6) 21 [x_const 0] 22 := ⟨_, i_Al_add_21, rfl⟩
theorem b_Al_add_22 : mj_Ch zG ("StreamWatch$AlertLog", "add", c_Al_add, 6) 22 [x_putf 0 2 0, x_aload 0, x_dup, x_getf 0 1, x_const 1, x_iadd, x_putf 0 1 0, x_aload 0, x_getf 0 2, x_const 4, x_imul, x_istore 5, x_aload 0, x_getf 0 0, x_iload 5, x_iload 1, x_iast 0, x_aload 0, x_getf 0 0, x_iload 5, x_const 1, x_iadd, x_iload 2, x_iast 0, x_aload 0, x_getf 0 0, x_iload 5, x_const 2, x_iadd, x_iload 3, x_iast 0, x_aload 0, x_getf 0 0, x_iload 5, x_const 3, x_iadd, x_iload 4, x_iast 0] 82 := ⟨_, i_Al_add_22, _, i_Al_add_25, _, i_Al_add_26, _, i_Al_add_27, _, i_Al_add_30, _, i_Al_add_31, _, i_Al_add_32, _, i_Al_add_35, _, i_Al_add_36, _, i_Al_add_39, _, i_Al_add_40, _, i_Al_add_41, _, i_Al_add_43, _, i_Al_add_44, _, i_Al_add_47, _, i_Al_add_49, _, i_Al_add_50, _, i_Al_add_51, _, i_Al_add_52, _, i_Al_add_55, _, i_Al_add_57, _, i_Al_add_58, _, i_Al_add_59, _, i_Al_add_60, _, i_Al_add_61, _, i_Al_add_62, _, i_Al_add_65, _, i_Al_add_67, _, i_Al_add_68, _, i_Al_add_69, _, i_Al_add_70, _, i_Al_add_71, _, i_Al_add_72, _, i_Al_add_75, _, i_Al_add_77, _, i_Al_add_78, _, i_Al_add_79, _, i_Al_add_81, rfl⟩
theorem i_Al_read_0 : mj_Snd zG ("StreamWatch$AlertLog", "read", c_Al_read, 5) 0 (x_iload 1) 1 := mj_iload_n (j := 1) rfl (by decide +kernel)
theorem d_Al_read_1 : decode c_Al_read 1 = .ok (.ifCond .lt 20, 3) := by decide +kernel
theorem i_Al_read_4 : mj_Snd zG ("StreamWatch$AlertLog", "read", c_Al_read, 5) 4 (x_iload 1) 5 := mj_iload_n (j := 1) rfl (by decide +kernel)
theorem i_Al_read_5 : mj_Snd zG ("StreamWatch$AlertLog", "read", c_Al_read, 5) 5 (x_aload 0) 6 := mj_aload_n (j := 0) rfl (by decide +kernel)
theorem i_Al_read_6 : mj_Snd zG ("StreamWatch$AlertLog", "read", c_Al_read, 5) 6 (x_getf 0 1) 9 := mj_getf (T := T_Al) rfl (by decide) u_Al z1_203 (by decide +kernel)
theorem i_Al_read_9 : mj_Snd zG ("StreamWatch$AlertLog", "read", c_Al_read, 5) 9 (x_const 24) 11 := mj_bipush (n := 24) (by decide) (by decide +kernel)
theorem d_Al_read_11 : decode c_Al_read 11 = .ok (.invokestatic 22, 3) := by decide +kernel
theorem d_Al_read_14 : decode c_Al_read 14 = .ok (.if_icmp .ge 7, 3) := by decide +kernel
theorem i_Al_read_17 : mj_Snd zG ("StreamWatch$AlertLog", "read", c_Al_read, 5) 17 (x_const 1) 18 := mj_const (n := 1) (by decide) (by decide +kernel)
theorem i_Al_read_18 : mj_Snd zG ("StreamWatch$AlertLog", "read", c_Al_read, 5) 18 (x_skip) 22 := mj_goto (off := 4) (by decide) (by decide +kernel)
theorem i_Al_read_21 : mj_Snd zG ("StreamWatch$AlertLog", "read", c_Al_read, 5) 21 (x_const 0) 22 := mj_const (n := 0) (by decide) (by decide +kernel)
theorem i_Al_read_22 : mj_Snd zG ("StreamWatch$AlertLog", "read", c_Al_read, 5) 22 (x_istore 3) 23 := mj_istore_n (j := 3) rfl (by decide) (by decide +kernel)
theorem i_Al_read_23 : mj_Snd zG ("StreamWatch$AlertLog", "read", c_Al_read, 5) 23 (x_iload 3) 24 := mj_iload_n (j := 3) rfl (by decide +kernel)
theorem d_Al_read_24 : decode c_Al_read 24 = .ok (.ifCond .eq 12, 3) := by decide +kernel
theorem i_Al_read_27 : mj_Snd zG ("StreamWatch$AlertLog", "read", c_Al_read, 5) 27 (x_iload 2) 28 := mj_iload_n (j := 2) rfl (by decide +kernel)
theorem d_Al_read_28 : decode c_Al_read 28 = .ok (.ifCond .lt 8, 3) := by decide +kernel
theorem i_Al_read_31 : mj_Snd zG ("StreamWatch$AlertLog", "read", c_Al_read, 5) 31 (x_iload 2) 32 := mj_iload_n (j := 2) rfl (by decide +kernel)
theorem i_Al_read_32 : mj_Snd zG ("StreamWatch$AlertLog", "read", c_Al_read, 5) 32 (x_const 4) 33 := mj_const (n := 4) (by decide) (by decide +kernel)
theorem d_Al_read_33 : decode c_Al_read 33 = .ok (.if_icmp .lt 5, 3) := by decide +kernel
theorem i_Al_read_36 : mj_Snd zG ("StreamWatch$AlertLog", "read", c_Al_read, 5) 36 (x_const (-1)) 37 := mj_const (n := (-1)) (by decide) (by decide +kernel)
theorem d_Al_read_37 : decode c_Al_read 37 = .ok (.ireturn, 1) := by decide +kernel
theorem i_Al_read_38 : mj_Snd zG ("StreamWatch$AlertLog", "read", c_Al_read, 5) 38 (x_aload 0) 39 := mj_aload_n (j := 0) rfl (by decide +kernel)
theorem i_Al_read_39 : mj_Snd zG ("StreamWatch$AlertLog", "read", c_Al_read, 5) 39 (x_getf 0 2) 42 := mj_getf (T := T_Al) rfl (by decide) u_Al z1_204 (by decide +kernel)
theorem i_Al_read_42 : mj_Snd zG ("StreamWatch$AlertLog", "read", c_Al_read, 5) 42 (x_iload 1) 43 := mj_iload_n (j := 1) rfl (by decide +kernel)
theorem d_Al_read_43 : decode c_Al_read 43 = .ok (.if_icmp .lt 12, 3) := by decide +kernel
theorem i_Al_read_46 : mj_Snd zG ("StreamWatch$AlertLog", "read", c_Al_read, 5) 46 (x_aload 0) 47 := mj_aload_n (j := 0) rfl (by decide +kernel)
theorem i_Al_read_47 : mj_Snd zG ("StreamWatch$AlertLog", "read", c_Al_read, 5) 47 (x_getf 0 2) 50 := mj_getf (T := T_Al) rfl (by decide) u_Al z1_204 (by decide +kernel)
theorem i_Al_read_50 : mj_Snd zG ("StreamWatch$AlertLog", "read", c_Al_read, 5) 50 (x_iload 1) 51 := mj_iload_n (j := 1) rfl (by decide +kernel)
theorem i_Al_read_51 : mj_Snd zG ("StreamWatch$AlertLog", "read", c_Al_read, 5) 51 (x_isub) 52 := mj_isub (by decide +kernel)
theorem i_Al_read_52 : mj_Snd zG ("StreamWatch$AlertLog", "read", c_Al_read, 5) 52 (x_skip) 64 := mj_goto (off := 12) (by decide) (by decide +kernel)
theorem i_Al_read_55 : mj_Snd zG ("StreamWatch$AlertLog", "read", c_Al_read, 5) 55 (x_aload 0) 56 := mj_aload_n (j := 0) rfl (by decide +kernel)
theorem i_Al_read_56 : mj_Snd zG ("StreamWatch$AlertLog", "read", c_Al_read, 5) 56 (x_getf 0 2) 59 := mj_getf (T := T_Al) rfl (by decide) u_Al z1_204 (by decide +kernel)
theorem i_Al_read_59 : mj_Snd zG ("StreamWatch$AlertLog", "read", c_Al_read, 5) 59 (x_iload 1) 60 := mj_iload_n (j := 1) rfl (by decide +kernel)
theorem i_Al_read_60 : mj_Snd zG ("StreamWatch$AlertLog", "read", c_Al_read, 5) 60 (x_isub) 61 := mj_isub (by decide +kernel)
theorem i_Al_read_61 : mj_Snd zG ("StreamWatch$AlertLog", "read", c_Al_read, 5) 61 (x_const 24) 63 := mj_bipush (n := 24) (by decide) (by decide +kernel)
theorem i_Al_read_63 : mj_Snd zG ("StreamWatch$AlertLog", "read", c_Al_read, 5) 63 (x_iadd) 64 := mj_iadd (by decide +kernel)
theorem i_Al_read_64 : mj_Snd zG ("StreamWatch$AlertLog", "read", c_Al_read, 5) 64 (x_istore 4) 66 := mj_istore (by decide) (by decide +kernel)
theorem i_Al_read_66 : mj_Snd zG ("StreamWatch$AlertLog", "read", c_Al_read, 5) 66 (x_aload 0) 67 := mj_aload_n (j := 0) rfl (by decide +kernel)
theorem i_Al_read_67 : mj_Snd zG ("StreamWatch$AlertLog", "read", c_Al_read, 5) 67 (x_getf 0 0) 70 := mj_getf (T := T_Al) rfl (by decide) u_Al z1_202 (by decide +kernel)
theorem i_Al_read_70 : mj_Snd zG ("StreamWatch$AlertLog", "read", c_Al_read, 5) 70 (x_iload 4) 72 := mj_iload (by decide +kernel)
theorem i_Al_read_72 : mj_Snd zG ("StreamWatch$AlertLog", "read", c_Al_read, 5) 72 (x_const 4) 73 := mj_const (n := 4) (by decide) (by decide +kernel)
theorem i_Al_read_73 : mj_Snd zG ("StreamWatch$AlertLog", "read", c_Al_read, 5) 73 (x_imul) 74 := mj_imul (by decide +kernel)
theorem i_Al_read_74 : mj_Snd zG ("StreamWatch$AlertLog", "read", c_Al_read, 5) 74 (x_iload 2) 75 := mj_iload_n (j := 2) rfl (by decide +kernel)
theorem i_Al_read_75 : mj_Snd zG ("StreamWatch$AlertLog", "read", c_Al_read, 5) 75 (x_iadd) 76 := mj_iadd (by decide +kernel)
theorem i_Al_read_76 : mj_Snd zG ("StreamWatch$AlertLog", "read", c_Al_read, 5) 76 (x_iald 0) 77 := mj_iald rfl (by decide +kernel)
theorem d_Al_read_77 : decode c_Al_read 77 = .ok (.ireturn, 1) := by decide +kernel
theorem b_Al_read_0 : mj_Ch zG ("StreamWatch$AlertLog", "read", c_Al_read, 5) 0 [x_iload 1] 1 := ⟨_, i_Al_read_0, rfl⟩
theorem b_Al_read_4 : mj_Ch zG ("StreamWatch$AlertLog", "read", c_Al_read, 5) 4 [x_iload 1, x_aload 0, x_getf 0 1, x_const 24] 11 := ⟨_, i_Al_read_4, _, i_Al_read_5, _, i_Al_read_6, _, i_Al_read_9, rfl⟩
theorem b_Al_read_17 : mj_Ch zG ("StreamWatch$AlertLog", "read", c_Al_read, 5) 17 [x_const 1, x_skip] 22 := ⟨_, i_Al_read_17, _, i_Al_read_18, rfl⟩
theorem b_Al_read_21 : mj_Ch zG ("StreamWatch$AlertLog", "read", c_Al_read, 5) 21 [x_const 0] 22 := ⟨_, i_Al_read_21, rfl⟩
theorem b_Al_read_22 : mj_Ch zG ("StreamWatch$AlertLog", "read", c_Al_read, 5) 22 [x_istore 3, x_iload 3] 24 := ⟨_, i_Al_read_22, _, i_Al_read_23, rfl⟩
theorem b_Al_read_27 : mj_Ch zG ("StreamWatch$AlertLog", "read", c_Al_read, 5) 27 [x_iload 2] 28 := ⟨_, i_Al_read_27, rfl⟩
theorem b_Al_read_31 : mj_Ch zG ("StreamWatch$AlertLog", "read", c_Al_read, 5) 31 [x_iload 2, x_const 4] 33 := ⟨_, i_Al_read_31, _, i_Al_read_32, rfl⟩
theorem b_Al_read_36 : mj_Ch zG ("StreamWatch$AlertLog", "read", c_Al_read, 5) 36 [x_const (-1)] 37 := ⟨_, i_Al_read_36, rfl⟩
theorem b_Al_read_38 : mj_Ch zG ("StreamWatch$AlertLog", "read", c_Al_read, 5) 38 [x_aload 0, x_getf 0 2, x_iload 1] 43 := ⟨_, i_Al_read_38, _, i_Al_read_39, _, i_Al_read_42, rfl⟩
theorem b_Al_read_46 : mj_Ch zG ("StreamWatch$AlertLog", "read", c_Al_read, 5) 46 [x_aload 0, x_getf 0 2, x_iload 1, x_isub, x_skip] 64 := ⟨_, i_Al_read_46, _, i_Al_read_47, _, i_Al_read_50, _, i_Al_read_51, _, i_Al_read_52, rfl⟩
theorem b_Al_read_55 : mj_Ch zG ("StreamWatch$AlertLog", "read", c_Al_read, 5) 55 [x_aload 0, x_getf 0 2, x_iload 1, x_isub, x_const 24, x_iadd] 64 := ⟨_, i_Al_read_55, _, i_Al_read_56, _, i_Al_read_59, _, i_Al_read_60, _, i_Al_read_61, _, i_Al_read_63, rfl⟩
theorem b_Al_read_64 : mj_Ch zG ("StreamWatch$AlertLog", "read", c_Al_read, 5) 64 [x_istore 4, x_aload 0, x_getf 0 0, x_iload 4, x_const 4, x_imul, x_iload 2, x_iadd, x_iald 0] 77 := ⟨_, i_Al_read_64, _, i_Al_read_66, _, i_Al_read_67, _, i_Al_read_70, _, i_Al_read_72, _, i_Al_read_73, _, i_Al_read_74, _, i_Al_read_75, _, i_Al_read_76, rfl⟩
end
section
theorem i_Fl_init_0 : mj_Snd zG ("StreamWatch$Flow", "<init>", c_Fl_init, 1) 0 (x_aload 0) 1 := mj_aload_n (j := 0) rfl (by decide +kernel)
theorem d_Fl_init_1 : decode c_Fl_init 1 = .ok (.invokespecial 3, 3) := by decide +kernel
theorem i_Fl_init_4 : mj_Snd zG ("StreamWatch$Flow", "<init>", c_Fl_init, 1) 4 (x_aload 0) 5 := mj_aload_n (j := 0) rfl (by decide +kernel)
theorem i_Fl_init_5 : mj_Snd zG ("StreamWatch$Flow", "<init>", c_Fl_init, 1) 5 (x_const 0) 6 := mj_const (n := 0) (by decide) (by decide +kernel)
theorem i_Fl_init_6 : mj_Snd zG ("StreamWatch$Flow", "<init>", c_Fl_init, 1) 6 (x_putf 1 0 0) 9 := mj_putG (T := T_Fl) (ty0 := t_Fl) rfl (by decide) u_Fl t_Fl_ok n_Fl z1_127 (Or.inl rfl) (by decide +kernel)
theorem i_Fl_init_9 : mj_Snd zG ("StreamWatch$Flow", "<init>", c_Fl_init, 1) 9 (x_aload 0) 10 := mj_aload_n (j := 0) rfl (by decide +kernel)
theorem i_Fl_init_10 : mj_Snd zG ("StreamWatch$Flow", "<init>", c_Fl_init, 1) 10 (x_const 0) 11 := mj_const (n := 0) (by decide) (by decide +kernel)
theorem i_Fl_init_11 : mj_Snd zG ("StreamWatch$Flow", "<init>", c_Fl_init, 1) 11 (x_putf 1 1 0) 14 := mj_putG (T := T_Fl) (ty0 := t_Fl) rfl (by decide) u_Fl t_Fl_ok n_Fl z1_129 (Or.inl rfl) (by decide +kernel)
theorem i_Fl_init_14 : mj_Snd zG ("StreamWatch$Flow", "<init>", c_Fl_init, 1) 14 (x_aload 0) 15 := mj_aload_n (j := 0) rfl (by decide +kernel)
theorem i_Fl_init_15 : mj_Snd zG ("StreamWatch$Flow", "<init>", c_Fl_init, 1) 15 (x_const 0) 16 := mj_const (n := 0) (by decide) (by decide +kernel)
theorem i_Fl_init_16 : mj_Snd zG ("StreamWatch$Flow", "<init>", c_Fl_init, 1) 16 (x_putf 1 2 0) 19 := mj_putG (T := T_Fl) (ty0 := t_Fl) rfl (by decide) u_Fl t_Fl_ok n_Fl z1_131 (Or.inl rfl) (by decide +kernel)
theorem i_Fl_init_19 : mj_Snd zG ("StreamWatch$Flow", "<init>", c_Fl_init, 1) 19 (x_aload 0) 20 := mj_aload_n (j := 0) rfl (by decide +kernel)
theorem i_Fl_init_20 : mj_Snd zG ("StreamWatch$Flow", "<init>", c_Fl_init, 1) 20 (x_const 0) 21 := mj_const (n := 0) (by decide) (by decide +kernel)
theorem i_Fl_init_21 : mj_Snd zG ("StreamWatch$Flow", "<init>", c_Fl_init, 1) 21 (x_putf 1 3 0) 24 := mj_putG (T := T_Fl) (ty0 := t_Fl) rfl (by decide) u_Fl t_Fl_ok n_Fl z1_133 (Or.inl rfl) (by decide +kernel)
theorem i_Fl_init_24 : mj_Snd zG ("StreamWatch$Flow", "<init>", c_Fl_init, 1) 24 (x_aload 0) 25 := mj_aload_n (j := 0) rfl (by decide +kernel)
theorem i_Fl_init_25 : mj_Snd zG ("StreamWatch$Flow", "<init>", c_Fl_init, 1) 25 (x_const 0) 26 := mj_const (n := 0) (by decide) (by decide +kernel)
theorem i_Fl_init_26 : mj_Snd zG ("StreamWatch$Flow", "<init>", c_Fl_init, 1) 26 (x_putf 1 4 0) 29 := mj_putG (T := T_Fl) (ty0 := t_Fl) rfl (by decide) u_Fl t_Fl_ok n_Fl z1_135 (Or.inl rfl) (by decide +kernel)
theorem i_Fl_init_29 : mj_Snd zG ("StreamWatch$Flow", "<init>", c_Fl_init, 1) 29 (x_aload 0) 30 := mj_aload_n (j := 0) rfl (by decide +kernel)
theorem d_Fl_init_30 : decode c_Fl_init 30 = .ok (.new 27, 3) := by decide +kernel
theorem i_Fl_init_33 : mj_Snd zG ("StreamWatch$Flow", "<init>", c_Fl_init, 1) 33 (x_dup) 34 := mj_dup (by decide +kernel)
theorem d_Fl_init_34 : decode c_Fl_init 34 = .ok (.invokespecial 29, 3) := by decide +kernel
theorem i_Fl_init_37 : mj_Snd zG ("StreamWatch$Flow", "<init>", c_Fl_init, 1) 37 (x_putf 1 5 3) 40 := mj_putG (T := T_Fl) (ty0 := t_Fl) rfl (by decide) u_Fl t_Fl_ok n_Fl z1_137 (Or.inr ⟨rfl, rfl, rfl⟩) (by decide +kernel)
theorem i_Fl_init_40 : mj_Snd zG ("StreamWatch$Flow", "<init>", c_Fl_init, 1) 40 (x_aload 0) 41 := mj_aload_n (j := 0) rfl (by decide +kernel)
theorem d_Fl_init_41 : decode c_Fl_init 41 = .ok (.new 27, 3) := by decide +kernel
theorem i_Fl_init_44 : mj_Snd zG ("StreamWatch$Flow", "<init>", c_Fl_init, 1) 44 (x_dup) 45 := mj_dup (by decide +kernel)
theorem d_Fl_init_45 : decode c_Fl_init 45 = .ok (.invokespecial 29, 3) := by decide +kernel
theorem i_Fl_init_48 : mj_Snd zG ("StreamWatch$Flow", "<init>", c_Fl_init, 1) 48 (x_putf 1 6 3) 51 := mj_putG (T := T_Fl) (ty0 := t_Fl) rfl (by decide) u_Fl t_Fl_ok n_Fl z1_138 (Or.inr ⟨rfl, rfl, rfl⟩) (by decide +kernel)
theorem i_Fl_init_51 : mj_Snd zG ("StreamWatch$Flow", "<init>", c_Fl_init, 1) 51 (x_aload 0) 52 := mj_aload_n (j := 0) rfl (by decide +kernel)
theorem i_Fl_init_52 : mj_Snd zG ("StreamWatch$Flow", "<init>", c_Fl_init, 1) 52 (x_const 0) 53 := mj_const (n := 0) (by decide) (by decide +kernel)
theorem i_Fl_init_53 : mj_Snd zG ("StreamWatch$Flow", "<init>", c_Fl_init, 1) 53 (x_putf 1 7 1) 56 := mj_putG (T := T_Fl) (ty0 := t_Fl) rfl (by decide) u_Fl t_Fl_ok n_Fl z1_139 (Or.inl rfl) (by decide +kernel)
theorem d_Fl_init_56 : decode c_Fl_init 56 = .ok (.return_, 1) := by decide +kernel
theorem b_Fl_init_0 : mj_Ch zG ("StreamWatch$Flow", "<init>", c_Fl_init, 1) 0 [x_aload 0] 1 := ⟨_, i_Fl_init_0, rfl⟩
theorem b_Fl_init_4 : mj_Ch zG ("StreamWatch$Flow", "<init>", c_Fl_init, 1) 4 [x_aload 0, x_const 0, x_putf 1 0 0, x_aload 0, x_const 0, x_putf 1 1 0, x_aload 0, x_const 0, x_putf 1 2 0, x_aload 0, x_const 0, x_putf 1 3 0, x_aload 0, x_const 0, x_putf 1 4 0, x_aload 0] 30 := ⟨_, i_Fl_init_4, _, i_Fl_init_5, _, i_Fl_init_6, _, i_Fl_init_9, _, i_Fl_init_10, _, i_Fl_init_11, _, i_Fl_init_14, _, i_Fl_init_15, _, i_Fl_init_16, _, i_Fl_init_19, _, i_Fl_init_20, _, i_Fl_init_21, _, i_Fl_init_24, _, i_Fl_init_25, _, i_Fl_init_26, _, i_Fl_init_29, rfl⟩
theorem b_Fl_init_33 : mj_Ch zG ("StreamWatch$Flow", "<init>", c_Fl_init, 1) 33 [x_dup] 34 := ⟨_, i_Fl_init_33, rfl⟩
theorem b_Fl_init_37 : mj_Ch zG ("StreamWatch$Flow", "<init>", c_Fl_init, 1) 37 [x_putf 1 5 3, x_aload 0] 41 := ⟨_, i_Fl_init_37, _, i_Fl_init_40, rfl⟩
theorem b_Fl_init_44 : mj_Ch zG ("StreamWatch$Flow", "<init>", c_Fl_init, 1) 44 [x_dup] 45 := ⟨_, i_Fl_init_44, rfl⟩
theorem b_Fl_init_48 : mj_Ch zG ("StreamWatch$Flow", "<init>", c_Fl_init, 1) 48 [x_putf 1 6 3, x_aload 0, x_const 0, x_putf 1 7 1] 56 := ⟨_, i_Fl_init_48, _, i_Fl_init_51, _, i_Fl_init_52, _, i_Fl_init_53, rfl⟩
theorem i_Fl_isLive_0 : mj_Snd zG ("StreamWatch$Flow", "isLive", c_Fl_isLive, 1) 0 (x_aload 0) 1 := mj_aload_n (j := 0) rfl (by decide +kernel)
theorem i_Fl_isLive_1 : mj_Snd zG ("StreamWatch$Flow", "isLive", c_Fl_isLive, 1) 1 (x_getf 1 7) 4 := mj_getf (T := T_Fl) rfl (by decide) u_Fl z1_139 (by decide +kernel)
theorem d_Fl_isLive_4 : decode c_Fl_isLive 4 = .ok (.ireturn, 1) := by decide +kernel
theorem b_Fl_isLive_0 : mj_Ch zG ("StreamWatch$Flow", "isLive", c_Fl_isLive, 1) 0 [x_aload 0, x_getf 1 7] 4 := ⟨_, i_Fl_isLive_0, _, i_Fl_isLive_1, rfl⟩
theorem i_Fl_open_0 : mj_Snd zG ("StreamWatch$Flow", "open", c_Fl_open, 2) 0 (x_aload 0) 1 := mj_aload_n (j := 0) rfl (by decide +kernel)
theorem i_Fl_open_1 : mj_Snd zG ("StreamWatch$Flow", "open", c_Fl_open, 2) 1 (x_const 1) 2 := mj_const (n := 1) (by decide) (by decide +kernel)
theorem i_Fl_open_2 : mj_Snd zG ("StreamWatch$Flow", "open", c_Fl_open, 2) 2 (x_putf 1 7 1) 5 := mj_putG (T := T_Fl) (ty0 := t_Fl) rfl (by decide) u_Fl t_Fl_ok n_Fl z1_139 (Or.inl rfl) (by decide +kernel)
theorem i_Fl_open_5 : mj_Snd zG ("StreamWatch$Flow", "open", c_Fl_open, 2) 5 (x_aload 0) 6 := mj_aload_n (j := 0) rfl (by decide +kernel)
theorem i_Fl_open_6 : mj_Snd zG ("StreamWatch$Flow", "open", c_Fl_open, 2) 6 (x_aload 1) 7 := mj_aload_n (j := 1) rfl (by decide +kernel)
theorem i_Fl_open_7 : mj_Snd zG ("StreamWatch$Flow", "open", c_Fl_open, 2) 7 (x_getf 5 0) 10 := mj_getf (T := T_Pk) rfl (by decide) u_Pk z1_48 (by decide +kernel)
theorem i_Fl_open_10 : mj_Snd zG ("StreamWatch$Flow", "open", c_Fl_open, 2) 10 (x_putf 1 0 0) 13 := mj_putG (T := T_Fl) (ty0 := t_Fl) rfl (by decide) u_Fl t_Fl_ok n_Fl z1_127 (Or.inl rfl) (by decide +kernel)
theorem i_Fl_open_13 : mj_Snd zG ("StreamWatch$Flow", "open", c_Fl_open, 2) 13 (x_aload 0) 14 := mj_aload_n (j := 0) rfl (by decide +kernel)
theorem i_Fl_open_14 : mj_Snd zG ("StreamWatch$Flow", "open", c_Fl_open, 2) 14 (x_aload 1) 15 := mj_aload_n (j := 1) rfl (by decide +kernel)
theorem i_Fl_open_15 : mj_Snd zG ("StreamWatch$Flow", "open", c_Fl_open, 2) 15 (x_getf 5 1) 18 := mj_getf (T := T_Pk) rfl (by decide) u_Pk z1_50 (by decide +kernel)
theorem i_Fl_open_18 : mj_Snd zG ("StreamWatch$Flow", "open", c_Fl_open, 2) 18 (x_putf 1 1 0) 21 := mj_putG (T := T_Fl) (ty0 := t_Fl) rfl (by decide) u_Fl t_Fl_ok n_Fl z1_129 (Or.inl rfl) (by decide +kernel)
theorem i_Fl_open_21 : mj_Snd zG ("StreamWatch$Flow", "open", c_Fl_open, 2) 21 (x_aload 0) 22 := mj_aload_n (j := 0) rfl (by decide +kernel)
theorem i_Fl_open_22 : mj_Snd zG ("StreamWatch$Flow", "open", c_Fl_open, 2) 22 (x_aload 1) 23 := mj_aload_n (j := 1) rfl (by decide +kernel)
theorem i_Fl_open_23 : mj_Snd zG ("StreamWatch$Flow", "open", c_Fl_open, 2) 23 (x_getf 5 2) 26 := mj_getf (T := T_Pk) rfl (by decide) u_Pk z1_52 (by decide +kernel)
theorem i_Fl_open_26 : mj_Snd zG ("StreamWatch$Flow", "open", c_Fl_open, 2) 26 (x_putf 1 2 0) 29 := mj_putG (T := T_Fl) (ty0 := t_Fl) rfl (by decide) u_Fl t_Fl_ok n_Fl z1_131 (Or.inl rfl) (by decide +kernel)
theorem i_Fl_open_29 : mj_Snd zG ("StreamWatch$Flow", "open", c_Fl_open, 2) 29 (x_aload 0) 30 := mj_aload_n (j := 0) rfl (by decide +kernel)
theorem i_Fl_open_30 : mj_Snd zG ("StreamWatch$Flow", "open", c_Fl_open, 2) 30 (x_aload 1) 31 := mj_aload_n (j := 1) rfl (by decide +kernel)
theorem i_Fl_open_31 : mj_Snd zG ("StreamWatch$Flow", "open", c_Fl_open, 2) 31 (x_getf 5 3) 34 := mj_getf (T := T_Pk) rfl (by decide) u_Pk z1_54 (by decide +kernel)
theorem i_Fl_open_34 : mj_Snd zG ("StreamWatch$Flow", "open", c_Fl_open, 2) 34 (x_putf 1 3 0) 37 := mj_putG (T := T_Fl) (ty0 := t_Fl) rfl (by decide) u_Fl t_Fl_ok n_Fl z1_133 (Or.inl rfl) (by decide +kernel)
theorem i_Fl_open_37 : mj_Snd zG ("StreamWatch$Flow", "open", c_Fl_open, 2) 37 (x_aload 0) 38 := mj_aload_n (j := 0) rfl (by decide +kernel)
theorem i_Fl_open_38 : mj_Snd zG ("StreamWatch$Flow", "open", c_Fl_open, 2) 38 (x_getf 1 5) 41 := mj_getf (T := T_Fl) rfl (by decide) u_Fl z1_137 (by decide +kernel)
theorem d_Fl_open_41 : decode c_Fl_open 41 = .ok (.invokevirtual 55, 3) := by decide +kernel
theorem i_Fl_open_44 : mj_Snd zG ("StreamWatch$Flow", "open", c_Fl_open, 2) 44 (x_aload 0) 45 := mj_aload_n (j := 0) rfl (by decide +kernel)
theorem i_Fl_open_45 : mj_Snd zG ("StreamWatch$Flow", "open", c_Fl_open, 2) 45 (x_getf 1 6) 48 := mj_getf (T := T_Fl) rfl (by decide) u_Fl z1_138 (by decide +kernel)
theorem d_Fl_open_48 : decode c_Fl_open 48 = .ok (.invokevirtual 55, 3) := by decide +kernel
theorem d_Fl_open_51 : decode c_Fl_open 51 = .ok (.return_, 1) := by decide +kernel
theorem b_Fl_open_0 : mj_Ch zG ("StreamWatch$Flow", "open", c_Fl_open, 2) 0 [x_aload 0, x_const 1, x_putf 1 7 1, x_aload 0, x_aload 1, x_getf 5 0, x_putf 1 0 0, x_aload 0, x_aload 1, x_getf 5 1, x_putf 1 1 0, x_aload 0, x_aload 1, x_getf 5 2, x_putf 1 2 0, x_aload 0, x_aload 1, x_getf 5 3, x_putf 1 3 0, x_aload 0, x_getf 1 5] 41 := ⟨_, i_Fl_open_0, _, i_Fl_open_1, _, i_Fl_open_2, _, i_Fl_open_5, _, i_Fl_open_6, _, i_Fl_open_7, _, i_Fl_open_10, _, i_Fl_open_13, _, i_Fl_open_14, _, i_Fl_open_15, _, i_Fl_open_18, _, i_Fl_open_21, _, i_Fl_open_22, _, i_Fl_open_23, _, i_Fl_open_26, _, i_Fl_open_29, _, i_Fl_open_30, _, i_Fl_open_31, _, i_Fl_open_34, _, i_Fl_open_37, _, i_Fl_open_38, rfl⟩
theorem b_Fl_open_44 : mj_Ch zG ("StreamWatch$Flow", "open", c_Fl_open, 2) 44 [x_aload 0, x_getf 1 6] 48 := ⟨_, i_Fl_open_44, _, i_Fl_open_45, rfl⟩
theorem i_Fl_free_0 : mj_Snd zG ("StreamWatch$Flow", "free", c_Fl_free, 1) 0 (x_aload 0) 1 := mj_aload_n (j := 0) rfl (by decide +kernel)
theorem i_Fl_free_1 : mj_Snd zG ("StreamWatch$Flow", "free", c_Fl_free, 1) 1 (x_const 0) 2 := mj_const (n := 0) (by decide) (by decide +kernel)
theorem i_Fl_free_2 : mj_Snd zG ("StreamWatch$Flow", "free", c_Fl_free, 1) 2 (x_putf 1 7 1) 5 := mj_putG (T := T_Fl) (ty0 := t_Fl) rfl (by decide) u_Fl t_Fl_ok n_Fl z1_139 (Or.inl rfl) (by decide +kernel)
theorem d_Fl_free_5 : decode c_Fl_free 5 = .ok (.return_, 1) := by decide +kernel
theorem b_Fl_free_0 : mj_Ch zG ("StreamWatch$Flow", "free", c_Fl_free, 1) 0 [x_aload 0, x_const 0, x_putf 1 7 1] 5 := ⟨_, i_Fl_free_0, _, i_Fl_free_1, _, i_Fl_free_2, rfl⟩
theorem i_Fl_freeIfBothEnded_0 : mj_Snd zG ("StreamWatch$Flow", "freeIfBothEnded", c_Fl_freeIfBothEnded, 1) 0 (x_aload 0) 1 := mj_aload_n (j := 0) rfl (by decide +kernel)
theorem i_Fl_freeIfBothEnded_1 : mj_Snd zG ("StreamWatch$Flow", "freeIfBothEnded", c_Fl_freeIfBothEnded, 1) 1 (x_getf 1 5) 4 := mj_getf (T := T_Fl) rfl (by decide) u_Fl z1_137 (by decide +kernel)
theorem d_Fl_freeIfBothEnded_4 : decode c_Fl_freeIfBothEnded 4 = .ok (.invokevirtual 58, 3) := by decide +kernel
theorem d_Fl_freeIfBothEnded_7 : decode c_Fl_freeIfBothEnded 7 = .ok (.ifCond .eq 17, 3) := by decide +kernel
theorem i_Fl_freeIfBothEnded_10 : mj_Snd zG ("StreamWatch$Flow", "freeIfBothEnded", c_Fl_freeIfBothEnded, 1) 10 (x_aload 0) 11 := mj_aload_n (j := 0) rfl (by decide +kernel)
theorem i_Fl_freeIfBothEnded_11 : mj_Snd zG ("StreamWatch$Flow", "freeIfBothEnded", c_Fl_freeIfBothEnded, 1) 11 (x_getf 1 6) 14 := mj_getf (T := T_Fl) rfl (by decide) u_Fl z1_138 (by decide +kernel)
theorem d_Fl_freeIfBothEnded_14 : decode c_Fl_freeIfBothEnded 14 = .ok (.invokevirtual 58, 3) := by decide +kernel
theorem d_Fl_freeIfBothEnded_17 : decode c_Fl_freeIfBothEnded 17 = .ok (.ifCond .eq 7, 3) := by decide +kernel
theorem i_Fl_freeIfBothEnded_20 : mj_Snd zG ("StreamWatch$Flow", "freeIfBothEnded", c_Fl_freeIfBothEnded, 1) 20 (x_aload 0) 21 := mj_aload_n (j := 0) rfl (by decide +kernel)
theorem d_Fl_freeIfBothEnded_21 : decode c_Fl_freeIfBothEnded 21 = .ok (.invokevirtual 62, 3) := by decide +kernel
theorem d_Fl_freeIfBothEnded_24 : decode c_Fl_freeIfBothEnded 24 = .ok (.return_, 1) := by decide +kernel
theorem b_Fl_freeIfBothEnded_0 : mj_Ch zG ("StreamWatch$Flow", "freeIfBothEnded", c_Fl_freeIfBothEnded, 1) 0 [x_aload 0, x_getf 1 5] 4 := ⟨_, i_Fl_freeIfBothEnded_0, _, i_Fl_freeIfBothEnded_1, rfl⟩
theorem b_Fl_freeIfBothEnded_10 : mj_Ch zG ("StreamWatch$Flow", "freeIfBothEnded", c_Fl_freeIfBothEnded, 1) 10 [x_aload 0, x_getf 1 6] 14 := ⟨_, i_Fl_freeIfBothEnded_10, _, i_Fl_freeIfBothEnded_11, rfl⟩
theorem b_Fl_freeIfBothEnded_20 : mj_Ch zG ("StreamWatch$Flow", "freeIfBothEnded", c_Fl_freeIfBothEnded, 1) 20 [x_aload 0] 21 := ⟨_, i_Fl_freeIfBothEnded_20, rfl⟩
theorem i_Fl_wayOf_0 : mj_Snd zG ("StreamWatch$Flow", "wayOf", c_Fl_wayOf, 4) 0 (x_aload 0) 1 := mj_aload_n (j := 0) rfl (by decide +kernel)
theorem i_Fl_wayOf_1 : mj_Snd zG ("StreamWatch$Flow", "wayOf", c_Fl_wayOf, 4) 1 (x_aload 1) 2 := mj_aload_n (j := 1) rfl (by decide +kernel)
theorem i_Fl_wayOf_2 : mj_Snd zG ("StreamWatch$Flow", "wayOf", c_Fl_wayOf, 4) 2 (x_getf 5 0) 5 := mj_getf (T := T_Pk) rfl (by decide) u_Pk z1_48 (by decide +kernel)
theorem i_Fl_wayOf_5 : mj_Snd zG ("StreamWatch$Flow", "wayOf", c_Fl_wayOf, 4) 5 (x_aload 1) 6 := mj_aload_n (j := 1) rfl (by decide +kernel)
theorem i_Fl_wayOf_6 : mj_Snd zG ("StreamWatch$Flow", "wayOf", c_Fl_wayOf, 4) 6 (x_getf 5 1) 9 := mj_getf (T := T_Pk) rfl (by decide) u_Pk z1_50 (by decide +kernel)
theorem d_Fl_wayOf_9 : decode c_Fl_wayOf 9 = .ok (.invokevirtual 65, 3) := by decide +kernel
theorem i_Fl_wayOf_12 : mj_Snd zG ("StreamWatch$Flow", "wayOf", c_Fl_wayOf, 4) 12 (x_istore 2) 13 := mj_istore_n (j := 2) rfl (by decide) (by decide +kernel)
theorem i_Fl_wayOf_13 : mj_Snd zG ("StreamWatch$Flow", "wayOf", c_Fl_wayOf, 4) 13 (x_iload 2) 14 := mj_iload_n (j := 2) rfl (by decide +kernel)
theorem d_Fl_wayOf_14 : decode c_Fl_wayOf 14 = .ok (.ifCond .eq 20, 3) := by decide +kernel
theorem i_Fl_wayOf_17 : mj_Snd zG ("StreamWatch$Flow", "wayOf", c_Fl_wayOf, 4) 17 (x_aload 0) 18 := mj_aload_n (j := 0) rfl (by decide +kernel)
theorem i_Fl_wayOf_18 : mj_Snd zG ("StreamWatch$Flow", "wayOf", c_Fl_wayOf, 4) 18 (x_aload 1) 19 := mj_aload_n (j := 1) rfl (by decide +kernel)
theorem i_Fl_wayOf_19 : mj_Snd zG ("StreamWatch$Flow", "wayOf", c_Fl_wayOf, 4) 19 (x_getf 5 2) 22 := mj_getf (T := T_Pk) rfl (by decide) u_Pk z1_52 (by decide +kernel)
theorem i_Fl_wayOf_22 : mj_Snd zG ("StreamWatch$Flow", "wayOf", c_Fl_wayOf, 4) 22 (x_aload 1) 23 := mj_aload_n (j := 1) rfl (by decide +kernel)
theorem i_Fl_wayOf_23 : mj_Snd zG ("StreamWatch$Flow", "wayOf", c_Fl_wayOf, 4) 23 (x_getf 5 3) 26 := mj_getf (T := T_Pk) rfl (by decide) u_Pk z1_54 (by decide +kernel)
theorem d_Fl_wayOf_26 : decode c_Fl_wayOf 26 = .ok (.invokevirtual 69, 3) := by decide +kernel
theorem d_Fl_wayOf_29 : decode c_Fl_wayOf 29 = .ok (.ifCond .eq 5, 3) := by decide +kernel
theorem i_Fl_wayOf_32 : mj_Snd zG ("StreamWatch$Flow", "wayOf", c_Fl_wayOf, 4) 32 (x_const 0) 33 := mj_const (n := 0) (by decide) (by decide +kernel)
theorem d_Fl_wayOf_33 : decode c_Fl_wayOf 33 = .ok (.ireturn, 1) := by decide +kernel
theorem i_Fl_wayOf_34 : mj_Snd zG ("StreamWatch$Flow", "wayOf", c_Fl_wayOf, 4) 34 (x_aload 0) 35 := mj_aload_n (j := 0) rfl (by decide +kernel)
theorem i_Fl_wayOf_35 : mj_Snd zG ("StreamWatch$Flow", "wayOf", c_Fl_wayOf, 4) 35 (x_aload 1) 36 := mj_aload_n (j := 1) rfl (by decide +kernel)
theorem i_Fl_wayOf_36 : mj_Snd zG ("StreamWatch$Flow", "wayOf", c_Fl_wayOf, 4) 36 (x_getf 5 0) 39 := mj_getf (T := T_Pk) rfl (by decide) u_Pk z1_48 (by decide +kernel)
theorem i_Fl_wayOf_39 : mj_Snd zG ("StreamWatch$Flow", "wayOf", c_Fl_wayOf, 4) 39 (x_aload 1) 40 := mj_aload_n (j := 1) rfl (by decide +kernel)
theorem i_Fl_wayOf_40 : mj_Snd zG ("StreamWatch$Flow", "wayOf", c_Fl_wayOf, 4) 40 (x_getf 5 1) 43 := mj_getf (T := T_Pk) rfl (by decide) u_Pk z1_50 (by decide +kernel)
theorem d_Fl_wayOf_43 : decode c_Fl_wayOf 43 = .ok (.invokevirtual 69, 3) := by decide +kernel
theorem i_Fl_wayOf_46 : mj_Snd zG ("StreamWatch$Flow", "wayOf", c_Fl_wayOf, 4) 46 (x_istore 3) 47 := mj_istore_n (j := 3) rfl (by decide) (by decide +kernel)
theorem i_Fl_wayOf_47 : mj_Snd zG ("StreamWatch$Flow", "wayOf", c_Fl_wayOf, 4) 47 (x_iload 3) 48 := mj_iload_n (j := 3) rfl (by decide +kernel)
theorem d_Fl_wayOf_48 : decode c_Fl_wayOf 48 = .ok (.ifCond .eq 20, 3) := by decide +kernel
theorem i_Fl_wayOf_51 : mj_Snd zG ("StreamWatch$Flow", "wayOf", c_Fl_wayOf, 4) 51 (x_aload 0) 52 := mj_aload_n (j := 0) rfl (by decide +kernel)
theorem i_Fl_wayOf_52 : mj_Snd zG ("StreamWatch$Flow", "wayOf", c_Fl_wayOf, 4) 52 (x_aload 1) 53 := mj_aload_n (j := 1) rfl (by decide +kernel)
theorem i_Fl_wayOf_53 : mj_Snd zG ("StreamWatch$Flow", "wayOf", c_Fl_wayOf, 4) 53 (x_getf 5 2) 56 := mj_getf (T := T_Pk) rfl (by decide) u_Pk z1_52 (by decide +kernel)
theorem i_Fl_wayOf_56 : mj_Snd zG ("StreamWatch$Flow", "wayOf", c_Fl_wayOf, 4) 56 (x_aload 1) 57 := mj_aload_n (j := 1) rfl (by decide +kernel)
theorem i_Fl_wayOf_57 : mj_Snd zG ("StreamWatch$Flow", "wayOf", c_Fl_wayOf, 4) 57 (x_getf 5 3) 60 := mj_getf (T := T_Pk) rfl (by decide) u_Pk z1_54 (by decide +kernel)
theorem d_Fl_wayOf_60 : decode c_Fl_wayOf 60 = .ok (.invokevirtual 65, 3) := by decide +kernel
theorem d_Fl_wayOf_63 : decode c_Fl_wayOf 63 = .ok (.ifCond .eq 5, 3) := by decide +kernel
theorem i_Fl_wayOf_66 : mj_Snd zG ("StreamWatch$Flow", "wayOf", c_Fl_wayOf, 4) 66 (x_const 1) 67 := mj_const (n := 1) (by decide) (by decide +kernel)
theorem d_Fl_wayOf_67 : decode c_Fl_wayOf 67 = .ok (.ireturn, 1) := by decide +kernel
theorem i_Fl_wayOf_68 : mj_Snd zG ("StreamWatch$Flow", "wayOf", c_Fl_wayOf, 4) 68 (x_const (-1)) 69 := mj_const (n := (-1)) (by decide) (by decide +kernel)
theorem d_Fl_wayOf_69 : decode c_Fl_wayOf 69 = .ok (.ireturn, 1) := by decide +kernel
theorem b_Fl_wayOf_0 : mj_Ch zG ("StreamWatch$Flow", "wayOf", c_Fl_wayOf, 4) 0 [x_aload 0, x_aload 1, x_getf 5 0, x_aload 1, x_getf 5 1] 9 := ⟨_, i_Fl_wayOf_0, _, i_Fl_wayOf_1, _, i_Fl_wayOf_2, _, i_Fl_wayOf_5, _, i_Fl_wayOf_6, rfl⟩
theorem b_Fl_wayOf_12 : mj_Ch zG ("StreamWatch$Flow", "wayOf", c_Fl_wayOf, 4) 12 [x_istore 2, x_iload 2] 14 := ⟨_, i_Fl_wayOf_12, _, i_Fl_wayOf_13, rfl⟩
theorem b_Fl_wayOf_17 : mj_Ch zG ("StreamWatch$Flow", "wayOf", c_Fl_wayOf, 4) 17 [x_aload 0, x_aload 1, x_getf 5 2, x_aload 1, x_getf 5 3] 26 := ⟨_, i_Fl_wayOf_17, _, i_Fl_wayOf_18, _, i_Fl_wayOf_19, _, i_Fl_wayOf_22, _, i_Fl_wayOf_23, rfl⟩
theorem b_Fl_wayOf_32 : mj_Ch zG ("StreamWatch$Flow", "wayOf", c_Fl_wayOf, 4) 32 [x_const 0] 33 := ⟨_, i_Fl_wayOf_32, rfl⟩
theorem b_Fl_wayOf_34 : mj_Ch zG ("StreamWatch$Flow", "wayOf", c_Fl_wayOf, 4) 34 [x_aload 0, x_aload 1, x_getf 5 0, x_aload 1, x_getf 5 1] 43 := ⟨_, i_Fl_wayOf_34, _, i_Fl_wayOf_35, _, i_Fl_wayOf_36, _, i_Fl_wayOf_39, _, i_Fl_wayOf_40, rfl⟩
theorem b_Fl_wayOf_46 : mj_Ch zG ("StreamWatch$Flow", "wayOf", c_Fl_wayOf, 4) 46 [x_istore 3, x_iload 3] 48 := ⟨_, i_Fl_wayOf_46, _, i_Fl_wayOf_47, rfl⟩
theorem b_Fl_wayOf_51 : mj_Ch zG ("StreamWatch$Flow", "wayOf", c_Fl_wayOf, 4) 51 [x_aload 0, x_aload 1, x_getf 5 2, x_aload 1, x_getf 5 3] 60 := ⟨_, i_Fl_wayOf_51, _, i_Fl_wayOf_52, _, i_Fl_wayOf_53, _, i_Fl_wayOf_56, _, i_Fl_wayOf_57, rfl⟩
theorem b_Fl_wayOf_66 : mj_Ch zG ("StreamWatch$Flow", "wayOf", c_Fl_wayOf, 4) 66 [x_const 1] 67 := ⟨_, i_Fl_wayOf_66, rfl⟩
theorem b_Fl_wayOf_68 : mj_Ch zG ("StreamWatch$Flow", "wayOf", c_Fl_wayOf, 4) 68 [x_const (-1)] 69 := ⟨_, i_Fl_wayOf_68, rfl⟩
theorem i_Fl_streamOf_0 : mj_Snd zG ("StreamWatch$Flow", "streamOf", c_Fl_streamOf, 2) 0 (x_iload 1) 1 := mj_iload_n (j := 1) rfl (by decide +kernel)
theorem d_Fl_streamOf_1 : decode c_Fl_streamOf 1 = .ok (.ifCond .ne 8, 3) := by decide +kernel
theorem i_Fl_streamOf_4 : mj_Snd zG ("StreamWatch$Flow", "streamOf", c_Fl_streamOf, 2) 4 (x_aload 0) 5 := mj_aload_n (j := 0) rfl (by decide +kernel)
theorem i_Fl_streamOf_5 : mj_Snd zG ("StreamWatch$Flow", "streamOf", c_Fl_streamOf, 2) 5 (x_getf 1 5) 8 := mj_getf (T := T_Fl) rfl (by decide) u_Fl z1_137 (by decide +kernel)
theorem d_Fl_streamOf_8 : decode c_Fl_streamOf 8 = .ok (.areturn, 1) := by decide +kernel
theorem i_Fl_streamOf_9 : mj_Snd zG ("StreamWatch$Flow", "streamOf", c_Fl_streamOf, 2) 9 (x_iload 1) 10 := mj_iload_n (j := 1) rfl (by decide +kernel)
theorem i_Fl_streamOf_10 : mj_Snd zG ("StreamWatch$Flow", "streamOf", c_Fl_streamOf, 2) 10 (x_const 1) 11 := mj_const (n := 1) (by decide) (by decide +kernel)
theorem d_Fl_streamOf_11 : decode c_Fl_streamOf 11 = .ok (.if_icmp .ne 10, 3) := by decide +kernel
theorem i_Fl_streamOf_14 : mj_Snd zG ("StreamWatch$Flow", "streamOf", c_Fl_streamOf, 2) 14 (x_aload 0) 15 := mj_aload_n (j := 0) rfl (by decide +kernel)
theorem i_Fl_streamOf_15 : mj_Snd zG ("StreamWatch$Flow", "streamOf", c_Fl_streamOf, 2) 15 (x_getf 1 6) 18 := mj_getf (T := T_Fl) rfl (by decide) u_Fl z1_138 (by decide +kernel)
theorem i_Fl_streamOf_18 : mj_Snd zG ("StreamWatch$Flow", "streamOf", c_Fl_streamOf, 2) 18 (x_skip) 22 := mj_goto (off := 4) (by decide) (by decide +kernel)
theorem i_Fl_streamOf_21 : mj_Snd zG ("StreamWatch$Flow", "streamOf", c_Fl_streamOf, 2) 21 (x_null) 22 := mj_null (by decide +kernel)
theorem d_Fl_streamOf_22 : decode c_Fl_streamOf 22 = .ok (.areturn, 1) := by decide +kernel
theorem b_Fl_streamOf_0 : mj_Ch zG ("StreamWatch$Flow", "streamOf", c_Fl_streamOf, 2) 0 [x_iload 1] 1 := ⟨_, i_Fl_streamOf_0, rfl⟩
theorem b_Fl_streamOf_4 : mj_Ch zG ("StreamWatch$Flow", "streamOf", c_Fl_streamOf, 2) 4 [x_aload 0, x_getf 1 5] 8 := ⟨_, i_Fl_streamOf_4, _, i_Fl_streamOf_5, rfl⟩
theorem b_Fl_streamOf_9 : mj_Ch zG ("StreamWatch$Flow", "streamOf", c_Fl_streamOf, 2) 9 [x_iload 1, x_const 1] 11 := ⟨_, i_Fl_streamOf_9, _, i_Fl_streamOf_10, rfl⟩
theorem b_Fl_streamOf_14 : mj_Ch zG ("StreamWatch$Flow", "streamOf", c_Fl_streamOf, 2) 14 [x_aload 0, x_getf 1 6, x_skip] 22 := ⟨_, i_Fl_streamOf_14, _, i_Fl_streamOf_15, _, i_Fl_streamOf_18, rfl⟩
theorem b_Fl_streamOf_21 : mj_Ch zG ("StreamWatch$Flow", "streamOf", c_Fl_streamOf, 2) 21 [x_null] 22 := ⟨_, i_Fl_streamOf_21, rfl⟩
theorem i_Fl_isClient_0 : mj_Snd zG ("StreamWatch$Flow", "isClient", c_Fl_isClient, 3) 0 (x_aload 0) 1 := mj_aload_n (j := 0) rfl (by decide +kernel)
theorem i_Fl_isClient_1 : mj_Snd zG ("StreamWatch$Flow", "isClient", c_Fl_isClient, 3) 1 (x_getf 1 0) 4 := mj_getf (T := T_Fl) rfl (by decide) u_Fl z1_127 (by decide +kernel)
theorem i_Fl_isClient_4 : mj_Snd zG ("StreamWatch$Flow", "isClient", c_Fl_isClient, 3) 4 (x_iload 1) 5 := mj_iload_n (j := 1) rfl (by decide +kernel)
theorem d_Fl_isClient_5 : decode c_Fl_isClient 5 = .ok (.if_icmp .ne 15, 3) := by decide +kernel
theorem i_Fl_isClient_8 : mj_Snd zG ("StreamWatch$Flow", "isClient", c_Fl_isClient, 3) 8 (x_aload 0) 9 := mj_aload_n (j := 0) rfl (by decide +kernel)
theorem i_Fl_isClient_9 : mj_Snd zG ("StreamWatch$Flow", "isClient", c_Fl_isClient, 3) 9 (x_getf 1 1) 12 := mj_getf (T := T_Fl) rfl (by decide) u_Fl z1_129 (by decide +kernel)
theorem i_Fl_isClient_12 : mj_Snd zG ("StreamWatch$Flow", "isClient", c_Fl_isClient, 3) 12 (x_iload 2) 13 := mj_iload_n (j := 2) rfl (by decide +kernel)
theorem d_Fl_isClient_13 : decode c_Fl_isClient 13 = .ok (.if_icmp .ne 7, 3) := by decide +kernel
theorem i_Fl_isClient_16 : mj_Snd zG ("StreamWatch$Flow", "isClient", c_Fl_isClient, 3) 16 (x_const 1) 17 := mj_const (n := 1) (by decide) (by decide +kernel)
theorem i_Fl_isClient_17 : mj_Snd zG ("StreamWatch$Flow", "isClient", c_Fl_isClient, 3) 17 (x_skip) 21 := mj_goto (off := 4) (by decide) (by decide +kernel)
theorem i_Fl_isClient_20 : mj_Snd zG ("StreamWatch$Flow", "isClient", c_Fl_isClient, 3) 20 (x_const 0) 21 := mj_const (n := 0) (by decide) (by decide +kernel)
theorem d_Fl_isClient_21 : decode c_Fl_isClient 21 = .ok (.ireturn, 1) := by decide +kernel
theorem b_Fl_isClient_0 : mj_Ch zG ("StreamWatch$Flow", "isClient", c_Fl_isClient, 3) 0 [x_aload 0, x_getf 1 0, x_iload 1] 5 := ⟨_, i_Fl_isClient_0, _, i_Fl_isClient_1, _, i_Fl_isClient_4, rfl⟩
theorem b_Fl_isClient_8 : mj_Ch zG ("StreamWatch$Flow", "isClient", c_Fl_isClient, 3) 8 [x_aload 0, x_getf 1 1, x_iload 2] 13 := ⟨_, i_Fl_isClient_8, _, i_Fl_isClient_9, _, i_Fl_isClient_12, rfl⟩
theorem b_Fl_isClient_16 : mj_Ch zG ("StreamWatch$Flow", "isClient", c_Fl_isClient, 3) 16 [x_const 1, x_skip] 21 := ⟨_, i_Fl_isClient_16, _, i_Fl_isClient_17, rfl⟩
theorem b_Fl_isClient_20 : mj_Ch zG ("StreamWatch$Flow", "isClient", c_Fl_isClient, 3) 20 [x_const 0] 21 := ⟨_, i_Fl_isClient_20, rfl⟩
theorem i_Fl_isServer_0 : mj_Snd zG ("StreamWatch$Flow", "isServer", c_Fl_isServer, 3) 0 (x_aload 0) 1 := mj_aload_n (j := 0) rfl (by decide +kernel)
theorem i_Fl_isServer_1 : mj_Snd zG ("StreamWatch$Flow", "isServer", c_Fl_isServer, 3) 1 (x_getf 1 2) 4 := mj_getf (T := T_Fl) rfl (by decide) u_Fl z1_131 (by decide +kernel)
theorem i_Fl_isServer_4 : mj_Snd zG ("StreamWatch$Flow", "isServer", c_Fl_isServer, 3) 4 (x_iload 1) 5 := mj_iload_n (j := 1) rfl (by decide +kernel)
theorem d_Fl_isServer_5 : decode c_Fl_isServer 5 = .ok (.if_icmp .ne 15, 3) := by decide +kernel
theorem i_Fl_isServer_8 : mj_Snd zG ("StreamWatch$Flow", "isServer", c_Fl_isServer, 3) 8 (x_aload 0) 9 := mj_aload_n (j := 0) rfl (by decide +kernel)
theorem i_Fl_isServer_9 : mj_Snd zG ("StreamWatch$Flow", "isServer", c_Fl_isServer, 3) 9 (x_getf 1 3) 12 := mj_getf (T := T_Fl) rfl (by decide) u_Fl z1_133 (by decide +kernel)
theorem i_Fl_isServer_12 : mj_Snd zG ("StreamWatch$Flow", "isServer", c_Fl_isServer, 3) 12 (x_iload 2) 13 := mj_iload_n (j := 2) rfl (by decide +kernel)
theorem d_Fl_isServer_13 : decode c_Fl_isServer 13 = .ok (.if_icmp .ne 7, 3) := by decide +kernel
theorem i_Fl_isServer_16 : mj_Snd zG ("StreamWatch$Flow", "isServer", c_Fl_isServer, 3) 16 (x_const 1) 17 := mj_const (n := 1) (by decide) (by decide +kernel)
theorem i_Fl_isServer_17 : mj_Snd zG ("StreamWatch$Flow", "isServer", c_Fl_isServer, 3) 17 (x_skip) 21 := mj_goto (off := 4) (by decide) (by decide +kernel)
theorem i_Fl_isServer_20 : mj_Snd zG ("StreamWatch$Flow", "isServer", c_Fl_isServer, 3) 20 (x_const 0) 21 := mj_const (n := 0) (by decide) (by decide +kernel)
theorem d_Fl_isServer_21 : decode c_Fl_isServer 21 = .ok (.ireturn, 1) := by decide +kernel
theorem b_Fl_isServer_0 : mj_Ch zG ("StreamWatch$Flow", "isServer", c_Fl_isServer, 3) 0 [x_aload 0, x_getf 1 2, x_iload 1] 5 := ⟨_, i_Fl_isServer_0, _, i_Fl_isServer_1, _, i_Fl_isServer_4, rfl⟩
theorem b_Fl_isServer_8 : mj_Ch zG ("StreamWatch$Flow", "isServer", c_Fl_isServer, 3) 8 [x_aload 0, x_getf 1 3, x_iload 2] 13 := ⟨_, i_Fl_isServer_8, _, i_Fl_isServer_9, _, i_Fl_isServer_12, rfl⟩
theorem b_Fl_isServer_16 : mj_Ch zG ("StreamWatch$Flow", "isServer", c_Fl_isServer, 3) 16 [x_const 1, x_skip] 21 := ⟨_, i_Fl_isServer_16, _, i_Fl_isServer_17, rfl⟩
theorem b_Fl_isServer_20 : mj_Ch zG ("StreamWatch$Flow", "isServer", c_Fl_isServer, 3) 20 [x_const 0] 21 := ⟨_, i_Fl_isServer_20, rfl⟩
end
section
theorem i_Ft_init_0 : mj_Snd zG ("StreamWatch$FlowTable", "<init>", c_Ft_init, 2) 0 (x_aload 0) 1 := mj_aload_n (j := 0) rfl (by decide +kernel)
theorem d_Ft_init_1 : decode c_Ft_init 1 = .ok (.invokespecial 3, 3) := by decide +kernel
theorem i_Ft_init_4 : mj_Snd zG ("StreamWatch$FlowTable", "<init>", c_Ft_init, 2) 4 (x_aload 0) 5 := mj_aload_n (j := 0) rfl (by decide +kernel)
theorem i_Ft_init_5 : mj_Snd zG ("StreamWatch$FlowTable", "<init>", c_Ft_init, 2) 5 (x_const 4) 6 := mj_const (n := 4) (by decide) (by decide +kernel)
theorem d_Ft_init_6 : decode c_Ft_init 6 = .ok (.anewarray 11, 3) := by decide +kernel
theorem i_Ft_init_9 : mj_Snd zG ("StreamWatch$FlowTable", "<init>", c_Ft_init, 2) 9 (x_putf 2 0 3) 12 := mj_putG (T := T_Ft) (ty0 := t_Ft) rfl (by decide) u_Ft t_Ft_ok n_Ft z1_157 (Or.inr ⟨rfl, rfl, rfl⟩) (by decide +kernel)
theorem i_Ft_init_12 : mj_Snd zG ("StreamWatch$FlowTable", "<init>", c_Ft_init, 2) 12 (x_aload 0) 13 := mj_aload_n (j := 0) rfl (by decide +kernel)
theorem i_Ft_init_13 : mj_Snd zG ("StreamWatch$FlowTable", "<init>", c_Ft_init, 2) 13 (x_const 0) 14 := mj_const (n := 0) (by decide) (by decide +kernel)
theorem i_Ft_init_14 : mj_Snd zG ("StreamWatch$FlowTable", "<init>", c_Ft_init, 2) 14 (x_putf 2 1 0) 17 := mj_putG (T := T_Ft) (ty0 := t_Ft) rfl (by decide) u_Ft t_Ft_ok n_Ft z1_158 (Or.inl rfl) (by decide +kernel)
theorem i_Ft_init_17 : mj_Snd zG ("StreamWatch$FlowTable", "<init>", c_Ft_init, 2) 17 (x_const 0) 18 := mj_const (n := 0) (by decide) (by decide +kernel)
theorem i_Ft_init_18 : mj_Snd zG ("StreamWatch$FlowTable", "<init>", c_Ft_init, 2) 18 (x_istore 1) 19 := mj_istore_n (j := 1) rfl (by decide) (by decide +kernel)
theorem i_Ft_init_19 : mj_Snd zG ("StreamWatch$FlowTable", "<init>", c_Ft_init, 2) 19 (x_iload 1) 20 := mj_iload_n (j := 1) rfl (by decide +kernel)
theorem i_Ft_init_20 : mj_Snd zG ("StreamWatch$FlowTable", "<init>", c_Ft_init, 2) 20 (x_const 4) 21 := mj_const (n := 4) (by decide) (by decide +kernel)
theorem d_Ft_init_21 : decode c_Ft_init 21 = .ok (.if_icmp .ge 22, 3) := by decide +kernel
theorem i_Ft_init_24 : mj_Snd zG ("StreamWatch$FlowTable", "<init>", c_Ft_init, 2) 24 (x_aload 0) 25 := mj_aload_n (j := 0) rfl (by decide +kernel)
theorem i_Ft_init_25 : mj_Snd zG ("StreamWatch$FlowTable", "<init>", c_Ft_init, 2) 25 (x_getf 2 0) 28 := mj_getf (T := T_Ft) rfl (by decide) u_Ft z1_157 (by decide +kernel)
theorem i_Ft_init_28 : mj_Snd zG ("StreamWatch$FlowTable", "<init>", c_Ft_init, 2) 28 (x_iload 1) 29 := mj_iload_n (j := 1) rfl (by decide +kernel)
theorem d_Ft_init_29 : decode c_Ft_init 29 = .ok (.new 11, 3) := by decide +kernel
theorem i_Ft_init_32 : mj_Snd zG ("StreamWatch$FlowTable", "<init>", c_Ft_init, 2) 32 (x_dup) 33 := mj_dup (by decide +kernel)
theorem d_Ft_init_33 : decode c_Ft_init 33 = .ok (.invokespecial 21, 3) := by decide +kernel
theorem d_Ft_init_36 : decode c_Ft_init 36 = .ok (.aastore, 1) := by decide +kernel
theorem i_Ft_init_37 : mj_Snd zG ("StreamWatch$FlowTable", "<init>", c_Ft_init, 2) 37 (x_iinc 1 1) 40 := mj_iinc (n := 1) (by decide) (by decide) (by decide +kernel)
theorem i_Ft_init_40 : mj_Snd zG ("StreamWatch$FlowTable", "<init>", c_Ft_init, 2) 40 (x_skip) 19 := mj_goto (off := (-21)) (by decide) (by decide +kernel)
theorem d_Ft_init_43 : decode c_Ft_init 43 = .ok (.return_, 1) := by decide +kernel
theorem b_Ft_init_0 : mj_Ch zG ("StreamWatch$FlowTable", "<init>", c_Ft_init, 2) 0 [x_aload 0] 1 := ⟨_, i_Ft_init_0, rfl⟩
theorem b_Ft_init_4 : mj_Ch zG ("StreamWatch$FlowTable", "<init>", c_Ft_init, 2) 4 [x_aload 0, x_const 4] 6 := ⟨_, i_Ft_init_4, _, i_Ft_init_5, rfl⟩
theorem b_Ft_init_9 : mj_Ch zG ("StreamWatch$FlowTable", "<init>", c_Ft_init, 2) 9 [x_putf 2 0 3, x_aload 0, x_const 0, x_putf 2 1 0, x_const 0, x_istore 1] 19 := ⟨_, i_Ft_init_9, _, i_Ft_init_12, _, i_Ft_init_13, _, i_Ft_init_14, _, i_Ft_init_17, _, i_Ft_init_18, rfl⟩
theorem b_Ft_init_19 : mj_Ch zG ("StreamWatch$FlowTable", "<init>", c_Ft_init, 2) 19 [x_iload 1, x_const 4] 21 := ⟨_, i_Ft_init_19, _, i_Ft_init_20, rfl⟩
theorem b_Ft_init_24 : mj_Ch zG ("StreamWatch$FlowTable", "<init>", c_Ft_init, 2) 24 [x_aload 0, x_getf 2 0, x_iload 1] 29 := ⟨_, i_Ft_init_24, _, i_Ft_init_25, _, i_Ft_init_28, rfl⟩
theorem b_Ft_init_32 : mj_Ch zG ("StreamWatch$FlowTable", "<init>", c_Ft_init, 2) 32 [x_dup] 33 := ⟨_, i_Ft_init_32, rfl⟩
theorem b_Ft_init_37 : mj_Ch zG ("StreamWatch$FlowTable", "<init>", c_Ft_init, 2) 37 [x_iinc 1 1, x_skip] 19 := ⟨_, i_Ft_init_37, _, i_Ft_init_40, rfl⟩
theorem i_Ft_at_0 : mj_Snd zG ("StreamWatch$FlowTable", "at", c_Ft_at, 2) 0 (x_iload 1) 1 := mj_iload_n (j := 1) rfl (by decide +kernel)
theorem d_Ft_at_1 : decode c_Ft_at 1 = .ok (.ifCond .lt 29, 3) := by decide +kernel
theorem i_Ft_at_4 : mj_Snd zG ("StreamWatch$FlowTable", "at", c_Ft_at, 2) 4 (x_iload 1) 5 := mj_iload_n (j := 1) rfl (by decide +kernel)
theorem i_Ft_at_5 : mj_Snd zG ("StreamWatch$FlowTable", "at", c_Ft_at, 2) 5 (x_const 4) 6 := mj_const (n := 4) (by decide) (by decide +kernel)
theorem d_Ft_at_6 : decode c_Ft_at 6 = .ok (.if_icmp .ge 24, 3) := by decide +kernel
theorem i_Ft_at_9 : mj_Snd zG ("StreamWatch$FlowTable", "at", c_Ft_at, 2) 9 (x_aload 0) 10 := mj_aload_n (j := 0) rfl (by decide +kernel)
theorem i_Ft_at_10 : mj_Snd zG ("StreamWatch$FlowTable", "at", c_Ft_at, 2) 10 (x_getf 2 0) 13 := mj_getf (T := T_Ft) rfl (by decide) u_Ft z1_157 (by decide +kernel)
theorem i_Ft_at_13 : mj_Snd zG ("StreamWatch$FlowTable", "at", c_Ft_at, 2) 13 (x_iload 1) 14 := mj_iload_n (j := 1) rfl (by decide +kernel)
theorem i_Ft_at_14 : mj_Snd zG ("StreamWatch$FlowTable", "at", c_Ft_at, 2) 14 (x_aald 3) 15 := mj_aald rfl (by decide +kernel)
theorem d_Ft_at_15 : decode c_Ft_at 15 = .ok (.invokevirtual 22, 3) := by decide +kernel
theorem d_Ft_at_18 : decode c_Ft_at 18 = .ok (.ifCond .eq 12, 3) := by decide +kernel
theorem i_Ft_at_21 : mj_Snd zG ("StreamWatch$FlowTable", "at", c_Ft_at, 2) 21 (x_aload 0) 22 := mj_aload_n (j := 0) rfl (by decide +kernel)
theorem i_Ft_at_22 : mj_Snd zG ("StreamWatch$FlowTable", "at", c_Ft_at, 2) 22 (x_getf 2 0) 25 := mj_getf (T := T_Ft) rfl (by decide) u_Ft z1_157 (by decide +kernel)
theorem i_Ft_at_25 : mj_Snd zG ("StreamWatch$FlowTable", "at", c_Ft_at, 2) 25 (x_iload 1) 26 := mj_iload_n (j := 1) rfl (by decide +kernel)
theorem i_Ft_at_26 : mj_Snd zG ("StreamWatch$FlowTable", "at", c_Ft_at, 2) 26 (x_aald 3) 27 := mj_aald rfl (by decide +kernel)
theorem i_Ft_at_27 : mj_Snd zG ("StreamWatch$FlowTable", "at", c_Ft_at, 2) 27 (x_skip) 31 := mj_goto (off := 4) (by decide) (by decide +kernel)
theorem i_Ft_at_30 : mj_Snd zG ("StreamWatch$FlowTable", "at", c_Ft_at, 2) 30 (x_null) 31 := mj_null (by decide +kernel)
theorem d_Ft_at_31 : decode c_Ft_at 31 = .ok (.areturn, 1) := by decide +kernel
theorem b_Ft_at_0 : mj_Ch zG ("StreamWatch$FlowTable", "at", c_Ft_at, 2) 0 [x_iload 1] 1 := ⟨_, i_Ft_at_0, rfl⟩
theorem b_Ft_at_4 : mj_Ch zG ("StreamWatch$FlowTable", "at", c_Ft_at, 2) 4 [x_iload 1, x_const 4] 6 := ⟨_, i_Ft_at_4, _, i_Ft_at_5, rfl⟩
theorem b_Ft_at_9 : mj_Ch zG ("StreamWatch$FlowTable", "at", c_Ft_at, 2) 9 [x_aload 0, x_getf 2 0, x_iload 1, x_aald 3] 15 := ⟨_, i_Ft_at_9, _, i_Ft_at_10, _, i_Ft_at_13, _, i_Ft_at_14, rfl⟩
theorem b_Ft_at_21 : mj_Ch zG ("StreamWatch$FlowTable", "at", c_Ft_at, 2) 21 [x_aload 0, x_getf 2 0, x_iload 1, x_aald 3, x_skip] 31 := ⟨_, i_Ft_at_21, _, i_Ft_at_22, _, i_Ft_at_25, _, i_Ft_at_26, _, i_Ft_at_27, rfl⟩
theorem b_Ft_at_30 : mj_Ch zG ("StreamWatch$FlowTable", "at", c_Ft_at, 2) 30 [x_null] 31 := ⟨_, i_Ft_at_30, rfl⟩
theorem i_Ft_of_0 : mj_Snd zG ("StreamWatch$FlowTable", "of", c_Ft_of, 4) 0 (x_const 0) 1 := mj_const (n := 0) (by decide) (by decide +kernel)
theorem i_Ft_of_1 : mj_Snd zG ("StreamWatch$FlowTable", "of", c_Ft_of, 4) 1 (x_istore 2) 2 := mj_istore_n (j := 2) rfl (by decide) (by decide +kernel)
theorem i_Ft_of_2 : mj_Snd zG ("StreamWatch$FlowTable", "of", c_Ft_of, 4) 2 (x_iload 2) 3 := mj_iload_n (j := 2) rfl (by decide +kernel)
theorem i_Ft_of_3 : mj_Snd zG ("StreamWatch$FlowTable", "of", c_Ft_of, 4) 3 (x_const 4) 4 := mj_const (n := 4) (by decide) (by decide +kernel)
theorem d_Ft_of_4 : decode c_Ft_of 4 = .ok (.if_icmp .ge 30, 3) := by decide +kernel
theorem i_Ft_of_7 : mj_Snd zG ("StreamWatch$FlowTable", "of", c_Ft_of, 4) 7 (x_aload 0) 8 := mj_aload_n (j := 0) rfl (by decide +kernel)
theorem i_Ft_of_8 : mj_Snd zG ("StreamWatch$FlowTable", "of", c_Ft_of, 4) 8 (x_iload 2) 9 := mj_iload_n (j := 2) rfl (by decide +kernel)
theorem d_Ft_of_9 : decode c_Ft_of 9 = .ok (.invokevirtual 26, 3) := by decide +kernel
theorem i_Ft_of_12 : mj_Snd zG ("StreamWatch$FlowTable", "of", c_Ft_of, 4) 12 (x_astore 3) 13 := mj_astore_n (j := 3) rfl (by decide) (by decide +kernel)
theorem i_Ft_of_13 : mj_Snd zG ("StreamWatch$FlowTable", "of", c_Ft_of, 4) 13 (x_aload 3) 14 := mj_aload_n (j := 3) rfl (by decide +kernel)
theorem d_Ft_of_14 : decode c_Ft_of 14 = .ok (.ifnull 14, 3) := by decide +kernel
theorem i_Ft_of_17 : mj_Snd zG ("StreamWatch$FlowTable", "of", c_Ft_of, 4) 17 (x_aload 3) 18 := mj_aload_n (j := 3) rfl (by decide +kernel)
theorem i_Ft_of_18 : mj_Snd zG ("StreamWatch$FlowTable", "of", c_Ft_of, 4) 18 (x_aload 1) 19 := mj_aload_n (j := 1) rfl (by decide +kernel)
theorem d_Ft_of_19 : decode c_Ft_of 19 = .ok (.invokevirtual 30, 3) := by decide +kernel
theorem i_Ft_of_22 : mj_Snd zG ("StreamWatch$FlowTable", "of", c_Ft_of, 4) 22 (x_const (-1)) 23 := mj_const (n := (-1)) (by decide) (by decide +kernel)
theorem d_Ft_of_23 : decode c_Ft_of 23 = .ok (.if_icmp .eq 5, 3) := by decide +kernel
theorem i_Ft_of_26 : mj_Snd zG ("StreamWatch$FlowTable", "of", c_Ft_of, 4) 26 (x_aload 3) 27 := mj_aload_n (j := 3) rfl (by decide +kernel)
theorem d_Ft_of_27 : decode c_Ft_of 27 = .ok (.areturn, 1) := by decide +kernel
theorem i_Ft_of_28 : mj_Snd zG ("StreamWatch$FlowTable", "of", c_Ft_of, 4) 28 (x_iinc 2 1) 31 := mj_iinc (n := 1) (by decide) (by decide) (by decide +kernel)
theorem i_Ft_of_31 : mj_Snd zG ("StreamWatch$FlowTable", "of", c_Ft_of, 4) 31 (x_skip) 2 := mj_goto (off := (-29)) (by decide) (by decide +kernel)
theorem i_Ft_of_34 : mj_Snd zG ("StreamWatch$FlowTable", "of", c_Ft_of, 4) 34 (x_null) 35 := mj_null (by decide +kernel)
theorem d_Ft_of_35 : decode c_Ft_of 35 = .ok (.areturn, 1) := by decide +kernel
theorem b_Ft_of_0 : mj_Ch zG ("StreamWatch$FlowTable", "of", c_Ft_of, 4) 0 [x_const 0, x_istore 2] 2 := ⟨_, i_Ft_of_0, _, i_Ft_of_1, rfl⟩
theorem b_Ft_of_2 : mj_Ch zG ("StreamWatch$FlowTable", "of", c_Ft_of, 4) 2 [x_iload 2, x_const 4] 4 := ⟨_, i_Ft_of_2, _, i_Ft_of_3, rfl⟩
theorem b_Ft_of_7 : mj_Ch zG ("StreamWatch$FlowTable", "of", c_Ft_of, 4) 7 [x_aload 0, x_iload 2] 9 := ⟨_, i_Ft_of_7, _, i_Ft_of_8, rfl⟩
theorem b_Ft_of_12 : mj_Ch zG ("StreamWatch$FlowTable", "of", c_Ft_of, 4) 12 [x_astore 3, x_aload 3] 14 := ⟨_, i_Ft_of_12, _, i_Ft_of_13, rfl⟩
theorem b_Ft_of_17 : mj_Ch zG ("StreamWatch$FlowTable", "of", c_Ft_of, 4) 17 [x_aload 3, x_aload 1] 19 := ⟨_, i_Ft_of_17, _, i_Ft_of_18, rfl⟩
theorem b_Ft_of_22 : mj_Ch zG ("StreamWatch$FlowTable", "of", c_Ft_of, 4) 22 [x_const (-1)] 23 := ⟨_, i_Ft_of_22, rfl⟩
theorem b_Ft_of_26 : mj_Ch zG ("StreamWatch$FlowTable", "of", c_Ft_of, 4) 26 [x_aload 3] 27 := ⟨_, i_Ft_of_26, rfl⟩
theorem b_Ft_of_28 : mj_Ch zG ("StreamWatch$FlowTable", "of", c_Ft_of, 4) 28 [x_iinc 2 1, x_skip] 2 := ⟨_, i_Ft_of_28, _, i_Ft_of_31, rfl⟩
theorem b_Ft_of_34 : mj_Ch zG ("StreamWatch$FlowTable", "of", c_Ft_of, 4) 34 [x_null] 35 := ⟨_, i_Ft_of_34, rfl⟩
theorem i_Ft_open_0 : mj_Snd zG ("StreamWatch$FlowTable", "open", c_Ft_open, 4) 0 (x_aload 0) 1 := mj_aload_n (j := 0) rfl (by decide +kernel)
theorem i_Ft_open_1 : mj_Snd zG ("StreamWatch$FlowTable", "open", c_Ft_open, 4) 1 (x_getf 2 0) 4 := mj_getf (T := T_Ft) rfl (by decide) u_Ft z1_157 (by decide +kernel)
theorem i_Ft_open_4 : mj_Snd zG ("StreamWatch$FlowTable", "open", c_Ft_open, 4) 4 (x_const 0) 5 := mj_const (n := 0) (by decide) (by decide +kernel)
theorem i_Ft_open_5 : mj_Snd zG ("StreamWatch$FlowTable", "open", c_Ft_open, 4) 5 (x_aald 3) 6 := mj_aald rfl (by decide +kernel)
theorem i_Ft_open_6 : mj_Snd zG ("StreamWatch$FlowTable", "open", c_Ft_open, 4) 6 (x_astore 2) 7 := mj_astore_n (j := 2) rfl (by decide) (by decide +kernel)
theorem i_Ft_open_7 : mj_Snd zG ("StreamWatch$FlowTable", "open", c_Ft_open, 4) 7 (x_const 1) 8 := mj_const (n := 1) (by decide) (by decide +kernel)
theorem i_Ft_open_8 : mj_Snd zG ("StreamWatch$FlowTable", "open", c_Ft_open, 4) 8 (x_istore 3) 9 := mj_istore_n (j := 3) rfl (by decide) (by decide +kernel)
theorem i_Ft_open_9 : mj_Snd zG ("StreamWatch$FlowTable", "open", c_Ft_open, 4) 9 (x_iload 3) 10 := mj_iload_n (j := 3) rfl (by decide +kernel)
theorem i_Ft_open_10 : mj_Snd zG ("StreamWatch$FlowTable", "open", c_Ft_open, 4) 10 (x_const 4) 11 := mj_const (n := 4) (by decide) (by decide +kernel)
theorem d_Ft_open_11 : decode c_Ft_open 11 = .ok (.if_icmp .ge 51, 3) := by decide +kernel
theorem i_Ft_open_14 : mj_Snd zG ("StreamWatch$FlowTable", "open", c_Ft_open, 4) 14 (x_aload 2) 15 := mj_aload_n (j := 2) rfl (by decide +kernel)
theorem d_Ft_open_15 : decode c_Ft_open 15 = .ok (.invokevirtual 22, 3) := by decide +kernel
theorem d_Ft_open_18 : decode c_Ft_open 18 = .ok (.ifCond .eq 44, 3) := by decide +kernel
theorem i_Ft_open_21 : mj_Snd zG ("StreamWatch$FlowTable", "open", c_Ft_open, 4) 21 (x_aload 0) 22 := mj_aload_n (j := 0) rfl (by decide +kernel)
theorem i_Ft_open_22 : mj_Snd zG ("StreamWatch$FlowTable", "open", c_Ft_open, 4) 22 (x_getf 2 0) 25 := mj_getf (T := T_Ft) rfl (by decide) u_Ft z1_157 (by decide +kernel)
theorem i_Ft_open_25 : mj_Snd zG ("StreamWatch$FlowTable", "open", c_Ft_open, 4) 25 (x_iload 3) 26 := mj_iload_n (j := 3) rfl (by decide +kernel)
theorem i_Ft_open_26 : mj_Snd zG ("StreamWatch$FlowTable", "open", c_Ft_open, 4) 26 (x_aald 3) 27 := mj_aald rfl (by decide +kernel)
theorem d_Ft_open_27 : decode c_Ft_open 27 = .ok (.invokevirtual 22, 3) := by decide +kernel
theorem d_Ft_open_30 : decode c_Ft_open 30 = .ok (.ifCond .eq 19, 3) := by decide +kernel
theorem i_Ft_open_33 : mj_Snd zG ("StreamWatch$FlowTable", "open", c_Ft_open, 4) 33 (x_aload 0) 34 := mj_aload_n (j := 0) rfl (by decide +kernel)
theorem i_Ft_open_34 : mj_Snd zG ("StreamWatch$FlowTable", "open", c_Ft_open, 4) 34 (x_getf 2 0) 37 := mj_getf (T := T_Ft) rfl (by decide) u_Ft z1_157 (by decide +kernel)
theorem i_Ft_open_37 : mj_Snd zG ("StreamWatch$FlowTable", "open", c_Ft_open, 4) 37 (x_iload 3) 38 := mj_iload_n (j := 3) rfl (by decide +kernel)
theorem i_Ft_open_38 : mj_Snd zG ("StreamWatch$FlowTable", "open", c_Ft_open, 4) 38 (x_aald 3) 39 := mj_aald rfl (by decide +kernel)
theorem i_Ft_open_39 : mj_Snd zG ("StreamWatch$FlowTable", "open", c_Ft_open, 4) 39 (x_getf 1 4) 42 := mj_getf (T := T_Fl) rfl (by decide) u_Fl z1_136 (by decide +kernel)
theorem i_Ft_open_42 : mj_Snd zG ("StreamWatch$FlowTable", "open", c_Ft_open, 4) 42 (x_aload 2) 43 := mj_aload_n (j := 2) rfl (by decide +kernel)
theorem i_Ft_open_43 : mj_Snd zG ("StreamWatch$FlowTable", "open", c_Ft_open, 4) 43 (x_getf 1 4) 46 := mj_getf (T := T_Fl) rfl (by decide) u_Fl z1_136 (by decide +kernel)
theorem d_Ft_open_46 : decode c_Ft_open 46 = .ok (.if_icmp .ge 10, 3) := by decide +kernel
theorem i_Ft_open_49 : mj_Snd zG ("StreamWatch$FlowTable", "open", c_Ft_open, 4) 49 (x_aload 0) 50 := mj_aload_n (j := 0) rfl (by decide +kernel)
theorem i_Ft_open_50 : mj_Snd zG ("StreamWatch$FlowTable", "open", c_Ft_open, 4) 50 (x_getf 2 0) 53 := mj_getf (T := T_Ft) rfl (by decide) u_Ft z1_157 (by decide +kernel)
theorem i_Ft_open_53 : mj_Snd zG ("StreamWatch$FlowTable", "open", c_Ft_open, 4) 53 (x_iload 3) 54 := mj_iload_n (j := 3) rfl (by decide +kernel)
theorem i_Ft_open_54 : mj_Snd zG ("StreamWatch$FlowTable", "open", c_Ft_open, 4) 54 (x_aald 3) 55 := mj_aald rfl (by decide +kernel)
theorem i_Ft_open_55 : mj_Snd zG ("StreamWatch$FlowTable", "open", c_Ft_open, 4) 55 (x_astore 2) 56 := mj_astore_n (j := 2) rfl (by decide) (by decide +kernel)
theorem i_Ft_open_56 : mj_Snd zG ("StreamWatch$FlowTable", "open", c_Ft_open, 4) 56 (x_iinc 3 1) 59 := mj_iinc (n := 1) (by decide) (by decide) (by decide +kernel)
theorem i_Ft_open_59 : mj_Snd zG ("StreamWatch$FlowTable", "open", c_Ft_open, 4) 59 (x_skip) 9 := mj_goto (off := (-50)) (by decide) (by decide +kernel)
theorem i_Ft_open_62 : mj_Snd zG ("StreamWatch$FlowTable", "open", c_Ft_open, 4) 62 (x_aload 2) 63 := mj_aload_n (j := 2) rfl (by decide +kernel)
theorem i_Ft_open_63 : mj_Snd zG ("StreamWatch$FlowTable", "open", c_Ft_open, 4) 63 (x_aload 1) 64 := mj_aload_n (j := 1) rfl (by decide +kernel)
theorem d_Ft_open_64 : decode c_Ft_open 64 = .ok (.invokevirtual 37, 3) := by decide +kernel
theorem i_Ft_open_67 : mj_Snd zG ("StreamWatch$FlowTable", "open", c_Ft_open, 4) 67 (x_aload 2) 68 := mj_aload_n (j := 2) rfl (by decide +kernel)
theorem d_Ft_open_68 : decode c_Ft_open 68 = .ok (.areturn, 1) := by decide +kernel
theorem b_Ft_open_0 : mj_Ch zG ("StreamWatch$FlowTable", "open", c_Ft_open, 4) 0 [x_aload 0, x_getf 2 0, x_const 0, x_aald 3, x_astore 2, x_const 1, x_istore 3] 9 := ⟨_, i_Ft_open_0, _, i_Ft_open_1, _, i_Ft_open_4, _, i_Ft_open_5, _, i_Ft_open_6, _, i_Ft_open_7, _, i_Ft_open_8, rfl⟩
theorem b_Ft_open_9 : mj_Ch zG ("StreamWatch$FlowTable", "open", c_Ft_open, 4) 9 [x_iload 3, x_const 4] 11 := ⟨_, i_Ft_open_9, _, i_Ft_open_10, rfl⟩
theorem b_Ft_open_14 : mj_Ch zG ("StreamWatch$FlowTable", "open", c_Ft_open, 4) 14 [x_aload 2] 15 := ⟨_, i_Ft_open_14, rfl⟩
theorem b_Ft_open_21 : mj_Ch zG ("StreamWatch$FlowTable", "open", c_Ft_open, 4) 21 [x_aload 0, x_getf 2 0, x_iload 3, x_aald 3] 27 := ⟨_, i_Ft_open_21, _, i_Ft_open_22, _, i_Ft_open_25, _, i_Ft_open_26, rfl⟩
theorem b_Ft_open_33 : mj_Ch zG ("StreamWatch$FlowTable", "open", c_Ft_open, 4) 33 [x_aload 0, x_getf 2 0, x_iload 3, x_aald 3, x_getf 1 4, x_aload 2, x_getf 1 4] 46 := ⟨_, i_Ft_open_33, _, i_Ft_open_34, _, i_Ft_open_37, _, i_Ft_open_38, _, i_Ft_open_39, _, i_Ft_open_42, _, i_Ft_open_43, rfl⟩
theorem b_Ft_open_49 : mj_Ch zG ("StreamWatch$FlowTable", "open", c_Ft_open, 4) 49 [x_aload 0, x_getf 2 0, x_iload 3, x_aald 3, x_astore 2] 56 := ⟨_, i_Ft_open_49, _, i_Ft_open_50, _, i_Ft_open_53, _, i_Ft_open_54, _, i_Ft_open_55, rfl⟩
theorem b_Ft_open_56 : mj_Ch zG ("StreamWatch$FlowTable", "open", c_Ft_open, 4) 56 [x_iinc 3 1, x_skip] 9 := ⟨_, i_Ft_open_56, _, i_Ft_open_59, rfl⟩
theorem b_Ft_open_62 : mj_Ch zG ("StreamWatch$FlowTable", "open", c_Ft_open, 4) 62 [x_aload 2, x_aload 1] 64 := ⟨_, i_Ft_open_62, _, i_Ft_open_63, rfl⟩
theorem b_Ft_open_67 : mj_Ch zG ("StreamWatch$FlowTable", "open", c_Ft_open, 4) 67 [x_aload 2] 68 := ⟨_, i_Ft_open_67, rfl⟩
theorem i_Ft_hear_0 : mj_Snd zG ("StreamWatch$FlowTable", "hear", c_Ft_hear, 2) 0 (x_aload 0) 1 := mj_aload_n (j := 0) rfl (by decide +kernel)
theorem i_Ft_hear_1 : mj_Snd zG ("StreamWatch$FlowTable", "hear", c_Ft_hear, 2) 1 (x_dup) 2 := mj_dup (by decide +kernel)
theorem i_Ft_hear_2 : mj_Snd zG ("StreamWatch$FlowTable", "hear", c_Ft_hear, 2) 2 (x_getf 2 1) 5 := mj_getf (T := T_Ft) rfl (by decide) u_Ft z1_158 (by decide +kernel)
theorem i_Ft_hear_5 : mj_Snd zG ("StreamWatch$FlowTable", "hear", c_Ft_hear, 2) 5 (x_const 1) 6 := mj_const (n := 1) (by decide) (by decide +kernel)
theorem i_Ft_hear_6 : mj_Snd zG ("StreamWatch$FlowTable", "hear", c_Ft_hear, 2) 6 (x_iadd) 7 := mj_iadd (by decide +kernel)
theorem i_Ft_hear_7 : mj_Snd zG ("StreamWatch$FlowTable", "hear", c_Ft_hear, 2) 7 (x_putf 2 1 0) 10 := mj_putG (T := T_Ft) (ty0 := t_Ft) rfl (by decide) u_Ft t_Ft_ok n_Ft z1_158 (Or.inl rfl) (by decide +kernel)
theorem i_Ft_hear_10 : mj_Snd zG ("StreamWatch$FlowTable", "hear", c_Ft_hear, 2) 10 (x_aload 1) 11 := mj_aload_n (j := 1) rfl (by decide +kernel)
theorem i_Ft_hear_11 : mj_Snd zG ("StreamWatch$FlowTable", "hear", c_Ft_hear, 2) 11 (x_aload 0) 12 := mj_aload_n (j := 0) rfl (by decide +kernel)
theorem i_Ft_hear_12 : mj_Snd zG ("StreamWatch$FlowTable", "hear", c_Ft_hear, 2) 12 (x_getf 2 1) 15 := mj_getf (T := T_Ft) rfl (by decide) u_Ft z1_158 (by decide +kernel)
theorem i_Ft_hear_15 : mj_Snd zG ("StreamWatch$FlowTable", "hear", c_Ft_hear, 2) 15 (x_putf 1 4 0) 18 := mj_putG (T := T_Fl) (ty0 := t_Fl) rfl (by decide) u_Fl t_Fl_ok n_Fl z1_136 (Or.inl rfl) (by decide +kernel)
theorem d_Ft_hear_18 : decode c_Ft_hear 18 = .ok (.return_, 1) := by decide +kernel
theorem b_Ft_hear_0 : mj_Ch zG ("StreamWatch$FlowTable", "hear", c_Ft_hear, 2) 0 [x_aload 0, x_dup, x_getf 2 1, x_const 1, x_iadd, x_putf 2 1 0, x_aload 1, x_aload 0, x_getf 2 1, x_putf 1 4 0] 18 := ⟨_, i_Ft_hear_0, _, i_Ft_hear_1, _, i_Ft_hear_2, _, i_Ft_hear_5, _, i_Ft_hear_6, _, i_Ft_hear_7, _, i_Ft_hear_10, _, i_Ft_hear_11, _, i_Ft_hear_12, _, i_Ft_hear_15, rfl⟩
theorem i_Ft_heardAfter_0 : mj_Snd zG ("StreamWatch$FlowTable", "heardAfter", c_Ft_heardAfter, 5) 0 (x_const 0) 1 := mj_const (n := 0) (by decide) (by decide +kernel)
theorem i_Ft_heardAfter_1 : mj_Snd zG ("StreamWatch$FlowTable", "heardAfter", c_Ft_heardAfter, 5) 1 (x_istore 2) 2 := mj_istore_n (j := 2) rfl (by decide) (by decide +kernel)
theorem i_Ft_heardAfter_2 : mj_Snd zG ("StreamWatch$FlowTable", "heardAfter", c_Ft_heardAfter, 5) 2 (x_const 0) 3 := mj_const (n := 0) (by decide) (by decide +kernel)
theorem i_Ft_heardAfter_3 : mj_Snd zG ("StreamWatch$FlowTable", "heardAfter", c_Ft_heardAfter, 5) 3 (x_istore 3) 4 := mj_istore_n (j := 3) rfl (by decide) (by decide +kernel)
theorem i_Ft_heardAfter_4 : mj_Snd zG ("StreamWatch$FlowTable", "heardAfter", c_Ft_heardAfter, 5) 4 (x_iload 3) 5 := mj_iload_n (j := 3) rfl (by decide +kernel)
theorem i_Ft_heardAfter_5 : mj_Snd zG ("StreamWatch$FlowTable", "heardAfter", c_Ft_heardAfter, 5) 5 (x_const 4) 6 := mj_const (n := 4) (by decide) (by decide +kernel)
theorem d_Ft_heardAfter_6 : decode c_Ft_heardAfter 6 = .ok (.if_icmp .ge 36, 3) := by decide +kernel
theorem i_Ft_heardAfter_9 : mj_Snd zG ("StreamWatch$FlowTable", "heardAfter", c_Ft_heardAfter, 5) 9 (x_aload 0) 10 := mj_aload_n (j := 0) rfl (by decide +kernel)
theorem i_Ft_heardAfter_10 : mj_Snd zG ("StreamWatch$FlowTable", "heardAfter", c_Ft_heardAfter, 5) 10 (x_iload 3) 11 := mj_iload_n (j := 3) rfl (by decide +kernel)
theorem d_Ft_heardAfter_11 : decode c_Ft_heardAfter 11 = .ok (.invokevirtual 26, 3) := by decide +kernel
theorem i_Ft_heardAfter_14 : mj_Snd zG ("StreamWatch$FlowTable", "heardAfter", c_Ft_heardAfter, 5) 14 (x_astore 4) 16 := mj_astore (by decide) (by decide +kernel)
theorem i_Ft_heardAfter_16 : mj_Snd zG ("StreamWatch$FlowTable", "heardAfter", c_Ft_heardAfter, 5) 16 (x_aload 4) 18 := mj_aload (by decide +kernel)
theorem d_Ft_heardAfter_18 : decode c_Ft_heardAfter 18 = .ok (.ifnull 18, 3) := by decide +kernel
theorem i_Ft_heardAfter_21 : mj_Snd zG ("StreamWatch$FlowTable", "heardAfter", c_Ft_heardAfter, 5) 21 (x_aload 4) 23 := mj_aload (by decide +kernel)
theorem i_Ft_heardAfter_23 : mj_Snd zG ("StreamWatch$FlowTable", "heardAfter", c_Ft_heardAfter, 5) 23 (x_getf 1 4) 26 := mj_getf (T := T_Fl) rfl (by decide) u_Fl z1_136 (by decide +kernel)
theorem i_Ft_heardAfter_26 : mj_Snd zG ("StreamWatch$FlowTable", "heardAfter", c_Ft_heardAfter, 5) 26 (x_aload 1) 27 := mj_aload_n (j := 1) rfl (by decide +kernel)
theorem i_Ft_heardAfter_27 : mj_Snd zG ("StreamWatch$FlowTable", "heardAfter", c_Ft_heardAfter, 5) 27 (x_getf 1 4) 30 := mj_getf (T := T_Fl) rfl (by decide) u_Fl z1_136 (by decide +kernel)
theorem d_Ft_heardAfter_30 : decode c_Ft_heardAfter 30 = .ok (.if_icmp .le 6, 3) := by decide +kernel
theorem i_Ft_heardAfter_33 : mj_Snd zG ("StreamWatch$FlowTable", "heardAfter", c_Ft_heardAfter, 5) 33 (x_iinc 2 1) 36 := mj_iinc (n := 1) (by decide) (by decide) (by decide +kernel)
theorem i_Ft_heardAfter_36 : mj_Snd zG ("StreamWatch$FlowTable", "heardAfter", c_Ft_heardAfter, 5) 36 (x_iinc 3 1) 39 := mj_iinc (n := 1) (by decide) (by decide) (by decide +kernel)
theorem i_Ft_heardAfter_39 : mj_Snd zG ("StreamWatch$FlowTable", "heardAfter", c_Ft_heardAfter, 5) 39 (x_skip) 4 := mj_goto (off := (-35)) (by decide) (by decide +kernel)
theorem i_Ft_heardAfter_42 : mj_Snd zG ("StreamWatch$FlowTable", "heardAfter", c_Ft_heardAfter, 5) 42 (x_iload 2) 43 := mj_iload_n (j := 2) rfl (by decide +kernel)
theorem d_Ft_heardAfter_43 : decode c_Ft_heardAfter 43 = .ok (.ireturn, 1) := by decide +kernel
theorem b_Ft_heardAfter_0 : mj_Ch zG ("StreamWatch$FlowTable", "heardAfter", c_Ft_heardAfter, 5) 0 [x_const 0, x_istore 2, x_const 0, x_istore 3] 4 := ⟨_, i_Ft_heardAfter_0, _, i_Ft_heardAfter_1, _, i_Ft_heardAfter_2, _, i_Ft_heardAfter_3, rfl⟩
theorem b_Ft_heardAfter_4 : mj_Ch zG ("StreamWatch$FlowTable", "heardAfter", c_Ft_heardAfter, 5) 4 [x_iload 3, x_const 4] 6 := ⟨_, i_Ft_heardAfter_4, _, i_Ft_heardAfter_5, rfl⟩
theorem b_Ft_heardAfter_9 : mj_Ch zG ("StreamWatch$FlowTable", "heardAfter", c_Ft_heardAfter, 5) 9 [x_aload 0, x_iload 3] 11 := ⟨_, i_Ft_heardAfter_9, _, i_Ft_heardAfter_10, rfl⟩
theorem b_Ft_heardAfter_14 : mj_Ch zG ("StreamWatch$FlowTable", "heardAfter", c_Ft_heardAfter, 5) 14 [x_astore 4, x_aload 4] 18 := ⟨_, i_Ft_heardAfter_14, _, i_Ft_heardAfter_16, rfl⟩
theorem b_Ft_heardAfter_21 : mj_Ch zG ("StreamWatch$FlowTable", "heardAfter", c_Ft_heardAfter, 5) 21 [x_aload 4, x_getf 1 4, x_aload 1, x_getf 1 4] 30 := ⟨_, i_Ft_heardAfter_21, _, i_Ft_heardAfter_23, _, i_Ft_heardAfter_26, _, i_Ft_heardAfter_27, rfl⟩
theorem b_Ft_heardAfter_33 : mj_Ch zG ("StreamWatch$FlowTable", "heardAfter", c_Ft_heardAfter, 5) 33 [x_iinc 2 1] 36 := ⟨_, i_Ft_heardAfter_33, rfl⟩
theorem b_Ft_heardAfter_36 : mj_Ch zG ("StreamWatch$FlowTable", "heardAfter", c_Ft_heardAfter, 5) 36 [x_iinc 3 1, x_skip] 4 := ⟨_, i_Ft_heardAfter_36, _, i_Ft_heardAfter_39, rfl⟩
theorem b_Ft_heardAfter_42 : mj_Ch zG ("StreamWatch$FlowTable", "heardAfter", c_Ft_heardAfter, 5) 42 [x_iload 2] 43 := ⟨_, i_Ft_heardAfter_42, rfl⟩
end
section
theorem i_Mk_init_0 : mj_Snd zG ("StreamWatch$Marks", "<init>", c_Mk_init, 1) 0 (x_aload 0) 1 := mj_aload_n (j := 0) rfl (by decide +kernel)
theorem d_Mk_init_1 : decode c_Mk_init 1 = .ok (.invokespecial 3, 3) := by decide +kernel
theorem i_Mk_init_4 : mj_Snd zG ("StreamWatch$Marks", "<init>", c_Mk_init, 1) 4 (x_aload 0) 5 := mj_aload_n (j := 0) rfl (by decide +kernel)
theorem i_Mk_init_5 : mj_Snd zG ("StreamWatch$Marks", "<init>", c_Mk_init, 1) 5 (x_const 81) 7 := mj_bipush (n := 81) (by decide) (by decide +kernel)
theorem d_Mk_init_7 : decode c_Mk_init 7 = .ok (.newarray .boolean, 2) := by decide +kernel
theorem i_Mk_init_9 : mj_Snd zG ("StreamWatch$Marks", "<init>", c_Mk_init, 1) 9 (x_putf 3 0 3) 12 := mj_putG (T := T_Mk) (ty0 := t_Mk) rfl (by decide) u_Mk t_Mk_ok n_Mk z1_178 (Or.inr ⟨rfl, rfl, rfl⟩) (by decide +kernel)
theorem i_Mk_init_12 : mj_Snd zG ("StreamWatch$Marks", "<init>", c_Mk_init, 1) 12 (x_aload 0) 13 := mj_aload_n (j := 0) rfl (by decide +kernel)
theorem i_Mk_init_13 : mj_Snd zG ("StreamWatch$Marks", "<init>", c_Mk_init, 1) 13 (x_const 81) 15 := mj_bipush (n := 81) (by decide) (by decide +kernel)
theorem d_Mk_init_15 : decode c_Mk_init 15 = .ok (.newarray .int, 2) := by decide +kernel
theorem i_Mk_init_17 : mj_Snd zG ("StreamWatch$Marks", "<init>", c_Mk_init, 1) 17 (x_putf 3 1 3) 20 := mj_putG (T := T_Mk) (ty0 := t_Mk) rfl (by decide) u_Mk t_Mk_ok n_Mk z1_179 (Or.inr ⟨rfl, rfl, rfl⟩) (by decide +kernel)
theorem i_Mk_init_20 : mj_Snd zG ("StreamWatch$Marks", "<init>", c_Mk_init, 1) 20 (x_aload 0) 21 := mj_aload_n (j := 0) rfl (by decide +kernel)
theorem i_Mk_init_21 : mj_Snd zG ("StreamWatch$Marks", "<init>", c_Mk_init, 1) 21 (x_const 0) 22 := mj_const (n := 0) (by decide) (by decide +kernel)
theorem i_Mk_init_22 : mj_Snd zG ("StreamWatch$Marks", "<init>", c_Mk_init, 1) 22 (x_putf 3 2 0) 25 := mj_putG (T := T_Mk) (ty0 := t_Mk) rfl (by decide) u_Mk t_Mk_ok n_Mk z1_180 (Or.inl rfl) (by decide +kernel)
theorem d_Mk_init_25 : decode c_Mk_init 25 = .ok (.return_, 1) := by decide +kernel
theorem b_Mk_init_0 : mj_Ch zG ("StreamWatch$Marks", "<init>", c_Mk_init, 1) 0 [x_aload 0] 1 := ⟨_, i_Mk_init_0, rfl⟩
theorem b_Mk_init_4 : mj_Ch zG ("StreamWatch$Marks", "<init>", c_Mk_init, 1) 4 [x_aload 0, x_const 81] 7 := ⟨_, i_Mk_init_4, _, i_Mk_init_5, rfl⟩
theorem b_Mk_init_9 : mj_Ch zG ("StreamWatch$Marks", "<init>", c_Mk_init, 1) 9 [x_putf 3 0 3, x_aload 0, x_const 81] 15 := ⟨_, i_Mk_init_9, _, i_Mk_init_12, _, i_Mk_init_13, rfl⟩
theorem b_Mk_init_17 : mj_Ch zG ("StreamWatch$Marks", "<init>", c_Mk_init, 1) 17 [x_putf 3 1 3, x_aload 0, x_const 0, x_putf 3 2 0] 25 := ⟨_, i_Mk_init_17, _, i_Mk_init_20, _, i_Mk_init_21, _, i_Mk_init_22, rfl⟩
theorem i_Mk_markStartOnly_0 : mj_Snd zG ("StreamWatch$Marks", "markStartOnly", c_Mk_markStartOnly, 3) 0 (x_const 0) 1 := mj_const (n := 0) (by decide) (by decide +kernel)
theorem i_Mk_markStartOnly_1 : mj_Snd zG ("StreamWatch$Marks", "markStartOnly", c_Mk_markStartOnly, 3) 1 (x_istore 2) 2 := mj_istore_n (j := 2) rfl (by decide) (by decide +kernel)
theorem i_Mk_markStartOnly_2 : mj_Snd zG ("StreamWatch$Marks", "markStartOnly", c_Mk_markStartOnly, 3) 2 (x_iload 2) 3 := mj_iload_n (j := 2) rfl (by decide +kernel)
theorem i_Mk_markStartOnly_3 : mj_Snd zG ("StreamWatch$Marks", "markStartOnly", c_Mk_markStartOnly, 3) 3 (x_iload 1) 4 := mj_iload_n (j := 1) rfl (by decide +kernel)
theorem d_Mk_markStartOnly_4 : decode c_Mk_markStartOnly 4 = .ok (.if_icmp .gt 23, 3) := by decide +kernel
theorem i_Mk_markStartOnly_7 : mj_Snd zG ("StreamWatch$Marks", "markStartOnly", c_Mk_markStartOnly, 3) 7 (x_aload 0) 8 := mj_aload_n (j := 0) rfl (by decide +kernel)
theorem i_Mk_markStartOnly_8 : mj_Snd zG ("StreamWatch$Marks", "markStartOnly", c_Mk_markStartOnly, 3) 8 (x_iload 2) 9 := mj_iload_n (j := 2) rfl (by decide +kernel)
theorem i_Mk_markStartOnly_9 : mj_Snd zG ("StreamWatch$Marks", "markStartOnly", c_Mk_markStartOnly, 3) 9 (x_iload 2) 10 := mj_iload_n (j := 2) rfl (by decide +kernel)
theorem d_Mk_markStartOnly_10 : decode c_Mk_markStartOnly 10 = .ok (.ifCond .ne 7, 3) := by decide +kernel
theorem i_Mk_markStartOnly_13 : mj_Snd zG ("StreamWatch$Marks", "markStartOnly", c_Mk_markStartOnly, 3) 13 (x_const 1) 14 := mj_const (n := 1) (by decide) (by decide +kernel)
theorem i_Mk_markStartOnly_14 : mj_Snd zG ("StreamWatch$Marks", "markStartOnly", c_Mk_markStartOnly, 3) 14 (x_skip) 18 := mj_goto (off := 4) (by decide) (by decide +kernel)
theorem i_Mk_markStartOnly_17 : mj_Snd zG ("StreamWatch$Marks", "markStartOnly", c_Mk_markStartOnly, 3) 17 (x_const 0) 18 := mj_const (n := 0) (by decide) (by decide +kernel)
theorem d_Mk_markStartOnly_18 : decode c_Mk_markStartOnly 18 = .ok (.invokevirtual 23, 3) := by decide +kernel
theorem i_Mk_markStartOnly_21 : mj_Snd zG ("StreamWatch$Marks", "markStartOnly", c_Mk_markStartOnly, 3) 21 (x_iinc 2 1) 24 := mj_iinc (n := 1) (by decide) (by decide) (by decide +kernel)
theorem i_Mk_markStartOnly_24 : mj_Snd zG ("StreamWatch$Marks", "markStartOnly", c_Mk_markStartOnly, 3) 24 (x_skip) 2 := mj_goto (off := (-22)) (by decide) (by decide +kernel)
theorem i_Mk_markStartOnly_27 : mj_Snd zG ("StreamWatch$Marks", "markStartOnly", c_Mk_markStartOnly, 3) 27 (x_aload 0) 28 := mj_aload_n (j := 0) rfl (by decide +kernel)
theorem i_Mk_markStartOnly_28 : mj_Snd zG ("StreamWatch$Marks", "markStartOnly", c_Mk_markStartOnly, 3) 28 (x_iload 1) 29 := mj_iload_n (j := 1) rfl (by decide +kernel)
theorem d_Mk_markStartOnly_29 : decode c_Mk_markStartOnly 29 = .ok (.invokevirtual 27, 3) := by decide +kernel
theorem d_Mk_markStartOnly_32 : decode c_Mk_markStartOnly 32 = .ok (.return_, 1) := by decide +kernel
theorem b_Mk_markStartOnly_0 : mj_Ch zG ("StreamWatch$Marks", "markStartOnly", c_Mk_markStartOnly, 3) 0 [x_const 0, x_istore 2] 2 := ⟨_, i_Mk_markStartOnly_0, _, i_Mk_markStartOnly_1, rfl⟩
theorem b_Mk_markStartOnly_2 : mj_Ch zG ("StreamWatch$Marks", "markStartOnly", c_Mk_markStartOnly, 3) 2 [x_iload 2, x_iload 1] 4 := ⟨_, i_Mk_markStartOnly_2, _, i_Mk_markStartOnly_3, rfl⟩
theorem b_Mk_markStartOnly_7 : mj_Ch zG ("StreamWatch$Marks", "markStartOnly", c_Mk_markStartOnly, 3) 7 [x_aload 0, x_iload 2, x_iload 2] 10 := ⟨_, i_Mk_markStartOnly_7, _, i_Mk_markStartOnly_8, _, i_Mk_markStartOnly_9, rfl⟩
theorem b_Mk_markStartOnly_13 : mj_Ch zG ("StreamWatch$Marks", "markStartOnly", c_Mk_markStartOnly, 3) 13 [x_const 1, x_skip] 18 := ⟨_, i_Mk_markStartOnly_13, _, i_Mk_markStartOnly_14, rfl⟩
theorem b_Mk_markStartOnly_17 : mj_Ch zG ("StreamWatch$Marks", "markStartOnly", c_Mk_markStartOnly, 3) 17 [x_const 0] 18 := ⟨_, i_Mk_markStartOnly_17, rfl⟩
theorem b_Mk_markStartOnly_21 : mj_Ch zG ("StreamWatch$Marks", "markStartOnly", c_Mk_markStartOnly, 3) 21 [x_iinc 2 1, x_skip] 2 := ⟨_, i_Mk_markStartOnly_21, _, i_Mk_markStartOnly_24, rfl⟩
theorem b_Mk_markStartOnly_27 : mj_Ch zG ("StreamWatch$Marks", "markStartOnly", c_Mk_markStartOnly, 3) 27 [x_aload 0, x_iload 1] 29 := ⟨_, i_Mk_markStartOnly_27, _, i_Mk_markStartOnly_28, rfl⟩
theorem i_Mk_set_0 : mj_Snd zG ("StreamWatch$Marks", "set", c_Mk_set, 3) 0 (x_iload 1) 1 := mj_iload_n (j := 1) rfl (by decide +kernel)
theorem d_Mk_set_1 : decode c_Mk_set 1 = .ok (.ifCond .lt 16, 3) := by decide +kernel
theorem i_Mk_set_4 : mj_Snd zG ("StreamWatch$Marks", "set", c_Mk_set, 3) 4 (x_iload 1) 5 := mj_iload_n (j := 1) rfl (by decide +kernel)
theorem i_Mk_set_5 : mj_Snd zG ("StreamWatch$Marks", "set", c_Mk_set, 3) 5 (x_const 80) 7 := mj_bipush (n := 80) (by decide) (by decide +kernel)
theorem d_Mk_set_7 : decode c_Mk_set 7 = .ok (.if_icmp .gt 10, 3) := by decide +kernel
theorem i_Mk_set_10 : mj_Snd zG ("StreamWatch$Marks", "set", c_Mk_set, 3) 10 (x_aload 0) 11 := mj_aload_n (j := 0) rfl (by decide +kernel)
theorem i_Mk_set_11 : mj_Snd zG ("StreamWatch$Marks", "set", c_Mk_set, 3) 11 (x_getf 3 0) 14 := mj_getf (T := T_Mk) rfl (by decide) u_Mk z1_178 (by decide +kernel)
theorem i_Mk_set_14 : mj_Snd zG ("StreamWatch$Marks", "set", c_Mk_set, 3) 14 (x_iload 1) 15 := mj_iload_n (j := 1) rfl (by decide +kernel)
theorem i_Mk_set_15 : mj_Snd zG ("StreamWatch$Marks", "set", c_Mk_set, 3) 15 (x_iload 2) 16 := mj_iload_n (j := 2) rfl (by decide +kernel)
theorem i_Mk_set_16 : mj_Snd zG ("StreamWatch$Marks", "set", c_Mk_set, 3) 16 (x_zast 1) 17 := mj_zast rfl (by decide +kernel)
theorem d_Mk_set_17 : decode c_Mk_set 17 = .ok (.return_, 1) := by decide +kernel
theorem b_Mk_set_0 : mj_Ch zG ("StreamWatch$Marks", "set", c_Mk_set, 3) 0 [x_iload 1] 1 := ⟨_, i_Mk_set_0, rfl⟩
theorem b_Mk_set_4 : mj_Ch zG ("StreamWatch$Marks", "set", c_Mk_set, 3) 4 [x_iload 1, x_const 80] 7 := ⟨_, i_Mk_set_4, _, i_Mk_set_5, rfl⟩
theorem b_Mk_set_10 : mj_Ch zG ("StreamWatch$Marks", "set", c_Mk_set, 3) 10 [x_aload 0, x_getf 3 0, x_iload 1, x_iload 2, x_zast 1] 17 := ⟨_, i_Mk_set_10, _, i_Mk_set_11, _, i_Mk_set_14, _, i_Mk_set_15, _, i_Mk_set_16, rfl⟩
theorem i_Mk_has_0 : mj_Snd zG ("StreamWatch$Marks", "has", c_Mk_has, 2) 0 (x_iload 1) 1 := mj_iload_n (j := 1) rfl (by decide +kernel)
theorem d_Mk_has_1 : decode c_Mk_has 1 = .ok (.ifCond .lt 22, 3) := by decide +kernel
theorem i_Mk_has_4 : mj_Snd zG ("StreamWatch$Marks", "has", c_Mk_has, 2) 4 (x_iload 1) 5 := mj_iload_n (j := 1) rfl (by decide +kernel)
theorem i_Mk_has_5 : mj_Snd zG ("StreamWatch$Marks", "has", c_Mk_has, 2) 5 (x_const 80) 7 := mj_bipush (n := 80) (by decide) (by decide +kernel)
theorem d_Mk_has_7 : decode c_Mk_has 7 = .ok (.if_icmp .gt 16, 3) := by decide +kernel
theorem i_Mk_has_10 : mj_Snd zG ("StreamWatch$Marks", "has", c_Mk_has, 2) 10 (x_aload 0) 11 := mj_aload_n (j := 0) rfl (by decide +kernel)
theorem i_Mk_has_11 : mj_Snd zG ("StreamWatch$Marks", "has", c_Mk_has, 2) 11 (x_getf 3 0) 14 := mj_getf (T := T_Mk) rfl (by decide) u_Mk z1_178 (by decide +kernel)
theorem i_Mk_has_14 : mj_Snd zG ("StreamWatch$Marks", "has", c_Mk_has, 2) 14 (x_iload 1) 15 := mj_iload_n (j := 1) rfl (by decide +kernel)
theorem i_Mk_has_15 : mj_Snd zG ("StreamWatch$Marks", "has", c_Mk_has, 2) 15 (x_iald 1) 16 := mj_zald rfl (by decide +kernel)
theorem d_Mk_has_16 : decode c_Mk_has 16 = .ok (.ifCond .eq 7, 3) := by decide +kernel
theorem i_Mk_has_19 : mj_Snd zG ("StreamWatch$Marks", "has", c_Mk_has, 2) 19 (x_const 1) 20 := mj_const (n := 1) (by decide) (by decide +kernel)
theorem i_Mk_has_20 : mj_Snd zG ("StreamWatch$Marks", "has", c_Mk_has, 2) 20 (x_skip) 24 := mj_goto (off := 4) (by decide) (by decide +kernel)
theorem i_Mk_has_23 : mj_Snd zG ("StreamWatch$Marks", "has", c_Mk_has, 2) 23 (x_const 0) 24 := mj_const (n := 0) (by decide) (by decide +kernel)
theorem d_Mk_has_24 : decode c_Mk_has 24 = .ok (.ireturn, 1) := by decide +kernel
theorem b_Mk_has_0 : mj_Ch zG ("StreamWatch$Marks", "has", c_Mk_has, 2) 0 [x_iload 1] 1 := ⟨_, i_Mk_has_0, rfl⟩
theorem b_Mk_has_4 : mj_Ch zG ("StreamWatch$Marks", "has", c_Mk_has, 2) 4 [x_iload 1, x_const 80] 7 := ⟨_, i_Mk_has_4, _, i_Mk_has_5, rfl⟩
theorem b_Mk_has_10 : mj_Ch zG ("StreamWatch$Marks", "has", c_Mk_has, 2) 10 [x_aload 0, x_getf 3 0, x_iload 1, x_iald 1] 16 := ⟨_, i_Mk_has_10, _, i_Mk_has_11, _, i_Mk_has_14, _, i_Mk_has_15, rfl⟩
theorem b_Mk_has_19 : mj_Ch zG ("StreamWatch$Marks", "has", c_Mk_has, 2) 19 [x_const 1, x_skip] 24 := ⟨_, i_Mk_has_19, _, i_Mk_has_20, rfl⟩
theorem b_Mk_has_23 : mj_Ch zG ("StreamWatch$Marks", "has", c_Mk_has, 2) 23 [x_const 0] 24 := ⟨_, i_Mk_has_23, rfl⟩
theorem i_Mk_settle_0 : mj_Snd zG ("StreamWatch$Marks", "settle", c_Mk_settle, 4) 0 (x_const (-1)) 1 := mj_const (n := (-1)) (by decide) (by decide +kernel)
theorem i_Mk_settle_1 : mj_Snd zG ("StreamWatch$Marks", "settle", c_Mk_settle, 4) 1 (x_istore 2) 2 := mj_istore_n (j := 2) rfl (by decide) (by decide +kernel)
theorem i_Mk_settle_2 : mj_Snd zG ("StreamWatch$Marks", "settle", c_Mk_settle, 4) 2 (x_aload 0) 3 := mj_aload_n (j := 0) rfl (by decide +kernel)
theorem i_Mk_settle_3 : mj_Snd zG ("StreamWatch$Marks", "settle", c_Mk_settle, 4) 3 (x_iload 1) 4 := mj_iload_n (j := 1) rfl (by decide +kernel)
theorem i_Mk_settle_4 : mj_Snd zG ("StreamWatch$Marks", "settle", c_Mk_settle, 4) 4 (x_const 80) 6 := mj_bipush (n := 80) (by decide) (by decide +kernel)
theorem d_Mk_settle_6 : decode c_Mk_settle 6 = .ok (.if_icmp .gt 7, 3) := by decide +kernel
theorem i_Mk_settle_9 : mj_Snd zG ("StreamWatch$Marks", "settle", c_Mk_settle, 4) 9 (x_iload 1) 10 := mj_iload_n (j := 1) rfl (by decide +kernel)
theorem i_Mk_settle_10 : mj_Snd zG ("StreamWatch$Marks", "settle", c_Mk_settle, 4) 10 (x_skip) 15 := mj_goto (off := 5) (by decide) (by decide +kernel)
theorem i_Mk_settle_13 : mj_Snd zG ("StreamWatch$Marks", "settle", c_Mk_settle, 4) 13 (x_const 80) 15 := mj_bipush (n := 80) (by decide) (by decide +kernel)
theorem i_Mk_settle_15 : mj_Snd zG ("StreamWatch$Marks", "settle", c_Mk_settle, 4) 15 (x_putf 3 2 0) 18 := mj_putG (T := T_Mk) (ty0 := t_Mk) rfl (by decide) u_Mk t_Mk_ok n_Mk z1_180 (Or.inl rfl) (by decide +kernel)
theorem i_Mk_settle_18 : mj_Snd zG ("StreamWatch$Marks", "settle", c_Mk_settle, 4) 18 (x_const 0) 19 := mj_const (n := 0) (by decide) (by decide +kernel)
theorem i_Mk_settle_19 : mj_Snd zG ("StreamWatch$Marks", "settle", c_Mk_settle, 4) 19 (x_istore 3) 20 := mj_istore_n (j := 3) rfl (by decide) (by decide +kernel)
theorem i_Mk_settle_20 : mj_Snd zG ("StreamWatch$Marks", "settle", c_Mk_settle, 4) 20 (x_iload 3) 21 := mj_iload_n (j := 3) rfl (by decide +kernel)
theorem i_Mk_settle_21 : mj_Snd zG ("StreamWatch$Marks", "settle", c_Mk_settle, 4) 21 (x_aload 0) 22 := mj_aload_n (j := 0) rfl (by decide +kernel)
theorem i_Mk_settle_22 : mj_Snd zG ("StreamWatch$Marks", "settle", c_Mk_settle, 4) 22 (x_getf 3 2) 25 := mj_getf (T := T_Mk) rfl (by decide) u_Mk z1_180 (by decide +kernel)
theorem d_Mk_settle_25 : decode c_Mk_settle 25 = .ok (.if_icmp .gt 27, 3) := by decide +kernel
theorem i_Mk_settle_28 : mj_Snd zG ("StreamWatch$Marks", "settle", c_Mk_settle, 4) 28 (x_aload 0) 29 := mj_aload_n (j := 0) rfl (by decide +kernel)
theorem i_Mk_settle_29 : mj_Snd zG ("StreamWatch$Marks", "settle", c_Mk_settle, 4) 29 (x_getf 3 0) 32 := mj_getf (T := T_Mk) rfl (by decide) u_Mk z1_178 (by decide +kernel)
theorem i_Mk_settle_32 : mj_Snd zG ("StreamWatch$Marks", "settle", c_Mk_settle, 4) 32 (x_iload 3) 33 := mj_iload_n (j := 3) rfl (by decide +kernel)
theorem i_Mk_settle_33 : mj_Snd zG ("StreamWatch$Marks", "settle", c_Mk_settle, 4) 33 (x_iald 1) 34 := mj_zald rfl (by decide +kernel)
theorem d_Mk_settle_34 : decode c_Mk_settle 34 = .ok (.ifCond .eq 5, 3) := by decide +kernel
theorem i_Mk_settle_37 : mj_Snd zG ("StreamWatch$Marks", "settle", c_Mk_settle, 4) 37 (x_iload 3) 38 := mj_iload_n (j := 3) rfl (by decide +kernel)
theorem i_Mk_settle_38 : mj_Snd zG ("StreamWatch$Marks", "settle", c_Mk_settle, 4) 38 (x_istore 2) 39 := mj_istore_n (j := 2) rfl (by decide) (by decide +kernel)
theorem i_Mk_settle_39 : mj_Snd zG ("StreamWatch$Marks", "settle", c_Mk_settle, 4) 39 (x_aload 0) 40 := mj_aload_n (j := 0) rfl (by decide +kernel)
theorem i_Mk_settle_40 : mj_Snd zG ("StreamWatch$Marks", "settle", c_Mk_settle, 4) 40 (x_getf 3 1) 43 := mj_getf (T := T_Mk) rfl (by decide) u_Mk z1_179 (by decide +kernel)
theorem i_Mk_settle_43 : mj_Snd zG ("StreamWatch$Marks", "settle", c_Mk_settle, 4) 43 (x_iload 3) 44 := mj_iload_n (j := 3) rfl (by decide +kernel)
theorem i_Mk_settle_44 : mj_Snd zG ("StreamWatch$Marks", "settle", c_Mk_settle, 4) 44 (x_iload 2) 45 := mj_iload_n (j := 2) rfl (by decide +kernel)
theorem i_Mk_settle_45 : mj_Snd zG ("StreamWatch$Marks", "settle", c_Mk_settle, 4) 45 (x_iast 0) 46 := mj_iast rfl (by decide +kernel)
theorem i_Mk_settle_46 : mj_Snd zG ("StreamWatch$Marks", "settle", c_Mk_settle, 4) 46 (x_iinc 3 1) 49 := mj_iinc (n := 1) (by decide) (by decide) (by decide +kernel)
theorem i_Mk_settle_49 : mj_Snd zG ("StreamWatch$Marks", "settle", c_Mk_settle, 4) 49 (x_skip) 20 := mj_goto (off := (-29)) (by decide) (by decide +kernel)
theorem d_Mk_settle_52 : decode c_Mk_settle 52 = .ok (.return_, 1) := by decide +kernel
theorem b_Mk_settle_0 : mj_Ch zG ("StreamWatch$Marks", "settle", c_Mk_settle, 4) 0 [x_const (-1), x_istore 2, x_aload 0, x_iload 1, x_const 80] 6 := ⟨_, i_Mk_settle_0, _, i_Mk_settle_1, _, i_Mk_settle_2, _, i_Mk_settle_3, _, i_Mk_settle_4, rfl⟩
theorem b_Mk_settle_9 : mj_Ch zG ("StreamWatch$Marks", "settle", c_Mk_settle, 4) 9 [x_iload 1, x_skip] 15 := ⟨_, i_Mk_settle_9, _, i_Mk_settle_10, rfl⟩
theorem b_Mk_settle_13 : mj_Ch zG ("StreamWatch$Marks", "settle", c_Mk_settle, 4) 13 [x_const 80] 15 := ⟨_, i_Mk_settle_13, rfl⟩
theorem b_Mk_settle_15 : mj_Ch zG ("StreamWatch$Marks", "settle", c_Mk_settle, 4) 15 [x_putf 3 2 0, x_const 0, x_istore 3] 20 := ⟨_, i_Mk_settle_15, _, i_Mk_settle_18, _, i_Mk_settle_19, rfl⟩
theorem b_Mk_settle_20 : mj_Ch zG ("StreamWatch$Marks", "settle", c_Mk_settle, 4) 20 [x_iload 3, x_aload 0, x_getf 3 2] 25 := ⟨_, i_Mk_settle_20, _, i_Mk_settle_21, _, i_Mk_settle_22, rfl⟩
theorem b_Mk_settle_28 : mj_Ch zG ("StreamWatch$Marks", "settle", c_Mk_settle, 4) 28 [x_aload 0, x_getf 3 0, x_iload 3, x_iald 1] 34 := ⟨_, i_Mk_settle_28, _, i_Mk_settle_29, _, i_Mk_settle_32, _, i_Mk_settle_33, rfl⟩
theorem b_Mk_settle_37 : mj_Ch zG ("StreamWatch$Marks", "settle", c_Mk_settle, 4) 37 [x_iload 3, x_istore 2] 39 := ⟨_, i_Mk_settle_37, _, i_Mk_settle_38, rfl⟩
theorem b_Mk_settle_39 : mj_Ch zG ("StreamWatch$Marks", "settle", c_Mk_settle, 4) 39 [x_aload 0, x_getf 3 1, x_iload 3, x_iload 2, x_iast 0, x_iinc 3 1, x_skip] 20 := ⟨_, i_Mk_settle_39, _, i_Mk_settle_40, _, i_Mk_settle_43, _, i_Mk_settle_44, _, i_Mk_settle_45, _, i_Mk_settle_46, _, i_Mk_settle_49, rfl⟩
theorem i_Mk_isAnyIn_0 : mj_Snd zG ("StreamWatch$Marks", "isAnyIn", c_Mk_isAnyIn, 4) 0 (x_iload 2) 1 := mj_iload_n (j := 2) rfl (by decide +kernel)
theorem i_Mk_isAnyIn_1 : mj_Snd zG ("StreamWatch$Marks", "isAnyIn", c_Mk_isAnyIn, 4) 1 (x_aload 0) 2 := mj_aload_n (j := 0) rfl (by decide +kernel)
theorem i_Mk_isAnyIn_2 : mj_Snd zG ("StreamWatch$Marks", "isAnyIn", c_Mk_isAnyIn, 4) 2 (x_getf 3 2) 5 := mj_getf (T := T_Mk) rfl (by decide) u_Mk z1_180 (by decide +kernel)
theorem d_Mk_isAnyIn_5 : decode c_Mk_isAnyIn 5 = .ok (.invokestatic 31, 3) := by decide +kernel
theorem i_Mk_isAnyIn_8 : mj_Snd zG ("StreamWatch$Marks", "isAnyIn", c_Mk_isAnyIn, 4) 8 (x_istore 3) 9 := mj_istore_n (j := 3) rfl (by decide) (by decide +kernel)
theorem i_Mk_isAnyIn_9 : mj_Snd zG ("StreamWatch$Marks", "isAnyIn", c_Mk_isAnyIn, 4) 9 (x_iload 3) 10 := mj_iload_n (j := 3) rfl (by decide +kernel)
theorem d_Mk_isAnyIn_10 : decode c_Mk_isAnyIn 10 = .ok (.ifCond .lt 21, 3) := by decide +kernel
theorem i_Mk_isAnyIn_13 : mj_Snd zG ("StreamWatch$Marks", "isAnyIn", c_Mk_isAnyIn, 4) 13 (x_aload 0) 14 := mj_aload_n (j := 0) rfl (by decide +kernel)
theorem i_Mk_isAnyIn_14 : mj_Snd zG ("StreamWatch$Marks", "isAnyIn", c_Mk_isAnyIn, 4) 14 (x_getf 3 1) 17 := mj_getf (T := T_Mk) rfl (by decide) u_Mk z1_179 (by decide +kernel)
theorem i_Mk_isAnyIn_17 : mj_Snd zG ("StreamWatch$Marks", "isAnyIn", c_Mk_isAnyIn, 4) 17 (x_iload 3) 18 := mj_iload_n (j := 3) rfl (by decide +kernel)
theorem i_Mk_isAnyIn_18 : mj_Snd zG ("StreamWatch$Marks", "isAnyIn", c_Mk_isAnyIn, 4) 18 (x_iald 0) 19 := mj_iald rfl (by decide +kernel)
theorem i_Mk_isAnyIn_19 : mj_Snd zG ("StreamWatch$Marks", "isAnyIn", c_Mk_isAnyIn, 4) 19 (x_iload 1) 20 := mj_iload_n (j := 1) rfl (by decide +kernel)
theorem i_Mk_isAnyIn_20 : mj_Snd zG ("StreamWatch$Marks", "isAnyIn", c_Mk_isAnyIn, 4) 20 (x_const 0) 21 := mj_const (n := 0) (by decide) (by decide +kernel)
theorem d_Mk_isAnyIn_21 : decode c_Mk_isAnyIn 21 = .ok (.invokestatic 37, 3) := by decide +kernel
theorem d_Mk_isAnyIn_24 : decode c_Mk_isAnyIn 24 = .ok (.if_icmp .lt 7, 3) := by decide +kernel
theorem i_Mk_isAnyIn_27 : mj_Snd zG ("StreamWatch$Marks", "isAnyIn", c_Mk_isAnyIn, 4) 27 (x_const 1) 28 := mj_const (n := 1) (by decide) (by decide +kernel)
theorem i_Mk_isAnyIn_28 : mj_Snd zG ("StreamWatch$Marks", "isAnyIn", c_Mk_isAnyIn, 4) 28 (x_skip) 32 := mj_goto (off := 4) (by decide) (by decide +kernel)
theorem i_Mk_isAnyIn_31 : mj_Snd zG ("StreamWatch$Marks", "isAnyIn", c_Mk_isAnyIn, 4) 31 (x_const 0) 32 := mj_const (n := 0) (by decide) (by decide +kernel)
theorem d_Mk_isAnyIn_32 : decode c_Mk_isAnyIn 32 = .ok (.ireturn, 1) := by decide +kernel
theorem b_Mk_isAnyIn_0 : mj_Ch zG ("StreamWatch$Marks", "isAnyIn", c_Mk_isAnyIn, 4) 0 [x_iload 2, x_aload 0, x_getf 3 2] 5 := ⟨_, i_Mk_isAnyIn_0, _, i_Mk_isAnyIn_1, _, i_Mk_isAnyIn_2, rfl⟩
theorem b_Mk_isAnyIn_8 : mj_Ch zG ("StreamWatch$Marks", "isAnyIn", c_Mk_isAnyIn, 4) 8 [x_istore 3, x_iload 3] 10 := ⟨_, i_Mk_isAnyIn_8, _, i_Mk_isAnyIn_9, rfl⟩
theorem b_Mk_isAnyIn_13 : mj_Ch zG ("StreamWatch$Marks", "isAnyIn", c_Mk_isAnyIn, 4) 13 [x_aload 0, x_getf 3 1, x_iload 3, x_iald 0, x_iload 1, x_const 0] 21 := ⟨_, i_Mk_isAnyIn_13, _, i_Mk_isAnyIn_14, _, i_Mk_isAnyIn_17, _, i_Mk_isAnyIn_18, _, i_Mk_isAnyIn_19, _, i_Mk_isAnyIn_20, rfl⟩
theorem b_Mk_isAnyIn_27 : mj_Ch zG ("StreamWatch$Marks", "isAnyIn", c_Mk_isAnyIn, 4) 27 [x_const 1, x_skip] 32 := ⟨_, i_Mk_isAnyIn_27, _, i_Mk_isAnyIn_28, rfl⟩
theorem b_Mk_isAnyIn_31 : mj_Ch zG ("StreamWatch$Marks", "isAnyIn", c_Mk_isAnyIn, 4) 31 [x_const 0] 32 := ⟨_, i_Mk_isAnyIn_31, rfl⟩
end
section
theorem i_Op_init_0 : mj_Snd zG ("StreamWatch$Option", "<init>", c_Op_init, 7) 0 (x_aload 0) 1 := mj_aload_n (j := 0) rfl (by decide +kernel)
theorem d_Op_init_1 : decode c_Op_init 1 = .ok (.invokespecial 3, 3) := by decide +kernel
theorem i_Op_init_4 : mj_Snd zG ("StreamWatch$Option", "<init>", c_Op_init, 7) 4 (x_aload 0) 5 := mj_aload_n (j := 0) rfl (by decide +kernel)
theorem i_Op_init_5 : mj_Snd zG ("StreamWatch$Option", "<init>", c_Op_init, 7) 5 (x_iload 1) 6 := mj_iload_n (j := 1) rfl (by decide +kernel)
theorem i_Op_init_6 : mj_Snd zG ("StreamWatch$Option", "<init>", c_Op_init, 7) 6 (x_putf 4 4 0) 9 := mj_putG (T := T_Op) (ty0 := t_Op) rfl (by decide) u_Op t_Op_ok n_Op z4_36 (Or.inr ⟨rfl, rfl, rfl⟩) (by decide +kernel)
theorem i_Op_init_9 : mj_Snd zG ("StreamWatch$Option", "<init>", c_Op_init, 7) 9 (x_aload 0) 10 := mj_aload_n (j := 0) rfl (by decide +kernel)
theorem i_Op_init_10 : mj_Snd zG ("StreamWatch$Option", "<init>", c_Op_init, 7) 10 (x_lload 2) 11 := mj_lload_n (j := 2) rfl (by decide +kernel)
theorem i_Op_init_11 : mj_Snd zG ("StreamWatch$Option", "<init>", c_Op_init, 7) 11 (x_putf 4 5 2) 14 := mj_putG (T := T_Op) (ty0 := t_Op) rfl (by decide) u_Op t_Op_ok n_Op z4_38 (Or.inr ⟨rfl, rfl, rfl⟩) (by decide +kernel)
theorem i_Op_init_14 : mj_Snd zG ("StreamWatch$Option", "<init>", c_Op_init, 7) 14 (x_aload 0) 15 := mj_aload_n (j := 0) rfl (by decide +kernel)
theorem i_Op_init_15 : mj_Snd zG ("StreamWatch$Option", "<init>", c_Op_init, 7) 15 (x_iload 4) 17 := mj_iload (by decide +kernel)
theorem i_Op_init_17 : mj_Snd zG ("StreamWatch$Option", "<init>", c_Op_init, 7) 17 (x_const 1) 18 := mj_const (n := 1) (by decide) (by decide +kernel)
theorem i_Op_init_18 : mj_Snd zG ("StreamWatch$Option", "<init>", c_Op_init, 7) 18 (x_iand) 19 := mj_iand (by decide +kernel)
theorem d_Op_init_19 : decode c_Op_init 19 = .ok (.ifCond .eq 7, 3) := by decide +kernel
theorem i_Op_init_22 : mj_Snd zG ("StreamWatch$Option", "<init>", c_Op_init, 7) 22 (x_const 1) 23 := mj_const (n := 1) (by decide) (by decide +kernel)
theorem i_Op_init_23 : mj_Snd zG ("StreamWatch$Option", "<init>", c_Op_init, 7) 23 (x_skip) 27 := mj_goto (off := 4) (by decide) (by decide +kernel)
theorem i_Op_init_26 : mj_Snd zG ("StreamWatch$Option", "<init>", c_Op_init, 7) 26 (x_const 0) 27 := mj_const (n := 0) (by decide) (by decide +kernel)
theorem i_Op_init_27 : mj_Snd zG ("StreamWatch$Option", "<init>", c_Op_init, 7) 27 (x_putf 4 6 1) 30 := mj_putG (T := T_Op) (ty0 := t_Op) rfl (by decide) u_Op t_Op_ok n_Op z4_39 (Or.inr ⟨rfl, rfl, rfl⟩) (by decide +kernel)
theorem i_Op_init_30 : mj_Snd zG ("StreamWatch$Option", "<init>", c_Op_init, 7) 30 (x_aload 0) 31 := mj_aload_n (j := 0) rfl (by decide +kernel)
theorem i_Op_init_31 : mj_Snd zG ("StreamWatch$Option", "<init>", c_Op_init, 7) 31 (x_iload 4) 33 := mj_iload (by decide +kernel)
theorem i_Op_init_33 : mj_Snd zG ("StreamWatch$Option", "<init>", c_Op_init, 7) 33 (x_const 2) 34 := mj_const (n := 2) (by decide) (by decide +kernel)
theorem i_Op_init_34 : mj_Snd zG ("StreamWatch$Option", "<init>", c_Op_init, 7) 34 (x_iand) 35 := mj_iand (by decide +kernel)
theorem d_Op_init_35 : decode c_Op_init 35 = .ok (.ifCond .eq 7, 3) := by decide +kernel
theorem i_Op_init_38 : mj_Snd zG ("StreamWatch$Option", "<init>", c_Op_init, 7) 38 (x_const 1) 39 := mj_const (n := 1) (by decide) (by decide +kernel)
theorem i_Op_init_39 : mj_Snd zG ("StreamWatch$Option", "<init>", c_Op_init, 7) 39 (x_skip) 43 := mj_goto (off := 4) (by decide) (by decide +kernel)
theorem i_Op_init_42 : mj_Snd zG ("StreamWatch$Option", "<init>", c_Op_init, 7) 42 (x_const 0) 43 := mj_const (n := 0) (by decide) (by decide +kernel)
theorem i_Op_init_43 : mj_Snd zG ("StreamWatch$Option", "<init>", c_Op_init, 7) 43 (x_putf 4 0 1) 46 := mj_putG (T := T_Op) (ty0 := t_Op) rfl (by decide) u_Op t_Op_ok n_Op z4_28 (Or.inr ⟨rfl, rfl, rfl⟩) (by decide +kernel)
theorem i_Op_init_46 : mj_Snd zG ("StreamWatch$Option", "<init>", c_Op_init, 7) 46 (x_aload 0) 47 := mj_aload_n (j := 0) rfl (by decide +kernel)
theorem i_Op_init_47 : mj_Snd zG ("StreamWatch$Option", "<init>", c_Op_init, 7) 47 (x_iload 4) 49 := mj_iload (by decide +kernel)
theorem i_Op_init_49 : mj_Snd zG ("StreamWatch$Option", "<init>", c_Op_init, 7) 49 (x_const 4) 50 := mj_const (n := 4) (by decide) (by decide +kernel)
theorem i_Op_init_50 : mj_Snd zG ("StreamWatch$Option", "<init>", c_Op_init, 7) 50 (x_iand) 51 := mj_iand (by decide +kernel)
theorem d_Op_init_51 : decode c_Op_init 51 = .ok (.ifCond .eq 7, 3) := by decide +kernel
theorem i_Op_init_54 : mj_Snd zG ("StreamWatch$Option", "<init>", c_Op_init, 7) 54 (x_const 1) 55 := mj_const (n := 1) (by decide) (by decide +kernel)
theorem i_Op_init_55 : mj_Snd zG ("StreamWatch$Option", "<init>", c_Op_init, 7) 55 (x_skip) 59 := mj_goto (off := 4) (by decide) (by decide +kernel)
theorem i_Op_init_58 : mj_Snd zG ("StreamWatch$Option", "<init>", c_Op_init, 7) 58 (x_const 0) 59 := mj_const (n := 0) (by decide) (by decide +kernel)
theorem i_Op_init_59 : mj_Snd zG ("StreamWatch$Option", "<init>", c_Op_init, 7) 59 (x_putf 4 1 1) 62 := mj_putG (T := T_Op) (ty0 := t_Op) rfl (by decide) u_Op t_Op_ok n_Op z4_30 (Or.inr ⟨rfl, rfl, rfl⟩) (by decide +kernel)
theorem i_Op_init_62 : mj_Snd zG ("StreamWatch$Option", "<init>", c_Op_init, 7) 62 (x_aload 0) 63 := mj_aload_n (j := 0) rfl (by decide +kernel)
theorem i_Op_init_63 : mj_Snd zG ("StreamWatch$Option", "<init>", c_Op_init, 7) 63 (x_iload 5) 65 := mj_iload (by decide +kernel)
theorem i_Op_init_65 : mj_Snd zG ("StreamWatch$Option", "<init>", c_Op_init, 7) 65 (x_putf 4 2 0) 68 := mj_putG (T := T_Op) (ty0 := t_Op) rfl (by decide) u_Op t_Op_ok n_Op z4_32 (Or.inr ⟨rfl, rfl, rfl⟩) (by decide +kernel)
theorem i_Op_init_68 : mj_Snd zG ("StreamWatch$Option", "<init>", c_Op_init, 7) 68 (x_aload 0) 69 := mj_aload_n (j := 0) rfl (by decide +kernel)
theorem i_Op_init_69 : mj_Snd zG ("StreamWatch$Option", "<init>", c_Op_init, 7) 69 (x_iload 6) 71 := mj_iload (by decide +kernel)
theorem d_Op_init_71 : decode c_Op_init 71 = .ok (.ifCond .ne 8, 3) := by decide +kernel
theorem i_Op_init_74 : mj_Snd zG ("StreamWatch$Option", "<init>", c_Op_init, 7) 74 (x_const 80) 76 := mj_bipush (n := 80) (by decide) (by decide +kernel)
theorem i_Op_init_76 : mj_Snd zG ("StreamWatch$Option", "<init>", c_Op_init, 7) 76 (x_skip) 86 := mj_goto (off := 10) (by decide) (by decide +kernel)
theorem i_Op_init_79 : mj_Snd zG ("StreamWatch$Option", "<init>", c_Op_init, 7) 79 (x_iload 5) 81 := mj_iload (by decide +kernel)
theorem i_Op_init_81 : mj_Snd zG ("StreamWatch$Option", "<init>", c_Op_init, 7) 81 (x_iload 6) 83 := mj_iload (by decide +kernel)
theorem i_Op_init_83 : mj_Snd zG ("StreamWatch$Option", "<init>", c_Op_init, 7) 83 (x_iadd) 84 := mj_iadd (by decide +kernel)
theorem i_Op_init_84 : mj_Snd zG ("StreamWatch$Option", "<init>", c_Op_init, 7) 84 (x_iload 1) 85 := mj_iload_n (j := 1) rfl (by decide +kernel)
theorem i_Op_init_85 : mj_Snd zG ("StreamWatch$Option", "<init>", c_Op_init, 7) 85 (x_isub) 86 := mj_isub (by decide +kernel)
theorem i_Op_init_86 : mj_Snd zG ("StreamWatch$Option", "<init>", c_Op_init, 7) 86 (x_putf 4 3 0) 89 := mj_putG (T := T_Op) (ty0 := t_Op) rfl (by decide) u_Op t_Op_ok n_Op z4_34 (Or.inr ⟨rfl, rfl, rfl⟩) (by decide +kernel)
theorem d_Op_init_89 : decode c_Op_init 89 = .ok (.return_, 1) := by decide +kernel
theorem b_Op_init_0 : mj_Ch zG ("StreamWatch$Option", "<init>", c_Op_init, 7) 0 [x_aload 0] 1 := ⟨_, i_Op_init_0, rfl⟩
theorem b_Op_init_4 : mj_Ch zG ("StreamWatch$Option", "<init>", c_Op_init, 7) 4 [x_aload 0, x_iload 1, x_putf 4 4 0, x_aload 0, x_lload 2, x_putf 4 5 2, x_aload 0, x_iload 4, x_const 1, x_iand] 19 := ⟨_, i_Op_init_4, _, i_Op_init_5, _, i_Op_init_6, _, i_Op_init_9, _, i_Op_init_10, _, i_Op_init_11, _, i_Op_init_14, _, i_Op_init_15, _, i_Op_init_17, _, i_Op_init_18, rfl⟩
theorem b_Op_init_22 : mj_Ch zG ("StreamWatch$Option", "<init>", c_Op_init, 7) 22 [x_const 1, x_skip] 27 := ⟨_, i_Op_init_22, _, i_Op_init_23, rfl⟩
theorem b_Op_init_26 : mj_Ch zG ("StreamWatch$Option", "<init>", c_Op_init, 7) 26 [x_const 0] 27 := ⟨_, i_Op_init_26, rfl⟩
theorem b_Op_init_27 : mj_Ch zG ("StreamWatch$Option", "<init>", c_Op_init, 7) 27 [x_putf 4 6 1, x_aload 0, x_iload 4, x_const 2, x_iand] 35 := ⟨_, i_Op_init_27, _, i_Op_init_30, _, i_Op_init_31, _, i_Op_init_33, _, i_Op_init_34, rfl⟩
theorem b_Op_init_38 : mj_Ch zG ("StreamWatch$Option", "<init>", c_Op_init, 7) 38 [x_const 1, x_skip] 43 := ⟨_, i_Op_init_38, _, i_Op_init_39, rfl⟩
theorem b_Op_init_42 : mj_Ch zG ("StreamWatch$Option", "<init>", c_Op_init, 7) 42 [x_const 0] 43 := ⟨_, i_Op_init_42, rfl⟩
theorem b_Op_init_43 : mj_Ch zG ("StreamWatch$Option", "<init>", c_Op_init, 7) 43 [x_putf 4 0 1, x_aload 0, x_iload 4, x_const 4, x_iand] 51 := ⟨_, i_Op_init_43, _, i_Op_init_46, _, i_Op_init_47, _, i_Op_init_49, _, i_Op_init_50, rfl⟩
theorem b_Op_init_54 : mj_Ch zG ("StreamWatch$Option", "<init>", c_Op_init, 7) 54 [x_const 1, x_skip] 59 := ⟨_, i_Op_init_54, _, i_Op_init_55, rfl⟩
theorem b_Op_init_58 : mj_Ch zG ("StreamWatch$Option", "<init>", c_Op_init, 7) 58 [x_const 0] 59 := ⟨_, i_Op_init_58, rfl⟩
theorem b_Op_init_59 : mj_Ch zG ("StreamWatch$Option", "<init>", c_Op_init, 7) 59 [x_putf 4 1 1, x_aload 0, x_iload 5, x_putf 4 2 0, x_aload 0, x_iload 6] 71 := ⟨_, i_Op_init_59, _, i_Op_init_62, _, i_Op_init_63, _, i_Op_init_65, _, i_Op_init_68, _, i_Op_init_69, rfl⟩
theorem b_Op_init_74 : mj_Ch zG ("StreamWatch$Option", "<init>", c_Op_init, 7) 74 [x_const 80, x_skip] 86 := ⟨_, i_Op_init_74, _, i_Op_init_76, rfl⟩
theorem b_Op_init_79 : mj_Ch zG ("StreamWatch$Option", "<init>", c_Op_init, 7) 79 [x_iload 5, x_iload 6, x_iadd, x_iload 1, x_isub] 86 := ⟨_, i_Op_init_79, _, i_Op_init_81, _, i_Op_init_83, _, i_Op_init_84, _, i_Op_init_85, rfl⟩
theorem b_Op_init_86 : mj_Ch zG ("StreamWatch$Option", "<init>", c_Op_init, 7) 86 [x_putf 4 3 0] 89 := ⟨_, i_Op_init_86, rfl⟩
theorem i_Op_standsAt_0 : mj_Snd zG ("StreamWatch$Option", "standsAt", c_Op_standsAt, 5) 0 (x_iload 1) 1 := mj_iload_n (j := 1) rfl (by decide +kernel)
theorem i_Op_standsAt_1 : mj_Snd zG ("StreamWatch$Option", "standsAt", c_Op_standsAt, 5) 1 (x_aload 0) 2 := mj_aload_n (j := 0) rfl (by decide +kernel)
theorem i_Op_standsAt_2 : mj_Snd zG ("StreamWatch$Option", "standsAt", c_Op_standsAt, 5) 2 (x_getf 4 4) 5 := mj_getf (T := T_Op) rfl (by decide) u_Op z4_36 (by decide +kernel)
theorem i_Op_standsAt_5 : mj_Snd zG ("StreamWatch$Option", "standsAt", c_Op_standsAt, 5) 5 (x_iadd) 6 := mj_iadd (by decide +kernel)
theorem i_Op_standsAt_6 : mj_Snd zG ("StreamWatch$Option", "standsAt", c_Op_standsAt, 5) 6 (x_aload 2) 7 := mj_aload_n (j := 2) rfl (by decide +kernel)
theorem d_Op_standsAt_7 : decode c_Op_standsAt 7 = .ok (.invokevirtual 35, 3) := by decide +kernel
theorem d_Op_standsAt_10 : decode c_Op_standsAt 10 = .ok (.if_icmp .le 5, 3) := by decide +kernel
theorem i_Op_standsAt_13 : mj_Snd zG ("StreamWatch$Option", "standsAt", c_Op_standsAt, 5) 13 (x_const 0) 14 := mj_const (n := 0) (by decide) (by decide +kernel)
theorem d_Op_standsAt_14 : decode c_Op_standsAt 14 = .ok (.ireturn, 1) := by decide +kernel
theorem i_Op_standsAt_15 : mj_Snd zG ("StreamWatch$Option", "standsAt", c_Op_standsAt, 5) 15 (x_const 0) 16 := mj_const (n := 0) (by decide) (by decide +kernel)
theorem i_Op_standsAt_16 : mj_Snd zG ("StreamWatch$Option", "standsAt", c_Op_standsAt, 5) 16 (x_istore 3) 17 := mj_istore_n (j := 3) rfl (by decide) (by decide +kernel)
theorem i_Op_standsAt_17 : mj_Snd zG ("StreamWatch$Option", "standsAt", c_Op_standsAt, 5) 17 (x_iload 3) 18 := mj_iload_n (j := 3) rfl (by decide +kernel)
theorem i_Op_standsAt_18 : mj_Snd zG ("StreamWatch$Option", "standsAt", c_Op_standsAt, 5) 18 (x_aload 0) 19 := mj_aload_n (j := 0) rfl (by decide +kernel)
theorem i_Op_standsAt_19 : mj_Snd zG ("StreamWatch$Option", "standsAt", c_Op_standsAt, 5) 19 (x_getf 4 4) 22 := mj_getf (T := T_Op) rfl (by decide) u_Op z4_36 (by decide +kernel)
theorem d_Op_standsAt_22 : decode c_Op_standsAt 22 = .ok (.if_icmp .ge 54, 3) := by decide +kernel
theorem i_Op_standsAt_25 : mj_Snd zG ("StreamWatch$Option", "standsAt", c_Op_standsAt, 5) 25 (x_aload 0) 26 := mj_aload_n (j := 0) rfl (by decide +kernel)
theorem i_Op_standsAt_26 : mj_Snd zG ("StreamWatch$Option", "standsAt", c_Op_standsAt, 5) 26 (x_getf 4 5) 29 := mj_getf (T := T_Op) rfl (by decide) u_Op z4_38 (by decide +kernel)
theorem i_Op_standsAt_29 : mj_Snd zG ("StreamWatch$Option", "standsAt", c_Op_standsAt, 5) 29 (x_const 8) 31 := mj_bipush (n := 8) (by decide) (by decide +kernel)
theorem i_Op_standsAt_31 : mj_Snd zG ("StreamWatch$Option", "standsAt", c_Op_standsAt, 5) 31 (x_aload 0) 32 := mj_aload_n (j := 0) rfl (by decide +kernel)
theorem i_Op_standsAt_32 : mj_Snd zG ("StreamWatch$Option", "standsAt", c_Op_standsAt, 5) 32 (x_getf 4 4) 35 := mj_getf (T := T_Op) rfl (by decide) u_Op z4_36 (by decide +kernel)
theorem i_Op_standsAt_35 : mj_Snd zG ("StreamWatch$Option", "standsAt", c_Op_standsAt, 5) 35 (x_const 1) 36 := mj_const (n := 1) (by decide) (by decide +kernel)
theorem i_Op_standsAt_36 : mj_Snd zG ("StreamWatch$Option", "standsAt", c_Op_standsAt, 5) 36 (x_isub) 37 := mj_isub (by decide +kernel)
theorem i_Op_standsAt_37 : mj_Snd zG ("StreamWatch$Option", "standsAt", c_Op_standsAt, 5) 37 (x_iload 3) 38 := mj_iload_n (j := 3) rfl (by decide +kernel)
theorem i_Op_standsAt_38 : mj_Snd zG ("StreamWatch$Option", "standsAt", c_Op_standsAt, 5) 38 (x_isub) 39 := mj_isub (by decide +kernel)
theorem i_Op_standsAt_39 : mj_Snd zG ("StreamWatch$Option", "standsAt", c_Op_standsAt, 5) 39 (x_imul) 40 := mj_imul (by decide +kernel)
theorem i_Op_standsAt_40 : mj_Snd zG ("StreamWatch$Option", "standsAt", c_Op_standsAt, 5) 40 (x_lushr) 41 := mj_lushr (by decide +kernel)
theorem i_Op_standsAt_41 : mj_Snd zG ("StreamWatch$Option", "standsAt", c_Op_standsAt, 5) 41 (x_l2i) 42 := mj_l2i (by decide +kernel)
theorem i_Op_standsAt_42 : mj_Snd zG ("StreamWatch$Option", "standsAt", c_Op_standsAt, 5) 42 (x_const 255) 45 := mj_sipush (n := 255) (by decide) (by decide +kernel)
theorem i_Op_standsAt_45 : mj_Snd zG ("StreamWatch$Option", "standsAt", c_Op_standsAt, 5) 45 (x_iand) 46 := mj_iand (by decide +kernel)
theorem i_Op_standsAt_46 : mj_Snd zG ("StreamWatch$Option", "standsAt", c_Op_standsAt, 5) 46 (x_istore 4) 48 := mj_istore (by decide) (by decide +kernel)
theorem i_Op_standsAt_48 : mj_Snd zG ("StreamWatch$Option", "standsAt", c_Op_standsAt, 5) 48 (x_aload 0) 49 := mj_aload_n (j := 0) rfl (by decide +kernel)
theorem i_Op_standsAt_49 : mj_Snd zG ("StreamWatch$Option", "standsAt", c_Op_standsAt, 5) 49 (x_aload 2) 50 := mj_aload_n (j := 2) rfl (by decide +kernel)
theorem i_Op_standsAt_50 : mj_Snd zG ("StreamWatch$Option", "standsAt", c_Op_standsAt, 5) 50 (x_iload 1) 51 := mj_iload_n (j := 1) rfl (by decide +kernel)
theorem i_Op_standsAt_51 : mj_Snd zG ("StreamWatch$Option", "standsAt", c_Op_standsAt, 5) 51 (x_iload 3) 52 := mj_iload_n (j := 3) rfl (by decide +kernel)
theorem i_Op_standsAt_52 : mj_Snd zG ("StreamWatch$Option", "standsAt", c_Op_standsAt, 5) 52 (x_iadd) 53 := mj_iadd (by decide +kernel)
theorem d_Op_standsAt_53 : decode c_Op_standsAt 53 = .ok (.invokevirtual 40, 3) := by decide +kernel
theorem d_Op_standsAt_56 : decode c_Op_standsAt 56 = .ok (.invokevirtual 44, 3) := by decide +kernel
theorem i_Op_standsAt_59 : mj_Snd zG ("StreamWatch$Option", "standsAt", c_Op_standsAt, 5) 59 (x_aload 0) 60 := mj_aload_n (j := 0) rfl (by decide +kernel)
theorem i_Op_standsAt_60 : mj_Snd zG ("StreamWatch$Option", "standsAt", c_Op_standsAt, 5) 60 (x_iload 4) 62 := mj_iload (by decide +kernel)
theorem d_Op_standsAt_62 : decode c_Op_standsAt 62 = .ok (.invokevirtual 44, 3) := by decide +kernel
theorem d_Op_standsAt_65 : decode c_Op_standsAt 65 = .ok (.if_icmp .eq 5, 3) := by decide +kernel
theorem i_Op_standsAt_68 : mj_Snd zG ("StreamWatch$Option", "standsAt", c_Op_standsAt, 5) 68 (x_const 0) 69 := mj_const (n := 0) (by decide) (by decide +kernel)
theorem d_Op_standsAt_69 : decode c_Op_standsAt 69 = .ok (.ireturn, 1) := by decide +kernel
theorem i_Op_standsAt_70 : mj_Snd zG ("StreamWatch$Option", "standsAt", c_Op_standsAt, 5) 70 (x_iinc 3 1) 73 := mj_iinc (n := 1) (by decide) (by decide) (by decide +kernel)
theorem i_Op_standsAt_73 : mj_Snd zG ("StreamWatch$Option", "standsAt", c_Op_standsAt, 5) 73 (x_skip) 17 := mj_goto (off := (-56)) (by decide) (by decide +kernel)
theorem i_Op_standsAt_76 : mj_Snd zG ("StreamWatch$Option", "standsAt", c_Op_standsAt, 5) 76 (x_const 1) 77 := mj_const (n := 1) (by decide) (by decide +kernel)
theorem d_Op_standsAt_77 : decode c_Op_standsAt 77 = .ok (.ireturn, 1) := by decide +kernel
theorem b_Op_standsAt_0 : mj_Ch zG ("StreamWatch$Option", "standsAt", c_Op_standsAt, 5) 0 [x_iload 1, x_aload 0, x_getf 4 4, x_iadd, x_aload 2] 7 := ⟨_, i_Op_standsAt_0, _, i_Op_standsAt_1, _, i_Op_standsAt_2, _, i_Op_standsAt_5, _, i_Op_standsAt_6, rfl⟩
theorem b_Op_standsAt_13 : mj_Ch zG ("StreamWatch$Option", "standsAt", c_Op_standsAt, 5) 13 [x_const 0] 14 := ⟨_, i_Op_standsAt_13, rfl⟩
theorem b_Op_standsAt_15 : mj_Ch zG ("StreamWatch$Option", "standsAt", c_Op_standsAt, 5) 15 [x_const 0, x_istore 3] 17 := ⟨_, i_Op_standsAt_15, _, i_Op_standsAt_16, rfl⟩
theorem b_Op_standsAt_17 : mj_Ch zG ("StreamWatch$Option", "standsAt", c_Op_standsAt, 5) 17 [x_iload 3, x_aload 0, x_getf 4 4] 22 := ⟨_, i_Op_standsAt_17, _, i_Op_standsAt_18, _, i_Op_standsAt_19, rfl⟩
theorem b_Op_standsAt_25 : mj_Ch zG ("StreamWatch$Option", "standsAt", c_Op_standsAt, 5) 25 [x_aload 0, x_getf 4 5, x_const 8, x_aload 0, x_getf 4 4, x_const 1, x_isub, x_iload 3, x_isub, x_imul, x_lushr, x_l2i, x_const 255, x_iand, x_istore 4, x_aload 0, x_aload 2, x_iload 1, x_iload 3, x_iadd] 53 := ⟨_, i_Op_standsAt_25, _, i_Op_standsAt_26, _, i_Op_standsAt_29, _, i_Op_standsAt_31, _, i_Op_standsAt_32, _, i_Op_standsAt_35, _, i_Op_standsAt_36, _, i_Op_standsAt_37, _, i_Op_standsAt_38, _, i_Op_standsAt_39, _, i_Op_standsAt_40, _, i_Op_standsAt_41, _, i_Op_standsAt_42, _, i_Op_standsAt_45, _, i_Op_standsAt_46, _, i_Op_standsAt_48, _, i_Op_standsAt_49, _, i_Op_standsAt_50, _, i_Op_standsAt_51, _, i_Op_standsAt_52, rfl⟩
theorem b_Op_standsAt_59 : mj_Ch zG ("StreamWatch$Option", "standsAt", c_Op_standsAt, 5) 59 [x_aload 0, x_iload 4] 62 := ⟨_, i_Op_standsAt_59, _, i_Op_standsAt_60, rfl⟩
theorem b_Op_standsAt_68 : mj_Ch zG ("StreamWatch$Option", "standsAt", c_Op_standsAt, 5) 68 [x_const 0] 69 := ⟨_, i_Op_standsAt_68, rfl⟩
theorem b_Op_standsAt_70 : mj_Ch zG ("StreamWatch$Option", "standsAt", c_Op_standsAt, 5) 70 [x_iinc 3 1, x_skip] 17 := ⟨_, i_Op_standsAt_70, _, i_Op_standsAt_73, rfl⟩
theorem b_Op_standsAt_76 : mj_Ch zG ("StreamWatch$Option", "standsAt", c_Op_standsAt, 5) 76 [x_const 1] 77 := ⟨_, i_Op_standsAt_76, rfl⟩
theorem i_Op_folded_0 : mj_Snd zG ("StreamWatch$Option", "folded", c_Op_folded, 2) 0 (x_aload 0) 1 := mj_aload_n (j := 0) rfl (by decide +kernel)
theorem i_Op_folded_1 : mj_Snd zG ("StreamWatch$Option", "folded", c_Op_folded, 2) 1 (x_getf 4 6) 4 := mj_getf (T := T_Op) rfl (by decide) u_Op z4_39 (by decide +kernel)
theorem d_Op_folded_4 : decode c_Op_folded 4 = .ok (.ifCond .eq 25, 3) := by decide +kernel
theorem i_Op_folded_7 : mj_Snd zG ("StreamWatch$Option", "folded", c_Op_folded, 2) 7 (x_iload 1) 8 := mj_iload_n (j := 1) rfl (by decide +kernel)
theorem i_Op_folded_8 : mj_Snd zG ("StreamWatch$Option", "folded", c_Op_folded, 2) 8 (x_const 65) 10 := mj_bipush (n := 65) (by decide) (by decide +kernel)
theorem d_Op_folded_10 : decode c_Op_folded 10 = .ok (.if_icmp .lt 19, 3) := by decide +kernel
theorem i_Op_folded_13 : mj_Snd zG ("StreamWatch$Option", "folded", c_Op_folded, 2) 13 (x_iload 1) 14 := mj_iload_n (j := 1) rfl (by decide +kernel)
theorem i_Op_folded_14 : mj_Snd zG ("StreamWatch$Option", "folded", c_Op_folded, 2) 14 (x_const 90) 16 := mj_bipush (n := 90) (by decide) (by decide +kernel)
theorem d_Op_folded_16 : decode c_Op_folded 16 = .ok (.if_icmp .gt 13, 3) := by decide +kernel
theorem i_Op_folded_19 : mj_Snd zG ("StreamWatch$Option", "folded", c_Op_folded, 2) 19 (x_iload 1) 20 := mj_iload_n (j := 1) rfl (by decide +kernel)
theorem i_Op_folded_20 : mj_Snd zG ("StreamWatch$Option", "folded", c_Op_folded, 2) 20 (x_const 65) 22 := mj_bipush (n := 65) (by decide) (by decide +kernel)
theorem i_Op_folded_22 : mj_Snd zG ("StreamWatch$Option", "folded", c_Op_folded, 2) 22 (x_isub) 23 := mj_isub (by decide +kernel)
theorem i_Op_folded_23 : mj_Snd zG ("StreamWatch$Option", "folded", c_Op_folded, 2) 23 (x_const 97) 25 := mj_bipush (n := 97) (by decide) (by decide +kernel)
theorem i_Op_folded_25 : mj_Snd zG ("StreamWatch$Option", "folded", c_Op_folded, 2) 25 (x_iadd) 26 := mj_iadd (by decide +kernel)
theorem i_Op_folded_26 : mj_Snd zG ("StreamWatch$Option", "folded", c_Op_folded, 2) 26 (x_skip) 30 := mj_goto (off := 4) (by decide) (by decide +kernel)
theorem i_Op_folded_29 : mj_Snd zG ("StreamWatch$Option", "folded", c_Op_folded, 2) 29 (x_iload 1) 30 := mj_iload_n (j := 1) rfl (by decide +kernel)
theorem d_Op_folded_30 : decode c_Op_folded 30 = .ok (.ireturn, 1) := by decide +kernel
theorem b_Op_folded_0 : mj_Ch zG ("StreamWatch$Option", "folded", c_Op_folded, 2) 0 [x_aload 0, x_getf 4 6] 4 := ⟨_, i_Op_folded_0, _, i_Op_folded_1, rfl⟩
theorem b_Op_folded_7 : mj_Ch zG ("StreamWatch$Option", "folded", c_Op_folded, 2) 7 [x_iload 1, x_const 65] 10 := ⟨_, i_Op_folded_7, _, i_Op_folded_8, rfl⟩
theorem b_Op_folded_13 : mj_Ch zG ("StreamWatch$Option", "folded", c_Op_folded, 2) 13 [x_iload 1, x_const 90] 16 := ⟨_, i_Op_folded_13, _, i_Op_folded_14, rfl⟩
theorem b_Op_folded_19 : mj_Ch zG ("StreamWatch$Option", "folded", c_Op_folded, 2) 19 [x_iload 1, x_const 65, x_isub, x_const 97, x_iadd, x_skip] 30 := ⟨_, i_Op_folded_19, _, i_Op_folded_20, _, i_Op_folded_22, _, i_Op_folded_23, _, i_Op_folded_25, _, i_Op_folded_26, rfl⟩
theorem b_Op_folded_29 : mj_Ch zG ("StreamWatch$Option", "folded", c_Op_folded, 2) 29 [x_iload 1] 30 := ⟨_, i_Op_folded_29, rfl⟩
end
section
theorem i_Pk_init_0 : mj_Snd zG ("StreamWatch$Packet", "<init>", c_Pk_init, 1) 0 (x_aload 0) 1 := mj_aload_n (j := 0) rfl (by decide +kernel)
theorem d_Pk_init_1 : decode c_Pk_init 1 = .ok (.invokespecial 3, 3) := by decide +kernel
theorem i_Pk_init_4 : mj_Snd zG ("StreamWatch$Packet", "<init>", c_Pk_init, 1) 4 (x_aload 0) 5 := mj_aload_n (j := 0) rfl (by decide +kernel)
theorem i_Pk_init_5 : mj_Snd zG ("StreamWatch$Packet", "<init>", c_Pk_init, 1) 5 (x_const 0) 6 := mj_const (n := 0) (by decide) (by decide +kernel)
theorem i_Pk_init_6 : mj_Snd zG ("StreamWatch$Packet", "<init>", c_Pk_init, 1) 6 (x_putf 5 0 0) 9 := mj_putG (T := T_Pk) (ty0 := t_Pk) rfl (by decide) u_Pk t_Pk_ok n_Pk z1_47 (Or.inl rfl) (by decide +kernel)
theorem i_Pk_init_9 : mj_Snd zG ("StreamWatch$Packet", "<init>", c_Pk_init, 1) 9 (x_aload 0) 10 := mj_aload_n (j := 0) rfl (by decide +kernel)
theorem i_Pk_init_10 : mj_Snd zG ("StreamWatch$Packet", "<init>", c_Pk_init, 1) 10 (x_const 0) 11 := mj_const (n := 0) (by decide) (by decide +kernel)
theorem i_Pk_init_11 : mj_Snd zG ("StreamWatch$Packet", "<init>", c_Pk_init, 1) 11 (x_putf 5 1 0) 14 := mj_putG (T := T_Pk) (ty0 := t_Pk) rfl (by decide) u_Pk t_Pk_ok n_Pk z1_49 (Or.inl rfl) (by decide +kernel)
theorem i_Pk_init_14 : mj_Snd zG ("StreamWatch$Packet", "<init>", c_Pk_init, 1) 14 (x_aload 0) 15 := mj_aload_n (j := 0) rfl (by decide +kernel)
theorem i_Pk_init_15 : mj_Snd zG ("StreamWatch$Packet", "<init>", c_Pk_init, 1) 15 (x_const 0) 16 := mj_const (n := 0) (by decide) (by decide +kernel)
theorem i_Pk_init_16 : mj_Snd zG ("StreamWatch$Packet", "<init>", c_Pk_init, 1) 16 (x_putf 5 2 0) 19 := mj_putG (T := T_Pk) (ty0 := t_Pk) rfl (by decide) u_Pk t_Pk_ok n_Pk z1_51 (Or.inl rfl) (by decide +kernel)
theorem i_Pk_init_19 : mj_Snd zG ("StreamWatch$Packet", "<init>", c_Pk_init, 1) 19 (x_aload 0) 20 := mj_aload_n (j := 0) rfl (by decide +kernel)
theorem i_Pk_init_20 : mj_Snd zG ("StreamWatch$Packet", "<init>", c_Pk_init, 1) 20 (x_const 0) 21 := mj_const (n := 0) (by decide) (by decide +kernel)
theorem i_Pk_init_21 : mj_Snd zG ("StreamWatch$Packet", "<init>", c_Pk_init, 1) 21 (x_putf 5 3 0) 24 := mj_putG (T := T_Pk) (ty0 := t_Pk) rfl (by decide) u_Pk t_Pk_ok n_Pk z1_53 (Or.inl rfl) (by decide +kernel)
theorem i_Pk_init_24 : mj_Snd zG ("StreamWatch$Packet", "<init>", c_Pk_init, 1) 24 (x_aload 0) 25 := mj_aload_n (j := 0) rfl (by decide +kernel)
theorem i_Pk_init_25 : mj_Snd zG ("StreamWatch$Packet", "<init>", c_Pk_init, 1) 25 (x_const 0) 26 := mj_const (n := 0) (by decide) (by decide +kernel)
theorem i_Pk_init_26 : mj_Snd zG ("StreamWatch$Packet", "<init>", c_Pk_init, 1) 26 (x_putf 5 4 0) 29 := mj_putG (T := T_Pk) (ty0 := t_Pk) rfl (by decide) u_Pk t_Pk_ok n_Pk z1_55 (Or.inl rfl) (by decide +kernel)
theorem i_Pk_init_29 : mj_Snd zG ("StreamWatch$Packet", "<init>", c_Pk_init, 1) 29 (x_aload 0) 30 := mj_aload_n (j := 0) rfl (by decide +kernel)
theorem i_Pk_init_30 : mj_Snd zG ("StreamWatch$Packet", "<init>", c_Pk_init, 1) 30 (x_const 0) 31 := mj_const (n := 0) (by decide) (by decide +kernel)
theorem i_Pk_init_31 : mj_Snd zG ("StreamWatch$Packet", "<init>", c_Pk_init, 1) 31 (x_putf 5 5 0) 34 := mj_putG (T := T_Pk) (ty0 := t_Pk) rfl (by decide) u_Pk t_Pk_ok n_Pk z1_57 (Or.inl rfl) (by decide +kernel)
theorem i_Pk_init_34 : mj_Snd zG ("StreamWatch$Packet", "<init>", c_Pk_init, 1) 34 (x_aload 0) 35 := mj_aload_n (j := 0) rfl (by decide +kernel)
theorem i_Pk_init_35 : mj_Snd zG ("StreamWatch$Packet", "<init>", c_Pk_init, 1) 35 (x_const 0) 36 := mj_const (n := 0) (by decide) (by decide +kernel)
theorem i_Pk_init_36 : mj_Snd zG ("StreamWatch$Packet", "<init>", c_Pk_init, 1) 36 (x_putf 5 6 0) 39 := mj_putG (T := T_Pk) (ty0 := t_Pk) rfl (by decide) u_Pk t_Pk_ok n_Pk z1_59 (Or.inl rfl) (by decide +kernel)
theorem i_Pk_init_39 : mj_Snd zG ("StreamWatch$Packet", "<init>", c_Pk_init, 1) 39 (x_aload 0) 40 := mj_aload_n (j := 0) rfl (by decide +kernel)
theorem i_Pk_init_40 : mj_Snd zG ("StreamWatch$Packet", "<init>", c_Pk_init, 1) 40 (x_const 0) 41 := mj_const (n := 0) (by decide) (by decide +kernel)
theorem i_Pk_init_41 : mj_Snd zG ("StreamWatch$Packet", "<init>", c_Pk_init, 1) 41 (x_putf 5 7 0) 44 := mj_putG (T := T_Pk) (ty0 := t_Pk) rfl (by decide) u_Pk t_Pk_ok n_Pk z1_61 (Or.inl rfl) (by decide +kernel)
theorem d_Pk_init_44 : decode c_Pk_init 44 = .ok (.return_, 1) := by decide +kernel
theorem b_Pk_init_0 : mj_Ch zG ("StreamWatch$Packet", "<init>", c_Pk_init, 1) 0 [x_aload 0] 1 := ⟨_, i_Pk_init_0, rfl⟩
theorem b_Pk_init_4 : mj_Ch zG ("StreamWatch$Packet", "<init>", c_Pk_init, 1) 4 [x_aload 0, x_const 0, x_putf 5 0 0, x_aload 0, x_const 0, x_putf 5 1 0, x_aload 0, x_const 0, x_putf 5 2 0, x_aload 0, x_const 0, x_putf 5 3 0, x_aload 0, x_const 0, x_putf 5 4 0, x_aload 0, x_const 0, x_putf 5 5 0, x_aload 0, x_const 0, x_putf 5 6 0, x_aload 0, x_const 0, x_putf 5 7 0] 44 := ⟨_, i_Pk_init_4, _, i_Pk_init_5, _, i_Pk_init_6, _, i_Pk_init_9, _, i_Pk_init_10, _, i_Pk_init_11, _, i_Pk_init_14, _, i_Pk_init_15, _, i_Pk_init_16, _, i_Pk_init_19, _, i_Pk_init_20, _, i_Pk_init_21, _, i_Pk_init_24, _, i_Pk_init_25, _, i_Pk_init_26, _, i_Pk_init_29, _, i_Pk_init_30, _, i_Pk_init_31, _, i_Pk_init_34, _, i_Pk_init_35, _, i_Pk_init_36, _, i_Pk_init_39, _, i_Pk_init_40, _, i_Pk_init_41, rfl⟩
theorem i_Pk_read_0 : mj_Snd zG ("StreamWatch$Packet", "read", c_Pk_read, 3) 0 (x_aload 1) 1 := mj_aload_n (j := 1) rfl (by decide +kernel)
theorem d_Pk_read_1 : decode c_Pk_read 1 = .ok (.invokevirtual 36, 3) := by decide +kernel
theorem i_Pk_read_4 : mj_Snd zG ("StreamWatch$Packet", "read", c_Pk_read, 3) 4 (x_istore 2) 5 := mj_istore_n (j := 2) rfl (by decide) (by decide +kernel)
theorem i_Pk_read_5 : mj_Snd zG ("StreamWatch$Packet", "read", c_Pk_read, 3) 5 (x_aload 0) 6 := mj_aload_n (j := 0) rfl (by decide +kernel)
theorem i_Pk_read_6 : mj_Snd zG ("StreamWatch$Packet", "read", c_Pk_read, 3) 6 (x_aload 1) 7 := mj_aload_n (j := 1) rfl (by decide +kernel)
theorem i_Pk_read_7 : mj_Snd zG ("StreamWatch$Packet", "read", c_Pk_read, 3) 7 (x_const 12) 9 := mj_bipush (n := 12) (by decide) (by decide +kernel)
theorem d_Pk_read_9 : decode c_Pk_read 9 = .ok (.invokevirtual 42, 3) := by decide +kernel
theorem i_Pk_read_12 : mj_Snd zG ("StreamWatch$Packet", "read", c_Pk_read, 3) 12 (x_putf 5 0 0) 15 := mj_putG (T := T_Pk) (ty0 := t_Pk) rfl (by decide) u_Pk t_Pk_ok n_Pk z1_47 (Or.inl rfl) (by decide +kernel)
theorem i_Pk_read_15 : mj_Snd zG ("StreamWatch$Packet", "read", c_Pk_read, 3) 15 (x_aload 0) 16 := mj_aload_n (j := 0) rfl (by decide +kernel)
theorem i_Pk_read_16 : mj_Snd zG ("StreamWatch$Packet", "read", c_Pk_read, 3) 16 (x_aload 1) 17 := mj_aload_n (j := 1) rfl (by decide +kernel)
theorem i_Pk_read_17 : mj_Snd zG ("StreamWatch$Packet", "read", c_Pk_read, 3) 17 (x_const 16) 19 := mj_bipush (n := 16) (by decide) (by decide +kernel)
theorem d_Pk_read_19 : decode c_Pk_read 19 = .ok (.invokevirtual 42, 3) := by decide +kernel
theorem i_Pk_read_22 : mj_Snd zG ("StreamWatch$Packet", "read", c_Pk_read, 3) 22 (x_putf 5 2 0) 25 := mj_putG (T := T_Pk) (ty0 := t_Pk) rfl (by decide) u_Pk t_Pk_ok n_Pk z1_51 (Or.inl rfl) (by decide +kernel)
theorem i_Pk_read_25 : mj_Snd zG ("StreamWatch$Packet", "read", c_Pk_read, 3) 25 (x_aload 0) 26 := mj_aload_n (j := 0) rfl (by decide +kernel)
theorem i_Pk_read_26 : mj_Snd zG ("StreamWatch$Packet", "read", c_Pk_read, 3) 26 (x_aload 1) 27 := mj_aload_n (j := 1) rfl (by decide +kernel)
theorem i_Pk_read_27 : mj_Snd zG ("StreamWatch$Packet", "read", c_Pk_read, 3) 27 (x_iload 2) 28 := mj_iload_n (j := 2) rfl (by decide +kernel)
theorem d_Pk_read_28 : decode c_Pk_read 28 = .ok (.invokevirtual 46, 3) := by decide +kernel
theorem i_Pk_read_31 : mj_Snd zG ("StreamWatch$Packet", "read", c_Pk_read, 3) 31 (x_putf 5 1 0) 34 := mj_putG (T := T_Pk) (ty0 := t_Pk) rfl (by decide) u_Pk t_Pk_ok n_Pk z1_49 (Or.inl rfl) (by decide +kernel)
theorem i_Pk_read_34 : mj_Snd zG ("StreamWatch$Packet", "read", c_Pk_read, 3) 34 (x_aload 0) 35 := mj_aload_n (j := 0) rfl (by decide +kernel)
theorem i_Pk_read_35 : mj_Snd zG ("StreamWatch$Packet", "read", c_Pk_read, 3) 35 (x_aload 1) 36 := mj_aload_n (j := 1) rfl (by decide +kernel)
theorem i_Pk_read_36 : mj_Snd zG ("StreamWatch$Packet", "read", c_Pk_read, 3) 36 (x_iload 2) 37 := mj_iload_n (j := 2) rfl (by decide +kernel)
theorem i_Pk_read_37 : mj_Snd zG ("StreamWatch$Packet", "read", c_Pk_read, 3) 37 (x_const 2) 38 := mj_const (n := 2) (by decide) (by decide +kernel)
theorem i_Pk_read_38 : mj_Snd zG ("StreamWatch$Packet", "read", c_Pk_read, 3) 38 (x_iadd) 39 := mj_iadd (by decide +kernel)
theorem d_Pk_read_39 : decode c_Pk_read 39 = .ok (.invokevirtual 46, 3) := by decide +kernel
theorem i_Pk_read_42 : mj_Snd zG ("StreamWatch$Packet", "read", c_Pk_read, 3) 42 (x_putf 5 3 0) 45 := mj_putG (T := T_Pk) (ty0 := t_Pk) rfl (by decide) u_Pk t_Pk_ok n_Pk z1_53 (Or.inl rfl) (by decide +kernel)
theorem i_Pk_read_45 : mj_Snd zG ("StreamWatch$Packet", "read", c_Pk_read, 3) 45 (x_aload 0) 46 := mj_aload_n (j := 0) rfl (by decide +kernel)
theorem i_Pk_read_46 : mj_Snd zG ("StreamWatch$Packet", "read", c_Pk_read, 3) 46 (x_aload 1) 47 := mj_aload_n (j := 1) rfl (by decide +kernel)
theorem i_Pk_read_47 : mj_Snd zG ("StreamWatch$Packet", "read", c_Pk_read, 3) 47 (x_iload 2) 48 := mj_iload_n (j := 2) rfl (by decide +kernel)
theorem i_Pk_read_48 : mj_Snd zG ("StreamWatch$Packet", "read", c_Pk_read, 3) 48 (x_const 13) 50 := mj_bipush (n := 13) (by decide) (by decide +kernel)
theorem i_Pk_read_50 : mj_Snd zG ("StreamWatch$Packet", "read", c_Pk_read, 3) 50 (x_iadd) 51 := mj_iadd (by decide +kernel)
theorem d_Pk_read_51 : decode c_Pk_read 51 = .ok (.invokevirtual 49, 3) := by decide +kernel
theorem i_Pk_read_54 : mj_Snd zG ("StreamWatch$Packet", "read", c_Pk_read, 3) 54 (x_putf 5 7 0) 57 := mj_putG (T := T_Pk) (ty0 := t_Pk) rfl (by decide) u_Pk t_Pk_ok n_Pk z1_61 (Or.inl rfl) (by decide +kernel)
theorem i_Pk_read_57 : mj_Snd zG ("StreamWatch$Packet", "read", c_Pk_read, 3) 57 (x_aload 0) 58 := mj_aload_n (j := 0) rfl (by decide +kernel)
theorem i_Pk_read_58 : mj_Snd zG ("StreamWatch$Packet", "read", c_Pk_read, 3) 58 (x_aload 1) 59 := mj_aload_n (j := 1) rfl (by decide +kernel)
theorem i_Pk_read_59 : mj_Snd zG ("StreamWatch$Packet", "read", c_Pk_read, 3) 59 (x_iload 2) 60 := mj_iload_n (j := 2) rfl (by decide +kernel)
theorem i_Pk_read_60 : mj_Snd zG ("StreamWatch$Packet", "read", c_Pk_read, 3) 60 (x_const 4) 61 := mj_const (n := 4) (by decide) (by decide +kernel)
theorem i_Pk_read_61 : mj_Snd zG ("StreamWatch$Packet", "read", c_Pk_read, 3) 61 (x_iadd) 62 := mj_iadd (by decide +kernel)
theorem d_Pk_read_62 : decode c_Pk_read 62 = .ok (.invokevirtual 42, 3) := by decide +kernel
theorem i_Pk_read_65 : mj_Snd zG ("StreamWatch$Packet", "read", c_Pk_read, 3) 65 (x_aload 0) 66 := mj_aload_n (j := 0) rfl (by decide +kernel)
theorem i_Pk_read_66 : mj_Snd zG ("StreamWatch$Packet", "read", c_Pk_read, 3) 66 (x_const 2) 67 := mj_const (n := 2) (by decide) (by decide +kernel)
theorem d_Pk_read_67 : decode c_Pk_read 67 = .ok (.invokevirtual 52, 3) := by decide +kernel
theorem d_Pk_read_70 : decode c_Pk_read 70 = .ok (.ifCond .eq 7, 3) := by decide +kernel
theorem i_Pk_read_73 : mj_Snd zG ("StreamWatch$Packet", "read", c_Pk_read, 3) 73 (x_const 1) 74 := mj_const (n := 1) (by decide) (by decide +kernel)
theorem i_Pk_read_74 : mj_Snd zG ("StreamWatch$Packet", "read", c_Pk_read, 3) 74 (x_skip) 78 := mj_goto (off := 4) (by decide) (by decide +kernel)
theorem i_Pk_read_77 : mj_Snd zG ("StreamWatch$Packet", "read", c_Pk_read, 3) 77 (x_const 0) 78 := mj_const (n := 0) (by decide) (by decide +kernel)
theorem i_Pk_read_78 : mj_Snd zG ("StreamWatch$Packet", "read", c_Pk_read, 3) 78 (x_iadd) 79 := mj_iadd (by decide +kernel)
theorem i_Pk_read_79 : mj_Snd zG ("StreamWatch$Packet", "read", c_Pk_read, 3) 79 (x_putf 5 4 0) 82 := mj_putG (T := T_Pk) (ty0 := t_Pk) rfl (by decide) u_Pk t_Pk_ok n_Pk z1_55 (Or.inl rfl) (by decide +kernel)
theorem i_Pk_read_82 : mj_Snd zG ("StreamWatch$Packet", "read", c_Pk_read, 3) 82 (x_aload 0) 83 := mj_aload_n (j := 0) rfl (by decide +kernel)
theorem i_Pk_read_83 : mj_Snd zG ("StreamWatch$Packet", "read", c_Pk_read, 3) 83 (x_aload 1) 84 := mj_aload_n (j := 1) rfl (by decide +kernel)
theorem d_Pk_read_84 : decode c_Pk_read 84 = .ok (.invokevirtual 56, 3) := by decide +kernel
theorem i_Pk_read_87 : mj_Snd zG ("StreamWatch$Packet", "read", c_Pk_read, 3) 87 (x_putf 5 5 0) 90 := mj_putG (T := T_Pk) (ty0 := t_Pk) rfl (by decide) u_Pk t_Pk_ok n_Pk z1_57 (Or.inl rfl) (by decide +kernel)
theorem i_Pk_read_90 : mj_Snd zG ("StreamWatch$Packet", "read", c_Pk_read, 3) 90 (x_aload 0) 91 := mj_aload_n (j := 0) rfl (by decide +kernel)
theorem i_Pk_read_91 : mj_Snd zG ("StreamWatch$Packet", "read", c_Pk_read, 3) 91 (x_aload 1) 92 := mj_aload_n (j := 1) rfl (by decide +kernel)
theorem d_Pk_read_92 : decode c_Pk_read 92 = .ok (.invokevirtual 58, 3) := by decide +kernel
theorem i_Pk_read_95 : mj_Snd zG ("StreamWatch$Packet", "read", c_Pk_read, 3) 95 (x_aload 0) 96 := mj_aload_n (j := 0) rfl (by decide +kernel)
theorem i_Pk_read_96 : mj_Snd zG ("StreamWatch$Packet", "read", c_Pk_read, 3) 96 (x_getf 5 5) 99 := mj_getf (T := T_Pk) rfl (by decide) u_Pk z1_57 (by decide +kernel)
theorem i_Pk_read_99 : mj_Snd zG ("StreamWatch$Packet", "read", c_Pk_read, 3) 99 (x_isub) 100 := mj_isub (by decide +kernel)
theorem i_Pk_read_100 : mj_Snd zG ("StreamWatch$Packet", "read", c_Pk_read, 3) 100 (x_putf 5 6 0) 103 := mj_putG (T := T_Pk) (ty0 := t_Pk) rfl (by decide) u_Pk t_Pk_ok n_Pk z1_59 (Or.inl rfl) (by decide +kernel)
theorem d_Pk_read_103 : decode c_Pk_read 103 = .ok (.return_, 1) := by decide +kernel
theorem b_Pk_read_0 : mj_Ch zG ("StreamWatch$Packet", "read", c_Pk_read, 3) 0 [x_aload 1] 1 := ⟨_, i_Pk_read_0, rfl⟩
theorem b_Pk_read_4 : mj_Ch zG ("StreamWatch$Packet", "read", c_Pk_read, 3) 4 [x_istore 2, x_aload 0, x_aload 1, x_const 12] 9 := ⟨_, i_Pk_read_4, _, i_Pk_read_5, _, i_Pk_read_6, _, i_Pk_read_7, rfl⟩
theorem b_Pk_read_12 : mj_Ch zG ("StreamWatch$Packet", "read", c_Pk_read, 3) 12 [x_putf 5 0 0, x_aload 0, x_aload 1, x_const 16] 19 := ⟨_, i_Pk_read_12, _, i_Pk_read_15, _, i_Pk_read_16, _, i_Pk_read_17, rfl⟩
theorem b_Pk_read_22 : mj_Ch zG ("StreamWatch$Packet", "read", c_Pk_read, 3) 22 [x_putf 5 2 0, x_aload 0, x_aload 1, x_iload 2] 28 := ⟨_, i_Pk_read_22, _, i_Pk_read_25, _, i_Pk_read_26, _, i_Pk_read_27, rfl⟩
theorem b_Pk_read_31 : mj_Ch zG ("StreamWatch$Packet", "read", c_Pk_read, 3) 31 [x_putf 5 1 0, x_aload 0, x_aload 1, x_iload 2, x_const 2, x_iadd] 39 := ⟨_, i_Pk_read_31, _, i_Pk_read_34, _, i_Pk_read_35, _, i_Pk_read_36, _, i_Pk_read_37, _, i_Pk_read_38, rfl⟩
theorem b_Pk_read_42 : mj_Ch zG ("StreamWatch$Packet", "read", c_Pk_read, 3) 42 [x_putf 5 3 0, x_aload 0, x_aload 1, x_iload 2, x_const 13, x_iadd] 51 := ⟨_, i_Pk_read_42, _, i_Pk_read_45, _, i_Pk_read_46, _, i_Pk_read_47, _, i_Pk_read_48, _, i_Pk_read_50, rfl⟩
theorem b_Pk_read_54 : mj_Ch zG ("StreamWatch$Packet", "read", c_Pk_read, 3) 54 [x_putf 5 7 0, x_aload 0, x_aload 1, x_iload 2, x_const 4, x_iadd] 62 := ⟨_, i_Pk_read_54, _, i_Pk_read_57, _, i_Pk_read_58, _, i_Pk_read_59, _, i_Pk_read_60, _, i_Pk_read_61, rfl⟩
theorem b_Pk_read_65 : mj_Ch zG ("StreamWatch$Packet", "read", c_Pk_read, 3) 65 [x_aload 0, x_const 2] 67 := ⟨_, i_Pk_read_65, _, i_Pk_read_66, rfl⟩
theorem b_Pk_read_73 : mj_Ch zG ("StreamWatch$Packet", "read", c_Pk_read, 3) 73 [x_const 1, x_skip] 78 := ⟨_, i_Pk_read_73, _, i_Pk_read_74, rfl⟩
theorem b_Pk_read_77 : mj_Ch zG ("StreamWatch$Packet", "read", c_Pk_read, 3) 77 [x_const 0] 78 := ⟨_, i_Pk_read_77, rfl⟩
theorem b_Pk_read_78 : mj_Ch zG ("StreamWatch$Packet", "read", c_Pk_read, 3) 78 [x_iadd, x_putf 5 4 0, x_aload 0, x_aload 1] 84 := ⟨_, i_Pk_read_78, _, i_Pk_read_79, _, i_Pk_read_82, _, i_Pk_read_83, rfl⟩
theorem b_Pk_read_87 : mj_Ch zG ("StreamWatch$Packet", "read", c_Pk_read, 3) 87 [x_putf 5 5 0, x_aload 0, x_aload 1] 92 := ⟨_, i_Pk_read_87, _, i_Pk_read_90, _, i_Pk_read_91, rfl⟩
theorem b_Pk_read_95 : mj_Ch zG ("StreamWatch$Packet", "read", c_Pk_read, 3) 95 [x_aload 0, x_getf 5 5, x_isub, x_putf 5 6 0] 103 := ⟨_, i_Pk_read_95, _, i_Pk_read_96, _, i_Pk_read_99, _, i_Pk_read_100, rfl⟩
theorem i_Pk_hasFlag_0 : mj_Snd zG ("StreamWatch$Packet", "hasFlag", c_Pk_hasFlag, 2) 0 (x_aload 0) 1 := mj_aload_n (j := 0) rfl (by decide +kernel)
theorem i_Pk_hasFlag_1 : mj_Snd zG ("StreamWatch$Packet", "hasFlag", c_Pk_hasFlag, 2) 1 (x_getf 5 7) 4 := mj_getf (T := T_Pk) rfl (by decide) u_Pk z1_61 (by decide +kernel)
theorem i_Pk_hasFlag_4 : mj_Snd zG ("StreamWatch$Packet", "hasFlag", c_Pk_hasFlag, 2) 4 (x_iload 1) 5 := mj_iload_n (j := 1) rfl (by decide +kernel)
theorem i_Pk_hasFlag_5 : mj_Snd zG ("StreamWatch$Packet", "hasFlag", c_Pk_hasFlag, 2) 5 (x_iand) 6 := mj_iand (by decide +kernel)
theorem d_Pk_hasFlag_6 : decode c_Pk_hasFlag 6 = .ok (.ifCond .eq 7, 3) := by decide +kernel
theorem i_Pk_hasFlag_9 : mj_Snd zG ("StreamWatch$Packet", "hasFlag", c_Pk_hasFlag, 2) 9 (x_const 1) 10 := mj_const (n := 1) (by decide) (by decide +kernel)
theorem i_Pk_hasFlag_10 : mj_Snd zG ("StreamWatch$Packet", "hasFlag", c_Pk_hasFlag, 2) 10 (x_skip) 14 := mj_goto (off := 4) (by decide) (by decide +kernel)
theorem i_Pk_hasFlag_13 : mj_Snd zG ("StreamWatch$Packet", "hasFlag", c_Pk_hasFlag, 2) 13 (x_const 0) 14 := mj_const (n := 0) (by decide) (by decide +kernel)
theorem d_Pk_hasFlag_14 : decode c_Pk_hasFlag 14 = .ok (.ireturn, 1) := by decide +kernel
theorem b_Pk_hasFlag_0 : mj_Ch zG ("StreamWatch$Packet", "hasFlag", c_Pk_hasFlag, 2) 0 [x_aload 0, x_getf 5 7, x_iload 1, x_iand] 6 := ⟨_, i_Pk_hasFlag_0, _, i_Pk_hasFlag_1, _, i_Pk_hasFlag_4, _, i_Pk_hasFlag_5, rfl⟩
theorem b_Pk_hasFlag_9 : mj_Ch zG ("StreamWatch$Packet", "hasFlag", c_Pk_hasFlag, 2) 9 [x_const 1, x_skip] 14 := ⟨_, i_Pk_hasFlag_9, _, i_Pk_hasFlag_10, rfl⟩
theorem b_Pk_hasFlag_13 : mj_Ch zG ("StreamWatch$Packet", "hasFlag", c_Pk_hasFlag, 2) 13 [x_const 0] 14 := ⟨_, i_Pk_hasFlag_13, rfl⟩
end
section
theorem i_Ru_init_0 : mj_Snd zG ("StreamWatch$Rule", "<init>", c_Ru_init, 3) 0 (x_aload 0) 1 := mj_aload_n (j := 0) rfl (by decide +kernel)
theorem d_Ru_init_1 : decode c_Ru_init 1 = .ok (.invokespecial 3, 3) := by decide +kernel
theorem i_Ru_init_4 : mj_Snd zG ("StreamWatch$Rule", "<init>", c_Ru_init, 3) 4 (x_aload 0) 5 := mj_aload_n (j := 0) rfl (by decide +kernel)
theorem i_Ru_init_5 : mj_Snd zG ("StreamWatch$Rule", "<init>", c_Ru_init, 3) 5 (x_const 3) 6 := mj_const (n := 3) (by decide) (by decide +kernel)
theorem d_Ru_init_6 : decode c_Ru_init 6 = .ok (.anewarray 9, 3) := by decide +kernel
theorem i_Ru_init_9 : mj_Snd zG ("StreamWatch$Rule", "<init>", c_Ru_init, 3) 9 (x_putf 6 2 3) 12 := mj_putG (T := T_Ru) (ty0 := t_Ru) rfl (by decide) u_Ru t_Ru_ok n_Ru z3_238 (Or.inr ⟨rfl, rfl, rfl⟩) (by decide +kernel)
theorem i_Ru_init_12 : mj_Snd zG ("StreamWatch$Rule", "<init>", c_Ru_init, 3) 12 (x_aload 0) 13 := mj_aload_n (j := 0) rfl (by decide +kernel)
theorem i_Ru_init_13 : mj_Snd zG ("StreamWatch$Rule", "<init>", c_Ru_init, 3) 13 (x_const 0) 14 := mj_const (n := 0) (by decide) (by decide +kernel)
theorem i_Ru_init_14 : mj_Snd zG ("StreamWatch$Rule", "<init>", c_Ru_init, 3) 14 (x_putf 6 3 0) 17 := mj_putG (T := T_Ru) (ty0 := t_Ru) rfl (by decide) u_Ru t_Ru_ok n_Ru z3_239 (Or.inl rfl) (by decide +kernel)
theorem i_Ru_init_17 : mj_Snd zG ("StreamWatch$Rule", "<init>", c_Ru_init, 3) 17 (x_aload 0) 18 := mj_aload_n (j := 0) rfl (by decide +kernel)
theorem i_Ru_init_18 : mj_Snd zG ("StreamWatch$Rule", "<init>", c_Ru_init, 3) 18 (x_iload 1) 19 := mj_iload_n (j := 1) rfl (by decide +kernel)
theorem i_Ru_init_19 : mj_Snd zG ("StreamWatch$Rule", "<init>", c_Ru_init, 3) 19 (x_putf 6 0 0) 22 := mj_putG (T := T_Ru) (ty0 := t_Ru) rfl (by decide) u_Ru t_Ru_ok n_Ru z3_236 (Or.inr ⟨rfl, rfl, rfl⟩) (by decide +kernel)
theorem i_Ru_init_22 : mj_Snd zG ("StreamWatch$Rule", "<init>", c_Ru_init, 3) 22 (x_aload 0) 23 := mj_aload_n (j := 0) rfl (by decide +kernel)
theorem i_Ru_init_23 : mj_Snd zG ("StreamWatch$Rule", "<init>", c_Ru_init, 3) 23 (x_iload 2) 24 := mj_iload_n (j := 2) rfl (by decide +kernel)
theorem i_Ru_init_24 : mj_Snd zG ("StreamWatch$Rule", "<init>", c_Ru_init, 3) 24 (x_putf 6 1 0) 27 := mj_putG (T := T_Ru) (ty0 := t_Ru) rfl (by decide) u_Ru t_Ru_ok n_Ru z3_237 (Or.inr ⟨rfl, rfl, rfl⟩) (by decide +kernel)
theorem d_Ru_init_27 : decode c_Ru_init 27 = .ok (.return_, 1) := by decide +kernel
theorem b_Ru_init_0 : mj_Ch zG ("StreamWatch$Rule", "<init>", c_Ru_init, 3) 0 [x_aload 0] 1 := ⟨_, i_Ru_init_0, rfl⟩
theorem b_Ru_init_4 : mj_Ch zG ("StreamWatch$Rule", "<init>", c_Ru_init, 3) 4 [x_aload 0, x_const 3] 6 := ⟨_, i_Ru_init_4, _, i_Ru_init_5, rfl⟩
theorem b_Ru_init_9 : mj_Ch zG ("StreamWatch$Rule", "<init>", c_Ru_init, 3) 9 [x_putf 6 2 3, x_aload 0, x_const 0, x_putf 6 3 0, x_aload 0, x_iload 1, x_putf 6 0 0, x_aload 0, x_iload 2, x_putf 6 1 0] 27 := ⟨_, i_Ru_init_9, _, i_Ru_init_12, _, i_Ru_init_13, _, i_Ru_init_14, _, i_Ru_init_17, _, i_Ru_init_18, _, i_Ru_init_19, _, i_Ru_init_22, _, i_Ru_init_23, _, i_Ru_init_24, rfl⟩
theorem i_Ru_size_0 : mj_Snd zG ("StreamWatch$Rule", "size", c_Ru_size, 1) 0 (x_aload 0) 1 := mj_aload_n (j := 0) rfl (by decide +kernel)
theorem i_Ru_size_1 : mj_Snd zG ("StreamWatch$Rule", "size", c_Ru_size, 1) 1 (x_getf 6 3) 4 := mj_getf (T := T_Ru) rfl (by decide) u_Ru z3_239 (by decide +kernel)
theorem d_Ru_size_4 : decode c_Ru_size 4 = .ok (.ireturn, 1) := by decide +kernel
theorem b_Ru_size_0 : mj_Ch zG ("StreamWatch$Rule", "size", c_Ru_size, 1) 0 [x_aload 0, x_getf 6 3] 4 := ⟨_, i_Ru_size_0, _, i_Ru_size_1, rfl⟩
theorem i_Ru_add_0 : mj_Snd zG ("StreamWatch$Rule", "add", c_Ru_add, 2) 0 (x_aload 0) 1 := mj_aload_n (j := 0) rfl (by decide +kernel)
theorem i_Ru_add_1 : mj_Snd zG ("StreamWatch$Rule", "add", c_Ru_add, 2) 1 (x_getf 6 3) 4 := mj_getf (T := T_Ru) rfl (by decide) u_Ru z3_239 (by decide +kernel)
theorem i_Ru_add_4 : mj_Snd zG ("StreamWatch$Rule", "add", c_Ru_add, 2) 4 (x_const 3) 5 := mj_const (n := 3) (by decide) (by decide +kernel)
theorem d_Ru_add_5 : decode c_Ru_add 5 = .ok (.if_icmp .ge 23, 3) := by decide +kernel
theorem i_Ru_add_8 : mj_Snd zG ("StreamWatch$Rule", "add", c_Ru_add, 2) 8 (x_aload 0) 9 := mj_aload_n (j := 0) rfl (by decide +kernel)
theorem i_Ru_add_9 : mj_Snd zG ("StreamWatch$Rule", "add", c_Ru_add, 2) 9 (x_getf 6 2) 12 := mj_getf (T := T_Ru) rfl (by decide) u_Ru z3_238 (by decide +kernel)
theorem i_Ru_add_12 : mj_Snd zG ("StreamWatch$Rule", "add", c_Ru_add, 2) 12 (x_aload 0) 13 := mj_aload_n (j := 0) rfl (by decide +kernel)
theorem i_Ru_add_13 : mj_Snd zG ("StreamWatch$Rule", "add", c_Ru_add, 2) 13 (x_getf 6 3) 16 := mj_getf (T := T_Ru) rfl (by decide) u_Ru z3_239 (by decide +kernel)
theorem i_Ru_add_16 : mj_Snd zG ("StreamWatch$Rule", "add", c_Ru_add, 2) 16 (x_aload 1) 17 := mj_aload_n (j := 1) rfl (by decide +kernel)
theorem d_Ru_add_17 : decode c_Ru_add 17 = .ok (.aastore, 1) := by decide +kernel
theorem i_Ru_add_18 : mj_Snd zG ("StreamWatch$Rule", "add", c_Ru_add, 2) 18 (x_aload 0) 19 := mj_aload_n (j := 0) rfl (by decide +kernel)
theorem i_Ru_add_19 : mj_Snd zG ("StreamWatch$Rule", "add", c_Ru_add, 2) 19 (x_dup) 20 := mj_dup (by decide +kernel)
theorem i_Ru_add_20 : mj_Snd zG ("StreamWatch$Rule", "add", c_Ru_add, 2) 20 (x_getf 6 3) 23 := mj_getf (T := T_Ru) rfl (by decide) u_Ru z3_239 (by decide +kernel)
theorem i_Ru_add_23 : mj_Snd zG ("StreamWatch$Rule", "add", c_Ru_add, 2) 23 (x_const 1) 24 := mj_const (n := 1) (by decide) (by decide +kernel)
theorem i_Ru_add_24 : mj_Snd zG ("StreamWatch$Rule", "add", c_Ru_add, 2) 24 (x_iadd) 25 := mj_iadd (by decide +kernel)
theorem i_Ru_add_25 : mj_Snd zG ("StreamWatch$Rule", "add", c_Ru_add, 2) 25 (x_putf 6 3 0) 28 := mj_putG (T := T_Ru) (ty0 := t_Ru) rfl (by decide) u_Ru t_Ru_ok n_Ru z3_239 (Or.inl rfl) (by decide +kernel)
theorem d_Ru_add_28 : decode c_Ru_add 28 = .ok (.return_, 1) := by decide +kernel
theorem b_Ru_add_0 : mj_Ch zG ("StreamWatch$Rule", "add", c_Ru_add, 2) 0 [x_aload 0, x_getf 6 3, x_const 3] 5 := ⟨_, i_Ru_add_0, _, i_Ru_add_1, _, i_Ru_add_4, rfl⟩
theorem b_Ru_add_8 : mj_Ch zG ("StreamWatch$Rule", "add", c_Ru_add, 2) 8 [x_aload 0, x_getf 6 2, x_aload 0, x_getf 6 3, x_aload 1] 17 := ⟨_, i_Ru_add_8, _, i_Ru_add_9, _, i_Ru_add_12, _, i_Ru_add_13, _, i_Ru_add_16, rfl⟩
theorem b_Ru_add_18 : mj_Ch zG ("StreamWatch$Rule", "add", c_Ru_add, 2) 18 [x_aload 0, x_dup, x_getf 6 3, x_const 1, x_iadd, x_putf 6 3 0] 28 := ⟨_, i_Ru_add_18, _, i_Ru_add_19, _, i_Ru_add_20, _, i_Ru_add_23, _, i_Ru_add_24, _, i_Ru_add_25, rfl⟩
theorem i_Ru_at_0 : mj_Snd zG ("StreamWatch$Rule", "at", c_Ru_at, 2) 0 (x_iload 1) 1 := mj_iload_n (j := 1) rfl (by decide +kernel)
theorem d_Ru_at_1 : decode c_Ru_at 1 = .ok (.ifCond .lt 20, 3) := by decide +kernel
theorem i_Ru_at_4 : mj_Snd zG ("StreamWatch$Rule", "at", c_Ru_at, 2) 4 (x_iload 1) 5 := mj_iload_n (j := 1) rfl (by decide +kernel)
theorem i_Ru_at_5 : mj_Snd zG ("StreamWatch$Rule", "at", c_Ru_at, 2) 5 (x_aload 0) 6 := mj_aload_n (j := 0) rfl (by decide +kernel)
theorem i_Ru_at_6 : mj_Snd zG ("StreamWatch$Rule", "at", c_Ru_at, 2) 6 (x_getf 6 3) 9 := mj_getf (T := T_Ru) rfl (by decide) u_Ru z3_239 (by decide +kernel)
theorem d_Ru_at_9 : decode c_Ru_at 9 = .ok (.if_icmp .ge 12, 3) := by decide +kernel
theorem i_Ru_at_12 : mj_Snd zG ("StreamWatch$Rule", "at", c_Ru_at, 2) 12 (x_aload 0) 13 := mj_aload_n (j := 0) rfl (by decide +kernel)
theorem i_Ru_at_13 : mj_Snd zG ("StreamWatch$Rule", "at", c_Ru_at, 2) 13 (x_getf 6 2) 16 := mj_getf (T := T_Ru) rfl (by decide) u_Ru z3_238 (by decide +kernel)
theorem i_Ru_at_16 : mj_Snd zG ("StreamWatch$Rule", "at", c_Ru_at, 2) 16 (x_iload 1) 17 := mj_iload_n (j := 1) rfl (by decide +kernel)
theorem i_Ru_at_17 : mj_Snd zG ("StreamWatch$Rule", "at", c_Ru_at, 2) 17 (x_aald 5) 18 := mj_aald rfl (by decide +kernel)
theorem i_Ru_at_18 : mj_Snd zG ("StreamWatch$Rule", "at", c_Ru_at, 2) 18 (x_skip) 22 := mj_goto (off := 4) (by decide) (by decide +kernel)
theorem i_Ru_at_21 : mj_Snd zG ("StreamWatch$Rule", "at", c_Ru_at, 2) 21 (x_null) 22 := mj_null (by decide +kernel)
theorem d_Ru_at_22 : decode c_Ru_at 22 = .ok (.areturn, 1) := by decide +kernel
theorem b_Ru_at_0 : mj_Ch zG ("StreamWatch$Rule", "at", c_Ru_at, 2) 0 [x_iload 1] 1 := ⟨_, i_Ru_at_0, rfl⟩
theorem b_Ru_at_4 : mj_Ch zG ("StreamWatch$Rule", "at", c_Ru_at, 2) 4 [x_iload 1, x_aload 0, x_getf 6 3] 9 := ⟨_, i_Ru_at_4, _, i_Ru_at_5, _, i_Ru_at_6, rfl⟩
theorem b_Ru_at_12 : mj_Ch zG ("StreamWatch$Rule", "at", c_Ru_at, 2) 12 [x_aload 0, x_getf 6 2, x_iload 1, x_aald 5, x_skip] 22 := ⟨_, i_Ru_at_12, _, i_Ru_at_13, _, i_Ru_at_16, _, i_Ru_at_17, _, i_Ru_at_18, rfl⟩
theorem b_Ru_at_21 : mj_Ch zG ("StreamWatch$Rule", "at", c_Ru_at, 2) 21 [x_null] 22 := ⟨_, i_Ru_at_21, rfl⟩
theorem i_Ru_isFor_0 : mj_Snd zG ("StreamWatch$Rule", "isFor", c_Ru_isFor, 4) 0 (x_aload 0) 1 := mj_aload_n (j := 0) rfl (by decide +kernel)
theorem i_Ru_isFor_1 : mj_Snd zG ("StreamWatch$Rule", "isFor", c_Ru_isFor, 4) 1 (x_getf 6 0) 4 := mj_getf (T := T_Ru) rfl (by decide) u_Ru z3_236 (by decide +kernel)
theorem i_Ru_isFor_4 : mj_Snd zG ("StreamWatch$Rule", "isFor", c_Ru_isFor, 4) 4 (x_const 2) 5 := mj_const (n := 2) (by decide) (by decide +kernel)
theorem d_Ru_isFor_5 : decode c_Ru_isFor 5 = .ok (.if_icmp .eq 11, 3) := by decide +kernel
theorem i_Ru_isFor_8 : mj_Snd zG ("StreamWatch$Rule", "isFor", c_Ru_isFor, 4) 8 (x_aload 0) 9 := mj_aload_n (j := 0) rfl (by decide +kernel)
theorem i_Ru_isFor_9 : mj_Snd zG ("StreamWatch$Rule", "isFor", c_Ru_isFor, 4) 9 (x_getf 6 0) 12 := mj_getf (T := T_Ru) rfl (by decide) u_Ru z3_236 (by decide +kernel)
theorem i_Ru_isFor_12 : mj_Snd zG ("StreamWatch$Rule", "isFor", c_Ru_isFor, 4) 12 (x_iload 1) 13 := mj_iload_n (j := 1) rfl (by decide +kernel)
theorem d_Ru_isFor_13 : decode c_Ru_isFor 13 = .ok (.if_icmp .ne 7, 3) := by decide +kernel
theorem i_Ru_isFor_16 : mj_Snd zG ("StreamWatch$Rule", "isFor", c_Ru_isFor, 4) 16 (x_const 1) 17 := mj_const (n := 1) (by decide) (by decide +kernel)
theorem i_Ru_isFor_17 : mj_Snd zG ("StreamWatch$Rule", "isFor", c_Ru_isFor, 4) 17 (x_skip) 21 := mj_goto (off := 4) (by decide) (by decide +kernel)
theorem i_Ru_isFor_20 : mj_Snd zG ("StreamWatch$Rule", "isFor", c_Ru_isFor, 4) 20 (x_const 0) 21 := mj_const (n := 0) (by decide) (by decide +kernel)
theorem i_Ru_isFor_21 : mj_Snd zG ("StreamWatch$Rule", "isFor", c_Ru_isFor, 4) 21 (x_istore 3) 22 := mj_istore_n (j := 3) rfl (by decide) (by decide +kernel)
theorem i_Ru_isFor_22 : mj_Snd zG ("StreamWatch$Rule", "isFor", c_Ru_isFor, 4) 22 (x_iload 3) 23 := mj_iload_n (j := 3) rfl (by decide +kernel)
theorem d_Ru_isFor_23 : decode c_Ru_isFor 23 = .ok (.ifCond .eq 22, 3) := by decide +kernel
theorem i_Ru_isFor_26 : mj_Snd zG ("StreamWatch$Rule", "isFor", c_Ru_isFor, 4) 26 (x_aload 0) 27 := mj_aload_n (j := 0) rfl (by decide +kernel)
theorem i_Ru_isFor_27 : mj_Snd zG ("StreamWatch$Rule", "isFor", c_Ru_isFor, 4) 27 (x_getf 6 1) 30 := mj_getf (T := T_Ru) rfl (by decide) u_Ru z3_237 (by decide +kernel)
theorem d_Ru_isFor_30 : decode c_Ru_isFor 30 = .ok (.ifCond .eq 11, 3) := by decide +kernel
theorem i_Ru_isFor_33 : mj_Snd zG ("StreamWatch$Rule", "isFor", c_Ru_isFor, 4) 33 (x_aload 0) 34 := mj_aload_n (j := 0) rfl (by decide +kernel)
theorem i_Ru_isFor_34 : mj_Snd zG ("StreamWatch$Rule", "isFor", c_Ru_isFor, 4) 34 (x_getf 6 1) 37 := mj_getf (T := T_Ru) rfl (by decide) u_Ru z3_237 (by decide +kernel)
theorem i_Ru_isFor_37 : mj_Snd zG ("StreamWatch$Rule", "isFor", c_Ru_isFor, 4) 37 (x_iload 2) 38 := mj_iload_n (j := 2) rfl (by decide +kernel)
theorem d_Ru_isFor_38 : decode c_Ru_isFor 38 = .ok (.if_icmp .ne 7, 3) := by decide +kernel
theorem i_Ru_isFor_41 : mj_Snd zG ("StreamWatch$Rule", "isFor", c_Ru_isFor, 4) 41 (x_const 1) 42 := mj_const (n := 1) (by decide) (by decide +kernel)
theorem i_Ru_isFor_42 : mj_Snd zG ("StreamWatch$Rule", "isFor", c_Ru_isFor, 4) 42 (x_skip) 46 := mj_goto (off := 4) (by decide) (by decide +kernel)
theorem i_Ru_isFor_45 : mj_Snd zG ("StreamWatch$Rule", "isFor", c_Ru_isFor, 4) 45 (x_const 0) 46 := mj_const (n := 0) (by decide) (by decide +kernel)
theorem d_Ru_isFor_46 : decode c_Ru_isFor 46 = .ok (.ireturn, 1) := by decide +kernel
theorem b_Ru_isFor_0 : mj_Ch zG ("StreamWatch$Rule", "isFor", c_Ru_isFor, 4) 0 [x_aload 0, x_getf 6 0, x_const 2] 5 := ⟨_, i_Ru_isFor_0, _, i_Ru_isFor_1, _, i_Ru_isFor_4, rfl⟩
theorem b_Ru_isFor_8 : mj_Ch zG ("StreamWatch$Rule", "isFor", c_Ru_isFor, 4) 8 [x_aload 0, x_getf 6 0, x_iload 1] 13 := ⟨_, i_Ru_isFor_8, _, i_Ru_isFor_9, _, i_Ru_isFor_12, rfl⟩
theorem b_Ru_isFor_16 : mj_Ch zG ("StreamWatch$Rule", "isFor", c_Ru_isFor, 4) 16 [x_const 1, x_skip] 21 := ⟨_, i_Ru_isFor_16, _, i_Ru_isFor_17, rfl⟩
theorem b_Ru_isFor_20 : mj_Ch zG ("StreamWatch$Rule", "isFor", c_Ru_isFor, 4) 20 [x_const 0] 21 := ⟨_, i_Ru_isFor_20, rfl⟩
theorem b_Ru_isFor_21 : mj_Ch zG ("StreamWatch$Rule", "isFor", c_Ru_isFor, 4) 21 [x_istore 3, x_iload 3] 23 := ⟨_, i_Ru_isFor_21, _, i_Ru_isFor_22, rfl⟩
theorem b_Ru_isFor_26 : mj_Ch zG ("StreamWatch$Rule", "isFor", c_Ru_isFor, 4) 26 [x_aload 0, x_getf 6 1] 30 := ⟨_, i_Ru_isFor_26, _, i_Ru_isFor_27, rfl⟩
theorem b_Ru_isFor_33 : mj_Ch zG ("StreamWatch$Rule", "isFor", c_Ru_isFor, 4) 33 [x_aload 0, x_getf 6 1, x_iload 2] 38 := ⟨_, i_Ru_isFor_33, _, i_Ru_isFor_34, _, i_Ru_isFor_37, rfl⟩
theorem b_Ru_isFor_41 : mj_Ch zG ("StreamWatch$Rule", "isFor", c_Ru_isFor, 4) 41 [x_const 1, x_skip] 46 := ⟨_, i_Ru_isFor_41, _, i_Ru_isFor_42, rfl⟩
theorem b_Ru_isFor_45 : mj_Ch zG ("StreamWatch$Rule", "isFor", c_Ru_isFor, 4) 45 [x_const 0] 46 := ⟨_, i_Ru_isFor_45, rfl⟩
end
section
theorem i_Se_init_0 : mj_Snd zG ("StreamWatch$Search", "<init>", c_Se_init, 1) 0 (x_aload 0) 1 := mj_aload_n (j := 0) rfl (by decide +kernel)
theorem d_Se_init_1 : decode c_Se_init 1 = .ok (.invokespecial 1, 3) := by decide +kernel
theorem i_Se_init_4 : mj_Snd zG ("StreamWatch$Search", "<init>", c_Se_init, 1) 4 (x_aload 0) 5 := mj_aload_n (j := 0) rfl (by decide +kernel)
theorem d_Se_init_5 : decode c_Se_init 5 = .ok (.new 7, 3) := by decide +kernel
theorem i_Se_init_8 : mj_Snd zG ("StreamWatch$Search", "<init>", c_Se_init, 1) 8 (x_dup) 9 := mj_dup (by decide +kernel)
theorem d_Se_init_9 : decode c_Se_init 9 = .ok (.invokespecial 9, 3) := by decide +kernel
theorem i_Se_init_12 : mj_Snd zG ("StreamWatch$Search", "<init>", c_Se_init, 1) 12 (x_putf 7 0 3) 15 := mj_putG (T := T_Se) (ty0 := t_Se) rfl (by decide) u_Se t_Se_ok n_Se z1_189 (Or.inr ⟨rfl, rfl, rfl⟩) (by decide +kernel)
theorem i_Se_init_15 : mj_Snd zG ("StreamWatch$Search", "<init>", c_Se_init, 1) 15 (x_aload 0) 16 := mj_aload_n (j := 0) rfl (by decide +kernel)
theorem d_Se_init_16 : decode c_Se_init 16 = .ok (.new 7, 3) := by decide +kernel
theorem i_Se_init_19 : mj_Snd zG ("StreamWatch$Search", "<init>", c_Se_init, 1) 19 (x_dup) 20 := mj_dup (by decide +kernel)
theorem d_Se_init_20 : decode c_Se_init 20 = .ok (.invokespecial 9, 3) := by decide +kernel
theorem i_Se_init_23 : mj_Snd zG ("StreamWatch$Search", "<init>", c_Se_init, 1) 23 (x_putf 7 1 3) 26 := mj_putG (T := T_Se) (ty0 := t_Se) rfl (by decide) u_Se t_Se_ok n_Se z1_190 (Or.inr ⟨rfl, rfl, rfl⟩) (by decide +kernel)
theorem d_Se_init_26 : decode c_Se_init 26 = .ok (.return_, 1) := by decide +kernel
theorem b_Se_init_0 : mj_Ch zG ("StreamWatch$Search", "<init>", c_Se_init, 1) 0 [x_aload 0] 1 := ⟨_, i_Se_init_0, rfl⟩
theorem b_Se_init_4 : mj_Ch zG ("StreamWatch$Search", "<init>", c_Se_init, 1) 4 [x_aload 0] 5 := ⟨_, i_Se_init_4, rfl⟩
theorem b_Se_init_8 : mj_Ch zG ("StreamWatch$Search", "<init>", c_Se_init, 1) 8 [x_dup] 9 := ⟨_, i_Se_init_8, rfl⟩
theorem b_Se_init_12 : mj_Ch zG ("StreamWatch$Search", "<init>", c_Se_init, 1) 12 [x_putf 7 0 3, x_aload 0] 16 := ⟨_, i_Se_init_12, _, i_Se_init_15, rfl⟩
theorem b_Se_init_19 : mj_Ch zG ("StreamWatch$Search", "<init>", c_Se_init, 1) 19 [x_dup] 20 := ⟨_, i_Se_init_19, rfl⟩
theorem b_Se_init_23 : mj_Ch zG ("StreamWatch$Search", "<init>", c_Se_init, 1) 23 [x_putf 7 1 3] 26 := ⟨_, i_Se_init_23, rfl⟩
theorem i_Se_holds_0 : mj_Snd zG ("StreamWatch$Search", "holds", c_Se_holds, 7) 0 (x_aload 2) 1 := mj_aload_n (j := 2) rfl (by decide +kernel)
theorem d_Se_holds_1 : decode c_Se_holds 1 = .ok (.invokevirtual 19, 3) := by decide +kernel
theorem i_Se_holds_4 : mj_Snd zG ("StreamWatch$Search", "holds", c_Se_holds, 7) 4 (x_istore 3) 5 := mj_istore_n (j := 3) rfl (by decide) (by decide +kernel)
theorem i_Se_holds_5 : mj_Snd zG ("StreamWatch$Search", "holds", c_Se_holds, 7) 5 (x_aload 0) 6 := mj_aload_n (j := 0) rfl (by decide +kernel)
theorem i_Se_holds_6 : mj_Snd zG ("StreamWatch$Search", "holds", c_Se_holds, 7) 6 (x_getf 7 0) 9 := mj_getf (T := T_Se) rfl (by decide) u_Se z1_189 (by decide +kernel)
theorem i_Se_holds_9 : mj_Snd zG ("StreamWatch$Search", "holds", c_Se_holds, 7) 9 (x_iload 3) 10 := mj_iload_n (j := 3) rfl (by decide +kernel)
theorem d_Se_holds_10 : decode c_Se_holds 10 = .ok (.invokevirtual 25, 3) := by decide +kernel
theorem i_Se_holds_13 : mj_Snd zG ("StreamWatch$Search", "holds", c_Se_holds, 7) 13 (x_aload 1) 14 := mj_aload_n (j := 1) rfl (by decide +kernel)
theorem d_Se_holds_14 : decode c_Se_holds 14 = .ok (.invokevirtual 29, 3) := by decide +kernel
theorem d_Se_holds_17 : decode c_Se_holds 17 = .ok (.ifCond .le 7, 3) := by decide +kernel
theorem i_Se_holds_20 : mj_Snd zG ("StreamWatch$Search", "holds", c_Se_holds, 7) 20 (x_const 1) 21 := mj_const (n := 1) (by decide) (by decide +kernel)
theorem i_Se_holds_21 : mj_Snd zG ("StreamWatch$Search", "holds", c_Se_holds, 7) 21 (x_skip) 25 := mj_goto (off := 4) (by decide) (by decide +kernel)
theorem i_Se_holds_24 : mj_Snd zG ("StreamWatch$Search", "holds", c_Se_holds, 7) 24 (x_const 0) 25 := mj_const (n := 0) (by decide) (by decide +kernel)
theorem i_Se_holds_25 : mj_Snd zG ("StreamWatch$Search", "holds", c_Se_holds, 7) 25 (x_istore 4) 27 := mj_istore (by decide) (by decide +kernel)
theorem i_Se_holds_27 : mj_Snd zG ("StreamWatch$Search", "holds", c_Se_holds, 7) 27 (x_const 0) 28 := mj_const (n := 0) (by decide) (by decide +kernel)
theorem i_Se_holds_28 : mj_Snd zG ("StreamWatch$Search", "holds", c_Se_holds, 7) 28 (x_istore 5) 30 := mj_istore (by decide) (by decide +kernel)
theorem i_Se_holds_30 : mj_Snd zG ("StreamWatch$Search", "holds", c_Se_holds, 7) 30 (x_iload 5) 32 := mj_iload (by decide +kernel)
theorem i_Se_holds_32 : mj_Snd zG ("StreamWatch$Search", "holds", c_Se_holds, 7) 32 (x_aload 1) 33 := mj_aload_n (j := 1) rfl (by decide +kernel)
theorem d_Se_holds_33 : decode c_Se_holds 33 = .ok (.invokevirtual 29, 3) := by decide +kernel
theorem d_Se_holds_36 : decode c_Se_holds 36 = .ok (.if_icmp .ge 80, 3) := by decide +kernel
theorem i_Se_holds_39 : mj_Snd zG ("StreamWatch$Search", "holds", c_Se_holds, 7) 39 (x_iload 4) 41 := mj_iload (by decide +kernel)
theorem d_Se_holds_41 : decode c_Se_holds 41 = .ok (.ifCond .eq 75, 3) := by decide +kernel
theorem i_Se_holds_44 : mj_Snd zG ("StreamWatch$Search", "holds", c_Se_holds, 7) 44 (x_aload 1) 45 := mj_aload_n (j := 1) rfl (by decide +kernel)
theorem i_Se_holds_45 : mj_Snd zG ("StreamWatch$Search", "holds", c_Se_holds, 7) 45 (x_iload 5) 47 := mj_iload (by decide +kernel)
theorem d_Se_holds_47 : decode c_Se_holds 47 = .ok (.invokevirtual 32, 3) := by decide +kernel
theorem i_Se_holds_50 : mj_Snd zG ("StreamWatch$Search", "holds", c_Se_holds, 7) 50 (x_astore 6) 52 := mj_astore (by decide) (by decide +kernel)
theorem i_Se_holds_52 : mj_Snd zG ("StreamWatch$Search", "holds", c_Se_holds, 7) 52 (x_aload 6) 54 := mj_aload (by decide +kernel)
theorem d_Se_holds_54 : decode c_Se_holds 54 = .ok (.ifnonnull 5, 3) := by decide +kernel
theorem i_Se_holds_57 : mj_Snd zG ("StreamWatch$Search", "holds", c_Se_holds, 7) 57 (x_const 0) 58 := mj_const (n := 0) (by decide) (by decide +kernel)
theorem d_Se_holds_58 : decode c_Se_holds 58 = .ok (.ireturn, 1) := by decide +kernel
theorem i_Se_holds_59 : mj_Snd zG ("StreamWatch$Search", "holds", c_Se_holds, 7) 59 (x_aload 0) 60 := mj_aload_n (j := 0) rfl (by decide +kernel)
theorem i_Se_holds_60 : mj_Snd zG ("StreamWatch$Search", "holds", c_Se_holds, 7) 60 (x_aload 6) 62 := mj_aload (by decide +kernel)
theorem i_Se_holds_62 : mj_Snd zG ("StreamWatch$Search", "holds", c_Se_holds, 7) 62 (x_aload 2) 63 := mj_aload_n (j := 2) rfl (by decide +kernel)
theorem d_Se_holds_63 : decode c_Se_holds 63 = .ok (.invokevirtual 36, 3) := by decide +kernel
theorem i_Se_holds_66 : mj_Snd zG ("StreamWatch$Search", "holds", c_Se_holds, 7) 66 (x_aload 6) 68 := mj_aload (by decide +kernel)
theorem i_Se_holds_68 : mj_Snd zG ("StreamWatch$Search", "holds", c_Se_holds, 7) 68 (x_getf 4 0) 71 := mj_getf (T := T_Op) rfl (by decide) u_Op z4_29 (by decide +kernel)
theorem d_Se_holds_71 : decode c_Se_holds 71 = .ok (.ifCond .eq 13, 3) := by decide +kernel
theorem i_Se_holds_74 : mj_Snd zG ("StreamWatch$Search", "holds", c_Se_holds, 7) 74 (x_aload 0) 75 := mj_aload_n (j := 0) rfl (by decide +kernel)
theorem i_Se_holds_75 : mj_Snd zG ("StreamWatch$Search", "holds", c_Se_holds, 7) 75 (x_aload 6) 77 := mj_aload (by decide +kernel)
theorem i_Se_holds_77 : mj_Snd zG ("StreamWatch$Search", "holds", c_Se_holds, 7) 77 (x_iload 3) 78 := mj_iload_n (j := 3) rfl (by decide +kernel)
theorem d_Se_holds_78 : decode c_Se_holds 78 = .ok (.invokevirtual 46, 3) := by decide +kernel
theorem i_Se_holds_81 : mj_Snd zG ("StreamWatch$Search", "holds", c_Se_holds, 7) 81 (x_skip) 91 := mj_goto (off := 10) (by decide) (by decide +kernel)
theorem i_Se_holds_84 : mj_Snd zG ("StreamWatch$Search", "holds", c_Se_holds, 7) 84 (x_aload 0) 85 := mj_aload_n (j := 0) rfl (by decide +kernel)
theorem i_Se_holds_85 : mj_Snd zG ("StreamWatch$Search", "holds", c_Se_holds, 7) 85 (x_aload 6) 87 := mj_aload (by decide +kernel)
theorem i_Se_holds_87 : mj_Snd zG ("StreamWatch$Search", "holds", c_Se_holds, 7) 87 (x_iload 3) 88 := mj_iload_n (j := 3) rfl (by decide +kernel)
theorem d_Se_holds_88 : decode c_Se_holds 88 = .ok (.invokevirtual 50, 3) := by decide +kernel
theorem i_Se_holds_91 : mj_Snd zG ("StreamWatch$Search", "holds", c_Se_holds, 7) 91 (x_aload 0) 92 := mj_aload_n (j := 0) rfl (by decide +kernel)
theorem i_Se_holds_92 : mj_Snd zG ("StreamWatch$Search", "holds", c_Se_holds, 7) 92 (x_getf 7 0) 95 := mj_getf (T := T_Se) rfl (by decide) u_Se z1_189 (by decide +kernel)
theorem i_Se_holds_95 : mj_Snd zG ("StreamWatch$Search", "holds", c_Se_holds, 7) 95 (x_iload 3) 96 := mj_iload_n (j := 3) rfl (by decide +kernel)
theorem d_Se_holds_96 : decode c_Se_holds 96 = .ok (.invokevirtual 53, 3) := by decide +kernel
theorem i_Se_holds_99 : mj_Snd zG ("StreamWatch$Search", "holds", c_Se_holds, 7) 99 (x_aload 0) 100 := mj_aload_n (j := 0) rfl (by decide +kernel)
theorem i_Se_holds_100 : mj_Snd zG ("StreamWatch$Search", "holds", c_Se_holds, 7) 100 (x_getf 7 0) 103 := mj_getf (T := T_Se) rfl (by decide) u_Se z1_189 (by decide +kernel)
theorem i_Se_holds_103 : mj_Snd zG ("StreamWatch$Search", "holds", c_Se_holds, 7) 103 (x_const 0) 104 := mj_const (n := 0) (by decide) (by decide +kernel)
theorem i_Se_holds_104 : mj_Snd zG ("StreamWatch$Search", "holds", c_Se_holds, 7) 104 (x_iload 3) 105 := mj_iload_n (j := 3) rfl (by decide +kernel)
theorem d_Se_holds_105 : decode c_Se_holds 105 = .ok (.invokevirtual 56, 3) := by decide +kernel
theorem i_Se_holds_108 : mj_Snd zG ("StreamWatch$Search", "holds", c_Se_holds, 7) 108 (x_istore 4) 110 := mj_istore (by decide) (by decide +kernel)
theorem i_Se_holds_110 : mj_Snd zG ("StreamWatch$Search", "holds", c_Se_holds, 7) 110 (x_iinc 5 1) 113 := mj_iinc (n := 1) (by decide) (by decide) (by decide +kernel)
theorem i_Se_holds_113 : mj_Snd zG ("StreamWatch$Search", "holds", c_Se_holds, 7) 113 (x_skip) 30 := mj_goto (off := (-83)) (by decide) (by decide +kernel)
theorem i_Se_holds_116 : mj_Snd zG ("StreamWatch$Search", "holds", c_Se_holds, 7) 116 (x_iload 4) 118 := mj_iload (by decide +kernel)
theorem d_Se_holds_118 : decode c_Se_holds 118 = .ok (.ireturn, 1) := by decide +kernel
theorem b_Se_holds_0 : mj_Ch zG ("StreamWatch$Search", "holds", c_Se_holds, 7) 0 [x_aload 2] 1 := ⟨_, i_Se_holds_0, rfl⟩
theorem b_Se_holds_4 : mj_Ch zG ("StreamWatch$Search", "holds", c_Se_holds, 7) 4 [x_istore 3, x_aload 0, x_getf 7 0, x_iload 3] 10 := ⟨_, i_Se_holds_4, _, i_Se_holds_5, _, i_Se_holds_6, _, i_Se_holds_9, rfl⟩
theorem b_Se_holds_13 : mj_Ch zG ("StreamWatch$Search", "holds", c_Se_holds, 7) 13 [x_aload 1] 14 := ⟨_, i_Se_holds_13, rfl⟩
theorem b_Se_holds_20 : mj_Ch zG ("StreamWatch$Search", "holds", c_Se_holds, 7) 20 [x_const 1, x_skip] 25 := ⟨_, i_Se_holds_20, _, i_Se_holds_21, rfl⟩
theorem b_Se_holds_24 : mj_Ch zG ("StreamWatch$Search", "holds", c_Se_holds, 7) 24 [x_const 0] 25 := ⟨_, i_Se_holds_24, rfl⟩
theorem b_Se_holds_25 : mj_Ch zG ("StreamWatch$Search", "holds", c_Se_holds, 7) 25 [x_istore 4, x_const 0, x_istore 5] 30 := ⟨_, i_Se_holds_25, _, i_Se_holds_27, _, i_Se_holds_28, rfl⟩
theorem b_Se_holds_30 : mj_Ch zG ("StreamWatch$Search", "holds", c_Se_holds, 7) 30 [x_iload 5, x_aload 1] 33 := ⟨_, i_Se_holds_30, _, i_Se_holds_32, rfl⟩
theorem b_Se_holds_39 : mj_Ch zG ("StreamWatch$Search", "holds", c_Se_holds, 7) 39 [x_iload 4] 41 := ⟨_, i_Se_holds_39, rfl⟩
theorem b_Se_holds_44 : mj_Ch zG ("StreamWatch$Search", "holds", c_Se_holds, 7) 44 [x_aload 1, x_iload 5] 47 := ⟨_, i_Se_holds_44, _, i_Se_holds_45, rfl⟩
theorem b_Se_holds_50 : mj_Ch zG ("StreamWatch$Search", "holds", c_Se_holds, 7) 50 [x_astore 6, x_aload 6] 54 := ⟨_, i_Se_holds_50, _, i_Se_holds_52, rfl⟩
theorem b_Se_holds_57 : mj_Ch zG ("StreamWatch$Search", "holds", c_Se_holds, 7) 57 [x_const 0] 58 := ⟨_, i_Se_holds_57, rfl⟩
theorem b_Se_holds_59 : mj_Ch zG ("StreamWatch$Search", "holds", c_Se_holds, 7) 59 [x_aload 0, x_aload 6, x_aload 2] 63 := ⟨_, i_Se_holds_59, _, i_Se_holds_60, _, i_Se_holds_62, rfl⟩
theorem b_Se_holds_66 : mj_Ch zG ("StreamWatch$Search", "holds", c_Se_holds, 7) 66 [x_aload 6, x_getf 4 0] 71 := ⟨_, i_Se_holds_66, _, i_Se_holds_68, rfl⟩
theorem b_Se_holds_74 : mj_Ch zG ("StreamWatch$Search", "holds", c_Se_holds, 7) 74 [x_aload 0, x_aload 6, x_iload 3] 78 := ⟨_, i_Se_holds_74, _, i_Se_holds_75, _, i_Se_holds_77, rfl⟩
theorem b_Se_holds_81 : mj_Ch zG ("StreamWatch$Search", "holds", c_Se_holds, 7) 81 [x_skip] 91 := ⟨_, i_Se_holds_81, rfl⟩
theorem b_Se_holds_84 : mj_Ch zG ("StreamWatch$Search", "holds", c_Se_holds, 7) 84 [x_aload 0, x_aload 6, x_iload 3] 88 := ⟨_, i_Se_holds_84, _, i_Se_holds_85, _, i_Se_holds_87, rfl⟩
theorem b_Se_holds_91 : mj_Ch zG ("StreamWatch$Search", "holds", c_Se_holds, 7) 91 [x_aload 0, x_getf 7 0, x_iload 3] 96 := ⟨_, i_Se_holds_91, _, i_Se_holds_92, _, i_Se_holds_95, rfl⟩
theorem b_Se_holds_99 : mj_Ch zG ("StreamWatch$Search", "holds", c_Se_holds, 7) 99 [x_aload 0, x_getf 7 0, x_const 0, x_iload 3] 105 := ⟨_, i_Se_holds_99, _, i_Se_holds_100, _, i_Se_holds_103, _, i_Se_holds_104, rfl⟩
theorem b_Se_holds_108 : mj_Ch zG ("StreamWatch$Search", "holds", c_Se_holds, 7) 108 [x_istore 4, x_iinc 5 1, x_skip] 30 := ⟨_, i_Se_holds_108, _, i_Se_holds_110, _, i_Se_holds_113, rfl⟩
theorem b_Se_holds_116 : mj_Ch zG ("StreamWatch$Search", "holds", c_Se_holds, 7) 116 [x_iload 4] 118 := ⟨_, i_Se_holds_116, rfl⟩
theorem i_Se_find_0 : mj_Snd zG ("StreamWatch$Search", "find", c_Se_find, 5) 0 (x_aload 2) 1 := mj_aload_n (j := 2) rfl (by decide +kernel)
theorem d_Se_find_1 : decode c_Se_find 1 = .ok (.invokevirtual 19, 3) := by decide +kernel
theorem i_Se_find_4 : mj_Snd zG ("StreamWatch$Search", "find", c_Se_find, 5) 4 (x_istore 3) 5 := mj_istore_n (j := 3) rfl (by decide) (by decide +kernel)
theorem i_Se_find_5 : mj_Snd zG ("StreamWatch$Search", "find", c_Se_find, 5) 5 (x_const 0) 6 := mj_const (n := 0) (by decide) (by decide +kernel)
theorem i_Se_find_6 : mj_Snd zG ("StreamWatch$Search", "find", c_Se_find, 5) 6 (x_istore 4) 8 := mj_istore (by decide) (by decide +kernel)
theorem i_Se_find_8 : mj_Snd zG ("StreamWatch$Search", "find", c_Se_find, 5) 8 (x_iload 4) 10 := mj_iload (by decide +kernel)
theorem i_Se_find_10 : mj_Snd zG ("StreamWatch$Search", "find", c_Se_find, 5) 10 (x_iload 3) 11 := mj_iload_n (j := 3) rfl (by decide +kernel)
theorem d_Se_find_11 : decode c_Se_find 11 = .ok (.if_icmp .gt 25, 3) := by decide +kernel
theorem i_Se_find_14 : mj_Snd zG ("StreamWatch$Search", "find", c_Se_find, 5) 14 (x_aload 0) 15 := mj_aload_n (j := 0) rfl (by decide +kernel)
theorem i_Se_find_15 : mj_Snd zG ("StreamWatch$Search", "find", c_Se_find, 5) 15 (x_getf 7 1) 18 := mj_getf (T := T_Se) rfl (by decide) u_Se z1_190 (by decide +kernel)
theorem i_Se_find_18 : mj_Snd zG ("StreamWatch$Search", "find", c_Se_find, 5) 18 (x_iload 4) 20 := mj_iload (by decide +kernel)
theorem i_Se_find_20 : mj_Snd zG ("StreamWatch$Search", "find", c_Se_find, 5) 20 (x_aload 1) 21 := mj_aload_n (j := 1) rfl (by decide +kernel)
theorem i_Se_find_21 : mj_Snd zG ("StreamWatch$Search", "find", c_Se_find, 5) 21 (x_iload 4) 23 := mj_iload (by decide +kernel)
theorem i_Se_find_23 : mj_Snd zG ("StreamWatch$Search", "find", c_Se_find, 5) 23 (x_aload 2) 24 := mj_aload_n (j := 2) rfl (by decide +kernel)
theorem d_Se_find_24 : decode c_Se_find 24 = .ok (.invokevirtual 60, 3) := by decide +kernel
theorem d_Se_find_27 : decode c_Se_find 27 = .ok (.invokevirtual 64, 3) := by decide +kernel
theorem i_Se_find_30 : mj_Snd zG ("StreamWatch$Search", "find", c_Se_find, 5) 30 (x_iinc 4 1) 33 := mj_iinc (n := 1) (by decide) (by decide) (by decide +kernel)
theorem i_Se_find_33 : mj_Snd zG ("StreamWatch$Search", "find", c_Se_find, 5) 33 (x_skip) 8 := mj_goto (off := (-25)) (by decide) (by decide +kernel)
theorem i_Se_find_36 : mj_Snd zG ("StreamWatch$Search", "find", c_Se_find, 5) 36 (x_aload 0) 37 := mj_aload_n (j := 0) rfl (by decide +kernel)
theorem i_Se_find_37 : mj_Snd zG ("StreamWatch$Search", "find", c_Se_find, 5) 37 (x_getf 7 1) 40 := mj_getf (T := T_Se) rfl (by decide) u_Se z1_190 (by decide +kernel)
theorem i_Se_find_40 : mj_Snd zG ("StreamWatch$Search", "find", c_Se_find, 5) 40 (x_iload 3) 41 := mj_iload_n (j := 3) rfl (by decide +kernel)
theorem d_Se_find_41 : decode c_Se_find 41 = .ok (.invokevirtual 53, 3) := by decide +kernel
theorem d_Se_find_44 : decode c_Se_find 44 = .ok (.return_, 1) := by decide +kernel
theorem b_Se_find_0 : mj_Ch zG ("StreamWatch$Search", "find", c_Se_find, 5) 0 [x_aload 2] 1 := ⟨_, i_Se_find_0, rfl⟩
theorem b_Se_find_4 : mj_Ch zG ("StreamWatch$Search", "find", c_Se_find, 5) 4 [x_istore 3, x_const 0, x_istore 4] 8 := ⟨_, i_Se_find_4, _, i_Se_find_5, _, i_Se_find_6, rfl⟩
theorem b_Se_find_8 : mj_Ch zG ("StreamWatch$Search", "find", c_Se_find, 5) 8 [x_iload 4, x_iload 3] 11 := ⟨_, i_Se_find_8, _, i_Se_find_10, rfl⟩
theorem b_Se_find_14 : mj_Ch zG ("StreamWatch$Search", "find", c_Se_find, 5) 14 [x_aload 0, x_getf 7 1, x_iload 4, x_aload 1, x_iload 4, x_aload 2] 24 := ⟨_, i_Se_find_14, _, i_Se_find_15, _, i_Se_find_18, _, i_Se_find_20, _, i_Se_find_21, _, i_Se_find_23, rfl⟩
theorem b_Se_find_30 : mj_Ch zG ("StreamWatch$Search", "find", c_Se_find, 5) 30 [x_iinc 4 1, x_skip] 8 := ⟨_, i_Se_find_30, _, i_Se_find_33, rfl⟩
theorem b_Se_find_36 : mj_Ch zG ("StreamWatch$Search", "find", c_Se_find, 5) 36 [x_aload 0, x_getf 7 1, x_iload 3] 41 := ⟨_, i_Se_find_36, _, i_Se_find_37, _, i_Se_find_40, rfl⟩
theorem i_Se_dropBases_0 : mj_Snd zG ("StreamWatch$Search", "dropBases", c_Se_dropBases, 5) 0 (x_const 0) 1 := mj_const (n := 0) (by decide) (by decide +kernel)
theorem i_Se_dropBases_1 : mj_Snd zG ("StreamWatch$Search", "dropBases", c_Se_dropBases, 5) 1 (x_istore 3) 2 := mj_istore_n (j := 3) rfl (by decide) (by decide +kernel)
theorem i_Se_dropBases_2 : mj_Snd zG ("StreamWatch$Search", "dropBases", c_Se_dropBases, 5) 2 (x_iload 3) 3 := mj_iload_n (j := 3) rfl (by decide +kernel)
theorem i_Se_dropBases_3 : mj_Snd zG ("StreamWatch$Search", "dropBases", c_Se_dropBases, 5) 3 (x_iload 2) 4 := mj_iload_n (j := 2) rfl (by decide +kernel)
theorem d_Se_dropBases_4 : decode c_Se_dropBases 4 = .ok (.if_icmp .gt 56, 3) := by decide +kernel
theorem i_Se_dropBases_7 : mj_Snd zG ("StreamWatch$Search", "dropBases", c_Se_dropBases, 5) 7 (x_aload 1) 8 := mj_aload_n (j := 1) rfl (by decide +kernel)
theorem i_Se_dropBases_8 : mj_Snd zG ("StreamWatch$Search", "dropBases", c_Se_dropBases, 5) 8 (x_getf 4 1) 11 := mj_getf (T := T_Op) rfl (by decide) u_Op z4_31 (by decide +kernel)
theorem d_Se_dropBases_11 : decode c_Se_dropBases 11 = .ok (.ifCond .eq 7, 3) := by decide +kernel
theorem i_Se_dropBases_14 : mj_Snd zG ("StreamWatch$Search", "dropBases", c_Se_dropBases, 5) 14 (x_iload 3) 15 := mj_iload_n (j := 3) rfl (by decide +kernel)
theorem i_Se_dropBases_15 : mj_Snd zG ("StreamWatch$Search", "dropBases", c_Se_dropBases, 5) 15 (x_skip) 19 := mj_goto (off := 4) (by decide) (by decide +kernel)
theorem i_Se_dropBases_18 : mj_Snd zG ("StreamWatch$Search", "dropBases", c_Se_dropBases, 5) 18 (x_const 0) 19 := mj_const (n := 0) (by decide) (by decide +kernel)
theorem i_Se_dropBases_19 : mj_Snd zG ("StreamWatch$Search", "dropBases", c_Se_dropBases, 5) 19 (x_istore 4) 21 := mj_istore (by decide) (by decide +kernel)
theorem i_Se_dropBases_21 : mj_Snd zG ("StreamWatch$Search", "dropBases", c_Se_dropBases, 5) 21 (x_aload 0) 22 := mj_aload_n (j := 0) rfl (by decide +kernel)
theorem i_Se_dropBases_22 : mj_Snd zG ("StreamWatch$Search", "dropBases", c_Se_dropBases, 5) 22 (x_getf 7 1) 25 := mj_getf (T := T_Se) rfl (by decide) u_Se z1_190 (by decide +kernel)
theorem i_Se_dropBases_25 : mj_Snd zG ("StreamWatch$Search", "dropBases", c_Se_dropBases, 5) 25 (x_iload 4) 27 := mj_iload (by decide +kernel)
theorem i_Se_dropBases_27 : mj_Snd zG ("StreamWatch$Search", "dropBases", c_Se_dropBases, 5) 27 (x_aload 1) 28 := mj_aload_n (j := 1) rfl (by decide +kernel)
theorem i_Se_dropBases_28 : mj_Snd zG ("StreamWatch$Search", "dropBases", c_Se_dropBases, 5) 28 (x_getf 4 2) 31 := mj_getf (T := T_Op) rfl (by decide) u_Op z4_33 (by decide +kernel)
theorem i_Se_dropBases_31 : mj_Snd zG ("StreamWatch$Search", "dropBases", c_Se_dropBases, 5) 31 (x_iadd) 32 := mj_iadd (by decide +kernel)
theorem i_Se_dropBases_32 : mj_Snd zG ("StreamWatch$Search", "dropBases", c_Se_dropBases, 5) 32 (x_iload 4) 34 := mj_iload (by decide +kernel)
theorem i_Se_dropBases_34 : mj_Snd zG ("StreamWatch$Search", "dropBases", c_Se_dropBases, 5) 34 (x_aload 1) 35 := mj_aload_n (j := 1) rfl (by decide +kernel)
theorem i_Se_dropBases_35 : mj_Snd zG ("StreamWatch$Search", "dropBases", c_Se_dropBases, 5) 35 (x_getf 4 3) 38 := mj_getf (T := T_Op) rfl (by decide) u_Op z4_35 (by decide +kernel)
theorem i_Se_dropBases_38 : mj_Snd zG ("StreamWatch$Search", "dropBases", c_Se_dropBases, 5) 38 (x_iadd) 39 := mj_iadd (by decide +kernel)
theorem d_Se_dropBases_39 : decode c_Se_dropBases 39 = .ok (.invokevirtual 56, 3) := by decide +kernel
theorem d_Se_dropBases_42 : decode c_Se_dropBases 42 = .ok (.ifCond .eq 12, 3) := by decide +kernel
theorem i_Se_dropBases_45 : mj_Snd zG ("StreamWatch$Search", "dropBases", c_Se_dropBases, 5) 45 (x_aload 0) 46 := mj_aload_n (j := 0) rfl (by decide +kernel)
theorem i_Se_dropBases_46 : mj_Snd zG ("StreamWatch$Search", "dropBases", c_Se_dropBases, 5) 46 (x_getf 7 0) 49 := mj_getf (T := T_Se) rfl (by decide) u_Se z1_189 (by decide +kernel)
theorem i_Se_dropBases_49 : mj_Snd zG ("StreamWatch$Search", "dropBases", c_Se_dropBases, 5) 49 (x_iload 3) 50 := mj_iload_n (j := 3) rfl (by decide +kernel)
theorem i_Se_dropBases_50 : mj_Snd zG ("StreamWatch$Search", "dropBases", c_Se_dropBases, 5) 50 (x_const 0) 51 := mj_const (n := 0) (by decide) (by decide +kernel)
theorem d_Se_dropBases_51 : decode c_Se_dropBases 51 = .ok (.invokevirtual 64, 3) := by decide +kernel
theorem i_Se_dropBases_54 : mj_Snd zG ("StreamWatch$Search", "dropBases", c_Se_dropBases, 5) 54 (x_iinc 3 1) 57 := mj_iinc (n := 1) (by decide) (by decide) (by decide +kernel)
theorem i_Se_dropBases_57 : mj_Snd zG ("StreamWatch$Search", "dropBases", c_Se_dropBases, 5) 57 (x_skip) 2 := mj_goto (off := (-55)) (by decide) (by decide +kernel)
theorem d_Se_dropBases_60 : decode c_Se_dropBases 60 = .ok (.return_, 1) := by decide +kernel
theorem b_Se_dropBases_0 : mj_Ch zG ("StreamWatch$Search", "dropBases", c_Se_dropBases, 5) 0 [x_const 0, x_istore 3] 2 := ⟨_, i_Se_dropBases_0, _, i_Se_dropBases_1, rfl⟩
theorem b_Se_dropBases_2 : mj_Ch zG ("StreamWatch$Search", "dropBases", c_Se_dropBases, 5) 2 [x_iload 3, x_iload 2] 4 := ⟨_, i_Se_dropBases_2, _, i_Se_dropBases_3, rfl⟩
theorem b_Se_dropBases_7 : mj_Ch zG ("StreamWatch$Search", "dropBases", c_Se_dropBases, 5) 7 [x_aload 1, x_getf 4 1] 11 := ⟨_, i_Se_dropBases_7, _, i_Se_dropBases_8, rfl⟩
theorem b_Se_dropBases_14 : mj_Ch zG ("StreamWatch$Search", "dropBases", c_Se_dropBases, 5) 14 [x_iload 3, x_skip] 19 := ⟨_, i_Se_dropBases_14, _, i_Se_dropBases_15, rfl⟩
theorem b_Se_dropBases_18 : mj_Ch zG ("StreamWatch$Search", "dropBases", c_Se_dropBases, 5) 18 [x_const 0] 19 := ⟨_, i_Se_dropBases_18, rfl⟩
theorem b_Se_dropBases_19 : mj_Ch zG ("StreamWatch$Search", "dropBases", c_Se_dropBases, 5) 19 [x_istore 4, x_aload 0, x_getf 7 1, x_iload 4, x_aload 1, x_getf 4 2, x_iadd, x_iload 4, x_aload 1, x_getf 4 3, x_iadd] 39 := ⟨_, i_Se_dropBases_19, _, i_Se_dropBases_21, _, i_Se_dropBases_22, _, i_Se_dropBases_25, _, i_Se_dropBases_27, _, i_Se_dropBases_28, _, i_Se_dropBases_31, _, i_Se_dropBases_32, _, i_Se_dropBases_34, _, i_Se_dropBases_35, _, i_Se_dropBases_38, rfl⟩
theorem b_Se_dropBases_45 : mj_Ch zG ("StreamWatch$Search", "dropBases", c_Se_dropBases, 5) 45 [x_aload 0, x_getf 7 0, x_iload 3, x_const 0] 51 := ⟨_, i_Se_dropBases_45, _, i_Se_dropBases_46, _, i_Se_dropBases_49, _, i_Se_dropBases_50, rfl⟩
theorem b_Se_dropBases_54 : mj_Ch zG ("StreamWatch$Search", "dropBases", c_Se_dropBases, 5) 54 [x_iinc 3 1, x_skip] 2 := ⟨_, i_Se_dropBases_54, _, i_Se_dropBases_57, rfl⟩
theorem i_Se_moveBases_0 : mj_Snd zG ("StreamWatch$Search", "moveBases", c_Se_moveBases, 6) 0 (x_aload 1) 1 := mj_aload_n (j := 1) rfl (by decide +kernel)
theorem i_Se_moveBases_1 : mj_Snd zG ("StreamWatch$Search", "moveBases", c_Se_moveBases, 6) 1 (x_getf 4 1) 4 := mj_getf (T := T_Op) rfl (by decide) u_Op z4_31 (by decide +kernel)
theorem d_Se_moveBases_4 : decode c_Se_moveBases 4 = .ok (.ifCond .ne 11, 3) := by decide +kernel
theorem i_Se_moveBases_7 : mj_Snd zG ("StreamWatch$Search", "moveBases", c_Se_moveBases, 6) 7 (x_aload 0) 8 := mj_aload_n (j := 0) rfl (by decide +kernel)
theorem i_Se_moveBases_8 : mj_Snd zG ("StreamWatch$Search", "moveBases", c_Se_moveBases, 6) 8 (x_getf 7 0) 11 := mj_getf (T := T_Se) rfl (by decide) u_Se z1_189 (by decide +kernel)
theorem i_Se_moveBases_11 : mj_Snd zG ("StreamWatch$Search", "moveBases", c_Se_moveBases, 6) 11 (x_iload 2) 12 := mj_iload_n (j := 2) rfl (by decide +kernel)
theorem d_Se_moveBases_12 : decode c_Se_moveBases 12 = .ok (.invokevirtual 25, 3) := by decide +kernel
theorem i_Se_moveBases_15 : mj_Snd zG ("StreamWatch$Search", "moveBases", c_Se_moveBases, 6) 15 (x_const 0) 16 := mj_const (n := 0) (by decide) (by decide +kernel)
theorem i_Se_moveBases_16 : mj_Snd zG ("StreamWatch$Search", "moveBases", c_Se_moveBases, 6) 16 (x_istore 3) 17 := mj_istore_n (j := 3) rfl (by decide) (by decide +kernel)
theorem i_Se_moveBases_17 : mj_Snd zG ("StreamWatch$Search", "moveBases", c_Se_moveBases, 6) 17 (x_iload 3) 18 := mj_iload_n (j := 3) rfl (by decide +kernel)
theorem i_Se_moveBases_18 : mj_Snd zG ("StreamWatch$Search", "moveBases", c_Se_moveBases, 6) 18 (x_iload 2) 19 := mj_iload_n (j := 2) rfl (by decide +kernel)
theorem d_Se_moveBases_19 : decode c_Se_moveBases 19 = .ok (.if_icmp .gt 70, 3) := by decide +kernel
theorem i_Se_moveBases_22 : mj_Snd zG ("StreamWatch$Search", "moveBases", c_Se_moveBases, 6) 22 (x_iload 3) 23 := mj_iload_n (j := 3) rfl (by decide +kernel)
theorem i_Se_moveBases_23 : mj_Snd zG ("StreamWatch$Search", "moveBases", c_Se_moveBases, 6) 23 (x_aload 1) 24 := mj_aload_n (j := 1) rfl (by decide +kernel)
theorem i_Se_moveBases_24 : mj_Snd zG ("StreamWatch$Search", "moveBases", c_Se_moveBases, 6) 24 (x_getf 4 4) 27 := mj_getf (T := T_Op) rfl (by decide) u_Op z4_37 (by decide +kernel)
theorem i_Se_moveBases_27 : mj_Snd zG ("StreamWatch$Search", "moveBases", c_Se_moveBases, 6) 27 (x_isub) 28 := mj_isub (by decide +kernel)
theorem i_Se_moveBases_28 : mj_Snd zG ("StreamWatch$Search", "moveBases", c_Se_moveBases, 6) 28 (x_istore 4) 30 := mj_istore (by decide) (by decide +kernel)
theorem i_Se_moveBases_30 : mj_Snd zG ("StreamWatch$Search", "moveBases", c_Se_moveBases, 6) 30 (x_aload 0) 31 := mj_aload_n (j := 0) rfl (by decide +kernel)
theorem i_Se_moveBases_31 : mj_Snd zG ("StreamWatch$Search", "moveBases", c_Se_moveBases, 6) 31 (x_getf 7 1) 34 := mj_getf (T := T_Se) rfl (by decide) u_Se z1_190 (by decide +kernel)
theorem i_Se_moveBases_34 : mj_Snd zG ("StreamWatch$Search", "moveBases", c_Se_moveBases, 6) 34 (x_iload 4) 36 := mj_iload (by decide +kernel)
theorem d_Se_moveBases_36 : decode c_Se_moveBases 36 = .ok (.invokevirtual 80, 3) := by decide +kernel
theorem d_Se_moveBases_39 : decode c_Se_moveBases 39 = .ok (.ifCond .eq 31, 3) := by decide +kernel
theorem i_Se_moveBases_42 : mj_Snd zG ("StreamWatch$Search", "moveBases", c_Se_moveBases, 6) 42 (x_aload 0) 43 := mj_aload_n (j := 0) rfl (by decide +kernel)
theorem i_Se_moveBases_43 : mj_Snd zG ("StreamWatch$Search", "moveBases", c_Se_moveBases, 6) 43 (x_getf 7 0) 46 := mj_getf (T := T_Se) rfl (by decide) u_Se z1_189 (by decide +kernel)
theorem i_Se_moveBases_46 : mj_Snd zG ("StreamWatch$Search", "moveBases", c_Se_moveBases, 6) 46 (x_iload 4) 48 := mj_iload (by decide +kernel)
theorem i_Se_moveBases_48 : mj_Snd zG ("StreamWatch$Search", "moveBases", c_Se_moveBases, 6) 48 (x_aload 1) 49 := mj_aload_n (j := 1) rfl (by decide +kernel)
theorem i_Se_moveBases_49 : mj_Snd zG ("StreamWatch$Search", "moveBases", c_Se_moveBases, 6) 49 (x_getf 4 3) 52 := mj_getf (T := T_Op) rfl (by decide) u_Op z4_35 (by decide +kernel)
theorem i_Se_moveBases_52 : mj_Snd zG ("StreamWatch$Search", "moveBases", c_Se_moveBases, 6) 52 (x_isub) 53 := mj_isub (by decide +kernel)
theorem i_Se_moveBases_53 : mj_Snd zG ("StreamWatch$Search", "moveBases", c_Se_moveBases, 6) 53 (x_iload 4) 55 := mj_iload (by decide +kernel)
theorem i_Se_moveBases_55 : mj_Snd zG ("StreamWatch$Search", "moveBases", c_Se_moveBases, 6) 55 (x_aload 1) 56 := mj_aload_n (j := 1) rfl (by decide +kernel)
theorem i_Se_moveBases_56 : mj_Snd zG ("StreamWatch$Search", "moveBases", c_Se_moveBases, 6) 56 (x_getf 4 2) 59 := mj_getf (T := T_Op) rfl (by decide) u_Op z4_33 (by decide +kernel)
theorem i_Se_moveBases_59 : mj_Snd zG ("StreamWatch$Search", "moveBases", c_Se_moveBases, 6) 59 (x_isub) 60 := mj_isub (by decide +kernel)
theorem d_Se_moveBases_60 : decode c_Se_moveBases 60 = .ok (.invokevirtual 56, 3) := by decide +kernel
theorem d_Se_moveBases_63 : decode c_Se_moveBases 63 = .ok (.ifCond .eq 7, 3) := by decide +kernel
theorem i_Se_moveBases_66 : mj_Snd zG ("StreamWatch$Search", "moveBases", c_Se_moveBases, 6) 66 (x_const 1) 67 := mj_const (n := 1) (by decide) (by decide +kernel)
theorem i_Se_moveBases_67 : mj_Snd zG ("StreamWatch$Search", "moveBases", c_Se_moveBases, 6) 67 (x_skip) 71 := mj_goto (off := 4) (by decide) (by decide +kernel)
theorem i_Se_moveBases_70 : mj_Snd zG ("StreamWatch$Search", "moveBases", c_Se_moveBases, 6) 70 (x_const 0) 71 := mj_const (n := 0) (by decide) (by decide +kernel)
theorem i_Se_moveBases_71 : mj_Snd zG ("StreamWatch$Search", "moveBases", c_Se_moveBases, 6) 71 (x_istore 5) 73 := mj_istore (by decide) (by decide +kernel)
theorem i_Se_moveBases_73 : mj_Snd zG ("StreamWatch$Search", "moveBases", c_Se_moveBases, 6) 73 (x_aload 0) 74 := mj_aload_n (j := 0) rfl (by decide +kernel)
theorem i_Se_moveBases_74 : mj_Snd zG ("StreamWatch$Search", "moveBases", c_Se_moveBases, 6) 74 (x_getf 7 0) 77 := mj_getf (T := T_Se) rfl (by decide) u_Se z1_189 (by decide +kernel)
theorem i_Se_moveBases_77 : mj_Snd zG ("StreamWatch$Search", "moveBases", c_Se_moveBases, 6) 77 (x_iload 3) 78 := mj_iload_n (j := 3) rfl (by decide +kernel)
theorem i_Se_moveBases_78 : mj_Snd zG ("StreamWatch$Search", "moveBases", c_Se_moveBases, 6) 78 (x_iload 5) 80 := mj_iload (by decide +kernel)
theorem d_Se_moveBases_80 : decode c_Se_moveBases 80 = .ok (.invokevirtual 64, 3) := by decide +kernel
theorem i_Se_moveBases_83 : mj_Snd zG ("StreamWatch$Search", "moveBases", c_Se_moveBases, 6) 83 (x_iinc 3 1) 86 := mj_iinc (n := 1) (by decide) (by decide) (by decide +kernel)
theorem i_Se_moveBases_86 : mj_Snd zG ("StreamWatch$Search", "moveBases", c_Se_moveBases, 6) 86 (x_skip) 17 := mj_goto (off := (-69)) (by decide) (by decide +kernel)
theorem d_Se_moveBases_89 : decode c_Se_moveBases 89 = .ok (.return_, 1) := by decide +kernel
theorem b_Se_moveBases_0 : mj_Ch zG ("StreamWatch$Search", "moveBases", c_Se_moveBases, 6) 0 [x_aload 1, x_getf 4 1] 4 := ⟨_, i_Se_moveBases_0, _, i_Se_moveBases_1, rfl⟩
theorem b_Se_moveBases_7 : mj_Ch zG ("StreamWatch$Search", "moveBases", c_Se_moveBases, 6) 7 [x_aload 0, x_getf 7 0, x_iload 2] 12 := ⟨_, i_Se_moveBases_7, _, i_Se_moveBases_8, _, i_Se_moveBases_11, rfl⟩
theorem b_Se_moveBases_15 : mj_Ch zG ("StreamWatch$Search", "moveBases", c_Se_moveBases, 6) 15 [x_const 0, x_istore 3] 17 := ⟨_, i_Se_moveBases_15, _, i_Se_moveBases_16, rfl⟩
theorem b_Se_moveBases_17 : mj_Ch zG ("StreamWatch$Search", "moveBases", c_Se_moveBases, 6) 17 [x_iload 3, x_iload 2] 19 := ⟨_, i_Se_moveBases_17, _, i_Se_moveBases_18, rfl⟩
theorem b_Se_moveBases_22 : mj_Ch zG ("StreamWatch$Search", "moveBases", c_Se_moveBases, 6) 22 [x_iload 3, x_aload 1, x_getf 4 4, x_isub, x_istore 4, x_aload 0, x_getf 7 1, x_iload 4] 36 := ⟨_, i_Se_moveBases_22, _, i_Se_moveBases_23, _, i_Se_moveBases_24, _, i_Se_moveBases_27, _, i_Se_moveBases_28, _, i_Se_moveBases_30, _, i_Se_moveBases_31, _, i_Se_moveBases_34, rfl⟩
theorem b_Se_moveBases_42 : mj_Ch zG ("StreamWatch$Search", "moveBases", c_Se_moveBases, 6) 42 [x_aload 0, x_getf 7 0, x_iload 4, x_aload 1, x_getf 4 3, x_isub, x_iload 4, x_aload 1, x_getf 4 2, x_isub] 60 := ⟨_, i_Se_moveBases_42, _, i_Se_moveBases_43, _, i_Se_moveBases_46, _, i_Se_moveBases_48, _, i_Se_moveBases_49, _, i_Se_moveBases_52, _, i_Se_moveBases_53, _, i_Se_moveBases_55, _, i_Se_moveBases_56, _, i_Se_moveBases_59, rfl⟩
theorem b_Se_moveBases_66 : mj_Ch zG ("StreamWatch$Search", "moveBases", c_Se_moveBases, 6) 66 [x_const 1, x_skip] 71 := ⟨_, i_Se_moveBases_66, _, i_Se_moveBases_67, rfl⟩
theorem b_Se_moveBases_70 : mj_Ch zG ("StreamWatch$Search", "moveBases", c_Se_moveBases, 6) 70 [x_const 0] 71 := ⟨_, i_Se_moveBases_70, rfl⟩
theorem b_Se_moveBases_71 : mj_Ch zG ("StreamWatch$Search", "moveBases", c_Se_moveBases, 6) 71 [x_istore 5, x_aload 0, x_getf 7 0, x_iload 3, x_iload 5] 80 := ⟨_, i_Se_moveBases_71, _, i_Se_moveBases_73, _, i_Se_moveBases_74, _, i_Se_moveBases_77, _, i_Se_moveBases_78, rfl⟩
theorem b_Se_moveBases_83 : mj_Ch zG ("StreamWatch$Search", "moveBases", c_Se_moveBases, 6) 83 [x_iinc 3 1, x_skip] 17 := ⟨_, i_Se_moveBases_83, _, i_Se_moveBases_86, rfl⟩
end
section
theorem i_Sm_init_0 : mj_Snd zG ("StreamWatch$Stream", "<init>", c_Sm_init, 1) 0 (x_aload 0) 1 := mj_aload_n (j := 0) rfl (by decide +kernel)
theorem d_Sm_init_1 : decode c_Sm_init 1 = .ok (.invokespecial 3, 3) := by decide +kernel
theorem i_Sm_init_4 : mj_Snd zG ("StreamWatch$Stream", "<init>", c_Sm_init, 1) 4 (x_aload 0) 5 := mj_aload_n (j := 0) rfl (by decide +kernel)
theorem i_Sm_init_5 : mj_Snd zG ("StreamWatch$Stream", "<init>", c_Sm_init, 1) 5 (x_const 80) 7 := mj_bipush (n := 80) (by decide) (by decide +kernel)
theorem d_Sm_init_7 : decode c_Sm_init 7 = .ok (.newarray .int, 2) := by decide +kernel
theorem i_Sm_init_9 : mj_Snd zG ("StreamWatch$Stream", "<init>", c_Sm_init, 1) 9 (x_putf 8 0 3) 12 := mj_putG (T := T_Sm) (ty0 := t_Sm) rfl (by decide) u_Sm t_Sm_ok n_Sm z1_102 (Or.inr ⟨rfl, rfl, rfl⟩) (by decide +kernel)
theorem i_Sm_init_12 : mj_Snd zG ("StreamWatch$Stream", "<init>", c_Sm_init, 1) 12 (x_aload 0) 13 := mj_aload_n (j := 0) rfl (by decide +kernel)
theorem i_Sm_init_13 : mj_Snd zG ("StreamWatch$Stream", "<init>", c_Sm_init, 1) 13 (x_const 32) 15 := mj_bipush (n := 32) (by decide) (by decide +kernel)
theorem d_Sm_init_15 : decode c_Sm_init 15 = .ok (.newarray .int, 2) := by decide +kernel
theorem i_Sm_init_17 : mj_Snd zG ("StreamWatch$Stream", "<init>", c_Sm_init, 1) 17 (x_putf 8 1 3) 20 := mj_putG (T := T_Sm) (ty0 := t_Sm) rfl (by decide) u_Sm t_Sm_ok n_Sm z1_103 (Or.inr ⟨rfl, rfl, rfl⟩) (by decide +kernel)
theorem i_Sm_init_20 : mj_Snd zG ("StreamWatch$Stream", "<init>", c_Sm_init, 1) 20 (x_aload 0) 21 := mj_aload_n (j := 0) rfl (by decide +kernel)
theorem i_Sm_init_21 : mj_Snd zG ("StreamWatch$Stream", "<init>", c_Sm_init, 1) 21 (x_const 0) 22 := mj_const (n := 0) (by decide) (by decide +kernel)
theorem i_Sm_init_22 : mj_Snd zG ("StreamWatch$Stream", "<init>", c_Sm_init, 1) 22 (x_putf 8 2 0) 25 := mj_putG (T := T_Sm) (ty0 := t_Sm) rfl (by decide) u_Sm t_Sm_ok n_Sm z1_104 (Or.inl rfl) (by decide +kernel)
theorem i_Sm_init_25 : mj_Snd zG ("StreamWatch$Stream", "<init>", c_Sm_init, 1) 25 (x_aload 0) 26 := mj_aload_n (j := 0) rfl (by decide +kernel)
theorem i_Sm_init_26 : mj_Snd zG ("StreamWatch$Stream", "<init>", c_Sm_init, 1) 26 (x_const 0) 27 := mj_const (n := 0) (by decide) (by decide +kernel)
theorem i_Sm_init_27 : mj_Snd zG ("StreamWatch$Stream", "<init>", c_Sm_init, 1) 27 (x_putf 8 3 0) 30 := mj_putG (T := T_Sm) (ty0 := t_Sm) rfl (by decide) u_Sm t_Sm_ok n_Sm z1_105 (Or.inl rfl) (by decide +kernel)
theorem i_Sm_init_30 : mj_Snd zG ("StreamWatch$Stream", "<init>", c_Sm_init, 1) 30 (x_aload 0) 31 := mj_aload_n (j := 0) rfl (by decide +kernel)
theorem i_Sm_init_31 : mj_Snd zG ("StreamWatch$Stream", "<init>", c_Sm_init, 1) 31 (x_const 0) 32 := mj_const (n := 0) (by decide) (by decide +kernel)
theorem i_Sm_init_32 : mj_Snd zG ("StreamWatch$Stream", "<init>", c_Sm_init, 1) 32 (x_putf 8 4 0) 35 := mj_putG (T := T_Sm) (ty0 := t_Sm) rfl (by decide) u_Sm t_Sm_ok n_Sm z1_106 (Or.inl rfl) (by decide +kernel)
theorem i_Sm_init_35 : mj_Snd zG ("StreamWatch$Stream", "<init>", c_Sm_init, 1) 35 (x_aload 0) 36 := mj_aload_n (j := 0) rfl (by decide +kernel)
theorem i_Sm_init_36 : mj_Snd zG ("StreamWatch$Stream", "<init>", c_Sm_init, 1) 36 (x_const 0) 37 := mj_const (n := 0) (by decide) (by decide +kernel)
theorem i_Sm_init_37 : mj_Snd zG ("StreamWatch$Stream", "<init>", c_Sm_init, 1) 37 (x_putf 8 5 0) 40 := mj_putG (T := T_Sm) (ty0 := t_Sm) rfl (by decide) u_Sm t_Sm_ok n_Sm z1_107 (Or.inl rfl) (by decide +kernel)
theorem i_Sm_init_40 : mj_Snd zG ("StreamWatch$Stream", "<init>", c_Sm_init, 1) 40 (x_aload 0) 41 := mj_aload_n (j := 0) rfl (by decide +kernel)
theorem i_Sm_init_41 : mj_Snd zG ("StreamWatch$Stream", "<init>", c_Sm_init, 1) 41 (x_const 0) 42 := mj_const (n := 0) (by decide) (by decide +kernel)
theorem i_Sm_init_42 : mj_Snd zG ("StreamWatch$Stream", "<init>", c_Sm_init, 1) 42 (x_putf 8 6 1) 45 := mj_putG (T := T_Sm) (ty0 := t_Sm) rfl (by decide) u_Sm t_Sm_ok n_Sm z1_108 (Or.inl rfl) (by decide +kernel)
theorem i_Sm_init_45 : mj_Snd zG ("StreamWatch$Stream", "<init>", c_Sm_init, 1) 45 (x_aload 0) 46 := mj_aload_n (j := 0) rfl (by decide +kernel)
theorem i_Sm_init_46 : mj_Snd zG ("StreamWatch$Stream", "<init>", c_Sm_init, 1) 46 (x_const 0) 47 := mj_const (n := 0) (by decide) (by decide +kernel)
theorem i_Sm_init_47 : mj_Snd zG ("StreamWatch$Stream", "<init>", c_Sm_init, 1) 47 (x_putf 8 7 1) 50 := mj_putG (T := T_Sm) (ty0 := t_Sm) rfl (by decide) u_Sm t_Sm_ok n_Sm z1_109 (Or.inl rfl) (by decide +kernel)
theorem i_Sm_init_50 : mj_Snd zG ("StreamWatch$Stream", "<init>", c_Sm_init, 1) 50 (x_aload 0) 51 := mj_aload_n (j := 0) rfl (by decide +kernel)
theorem d_Sm_init_51 : decode c_Sm_init 51 = .ok (.invokevirtual 38, 3) := by decide +kernel
theorem d_Sm_init_54 : decode c_Sm_init 54 = .ok (.return_, 1) := by decide +kernel
theorem b_Sm_init_0 : mj_Ch zG ("StreamWatch$Stream", "<init>", c_Sm_init, 1) 0 [x_aload 0] 1 := ⟨_, i_Sm_init_0, rfl⟩
theorem b_Sm_init_4 : mj_Ch zG ("StreamWatch$Stream", "<init>", c_Sm_init, 1) 4 [x_aload 0, x_const 80] 7 := ⟨_, i_Sm_init_4, _, i_Sm_init_5, rfl⟩
theorem b_Sm_init_9 : mj_Ch zG ("StreamWatch$Stream", "<init>", c_Sm_init, 1) 9 [x_putf 8 0 3, x_aload 0, x_const 32] 15 := ⟨_, i_Sm_init_9, _, i_Sm_init_12, _, i_Sm_init_13, rfl⟩
theorem b_Sm_init_17 : mj_Ch zG ("StreamWatch$Stream", "<init>", c_Sm_init, 1) 17 [x_putf 8 1 3, x_aload 0, x_const 0, x_putf 8 2 0, x_aload 0, x_const 0, x_putf 8 3 0, x_aload 0, x_const 0, x_putf 8 4 0, x_aload 0, x_const 0, x_putf 8 5 0, x_aload 0, x_const 0, x_putf 8 6 1, x_aload 0, x_const 0, x_putf 8 7 1, x_aload 0] 51 := ⟨_, i_Sm_init_17, _, i_Sm_init_20, _, i_Sm_init_21, _, i_Sm_init_22, _, i_Sm_init_25, _, i_Sm_init_26, _, i_Sm_init_27, _, i_Sm_init_30, _, i_Sm_init_31, _, i_Sm_init_32, _, i_Sm_init_35, _, i_Sm_init_36, _, i_Sm_init_37, _, i_Sm_init_40, _, i_Sm_init_41, _, i_Sm_init_42, _, i_Sm_init_45, _, i_Sm_init_46, _, i_Sm_init_47, _, i_Sm_init_50, rfl⟩
theorem i_Sm_reset_0 : mj_Snd zG ("StreamWatch$Stream", "reset", c_Sm_reset, 1) 0 (x_aload 0) 1 := mj_aload_n (j := 0) rfl (by decide +kernel)
theorem d_Sm_reset_1 : decode c_Sm_reset 1 = .ok (.invokevirtual 38, 3) := by decide +kernel
theorem i_Sm_reset_4 : mj_Snd zG ("StreamWatch$Stream", "reset", c_Sm_reset, 1) 4 (x_aload 0) 5 := mj_aload_n (j := 0) rfl (by decide +kernel)
theorem i_Sm_reset_5 : mj_Snd zG ("StreamWatch$Stream", "reset", c_Sm_reset, 1) 5 (x_const 0) 6 := mj_const (n := 0) (by decide) (by decide +kernel)
theorem i_Sm_reset_6 : mj_Snd zG ("StreamWatch$Stream", "reset", c_Sm_reset, 1) 6 (x_putf 8 2 0) 9 := mj_putG (T := T_Sm) (ty0 := t_Sm) rfl (by decide) u_Sm t_Sm_ok n_Sm z1_104 (Or.inl rfl) (by decide +kernel)
theorem i_Sm_reset_9 : mj_Snd zG ("StreamWatch$Stream", "reset", c_Sm_reset, 1) 9 (x_aload 0) 10 := mj_aload_n (j := 0) rfl (by decide +kernel)
theorem i_Sm_reset_10 : mj_Snd zG ("StreamWatch$Stream", "reset", c_Sm_reset, 1) 10 (x_const 0) 11 := mj_const (n := 0) (by decide) (by decide +kernel)
theorem i_Sm_reset_11 : mj_Snd zG ("StreamWatch$Stream", "reset", c_Sm_reset, 1) 11 (x_putf 8 4 0) 14 := mj_putG (T := T_Sm) (ty0 := t_Sm) rfl (by decide) u_Sm t_Sm_ok n_Sm z1_106 (Or.inl rfl) (by decide +kernel)
theorem i_Sm_reset_14 : mj_Snd zG ("StreamWatch$Stream", "reset", c_Sm_reset, 1) 14 (x_aload 0) 15 := mj_aload_n (j := 0) rfl (by decide +kernel)
theorem i_Sm_reset_15 : mj_Snd zG ("StreamWatch$Stream", "reset", c_Sm_reset, 1) 15 (x_const 0) 16 := mj_const (n := 0) (by decide) (by decide +kernel)
theorem i_Sm_reset_16 : mj_Snd zG ("StreamWatch$Stream", "reset", c_Sm_reset, 1) 16 (x_putf 8 5 0) 19 := mj_putG (T := T_Sm) (ty0 := t_Sm) rfl (by decide) u_Sm t_Sm_ok n_Sm z1_107 (Or.inl rfl) (by decide +kernel)
theorem i_Sm_reset_19 : mj_Snd zG ("StreamWatch$Stream", "reset", c_Sm_reset, 1) 19 (x_aload 0) 20 := mj_aload_n (j := 0) rfl (by decide +kernel)
theorem i_Sm_reset_20 : mj_Snd zG ("StreamWatch$Stream", "reset", c_Sm_reset, 1) 20 (x_const 0) 21 := mj_const (n := 0) (by decide) (by decide +kernel)
theorem i_Sm_reset_21 : mj_Snd zG ("StreamWatch$Stream", "reset", c_Sm_reset, 1) 21 (x_putf 8 6 1) 24 := mj_putG (T := T_Sm) (ty0 := t_Sm) rfl (by decide) u_Sm t_Sm_ok n_Sm z1_108 (Or.inl rfl) (by decide +kernel)
theorem i_Sm_reset_24 : mj_Snd zG ("StreamWatch$Stream", "reset", c_Sm_reset, 1) 24 (x_aload 0) 25 := mj_aload_n (j := 0) rfl (by decide +kernel)
theorem i_Sm_reset_25 : mj_Snd zG ("StreamWatch$Stream", "reset", c_Sm_reset, 1) 25 (x_const 0) 26 := mj_const (n := 0) (by decide) (by decide +kernel)
theorem i_Sm_reset_26 : mj_Snd zG ("StreamWatch$Stream", "reset", c_Sm_reset, 1) 26 (x_putf 8 7 1) 29 := mj_putG (T := T_Sm) (ty0 := t_Sm) rfl (by decide) u_Sm t_Sm_ok n_Sm z1_109 (Or.inl rfl) (by decide +kernel)
theorem d_Sm_reset_29 : decode c_Sm_reset 29 = .ok (.return_, 1) := by decide +kernel
theorem b_Sm_reset_0 : mj_Ch zG ("StreamWatch$Stream", "reset", c_Sm_reset, 1) 0 [x_aload 0] 1 := ⟨_, i_Sm_reset_0, rfl⟩
theorem b_Sm_reset_4 : mj_Ch zG ("StreamWatch$Stream", "reset", c_Sm_reset, 1) 4 [x_aload 0, x_const 0, x_putf 8 2 0, x_aload 0, x_const 0, x_putf 8 4 0, x_aload 0, x_const 0, x_putf 8 5 0, x_aload 0, x_const 0, x_putf 8 6 1, x_aload 0, x_const 0, x_putf 8 7 1] 29 := ⟨_, i_Sm_reset_4, _, i_Sm_reset_5, _, i_Sm_reset_6, _, i_Sm_reset_9, _, i_Sm_reset_10, _, i_Sm_reset_11, _, i_Sm_reset_14, _, i_Sm_reset_15, _, i_Sm_reset_16, _, i_Sm_reset_19, _, i_Sm_reset_20, _, i_Sm_reset_21, _, i_Sm_reset_24, _, i_Sm_reset_25, _, i_Sm_reset_26, rfl⟩
theorem i_Sm_begin_0 : mj_Snd zG ("StreamWatch$Stream", "begin", c_Sm_begin, 2) 0 (x_aload 0) 1 := mj_aload_n (j := 0) rfl (by decide +kernel)
theorem i_Sm_begin_1 : mj_Snd zG ("StreamWatch$Stream", "begin", c_Sm_begin, 2) 1 (x_getf 8 6) 4 := mj_getf (T := T_Sm) rfl (by decide) u_Sm z1_108 (by decide +kernel)
theorem d_Sm_begin_4 : decode c_Sm_begin 4 = .ok (.ifCond .ne 13, 3) := by decide +kernel
theorem i_Sm_begin_7 : mj_Snd zG ("StreamWatch$Stream", "begin", c_Sm_begin, 2) 7 (x_aload 0) 8 := mj_aload_n (j := 0) rfl (by decide +kernel)
theorem i_Sm_begin_8 : mj_Snd zG ("StreamWatch$Stream", "begin", c_Sm_begin, 2) 8 (x_const 1) 9 := mj_const (n := 1) (by decide) (by decide +kernel)
theorem i_Sm_begin_9 : mj_Snd zG ("StreamWatch$Stream", "begin", c_Sm_begin, 2) 9 (x_putf 8 6 1) 12 := mj_putG (T := T_Sm) (ty0 := t_Sm) rfl (by decide) u_Sm t_Sm_ok n_Sm z1_108 (Or.inl rfl) (by decide +kernel)
theorem i_Sm_begin_12 : mj_Snd zG ("StreamWatch$Stream", "begin", c_Sm_begin, 2) 12 (x_aload 0) 13 := mj_aload_n (j := 0) rfl (by decide +kernel)
theorem i_Sm_begin_13 : mj_Snd zG ("StreamWatch$Stream", "begin", c_Sm_begin, 2) 13 (x_iload 1) 14 := mj_iload_n (j := 1) rfl (by decide +kernel)
theorem i_Sm_begin_14 : mj_Snd zG ("StreamWatch$Stream", "begin", c_Sm_begin, 2) 14 (x_putf 8 4 0) 17 := mj_putG (T := T_Sm) (ty0 := t_Sm) rfl (by decide) u_Sm t_Sm_ok n_Sm z1_106 (Or.inl rfl) (by decide +kernel)
theorem d_Sm_begin_17 : decode c_Sm_begin 17 = .ok (.return_, 1) := by decide +kernel
theorem b_Sm_begin_0 : mj_Ch zG ("StreamWatch$Stream", "begin", c_Sm_begin, 2) 0 [x_aload 0, x_getf 8 6] 4 := ⟨_, i_Sm_begin_0, _, i_Sm_begin_1, rfl⟩
theorem b_Sm_begin_7 : mj_Ch zG ("StreamWatch$Stream", "begin", c_Sm_begin, 2) 7 [x_aload 0, x_const 1, x_putf 8 6 1, x_aload 0, x_iload 1, x_putf 8 4 0] 17 := ⟨_, i_Sm_begin_7, _, i_Sm_begin_8, _, i_Sm_begin_9, _, i_Sm_begin_12, _, i_Sm_begin_13, _, i_Sm_begin_14, rfl⟩
theorem i_Sm_hold_0 : mj_Snd zG ("StreamWatch$Stream", "hold", c_Sm_hold, 6) 0 (x_iload 1) 1 := mj_iload_n (j := 1) rfl (by decide +kernel)
theorem i_Sm_hold_1 : mj_Snd zG ("StreamWatch$Stream", "hold", c_Sm_hold, 6) 1 (x_aload 0) 2 := mj_aload_n (j := 0) rfl (by decide +kernel)
theorem i_Sm_hold_2 : mj_Snd zG ("StreamWatch$Stream", "hold", c_Sm_hold, 6) 2 (x_getf 8 4) 5 := mj_getf (T := T_Sm) rfl (by decide) u_Sm z1_106 (by decide +kernel)
theorem i_Sm_hold_5 : mj_Snd zG ("StreamWatch$Stream", "hold", c_Sm_hold, 6) 5 (x_isub) 6 := mj_isub (by decide +kernel)
theorem i_Sm_hold_6 : mj_Snd zG ("StreamWatch$Stream", "hold", c_Sm_hold, 6) 6 (x_istore 4) 8 := mj_istore (by decide) (by decide +kernel)
theorem i_Sm_hold_8 : mj_Snd zG ("StreamWatch$Stream", "hold", c_Sm_hold, 6) 8 (x_iload 4) 10 := mj_iload (by decide +kernel)
theorem d_Sm_hold_10 : decode c_Sm_hold 10 = .ok (.ifCond .lt 10, 3) := by decide +kernel
theorem i_Sm_hold_13 : mj_Snd zG ("StreamWatch$Stream", "hold", c_Sm_hold, 6) 13 (x_iload 4) 15 := mj_iload (by decide +kernel)
theorem i_Sm_hold_15 : mj_Snd zG ("StreamWatch$Stream", "hold", c_Sm_hold, 6) 15 (x_const 32) 17 := mj_bipush (n := 32) (by decide) (by decide +kernel)
theorem d_Sm_hold_17 : decode c_Sm_hold 17 = .ok (.if_icmp .lt 4, 3) := by decide +kernel
theorem d_Sm_hold_20 : decode c_Sm_hold 20 = .ok (.return_, 1) := by decide +kernel
theorem i_Sm_hold_21 : mj_Snd zG ("StreamWatch$Stream", "hold", c_Sm_hold, 6) 21 (x_iload 1) 22 := mj_iload_n (j := 1) rfl (by decide +kernel)
theorem d_Sm_hold_22 : decode c_Sm_hold 22 = .ok (.invokestatic 41, 3) := by decide +kernel
theorem i_Sm_hold_25 : mj_Snd zG ("StreamWatch$Stream", "hold", c_Sm_hold, 6) 25 (x_istore 5) 27 := mj_istore (by decide) (by decide +kernel)
theorem i_Sm_hold_27 : mj_Snd zG ("StreamWatch$Stream", "hold", c_Sm_hold, 6) 27 (x_aload 0) 28 := mj_aload_n (j := 0) rfl (by decide +kernel)
theorem i_Sm_hold_28 : mj_Snd zG ("StreamWatch$Stream", "hold", c_Sm_hold, 6) 28 (x_getf 8 1) 31 := mj_getf (T := T_Sm) rfl (by decide) u_Sm z1_103 (by decide +kernel)
theorem i_Sm_hold_31 : mj_Snd zG ("StreamWatch$Stream", "hold", c_Sm_hold, 6) 31 (x_iload 5) 33 := mj_iload (by decide +kernel)
theorem i_Sm_hold_33 : mj_Snd zG ("StreamWatch$Stream", "hold", c_Sm_hold, 6) 33 (x_iald 0) 34 := mj_iald rfl (by decide +kernel)
theorem i_Sm_hold_34 : mj_Snd zG ("StreamWatch$Stream", "hold", c_Sm_hold, 6) 34 (x_const (-1)) 35 := mj_const (n := (-1)) (by decide) (by decide +kernel)
theorem d_Sm_hold_35 : decode c_Sm_hold 35 = .ok (.if_icmp .ne 24, 3) := by decide +kernel
theorem i_Sm_hold_38 : mj_Snd zG ("StreamWatch$Stream", "hold", c_Sm_hold, 6) 38 (x_aload 0) 39 := mj_aload_n (j := 0) rfl (by decide +kernel)
theorem i_Sm_hold_39 : mj_Snd zG ("StreamWatch$Stream", "hold", c_Sm_hold, 6) 39 (x_getf 8 1) 42 := mj_getf (T := T_Sm) rfl (by decide) u_Sm z1_103 (by decide +kernel)
theorem i_Sm_hold_42 : mj_Snd zG ("StreamWatch$Stream", "hold", c_Sm_hold, 6) 42 (x_iload 5) 44 := mj_iload (by decide +kernel)
theorem i_Sm_hold_44 : mj_Snd zG ("StreamWatch$Stream", "hold", c_Sm_hold, 6) 44 (x_iload 2) 45 := mj_iload_n (j := 2) rfl (by decide +kernel)
theorem i_Sm_hold_45 : mj_Snd zG ("StreamWatch$Stream", "hold", c_Sm_hold, 6) 45 (x_iast 0) 46 := mj_iast rfl (by decide +kernel)
theorem i_Sm_hold_46 : mj_Snd zG ("StreamWatch$Stream", "hold", c_Sm_hold, 6) 46 (x_aload 0) 47 := mj_aload_n (j := 0) rfl (by decide +kernel)
theorem i_Sm_hold_47 : mj_Snd zG ("StreamWatch$Stream", "hold", c_Sm_hold, 6) 47 (x_dup) 48 := mj_dup (by decide +kernel)
theorem i_Sm_hold_48 : mj_Snd zG ("StreamWatch$Stream", "hold", c_Sm_hold, 6) 48 (x_getf 8 3) 51 := mj_getf (T := T_Sm) rfl (by decide) u_Sm z1_105 (by decide +kernel)
theorem i_Sm_hold_51 : mj_Snd zG ("StreamWatch$Stream", "hold", c_Sm_hold, 6) 51 (x_const 1) 52 := mj_const (n := 1) (by decide) (by decide +kernel)
theorem i_Sm_hold_52 : mj_Snd zG ("StreamWatch$Stream", "hold", c_Sm_hold, 6) 52 (x_iadd) 53 := mj_iadd (by decide +kernel)
theorem i_Sm_hold_53 : mj_Snd zG ("StreamWatch$Stream", "hold", c_Sm_hold, 6) 53 (x_putf 8 3 0) 56 := mj_putG (T := T_Sm) (ty0 := t_Sm) rfl (by decide) u_Sm t_Sm_ok n_Sm z1_105 (Or.inl rfl) (by decide +kernel)
theorem i_Sm_hold_56 : mj_Snd zG ("StreamWatch$Stream", "hold", c_Sm_hold, 6) 56 (x_skip) 71 := mj_goto (off := 15) (by decide) (by decide +kernel)
theorem i_Sm_hold_59 : mj_Snd zG ("StreamWatch$Stream", "hold", c_Sm_hold, 6) 59 (x_iload 3) 60 := mj_iload_n (j := 3) rfl (by decide +kernel)
theorem d_Sm_hold_60 : decode c_Sm_hold 60 = .ok (.ifCond .eq 11, 3) := by decide +kernel
theorem i_Sm_hold_63 : mj_Snd zG ("StreamWatch$Stream", "hold", c_Sm_hold, 6) 63 (x_aload 0) 64 := mj_aload_n (j := 0) rfl (by decide +kernel)
theorem i_Sm_hold_64 : mj_Snd zG ("StreamWatch$Stream", "hold", c_Sm_hold, 6) 64 (x_getf 8 1) 67 := mj_getf (T := T_Sm) rfl (by decide) u_Sm z1_103 (by decide +kernel)
theorem i_Sm_hold_67 : mj_Snd zG ("StreamWatch$Stream", "hold", c_Sm_hold, 6) 67 (x_iload 5) 69 := mj_iload (by decide +kernel)
theorem i_Sm_hold_69 : mj_Snd zG ("StreamWatch$Stream", "hold", c_Sm_hold, 6) 69 (x_iload 2) 70 := mj_iload_n (j := 2) rfl (by decide +kernel)
theorem i_Sm_hold_70 : mj_Snd zG ("StreamWatch$Stream", "hold", c_Sm_hold, 6) 70 (x_iast 0) 71 := mj_iast rfl (by decide +kernel)
theorem d_Sm_hold_71 : decode c_Sm_hold 71 = .ok (.return_, 1) := by decide +kernel
theorem b_Sm_hold_0 : mj_Ch zG ("StreamWatch$Stream", "hold", c_Sm_hold, 6) 0 [x_iload 1, x_aload 0, x_getf 8 4, x_isub, x_istore 4, x_iload 4] 10 := ⟨_, i_Sm_hold_0, _, i_Sm_hold_1, _, i_Sm_hold_2, _, i_Sm_hold_5, _, i_Sm_hold_6, _, i_Sm_hold_8, rfl⟩
theorem b_Sm_hold_13 : mj_Ch zG ("StreamWatch$Stream", "hold", c_Sm_hold, 6) 13 [x_iload 4, x_const 32] 17 := ⟨_, i_Sm_hold_13, _, i_Sm_hold_15, rfl⟩
theorem b_Sm_hold_21 : mj_Ch zG ("StreamWatch$Stream", "hold", c_Sm_hold, 6) 21 [x_iload 1] 22 := ⟨_, i_Sm_hold_21, rfl⟩
theorem b_Sm_hold_25 : mj_Ch zG ("StreamWatch$Stream", "hold", c_Sm_hold, 6) 25 [x_istore 5, x_aload 0, x_getf 8 1, x_iload 5, x_iald 0, x_const (-1)] 35 := ⟨_, i_Sm_hold_25, _, i_Sm_hold_27, _, i_Sm_hold_28, _, i_Sm_hold_31, _, i_Sm_hold_33, _, i_Sm_hold_34, rfl⟩
theorem b_Sm_hold_38 : mj_Ch zG ("StreamWatch$Stream", "hold", c_Sm_hold, 6) 38 [x_aload 0, x_getf 8 1, x_iload 5, x_iload 2, x_iast 0, x_aload 0, x_dup, x_getf 8 3, x_const 1, x_iadd, x_putf 8 3 0, x_skip] 71 := ⟨_, i_Sm_hold_38, _, i_Sm_hold_39, _, i_Sm_hold_42, _, i_Sm_hold_44, _, i_Sm_hold_45, _, i_Sm_hold_46, _, i_Sm_hold_47, _, i_Sm_hold_48, _, i_Sm_hold_51, _, i_Sm_hold_52, _, i_Sm_hold_53, _, i_Sm_hold_56, rfl⟩
theorem b_Sm_hold_59 : mj_Ch zG ("StreamWatch$Stream", "hold", c_Sm_hold, 6) 59 [x_iload 3] 60 := ⟨_, i_Sm_hold_59, rfl⟩
theorem b_Sm_hold_63 : mj_Ch zG ("StreamWatch$Stream", "hold", c_Sm_hold, 6) 63 [x_aload 0, x_getf 8 1, x_iload 5, x_iload 2, x_iast 0] 71 := ⟨_, i_Sm_hold_63, _, i_Sm_hold_64, _, i_Sm_hold_67, _, i_Sm_hold_69, _, i_Sm_hold_70, rfl⟩
theorem i_Sm_isNextHeld_0 : mj_Snd zG ("StreamWatch$Stream", "isNextHeld", c_Sm_isNextHeld, 1) 0 (x_aload 0) 1 := mj_aload_n (j := 0) rfl (by decide +kernel)
theorem i_Sm_isNextHeld_1 : mj_Snd zG ("StreamWatch$Stream", "isNextHeld", c_Sm_isNextHeld, 1) 1 (x_getf 8 1) 4 := mj_getf (T := T_Sm) rfl (by decide) u_Sm z1_103 (by decide +kernel)
theorem i_Sm_isNextHeld_4 : mj_Snd zG ("StreamWatch$Stream", "isNextHeld", c_Sm_isNextHeld, 1) 4 (x_aload 0) 5 := mj_aload_n (j := 0) rfl (by decide +kernel)
theorem i_Sm_isNextHeld_5 : mj_Snd zG ("StreamWatch$Stream", "isNextHeld", c_Sm_isNextHeld, 1) 5 (x_getf 8 4) 8 := mj_getf (T := T_Sm) rfl (by decide) u_Sm z1_106 (by decide +kernel)
theorem d_Sm_isNextHeld_8 : decode c_Sm_isNextHeld 8 = .ok (.invokestatic 41, 3) := by decide +kernel
theorem i_Sm_isNextHeld_11 : mj_Snd zG ("StreamWatch$Stream", "isNextHeld", c_Sm_isNextHeld, 1) 11 (x_iald 0) 12 := mj_iald rfl (by decide +kernel)
theorem i_Sm_isNextHeld_12 : mj_Snd zG ("StreamWatch$Stream", "isNextHeld", c_Sm_isNextHeld, 1) 12 (x_const (-1)) 13 := mj_const (n := (-1)) (by decide) (by decide +kernel)
theorem d_Sm_isNextHeld_13 : decode c_Sm_isNextHeld 13 = .ok (.if_icmp .eq 7, 3) := by decide +kernel
theorem i_Sm_isNextHeld_16 : mj_Snd zG ("StreamWatch$Stream", "isNextHeld", c_Sm_isNextHeld, 1) 16 (x_const 1) 17 := mj_const (n := 1) (by decide) (by decide +kernel)
theorem i_Sm_isNextHeld_17 : mj_Snd zG ("StreamWatch$Stream", "isNextHeld", c_Sm_isNextHeld, 1) 17 (x_skip) 21 := mj_goto (off := 4) (by decide) (by decide +kernel)
theorem i_Sm_isNextHeld_20 : mj_Snd zG ("StreamWatch$Stream", "isNextHeld", c_Sm_isNextHeld, 1) 20 (x_const 0) 21 := mj_const (n := 0) (by decide) (by decide +kernel)
theorem d_Sm_isNextHeld_21 : decode c_Sm_isNextHeld 21 = .ok (.ireturn, 1) := by decide +kernel
theorem b_Sm_isNextHeld_0 : mj_Ch zG ("StreamWatch$Stream", "isNextHeld", c_Sm_isNextHeld, 1) 0 [x_aload 0, x_getf 8 1, x_aload 0, x_getf 8 4] 8 := ⟨_, i_Sm_isNextHeld_0, _, i_Sm_isNextHeld_1, _, i_Sm_isNextHeld_4, _, i_Sm_isNextHeld_5, rfl⟩
theorem b_Sm_isNextHeld_11 : mj_Ch zG ("StreamWatch$Stream", "isNextHeld", c_Sm_isNextHeld, 1) 11 [x_iald 0, x_const (-1)] 13 := ⟨_, i_Sm_isNextHeld_11, _, i_Sm_isNextHeld_12, rfl⟩
theorem b_Sm_isNextHeld_16 : mj_Ch zG ("StreamWatch$Stream", "isNextHeld", c_Sm_isNextHeld, 1) 16 [x_const 1, x_skip] 21 := ⟨_, i_Sm_isNextHeld_16, _, i_Sm_isNextHeld_17, rfl⟩
theorem b_Sm_isNextHeld_20 : mj_Ch zG ("StreamWatch$Stream", "isNextHeld", c_Sm_isNextHeld, 1) 20 [x_const 0] 21 := ⟨_, i_Sm_isNextHeld_20, rfl⟩
theorem i_Sm_takeNext_0 : mj_Snd zG ("StreamWatch$Stream", "takeNext", c_Sm_takeNext, 3) 0 (x_aload 0) 1 := mj_aload_n (j := 0) rfl (by decide +kernel)
theorem i_Sm_takeNext_1 : mj_Snd zG ("StreamWatch$Stream", "takeNext", c_Sm_takeNext, 3) 1 (x_getf 8 4) 4 := mj_getf (T := T_Sm) rfl (by decide) u_Sm z1_106 (by decide +kernel)
theorem d_Sm_takeNext_4 : decode c_Sm_takeNext 4 = .ok (.invokestatic 41, 3) := by decide +kernel
theorem i_Sm_takeNext_7 : mj_Snd zG ("StreamWatch$Stream", "takeNext", c_Sm_takeNext, 3) 7 (x_istore 1) 8 := mj_istore_n (j := 1) rfl (by decide) (by decide +kernel)
theorem i_Sm_takeNext_8 : mj_Snd zG ("StreamWatch$Stream", "takeNext", c_Sm_takeNext, 3) 8 (x_aload 0) 9 := mj_aload_n (j := 0) rfl (by decide +kernel)
theorem i_Sm_takeNext_9 : mj_Snd zG ("StreamWatch$Stream", "takeNext", c_Sm_takeNext, 3) 9 (x_getf 8 2) 12 := mj_getf (T := T_Sm) rfl (by decide) u_Sm z1_104 (by decide +kernel)
theorem i_Sm_takeNext_12 : mj_Snd zG ("StreamWatch$Stream", "takeNext", c_Sm_takeNext, 3) 12 (x_const 80) 14 := mj_bipush (n := 80) (by decide) (by decide +kernel)
theorem d_Sm_takeNext_14 : decode c_Sm_takeNext 14 = .ok (.if_icmp .ge 7, 3) := by decide +kernel
theorem i_Sm_takeNext_17 : mj_Snd zG ("StreamWatch$Stream", "takeNext", c_Sm_takeNext, 3) 17 (x_const 1) 18 := mj_const (n := 1) (by decide) (by decide +kernel)
theorem i_Sm_takeNext_18 : mj_Snd zG ("StreamWatch$Stream", "takeNext", c_Sm_takeNext, 3) 18 (x_skip) 22 := mj_goto (off := 4) (by decide) (by decide +kernel)
theorem i_Sm_takeNext_21 : mj_Snd zG ("StreamWatch$Stream", "takeNext", c_Sm_takeNext, 3) 21 (x_const 0) 22 := mj_const (n := 0) (by decide) (by decide +kernel)
theorem i_Sm_takeNext_22 : mj_Snd zG ("StreamWatch$Stream", "takeNext", c_Sm_takeNext, 3) 22 (x_istore 2) 23 := mj_istore_n (j := 2) rfl (by decide) (by decide +kernel)
theorem i_Sm_takeNext_23 : mj_Snd zG ("StreamWatch$Stream", "takeNext", c_Sm_takeNext, 3) 23 (x_iload 2) 24 := mj_iload_n (j := 2) rfl (by decide +kernel)
theorem d_Sm_takeNext_24 : decode c_Sm_takeNext 24 = .ok (.ifCond .eq 28, 3) := by decide +kernel
theorem i_Sm_takeNext_27 : mj_Snd zG ("StreamWatch$Stream", "takeNext", c_Sm_takeNext, 3) 27 (x_aload 0) 28 := mj_aload_n (j := 0) rfl (by decide +kernel)
theorem i_Sm_takeNext_28 : mj_Snd zG ("StreamWatch$Stream", "takeNext", c_Sm_takeNext, 3) 28 (x_getf 8 0) 31 := mj_getf (T := T_Sm) rfl (by decide) u_Sm z1_102 (by decide +kernel)
theorem i_Sm_takeNext_31 : mj_Snd zG ("StreamWatch$Stream", "takeNext", c_Sm_takeNext, 3) 31 (x_aload 0) 32 := mj_aload_n (j := 0) rfl (by decide +kernel)
theorem i_Sm_takeNext_32 : mj_Snd zG ("StreamWatch$Stream", "takeNext", c_Sm_takeNext, 3) 32 (x_getf 8 2) 35 := mj_getf (T := T_Sm) rfl (by decide) u_Sm z1_104 (by decide +kernel)
theorem i_Sm_takeNext_35 : mj_Snd zG ("StreamWatch$Stream", "takeNext", c_Sm_takeNext, 3) 35 (x_aload 0) 36 := mj_aload_n (j := 0) rfl (by decide +kernel)
theorem i_Sm_takeNext_36 : mj_Snd zG ("StreamWatch$Stream", "takeNext", c_Sm_takeNext, 3) 36 (x_getf 8 1) 39 := mj_getf (T := T_Sm) rfl (by decide) u_Sm z1_103 (by decide +kernel)
theorem i_Sm_takeNext_39 : mj_Snd zG ("StreamWatch$Stream", "takeNext", c_Sm_takeNext, 3) 39 (x_iload 1) 40 := mj_iload_n (j := 1) rfl (by decide +kernel)
theorem i_Sm_takeNext_40 : mj_Snd zG ("StreamWatch$Stream", "takeNext", c_Sm_takeNext, 3) 40 (x_iald 0) 41 := mj_iald rfl (by decide +kernel)
theorem i_Sm_takeNext_41 : mj_Snd zG ("StreamWatch$Stream", "takeNext", c_Sm_takeNext, 3) 41 (x_iast 0) 42 := mj_iast rfl (by decide +kernel)
theorem i_Sm_takeNext_42 : mj_Snd zG ("StreamWatch$Stream", "takeNext", c_Sm_takeNext, 3) 42 (x_aload 0) 43 := mj_aload_n (j := 0) rfl (by decide +kernel)
theorem i_Sm_takeNext_43 : mj_Snd zG ("StreamWatch$Stream", "takeNext", c_Sm_takeNext, 3) 43 (x_dup) 44 := mj_dup (by decide +kernel)
theorem i_Sm_takeNext_44 : mj_Snd zG ("StreamWatch$Stream", "takeNext", c_Sm_takeNext, 3) 44 (x_getf 8 2) 47 := mj_getf (T := T_Sm) rfl (by decide) u_Sm z1_104 (by decide +kernel)
theorem i_Sm_takeNext_47 : mj_Snd zG ("StreamWatch$Stream", "takeNext", c_Sm_takeNext, 3) 47 (x_const 1) 48 := mj_const (n := 1) (by decide) (by decide +kernel)
theorem i_Sm_takeNext_48 : mj_Snd zG ("StreamWatch$Stream", "takeNext", c_Sm_takeNext, 3) 48 (x_iadd) 49 := mj_iadd (by decide +kernel)
theorem i_Sm_takeNext_49 : mj_Snd zG ("StreamWatch$Stream", "takeNext", c_Sm_takeNext, 3) 49 (x_putf 8 2 0) 52 := mj_putG (T := T_Sm) (ty0 := t_Sm) rfl (by decide) u_Sm t_Sm_ok n_Sm z1_104 (Or.inl rfl) (by decide +kernel)
theorem i_Sm_takeNext_52 : mj_Snd zG ("StreamWatch$Stream", "takeNext", c_Sm_takeNext, 3) 52 (x_aload 0) 53 := mj_aload_n (j := 0) rfl (by decide +kernel)
theorem i_Sm_takeNext_53 : mj_Snd zG ("StreamWatch$Stream", "takeNext", c_Sm_takeNext, 3) 53 (x_getf 8 1) 56 := mj_getf (T := T_Sm) rfl (by decide) u_Sm z1_103 (by decide +kernel)
theorem i_Sm_takeNext_56 : mj_Snd zG ("StreamWatch$Stream", "takeNext", c_Sm_takeNext, 3) 56 (x_iload 1) 57 := mj_iload_n (j := 1) rfl (by decide +kernel)
theorem i_Sm_takeNext_57 : mj_Snd zG ("StreamWatch$Stream", "takeNext", c_Sm_takeNext, 3) 57 (x_const (-1)) 58 := mj_const (n := (-1)) (by decide) (by decide +kernel)
theorem i_Sm_takeNext_58 : mj_Snd zG ("StreamWatch$Stream", "takeNext", c_Sm_takeNext, 3) 58 (x_iast 0) 59 := mj_iast rfl (by decide +kernel)
theorem i_Sm_takeNext_59 : mj_Snd zG ("StreamWatch$Stream", "takeNext", c_Sm_takeNext, 3) 59 (x_aload 0) 60 := mj_aload_n (j := 0) rfl (by decide +kernel)
theorem i_Sm_takeNext_60 : mj_Snd zG ("StreamWatch$Stream", "takeNext", c_Sm_takeNext, 3) 60 (x_dup) 61 := mj_dup (by decide +kernel)
theorem i_Sm_takeNext_61 : mj_Snd zG ("StreamWatch$Stream", "takeNext", c_Sm_takeNext, 3) 61 (x_getf 8 3) 64 := mj_getf (T := T_Sm) rfl (by decide) u_Sm z1_105 (by decide +kernel)
theorem i_Sm_takeNext_64 : mj_Snd zG ("StreamWatch$Stream", "takeNext", c_Sm_takeNext, 3) 64 (x_const 1) 65 := mj_const (n := 1) (by decide) (by decide +kernel)
theorem i_Sm_takeNext_65 : mj_Snd zG ("StreamWatch$Stream", "takeNext", c_Sm_takeNext, 3) 65 (x_isub) 66 := mj_isub (by decide +kernel)
theorem i_Sm_takeNext_66 : mj_Snd zG ("StreamWatch$Stream", "takeNext", c_Sm_takeNext, 3) 66 (x_putf 8 3 0) 69 := mj_putG (T := T_Sm) (ty0 := t_Sm) rfl (by decide) u_Sm t_Sm_ok n_Sm z1_105 (Or.inl rfl) (by decide +kernel)
theorem i_Sm_takeNext_69 : mj_Snd zG ("StreamWatch$Stream", "takeNext", c_Sm_takeNext, 3) 69 (x_aload 0) 70 := mj_aload_n (j := 0) rfl (by decide +kernel)
theorem i_Sm_takeNext_70 : mj_Snd zG ("StreamWatch$Stream", "takeNext", c_Sm_takeNext, 3) 70 (x_dup) 71 := mj_dup (by decide +kernel)
theorem i_Sm_takeNext_71 : mj_Snd zG ("StreamWatch$Stream", "takeNext", c_Sm_takeNext, 3) 71 (x_getf 8 4) 74 := mj_getf (T := T_Sm) rfl (by decide) u_Sm z1_106 (by decide +kernel)
theorem i_Sm_takeNext_74 : mj_Snd zG ("StreamWatch$Stream", "takeNext", c_Sm_takeNext, 3) 74 (x_const 1) 75 := mj_const (n := 1) (by decide) (by decide +kernel)
theorem i_Sm_takeNext_75 : mj_Snd zG ("StreamWatch$Stream", "takeNext", c_Sm_takeNext, 3) 75 (x_iadd) 76 := mj_iadd (by decide +kernel)
theorem i_Sm_takeNext_76 : mj_Snd zG ("StreamWatch$Stream", "takeNext", c_Sm_takeNext, 3) 76 (x_putf 8 4 0) 79 := mj_putG (T := T_Sm) (ty0 := t_Sm) rfl (by decide) u_Sm t_Sm_ok n_Sm z1_106 (Or.inl rfl) (by decide +kernel)
theorem i_Sm_takeNext_79 : mj_Snd zG ("StreamWatch$Stream", "takeNext", c_Sm_takeNext, 3) 79 (x_iload 2) 80 := mj_iload_n (j := 2) rfl (by decide +kernel)
theorem d_Sm_takeNext_80 : decode c_Sm_takeNext 80 = .ok (.ireturn, 1) := by decide +kernel
theorem b_Sm_takeNext_0 : mj_Ch zG ("StreamWatch$Stream", "takeNext", c_Sm_takeNext, 3) 0 [x_aload 0, x_getf 8 4] 4 := ⟨_, i_Sm_takeNext_0, _, i_Sm_takeNext_1, rfl⟩
theorem b_Sm_takeNext_7 : mj_Ch zG ("StreamWatch$Stream", "takeNext", c_Sm_takeNext, 3) 7 [x_istore 1, x_aload 0, x_getf 8 2, x_const 80] 14 := ⟨_, i_Sm_takeNext_7, _, i_Sm_takeNext_8, _, i_Sm_takeNext_9, _, i_Sm_takeNext_12, rfl⟩
theorem b_Sm_takeNext_17 : mj_Ch zG ("StreamWatch$Stream", "takeNext", c_Sm_takeNext, 3) 17 [x_const 1, x_skip] 22 := ⟨_, i_Sm_takeNext_17, _, i_Sm_takeNext_18, rfl⟩
theorem b_Sm_takeNext_21 : mj_Ch zG ("StreamWatch$Stream", "takeNext", c_Sm_takeNext, 3) 21 [x_const 0] 22 := ⟨_, i_Sm_takeNext_21, rfl⟩
theorem b_Sm_takeNext_22 : mj_Ch zG ("StreamWatch$Stream", "takeNext", c_Sm_takeNext, 3) 22 [x_istore 2, x_iload 2] 24 := ⟨_, i_Sm_takeNext_22, _, i_Sm_takeNext_23, rfl⟩
theorem b_Sm_takeNext_27 : mj_Ch zG ("StreamWatch$Stream", "takeNext", c_Sm_takeNext, 3) 27 [x_aload 0, x_getf 8 0, x_aload 0, x_getf 8 2, x_aload 0, x_getf 8 1, x_iload 1, x_iald 0, x_iast 0, x_aload 0, x_dup, x_getf 8 2, x_const 1, x_iadd, x_putf 8 2 0] 52 := ⟨_, i_Sm_takeNext_27, _, i_Sm_takeNext_28, _, i_Sm_takeNext_31, _, i_Sm_takeNext_32, _, i_Sm_takeNext_35, _, i_Sm_takeNext_36, _, i_Sm_takeNext_39, _, i_Sm_takeNext_40, _, i_Sm_takeNext_41, _, i_Sm_takeNext_42, _, i_Sm_takeNext_43, _, i_Sm_takeNext_44, _, i_Sm_takeNext_47, _, i_Sm_takeNext_48, _, i_Sm_takeNext_49, rfl⟩
theorem b_Sm_takeNext_52 : mj_Ch zG ("StreamWatch$Stream", "takeNext", c_Sm_takeNext, 3) 52 [x_aload 0, x_getf 8 1, x_iload 1, x_const (-1), x_iast 0, x_aload 0, x_dup, x_getf 8 3, x_const 1, x_isub, x_putf 8 3 0, x_aload 0, x_dup, x_getf 8 4, x_const 1, x_iadd, x_putf 8 4 0, x_iload 2] 80 := ⟨_, i_Sm_takeNext_52, _, i_Sm_takeNext_53, _, i_Sm_takeNext_56, _, i_Sm_takeNext_57, _, i_Sm_takeNext_58, _, i_Sm_takeNext_59, _, i_Sm_takeNext_60, _, i_Sm_takeNext_61, _, i_Sm_takeNext_64, _, i_Sm_takeNext_65, _, i_Sm_takeNext_66, _, i_Sm_takeNext_69, _, i_Sm_takeNext_70, _, i_Sm_takeNext_71, _, i_Sm_takeNext_74, _, i_Sm_takeNext_75, _, i_Sm_takeNext_76, _, i_Sm_takeNext_79, rfl⟩
theorem i_Sm_end_0 : mj_Snd zG ("StreamWatch$Stream", "end", c_Sm_end, 1) 0 (x_aload 0) 1 := mj_aload_n (j := 0) rfl (by decide +kernel)
theorem i_Sm_end_1 : mj_Snd zG ("StreamWatch$Stream", "end", c_Sm_end, 1) 1 (x_const 1) 2 := mj_const (n := 1) (by decide) (by decide +kernel)
theorem i_Sm_end_2 : mj_Snd zG ("StreamWatch$Stream", "end", c_Sm_end, 1) 2 (x_putf 8 7 1) 5 := mj_putG (T := T_Sm) (ty0 := t_Sm) rfl (by decide) u_Sm t_Sm_ok n_Sm z1_109 (Or.inl rfl) (by decide +kernel)
theorem d_Sm_end_5 : decode c_Sm_end 5 = .ok (.return_, 1) := by decide +kernel
theorem b_Sm_end_0 : mj_Ch zG ("StreamWatch$Stream", "end", c_Sm_end, 1) 0 [x_aload 0, x_const 1, x_putf 8 7 1] 5 := ⟨_, i_Sm_end_0, _, i_Sm_end_1, _, i_Sm_end_2, rfl⟩
theorem i_Sm_hasEnded_0 : mj_Snd zG ("StreamWatch$Stream", "hasEnded", c_Sm_hasEnded, 1) 0 (x_aload 0) 1 := mj_aload_n (j := 0) rfl (by decide +kernel)
theorem i_Sm_hasEnded_1 : mj_Snd zG ("StreamWatch$Stream", "hasEnded", c_Sm_hasEnded, 1) 1 (x_getf 8 7) 4 := mj_getf (T := T_Sm) rfl (by decide) u_Sm z1_109 (by decide +kernel)
theorem d_Sm_hasEnded_4 : decode c_Sm_hasEnded 4 = .ok (.ireturn, 1) := by decide +kernel
theorem b_Sm_hasEnded_0 : mj_Ch zG ("StreamWatch$Stream", "hasEnded", c_Sm_hasEnded, 1) 0 [x_aload 0, x_getf 8 7] 4 := ⟨_, i_Sm_hasEnded_0, _, i_Sm_hasEnded_1, rfl⟩
theorem i_Sm_size_0 : mj_Snd zG ("StreamWatch$Stream", "size", c_Sm_size, 1) 0 (x_aload 0) 1 := mj_aload_n (j := 0) rfl (by decide +kernel)
theorem i_Sm_size_1 : mj_Snd zG ("StreamWatch$Stream", "size", c_Sm_size, 1) 1 (x_getf 8 2) 4 := mj_getf (T := T_Sm) rfl (by decide) u_Sm z1_104 (by decide +kernel)
theorem d_Sm_size_4 : decode c_Sm_size 4 = .ok (.ireturn, 1) := by decide +kernel
theorem b_Sm_size_0 : mj_Ch zG ("StreamWatch$Stream", "size", c_Sm_size, 1) 0 [x_aload 0, x_getf 8 2] 4 := ⟨_, i_Sm_size_0, _, i_Sm_size_1, rfl⟩
theorem i_Sm_next_0 : mj_Snd zG ("StreamWatch$Stream", "next", c_Sm_next, 1) 0 (x_aload 0) 1 := mj_aload_n (j := 0) rfl (by decide +kernel)
theorem i_Sm_next_1 : mj_Snd zG ("StreamWatch$Stream", "next", c_Sm_next, 1) 1 (x_getf 8 4) 4 := mj_getf (T := T_Sm) rfl (by decide) u_Sm z1_106 (by decide +kernel)
theorem d_Sm_next_4 : decode c_Sm_next 4 = .ok (.ireturn, 1) := by decide +kernel
theorem b_Sm_next_0 : mj_Ch zG ("StreamWatch$Stream", "next", c_Sm_next, 1) 0 [x_aload 0, x_getf 8 4] 4 := ⟨_, i_Sm_next_0, _, i_Sm_next_1, rfl⟩
theorem i_Sm_heldCount_0 : mj_Snd zG ("StreamWatch$Stream", "heldCount", c_Sm_heldCount, 1) 0 (x_aload 0) 1 := mj_aload_n (j := 0) rfl (by decide +kernel)
theorem i_Sm_heldCount_1 : mj_Snd zG ("StreamWatch$Stream", "heldCount", c_Sm_heldCount, 1) 1 (x_getf 8 3) 4 := mj_getf (T := T_Sm) rfl (by decide) u_Sm z1_105 (by decide +kernel)
theorem d_Sm_heldCount_4 : decode c_Sm_heldCount 4 = .ok (.ireturn, 1) := by decide +kernel
theorem b_Sm_heldCount_0 : mj_Ch zG ("StreamWatch$Stream", "heldCount", c_Sm_heldCount, 1) 0 [x_aload 0, x_getf 8 3] 4 := ⟨_, i_Sm_heldCount_0, _, i_Sm_heldCount_1, rfl⟩
theorem i_Sm_byteAt_0 : mj_Snd zG ("StreamWatch$Stream", "byteAt", c_Sm_byteAt, 2) 0 (x_iload 1) 1 := mj_iload_n (j := 1) rfl (by decide +kernel)
theorem d_Sm_byteAt_1 : decode c_Sm_byteAt 1 = .ok (.ifCond .lt 20, 3) := by decide +kernel
theorem i_Sm_byteAt_4 : mj_Snd zG ("StreamWatch$Stream", "byteAt", c_Sm_byteAt, 2) 4 (x_iload 1) 5 := mj_iload_n (j := 1) rfl (by decide +kernel)
theorem i_Sm_byteAt_5 : mj_Snd zG ("StreamWatch$Stream", "byteAt", c_Sm_byteAt, 2) 5 (x_aload 0) 6 := mj_aload_n (j := 0) rfl (by decide +kernel)
theorem i_Sm_byteAt_6 : mj_Snd zG ("StreamWatch$Stream", "byteAt", c_Sm_byteAt, 2) 6 (x_getf 8 2) 9 := mj_getf (T := T_Sm) rfl (by decide) u_Sm z1_104 (by decide +kernel)
theorem d_Sm_byteAt_9 : decode c_Sm_byteAt 9 = .ok (.if_icmp .ge 12, 3) := by decide +kernel
theorem i_Sm_byteAt_12 : mj_Snd zG ("StreamWatch$Stream", "byteAt", c_Sm_byteAt, 2) 12 (x_aload 0) 13 := mj_aload_n (j := 0) rfl (by decide +kernel)
theorem i_Sm_byteAt_13 : mj_Snd zG ("StreamWatch$Stream", "byteAt", c_Sm_byteAt, 2) 13 (x_getf 8 0) 16 := mj_getf (T := T_Sm) rfl (by decide) u_Sm z1_102 (by decide +kernel)
theorem i_Sm_byteAt_16 : mj_Snd zG ("StreamWatch$Stream", "byteAt", c_Sm_byteAt, 2) 16 (x_iload 1) 17 := mj_iload_n (j := 1) rfl (by decide +kernel)
theorem i_Sm_byteAt_17 : mj_Snd zG ("StreamWatch$Stream", "byteAt", c_Sm_byteAt, 2) 17 (x_iald 0) 18 := mj_iald rfl (by decide +kernel)
theorem i_Sm_byteAt_18 : mj_Snd zG ("StreamWatch$Stream", "byteAt", c_Sm_byteAt, 2) 18 (x_skip) 22 := mj_goto (off := 4) (by decide) (by decide +kernel)
theorem i_Sm_byteAt_21 : mj_Snd zG ("StreamWatch$Stream", "byteAt", c_Sm_byteAt, 2) 21 (x_const (-1)) 22 := mj_const (n := (-1)) (by decide) (by decide +kernel)
theorem d_Sm_byteAt_22 : decode c_Sm_byteAt 22 = .ok (.ireturn, 1) := by decide +kernel
theorem b_Sm_byteAt_0 : mj_Ch zG ("StreamWatch$Stream", "byteAt", c_Sm_byteAt, 2) 0 [x_iload 1] 1 := ⟨_, i_Sm_byteAt_0, rfl⟩
theorem b_Sm_byteAt_4 : mj_Ch zG ("StreamWatch$Stream", "byteAt", c_Sm_byteAt, 2) 4 [x_iload 1, x_aload 0, x_getf 8 2] 9 := ⟨_, i_Sm_byteAt_4, _, i_Sm_byteAt_5, _, i_Sm_byteAt_6, rfl⟩
theorem b_Sm_byteAt_12 : mj_Ch zG ("StreamWatch$Stream", "byteAt", c_Sm_byteAt, 2) 12 [x_aload 0, x_getf 8 0, x_iload 1, x_iald 0, x_skip] 22 := ⟨_, i_Sm_byteAt_12, _, i_Sm_byteAt_13, _, i_Sm_byteAt_16, _, i_Sm_byteAt_17, _, i_Sm_byteAt_18, rfl⟩
theorem b_Sm_byteAt_21 : mj_Ch zG ("StreamWatch$Stream", "byteAt", c_Sm_byteAt, 2) 21 [x_const (-1)] 22 := ⟨_, i_Sm_byteAt_21, rfl⟩
theorem i_Sm_hasRaised_0 : mj_Snd zG ("StreamWatch$Stream", "hasRaised", c_Sm_hasRaised, 2) 0 (x_aload 0) 1 := mj_aload_n (j := 0) rfl (by decide +kernel)
theorem i_Sm_hasRaised_1 : mj_Snd zG ("StreamWatch$Stream", "hasRaised", c_Sm_hasRaised, 2) 1 (x_getf 8 5) 4 := mj_getf (T := T_Sm) rfl (by decide) u_Sm z1_107 (by decide +kernel)
theorem i_Sm_hasRaised_4 : mj_Snd zG ("StreamWatch$Stream", "hasRaised", c_Sm_hasRaised, 2) 4 (x_const 1) 5 := mj_const (n := 1) (by decide) (by decide +kernel)
theorem i_Sm_hasRaised_5 : mj_Snd zG ("StreamWatch$Stream", "hasRaised", c_Sm_hasRaised, 2) 5 (x_iload 1) 6 := mj_iload_n (j := 1) rfl (by decide +kernel)
theorem i_Sm_hasRaised_6 : mj_Snd zG ("StreamWatch$Stream", "hasRaised", c_Sm_hasRaised, 2) 6 (x_ishl) 7 := mj_ishl (by decide +kernel)
theorem i_Sm_hasRaised_7 : mj_Snd zG ("StreamWatch$Stream", "hasRaised", c_Sm_hasRaised, 2) 7 (x_iand) 8 := mj_iand (by decide +kernel)
theorem d_Sm_hasRaised_8 : decode c_Sm_hasRaised 8 = .ok (.ifCond .eq 7, 3) := by decide +kernel
theorem i_Sm_hasRaised_11 : mj_Snd zG ("StreamWatch$Stream", "hasRaised", c_Sm_hasRaised, 2) 11 (x_const 1) 12 := mj_const (n := 1) (by decide) (by decide +kernel)
theorem i_Sm_hasRaised_12 : mj_Snd zG ("StreamWatch$Stream", "hasRaised", c_Sm_hasRaised, 2) 12 (x_skip) 16 := mj_goto (off := 4) (by decide) (by decide +kernel)
theorem i_Sm_hasRaised_15 : mj_Snd zG ("StreamWatch$Stream", "hasRaised", c_Sm_hasRaised, 2) 15 (x_const 0) 16 := mj_const (n := 0) (by decide) (by decide +kernel)
theorem d_Sm_hasRaised_16 : decode c_Sm_hasRaised 16 = .ok (.ireturn, 1) := by decide +kernel
theorem b_Sm_hasRaised_0 : mj_Ch zG ("StreamWatch$Stream", "hasRaised", c_Sm_hasRaised, 2) 0 [x_aload 0, x_getf 8 5, x_const 1, x_iload 1, x_ishl, x_iand] 8 := ⟨_, i_Sm_hasRaised_0, _, i_Sm_hasRaised_1, _, i_Sm_hasRaised_4, _, i_Sm_hasRaised_5, _, i_Sm_hasRaised_6, _, i_Sm_hasRaised_7, rfl⟩
theorem b_Sm_hasRaised_11 : mj_Ch zG ("StreamWatch$Stream", "hasRaised", c_Sm_hasRaised, 2) 11 [x_const 1, x_skip] 16 := ⟨_, i_Sm_hasRaised_11, _, i_Sm_hasRaised_12, rfl⟩
theorem b_Sm_hasRaised_15 : mj_Ch zG ("StreamWatch$Stream", "hasRaised", c_Sm_hasRaised, 2) 15 [x_const 0] 16 := ⟨_, i_Sm_hasRaised_15, rfl⟩
theorem i_Sm_setRaised_0 : mj_Snd zG ("StreamWatch$Stream", "setRaised", c_Sm_setRaised, 2) 0 (x_aload 0) 1 := mj_aload_n (j := 0) rfl (by decide +kernel)
theorem i_Sm_setRaised_1 : mj_Snd zG ("StreamWatch$Stream", "setRaised", c_Sm_setRaised, 2) 1 (x_dup) 2 := mj_dup (by decide +kernel)
theorem i_Sm_setRaised_2 : mj_Snd zG ("StreamWatch$Stream", "setRaised", c_Sm_setRaised, 2) 2 (x_getf 8 5) 5 := mj_getf (T := T_Sm) rfl (by decide) u_Sm z1_107 (by decide +kernel)
theorem i_Sm_setRaised_5 : mj_Snd zG ("StreamWatch$Stream", "setRaised", c_Sm_setRaised, 2) 5 (x_const 1) 6 := mj_const (n := 1) (by decide) (by decide +kernel)
theorem i_Sm_setRaised_6 : mj_Snd zG ("StreamWatch$Stream", "setRaised", c_Sm_setRaised, 2) 6 (x_iload 1) 7 := mj_iload_n (j := 1) rfl (by decide +kernel)
theorem i_Sm_setRaised_7 : mj_Snd zG ("StreamWatch$Stream", "setRaised", c_Sm_setRaised, 2) 7 (x_ishl) 8 := mj_ishl (by decide +kernel)
theorem i_Sm_setRaised_8 : mj_Snd zG ("StreamWatch$Stream", "setRaised", c_Sm_setRaised, 2) 8 (x_ior) 9 := mj_ior (by decide +kernel)
theorem i_Sm_setRaised_9 : mj_Snd zG ("StreamWatch$Stream", "setRaised", c_Sm_setRaised, 2) 9 (x_putf 8 5 0) 12 := mj_putG (T := T_Sm) (ty0 := t_Sm) rfl (by decide) u_Sm t_Sm_ok n_Sm z1_107 (Or.inl rfl) (by decide +kernel)
theorem d_Sm_setRaised_12 : decode c_Sm_setRaised 12 = .ok (.return_, 1) := by decide +kernel
theorem b_Sm_setRaised_0 : mj_Ch zG ("StreamWatch$Stream", "setRaised", c_Sm_setRaised, 2) 0 [x_aload 0, x_dup, x_getf 8 5, x_const 1, x_iload 1, x_ishl, x_ior, x_putf 8 5 0] 12 := ⟨_, i_Sm_setRaised_0, _, i_Sm_setRaised_1, _, i_Sm_setRaised_2, _, i_Sm_setRaised_5, _, i_Sm_setRaised_6, _, i_Sm_setRaised_7, _, i_Sm_setRaised_8, _, i_Sm_setRaised_9, rfl⟩
theorem i_Sm_emptyWindow_0 : mj_Snd zG ("StreamWatch$Stream", "emptyWindow", c_Sm_emptyWindow, 2) 0 (x_const 0) 1 := mj_const (n := 0) (by decide) (by decide +kernel)
theorem i_Sm_emptyWindow_1 : mj_Snd zG ("StreamWatch$Stream", "emptyWindow", c_Sm_emptyWindow, 2) 1 (x_istore 1) 2 := mj_istore_n (j := 1) rfl (by decide) (by decide +kernel)
theorem i_Sm_emptyWindow_2 : mj_Snd zG ("StreamWatch$Stream", "emptyWindow", c_Sm_emptyWindow, 2) 2 (x_iload 1) 3 := mj_iload_n (j := 1) rfl (by decide +kernel)
theorem i_Sm_emptyWindow_3 : mj_Snd zG ("StreamWatch$Stream", "emptyWindow", c_Sm_emptyWindow, 2) 3 (x_const 32) 5 := mj_bipush (n := 32) (by decide) (by decide +kernel)
theorem d_Sm_emptyWindow_5 : decode c_Sm_emptyWindow 5 = .ok (.if_icmp .ge 16, 3) := by decide +kernel
theorem i_Sm_emptyWindow_8 : mj_Snd zG ("StreamWatch$Stream", "emptyWindow", c_Sm_emptyWindow, 2) 8 (x_aload 0) 9 := mj_aload_n (j := 0) rfl (by decide +kernel)
theorem i_Sm_emptyWindow_9 : mj_Snd zG ("StreamWatch$Stream", "emptyWindow", c_Sm_emptyWindow, 2) 9 (x_getf 8 1) 12 := mj_getf (T := T_Sm) rfl (by decide) u_Sm z1_103 (by decide +kernel)
theorem i_Sm_emptyWindow_12 : mj_Snd zG ("StreamWatch$Stream", "emptyWindow", c_Sm_emptyWindow, 2) 12 (x_iload 1) 13 := mj_iload_n (j := 1) rfl (by decide +kernel)
theorem i_Sm_emptyWindow_13 : mj_Snd zG ("StreamWatch$Stream", "emptyWindow", c_Sm_emptyWindow, 2) 13 (x_const (-1)) 14 := mj_const (n := (-1)) (by decide) (by decide +kernel)
theorem i_Sm_emptyWindow_14 : mj_Snd zG ("StreamWatch$Stream", "emptyWindow", c_Sm_emptyWindow, 2) 14 (x_iast 0) 15 := mj_iast rfl (by decide +kernel)
theorem i_Sm_emptyWindow_15 : mj_Snd zG ("StreamWatch$Stream", "emptyWindow", c_Sm_emptyWindow, 2) 15 (x_iinc 1 1) 18 := mj_iinc (n := 1) (by decide) (by decide) (by decide +kernel)
theorem i_Sm_emptyWindow_18 : mj_Snd zG ("StreamWatch$Stream", "emptyWindow", c_Sm_emptyWindow, 2) 18 (x_skip) 2 := mj_goto (off := (-16)) (by decide) (by decide +kernel)
theorem i_Sm_emptyWindow_21 : mj_Snd zG ("StreamWatch$Stream", "emptyWindow", c_Sm_emptyWindow, 2) 21 (x_aload 0) 22 := mj_aload_n (j := 0) rfl (by decide +kernel)
theorem i_Sm_emptyWindow_22 : mj_Snd zG ("StreamWatch$Stream", "emptyWindow", c_Sm_emptyWindow, 2) 22 (x_const 0) 23 := mj_const (n := 0) (by decide) (by decide +kernel)
theorem i_Sm_emptyWindow_23 : mj_Snd zG ("StreamWatch$Stream", "emptyWindow", c_Sm_emptyWindow, 2) 23 (x_putf 8 3 0) 26 := mj_putG (T := T_Sm) (ty0 := t_Sm) rfl (by decide) u_Sm t_Sm_ok n_Sm z1_105 (Or.inl rfl) (by decide +kernel)
theorem d_Sm_emptyWindow_26 : decode c_Sm_emptyWindow 26 = .ok (.return_, 1) := by decide +kernel
theorem b_Sm_emptyWindow_0 : mj_Ch zG ("StreamWatch$Stream", "emptyWindow", c_Sm_emptyWindow, 2) 0 [x_const 0, x_istore 1] 2 := ⟨_, i_Sm_emptyWindow_0, _, i_Sm_emptyWindow_1, rfl⟩
theorem b_Sm_emptyWindow_2 : mj_Ch zG ("StreamWatch$Stream", "emptyWindow", c_Sm_emptyWindow, 2) 2 [x_iload 1, x_const 32] 5 := ⟨_, i_Sm_emptyWindow_2, _, i_Sm_emptyWindow_3, rfl⟩
theorem b_Sm_emptyWindow_8 : mj_Ch zG ("StreamWatch$Stream", "emptyWindow", c_Sm_emptyWindow, 2) 8 [x_aload 0, x_getf 8 1, x_iload 1, x_const (-1), x_iast 0, x_iinc 1 1, x_skip] 2 := ⟨_, i_Sm_emptyWindow_8, _, i_Sm_emptyWindow_9, _, i_Sm_emptyWindow_12, _, i_Sm_emptyWindow_13, _, i_Sm_emptyWindow_14, _, i_Sm_emptyWindow_15, _, i_Sm_emptyWindow_18, rfl⟩
theorem b_Sm_emptyWindow_21 : mj_Ch zG ("StreamWatch$Stream", "emptyWindow", c_Sm_emptyWindow, 2) 21 [x_aload 0, x_const 0, x_putf 8 3 0] 26 := ⟨_, i_Sm_emptyWindow_21, _, i_Sm_emptyWindow_22, _, i_Sm_emptyWindow_23, rfl⟩
theorem i_Sm_placeOf_0 : mj_Snd zG ("StreamWatch$Stream", "placeOf", c_Sm_placeOf, 1) 0 (x_iload 0) 1 := mj_iload_n (j := 0) rfl (by decide +kernel)
theorem i_Sm_placeOf_1 : mj_Snd zG ("StreamWatch$Stream", "placeOf", c_Sm_placeOf, 1) 1 (x_const 31) 3 := mj_bipush (n := 31) (by decide) (by decide +kernel)
theorem i_Sm_placeOf_3 : mj_Snd zG ("StreamWatch$Stream", "placeOf", c_Sm_placeOf, 1) 3 (x_iand) 4 := mj_iand (by decide +kernel)
theorem d_Sm_placeOf_4 : decode c_Sm_placeOf 4 = .ok (.ireturn, 1) := by decide +kernel
theorem b_Sm_placeOf_0 : mj_Ch zG ("StreamWatch$Stream", "placeOf", c_Sm_placeOf, 1) 0 [x_iload 0, x_const 31, x_iand] 4 := ⟨_, i_Sm_placeOf_0, _, i_Sm_placeOf_1, _, i_Sm_placeOf_3, rfl⟩
end
section
theorem i_Wi_init_0 : mj_Snd zG ("StreamWatch$Wire", "<init>", c_Wi_init, 1) 0 (x_aload 0) 1 := mj_aload_n (j := 0) rfl (by decide +kernel)
theorem d_Wi_init_1 : decode c_Wi_init 1 = .ok (.invokespecial 1, 3) := by decide +kernel
theorem i_Wi_init_4 : mj_Snd zG ("StreamWatch$Wire", "<init>", c_Wi_init, 1) 4 (x_aload 0) 5 := mj_aload_n (j := 0) rfl (by decide +kernel)
theorem i_Wi_init_5 : mj_Snd zG ("StreamWatch$Wire", "<init>", c_Wi_init, 1) 5 (x_const 100) 7 := mj_bipush (n := 100) (by decide) (by decide +kernel)
theorem d_Wi_init_7 : decode c_Wi_init 7 = .ok (.newarray .int, 2) := by decide +kernel
theorem i_Wi_init_9 : mj_Snd zG ("StreamWatch$Wire", "<init>", c_Wi_init, 1) 9 (x_putf 9 0 3) 12 := mj_putG (T := T_Wi) (ty0 := t_Wi) rfl (by decide) u_Wi t_Wi_ok n_Wi z1_33 (Or.inr ⟨rfl, rfl, rfl⟩) (by decide +kernel)
theorem i_Wi_init_12 : mj_Snd zG ("StreamWatch$Wire", "<init>", c_Wi_init, 1) 12 (x_aload 0) 13 := mj_aload_n (j := 0) rfl (by decide +kernel)
theorem i_Wi_init_13 : mj_Snd zG ("StreamWatch$Wire", "<init>", c_Wi_init, 1) 13 (x_const 0) 14 := mj_const (n := 0) (by decide) (by decide +kernel)
theorem i_Wi_init_14 : mj_Snd zG ("StreamWatch$Wire", "<init>", c_Wi_init, 1) 14 (x_putf 9 1 0) 17 := mj_putG (T := T_Wi) (ty0 := t_Wi) rfl (by decide) u_Wi t_Wi_ok n_Wi z1_34 (Or.inl rfl) (by decide +kernel)
theorem d_Wi_init_17 : decode c_Wi_init 17 = .ok (.return_, 1) := by decide +kernel
theorem b_Wi_init_0 : mj_Ch zG ("StreamWatch$Wire", "<init>", c_Wi_init, 1) 0 [x_aload 0] 1 := ⟨_, i_Wi_init_0, rfl⟩
theorem b_Wi_init_4 : mj_Ch zG ("StreamWatch$Wire", "<init>", c_Wi_init, 1) 4 [x_aload 0, x_const 100] 7 := ⟨_, i_Wi_init_4, _, i_Wi_init_5, rfl⟩
theorem b_Wi_init_9 : mj_Ch zG ("StreamWatch$Wire", "<init>", c_Wi_init, 1) 9 [x_putf 9 0 3, x_aload 0, x_const 0, x_putf 9 1 0] 17 := ⟨_, i_Wi_init_9, _, i_Wi_init_12, _, i_Wi_init_13, _, i_Wi_init_14, rfl⟩
theorem i_Wi_size_0 : mj_Snd zG ("StreamWatch$Wire", "size", c_Wi_size, 1) 0 (x_aload 0) 1 := mj_aload_n (j := 0) rfl (by decide +kernel)
theorem i_Wi_size_1 : mj_Snd zG ("StreamWatch$Wire", "size", c_Wi_size, 1) 1 (x_getf 9 1) 4 := mj_getf (T := T_Wi) rfl (by decide) u_Wi z1_34 (by decide +kernel)
theorem d_Wi_size_4 : decode c_Wi_size 4 = .ok (.ireturn, 1) := by decide +kernel
theorem b_Wi_size_0 : mj_Ch zG ("StreamWatch$Wire", "size", c_Wi_size, 1) 0 [x_aload 0, x_getf 9 1] 4 := ⟨_, i_Wi_size_0, _, i_Wi_size_1, rfl⟩
theorem i_Wi_has_0 : mj_Snd zG ("StreamWatch$Wire", "has", c_Wi_has, 2) 0 (x_iload 1) 1 := mj_iload_n (j := 1) rfl (by decide +kernel)
theorem d_Wi_has_1 : decode c_Wi_has 1 = .ok (.ifCond .lt 15, 3) := by decide +kernel
theorem i_Wi_has_4 : mj_Snd zG ("StreamWatch$Wire", "has", c_Wi_has, 2) 4 (x_iload 1) 5 := mj_iload_n (j := 1) rfl (by decide +kernel)
theorem i_Wi_has_5 : mj_Snd zG ("StreamWatch$Wire", "has", c_Wi_has, 2) 5 (x_aload 0) 6 := mj_aload_n (j := 0) rfl (by decide +kernel)
theorem i_Wi_has_6 : mj_Snd zG ("StreamWatch$Wire", "has", c_Wi_has, 2) 6 (x_getf 9 1) 9 := mj_getf (T := T_Wi) rfl (by decide) u_Wi z1_34 (by decide +kernel)
theorem d_Wi_has_9 : decode c_Wi_has 9 = .ok (.if_icmp .ge 7, 3) := by decide +kernel
theorem i_Wi_has_12 : mj_Snd zG ("StreamWatch$Wire", "has", c_Wi_has, 2) 12 (x_const 1) 13 := mj_const (n := 1) (by decide) (by decide +kernel)
theorem i_Wi_has_13 : mj_Snd zG ("StreamWatch$Wire", "has", c_Wi_has, 2) 13 (x_skip) 17 := mj_goto (off := 4) (by decide) (by decide +kernel)
theorem i_Wi_has_16 : mj_Snd zG ("StreamWatch$Wire", "has", c_Wi_has, 2) 16 (x_const 0) 17 := mj_const (n := 0) (by decide) (by decide +kernel)
theorem d_Wi_has_17 : decode c_Wi_has 17 = .ok (.ireturn, 1) := by decide +kernel
theorem b_Wi_has_0 : mj_Ch zG ("StreamWatch$Wire", "has", c_Wi_has, 2) 0 [x_iload 1] 1 := ⟨_, i_Wi_has_0, rfl⟩
theorem b_Wi_has_4 : mj_Ch zG ("StreamWatch$Wire", "has", c_Wi_has, 2) 4 [x_iload 1, x_aload 0, x_getf 9 1] 9 := ⟨_, i_Wi_has_4, _, i_Wi_has_5, _, i_Wi_has_6, rfl⟩
theorem b_Wi_has_12 : mj_Ch zG ("StreamWatch$Wire", "has", c_Wi_has, 2) 12 [x_const 1, x_skip] 17 := ⟨_, i_Wi_has_12, _, i_Wi_has_13, rfl⟩
theorem b_Wi_has_16 : mj_Ch zG ("StreamWatch$Wire", "has", c_Wi_has, 2) 16 [x_const 0] 17 := ⟨_, i_Wi_has_16, rfl⟩
theorem i_Wi_at_0 : mj_Snd zG ("StreamWatch$Wire", "at", c_Wi_at, 2) 0 (x_aload 0) 1 := mj_aload_n (j := 0) rfl (by decide +kernel)
theorem i_Wi_at_1 : mj_Snd zG ("StreamWatch$Wire", "at", c_Wi_at, 2) 1 (x_iload 1) 2 := mj_iload_n (j := 1) rfl (by decide +kernel)
theorem d_Wi_at_2 : decode c_Wi_at 2 = .ok (.invokevirtual 17, 3) := by decide +kernel
theorem d_Wi_at_5 : decode c_Wi_at 5 = .ok (.ifCond .eq 12, 3) := by decide +kernel
theorem i_Wi_at_8 : mj_Snd zG ("StreamWatch$Wire", "at", c_Wi_at, 2) 8 (x_aload 0) 9 := mj_aload_n (j := 0) rfl (by decide +kernel)
theorem i_Wi_at_9 : mj_Snd zG ("StreamWatch$Wire", "at", c_Wi_at, 2) 9 (x_getf 9 0) 12 := mj_getf (T := T_Wi) rfl (by decide) u_Wi z1_33 (by decide +kernel)
theorem i_Wi_at_12 : mj_Snd zG ("StreamWatch$Wire", "at", c_Wi_at, 2) 12 (x_iload 1) 13 := mj_iload_n (j := 1) rfl (by decide +kernel)
theorem i_Wi_at_13 : mj_Snd zG ("StreamWatch$Wire", "at", c_Wi_at, 2) 13 (x_iald 0) 14 := mj_iald rfl (by decide +kernel)
theorem i_Wi_at_14 : mj_Snd zG ("StreamWatch$Wire", "at", c_Wi_at, 2) 14 (x_skip) 18 := mj_goto (off := 4) (by decide) (by decide +kernel)
theorem i_Wi_at_17 : mj_Snd zG ("StreamWatch$Wire", "at", c_Wi_at, 2) 17 (x_const 0) 18 := mj_const (n := 0) (by decide) (by decide +kernel)
theorem d_Wi_at_18 : decode c_Wi_at 18 = .ok (.ireturn, 1) := by decide +kernel
theorem b_Wi_at_0 : mj_Ch zG ("StreamWatch$Wire", "at", c_Wi_at, 2) 0 [x_aload 0, x_iload 1] 2 := ⟨_, i_Wi_at_0, _, i_Wi_at_1, rfl⟩
theorem b_Wi_at_8 : mj_Ch zG ("StreamWatch$Wire", "at", c_Wi_at, 2) 8 [x_aload 0, x_getf 9 0, x_iload 1, x_iald 0, x_skip] 18 := ⟨_, i_Wi_at_8, _, i_Wi_at_9, _, i_Wi_at_12, _, i_Wi_at_13, _, i_Wi_at_14, rfl⟩
theorem b_Wi_at_17 : mj_Ch zG ("StreamWatch$Wire", "at", c_Wi_at, 2) 17 [x_const 0] 18 := ⟨_, i_Wi_at_17, rfl⟩
theorem i_Wi_clear_0 : mj_Snd zG ("StreamWatch$Wire", "clear", c_Wi_clear, 1) 0 (x_aload 0) 1 := mj_aload_n (j := 0) rfl (by decide +kernel)
theorem i_Wi_clear_1 : mj_Snd zG ("StreamWatch$Wire", "clear", c_Wi_clear, 1) 1 (x_const 0) 2 := mj_const (n := 0) (by decide) (by decide +kernel)
theorem i_Wi_clear_2 : mj_Snd zG ("StreamWatch$Wire", "clear", c_Wi_clear, 1) 2 (x_putf 9 1 0) 5 := mj_putG (T := T_Wi) (ty0 := t_Wi) rfl (by decide) u_Wi t_Wi_ok n_Wi z1_34 (Or.inl rfl) (by decide +kernel)
theorem d_Wi_clear_5 : decode c_Wi_clear 5 = .ok (.return_, 1) := by decide +kernel
theorem b_Wi_clear_0 : mj_Ch zG ("StreamWatch$Wire", "clear", c_Wi_clear, 1) 0 [x_aload 0, x_const 0, x_putf 9 1 0] 5 := ⟨_, i_Wi_clear_0, _, i_Wi_clear_1, _, i_Wi_clear_2, rfl⟩
theorem i_Wi_flip_0 : mj_Snd zG ("StreamWatch$Wire", "flip", c_Wi_flip, 3) 0 (x_aload 0) 1 := mj_aload_n (j := 0) rfl (by decide +kernel)
theorem i_Wi_flip_1 : mj_Snd zG ("StreamWatch$Wire", "flip", c_Wi_flip, 3) 1 (x_iload 1) 2 := mj_iload_n (j := 1) rfl (by decide +kernel)
theorem d_Wi_flip_2 : decode c_Wi_flip 2 = .ok (.invokevirtual 17, 3) := by decide +kernel
theorem d_Wi_flip_5 : decode c_Wi_flip 5 = .ok (.ifCond .ne 5, 3) := by decide +kernel
theorem i_Wi_flip_8 : mj_Snd zG ("StreamWatch$Wire", "flip", c_Wi_flip, 3) 8 (x_const 0) 9 := mj_const (n := 0) (by decide) (by decide +kernel)
theorem d_Wi_flip_9 : decode c_Wi_flip 9 = .ok (.ireturn, 1) := by decide +kernel
theorem i_Wi_flip_10 : mj_Snd zG ("StreamWatch$Wire", "flip", c_Wi_flip, 3) 10 (x_aload 0) 11 := mj_aload_n (j := 0) rfl (by decide +kernel)
theorem i_Wi_flip_11 : mj_Snd zG ("StreamWatch$Wire", "flip", c_Wi_flip, 3) 11 (x_getf 9 0) 14 := mj_getf (T := T_Wi) rfl (by decide) u_Wi z1_33 (by decide +kernel)
theorem i_Wi_flip_14 : mj_Snd zG ("StreamWatch$Wire", "flip", c_Wi_flip, 3) 14 (x_iload 1) 15 := mj_iload_n (j := 1) rfl (by decide +kernel)
theorem i_Wi_flip_15 : mj_Snd zG ("StreamWatch$Wire", "flip", c_Wi_flip, 3) 15 (x_dup2) 16 := mj_dup2 (by decide +kernel)
theorem i_Wi_flip_16 : mj_Snd zG ("StreamWatch$Wire", "flip", c_Wi_flip, 3) 16 (x_iald 0) 17 := mj_iald rfl (by decide +kernel)
theorem i_Wi_flip_17 : mj_Snd zG ("StreamWatch$Wire", "flip", c_Wi_flip, 3) 17 (x_iload 2) 18 := mj_iload_n (j := 2) rfl (by decide +kernel)
theorem i_Wi_flip_18 : mj_Snd zG ("StreamWatch$Wire", "flip", c_Wi_flip, 3) 18 (x_const 255) 21 := mj_sipush (n := 255) (by decide) (by decide +kernel)
theorem i_Wi_flip_21 : mj_Snd zG ("StreamWatch$Wire", "flip", c_Wi_flip, 3) 21 (x_iand) 22 := mj_iand (by decide +kernel)
theorem i_Wi_flip_22 : mj_Snd zG ("StreamWatch$Wire", "flip", c_Wi_flip, 3) 22 (x_ixor) 23 := mj_ixor (by decide +kernel)
theorem i_Wi_flip_23 : mj_Snd zG ("StreamWatch$Wire", "flip", c_Wi_flip, 3) 23 (x_iast 0) 24 := mj_iast rfl (by decide +kernel)
theorem i_Wi_flip_24 : mj_Snd zG ("StreamWatch$Wire", "flip", c_Wi_flip, 3) 24 (x_const 1) 25 := mj_const (n := 1) (by decide) (by decide +kernel)
theorem d_Wi_flip_25 : decode c_Wi_flip 25 = .ok (.ireturn, 1) := by decide +kernel
theorem b_Wi_flip_0 : mj_Ch zG ("StreamWatch$Wire", "flip", c_Wi_flip, 3) 0 [x_aload 0, x_iload 1] 2 := ⟨_, i_Wi_flip_0, _, i_Wi_flip_1, rfl⟩
theorem b_Wi_flip_8 : mj_Ch zG ("StreamWatch$Wire", "flip", c_Wi_flip, 3) 8 [x_const 0] 9 := ⟨_, i_Wi_flip_8, rfl⟩
theorem b_Wi_flip_10 : mj_Ch zG ("StreamWatch$Wire", "flip", c_Wi_flip, 3) 10 [x_aload 0, x_getf 9 0, x_iload 1, x_dup2, x_iald 0, x_iload 2, x_const 255, x_iand, x_ixor, x_iast 0, x_const 1] 25 := ⟨_, i_Wi_flip_10, _, i_Wi_flip_11, _, i_Wi_flip_14, _, i_Wi_flip_15, _, i_Wi_flip_16, _, i_Wi_flip_17, _, i_Wi_flip_18, _, i_Wi_flip_21, _, i_Wi_flip_22, _, i_Wi_flip_23, _, i_Wi_flip_24, rfl⟩
theorem i_Wi_append_0 : mj_Snd zG ("StreamWatch$Wire", "append", c_Wi_append, 5) 0 (x_iload 1) 1 := mj_iload_n (j := 1) rfl (by decide +kernel)
theorem i_Wi_append_1 : mj_Snd zG ("StreamWatch$Wire", "append", c_Wi_append, 5) 1 (x_const 100) 3 := mj_bipush (n := 100) (by decide) (by decide +kernel)
theorem i_Wi_append_3 : mj_Snd zG ("StreamWatch$Wire", "append", c_Wi_append, 5) 3 (x_aload 0) 4 := mj_aload_n (j := 0) rfl (by decide +kernel)
theorem i_Wi_append_4 : mj_Snd zG ("StreamWatch$Wire", "append", c_Wi_append, 5) 4 (x_getf 9 1) 7 := mj_getf (T := T_Wi) rfl (by decide) u_Wi z1_34 (by decide +kernel)
theorem i_Wi_append_7 : mj_Snd zG ("StreamWatch$Wire", "append", c_Wi_append, 5) 7 (x_isub) 8 := mj_isub (by decide +kernel)
theorem d_Wi_append_8 : decode c_Wi_append 8 = .ok (.if_icmp .le 5, 3) := by decide +kernel
theorem i_Wi_append_11 : mj_Snd zG ("StreamWatch$Wire", "append", c_Wi_append, 5) 11 (x_const 0) 12 := mj_const (n := 0) (by decide) (by decide +kernel)
theorem d_Wi_append_12 : decode c_Wi_append 12 = .ok (.ireturn, 1) := by decide +kernel
theorem i_Wi_append_13 : mj_Snd zG ("StreamWatch$Wire", "append", c_Wi_append, 5) 13 (x_iload 1) 14 := mj_iload_n (j := 1) rfl (by decide +kernel)
theorem i_Wi_append_14 : mj_Snd zG ("StreamWatch$Wire", "append", c_Wi_append, 5) 14 (x_const 1) 15 := mj_const (n := 1) (by decide) (by decide +kernel)
theorem i_Wi_append_15 : mj_Snd zG ("StreamWatch$Wire", "append", c_Wi_append, 5) 15 (x_isub) 16 := mj_isub (by decide +kernel)
theorem i_Wi_append_16 : mj_Snd zG ("StreamWatch$Wire", "append", c_Wi_append, 5) 16 (x_istore 4) 18 := mj_istore (by decide) (by decide +kernel)
theorem i_Wi_append_18 : mj_Snd zG ("StreamWatch$Wire", "append", c_Wi_append, 5) 18 (x_iload 4) 20 := mj_iload (by decide +kernel)
theorem d_Wi_append_20 : decode c_Wi_append 20 = .ok (.ifCond .lt 40, 3) := by decide +kernel
theorem i_Wi_append_23 : mj_Snd zG ("StreamWatch$Wire", "append", c_Wi_append, 5) 23 (x_aload 0) 24 := mj_aload_n (j := 0) rfl (by decide +kernel)
theorem i_Wi_append_24 : mj_Snd zG ("StreamWatch$Wire", "append", c_Wi_append, 5) 24 (x_getf 9 0) 27 := mj_getf (T := T_Wi) rfl (by decide) u_Wi z1_33 (by decide +kernel)
theorem i_Wi_append_27 : mj_Snd zG ("StreamWatch$Wire", "append", c_Wi_append, 5) 27 (x_aload 0) 28 := mj_aload_n (j := 0) rfl (by decide +kernel)
theorem i_Wi_append_28 : mj_Snd zG ("StreamWatch$Wire", "append", c_Wi_append, 5) 28 (x_getf 9 1) 31 := mj_getf (T := T_Wi) rfl (by decide) u_Wi z1_34 (by decide +kernel)
theorem i_Wi_append_31 : mj_Snd zG ("StreamWatch$Wire", "append", c_Wi_append, 5) 31 (x_lload 2) 32 := mj_lload_n (j := 2) rfl (by decide +kernel)
theorem i_Wi_append_32 : mj_Snd zG ("StreamWatch$Wire", "append", c_Wi_append, 5) 32 (x_const 8) 34 := mj_bipush (n := 8) (by decide) (by decide +kernel)
theorem i_Wi_append_34 : mj_Snd zG ("StreamWatch$Wire", "append", c_Wi_append, 5) 34 (x_iload 4) 36 := mj_iload (by decide +kernel)
theorem i_Wi_append_36 : mj_Snd zG ("StreamWatch$Wire", "append", c_Wi_append, 5) 36 (x_imul) 37 := mj_imul (by decide +kernel)
theorem i_Wi_append_37 : mj_Snd zG ("StreamWatch$Wire", "append", c_Wi_append, 5) 37 (x_lushr) 38 := mj_lushr (by decide +kernel)
theorem i_Wi_append_38 : mj_Snd zG ("StreamWatch$Wire", "append", c_Wi_append, 5) 38 (x_l2i) 39 := mj_l2i (by decide +kernel)
theorem i_Wi_append_39 : mj_Snd zG ("StreamWatch$Wire", "append", c_Wi_append, 5) 39 (x_const 255) 42 := mj_sipush (n := 255) (by decide) (by decide +kernel)
theorem i_Wi_append_42 : mj_Snd zG ("StreamWatch$Wire", "append", c_Wi_append, 5) 42 (x_iand) 43 := mj_iand (by decide +kernel)
theorem i_Wi_append_43 : mj_Snd zG ("StreamWatch$Wire", "append", c_Wi_append, 5) 43 (x_iast 0) 44 := mj_iast rfl (by decide +kernel)
theorem i_Wi_append_44 : mj_Snd zG ("StreamWatch$Wire", "append", c_Wi_append, 5) 44 (x_aload 0) 45 := mj_aload_n (j := 0) rfl (by decide +kernel)
theorem i_Wi_append_45 : mj_Snd zG ("StreamWatch$Wire", "append", c_Wi_append, 5) 45 (x_dup) 46 := mj_dup (by decide +kernel)
theorem i_Wi_append_46 : mj_Snd zG ("StreamWatch$Wire", "append", c_Wi_append, 5) 46 (x_getf 9 1) 49 := mj_getf (T := T_Wi) rfl (by decide) u_Wi z1_34 (by decide +kernel)
theorem i_Wi_append_49 : mj_Snd zG ("StreamWatch$Wire", "append", c_Wi_append, 5) 49 (x_const 1) 50 := mj_const (n := 1) (by decide) (by decide +kernel)
theorem i_Wi_append_50 : mj_Snd zG ("StreamWatch$Wire", "append", c_Wi_append, 5) 50 (x_iadd) 51 := mj_iadd (by decide +kernel)
theorem i_Wi_append_51 : mj_Snd zG ("StreamWatch$Wire", "append", c_Wi_append, 5) 51 (x_putf 9 1 0) 54 := mj_putG (T := T_Wi) (ty0 := t_Wi) rfl (by decide) u_Wi t_Wi_ok n_Wi z1_34 (Or.inl rfl) (by decide +kernel)
theorem i_Wi_append_54 : mj_Snd zG ("StreamWatch$Wire", "append", c_Wi_append, 5) 54 (x_iinc 4 (-1)) 57 := mj_iinc (n := (-1)) (by decide) (by decide) (by decide +kernel)
theorem i_Wi_append_57 : mj_Snd zG ("StreamWatch$Wire", "append", c_Wi_append, 5) 57 (x_skip) 18 := mj_goto (off := (-39)) (by decide) (by decide +kernel)
theorem i_Wi_append_60 : mj_Snd zG ("StreamWatch$Wire", "append", c_Wi_append, 5) 60 (x_const 1) 61 := mj_const (n := 1) (by decide) (by decide +kernel)
theorem d_Wi_append_61 : decode c_Wi_append 61 = .ok (.ireturn, 1) := by decide +kernel
theorem b_Wi_append_0 : mj_Ch zG ("StreamWatch$Wire", "append", c_Wi_append, 5) 0 [x_iload 1, x_const 100, x_aload 0, x_getf 9 1, x_isub] 8 := ⟨_, i_Wi_append_0, _, i_Wi_append_1, _, i_Wi_append_3, _, i_Wi_append_4, _, i_Wi_append_7, rfl⟩
theorem b_Wi_append_11 : mj_Ch zG ("StreamWatch$Wire", "append", c_Wi_append, 5) 11 [x_const 0] 12 := ⟨_, i_Wi_append_11, rfl⟩
theorem b_Wi_append_13 : mj_Ch zG ("StreamWatch$Wire", "append", c_Wi_append, 5) 13 [x_iload 1, x_const 1, x_isub, x_istore 4] 18 := ⟨_, i_Wi_append_13, _, i_Wi_append_14, _, i_Wi_append_15, _, i_Wi_append_16, rfl⟩
theorem b_Wi_append_18 : mj_Ch zG ("StreamWatch$Wire", "append", c_Wi_append, 5) 18 [x_iload 4] 20 := ⟨_, i_Wi_append_18, rfl⟩
theorem b_Wi_append_23 : mj_Ch zG ("StreamWatch$Wire", "append", c_Wi_append, 5) 23 [x_aload 0, x_getf 9 0, x_aload 0, x_getf 9 1, x_lload 2, x_const 8, x_iload 4, x_imul, x_lushr, x_l2i, x_const 255, x_iand, x_iast 0, x_aload 0, x_dup, x_getf 9 1, x_const 1, x_iadd, x_putf 9 1 0, x_iinc 4 (-1), x_skip] 18 := ⟨_, i_Wi_append_23, _, i_Wi_append_24, _, i_Wi_append_27, _, i_Wi_append_28, _, i_Wi_append_31, _, i_Wi_append_32, _, i_Wi_append_34, _, i_Wi_append_36, _, i_Wi_append_37, _, i_Wi_append_38, _, i_Wi_append_39, _, i_Wi_append_42, _, i_Wi_append_43, _, i_Wi_append_44, _, i_Wi_append_45, _, i_Wi_append_46, _, i_Wi_append_49, _, i_Wi_append_50, _, i_Wi_append_51, _, i_Wi_append_54, _, i_Wi_append_57, rfl⟩
theorem b_Wi_append_60 : mj_Ch zG ("StreamWatch$Wire", "append", c_Wi_append, 5) 60 [x_const 1] 61 := ⟨_, i_Wi_append_60, rfl⟩
theorem i_Wi_fault_0 : mj_Snd zG ("StreamWatch$Wire", "fault", c_Wi_fault, 2) 0 (x_aload 0) 1 := mj_aload_n (j := 0) rfl (by decide +kernel)
theorem i_Wi_fault_1 : mj_Snd zG ("StreamWatch$Wire", "fault", c_Wi_fault, 2) 1 (x_getf 9 1) 4 := mj_getf (T := T_Wi) rfl (by decide) u_Wi z1_34 (by decide +kernel)
theorem i_Wi_fault_4 : mj_Snd zG ("StreamWatch$Wire", "fault", c_Wi_fault, 2) 4 (x_const 20) 6 := mj_bipush (n := 20) (by decide) (by decide +kernel)
theorem d_Wi_fault_6 : decode c_Wi_fault 6 = .ok (.if_icmp .ge 5, 3) := by decide +kernel
theorem i_Wi_fault_9 : mj_Snd zG ("StreamWatch$Wire", "fault", c_Wi_fault, 2) 9 (x_const 1) 10 := mj_const (n := 1) (by decide) (by decide +kernel)
theorem d_Wi_fault_10 : decode c_Wi_fault 10 = .ok (.ireturn, 1) := by decide +kernel
theorem i_Wi_fault_11 : mj_Snd zG ("StreamWatch$Wire", "fault", c_Wi_fault, 2) 11 (x_aload 0) 12 := mj_aload_n (j := 0) rfl (by decide +kernel)
theorem i_Wi_fault_12 : mj_Snd zG ("StreamWatch$Wire", "fault", c_Wi_fault, 2) 12 (x_const 0) 13 := mj_const (n := 0) (by decide) (by decide +kernel)
theorem d_Wi_fault_13 : decode c_Wi_fault 13 = .ok (.invokevirtual 21, 3) := by decide +kernel
theorem i_Wi_fault_16 : mj_Snd zG ("StreamWatch$Wire", "fault", c_Wi_fault, 2) 16 (x_const 69) 18 := mj_bipush (n := 69) (by decide) (by decide +kernel)
theorem d_Wi_fault_18 : decode c_Wi_fault 18 = .ok (.if_icmp .lt 13, 3) := by decide +kernel
theorem i_Wi_fault_21 : mj_Snd zG ("StreamWatch$Wire", "fault", c_Wi_fault, 2) 21 (x_aload 0) 22 := mj_aload_n (j := 0) rfl (by decide +kernel)
theorem i_Wi_fault_22 : mj_Snd zG ("StreamWatch$Wire", "fault", c_Wi_fault, 2) 22 (x_const 0) 23 := mj_const (n := 0) (by decide) (by decide +kernel)
theorem d_Wi_fault_23 : decode c_Wi_fault 23 = .ok (.invokevirtual 21, 3) := by decide +kernel
theorem i_Wi_fault_26 : mj_Snd zG ("StreamWatch$Wire", "fault", c_Wi_fault, 2) 26 (x_const 71) 28 := mj_bipush (n := 71) (by decide) (by decide +kernel)
theorem d_Wi_fault_28 : decode c_Wi_fault 28 = .ok (.if_icmp .le 5, 3) := by decide +kernel
theorem i_Wi_fault_31 : mj_Snd zG ("StreamWatch$Wire", "fault", c_Wi_fault, 2) 31 (x_const 2) 32 := mj_const (n := 2) (by decide) (by decide +kernel)
theorem d_Wi_fault_32 : decode c_Wi_fault 32 = .ok (.ireturn, 1) := by decide +kernel
theorem i_Wi_fault_33 : mj_Snd zG ("StreamWatch$Wire", "fault", c_Wi_fault, 2) 33 (x_aload 0) 34 := mj_aload_n (j := 0) rfl (by decide +kernel)
theorem d_Wi_fault_34 : decode c_Wi_fault 34 = .ok (.invokevirtual 25, 3) := by decide +kernel
theorem i_Wi_fault_37 : mj_Snd zG ("StreamWatch$Wire", "fault", c_Wi_fault, 2) 37 (x_aload 0) 38 := mj_aload_n (j := 0) rfl (by decide +kernel)
theorem i_Wi_fault_38 : mj_Snd zG ("StreamWatch$Wire", "fault", c_Wi_fault, 2) 38 (x_getf 9 1) 41 := mj_getf (T := T_Wi) rfl (by decide) u_Wi z1_34 (by decide +kernel)
theorem d_Wi_fault_41 : decode c_Wi_fault 41 = .ok (.if_icmp .gt 17, 3) := by decide +kernel
theorem i_Wi_fault_44 : mj_Snd zG ("StreamWatch$Wire", "fault", c_Wi_fault, 2) 44 (x_aload 0) 45 := mj_aload_n (j := 0) rfl (by decide +kernel)
theorem d_Wi_fault_45 : decode c_Wi_fault 45 = .ok (.invokevirtual 25, 3) := by decide +kernel
theorem i_Wi_fault_48 : mj_Snd zG ("StreamWatch$Wire", "fault", c_Wi_fault, 2) 48 (x_aload 0) 49 := mj_aload_n (j := 0) rfl (by decide +kernel)
theorem d_Wi_fault_49 : decode c_Wi_fault 49 = .ok (.invokevirtual 29, 3) := by decide +kernel
theorem i_Wi_fault_52 : mj_Snd zG ("StreamWatch$Wire", "fault", c_Wi_fault, 2) 52 (x_const 20) 54 := mj_bipush (n := 20) (by decide) (by decide +kernel)
theorem i_Wi_fault_54 : mj_Snd zG ("StreamWatch$Wire", "fault", c_Wi_fault, 2) 54 (x_iadd) 55 := mj_iadd (by decide +kernel)
theorem d_Wi_fault_55 : decode c_Wi_fault 55 = .ok (.if_icmp .ge 5, 3) := by decide +kernel
theorem i_Wi_fault_58 : mj_Snd zG ("StreamWatch$Wire", "fault", c_Wi_fault, 2) 58 (x_const 3) 59 := mj_const (n := 3) (by decide) (by decide +kernel)
theorem d_Wi_fault_59 : decode c_Wi_fault 59 = .ok (.ireturn, 1) := by decide +kernel
theorem i_Wi_fault_60 : mj_Snd zG ("StreamWatch$Wire", "fault", c_Wi_fault, 2) 60 (x_iload 1) 61 := mj_iload_n (j := 1) rfl (by decide +kernel)
theorem d_Wi_fault_61 : decode c_Wi_fault 61 = .ok (.ifCond .eq 14, 3) := by decide +kernel
theorem i_Wi_fault_64 : mj_Snd zG ("StreamWatch$Wire", "fault", c_Wi_fault, 2) 64 (x_aload 0) 65 := mj_aload_n (j := 0) rfl (by decide +kernel)
theorem d_Wi_fault_65 : decode c_Wi_fault 65 = .ok (.invokevirtual 32, 3) := by decide +kernel
theorem i_Wi_fault_68 : mj_Snd zG ("StreamWatch$Wire", "fault", c_Wi_fault, 2) 68 (x_const 65535) 70 := mj_ldc z2_60 (by decide +kernel)
theorem d_Wi_fault_70 : decode c_Wi_fault 70 = .ok (.if_icmp .eq 5, 3) := by decide +kernel
theorem i_Wi_fault_73 : mj_Snd zG ("StreamWatch$Wire", "fault", c_Wi_fault, 2) 73 (x_const 4) 74 := mj_const (n := 4) (by decide) (by decide +kernel)
theorem d_Wi_fault_74 : decode c_Wi_fault 74 = .ok (.ireturn, 1) := by decide +kernel
theorem i_Wi_fault_75 : mj_Snd zG ("StreamWatch$Wire", "fault", c_Wi_fault, 2) 75 (x_aload 0) 76 := mj_aload_n (j := 0) rfl (by decide +kernel)
theorem i_Wi_fault_76 : mj_Snd zG ("StreamWatch$Wire", "fault", c_Wi_fault, 2) 76 (x_const 6) 78 := mj_bipush (n := 6) (by decide) (by decide +kernel)
theorem d_Wi_fault_78 : decode c_Wi_fault 78 = .ok (.invokevirtual 36, 3) := by decide +kernel
theorem i_Wi_fault_81 : mj_Snd zG ("StreamWatch$Wire", "fault", c_Wi_fault, 2) 81 (x_const 16383) 84 := mj_sipush (n := 16383) (by decide) (by decide +kernel)
theorem i_Wi_fault_84 : mj_Snd zG ("StreamWatch$Wire", "fault", c_Wi_fault, 2) 84 (x_iand) 85 := mj_iand (by decide +kernel)
theorem d_Wi_fault_85 : decode c_Wi_fault 85 = .ok (.ifCond .eq 5, 3) := by decide +kernel
theorem i_Wi_fault_88 : mj_Snd zG ("StreamWatch$Wire", "fault", c_Wi_fault, 2) 88 (x_const 5) 89 := mj_const (n := 5) (by decide) (by decide +kernel)
theorem d_Wi_fault_89 : decode c_Wi_fault 89 = .ok (.ireturn, 1) := by decide +kernel
theorem i_Wi_fault_90 : mj_Snd zG ("StreamWatch$Wire", "fault", c_Wi_fault, 2) 90 (x_aload 0) 91 := mj_aload_n (j := 0) rfl (by decide +kernel)
theorem i_Wi_fault_91 : mj_Snd zG ("StreamWatch$Wire", "fault", c_Wi_fault, 2) 91 (x_const 9) 93 := mj_bipush (n := 9) (by decide) (by decide +kernel)
theorem d_Wi_fault_93 : decode c_Wi_fault 93 = .ok (.invokevirtual 21, 3) := by decide +kernel
theorem i_Wi_fault_96 : mj_Snd zG ("StreamWatch$Wire", "fault", c_Wi_fault, 2) 96 (x_const 6) 98 := mj_bipush (n := 6) (by decide) (by decide +kernel)
theorem d_Wi_fault_98 : decode c_Wi_fault 98 = .ok (.if_icmp .eq 6, 3) := by decide +kernel
theorem i_Wi_fault_101 : mj_Snd zG ("StreamWatch$Wire", "fault", c_Wi_fault, 2) 101 (x_const 6) 103 := mj_bipush (n := 6) (by decide) (by decide +kernel)
theorem d_Wi_fault_103 : decode c_Wi_fault 103 = .ok (.ireturn, 1) := by decide +kernel
theorem i_Wi_fault_104 : mj_Snd zG ("StreamWatch$Wire", "fault", c_Wi_fault, 2) 104 (x_aload 0) 105 := mj_aload_n (j := 0) rfl (by decide +kernel)
theorem d_Wi_fault_105 : decode c_Wi_fault 105 = .ok (.invokevirtual 39, 3) := by decide +kernel
theorem i_Wi_fault_108 : mj_Snd zG ("StreamWatch$Wire", "fault", c_Wi_fault, 2) 108 (x_const 5) 109 := mj_const (n := 5) (by decide) (by decide +kernel)
theorem d_Wi_fault_109 : decode c_Wi_fault 109 = .ok (.if_icmp .lt 23, 3) := by decide +kernel
theorem i_Wi_fault_112 : mj_Snd zG ("StreamWatch$Wire", "fault", c_Wi_fault, 2) 112 (x_aload 0) 113 := mj_aload_n (j := 0) rfl (by decide +kernel)
theorem d_Wi_fault_113 : decode c_Wi_fault 113 = .ok (.invokevirtual 39, 3) := by decide +kernel
theorem i_Wi_fault_116 : mj_Snd zG ("StreamWatch$Wire", "fault", c_Wi_fault, 2) 116 (x_const 8) 118 := mj_bipush (n := 8) (by decide) (by decide +kernel)
theorem d_Wi_fault_118 : decode c_Wi_fault 118 = .ok (.if_icmp .gt 14, 3) := by decide +kernel
theorem i_Wi_fault_121 : mj_Snd zG ("StreamWatch$Wire", "fault", c_Wi_fault, 2) 121 (x_aload 0) 122 := mj_aload_n (j := 0) rfl (by decide +kernel)
theorem d_Wi_fault_122 : decode c_Wi_fault 122 = .ok (.invokevirtual 42, 3) := by decide +kernel
theorem i_Wi_fault_125 : mj_Snd zG ("StreamWatch$Wire", "fault", c_Wi_fault, 2) 125 (x_aload 0) 126 := mj_aload_n (j := 0) rfl (by decide +kernel)
theorem d_Wi_fault_126 : decode c_Wi_fault 126 = .ok (.invokevirtual 25, 3) := by decide +kernel
theorem d_Wi_fault_129 : decode c_Wi_fault 129 = .ok (.if_icmp .le 6, 3) := by decide +kernel
theorem i_Wi_fault_132 : mj_Snd zG ("StreamWatch$Wire", "fault", c_Wi_fault, 2) 132 (x_const 7) 134 := mj_bipush (n := 7) (by decide) (by decide +kernel)
theorem d_Wi_fault_134 : decode c_Wi_fault 134 = .ok (.ireturn, 1) := by decide +kernel
theorem i_Wi_fault_135 : mj_Snd zG ("StreamWatch$Wire", "fault", c_Wi_fault, 2) 135 (x_iload 1) 136 := mj_iload_n (j := 1) rfl (by decide +kernel)
theorem d_Wi_fault_136 : decode c_Wi_fault 136 = .ok (.ifCond .eq 15, 3) := by decide +kernel
theorem i_Wi_fault_139 : mj_Snd zG ("StreamWatch$Wire", "fault", c_Wi_fault, 2) 139 (x_aload 0) 140 := mj_aload_n (j := 0) rfl (by decide +kernel)
theorem d_Wi_fault_140 : decode c_Wi_fault 140 = .ok (.invokevirtual 45, 3) := by decide +kernel
theorem i_Wi_fault_143 : mj_Snd zG ("StreamWatch$Wire", "fault", c_Wi_fault, 2) 143 (x_const 65535) 145 := mj_ldc z2_60 (by decide +kernel)
theorem d_Wi_fault_145 : decode c_Wi_fault 145 = .ok (.if_icmp .eq 6, 3) := by decide +kernel
theorem i_Wi_fault_148 : mj_Snd zG ("StreamWatch$Wire", "fault", c_Wi_fault, 2) 148 (x_const 8) 150 := mj_bipush (n := 8) (by decide) (by decide +kernel)
theorem d_Wi_fault_150 : decode c_Wi_fault 150 = .ok (.ireturn, 1) := by decide +kernel
theorem i_Wi_fault_151 : mj_Snd zG ("StreamWatch$Wire", "fault", c_Wi_fault, 2) 151 (x_const 0) 152 := mj_const (n := 0) (by decide) (by decide +kernel)
theorem d_Wi_fault_152 : decode c_Wi_fault 152 = .ok (.ireturn, 1) := by decide +kernel
theorem b_Wi_fault_0 : mj_Ch zG ("StreamWatch$Wire", "fault", c_Wi_fault, 2) 0 [x_aload 0, x_getf 9 1, x_const 20] 6 := ⟨_, i_Wi_fault_0, _, i_Wi_fault_1, _, i_Wi_fault_4, rfl⟩
theorem b_Wi_fault_9 : mj_Ch zG ("StreamWatch$Wire", "fault", c_Wi_fault, 2) 9 [x_const 1] 10 := ⟨_, i_Wi_fault_9, rfl⟩
theorem b_Wi_fault_11 : mj_Ch zG ("StreamWatch$Wire", "fault", c_Wi_fault, 2) 11 [x_aload 0, x_const 0] 13 := ⟨_, i_Wi_fault_11, _, i_Wi_fault_12, rfl⟩
theorem b_Wi_fault_16 : mj_Ch zG ("StreamWatch$Wire", "fault", c_Wi_fault, 2) 16 [x_const 69] 18 := ⟨_, i_Wi_fault_16, rfl⟩
theorem b_Wi_fault_21 : mj_Ch zG ("StreamWatch$Wire", "fault", c_Wi_fault, 2) 21 [x_aload 0, x_const 0] 23 := ⟨_, i_Wi_fault_21, _, i_Wi_fault_22, rfl⟩
theorem b_Wi_fault_26 : mj_Ch zG ("StreamWatch$Wire", "fault", c_Wi_fault, 2) 26 [x_const 71] 28 := ⟨_, i_Wi_fault_26, rfl⟩
theorem b_Wi_fault_31 : mj_Ch zG ("StreamWatch$Wire", "fault", c_Wi_fault, 2) 31 [x_const 2] 32 := ⟨_, i_Wi_fault_31, rfl⟩
theorem b_Wi_fault_33 : mj_Ch zG ("StreamWatch$Wire", "fault", c_Wi_fault, 2) 33 [x_aload 0] 34 := ⟨_, i_Wi_fault_33, rfl⟩
theorem b_Wi_fault_37 : mj_Ch zG ("StreamWatch$Wire", "fault", c_Wi_fault, 2) 37 [x_aload 0, x_getf 9 1] 41 := ⟨_, i_Wi_fault_37, _, i_Wi_fault_38, rfl⟩
theorem b_Wi_fault_44 : mj_Ch zG ("StreamWatch$Wire", "fault", c_Wi_fault, 2) 44 [x_aload 0] 45 := ⟨_, i_Wi_fault_44, rfl⟩
theorem b_Wi_fault_48 : mj_Ch zG ("StreamWatch$Wire", "fault", c_Wi_fault, 2) 48 [x_aload 0] 49 := ⟨_, i_Wi_fault_48, rfl⟩
theorem b_Wi_fault_52 : mj_Ch zG ("StreamWatch$Wire", "fault", c_Wi_fault, 2) 52 [x_const 20, x_iadd] 55 := ⟨_, i_Wi_fault_52, _, i_Wi_fault_54, rfl⟩
theorem b_Wi_fault_58 : mj_Ch zG ("StreamWatch$Wire", "fault", c_Wi_fault, 2) 58 [x_const 3] 59 := ⟨_, i_Wi_fault_58, rfl⟩
theorem b_Wi_fault_60 : mj_Ch zG ("StreamWatch$Wire", "fault", c_Wi_fault, 2) 60 [x_iload 1] 61 := ⟨_, i_Wi_fault_60, rfl⟩
theorem b_Wi_fault_64 : mj_Ch zG ("StreamWatch$Wire", "fault", c_Wi_fault, 2) 64 [x_aload 0] 65 := ⟨_, i_Wi_fault_64, rfl⟩
theorem b_Wi_fault_68 : mj_Ch zG ("StreamWatch$Wire", "fault", c_Wi_fault, 2) 68 [x_const 65535] 70 := ⟨_, i_Wi_fault_68, rfl⟩
theorem b_Wi_fault_73 : mj_Ch zG ("StreamWatch$Wire", "fault", c_Wi_fault, 2) 73 [x_const 4] 74 := ⟨_, i_Wi_fault_73, rfl⟩
theorem b_Wi_fault_75 : mj_Ch zG ("StreamWatch$Wire", "fault", c_Wi_fault, 2) 75 [x_aload 0, x_const 6] 78 := ⟨_, i_Wi_fault_75, _, i_Wi_fault_76, rfl⟩
theorem b_Wi_fault_81 : mj_Ch zG ("StreamWatch$Wire", "fault", c_Wi_fault, 2) 81 [x_const 16383, x_iand] 85 := ⟨_, i_Wi_fault_81, _, i_Wi_fault_84, rfl⟩
theorem b_Wi_fault_88 : mj_Ch zG ("StreamWatch$Wire", "fault", c_Wi_fault, 2) 88 [x_const 5] 89 := ⟨_, i_Wi_fault_88, rfl⟩
theorem b_Wi_fault_90 : mj_Ch zG ("StreamWatch$Wire", "fault", c_Wi_fault, 2) 90 [x_aload 0, x_const 9] 93 := ⟨_, i_Wi_fault_90, _, i_Wi_fault_91, rfl⟩
theorem b_Wi_fault_96 : mj_Ch zG ("StreamWatch$Wire", "fault", c_Wi_fault, 2) 96 [x_const 6] 98 := ⟨_, i_Wi_fault_96, rfl⟩
theorem b_Wi_fault_101 : mj_Ch zG ("StreamWatch$Wire", "fault", c_Wi_fault, 2) 101 [x_const 6] 103 := ⟨_, i_Wi_fault_101, rfl⟩
theorem b_Wi_fault_104 : mj_Ch zG ("StreamWatch$Wire", "fault", c_Wi_fault, 2) 104 [x_aload 0] 105 := ⟨_, i_Wi_fault_104, rfl⟩
theorem b_Wi_fault_108 : mj_Ch zG ("StreamWatch$Wire", "fault", c_Wi_fault, 2) 108 [x_const 5] 109 := ⟨_, i_Wi_fault_108, rfl⟩
theorem b_Wi_fault_112 : mj_Ch zG ("StreamWatch$Wire", "fault", c_Wi_fault, 2) 112 [x_aload 0] 113 := ⟨_, i_Wi_fault_112, rfl⟩
theorem b_Wi_fault_116 : mj_Ch zG ("StreamWatch$Wire", "fault", c_Wi_fault, 2) 116 [x_const 8] 118 := ⟨_, i_Wi_fault_116, rfl⟩
theorem b_Wi_fault_121 : mj_Ch zG ("StreamWatch$Wire", "fault", c_Wi_fault, 2) 121 [x_aload 0] 122 := ⟨_, i_Wi_fault_121, rfl⟩
theorem b_Wi_fault_125 : mj_Ch zG ("StreamWatch$Wire", "fault", c_Wi_fault, 2) 125 [x_aload 0] 126 := ⟨_, i_Wi_fault_125, rfl⟩
theorem b_Wi_fault_132 : mj_Ch zG ("StreamWatch$Wire", "fault", c_Wi_fault, 2) 132 [x_const 7] 134 := ⟨_, i_Wi_fault_132, rfl⟩
theorem b_Wi_fault_135 : mj_Ch zG ("StreamWatch$Wire", "fault", c_Wi_fault, 2) 135 [x_iload 1] 136 := ⟨_, i_Wi_fault_135, rfl⟩
theorem b_Wi_fault_139 : mj_Ch zG ("StreamWatch$Wire", "fault", c_Wi_fault, 2) 139 [x_aload 0] 140 := ⟨_, i_Wi_fault_139, rfl⟩
theorem b_Wi_fault_143 : mj_Ch zG ("StreamWatch$Wire", "fault", c_Wi_fault, 2) 143 [x_const 65535] 145 := ⟨_, i_Wi_fault_143, rfl⟩
theorem b_Wi_fault_148 : mj_Ch zG ("StreamWatch$Wire", "fault", c_Wi_fault, 2) 148 [x_const 8] 150 := ⟨_, i_Wi_fault_148, rfl⟩
theorem b_Wi_fault_151 : mj_Ch zG ("StreamWatch$Wire", "fault", c_Wi_fault, 2) 151 [x_const 0] 152 := ⟨_, i_Wi_fault_151, rfl⟩
theorem i_Wi_makeSumsRight_0 : mj_Snd zG ("StreamWatch$Wire", "makeSumsRight", c_Wi_makeSumsRight, 2) 0 (x_aload 0) 1 := mj_aload_n (j := 0) rfl (by decide +kernel)
theorem d_Wi_makeSumsRight_1 : decode c_Wi_makeSumsRight 1 = .ok (.invokevirtual 29, 3) := by decide +kernel
theorem i_Wi_makeSumsRight_4 : mj_Snd zG ("StreamWatch$Wire", "makeSumsRight", c_Wi_makeSumsRight, 2) 4 (x_const 16) 6 := mj_bipush (n := 16) (by decide) (by decide +kernel)
theorem i_Wi_makeSumsRight_6 : mj_Snd zG ("StreamWatch$Wire", "makeSumsRight", c_Wi_makeSumsRight, 2) 6 (x_iadd) 7 := mj_iadd (by decide +kernel)
theorem i_Wi_makeSumsRight_7 : mj_Snd zG ("StreamWatch$Wire", "makeSumsRight", c_Wi_makeSumsRight, 2) 7 (x_istore 1) 8 := mj_istore_n (j := 1) rfl (by decide) (by decide +kernel)
theorem i_Wi_makeSumsRight_8 : mj_Snd zG ("StreamWatch$Wire", "makeSumsRight", c_Wi_makeSumsRight, 2) 8 (x_aload 0) 9 := mj_aload_n (j := 0) rfl (by decide +kernel)
theorem i_Wi_makeSumsRight_9 : mj_Snd zG ("StreamWatch$Wire", "makeSumsRight", c_Wi_makeSumsRight, 2) 9 (x_const 10) 11 := mj_bipush (n := 10) (by decide) (by decide +kernel)
theorem i_Wi_makeSumsRight_11 : mj_Snd zG ("StreamWatch$Wire", "makeSumsRight", c_Wi_makeSumsRight, 2) 11 (x_const 0) 12 := mj_const (n := 0) (by decide) (by decide +kernel)
theorem d_Wi_makeSumsRight_12 : decode c_Wi_makeSumsRight 12 = .ok (.invokevirtual 48, 3) := by decide +kernel
theorem i_Wi_makeSumsRight_15 : mj_Snd zG ("StreamWatch$Wire", "makeSumsRight", c_Wi_makeSumsRight, 2) 15 (x_aload 0) 16 := mj_aload_n (j := 0) rfl (by decide +kernel)
theorem i_Wi_makeSumsRight_16 : mj_Snd zG ("StreamWatch$Wire", "makeSumsRight", c_Wi_makeSumsRight, 2) 16 (x_const 10) 18 := mj_bipush (n := 10) (by decide) (by decide +kernel)
theorem i_Wi_makeSumsRight_18 : mj_Snd zG ("StreamWatch$Wire", "makeSumsRight", c_Wi_makeSumsRight, 2) 18 (x_const 65535) 20 := mj_ldc z2_60 (by decide +kernel)
theorem i_Wi_makeSumsRight_20 : mj_Snd zG ("StreamWatch$Wire", "makeSumsRight", c_Wi_makeSumsRight, 2) 20 (x_aload 0) 21 := mj_aload_n (j := 0) rfl (by decide +kernel)
theorem d_Wi_makeSumsRight_21 : decode c_Wi_makeSumsRight 21 = .ok (.invokevirtual 32, 3) := by decide +kernel
theorem i_Wi_makeSumsRight_24 : mj_Snd zG ("StreamWatch$Wire", "makeSumsRight", c_Wi_makeSumsRight, 2) 24 (x_isub) 25 := mj_isub (by decide +kernel)
theorem d_Wi_makeSumsRight_25 : decode c_Wi_makeSumsRight 25 = .ok (.invokevirtual 48, 3) := by decide +kernel
theorem i_Wi_makeSumsRight_28 : mj_Snd zG ("StreamWatch$Wire", "makeSumsRight", c_Wi_makeSumsRight, 2) 28 (x_aload 0) 29 := mj_aload_n (j := 0) rfl (by decide +kernel)
theorem i_Wi_makeSumsRight_29 : mj_Snd zG ("StreamWatch$Wire", "makeSumsRight", c_Wi_makeSumsRight, 2) 29 (x_iload 1) 30 := mj_iload_n (j := 1) rfl (by decide +kernel)
theorem i_Wi_makeSumsRight_30 : mj_Snd zG ("StreamWatch$Wire", "makeSumsRight", c_Wi_makeSumsRight, 2) 30 (x_const 0) 31 := mj_const (n := 0) (by decide) (by decide +kernel)
theorem d_Wi_makeSumsRight_31 : decode c_Wi_makeSumsRight 31 = .ok (.invokevirtual 48, 3) := by decide +kernel
theorem i_Wi_makeSumsRight_34 : mj_Snd zG ("StreamWatch$Wire", "makeSumsRight", c_Wi_makeSumsRight, 2) 34 (x_aload 0) 35 := mj_aload_n (j := 0) rfl (by decide +kernel)
theorem i_Wi_makeSumsRight_35 : mj_Snd zG ("StreamWatch$Wire", "makeSumsRight", c_Wi_makeSumsRight, 2) 35 (x_iload 1) 36 := mj_iload_n (j := 1) rfl (by decide +kernel)
theorem i_Wi_makeSumsRight_36 : mj_Snd zG ("StreamWatch$Wire", "makeSumsRight", c_Wi_makeSumsRight, 2) 36 (x_const 65535) 38 := mj_ldc z2_60 (by decide +kernel)
theorem i_Wi_makeSumsRight_38 : mj_Snd zG ("StreamWatch$Wire", "makeSumsRight", c_Wi_makeSumsRight, 2) 38 (x_aload 0) 39 := mj_aload_n (j := 0) rfl (by decide +kernel)
theorem d_Wi_makeSumsRight_39 : decode c_Wi_makeSumsRight 39 = .ok (.invokevirtual 45, 3) := by decide +kernel
theorem i_Wi_makeSumsRight_42 : mj_Snd zG ("StreamWatch$Wire", "makeSumsRight", c_Wi_makeSumsRight, 2) 42 (x_isub) 43 := mj_isub (by decide +kernel)
theorem d_Wi_makeSumsRight_43 : decode c_Wi_makeSumsRight 43 = .ok (.invokevirtual 48, 3) := by decide +kernel
theorem d_Wi_makeSumsRight_46 : decode c_Wi_makeSumsRight 46 = .ok (.return_, 1) := by decide +kernel
theorem b_Wi_makeSumsRight_0 : mj_Ch zG ("StreamWatch$Wire", "makeSumsRight", c_Wi_makeSumsRight, 2) 0 [x_aload 0] 1 := ⟨_, i_Wi_makeSumsRight_0, rfl⟩
theorem b_Wi_makeSumsRight_4 : mj_Ch zG ("StreamWatch$Wire", "makeSumsRight", c_Wi_makeSumsRight, 2) 4 [x_const 16, x_iadd, x_istore 1, x_aload 0, x_const 10, x_const 0] 12 := ⟨_, i_Wi_makeSumsRight_4, _, i_Wi_makeSumsRight_6, _, i_Wi_makeSumsRight_7, _, i_Wi_makeSumsRight_8, _, i_Wi_makeSumsRight_9, _, i_Wi_makeSumsRight_11, rfl⟩
theorem b_Wi_makeSumsRight_15 : mj_Ch zG ("StreamWatch$Wire", "makeSumsRight", c_Wi_makeSumsRight, 2) 15 [x_aload 0, x_const 10, x_const 65535, x_aload 0] 21 := ⟨_, i_Wi_makeSumsRight_15, _, i_Wi_makeSumsRight_16, _, i_Wi_makeSumsRight_18, _, i_Wi_makeSumsRight_20, rfl⟩
theorem b_Wi_makeSumsRight_24 : mj_Ch zG ("StreamWatch$Wire", "makeSumsRight", c_Wi_makeSumsRight, 2) 24 [x_isub] 25 := ⟨_, i_Wi_makeSumsRight_24, rfl⟩
theorem b_Wi_makeSumsRight_28 : mj_Ch zG ("StreamWatch$Wire", "makeSumsRight", c_Wi_makeSumsRight, 2) 28 [x_aload 0, x_iload 1, x_const 0] 31 := ⟨_, i_Wi_makeSumsRight_28, _, i_Wi_makeSumsRight_29, _, i_Wi_makeSumsRight_30, rfl⟩
theorem b_Wi_makeSumsRight_34 : mj_Ch zG ("StreamWatch$Wire", "makeSumsRight", c_Wi_makeSumsRight, 2) 34 [x_aload 0, x_iload 1, x_const 65535, x_aload 0] 39 := ⟨_, i_Wi_makeSumsRight_34, _, i_Wi_makeSumsRight_35, _, i_Wi_makeSumsRight_36, _, i_Wi_makeSumsRight_38, rfl⟩
theorem b_Wi_makeSumsRight_42 : mj_Ch zG ("StreamWatch$Wire", "makeSumsRight", c_Wi_makeSumsRight, 2) 42 [x_isub] 43 := ⟨_, i_Wi_makeSumsRight_42, rfl⟩
theorem i_Wi_ipSize_0 : mj_Snd zG ("StreamWatch$Wire", "ipSize", c_Wi_ipSize, 1) 0 (x_aload 0) 1 := mj_aload_n (j := 0) rfl (by decide +kernel)
theorem i_Wi_ipSize_1 : mj_Snd zG ("StreamWatch$Wire", "ipSize", c_Wi_ipSize, 1) 1 (x_const 0) 2 := mj_const (n := 0) (by decide) (by decide +kernel)
theorem d_Wi_ipSize_2 : decode c_Wi_ipSize 2 = .ok (.invokevirtual 21, 3) := by decide +kernel
theorem i_Wi_ipSize_5 : mj_Snd zG ("StreamWatch$Wire", "ipSize", c_Wi_ipSize, 1) 5 (x_const 15) 7 := mj_bipush (n := 15) (by decide) (by decide +kernel)
theorem i_Wi_ipSize_7 : mj_Snd zG ("StreamWatch$Wire", "ipSize", c_Wi_ipSize, 1) 7 (x_iand) 8 := mj_iand (by decide +kernel)
theorem i_Wi_ipSize_8 : mj_Snd zG ("StreamWatch$Wire", "ipSize", c_Wi_ipSize, 1) 8 (x_const 4) 9 := mj_const (n := 4) (by decide) (by decide +kernel)
theorem i_Wi_ipSize_9 : mj_Snd zG ("StreamWatch$Wire", "ipSize", c_Wi_ipSize, 1) 9 (x_imul) 10 := mj_imul (by decide +kernel)
theorem d_Wi_ipSize_10 : decode c_Wi_ipSize 10 = .ok (.ireturn, 1) := by decide +kernel
theorem b_Wi_ipSize_0 : mj_Ch zG ("StreamWatch$Wire", "ipSize", c_Wi_ipSize, 1) 0 [x_aload 0, x_const 0] 2 := ⟨_, i_Wi_ipSize_0, _, i_Wi_ipSize_1, rfl⟩
theorem b_Wi_ipSize_5 : mj_Ch zG ("StreamWatch$Wire", "ipSize", c_Wi_ipSize, 1) 5 [x_const 15, x_iand, x_const 4, x_imul] 10 := ⟨_, i_Wi_ipSize_5, _, i_Wi_ipSize_7, _, i_Wi_ipSize_8, _, i_Wi_ipSize_9, rfl⟩
theorem i_Wi_length_0 : mj_Snd zG ("StreamWatch$Wire", "length", c_Wi_length, 1) 0 (x_aload 0) 1 := mj_aload_n (j := 0) rfl (by decide +kernel)
theorem i_Wi_length_1 : mj_Snd zG ("StreamWatch$Wire", "length", c_Wi_length, 1) 1 (x_const 2) 2 := mj_const (n := 2) (by decide) (by decide +kernel)
theorem d_Wi_length_2 : decode c_Wi_length 2 = .ok (.invokevirtual 36, 3) := by decide +kernel
theorem d_Wi_length_5 : decode c_Wi_length 5 = .ok (.ireturn, 1) := by decide +kernel
theorem b_Wi_length_0 : mj_Ch zG ("StreamWatch$Wire", "length", c_Wi_length, 1) 0 [x_aload 0, x_const 2] 2 := ⟨_, i_Wi_length_0, _, i_Wi_length_1, rfl⟩
theorem i_Wi_dataStart_0 : mj_Snd zG ("StreamWatch$Wire", "dataStart", c_Wi_dataStart, 1) 0 (x_aload 0) 1 := mj_aload_n (j := 0) rfl (by decide +kernel)
theorem d_Wi_dataStart_1 : decode c_Wi_dataStart 1 = .ok (.invokevirtual 29, 3) := by decide +kernel
theorem i_Wi_dataStart_4 : mj_Snd zG ("StreamWatch$Wire", "dataStart", c_Wi_dataStart, 1) 4 (x_aload 0) 5 := mj_aload_n (j := 0) rfl (by decide +kernel)
theorem d_Wi_dataStart_5 : decode c_Wi_dataStart 5 = .ok (.invokevirtual 39, 3) := by decide +kernel
theorem i_Wi_dataStart_8 : mj_Snd zG ("StreamWatch$Wire", "dataStart", c_Wi_dataStart, 1) 8 (x_const 4) 9 := mj_const (n := 4) (by decide) (by decide +kernel)
theorem i_Wi_dataStart_9 : mj_Snd zG ("StreamWatch$Wire", "dataStart", c_Wi_dataStart, 1) 9 (x_imul) 10 := mj_imul (by decide +kernel)
theorem i_Wi_dataStart_10 : mj_Snd zG ("StreamWatch$Wire", "dataStart", c_Wi_dataStart, 1) 10 (x_iadd) 11 := mj_iadd (by decide +kernel)
theorem d_Wi_dataStart_11 : decode c_Wi_dataStart 11 = .ok (.ireturn, 1) := by decide +kernel
theorem b_Wi_dataStart_0 : mj_Ch zG ("StreamWatch$Wire", "dataStart", c_Wi_dataStart, 1) 0 [x_aload 0] 1 := ⟨_, i_Wi_dataStart_0, rfl⟩
theorem b_Wi_dataStart_4 : mj_Ch zG ("StreamWatch$Wire", "dataStart", c_Wi_dataStart, 1) 4 [x_aload 0] 5 := ⟨_, i_Wi_dataStart_4, rfl⟩
theorem b_Wi_dataStart_8 : mj_Ch zG ("StreamWatch$Wire", "dataStart", c_Wi_dataStart, 1) 8 [x_const 4, x_imul, x_iadd] 11 := ⟨_, i_Wi_dataStart_8, _, i_Wi_dataStart_9, _, i_Wi_dataStart_10, rfl⟩
theorem i_Wi_pairAt_0 : mj_Snd zG ("StreamWatch$Wire", "pairAt", c_Wi_pairAt, 2) 0 (x_aload 0) 1 := mj_aload_n (j := 0) rfl (by decide +kernel)
theorem i_Wi_pairAt_1 : mj_Snd zG ("StreamWatch$Wire", "pairAt", c_Wi_pairAt, 2) 1 (x_iload 1) 2 := mj_iload_n (j := 1) rfl (by decide +kernel)
theorem d_Wi_pairAt_2 : decode c_Wi_pairAt 2 = .ok (.invokevirtual 21, 3) := by decide +kernel
theorem i_Wi_pairAt_5 : mj_Snd zG ("StreamWatch$Wire", "pairAt", c_Wi_pairAt, 2) 5 (x_const 8) 7 := mj_bipush (n := 8) (by decide) (by decide +kernel)
theorem i_Wi_pairAt_7 : mj_Snd zG ("StreamWatch$Wire", "pairAt", c_Wi_pairAt, 2) 7 (x_ishl) 8 := mj_ishl (by decide +kernel)
theorem i_Wi_pairAt_8 : mj_Snd zG ("StreamWatch$Wire", "pairAt", c_Wi_pairAt, 2) 8 (x_aload 0) 9 := mj_aload_n (j := 0) rfl (by decide +kernel)
theorem i_Wi_pairAt_9 : mj_Snd zG ("StreamWatch$Wire", "pairAt", c_Wi_pairAt, 2) 9 (x_iload 1) 10 := mj_iload_n (j := 1) rfl (by decide +kernel)
theorem i_Wi_pairAt_10 : mj_Snd zG ("StreamWatch$Wire", "pairAt", c_Wi_pairAt, 2) 10 (x_const 1) 11 := mj_const (n := 1) (by decide) (by decide +kernel)
theorem i_Wi_pairAt_11 : mj_Snd zG ("StreamWatch$Wire", "pairAt", c_Wi_pairAt, 2) 11 (x_iadd) 12 := mj_iadd (by decide +kernel)
theorem d_Wi_pairAt_12 : decode c_Wi_pairAt 12 = .ok (.invokevirtual 21, 3) := by decide +kernel
theorem i_Wi_pairAt_15 : mj_Snd zG ("StreamWatch$Wire", "pairAt", c_Wi_pairAt, 2) 15 (x_ior) 16 := mj_ior (by decide +kernel)
theorem d_Wi_pairAt_16 : decode c_Wi_pairAt 16 = .ok (.ireturn, 1) := by decide +kernel
theorem b_Wi_pairAt_0 : mj_Ch zG ("StreamWatch$Wire", "pairAt", c_Wi_pairAt, 2) 0 [x_aload 0, x_iload 1] 2 := ⟨_, i_Wi_pairAt_0, _, i_Wi_pairAt_1, rfl⟩
theorem b_Wi_pairAt_5 : mj_Ch zG ("StreamWatch$Wire", "pairAt", c_Wi_pairAt, 2) 5 [x_const 8, x_ishl, x_aload 0, x_iload 1, x_const 1, x_iadd] 12 := ⟨_, i_Wi_pairAt_5, _, i_Wi_pairAt_7, _, i_Wi_pairAt_8, _, i_Wi_pairAt_9, _, i_Wi_pairAt_10, _, i_Wi_pairAt_11, rfl⟩
theorem b_Wi_pairAt_15 : mj_Ch zG ("StreamWatch$Wire", "pairAt", c_Wi_pairAt, 2) 15 [x_ior] 16 := ⟨_, i_Wi_pairAt_15, rfl⟩
theorem i_Wi_quadAt_0 : mj_Snd zG ("StreamWatch$Wire", "quadAt", c_Wi_quadAt, 2) 0 (x_aload 0) 1 := mj_aload_n (j := 0) rfl (by decide +kernel)
theorem i_Wi_quadAt_1 : mj_Snd zG ("StreamWatch$Wire", "quadAt", c_Wi_quadAt, 2) 1 (x_iload 1) 2 := mj_iload_n (j := 1) rfl (by decide +kernel)
theorem d_Wi_quadAt_2 : decode c_Wi_quadAt 2 = .ok (.invokevirtual 36, 3) := by decide +kernel
theorem i_Wi_quadAt_5 : mj_Snd zG ("StreamWatch$Wire", "quadAt", c_Wi_quadAt, 2) 5 (x_const 16) 7 := mj_bipush (n := 16) (by decide) (by decide +kernel)
theorem i_Wi_quadAt_7 : mj_Snd zG ("StreamWatch$Wire", "quadAt", c_Wi_quadAt, 2) 7 (x_ishl) 8 := mj_ishl (by decide +kernel)
theorem i_Wi_quadAt_8 : mj_Snd zG ("StreamWatch$Wire", "quadAt", c_Wi_quadAt, 2) 8 (x_aload 0) 9 := mj_aload_n (j := 0) rfl (by decide +kernel)
theorem i_Wi_quadAt_9 : mj_Snd zG ("StreamWatch$Wire", "quadAt", c_Wi_quadAt, 2) 9 (x_iload 1) 10 := mj_iload_n (j := 1) rfl (by decide +kernel)
theorem i_Wi_quadAt_10 : mj_Snd zG ("StreamWatch$Wire", "quadAt", c_Wi_quadAt, 2) 10 (x_const 2) 11 := mj_const (n := 2) (by decide) (by decide +kernel)
theorem i_Wi_quadAt_11 : mj_Snd zG ("StreamWatch$Wire", "quadAt", c_Wi_quadAt, 2) 11 (x_iadd) 12 := mj_iadd (by decide +kernel)
theorem d_Wi_quadAt_12 : decode c_Wi_quadAt 12 = .ok (.invokevirtual 36, 3) := by decide +kernel
theorem i_Wi_quadAt_15 : mj_Snd zG ("StreamWatch$Wire", "quadAt", c_Wi_quadAt, 2) 15 (x_ior) 16 := mj_ior (by decide +kernel)
theorem d_Wi_quadAt_16 : decode c_Wi_quadAt 16 = .ok (.ireturn, 1) := by decide +kernel
theorem b_Wi_quadAt_0 : mj_Ch zG ("StreamWatch$Wire", "quadAt", c_Wi_quadAt, 2) 0 [x_aload 0, x_iload 1] 2 := ⟨_, i_Wi_quadAt_0, _, i_Wi_quadAt_1, rfl⟩
theorem b_Wi_quadAt_5 : mj_Ch zG ("StreamWatch$Wire", "quadAt", c_Wi_quadAt, 2) 5 [x_const 16, x_ishl, x_aload 0, x_iload 1, x_const 2, x_iadd] 12 := ⟨_, i_Wi_quadAt_5, _, i_Wi_quadAt_7, _, i_Wi_quadAt_8, _, i_Wi_quadAt_9, _, i_Wi_quadAt_10, _, i_Wi_quadAt_11, rfl⟩
theorem b_Wi_quadAt_15 : mj_Ch zG ("StreamWatch$Wire", "quadAt", c_Wi_quadAt, 2) 15 [x_ior] 16 := ⟨_, i_Wi_quadAt_15, rfl⟩
theorem i_Wi_tcpWords_0 : mj_Snd zG ("StreamWatch$Wire", "tcpWords", c_Wi_tcpWords, 1) 0 (x_aload 0) 1 := mj_aload_n (j := 0) rfl (by decide +kernel)
theorem i_Wi_tcpWords_1 : mj_Snd zG ("StreamWatch$Wire", "tcpWords", c_Wi_tcpWords, 1) 1 (x_aload 0) 2 := mj_aload_n (j := 0) rfl (by decide +kernel)
theorem d_Wi_tcpWords_2 : decode c_Wi_tcpWords 2 = .ok (.invokevirtual 29, 3) := by decide +kernel
theorem i_Wi_tcpWords_5 : mj_Snd zG ("StreamWatch$Wire", "tcpWords", c_Wi_tcpWords, 1) 5 (x_const 12) 7 := mj_bipush (n := 12) (by decide) (by decide +kernel)
theorem i_Wi_tcpWords_7 : mj_Snd zG ("StreamWatch$Wire", "tcpWords", c_Wi_tcpWords, 1) 7 (x_iadd) 8 := mj_iadd (by decide +kernel)
theorem d_Wi_tcpWords_8 : decode c_Wi_tcpWords 8 = .ok (.invokevirtual 21, 3) := by decide +kernel
theorem i_Wi_tcpWords_11 : mj_Snd zG ("StreamWatch$Wire", "tcpWords", c_Wi_tcpWords, 1) 11 (x_const 4) 12 := mj_const (n := 4) (by decide) (by decide +kernel)
theorem i_Wi_tcpWords_12 : mj_Snd zG ("StreamWatch$Wire", "tcpWords", c_Wi_tcpWords, 1) 12 (x_ishr) 13 := mj_ishr (by decide +kernel)
theorem d_Wi_tcpWords_13 : decode c_Wi_tcpWords 13 = .ok (.ireturn, 1) := by decide +kernel
theorem b_Wi_tcpWords_0 : mj_Ch zG ("StreamWatch$Wire", "tcpWords", c_Wi_tcpWords, 1) 0 [x_aload 0, x_aload 0] 2 := ⟨_, i_Wi_tcpWords_0, _, i_Wi_tcpWords_1, rfl⟩
theorem b_Wi_tcpWords_5 : mj_Ch zG ("StreamWatch$Wire", "tcpWords", c_Wi_tcpWords, 1) 5 [x_const 12, x_iadd] 8 := ⟨_, i_Wi_tcpWords_5, _, i_Wi_tcpWords_7, rfl⟩
theorem b_Wi_tcpWords_11 : mj_Ch zG ("StreamWatch$Wire", "tcpWords", c_Wi_tcpWords, 1) 11 [x_const 4, x_ishr] 13 := ⟨_, i_Wi_tcpWords_11, _, i_Wi_tcpWords_12, rfl⟩
theorem i_Wi_ipSum_0 : mj_Snd zG ("StreamWatch$Wire", "ipSum", c_Wi_ipSum, 1) 0 (x_aload 0) 1 := mj_aload_n (j := 0) rfl (by decide +kernel)
theorem i_Wi_ipSum_1 : mj_Snd zG ("StreamWatch$Wire", "ipSum", c_Wi_ipSum, 1) 1 (x_const 0) 2 := mj_const (n := 0) (by decide) (by decide +kernel)
theorem i_Wi_ipSum_2 : mj_Snd zG ("StreamWatch$Wire", "ipSum", c_Wi_ipSum, 1) 2 (x_aload 0) 3 := mj_aload_n (j := 0) rfl (by decide +kernel)
theorem d_Wi_ipSum_3 : decode c_Wi_ipSum 3 = .ok (.invokevirtual 29, 3) := by decide +kernel
theorem i_Wi_ipSum_6 : mj_Snd zG ("StreamWatch$Wire", "ipSum", c_Wi_ipSum, 1) 6 (x_const 0) 7 := mj_const (n := 0) (by decide) (by decide +kernel)
theorem d_Wi_ipSum_7 : decode c_Wi_ipSum 7 = .ok (.invokevirtual 52, 3) := by decide +kernel
theorem d_Wi_ipSum_10 : decode c_Wi_ipSum 10 = .ok (.ireturn, 1) := by decide +kernel
theorem b_Wi_ipSum_0 : mj_Ch zG ("StreamWatch$Wire", "ipSum", c_Wi_ipSum, 1) 0 [x_aload 0, x_const 0, x_aload 0] 3 := ⟨_, i_Wi_ipSum_0, _, i_Wi_ipSum_1, _, i_Wi_ipSum_2, rfl⟩
theorem b_Wi_ipSum_6 : mj_Ch zG ("StreamWatch$Wire", "ipSum", c_Wi_ipSum, 1) 6 [x_const 0] 7 := ⟨_, i_Wi_ipSum_6, rfl⟩
theorem i_Wi_tcpSum_0 : mj_Snd zG ("StreamWatch$Wire", "tcpSum", c_Wi_tcpSum, 2) 0 (x_aload 0) 1 := mj_aload_n (j := 0) rfl (by decide +kernel)
theorem i_Wi_tcpSum_1 : mj_Snd zG ("StreamWatch$Wire", "tcpSum", c_Wi_tcpSum, 2) 1 (x_const 12) 3 := mj_bipush (n := 12) (by decide) (by decide +kernel)
theorem i_Wi_tcpSum_3 : mj_Snd zG ("StreamWatch$Wire", "tcpSum", c_Wi_tcpSum, 2) 3 (x_const 20) 5 := mj_bipush (n := 20) (by decide) (by decide +kernel)
theorem i_Wi_tcpSum_5 : mj_Snd zG ("StreamWatch$Wire", "tcpSum", c_Wi_tcpSum, 2) 5 (x_const 0) 6 := mj_const (n := 0) (by decide) (by decide +kernel)
theorem d_Wi_tcpSum_6 : decode c_Wi_tcpSum 6 = .ok (.invokevirtual 52, 3) := by decide +kernel
theorem i_Wi_tcpSum_9 : mj_Snd zG ("StreamWatch$Wire", "tcpSum", c_Wi_tcpSum, 2) 9 (x_istore 1) 10 := mj_istore_n (j := 1) rfl (by decide) (by decide +kernel)
theorem i_Wi_tcpSum_10 : mj_Snd zG ("StreamWatch$Wire", "tcpSum", c_Wi_tcpSum, 2) 10 (x_iload 1) 11 := mj_iload_n (j := 1) rfl (by decide +kernel)
theorem i_Wi_tcpSum_11 : mj_Snd zG ("StreamWatch$Wire", "tcpSum", c_Wi_tcpSum, 2) 11 (x_const 6) 13 := mj_bipush (n := 6) (by decide) (by decide +kernel)
theorem d_Wi_tcpSum_13 : decode c_Wi_tcpSum 13 = .ok (.invokestatic 56, 3) := by decide +kernel
theorem i_Wi_tcpSum_16 : mj_Snd zG ("StreamWatch$Wire", "tcpSum", c_Wi_tcpSum, 2) 16 (x_istore 1) 17 := mj_istore_n (j := 1) rfl (by decide) (by decide +kernel)
theorem i_Wi_tcpSum_17 : mj_Snd zG ("StreamWatch$Wire", "tcpSum", c_Wi_tcpSum, 2) 17 (x_iload 1) 18 := mj_iload_n (j := 1) rfl (by decide +kernel)
theorem i_Wi_tcpSum_18 : mj_Snd zG ("StreamWatch$Wire", "tcpSum", c_Wi_tcpSum, 2) 18 (x_aload 0) 19 := mj_aload_n (j := 0) rfl (by decide +kernel)
theorem d_Wi_tcpSum_19 : decode c_Wi_tcpSum 19 = .ok (.invokevirtual 25, 3) := by decide +kernel
theorem i_Wi_tcpSum_22 : mj_Snd zG ("StreamWatch$Wire", "tcpSum", c_Wi_tcpSum, 2) 22 (x_aload 0) 23 := mj_aload_n (j := 0) rfl (by decide +kernel)
theorem d_Wi_tcpSum_23 : decode c_Wi_tcpSum 23 = .ok (.invokevirtual 29, 3) := by decide +kernel
theorem i_Wi_tcpSum_26 : mj_Snd zG ("StreamWatch$Wire", "tcpSum", c_Wi_tcpSum, 2) 26 (x_isub) 27 := mj_isub (by decide +kernel)
theorem d_Wi_tcpSum_27 : decode c_Wi_tcpSum 27 = .ok (.invokestatic 56, 3) := by decide +kernel
theorem i_Wi_tcpSum_30 : mj_Snd zG ("StreamWatch$Wire", "tcpSum", c_Wi_tcpSum, 2) 30 (x_istore 1) 31 := mj_istore_n (j := 1) rfl (by decide) (by decide +kernel)
theorem i_Wi_tcpSum_31 : mj_Snd zG ("StreamWatch$Wire", "tcpSum", c_Wi_tcpSum, 2) 31 (x_aload 0) 32 := mj_aload_n (j := 0) rfl (by decide +kernel)
theorem i_Wi_tcpSum_32 : mj_Snd zG ("StreamWatch$Wire", "tcpSum", c_Wi_tcpSum, 2) 32 (x_aload 0) 33 := mj_aload_n (j := 0) rfl (by decide +kernel)
theorem d_Wi_tcpSum_33 : decode c_Wi_tcpSum 33 = .ok (.invokevirtual 29, 3) := by decide +kernel
theorem i_Wi_tcpSum_36 : mj_Snd zG ("StreamWatch$Wire", "tcpSum", c_Wi_tcpSum, 2) 36 (x_aload 0) 37 := mj_aload_n (j := 0) rfl (by decide +kernel)
theorem d_Wi_tcpSum_37 : decode c_Wi_tcpSum 37 = .ok (.invokevirtual 25, 3) := by decide +kernel
theorem i_Wi_tcpSum_40 : mj_Snd zG ("StreamWatch$Wire", "tcpSum", c_Wi_tcpSum, 2) 40 (x_iload 1) 41 := mj_iload_n (j := 1) rfl (by decide +kernel)
theorem d_Wi_tcpSum_41 : decode c_Wi_tcpSum 41 = .ok (.invokevirtual 52, 3) := by decide +kernel
theorem d_Wi_tcpSum_44 : decode c_Wi_tcpSum 44 = .ok (.ireturn, 1) := by decide +kernel
theorem b_Wi_tcpSum_0 : mj_Ch zG ("StreamWatch$Wire", "tcpSum", c_Wi_tcpSum, 2) 0 [x_aload 0, x_const 12, x_const 20, x_const 0] 6 := ⟨_, i_Wi_tcpSum_0, _, i_Wi_tcpSum_1, _, i_Wi_tcpSum_3, _, i_Wi_tcpSum_5, rfl⟩
theorem b_Wi_tcpSum_9 : mj_Ch zG ("StreamWatch$Wire", "tcpSum", c_Wi_tcpSum, 2) 9 [x_istore 1, x_iload 1, x_const 6] 13 := ⟨_, i_Wi_tcpSum_9, _, i_Wi_tcpSum_10, _, i_Wi_tcpSum_11, rfl⟩
theorem b_Wi_tcpSum_16 : mj_Ch zG ("StreamWatch$Wire", "tcpSum", c_Wi_tcpSum, 2) 16 [x_istore 1, x_iload 1, x_aload 0] 19 := ⟨_, i_Wi_tcpSum_16, _, i_Wi_tcpSum_17, _, i_Wi_tcpSum_18, rfl⟩
theorem b_Wi_tcpSum_22 : mj_Ch zG ("StreamWatch$Wire", "tcpSum", c_Wi_tcpSum, 2) 22 [x_aload 0] 23 := ⟨_, i_Wi_tcpSum_22, rfl⟩
theorem b_Wi_tcpSum_26 : mj_Ch zG ("StreamWatch$Wire", "tcpSum", c_Wi_tcpSum, 2) 26 [x_isub] 27 := ⟨_, i_Wi_tcpSum_26, rfl⟩
theorem b_Wi_tcpSum_30 : mj_Ch zG ("StreamWatch$Wire", "tcpSum", c_Wi_tcpSum, 2) 30 [x_istore 1, x_aload 0, x_aload 0] 33 := ⟨_, i_Wi_tcpSum_30, _, i_Wi_tcpSum_31, _, i_Wi_tcpSum_32, rfl⟩
theorem b_Wi_tcpSum_36 : mj_Ch zG ("StreamWatch$Wire", "tcpSum", c_Wi_tcpSum, 2) 36 [x_aload 0] 37 := ⟨_, i_Wi_tcpSum_36, rfl⟩
theorem b_Wi_tcpSum_40 : mj_Ch zG ("StreamWatch$Wire", "tcpSum", c_Wi_tcpSum, 2) 40 [x_iload 1] 41 := ⟨_, i_Wi_tcpSum_40, rfl⟩
theorem i_Wi_sumOf_0 : mj_Snd zG ("StreamWatch$Wire", "sumOf", c_Wi_sumOf, 7) 0 (x_iload 3) 1 := mj_iload_n (j := 3) rfl (by decide +kernel)
theorem i_Wi_sumOf_1 : mj_Snd zG ("StreamWatch$Wire", "sumOf", c_Wi_sumOf, 7) 1 (x_istore 4) 3 := mj_istore (by decide) (by decide +kernel)
theorem i_Wi_sumOf_3 : mj_Snd zG ("StreamWatch$Wire", "sumOf", c_Wi_sumOf, 7) 3 (x_iload 1) 4 := mj_iload_n (j := 1) rfl (by decide +kernel)
theorem i_Wi_sumOf_4 : mj_Snd zG ("StreamWatch$Wire", "sumOf", c_Wi_sumOf, 7) 4 (x_istore 5) 6 := mj_istore (by decide) (by decide +kernel)
theorem i_Wi_sumOf_6 : mj_Snd zG ("StreamWatch$Wire", "sumOf", c_Wi_sumOf, 7) 6 (x_iload 5) 8 := mj_iload (by decide +kernel)
theorem i_Wi_sumOf_8 : mj_Snd zG ("StreamWatch$Wire", "sumOf", c_Wi_sumOf, 7) 8 (x_iload 2) 9 := mj_iload_n (j := 2) rfl (by decide +kernel)
theorem d_Wi_sumOf_9 : decode c_Wi_sumOf 9 = .ok (.if_icmp .ge 50, 3) := by decide +kernel
theorem i_Wi_sumOf_12 : mj_Snd zG ("StreamWatch$Wire", "sumOf", c_Wi_sumOf, 7) 12 (x_iload 5) 14 := mj_iload (by decide +kernel)
theorem i_Wi_sumOf_14 : mj_Snd zG ("StreamWatch$Wire", "sumOf", c_Wi_sumOf, 7) 14 (x_const 1) 15 := mj_const (n := 1) (by decide) (by decide +kernel)
theorem i_Wi_sumOf_15 : mj_Snd zG ("StreamWatch$Wire", "sumOf", c_Wi_sumOf, 7) 15 (x_iadd) 16 := mj_iadd (by decide +kernel)
theorem i_Wi_sumOf_16 : mj_Snd zG ("StreamWatch$Wire", "sumOf", c_Wi_sumOf, 7) 16 (x_iload 2) 17 := mj_iload_n (j := 2) rfl (by decide +kernel)
theorem d_Wi_sumOf_17 : decode c_Wi_sumOf 17 = .ok (.if_icmp .ge 14, 3) := by decide +kernel
theorem i_Wi_sumOf_20 : mj_Snd zG ("StreamWatch$Wire", "sumOf", c_Wi_sumOf, 7) 20 (x_aload 0) 21 := mj_aload_n (j := 0) rfl (by decide +kernel)
theorem i_Wi_sumOf_21 : mj_Snd zG ("StreamWatch$Wire", "sumOf", c_Wi_sumOf, 7) 21 (x_iload 5) 23 := mj_iload (by decide +kernel)
theorem i_Wi_sumOf_23 : mj_Snd zG ("StreamWatch$Wire", "sumOf", c_Wi_sumOf, 7) 23 (x_const 1) 24 := mj_const (n := 1) (by decide) (by decide +kernel)
theorem i_Wi_sumOf_24 : mj_Snd zG ("StreamWatch$Wire", "sumOf", c_Wi_sumOf, 7) 24 (x_iadd) 25 := mj_iadd (by decide +kernel)
theorem d_Wi_sumOf_25 : decode c_Wi_sumOf 25 = .ok (.invokevirtual 21, 3) := by decide +kernel
theorem i_Wi_sumOf_28 : mj_Snd zG ("StreamWatch$Wire", "sumOf", c_Wi_sumOf, 7) 28 (x_skip) 32 := mj_goto (off := 4) (by decide) (by decide +kernel)
theorem i_Wi_sumOf_31 : mj_Snd zG ("StreamWatch$Wire", "sumOf", c_Wi_sumOf, 7) 31 (x_const 0) 32 := mj_const (n := 0) (by decide) (by decide +kernel)
theorem i_Wi_sumOf_32 : mj_Snd zG ("StreamWatch$Wire", "sumOf", c_Wi_sumOf, 7) 32 (x_istore 6) 34 := mj_istore (by decide) (by decide +kernel)
theorem i_Wi_sumOf_34 : mj_Snd zG ("StreamWatch$Wire", "sumOf", c_Wi_sumOf, 7) 34 (x_iload 4) 36 := mj_iload (by decide +kernel)
theorem i_Wi_sumOf_36 : mj_Snd zG ("StreamWatch$Wire", "sumOf", c_Wi_sumOf, 7) 36 (x_aload 0) 37 := mj_aload_n (j := 0) rfl (by decide +kernel)
theorem i_Wi_sumOf_37 : mj_Snd zG ("StreamWatch$Wire", "sumOf", c_Wi_sumOf, 7) 37 (x_iload 5) 39 := mj_iload (by decide +kernel)
theorem d_Wi_sumOf_39 : decode c_Wi_sumOf 39 = .ok (.invokevirtual 21, 3) := by decide +kernel
theorem i_Wi_sumOf_42 : mj_Snd zG ("StreamWatch$Wire", "sumOf", c_Wi_sumOf, 7) 42 (x_const 8) 44 := mj_bipush (n := 8) (by decide) (by decide +kernel)
theorem i_Wi_sumOf_44 : mj_Snd zG ("StreamWatch$Wire", "sumOf", c_Wi_sumOf, 7) 44 (x_ishl) 45 := mj_ishl (by decide +kernel)
theorem i_Wi_sumOf_45 : mj_Snd zG ("StreamWatch$Wire", "sumOf", c_Wi_sumOf, 7) 45 (x_iload 6) 47 := mj_iload (by decide +kernel)
theorem i_Wi_sumOf_47 : mj_Snd zG ("StreamWatch$Wire", "sumOf", c_Wi_sumOf, 7) 47 (x_ior) 48 := mj_ior (by decide +kernel)
theorem d_Wi_sumOf_48 : decode c_Wi_sumOf 48 = .ok (.invokestatic 56, 3) := by decide +kernel
theorem i_Wi_sumOf_51 : mj_Snd zG ("StreamWatch$Wire", "sumOf", c_Wi_sumOf, 7) 51 (x_istore 4) 53 := mj_istore (by decide) (by decide +kernel)
theorem i_Wi_sumOf_53 : mj_Snd zG ("StreamWatch$Wire", "sumOf", c_Wi_sumOf, 7) 53 (x_iinc 5 2) 56 := mj_iinc (n := 2) (by decide) (by decide) (by decide +kernel)
theorem i_Wi_sumOf_56 : mj_Snd zG ("StreamWatch$Wire", "sumOf", c_Wi_sumOf, 7) 56 (x_skip) 6 := mj_goto (off := (-50)) (by decide) (by decide +kernel)
theorem i_Wi_sumOf_59 : mj_Snd zG ("StreamWatch$Wire", "sumOf", c_Wi_sumOf, 7) 59 (x_iload 4) 61 := mj_iload (by decide +kernel)
theorem d_Wi_sumOf_61 : decode c_Wi_sumOf 61 = .ok (.ireturn, 1) := by decide +kernel
theorem b_Wi_sumOf_0 : mj_Ch zG ("StreamWatch$Wire", "sumOf", c_Wi_sumOf, 7) 0 [x_iload 3, x_istore 4, x_iload 1, x_istore 5] 6 := ⟨_, i_Wi_sumOf_0, _, i_Wi_sumOf_1, _, i_Wi_sumOf_3, _, i_Wi_sumOf_4, rfl⟩
theorem b_Wi_sumOf_6 : mj_Ch zG ("StreamWatch$Wire", "sumOf", c_Wi_sumOf, 7) 6 [x_iload 5, x_iload 2] 9 := ⟨_, i_Wi_sumOf_6, _, i_Wi_sumOf_8, rfl⟩
theorem b_Wi_sumOf_12 : mj_Ch zG ("StreamWatch$Wire", "sumOf", c_Wi_sumOf, 7) 12 [x_iload 5, x_const 1, x_iadd, x_iload 2] 17 := ⟨_, i_Wi_sumOf_12, _, i_Wi_sumOf_14, _, i_Wi_sumOf_15, _, i_Wi_sumOf_16, rfl⟩
theorem b_Wi_sumOf_20 : mj_Ch zG ("StreamWatch$Wire", "sumOf", c_Wi_sumOf, 7) 20 [x_aload 0, x_iload 5, x_const 1, x_iadd] 25 := ⟨_, i_Wi_sumOf_20, _, i_Wi_sumOf_21, _, i_Wi_sumOf_23, _, i_Wi_sumOf_24, rfl⟩
theorem b_Wi_sumOf_28 : mj_Ch zG ("StreamWatch$Wire", "sumOf", c_Wi_sumOf, 7) 28 [x_skip] 32 := ⟨_, i_Wi_sumOf_28, rfl⟩
theorem b_Wi_sumOf_31 : mj_Ch zG ("StreamWatch$Wire", "sumOf", c_Wi_sumOf, 7) 31 [x_const 0] 32 := ⟨_, i_Wi_sumOf_31, rfl⟩
theorem b_Wi_sumOf_32 : mj_Ch zG ("StreamWatch$Wire", "sumOf", c_Wi_sumOf, 7) 32 [x_istore 6, x_iload 4, x_aload 0, x_iload 5] 39 := ⟨_, i_Wi_sumOf_32, _, i_Wi_sumOf_34, _, i_Wi_sumOf_36, _, i_Wi_sumOf_37, rfl⟩
theorem b_Wi_sumOf_42 : mj_Ch zG ("StreamWatch$Wire", "sumOf", c_Wi_sumOf, 7) 42 [x_const 8, x_ishl, x_iload 6, x_ior] 48 := ⟨_, i_Wi_sumOf_42, _, i_Wi_sumOf_44, _, i_Wi_sumOf_45, _, i_Wi_sumOf_47, rfl⟩
theorem b_Wi_sumOf_51 : mj_Ch zG ("StreamWatch$Wire", "sumOf", c_Wi_sumOf, 7) 51 [x_istore 4, x_iinc 5 2, x_skip] 6 := ⟨_, i_Wi_sumOf_51, _, i_Wi_sumOf_53, _, i_Wi_sumOf_56, rfl⟩
theorem b_Wi_sumOf_59 : mj_Ch zG ("StreamWatch$Wire", "sumOf", c_Wi_sumOf, 7) 59 [x_iload 4] 61 := ⟨_, i_Wi_sumOf_59, rfl⟩
theorem i_Wi_addToSum_0 : mj_Snd zG ("StreamWatch$Wire", "addToSum", c_Wi_addToSum, 3) 0 (x_iload 0) 1 := mj_iload_n (j := 0) rfl (by decide +kernel)
theorem i_Wi_addToSum_1 : mj_Snd zG ("StreamWatch$Wire", "addToSum", c_Wi_addToSum, 3) 1 (x_iload 1) 2 := mj_iload_n (j := 1) rfl (by decide +kernel)
theorem i_Wi_addToSum_2 : mj_Snd zG ("StreamWatch$Wire", "addToSum", c_Wi_addToSum, 3) 2 (x_iadd) 3 := mj_iadd (by decide +kernel)
theorem i_Wi_addToSum_3 : mj_Snd zG ("StreamWatch$Wire", "addToSum", c_Wi_addToSum, 3) 3 (x_istore 2) 4 := mj_istore_n (j := 2) rfl (by decide) (by decide +kernel)
theorem i_Wi_addToSum_4 : mj_Snd zG ("StreamWatch$Wire", "addToSum", c_Wi_addToSum, 3) 4 (x_iload 2) 5 := mj_iload_n (j := 2) rfl (by decide +kernel)
theorem i_Wi_addToSum_5 : mj_Snd zG ("StreamWatch$Wire", "addToSum", c_Wi_addToSum, 3) 5 (x_const 65535) 7 := mj_ldc z2_60 (by decide +kernel)
theorem i_Wi_addToSum_7 : mj_Snd zG ("StreamWatch$Wire", "addToSum", c_Wi_addToSum, 3) 7 (x_iand) 8 := mj_iand (by decide +kernel)
theorem i_Wi_addToSum_8 : mj_Snd zG ("StreamWatch$Wire", "addToSum", c_Wi_addToSum, 3) 8 (x_iload 2) 9 := mj_iload_n (j := 2) rfl (by decide +kernel)
theorem i_Wi_addToSum_9 : mj_Snd zG ("StreamWatch$Wire", "addToSum", c_Wi_addToSum, 3) 9 (x_const 16) 11 := mj_bipush (n := 16) (by decide) (by decide +kernel)
theorem i_Wi_addToSum_11 : mj_Snd zG ("StreamWatch$Wire", "addToSum", c_Wi_addToSum, 3) 11 (x_iushr) 12 := mj_iushr (by decide +kernel)
theorem i_Wi_addToSum_12 : mj_Snd zG ("StreamWatch$Wire", "addToSum", c_Wi_addToSum, 3) 12 (x_iadd) 13 := mj_iadd (by decide +kernel)
theorem d_Wi_addToSum_13 : decode c_Wi_addToSum 13 = .ok (.ireturn, 1) := by decide +kernel
theorem b_Wi_addToSum_0 : mj_Ch zG ("StreamWatch$Wire", "addToSum", c_Wi_addToSum, 3) 0 [x_iload 0, x_iload 1, x_iadd, x_istore 2, x_iload 2, x_const 65535, x_iand, x_iload 2, x_const 16, x_iushr, x_iadd] 13 := ⟨_, i_Wi_addToSum_0, _, i_Wi_addToSum_1, _, i_Wi_addToSum_2, _, i_Wi_addToSum_3, _, i_Wi_addToSum_4, _, i_Wi_addToSum_5, _, i_Wi_addToSum_7, _, i_Wi_addToSum_8, _, i_Wi_addToSum_9, _, i_Wi_addToSum_11, _, i_Wi_addToSum_12, rfl⟩
theorem i_Wi_setPair_0 : mj_Snd zG ("StreamWatch$Wire", "setPair", c_Wi_setPair, 3) 0 (x_aload 0) 1 := mj_aload_n (j := 0) rfl (by decide +kernel)
theorem i_Wi_setPair_1 : mj_Snd zG ("StreamWatch$Wire", "setPair", c_Wi_setPair, 3) 1 (x_iload 1) 2 := mj_iload_n (j := 1) rfl (by decide +kernel)
theorem d_Wi_setPair_2 : decode c_Wi_setPair 2 = .ok (.invokevirtual 17, 3) := by decide +kernel
theorem d_Wi_setPair_5 : decode c_Wi_setPair 5 = .ok (.ifCond .eq 40, 3) := by decide +kernel
theorem i_Wi_setPair_8 : mj_Snd zG ("StreamWatch$Wire", "setPair", c_Wi_setPair, 3) 8 (x_aload 0) 9 := mj_aload_n (j := 0) rfl (by decide +kernel)
theorem i_Wi_setPair_9 : mj_Snd zG ("StreamWatch$Wire", "setPair", c_Wi_setPair, 3) 9 (x_iload 1) 10 := mj_iload_n (j := 1) rfl (by decide +kernel)
theorem i_Wi_setPair_10 : mj_Snd zG ("StreamWatch$Wire", "setPair", c_Wi_setPair, 3) 10 (x_const 1) 11 := mj_const (n := 1) (by decide) (by decide +kernel)
theorem i_Wi_setPair_11 : mj_Snd zG ("StreamWatch$Wire", "setPair", c_Wi_setPair, 3) 11 (x_iadd) 12 := mj_iadd (by decide +kernel)
theorem d_Wi_setPair_12 : decode c_Wi_setPair 12 = .ok (.invokevirtual 17, 3) := by decide +kernel
theorem d_Wi_setPair_15 : decode c_Wi_setPair 15 = .ok (.ifCond .eq 30, 3) := by decide +kernel
theorem i_Wi_setPair_18 : mj_Snd zG ("StreamWatch$Wire", "setPair", c_Wi_setPair, 3) 18 (x_aload 0) 19 := mj_aload_n (j := 0) rfl (by decide +kernel)
theorem i_Wi_setPair_19 : mj_Snd zG ("StreamWatch$Wire", "setPair", c_Wi_setPair, 3) 19 (x_getf 9 0) 22 := mj_getf (T := T_Wi) rfl (by decide) u_Wi z1_33 (by decide +kernel)
theorem i_Wi_setPair_22 : mj_Snd zG ("StreamWatch$Wire", "setPair", c_Wi_setPair, 3) 22 (x_iload 1) 23 := mj_iload_n (j := 1) rfl (by decide +kernel)
theorem i_Wi_setPair_23 : mj_Snd zG ("StreamWatch$Wire", "setPair", c_Wi_setPair, 3) 23 (x_iload 2) 24 := mj_iload_n (j := 2) rfl (by decide +kernel)
theorem i_Wi_setPair_24 : mj_Snd zG ("StreamWatch$Wire", "setPair", c_Wi_setPair, 3) 24 (x_const 8) 26 := mj_bipush (n := 8) (by decide) (by decide +kernel)
theorem i_Wi_setPair_26 : mj_Snd zG ("StreamWatch$Wire", "setPair", c_Wi_setPair, 3) 26 (x_ishr) 27 := mj_ishr (by decide +kernel)
theorem i_Wi_setPair_27 : mj_Snd zG ("StreamWatch$Wire", "setPair", c_Wi_setPair, 3) 27 (x_const 255) 30 := mj_sipush (n := 255) (by decide) (by decide +kernel)
theorem i_Wi_setPair_30 : mj_Snd zG ("StreamWatch$Wire", "setPair", c_Wi_setPair, 3) 30 (x_iand) 31 := mj_iand (by decide +kernel)
theorem i_Wi_setPair_31 : mj_Snd zG ("StreamWatch$Wire", "setPair", c_Wi_setPair, 3) 31 (x_iast 0) 32 := mj_iast rfl (by decide +kernel)
theorem i_Wi_setPair_32 : mj_Snd zG ("StreamWatch$Wire", "setPair", c_Wi_setPair, 3) 32 (x_aload 0) 33 := mj_aload_n (j := 0) rfl (by decide +kernel)
theorem i_Wi_setPair_33 : mj_Snd zG ("StreamWatch$Wire", "setPair", c_Wi_setPair, 3) 33 (x_getf 9 0) 36 := mj_getf (T := T_Wi) rfl (by decide) u_Wi z1_33 (by decide +kernel)
theorem i_Wi_setPair_36 : mj_Snd zG ("StreamWatch$Wire", "setPair", c_Wi_setPair, 3) 36 (x_iload 1) 37 := mj_iload_n (j := 1) rfl (by decide +kernel)
theorem i_Wi_setPair_37 : mj_Snd zG ("StreamWatch$Wire", "setPair", c_Wi_setPair, 3) 37 (x_const 1) 38 := mj_const (n := 1) (by decide) (by decide +kernel)
theorem i_Wi_setPair_38 : mj_Snd zG ("StreamWatch$Wire", "setPair", c_Wi_setPair, 3) 38 (x_iadd) 39 := mj_iadd (by decide +kernel)
theorem i_Wi_setPair_39 : mj_Snd zG ("StreamWatch$Wire", "setPair", c_Wi_setPair, 3) 39 (x_iload 2) 40 := mj_iload_n (j := 2) rfl (by decide +kernel)
theorem i_Wi_setPair_40 : mj_Snd zG ("StreamWatch$Wire", "setPair", c_Wi_setPair, 3) 40 (x_const 255) 43 := mj_sipush (n := 255) (by decide) (by decide +kernel)
theorem i_Wi_setPair_43 : mj_Snd zG ("StreamWatch$Wire", "setPair", c_Wi_setPair, 3) 43 (x_iand) 44 := mj_iand (by decide +kernel)
theorem i_Wi_setPair_44 : mj_Snd zG ("StreamWatch$Wire", "setPair", c_Wi_setPair, 3) 44 (x_iast 0) 45 := mj_iast rfl (by decide +kernel)
theorem d_Wi_setPair_45 : decode c_Wi_setPair 45 = .ok (.return_, 1) := by decide +kernel
theorem b_Wi_setPair_0 : mj_Ch zG ("StreamWatch$Wire", "setPair", c_Wi_setPair, 3) 0 [x_aload 0, x_iload 1] 2 := ⟨_, i_Wi_setPair_0, _, i_Wi_setPair_1, rfl⟩
theorem b_Wi_setPair_8 : mj_Ch zG ("StreamWatch$Wire", "setPair", c_Wi_setPair, 3) 8 [x_aload 0, x_iload 1, x_const 1, x_iadd] 12 := ⟨_, i_Wi_setPair_8, _, i_Wi_setPair_9, _, i_Wi_setPair_10, _, i_Wi_setPair_11, rfl⟩
theorem b_Wi_setPair_18 : mj_Ch zG ("StreamWatch$Wire", "setPair", c_Wi_setPair, 3) 18 [x_aload 0, x_getf 9 0, x_iload 1, x_iload 2, x_const 8, x_ishr, x_const 255, x_iand, x_iast 0, x_aload 0, x_getf 9 0, x_iload 1, x_const 1, x_iadd, x_iload 2, x_const 255, x_iand, x_iast 0] 45 := ⟨_, i_Wi_setPair_18, _, i_Wi_setPair_19, _, i_Wi_setPair_22, _, i_Wi_setPair_23, _, i_Wi_setPair_24, _, i_Wi_setPair_26, _, i_Wi_setPair_27, _, i_Wi_setPair_30, _, i_Wi_setPair_31, _, i_Wi_setPair_32, _, i_Wi_setPair_33, _, i_Wi_setPair_36, _, i_Wi_setPair_37, _, i_Wi_setPair_38, _, i_Wi_setPair_39, _, i_Wi_setPair_40, _, i_Wi_setPair_43, _, i_Wi_setPair_44, rfl⟩
end
section
abbrev E_Al_init (l : Launch) (D : va_G) (cA : Nat → ClassId) (mc ms : Nat) (args : List Value) (w : mj_M) (kp : Nat → Prop) (post : mj_R) : Prop := mj_Ev zG l D cA m_Al_init 1 40 mc ms args w kp post
abbrev E0_Al_init (l : Launch) (D : va_G) (cA : Nat → ClassId) (args : List Value) (w : mj_M) (r : Option Value) (w' : mj_M) : Prop := mj_Ev zG l D cA m_Al_init 1 40 0 0 args w (fun _ => True) (fun r1 w1 => r1 = r ∧ w1 = w')
abbrev E_Al_total (l : Launch) (D : va_G) (cA : Nat → ClassId) (mc ms : Nat) (args : List Value) (w : mj_M) (kp : Nat → Prop) (post : mj_R) : Prop := mj_Ev zG l D cA m_Al_total 0 0 mc ms args w kp post
abbrev E0_Al_total (l : Launch) (D : va_G) (cA : Nat → ClassId) (args : List Value) (w : mj_M) (r : Option Value) (w' : mj_M) : Prop := mj_Ev zG l D cA m_Al_total 0 0 0 0 args w (fun _ => True) (fun r1 w1 => r1 = r ∧ w1 = w')
theorem v_Al_total : mj_VW zG m_Al_total 0 := ⟨z2_158, z2_159, z1_9, z2_160, by decide, by decide, by decide +kernel⟩
abbrev E_Al_add (l : Launch) (D : va_G) (cA : Nat → ClassId) (mc ms : Nat) (args : List Value) (w : mj_M) (kp : Nat → Prop) (post : mj_R) : Prop := mj_Ev zG l D cA m_Al_add 0 0 mc ms args w kp post
abbrev E0_Al_add (l : Launch) (D : va_G) (cA : Nat → ClassId) (args : List Value) (w : mj_M) (r : Option Value) (w' : mj_M) : Prop := mj_Ev zG l D cA m_Al_add 0 0 0 0 args w (fun _ => True) (fun r1 w1 => r1 = r ∧ w1 = w')
theorem v_Al_add : mj_VW zG m_Al_add 4 := ⟨z3_49, z3_50, z1_9, z3_51, by decide, by decide, by decide +kernel⟩
abbrev E_Al_read (l : Launch) (D : va_G) (cA : Nat → ClassId) (mc ms : Nat) (args : List Value) (w : mj_M) (kp : Nat → Prop) (post : mj_R) : Prop := mj_Ev zG l D cA m_Al_read 1 40 mc ms args w kp post
abbrev E0_Al_read (l : Launch) (D : va_G) (cA : Nat → ClassId) (args : List Value) (w : mj_M) (r : Option Value) (w' : mj_M) : Prop := mj_Ev zG l D cA m_Al_read 1 40 0 0 args w (fun _ => True) (fun r1 w1 => r1 = r ∧ w1 = w')
theorem v_Al_read : mj_VW zG m_Al_read 2 := ⟨z3_105, z3_106, z1_9, z3_107, by decide, by decide, by decide +kernel⟩
abbrev E_Fl_init (l : Launch) (D : va_G) (cA : Nat → ClassId) (mc ms : Nat) (args : List Value) (w : mj_M) (kp : Nat → Prop) (post : mj_R) : Prop := mj_Ev zG l D cA m_Fl_init 2 80 mc ms args w kp post
abbrev E0_Fl_init (l : Launch) (D : va_G) (cA : Nat → ClassId) (args : List Value) (w : mj_M) (r : Option Value) (w' : mj_M) : Prop := mj_Ev zG l D cA m_Fl_init 2 80 0 0 args w (fun _ => True) (fun r1 w1 => r1 = r ∧ w1 = w')
abbrev E_Fl_isLive (l : Launch) (D : va_G) (cA : Nat → ClassId) (mc ms : Nat) (args : List Value) (w : mj_M) (kp : Nat → Prop) (post : mj_R) : Prop := mj_Ev zG l D cA m_Fl_isLive 0 0 mc ms args w kp post
abbrev E0_Fl_isLive (l : Launch) (D : va_G) (cA : Nat → ClassId) (args : List Value) (w : mj_M) (r : Option Value) (w' : mj_M) : Prop := mj_Ev zG l D cA m_Fl_isLive 0 0 0 0 args w (fun _ => True) (fun r1 w1 => r1 = r ∧ w1 = w')
theorem v_Fl_isLive : mj_VW zG m_Fl_isLive 0 := ⟨z2_125, z2_126, z1_5, z2_127, by decide, by decide, by decide +kernel⟩
abbrev E_Fl_open (l : Launch) (D : va_G) (cA : Nat → ClassId) (mc ms : Nat) (args : List Value) (w : mj_M) (kp : Nat → Prop) (post : mj_R) : Prop := mj_Ev zG l D cA m_Fl_open 2 80 mc ms args w kp post
abbrev E0_Fl_open (l : Launch) (D : va_G) (cA : Nat → ClassId) (args : List Value) (w : mj_M) (r : Option Value) (w' : mj_M) : Prop := mj_Ev zG l D cA m_Fl_open 2 80 0 0 args w (fun _ => True) (fun r1 w1 => r1 = r ∧ w1 = w')
theorem v_Fl_open : mj_VW zG m_Fl_open 1 := ⟨z2_146, z2_147, z1_5, z2_148, by decide, by decide, by decide +kernel⟩
abbrev E_Fl_free (l : Launch) (D : va_G) (cA : Nat → ClassId) (mc ms : Nat) (args : List Value) (w : mj_M) (kp : Nat → Prop) (post : mj_R) : Prop := mj_Ev zG l D cA m_Fl_free 0 0 mc ms args w kp post
abbrev E0_Fl_free (l : Launch) (D : va_G) (cA : Nat → ClassId) (args : List Value) (w : mj_M) (r : Option Value) (w' : mj_M) : Prop := mj_Ev zG l D cA m_Fl_free 0 0 0 0 args w (fun _ => True) (fun r1 w1 => r1 = r ∧ w1 = w')
theorem v_Fl_free : mj_VW zG m_Fl_free 0 := ⟨z2_162, z2_163, z1_5, z2_164, by decide, by decide, by decide +kernel⟩
abbrev E_Fl_freeIfBothEnded (l : Launch) (D : va_G) (cA : Nat → ClassId) (mc ms : Nat) (args : List Value) (w : mj_M) (kp : Nat → Prop) (post : mj_R) : Prop := mj_Ev zG l D cA m_Fl_freeIfBothEnded 1 40 mc ms args w kp post
abbrev E0_Fl_freeIfBothEnded (l : Launch) (D : va_G) (cA : Nat → ClassId) (args : List Value) (w : mj_M) (r : Option Value) (w' : mj_M) : Prop := mj_Ev zG l D cA m_Fl_freeIfBothEnded 1 40 0 0 args w (fun _ => True) (fun r1 w1 => r1 = r ∧ w1 = w')
theorem v_Fl_freeIfBothEnded : mj_VW zG m_Fl_freeIfBothEnded 0 := ⟨z3_61, z3_62, z1_5, z3_63, by decide, by decide, by decide +kernel⟩
abbrev E_Fl_wayOf (l : Launch) (D : va_G) (cA : Nat → ClassId) (mc ms : Nat) (args : List Value) (w : mj_M) (kp : Nat → Prop) (post : mj_R) : Prop := mj_Ev zG l D cA m_Fl_wayOf 1 40 mc ms args w kp post
abbrev E0_Fl_wayOf (l : Launch) (D : va_G) (cA : Nat → ClassId) (args : List Value) (w : mj_M) (r : Option Value) (w' : mj_M) : Prop := mj_Ev zG l D cA m_Fl_wayOf 1 40 0 0 args w (fun _ => True) (fun r1 w1 => r1 = r ∧ w1 = w')
theorem v_Fl_wayOf : mj_VW zG m_Fl_wayOf 1 := ⟨z2_129, z2_130, z1_5, z2_131, by decide, by decide, by decide +kernel⟩
abbrev E_Fl_streamOf (l : Launch) (D : va_G) (cA : Nat → ClassId) (mc ms : Nat) (args : List Value) (w : mj_M) (kp : Nat → Prop) (post : mj_R) : Prop := mj_Ev zG l D cA m_Fl_streamOf 0 0 mc ms args w kp post
abbrev E0_Fl_streamOf (l : Launch) (D : va_G) (cA : Nat → ClassId) (args : List Value) (w : mj_M) (r : Option Value) (w' : mj_M) : Prop := mj_Ev zG l D cA m_Fl_streamOf 0 0 0 0 args w (fun _ => True) (fun r1 w1 => r1 = r ∧ w1 = w')
theorem v_Fl_streamOf : mj_VW zG m_Fl_streamOf 1 := ⟨z2_171, z2_172, z1_5, z2_173, by decide, by decide, by decide +kernel⟩
abbrev E_Fl_isClient (l : Launch) (D : va_G) (cA : Nat → ClassId) (mc ms : Nat) (args : List Value) (w : mj_M) (kp : Nat → Prop) (post : mj_R) : Prop := mj_Ev zG l D cA m_Fl_isClient 0 0 mc ms args w kp post
abbrev E0_Fl_isClient (l : Launch) (D : va_G) (cA : Nat → ClassId) (args : List Value) (w : mj_M) (r : Option Value) (w' : mj_M) : Prop := mj_Ev zG l D cA m_Fl_isClient 0 0 0 0 args w (fun _ => True) (fun r1 w1 => r1 = r ∧ w1 = w')
theorem v_Fl_isClient : mj_VW zG m_Fl_isClient 2 := ⟨z2_134, zinP (q := (⟨"StreamWatch$Flow", "isClient", "(II)Z"⟩, 8)) (by decide +kernel), z1_5, z2_135, by decide, by decide, by decide +kernel⟩
abbrev E_Fl_isServer (l : Launch) (D : va_G) (cA : Nat → ClassId) (mc ms : Nat) (args : List Value) (w : mj_M) (kp : Nat → Prop) (post : mj_R) : Prop := mj_Ev zG l D cA m_Fl_isServer 0 0 mc ms args w kp post
abbrev E0_Fl_isServer (l : Launch) (D : va_G) (cA : Nat → ClassId) (args : List Value) (w : mj_M) (r : Option Value) (w' : mj_M) : Prop := mj_Ev zG l D cA m_Fl_isServer 0 0 0 0 args w (fun _ => True) (fun r1 w1 => r1 = r ∧ w1 = w')
theorem v_Fl_isServer : mj_VW zG m_Fl_isServer 2 := ⟨z2_138, zinP (q := (⟨"StreamWatch$Flow", "isServer", "(II)Z"⟩, 8)) (by decide +kernel), z1_5, z2_139, by decide, by decide, by decide +kernel⟩
abbrev E_Ft_init (l : Launch) (D : va_G) (cA : Nat → ClassId) (mc ms : Nat) (args : List Value) (w : mj_M) (kp : Nat → Prop) (post : mj_R) : Prop := mj_Ev zG l D cA m_Ft_init 3 120 mc ms args w kp post
abbrev E0_Ft_init (l : Launch) (D : va_G) (cA : Nat → ClassId) (args : List Value) (w : mj_M) (r : Option Value) (w' : mj_M) : Prop := mj_Ev zG l D cA m_Ft_init 3 120 0 0 args w (fun _ => True) (fun r1 w1 => r1 = r ∧ w1 = w')
abbrev E_Ft_at (l : Launch) (D : va_G) (cA : Nat → ClassId) (mc ms : Nat) (args : List Value) (w : mj_M) (kp : Nat → Prop) (post : mj_R) : Prop := mj_Ev zG l D cA m_Ft_at 1 40 mc ms args w kp post
abbrev E0_Ft_at (l : Launch) (D : va_G) (cA : Nat → ClassId) (args : List Value) (w : mj_M) (r : Option Value) (w' : mj_M) : Prop := mj_Ev zG l D cA m_Ft_at 1 40 0 0 args w (fun _ => True) (fun r1 w1 => r1 = r ∧ w1 = w')
theorem v_Ft_at : mj_VW zG m_Ft_at 1 := ⟨z2_121, z2_122, z1_4, z2_123, by decide, by decide, by decide +kernel⟩
abbrev E_Ft_of (l : Launch) (D : va_G) (cA : Nat → ClassId) (mc ms : Nat) (args : List Value) (w : mj_M) (kp : Nat → Prop) (post : mj_R) : Prop := mj_Ev zG l D cA m_Ft_of 2 80 mc ms args w kp post
abbrev E0_Ft_of (l : Launch) (D : va_G) (cA : Nat → ClassId) (args : List Value) (w : mj_M) (r : Option Value) (w' : mj_M) : Prop := mj_Ev zG l D cA m_Ft_of 2 80 0 0 args w (fun _ => True) (fun r1 w1 => r1 = r ∧ w1 = w')
theorem v_Ft_of : mj_VW zG m_Ft_of 1 := ⟨z2_117, z2_118, z1_4, z2_119, by decide, by decide, by decide +kernel⟩
abbrev E_Ft_open (l : Launch) (D : va_G) (cA : Nat → ClassId) (mc ms : Nat) (args : List Value) (w : mj_M) (kp : Nat → Prop) (post : mj_R) : Prop := mj_Ev zG l D cA m_Ft_open 3 120 mc ms args w kp post
abbrev E0_Ft_open (l : Launch) (D : va_G) (cA : Nat → ClassId) (args : List Value) (w : mj_M) (r : Option Value) (w' : mj_M) : Prop := mj_Ev zG l D cA m_Ft_open 3 120 0 0 args w (fun _ => True) (fun r1 w1 => r1 = r ∧ w1 = w')
theorem v_Ft_open : mj_VW zG m_Ft_open 1 := ⟨z2_142, z2_143, z1_4, z2_144, by decide, by decide, by decide +kernel⟩
abbrev E_Ft_hear (l : Launch) (D : va_G) (cA : Nat → ClassId) (mc ms : Nat) (args : List Value) (w : mj_M) (kp : Nat → Prop) (post : mj_R) : Prop := mj_Ev zG l D cA m_Ft_hear 0 0 mc ms args w kp post
abbrev E0_Ft_hear (l : Launch) (D : va_G) (cA : Nat → ClassId) (args : List Value) (w : mj_M) (r : Option Value) (w' : mj_M) : Prop := mj_Ev zG l D cA m_Ft_hear 0 0 0 0 args w (fun _ => True) (fun r1 w1 => r1 = r ∧ w1 = w')
theorem v_Ft_hear : mj_VW zG m_Ft_hear 1 := ⟨z2_154, z2_155, z1_4, z2_156, by decide, by decide, by decide +kernel⟩
abbrev E_Ft_heardAfter (l : Launch) (D : va_G) (cA : Nat → ClassId) (mc ms : Nat) (args : List Value) (w : mj_M) (kp : Nat → Prop) (post : mj_R) : Prop := mj_Ev zG l D cA m_Ft_heardAfter 2 80 mc ms args w kp post
abbrev E0_Ft_heardAfter (l : Launch) (D : va_G) (cA : Nat → ClassId) (args : List Value) (w : mj_M) (r : Option Value) (w' : mj_M) : Prop := mj_Ev zG l D cA m_Ft_heardAfter 2 80 0 0 args w (fun _ => True) (fun r1 w1 => r1 = r ∧ w1 = w')
theorem v_Ft_heardAfter : mj_VW zG m_Ft_heardAfter 1 := ⟨z3_75, z3_76, z1_4, z3_77, by decide, by decide, by decide +kernel⟩
abbrev E_Mk_init (l : Launch) (D : va_G) (cA : Nat → ClassId) (mc ms : Nat) (args : List Value) (w : mj_M) (kp : Nat → Prop) (post : mj_R) : Prop := mj_Ev zG l D cA m_Mk_init 1 40 mc ms args w kp post
abbrev E0_Mk_init (l : Launch) (D : va_G) (cA : Nat → ClassId) (args : List Value) (w : mj_M) (r : Option Value) (w' : mj_M) : Prop := mj_Ev zG l D cA m_Mk_init 1 40 0 0 args w (fun _ => True) (fun r1 w1 => r1 = r ∧ w1 = w')
abbrev E_Mk_markStartOnly (l : Launch) (D : va_G) (cA : Nat → ClassId) (mc ms : Nat) (args : List Value) (w : mj_M) (kp : Nat → Prop) (post : mj_R) : Prop := mj_Ev zG l D cA m_Mk_markStartOnly 1 40 mc ms args w kp post
abbrev E0_Mk_markStartOnly (l : Launch) (D : va_G) (cA : Nat → ClassId) (args : List Value) (w : mj_M) (r : Option Value) (w' : mj_M) : Prop := mj_Ev zG l D cA m_Mk_markStartOnly 1 40 0 0 args w (fun _ => True) (fun r1 w1 => r1 = r ∧ w1 = w')
theorem v_Mk_markStartOnly : mj_VW zG m_Mk_markStartOnly 1 := ⟨z2_222, z2_223, z1_8, z2_224, by decide, by decide, by decide +kernel⟩
abbrev E_Mk_set (l : Launch) (D : va_G) (cA : Nat → ClassId) (mc ms : Nat) (args : List Value) (w : mj_M) (kp : Nat → Prop) (post : mj_R) : Prop := mj_Ev zG l D cA m_Mk_set 0 0 mc ms args w kp post
abbrev E0_Mk_set (l : Launch) (D : va_G) (cA : Nat → ClassId) (args : List Value) (w : mj_M) (r : Option Value) (w' : mj_M) : Prop := mj_Ev zG l D cA m_Mk_set 0 0 0 0 args w (fun _ => True) (fun r1 w1 => r1 = r ∧ w1 = w')
theorem v_Mk_set : mj_VW zG m_Mk_set 2 := ⟨z2_226, z2_227, z1_8, z2_228, by decide, by decide, by decide +kernel⟩
abbrev E_Mk_has (l : Launch) (D : va_G) (cA : Nat → ClassId) (mc ms : Nat) (args : List Value) (w : mj_M) (kp : Nat → Prop) (post : mj_R) : Prop := mj_Ev zG l D cA m_Mk_has 0 0 mc ms args w kp post
abbrev E0_Mk_has (l : Launch) (D : va_G) (cA : Nat → ClassId) (args : List Value) (w : mj_M) (r : Option Value) (w' : mj_M) : Prop := mj_Ev zG l D cA m_Mk_has 0 0 0 0 args w (fun _ => True) (fun r1 w1 => r1 = r ∧ w1 = w')
theorem v_Mk_has : mj_VW zG m_Mk_has 1 := ⟨z3_40, z3_41, z1_8, z3_42, by decide, by decide, by decide +kernel⟩
abbrev E_Mk_settle (l : Launch) (D : va_G) (cA : Nat → ClassId) (mc ms : Nat) (args : List Value) (w : mj_M) (kp : Nat → Prop) (post : mj_R) : Prop := mj_Ev zG l D cA m_Mk_settle 0 0 mc ms args w kp post
abbrev E0_Mk_settle (l : Launch) (D : va_G) (cA : Nat → ClassId) (args : List Value) (w : mj_M) (r : Option Value) (w' : mj_M) : Prop := mj_Ev zG l D cA m_Mk_settle 0 0 0 0 args w (fun _ => True) (fun r1 w1 => r1 = r ∧ w1 = w')
theorem v_Mk_settle : mj_VW zG m_Mk_settle 1 := ⟨z2_230, z2_231, z1_8, z2_232, by decide, by decide, by decide +kernel⟩
abbrev E_Mk_isAnyIn (l : Launch) (D : va_G) (cA : Nat → ClassId) (mc ms : Nat) (args : List Value) (w : mj_M) (kp : Nat → Prop) (post : mj_R) : Prop := mj_Ev zG l D cA m_Mk_isAnyIn 1 40 mc ms args w kp post
abbrev E0_Mk_isAnyIn (l : Launch) (D : va_G) (cA : Nat → ClassId) (args : List Value) (w : mj_M) (r : Option Value) (w' : mj_M) : Prop := mj_Ev zG l D cA m_Mk_isAnyIn 1 40 0 0 args w (fun _ => True) (fun r1 w1 => r1 = r ∧ w1 = w')
theorem v_Mk_isAnyIn : mj_VW zG m_Mk_isAnyIn 2 := ⟨z3_26, z3_27, z1_8, z3_28, by decide, by decide, by decide +kernel⟩
abbrev E_Op_init (l : Launch) (D : va_G) (cA : Nat → ClassId) (mc ms : Nat) (args : List Value) (w : mj_M) (kp : Nat → Prop) (post : mj_R) : Prop := mj_Ev zG l D cA m_Op_init 1 40 mc ms args w kp post
abbrev E0_Op_init (l : Launch) (D : va_G) (cA : Nat → ClassId) (args : List Value) (w : mj_M) (r : Option Value) (w' : mj_M) : Prop := mj_Ev zG l D cA m_Op_init 1 40 0 0 args w (fun _ => True) (fun r1 w1 => r1 = r ∧ w1 = w')
abbrev E_Op_standsAt (l : Launch) (D : va_G) (cA : Nat → ClassId) (mc ms : Nat) (args : List Value) (w : mj_M) (kp : Nat → Prop) (post : mj_R) : Prop := mj_Ev zG l D cA m_Op_standsAt 1 40 mc ms args w kp post
abbrev E0_Op_standsAt (l : Launch) (D : va_G) (cA : Nat → ClassId) (args : List Value) (w : mj_M) (r : Option Value) (w' : mj_M) : Prop := mj_Ev zG l D cA m_Op_standsAt 1 40 0 0 args w (fun _ => True) (fun r1 w1 => r1 = r ∧ w1 = w')
theorem v_Op_standsAt : mj_VW zG m_Op_standsAt 2 := ⟨z3_6, z3_7, z1_18, z3_8, by decide, by decide, by decide +kernel⟩
abbrev E_Op_folded (l : Launch) (D : va_G) (cA : Nat → ClassId) (mc ms : Nat) (args : List Value) (w : mj_M) (kp : Nat → Prop) (post : mj_R) : Prop := mj_Ev zG l D cA m_Op_folded 0 0 mc ms args w kp post
abbrev E0_Op_folded (l : Launch) (D : va_G) (cA : Nat → ClassId) (args : List Value) (w : mj_M) (r : Option Value) (w' : mj_M) : Prop := mj_Ev zG l D cA m_Op_folded 0 0 0 0 args w (fun _ => True) (fun r1 w1 => r1 = r ∧ w1 = w')
theorem v_Op_folded : mj_VW zG m_Op_folded 1 := ⟨z3_16, zinP (q := (⟨"StreamWatch$Option", "folded", "(I)I"⟩, 7)) (by decide +kernel), z1_18, z3_18, by decide, by decide, by decide +kernel⟩
abbrev E_Pk_init (l : Launch) (D : va_G) (cA : Nat → ClassId) (mc ms : Nat) (args : List Value) (w : mj_M) (kp : Nat → Prop) (post : mj_R) : Prop := mj_Ev zG l D cA m_Pk_init 1 40 mc ms args w kp post
abbrev E0_Pk_init (l : Launch) (D : va_G) (cA : Nat → ClassId) (args : List Value) (w : mj_M) (r : Option Value) (w' : mj_M) : Prop := mj_Ev zG l D cA m_Pk_init 1 40 0 0 args w (fun _ => True) (fun r1 w1 => r1 = r ∧ w1 = w')
abbrev E_Pk_read (l : Launch) (D : va_G) (cA : Nat → ClassId) (mc ms : Nat) (args : List Value) (w : mj_M) (kp : Nat → Prop) (post : mj_R) : Prop := mj_Ev zG l D cA m_Pk_read 5 200 mc ms args w kp post
abbrev E0_Pk_read (l : Launch) (D : va_G) (cA : Nat → ClassId) (args : List Value) (w : mj_M) (r : Option Value) (w' : mj_M) : Prop := mj_Ev zG l D cA m_Pk_read 5 200 0 0 args w (fun _ => True) (fun r1 w1 => r1 = r ∧ w1 = w')
theorem v_Pk_read : mj_VW zG m_Pk_read 1 := ⟨z2_96, z2_97, z1_3, z2_98, by decide, by decide, by decide +kernel⟩
abbrev E_Pk_hasFlag (l : Launch) (D : va_G) (cA : Nat → ClassId) (mc ms : Nat) (args : List Value) (w : mj_M) (kp : Nat → Prop) (post : mj_R) : Prop := mj_Ev zG l D cA m_Pk_hasFlag 0 0 mc ms args w kp post
abbrev E0_Pk_hasFlag (l : Launch) (D : va_G) (cA : Nat → ClassId) (args : List Value) (w : mj_M) (r : Option Value) (w' : mj_M) : Prop := mj_Ev zG l D cA m_Pk_hasFlag 0 0 0 0 args w (fun _ => True) (fun r1 w1 => r1 = r ∧ w1 = w')
theorem v_Pk_hasFlag : mj_VW zG m_Pk_hasFlag 1 := ⟨z2_107, z2_108, z1_3, z2_109, by decide, by decide, by decide +kernel⟩
abbrev E_Ru_init (l : Launch) (D : va_G) (cA : Nat → ClassId) (mc ms : Nat) (args : List Value) (w : mj_M) (kp : Nat → Prop) (post : mj_R) : Prop := mj_Ev zG l D cA m_Ru_init 1 40 mc ms args w kp post
abbrev E0_Ru_init (l : Launch) (D : va_G) (cA : Nat → ClassId) (args : List Value) (w : mj_M) (r : Option Value) (w' : mj_M) : Prop := mj_Ev zG l D cA m_Ru_init 1 40 0 0 args w (fun _ => True) (fun r1 w1 => r1 = r ∧ w1 = w')
abbrev E_Ru_size (l : Launch) (D : va_G) (cA : Nat → ClassId) (mc ms : Nat) (args : List Value) (w : mj_M) (kp : Nat → Prop) (post : mj_R) : Prop := mj_Ev zG l D cA m_Ru_size 0 0 mc ms args w kp post
abbrev E0_Ru_size (l : Launch) (D : va_G) (cA : Nat → ClassId) (args : List Value) (w : mj_M) (r : Option Value) (w' : mj_M) : Prop := mj_Ev zG l D cA m_Ru_size 0 0 0 0 args w (fun _ => True) (fun r1 w1 => r1 = r ∧ w1 = w')
theorem v_Ru_size : mj_VW zG m_Ru_size 0 := ⟨z2_234, z2_235, z1_17, z2_236, by decide, by decide, by decide +kernel⟩
abbrev E_Ru_add (l : Launch) (D : va_G) (cA : Nat → ClassId) (mc ms : Nat) (args : List Value) (w : mj_M) (kp : Nat → Prop) (post : mj_R) : Prop := mj_Ev zG l D cA m_Ru_add 0 0 mc ms args w kp post
abbrev E0_Ru_add (l : Launch) (D : va_G) (cA : Nat → ClassId) (args : List Value) (w : mj_M) (r : Option Value) (w' : mj_M) : Prop := mj_Ev zG l D cA m_Ru_add 0 0 0 0 args w (fun _ => True) (fun r1 w1 => r1 = r ∧ w1 = w')
theorem v_Ru_add : mj_VW zG m_Ru_add 1 := ⟨z4_56, z4_57, z1_17, z4_58, by decide, by decide, by decide +kernel⟩
abbrev E_Ru_at (l : Launch) (D : va_G) (cA : Nat → ClassId) (mc ms : Nat) (args : List Value) (w : mj_M) (kp : Nat → Prop) (post : mj_R) : Prop := mj_Ev zG l D cA m_Ru_at 0 0 mc ms args w kp post
abbrev E0_Ru_at (l : Launch) (D : va_G) (cA : Nat → ClassId) (args : List Value) (w : mj_M) (r : Option Value) (w' : mj_M) : Prop := mj_Ev zG l D cA m_Ru_at 0 0 0 0 args w (fun _ => True) (fun r1 w1 => r1 = r ∧ w1 = w')
theorem v_Ru_at : mj_VW zG m_Ru_at 1 := ⟨z2_238, z2_239, z1_17, z3_0, by decide, by decide, by decide +kernel⟩
abbrev E_Ru_isFor (l : Launch) (D : va_G) (cA : Nat → ClassId) (mc ms : Nat) (args : List Value) (w : mj_M) (kp : Nat → Prop) (post : mj_R) : Prop := mj_Ev zG l D cA m_Ru_isFor 0 0 mc ms args w kp post
abbrev E0_Ru_isFor (l : Launch) (D : va_G) (cA : Nat → ClassId) (args : List Value) (w : mj_M) (r : Option Value) (w' : mj_M) : Prop := mj_Ev zG l D cA m_Ru_isFor 0 0 0 0 args w (fun _ => True) (fun r1 w1 => r1 = r ∧ w1 = w')
theorem v_Ru_isFor : mj_VW zG m_Ru_isFor 2 := ⟨z2_206, z2_207, z1_17, z2_208, by decide, by decide, by decide +kernel⟩
abbrev E_Se_init (l : Launch) (D : va_G) (cA : Nat → ClassId) (mc ms : Nat) (args : List Value) (w : mj_M) (kp : Nat → Prop) (post : mj_R) : Prop := mj_Ev zG l D cA m_Se_init 2 80 mc ms args w kp post
abbrev E0_Se_init (l : Launch) (D : va_G) (cA : Nat → ClassId) (args : List Value) (w : mj_M) (r : Option Value) (w' : mj_M) : Prop := mj_Ev zG l D cA m_Se_init 2 80 0 0 args w (fun _ => True) (fun r1 w1 => r1 = r ∧ w1 = w')
abbrev E_Se_holds (l : Launch) (D : va_G) (cA : Nat → ClassId) (mc ms : Nat) (args : List Value) (w : mj_M) (kp : Nat → Prop) (post : mj_R) : Prop := mj_Ev zG l D cA m_Se_holds 3 120 mc ms args w kp post
abbrev E0_Se_holds (l : Launch) (D : va_G) (cA : Nat → ClassId) (args : List Value) (w : mj_M) (r : Option Value) (w' : mj_M) : Prop := mj_Ev zG l D cA m_Se_holds 3 120 0 0 args w (fun _ => True) (fun r1 w1 => r1 = r ∧ w1 = w')
theorem v_Se_holds : mj_VW zG m_Se_holds 2 := ⟨z2_214, z2_215, z1_7, z2_216, by decide, by decide, by decide +kernel⟩
abbrev E_Se_find (l : Launch) (D : va_G) (cA : Nat → ClassId) (mc ms : Nat) (args : List Value) (w : mj_M) (kp : Nat → Prop) (post : mj_R) : Prop := mj_Ev zG l D cA m_Se_find 2 80 mc ms args w kp post
abbrev E0_Se_find (l : Launch) (D : va_G) (cA : Nat → ClassId) (args : List Value) (w : mj_M) (r : Option Value) (w' : mj_M) : Prop := mj_Ev zG l D cA m_Se_find 2 80 0 0 args w (fun _ => True) (fun r1 w1 => r1 = r ∧ w1 = w')
theorem v_Se_find : mj_VW zG m_Se_find 2 := ⟨z3_3, zinP (q := (⟨"StreamWatch$Search", "find", "(LStreamWatch$Option;LStreamWatch$Stream;)V"⟩, 2)) (by decide +kernel), z1_7, z3_4, by decide, by decide, by decide +kernel⟩
abbrev E_Se_dropBases (l : Launch) (D : va_G) (cA : Nat → ClassId) (mc ms : Nat) (args : List Value) (w : mj_M) (kp : Nat → Prop) (post : mj_R) : Prop := mj_Ev zG l D cA m_Se_dropBases 2 80 mc ms args w kp post
abbrev E0_Se_dropBases (l : Launch) (D : va_G) (cA : Nat → ClassId) (args : List Value) (w : mj_M) (r : Option Value) (w' : mj_M) : Prop := mj_Ev zG l D cA m_Se_dropBases 2 80 0 0 args w (fun _ => True) (fun r1 w1 => r1 = r ∧ w1 = w')
theorem v_Se_dropBases : mj_VW zG m_Se_dropBases 2 := ⟨z3_23, zinP (q := (⟨"StreamWatch$Search", "dropBases", "(LStreamWatch$Option;I)V"⟩, 2)) (by decide +kernel), z1_7, z3_24, by decide, by decide, by decide +kernel⟩
abbrev E_Se_moveBases (l : Launch) (D : va_G) (cA : Nat → ClassId) (mc ms : Nat) (args : List Value) (w : mj_M) (kp : Nat → Prop) (post : mj_R) : Prop := mj_Ev zG l D cA m_Se_moveBases 2 80 mc ms args w kp post
abbrev E0_Se_moveBases (l : Launch) (D : va_G) (cA : Nat → ClassId) (args : List Value) (w : mj_M) (r : Option Value) (w' : mj_M) : Prop := mj_Ev zG l D cA m_Se_moveBases 2 80 0 0 args w (fun _ => True) (fun r1 w1 => r1 = r ∧ w1 = w')
theorem v_Se_moveBases : mj_VW zG m_Se_moveBases 2 := ⟨z3_37, zinP (q := (⟨"StreamWatch$Search", "moveBases", "(LStreamWatch$Option;I)V"⟩, 2)) (by decide +kernel), z1_7, z3_38, by decide, by decide, by decide +kernel⟩
abbrev E_Sm_init (l : Launch) (D : va_G) (cA : Nat → ClassId) (mc ms : Nat) (args : List Value) (w : mj_M) (kp : Nat → Prop) (post : mj_R) : Prop := mj_Ev zG l D cA m_Sm_init 1 40 mc ms args w kp post
abbrev E0_Sm_init (l : Launch) (D : va_G) (cA : Nat → ClassId) (args : List Value) (w : mj_M) (r : Option Value) (w' : mj_M) : Prop := mj_Ev zG l D cA m_Sm_init 1 40 0 0 args w (fun _ => True) (fun r1 w1 => r1 = r ∧ w1 = w')
abbrev E_Sm_reset (l : Launch) (D : va_G) (cA : Nat → ClassId) (mc ms : Nat) (args : List Value) (w : mj_M) (kp : Nat → Prop) (post : mj_R) : Prop := mj_Ev zG l D cA m_Sm_reset 1 40 mc ms args w kp post
abbrev E0_Sm_reset (l : Launch) (D : va_G) (cA : Nat → ClassId) (args : List Value) (w : mj_M) (r : Option Value) (w' : mj_M) : Prop := mj_Ev zG l D cA m_Sm_reset 1 40 0 0 args w (fun _ => True) (fun r1 w1 => r1 = r ∧ w1 = w')
theorem v_Sm_reset : mj_VW zG m_Sm_reset 0 := ⟨z2_150, z2_151, z1_6, z2_152, by decide, by decide, by decide +kernel⟩
abbrev E_Sm_begin (l : Launch) (D : va_G) (cA : Nat → ClassId) (mc ms : Nat) (args : List Value) (w : mj_M) (kp : Nat → Prop) (post : mj_R) : Prop := mj_Ev zG l D cA m_Sm_begin 0 0 mc ms args w kp post
abbrev E0_Sm_begin (l : Launch) (D : va_G) (cA : Nat → ClassId) (args : List Value) (w : mj_M) (r : Option Value) (w' : mj_M) : Prop := mj_Ev zG l D cA m_Sm_begin 0 0 0 0 args w (fun _ => True) (fun r1 w1 => r1 = r ∧ w1 = w')
theorem v_Sm_begin : mj_VW zG m_Sm_begin 1 := ⟨z2_175, z2_176, z1_6, z2_177, by decide, by decide, by decide +kernel⟩
abbrev E_Sm_hold (l : Launch) (D : va_G) (cA : Nat → ClassId) (mc ms : Nat) (args : List Value) (w : mj_M) (kp : Nat → Prop) (post : mj_R) : Prop := mj_Ev zG l D cA m_Sm_hold 1 40 mc ms args w kp post
abbrev E0_Sm_hold (l : Launch) (D : va_G) (cA : Nat → ClassId) (args : List Value) (w : mj_M) (r : Option Value) (w' : mj_M) : Prop := mj_Ev zG l D cA m_Sm_hold 1 40 0 0 args w (fun _ => True) (fun r1 w1 => r1 = r ∧ w1 = w')
theorem v_Sm_hold : mj_VW zG m_Sm_hold 3 := ⟨z2_183, z2_184, z1_6, z2_185, by decide, by decide, by decide +kernel⟩
abbrev E_Sm_isNextHeld (l : Launch) (D : va_G) (cA : Nat → ClassId) (mc ms : Nat) (args : List Value) (w : mj_M) (kp : Nat → Prop) (post : mj_R) : Prop := mj_Ev zG l D cA m_Sm_isNextHeld 1 40 mc ms args w kp post
abbrev E0_Sm_isNextHeld (l : Launch) (D : va_G) (cA : Nat → ClassId) (args : List Value) (w : mj_M) (r : Option Value) (w' : mj_M) : Prop := mj_Ev zG l D cA m_Sm_isNextHeld 1 40 0 0 args w (fun _ => True) (fun r1 w1 => r1 = r ∧ w1 = w')
theorem v_Sm_isNextHeld : mj_VW zG m_Sm_isNextHeld 0 := ⟨z2_190, z2_191, z1_6, z2_192, by decide, by decide, by decide +kernel⟩
abbrev E_Sm_takeNext (l : Launch) (D : va_G) (cA : Nat → ClassId) (mc ms : Nat) (args : List Value) (w : mj_M) (kp : Nat → Prop) (post : mj_R) : Prop := mj_Ev zG l D cA m_Sm_takeNext 1 40 mc ms args w kp post
abbrev E0_Sm_takeNext (l : Launch) (D : va_G) (cA : Nat → ClassId) (args : List Value) (w : mj_M) (r : Option Value) (w' : mj_M) : Prop := mj_Ev zG l D cA m_Sm_takeNext 1 40 0 0 args w (fun _ => True) (fun r1 w1 => r1 = r ∧ w1 = w')
theorem v_Sm_takeNext : mj_VW zG m_Sm_takeNext 0 := ⟨z2_194, z2_195, z1_6, z2_196, by decide, by decide, by decide +kernel⟩
abbrev E_Sm_end (l : Launch) (D : va_G) (cA : Nat → ClassId) (mc ms : Nat) (args : List Value) (w : mj_M) (kp : Nat → Prop) (post : mj_R) : Prop := mj_Ev zG l D cA m_Sm_end 0 0 mc ms args w kp post
abbrev E0_Sm_end (l : Launch) (D : va_G) (cA : Nat → ClassId) (args : List Value) (w : mj_M) (r : Option Value) (w' : mj_M) : Prop := mj_Ev zG l D cA m_Sm_end 0 0 0 0 args w (fun _ => True) (fun r1 w1 => r1 = r ∧ w1 = w')
theorem v_Sm_end : mj_VW zG m_Sm_end 0 := ⟨z3_57, z3_58, z1_6, z3_59, by decide, by decide, by decide +kernel⟩
abbrev E_Sm_hasEnded (l : Launch) (D : va_G) (cA : Nat → ClassId) (mc ms : Nat) (args : List Value) (w : mj_M) (kp : Nat → Prop) (post : mj_R) : Prop := mj_Ev zG l D cA m_Sm_hasEnded 0 0 mc ms args w kp post
abbrev E0_Sm_hasEnded (l : Launch) (D : va_G) (cA : Nat → ClassId) (args : List Value) (w : mj_M) (r : Option Value) (w' : mj_M) : Prop := mj_Ev zG l D cA m_Sm_hasEnded 0 0 0 0 args w (fun _ => True) (fun r1 w1 => r1 = r ∧ w1 = w')
theorem v_Sm_hasEnded : mj_VW zG m_Sm_hasEnded 0 := ⟨z3_65, z3_66, z1_6, z3_67, by decide, by decide, by decide +kernel⟩
abbrev E_Sm_size (l : Launch) (D : va_G) (cA : Nat → ClassId) (mc ms : Nat) (args : List Value) (w : mj_M) (kp : Nat → Prop) (post : mj_R) : Prop := mj_Ev zG l D cA m_Sm_size 0 0 mc ms args w kp post
abbrev E0_Sm_size (l : Launch) (D : va_G) (cA : Nat → ClassId) (args : List Value) (w : mj_M) (r : Option Value) (w' : mj_M) : Prop := mj_Ev zG l D cA m_Sm_size 0 0 0 0 args w (fun _ => True) (fun r1 w1 => r1 = r ∧ w1 = w')
theorem v_Sm_size : mj_VW zG m_Sm_size 0 := ⟨z2_218, z2_219, z1_6, z2_220, by decide, by decide, by decide +kernel⟩
abbrev E_Sm_next (l : Launch) (D : va_G) (cA : Nat → ClassId) (mc ms : Nat) (args : List Value) (w : mj_M) (kp : Nat → Prop) (post : mj_R) : Prop := mj_Ev zG l D cA m_Sm_next 0 0 mc ms args w kp post
abbrev E0_Sm_next (l : Launch) (D : va_G) (cA : Nat → ClassId) (args : List Value) (w : mj_M) (r : Option Value) (w' : mj_M) : Prop := mj_Ev zG l D cA m_Sm_next 0 0 0 0 args w (fun _ => True) (fun r1 w1 => r1 = r ∧ w1 = w')
theorem v_Sm_next : mj_VW zG m_Sm_next 0 := ⟨z3_53, z3_54, z1_6, z3_55, by decide, by decide, by decide +kernel⟩
abbrev E_Sm_heldCount (l : Launch) (D : va_G) (cA : Nat → ClassId) (mc ms : Nat) (args : List Value) (w : mj_M) (kp : Nat → Prop) (post : mj_R) : Prop := mj_Ev zG l D cA m_Sm_heldCount 0 0 mc ms args w kp post
abbrev E0_Sm_heldCount (l : Launch) (D : va_G) (cA : Nat → ClassId) (args : List Value) (w : mj_M) (r : Option Value) (w' : mj_M) : Prop := mj_Ev zG l D cA m_Sm_heldCount 0 0 0 0 args w (fun _ => True) (fun r1 w1 => r1 = r ∧ w1 = w')
theorem v_Sm_heldCount : mj_VW zG m_Sm_heldCount 0 := ⟨z3_87, z3_88, z1_6, z3_89, by decide, by decide, by decide +kernel⟩
abbrev E_Sm_byteAt (l : Launch) (D : va_G) (cA : Nat → ClassId) (mc ms : Nat) (args : List Value) (w : mj_M) (kp : Nat → Prop) (post : mj_R) : Prop := mj_Ev zG l D cA m_Sm_byteAt 0 0 mc ms args w kp post
abbrev E0_Sm_byteAt (l : Launch) (D : va_G) (cA : Nat → ClassId) (args : List Value) (w : mj_M) (r : Option Value) (w' : mj_M) : Prop := mj_Ev zG l D cA m_Sm_byteAt 0 0 0 0 args w (fun _ => True) (fun r1 w1 => r1 = r ∧ w1 = w')
theorem v_Sm_byteAt : mj_VW zG m_Sm_byteAt 1 := ⟨z3_11, z3_12, z1_6, z3_13, by decide, by decide, by decide +kernel⟩
abbrev E_Sm_hasRaised (l : Launch) (D : va_G) (cA : Nat → ClassId) (mc ms : Nat) (args : List Value) (w : mj_M) (kp : Nat → Prop) (post : mj_R) : Prop := mj_Ev zG l D cA m_Sm_hasRaised 0 0 mc ms args w kp post
abbrev E0_Sm_hasRaised (l : Launch) (D : va_G) (cA : Nat → ClassId) (args : List Value) (w : mj_M) (r : Option Value) (w' : mj_M) : Prop := mj_Ev zG l D cA m_Sm_hasRaised 0 0 0 0 args w (fun _ => True) (fun r1 w1 => r1 = r ∧ w1 = w')
theorem v_Sm_hasRaised : mj_VW zG m_Sm_hasRaised 1 := ⟨z2_210, z2_211, z1_6, z2_212, by decide, by decide, by decide +kernel⟩
abbrev E_Sm_setRaised (l : Launch) (D : va_G) (cA : Nat → ClassId) (mc ms : Nat) (args : List Value) (w : mj_M) (kp : Nat → Prop) (post : mj_R) : Prop := mj_Ev zG l D cA m_Sm_setRaised 0 0 mc ms args w kp post
abbrev E0_Sm_setRaised (l : Launch) (D : va_G) (cA : Nat → ClassId) (args : List Value) (w : mj_M) (r : Option Value) (w' : mj_M) : Prop := mj_Ev zG l D cA m_Sm_setRaised 0 0 0 0 args w (fun _ => True) (fun r1 w1 => r1 = r ∧ w1 = w')
theorem v_Sm_setRaised : mj_VW zG m_Sm_setRaised 1 := ⟨z3_44, z3_45, z1_6, z3_46, by decide, by decide, by decide +kernel⟩
abbrev E_Sm_emptyWindow (l : Launch) (D : va_G) (cA : Nat → ClassId) (mc ms : Nat) (args : List Value) (w : mj_M) (kp : Nat → Prop) (post : mj_R) : Prop := mj_Ev zG l D cA m_Sm_emptyWindow 0 0 mc ms args w kp post
abbrev E0_Sm_emptyWindow (l : Launch) (D : va_G) (cA : Nat → ClassId) (args : List Value) (w : mj_M) (r : Option Value) (w' : mj_M) : Prop := mj_Ev zG l D cA m_Sm_emptyWindow 0 0 0 0 args w (fun _ => True) (fun r1 w1 => r1 = r ∧ w1 = w')
theorem v_Sm_emptyWindow : mj_VW zG m_Sm_emptyWindow 0 := ⟨z1_100, zinP (q := (⟨"StreamWatch$Stream", "emptyWindow", "()V"⟩, 8)) (by decide +kernel), z1_6, z1_101, by decide, by decide, by decide +kernel⟩
abbrev E_Sm_placeOf (l : Launch) (D : va_G) (cA : Nat → ClassId) (mc ms : Nat) (args : List Value) (w : mj_M) (kp : Nat → Prop) (post : mj_R) : Prop := mj_Ev zG l D cA m_Sm_placeOf 0 0 mc ms args w kp post
abbrev E0_Sm_placeOf (l : Launch) (D : va_G) (cA : Nat → ClassId) (args : List Value) (w : mj_M) (r : Option Value) (w' : mj_M) : Prop := mj_Ev zG l D cA m_Sm_placeOf 0 0 0 0 args w (fun _ => True) (fun r1 w1 => r1 = r ∧ w1 = w')
theorem v_Sm_placeOf : mj_SW zG m_Sm_placeOf 1 := ⟨z2_187, z1_6, z2_188, by decide, by decide, by decide +kernel⟩
abbrev E_Wi_init (l : Launch) (D : va_G) (cA : Nat → ClassId) (mc ms : Nat) (args : List Value) (w : mj_M) (kp : Nat → Prop) (post : mj_R) : Prop := mj_Ev zG l D cA m_Wi_init 1 40 mc ms args w kp post
abbrev E0_Wi_init (l : Launch) (D : va_G) (cA : Nat → ClassId) (args : List Value) (w : mj_M) (r : Option Value) (w' : mj_M) : Prop := mj_Ev zG l D cA m_Wi_init 1 40 0 0 args w (fun _ => True) (fun r1 w1 => r1 = r ∧ w1 = w')
abbrev E_Wi_size (l : Launch) (D : va_G) (cA : Nat → ClassId) (mc ms : Nat) (args : List Value) (w : mj_M) (kp : Nat → Prop) (post : mj_R) : Prop := mj_Ev zG l D cA m_Wi_size 0 0 mc ms args w kp post
abbrev E0_Wi_size (l : Launch) (D : va_G) (cA : Nat → ClassId) (args : List Value) (w : mj_M) (r : Option Value) (w' : mj_M) : Prop := mj_Ev zG l D cA m_Wi_size 0 0 0 0 args w (fun _ => True) (fun r1 w1 => r1 = r ∧ w1 = w')
theorem v_Wi_size : mj_VW zG m_Wi_size 0 := ⟨z2_86, z2_87, z1_2, z2_88, by decide, by decide, by decide +kernel⟩
abbrev E_Wi_has (l : Launch) (D : va_G) (cA : Nat → ClassId) (mc ms : Nat) (args : List Value) (w : mj_M) (kp : Nat → Prop) (post : mj_R) : Prop := mj_Ev zG l D cA m_Wi_has 0 0 mc ms args w kp post
abbrev E0_Wi_has (l : Launch) (D : va_G) (cA : Nat → ClassId) (args : List Value) (w : mj_M) (r : Option Value) (w' : mj_M) : Prop := mj_Ev zG l D cA m_Wi_has 0 0 0 0 args w (fun _ => True) (fun r1 w1 => r1 = r ∧ w1 = w')
theorem v_Wi_has : mj_VW zG m_Wi_has 1 := ⟨z2_6, z2_7, z1_2, z2_8, by decide, by decide, by decide +kernel⟩
abbrev E_Wi_at (l : Launch) (D : va_G) (cA : Nat → ClassId) (mc ms : Nat) (args : List Value) (w : mj_M) (kp : Nat → Prop) (post : mj_R) : Prop := mj_Ev zG l D cA m_Wi_at 1 40 mc ms args w kp post
abbrev E0_Wi_at (l : Launch) (D : va_G) (cA : Nat → ClassId) (args : List Value) (w : mj_M) (r : Option Value) (w' : mj_M) : Prop := mj_Ev zG l D cA m_Wi_at 1 40 0 0 args w (fun _ => True) (fun r1 w1 => r1 = r ∧ w1 = w')
theorem v_Wi_at : mj_VW zG m_Wi_at 1 := ⟨z2_34, z2_35, z1_2, z2_36, by decide, by decide, by decide +kernel⟩
abbrev E_Wi_clear (l : Launch) (D : va_G) (cA : Nat → ClassId) (mc ms : Nat) (args : List Value) (w : mj_M) (kp : Nat → Prop) (post : mj_R) : Prop := mj_Ev zG l D cA m_Wi_clear 0 0 mc ms args w kp post
abbrev E0_Wi_clear (l : Launch) (D : va_G) (cA : Nat → ClassId) (args : List Value) (w : mj_M) (r : Option Value) (w' : mj_M) : Prop := mj_Ev zG l D cA m_Wi_clear 0 0 0 0 args w (fun _ => True) (fun r1 w1 => r1 = r ∧ w1 = w')
theorem v_Wi_clear : mj_VW zG m_Wi_clear 0 := ⟨z2_14, z2_15, z1_2, z2_16, by decide, by decide, by decide +kernel⟩
abbrev E_Wi_flip (l : Launch) (D : va_G) (cA : Nat → ClassId) (mc ms : Nat) (args : List Value) (w : mj_M) (kp : Nat → Prop) (post : mj_R) : Prop := mj_Ev zG l D cA m_Wi_flip 1 40 mc ms args w kp post
abbrev E0_Wi_flip (l : Launch) (D : va_G) (cA : Nat → ClassId) (args : List Value) (w : mj_M) (r : Option Value) (w' : mj_M) : Prop := mj_Ev zG l D cA m_Wi_flip 1 40 0 0 args w (fun _ => True) (fun r1 w1 => r1 = r ∧ w1 = w')
theorem v_Wi_flip : mj_VW zG m_Wi_flip 2 := ⟨z2_2, z2_3, z1_2, z2_4, by decide, by decide, by decide +kernel⟩
abbrev E_Wi_append (l : Launch) (D : va_G) (cA : Nat → ClassId) (mc ms : Nat) (args : List Value) (w : mj_M) (kp : Nat → Prop) (post : mj_R) : Prop := mj_Ev zG l D cA m_Wi_append 0 0 mc ms args w kp post
abbrev E0_Wi_append (l : Launch) (D : va_G) (cA : Nat → ClassId) (args : List Value) (w : mj_M) (r : Option Value) (w' : mj_M) : Prop := mj_Ev zG l D cA m_Wi_append 0 0 0 0 args w (fun _ => True) (fun r1 w1 => r1 = r ∧ w1 = w')
theorem v_Wi_append : mj_VW zG m_Wi_append 2 := ⟨z2_22, z2_23, z1_2, z2_24, by decide, by decide, by decide +kernel⟩
abbrev E_Wi_fault (l : Launch) (D : va_G) (cA : Nat → ClassId) (mc ms : Nat) (args : List Value) (w : mj_M) (kp : Nat → Prop) (post : mj_R) : Prop := mj_Ev zG l D cA m_Wi_fault 5 200 mc ms args w kp post
abbrev E0_Wi_fault (l : Launch) (D : va_G) (cA : Nat → ClassId) (args : List Value) (w : mj_M) (r : Option Value) (w' : mj_M) : Prop := mj_Ev zG l D cA m_Wi_fault 5 200 0 0 args w (fun _ => True) (fun r1 w1 => r1 = r ∧ w1 = w')
theorem v_Wi_fault : mj_VW zG m_Wi_fault 1 := ⟨z2_30, z2_31, z1_2, z2_32, by decide, by decide, by decide +kernel⟩
abbrev E_Wi_makeSumsRight (l : Launch) (D : va_G) (cA : Nat → ClassId) (mc ms : Nat) (args : List Value) (w : mj_M) (kp : Nat → Prop) (post : mj_R) : Prop := mj_Ev zG l D cA m_Wi_makeSumsRight 5 200 mc ms args w kp post
abbrev E0_Wi_makeSumsRight (l : Launch) (D : va_G) (cA : Nat → ClassId) (args : List Value) (w : mj_M) (r : Option Value) (w' : mj_M) : Prop := mj_Ev zG l D cA m_Wi_makeSumsRight 5 200 0 0 args w (fun _ => True) (fun r1 w1 => r1 = r ∧ w1 = w')
theorem v_Wi_makeSumsRight : mj_VW zG m_Wi_makeSumsRight 0 := ⟨z2_74, z2_75, z1_2, z2_76, by decide, by decide, by decide +kernel⟩
abbrev E_Wi_ipSize (l : Launch) (D : va_G) (cA : Nat → ClassId) (mc ms : Nat) (args : List Value) (w : mj_M) (kp : Nat → Prop) (post : mj_R) : Prop := mj_Ev zG l D cA m_Wi_ipSize 2 80 mc ms args w kp post
abbrev E0_Wi_ipSize (l : Launch) (D : va_G) (cA : Nat → ClassId) (args : List Value) (w : mj_M) (r : Option Value) (w' : mj_M) : Prop := mj_Ev zG l D cA m_Wi_ipSize 2 80 0 0 args w (fun _ => True) (fun r1 w1 => r1 = r ∧ w1 = w')
theorem v_Wi_ipSize : mj_VW zG m_Wi_ipSize 0 := ⟨z2_46, z2_47, z1_2, z2_48, by decide, by decide, by decide +kernel⟩
abbrev E_Wi_length (l : Launch) (D : va_G) (cA : Nat → ClassId) (mc ms : Nat) (args : List Value) (w : mj_M) (kp : Nat → Prop) (post : mj_R) : Prop := mj_Ev zG l D cA m_Wi_length 3 120 mc ms args w kp post
abbrev E0_Wi_length (l : Launch) (D : va_G) (cA : Nat → ClassId) (args : List Value) (w : mj_M) (r : Option Value) (w' : mj_M) : Prop := mj_Ev zG l D cA m_Wi_length 3 120 0 0 args w (fun _ => True) (fun r1 w1 => r1 = r ∧ w1 = w')
theorem v_Wi_length : mj_VW zG m_Wi_length 0 := ⟨z2_38, z2_39, z1_2, z2_40, by decide, by decide, by decide +kernel⟩
abbrev E_Wi_dataStart (l : Launch) (D : va_G) (cA : Nat → ClassId) (mc ms : Nat) (args : List Value) (w : mj_M) (kp : Nat → Prop) (post : mj_R) : Prop := mj_Ev zG l D cA m_Wi_dataStart 4 160 mc ms args w kp post
abbrev E0_Wi_dataStart (l : Launch) (D : va_G) (cA : Nat → ClassId) (args : List Value) (w : mj_M) (r : Option Value) (w' : mj_M) : Prop := mj_Ev zG l D cA m_Wi_dataStart 4 160 0 0 args w (fun _ => True) (fun r1 w1 => r1 = r ∧ w1 = w')
theorem v_Wi_dataStart : mj_VW zG m_Wi_dataStart 0 := ⟨z2_66, z2_67, z1_2, z2_68, by decide, by decide, by decide +kernel⟩
abbrev E_Wi_pairAt (l : Launch) (D : va_G) (cA : Nat → ClassId) (mc ms : Nat) (args : List Value) (w : mj_M) (kp : Nat → Prop) (post : mj_R) : Prop := mj_Ev zG l D cA m_Wi_pairAt 2 80 mc ms args w kp post
abbrev E0_Wi_pairAt (l : Launch) (D : va_G) (cA : Nat → ClassId) (args : List Value) (w : mj_M) (r : Option Value) (w' : mj_M) : Prop := mj_Ev zG l D cA m_Wi_pairAt 2 80 0 0 args w (fun _ => True) (fun r1 w1 => r1 = r ∧ w1 = w')
theorem v_Wi_pairAt : mj_VW zG m_Wi_pairAt 1 := ⟨z2_42, z2_43, z1_2, z2_44, by decide, by decide, by decide +kernel⟩
abbrev E_Wi_quadAt (l : Launch) (D : va_G) (cA : Nat → ClassId) (mc ms : Nat) (args : List Value) (w : mj_M) (kp : Nat → Prop) (post : mj_R) : Prop := mj_Ev zG l D cA m_Wi_quadAt 3 120 mc ms args w kp post
abbrev E0_Wi_quadAt (l : Launch) (D : va_G) (cA : Nat → ClassId) (args : List Value) (w : mj_M) (r : Option Value) (w' : mj_M) : Prop := mj_Ev zG l D cA m_Wi_quadAt 3 120 0 0 args w (fun _ => True) (fun r1 w1 => r1 = r ∧ w1 = w')
theorem v_Wi_quadAt : mj_VW zG m_Wi_quadAt 1 := ⟨z2_101, z2_102, z1_2, z2_103, by decide, by decide, by decide +kernel⟩
abbrev E_Wi_tcpWords (l : Launch) (D : va_G) (cA : Nat → ClassId) (mc ms : Nat) (args : List Value) (w : mj_M) (kp : Nat → Prop) (post : mj_R) : Prop := mj_Ev zG l D cA m_Wi_tcpWords 3 120 mc ms args w kp post
abbrev E0_Wi_tcpWords (l : Launch) (D : va_G) (cA : Nat → ClassId) (args : List Value) (w : mj_M) (r : Option Value) (w' : mj_M) : Prop := mj_Ev zG l D cA m_Wi_tcpWords 3 120 0 0 args w (fun _ => True) (fun r1 w1 => r1 = r ∧ w1 = w')
theorem v_Wi_tcpWords : mj_VW zG m_Wi_tcpWords 0 := ⟨z2_63, zinP (q := (⟨"StreamWatch$Wire", "tcpWords", "()I"⟩, 2)) (by decide +kernel), z1_2, z2_64, by decide, by decide, by decide +kernel⟩
abbrev E_Wi_ipSum (l : Launch) (D : va_G) (cA : Nat → ClassId) (mc ms : Nat) (args : List Value) (w : mj_M) (kp : Nat → Prop) (post : mj_R) : Prop := mj_Ev zG l D cA m_Wi_ipSum 3 120 mc ms args w kp post
abbrev E0_Wi_ipSum (l : Launch) (D : va_G) (cA : Nat → ClassId) (args : List Value) (w : mj_M) (r : Option Value) (w' : mj_M) : Prop := mj_Ev zG l D cA m_Wi_ipSum 3 120 0 0 args w (fun _ => True) (fun r1 w1 => r1 = r ∧ w1 = w')
theorem v_Wi_ipSum : mj_VW zG m_Wi_ipSum 0 := ⟨z2_51, zinP (q := (⟨"StreamWatch$Wire", "ipSum", "()I"⟩, 2)) (by decide +kernel), z1_2, z2_52, by decide, by decide, by decide +kernel⟩
abbrev E_Wi_tcpSum (l : Launch) (D : va_G) (cA : Nat → ClassId) (mc ms : Nat) (args : List Value) (w : mj_M) (kp : Nat → Prop) (post : mj_R) : Prop := mj_Ev zG l D cA m_Wi_tcpSum 4 160 mc ms args w kp post
abbrev E0_Wi_tcpSum (l : Launch) (D : va_G) (cA : Nat → ClassId) (args : List Value) (w : mj_M) (r : Option Value) (w' : mj_M) : Prop := mj_Ev zG l D cA m_Wi_tcpSum 4 160 0 0 args w (fun _ => True) (fun r1 w1 => r1 = r ∧ w1 = w')
theorem v_Wi_tcpSum : mj_VW zG m_Wi_tcpSum 0 := ⟨z2_71, zinP (q := (⟨"StreamWatch$Wire", "tcpSum", "()I"⟩, 2)) (by decide +kernel), z1_2, z2_72, by decide, by decide, by decide +kernel⟩
abbrev E_Wi_sumOf (l : Launch) (D : va_G) (cA : Nat → ClassId) (mc ms : Nat) (args : List Value) (w : mj_M) (kp : Nat → Prop) (post : mj_R) : Prop := mj_Ev zG l D cA m_Wi_sumOf 2 80 mc ms args w kp post
abbrev E0_Wi_sumOf (l : Launch) (D : va_G) (cA : Nat → ClassId) (args : List Value) (w : mj_M) (r : Option Value) (w' : mj_M) : Prop := mj_Ev zG l D cA m_Wi_sumOf 2 80 0 0 args w (fun _ => True) (fun r1 w1 => r1 = r ∧ w1 = w')
theorem v_Wi_sumOf : mj_VW zG m_Wi_sumOf 3 := ⟨z2_55, zinP (q := (⟨"StreamWatch$Wire", "sumOf", "(III)I"⟩, 2)) (by decide +kernel), z1_2, z2_56, by decide, by decide, by decide +kernel⟩
abbrev E_Wi_addToSum (l : Launch) (D : va_G) (cA : Nat → ClassId) (mc ms : Nat) (args : List Value) (w : mj_M) (kp : Nat → Prop) (post : mj_R) : Prop := mj_Ev zG l D cA m_Wi_addToSum 0 0 mc ms args w kp post
abbrev E0_Wi_addToSum (l : Launch) (D : va_G) (cA : Nat → ClassId) (args : List Value) (w : mj_M) (r : Option Value) (w' : mj_M) : Prop := mj_Ev zG l D cA m_Wi_addToSum 0 0 0 0 args w (fun _ => True) (fun r1 w1 => r1 = r ∧ w1 = w')
theorem v_Wi_addToSum : mj_SW zG m_Wi_addToSum 2 := ⟨z2_58, z1_2, z2_59, by decide, by decide, by decide +kernel⟩
abbrev E_Wi_setPair (l : Launch) (D : va_G) (cA : Nat → ClassId) (mc ms : Nat) (args : List Value) (w : mj_M) (kp : Nat → Prop) (post : mj_R) : Prop := mj_Ev zG l D cA m_Wi_setPair 1 40 mc ms args w kp post
abbrev E0_Wi_setPair (l : Launch) (D : va_G) (cA : Nat → ClassId) (args : List Value) (w : mj_M) (r : Option Value) (w' : mj_M) : Prop := mj_Ev zG l D cA m_Wi_setPair 1 40 0 0 args w (fun _ => True) (fun r1 w1 => r1 = r ∧ w1 = w')
theorem v_Wi_setPair : mj_VW zG m_Wi_setPair 2 := ⟨z2_79, zinP (q := (⟨"StreamWatch$Wire", "setPair", "(II)V"⟩, 2)) (by decide +kernel), z1_2, z2_80, by decide, by decide, by decide +kernel⟩
abbrev E_Sw_init (l : Launch) (D : va_G) (cA : Nat → ClassId) (mc ms : Nat) (args : List Value) (w : mj_M) (kp : Nat → Prop) (post : mj_R) : Prop := mj_Ev zG l D cA m_Sw_init 4 160 mc ms args w kp post
abbrev E0_Sw_init (l : Launch) (D : va_G) (cA : Nat → ClassId) (args : List Value) (w : mj_M) (r : Option Value) (w' : mj_M) : Prop := mj_Ev zG l D cA m_Sw_init 4 160 0 0 args w (fun _ => True) (fun r1 w1 => r1 = r ∧ w1 = w')
abbrev E_Sw_craft (l : Launch) (D : va_G) (cA : Nat → ClassId) (mc ms : Nat) (args : List Value) (w : mj_M) (kp : Nat → Prop) (post : mj_R) : Prop := mj_Ev zG l D cA m_Sw_craft 6 240 mc ms args w kp post
abbrev E0_Sw_craft (l : Launch) (D : va_G) (cA : Nat → ClassId) (args : List Value) (w : mj_M) (r : Option Value) (w' : mj_M) : Prop := mj_Ev zG l D cA m_Sw_craft 6 240 0 0 args w (fun _ => True) (fun r1 w1 => r1 = r ∧ w1 = w')
theorem v_Sw_craft : mj_VW zG m_Sw_craft 6 := ⟨z3_117, z3_118, z1_1, z3_119, by decide, by decide, by decide +kernel⟩
abbrev E_Sw_alter (l : Launch) (D : va_G) (cA : Nat → ClassId) (mc ms : Nat) (args : List Value) (w : mj_M) (kp : Nat → Prop) (post : mj_R) : Prop := mj_Ev zG l D cA m_Sw_alter 2 80 mc ms args w kp post
abbrev E0_Sw_alter (l : Launch) (D : va_G) (cA : Nat → ClassId) (args : List Value) (w : mj_M) (r : Option Value) (w' : mj_M) : Prop := mj_Ev zG l D cA m_Sw_alter 2 80 0 0 args w (fun _ => True) (fun r1 w1 => r1 = r ∧ w1 = w')
theorem v_Sw_alter : mj_VW zG m_Sw_alter 2 := ⟨z1_238, z1_239, z1_1, z2_0, by decide, by decide, by decide +kernel⟩
abbrev E_Sw_wipe (l : Launch) (D : va_G) (cA : Nat → ClassId) (mc ms : Nat) (args : List Value) (w : mj_M) (kp : Nat → Prop) (post : mj_R) : Prop := mj_Ev zG l D cA m_Sw_wipe 1 40 mc ms args w kp post
abbrev E0_Sw_wipe (l : Launch) (D : va_G) (cA : Nat → ClassId) (args : List Value) (w : mj_M) (r : Option Value) (w' : mj_M) : Prop := mj_Ev zG l D cA m_Sw_wipe 1 40 0 0 args w (fun _ => True) (fun r1 w1 => r1 = r ∧ w1 = w')
theorem v_Sw_wipe : mj_VW zG m_Sw_wipe 0 := ⟨z2_10, z2_11, z1_1, z2_12, by decide, by decide, by decide +kernel⟩
abbrev E_Sw_put (l : Launch) (D : va_G) (cA : Nat → ClassId) (mc ms : Nat) (args : List Value) (w : mj_M) (kp : Nat → Prop) (post : mj_R) : Prop := mj_Ev zG l D cA m_Sw_put 1 40 mc ms args w kp post
abbrev E0_Sw_put (l : Launch) (D : va_G) (cA : Nat → ClassId) (args : List Value) (w : mj_M) (r : Option Value) (w' : mj_M) : Prop := mj_Ev zG l D cA m_Sw_put 1 40 0 0 args w (fun _ => True) (fun r1 w1 => r1 = r ∧ w1 = w')
theorem v_Sw_put : mj_VW zG m_Sw_put 2 := ⟨z2_18, z2_19, z1_1, z2_20, by decide, by decide, by decide +kernel⟩
abbrev E_Sw_seal (l : Launch) (D : va_G) (cA : Nat → ClassId) (mc ms : Nat) (args : List Value) (w : mj_M) (kp : Nat → Prop) (post : mj_R) : Prop := mj_Ev zG l D cA m_Sw_seal 6 240 mc ms args w kp post
abbrev E0_Sw_seal (l : Launch) (D : va_G) (cA : Nat → ClassId) (args : List Value) (w : mj_M) (r : Option Value) (w' : mj_M) : Prop := mj_Ev zG l D cA m_Sw_seal 6 240 0 0 args w (fun _ => True) (fun r1 w1 => r1 = r ∧ w1 = w')
theorem v_Sw_seal : mj_VW zG m_Sw_seal 0 := ⟨z2_26, z2_27, z1_1, z2_28, by decide, by decide, by decide +kernel⟩
abbrev E_Sw_wire (l : Launch) (D : va_G) (cA : Nat → ClassId) (mc ms : Nat) (args : List Value) (w : mj_M) (kp : Nat → Prop) (post : mj_R) : Prop := mj_Ev zG l D cA m_Sw_wire 2 80 mc ms args w kp post
abbrev E0_Sw_wire (l : Launch) (D : va_G) (cA : Nat → ClassId) (args : List Value) (w : mj_M) (r : Option Value) (w' : mj_M) : Prop := mj_Ev zG l D cA m_Sw_wire 2 80 0 0 args w (fun _ => True) (fun r1 w1 => r1 = r ∧ w1 = w')
theorem v_Sw_wire : mj_VW zG m_Sw_wire 1 := ⟨z2_82, z2_83, z1_1, z2_84, by decide, by decide, by decide +kernel⟩
abbrev E_Sw_watch (l : Launch) (D : va_G) (cA : Nat → ClassId) (mc ms : Nat) (args : List Value) (w : mj_M) (kp : Nat → Prop) (post : mj_R) : Prop := mj_Ev zG l D cA m_Sw_watch 6 240 mc ms args w kp post
abbrev E0_Sw_watch (l : Launch) (D : va_G) (cA : Nat → ClassId) (args : List Value) (w : mj_M) (r : Option Value) (w' : mj_M) : Prop := mj_Ev zG l D cA m_Sw_watch 6 240 0 0 args w (fun _ => True) (fun r1 w1 => r1 = r ∧ w1 = w')
theorem v_Sw_watch : mj_VW zG m_Sw_watch 0 := ⟨z2_92, z2_93, z1_1, z2_94, by decide, by decide, by decide +kernel⟩
abbrev E_Sw_rule (l : Launch) (D : va_G) (cA : Nat → ClassId) (mc ms : Nat) (args : List Value) (w : mj_M) (kp : Nat → Prop) (post : mj_R) : Prop := mj_Ev zG l D cA m_Sw_rule 2 80 mc ms args w kp post
abbrev E0_Sw_rule (l : Launch) (D : va_G) (cA : Nat → ClassId) (args : List Value) (w : mj_M) (r : Option Value) (w' : mj_M) : Prop := mj_Ev zG l D cA m_Sw_rule 2 80 0 0 args w (fun _ => True) (fun r1 w1 => r1 = r ∧ w1 = w')
theorem v_Sw_rule : mj_VW zG m_Sw_rule 2 := ⟨z3_207, z3_208, z1_1, z3_209, by decide, by decide, by decide +kernel⟩
abbrev E_Sw_option (l : Launch) (D : va_G) (cA : Nat → ClassId) (mc ms : Nat) (args : List Value) (w : mj_M) (kp : Nat → Prop) (post : mj_R) : Prop := mj_Ev zG l D cA m_Sw_option 2 80 mc ms args w kp post
abbrev E0_Sw_option (l : Launch) (D : va_G) (cA : Nat → ClassId) (args : List Value) (w : mj_M) (r : Option Value) (w' : mj_M) : Prop := mj_Ev zG l D cA m_Sw_option 2 80 0 0 args w (fun _ => True) (fun r1 w1 => r1 = r ∧ w1 = w')
theorem v_Sw_option : mj_VW zG m_Sw_option 5 := ⟨z4_13, z4_14, z1_1, z4_15, by decide, by decide, by decide +kernel⟩
abbrev E_Sw_flow (l : Launch) (D : va_G) (cA : Nat → ClassId) (mc ms : Nat) (args : List Value) (w : mj_M) (kp : Nat → Prop) (post : mj_R) : Prop := mj_Ev zG l D cA m_Sw_flow 3 120 mc ms args w kp post
abbrev E0_Sw_flow (l : Launch) (D : va_G) (cA : Nat → ClassId) (args : List Value) (w : mj_M) (r : Option Value) (w' : mj_M) : Prop := mj_Ev zG l D cA m_Sw_flow 3 120 0 0 args w (fun _ => True) (fun r1 w1 => r1 = r ∧ w1 = w')
theorem v_Sw_flow : mj_VW zG m_Sw_flow 2 := ⟨z3_70, z3_71, z1_1, z3_72, by decide, by decide, by decide +kernel⟩
abbrev E_Sw_stream (l : Launch) (D : va_G) (cA : Nat → ClassId) (mc ms : Nat) (args : List Value) (w : mj_M) (kp : Nat → Prop) (post : mj_R) : Prop := mj_Ev zG l D cA m_Sw_stream 3 120 mc ms args w kp post
abbrev E0_Sw_stream (l : Launch) (D : va_G) (cA : Nat → ClassId) (args : List Value) (w : mj_M) (r : Option Value) (w' : mj_M) : Prop := mj_Ev zG l D cA m_Sw_stream 3 120 0 0 args w (fun _ => True) (fun r1 w1 => r1 = r ∧ w1 = w')
theorem v_Sw_stream : mj_VW zG m_Sw_stream 3 := ⟨z3_79, z3_80, z1_1, z3_81, by decide, by decide, by decide +kernel⟩
abbrev E_Sw_text (l : Launch) (D : va_G) (cA : Nat → ClassId) (mc ms : Nat) (args : List Value) (w : mj_M) (kp : Nat → Prop) (post : mj_R) : Prop := mj_Ev zG l D cA m_Sw_text 3 120 mc ms args w kp post
abbrev E0_Sw_text (l : Launch) (D : va_G) (cA : Nat → ClassId) (args : List Value) (w : mj_M) (r : Option Value) (w' : mj_M) : Prop := mj_Ev zG l D cA m_Sw_text 3 120 0 0 args w (fun _ => True) (fun r1 w1 => r1 = r ∧ w1 = w')
theorem v_Sw_text : mj_VW zG m_Sw_text 3 := ⟨z3_92, z3_93, z1_1, z3_94, by decide, by decide, by decide +kernel⟩
abbrev E_Sw_alerts (l : Launch) (D : va_G) (cA : Nat → ClassId) (mc ms : Nat) (args : List Value) (w : mj_M) (kp : Nat → Prop) (post : mj_R) : Prop := mj_Ev zG l D cA m_Sw_alerts 1 40 mc ms args w kp post
abbrev E0_Sw_alerts (l : Launch) (D : va_G) (cA : Nat → ClassId) (args : List Value) (w : mj_M) (r : Option Value) (w' : mj_M) : Prop := mj_Ev zG l D cA m_Sw_alerts 1 40 0 0 args w (fun _ => True) (fun r1 w1 => r1 = r ∧ w1 = w')
theorem v_Sw_alerts : mj_VW zG m_Sw_alerts 0 := ⟨z3_97, z3_98, z1_1, z3_99, by decide, by decide, by decide +kernel⟩
abbrev E_Sw_alert (l : Launch) (D : va_G) (cA : Nat → ClassId) (mc ms : Nat) (args : List Value) (w : mj_M) (kp : Nat → Prop) (post : mj_R) : Prop := mj_Ev zG l D cA m_Sw_alert 2 80 mc ms args w kp post
abbrev E0_Sw_alert (l : Launch) (D : va_G) (cA : Nat → ClassId) (args : List Value) (w : mj_M) (r : Option Value) (w' : mj_M) : Prop := mj_Ev zG l D cA m_Sw_alert 2 80 0 0 args w (fun _ => True) (fun r1 w1 => r1 = r ∧ w1 = w')
theorem v_Sw_alert : mj_VW zG m_Sw_alert 2 := ⟨z3_101, z3_102, z1_1, z3_103, by decide, by decide, by decide +kernel⟩
abbrev E_Sw_writeIpHeader (l : Launch) (D : va_G) (cA : Nat → ClassId) (mc ms : Nat) (args : List Value) (w : mj_M) (kp : Nat → Prop) (post : mj_R) : Prop := mj_Ev zG l D cA m_Sw_writeIpHeader 1 40 mc ms args w kp post
abbrev E0_Sw_writeIpHeader (l : Launch) (D : va_G) (cA : Nat → ClassId) (args : List Value) (w : mj_M) (r : Option Value) (w' : mj_M) : Prop := mj_Ev zG l D cA m_Sw_writeIpHeader 1 40 0 0 args w (fun _ => True) (fun r1 w1 => r1 = r ∧ w1 = w')
theorem v_Sw_writeIpHeader : mj_VW zG m_Sw_writeIpHeader 3 := ⟨z3_191, zinP (q := (⟨"StreamWatch", "writeIpHeader", "(III)V"⟩, 8)) (by decide +kernel), z1_1, z3_192, by decide, by decide, by decide +kernel⟩
abbrev E_Sw_writeTcpHeader (l : Launch) (D : va_G) (cA : Nat → ClassId) (mc ms : Nat) (args : List Value) (w : mj_M) (kp : Nat → Prop) (post : mj_R) : Prop := mj_Ev zG l D cA m_Sw_writeTcpHeader 1 40 mc ms args w kp post
abbrev E0_Sw_writeTcpHeader (l : Launch) (D : va_G) (cA : Nat → ClassId) (args : List Value) (w : mj_M) (r : Option Value) (w' : mj_M) : Prop := mj_Ev zG l D cA m_Sw_writeTcpHeader 1 40 0 0 args w (fun _ => True) (fun r1 w1 => r1 = r ∧ w1 = w')
theorem v_Sw_writeTcpHeader : mj_VW zG m_Sw_writeTcpHeader 4 := ⟨z3_199, zinP (q := (⟨"StreamWatch", "writeTcpHeader", "(IIII)V"⟩, 8)) (by decide +kernel), z1_1, z3_200, by decide, by decide, by decide +kernel⟩
abbrev E_Sw_flowOfPacket (l : Launch) (D : va_G) (cA : Nat → ClassId) (mc ms : Nat) (args : List Value) (w : mj_M) (kp : Nat → Prop) (post : mj_R) : Prop := mj_Ev zG l D cA m_Sw_flowOfPacket 4 160 mc ms args w kp post
abbrev E0_Sw_flowOfPacket (l : Launch) (D : va_G) (cA : Nat → ClassId) (args : List Value) (w : mj_M) (r : Option Value) (w' : mj_M) : Prop := mj_Ev zG l D cA m_Sw_flowOfPacket 4 160 0 0 args w (fun _ => True) (fun r1 w1 => r1 = r ∧ w1 = w')
theorem v_Sw_flowOfPacket : mj_VW zG m_Sw_flowOfPacket 0 := ⟨z2_114, zinP (q := (⟨"StreamWatch", "flowOfPacket", "()LStreamWatch$Flow;"⟩, 8)) (by decide +kernel), z1_1, z2_115, by decide, by decide, by decide +kernel⟩
abbrev E_Sw_receive (l : Launch) (D : va_G) (cA : Nat → ClassId) (mc ms : Nat) (args : List Value) (w : mj_M) (kp : Nat → Prop) (post : mj_R) : Prop := mj_Ev zG l D cA m_Sw_receive 5 200 mc ms args w kp post
abbrev E0_Sw_receive (l : Launch) (D : va_G) (cA : Nat → ClassId) (args : List Value) (w : mj_M) (r : Option Value) (w' : mj_M) : Prop := mj_Ev zG l D cA m_Sw_receive 5 200 0 0 args w (fun _ => True) (fun r1 w1 => r1 = r ∧ w1 = w')
theorem v_Sw_receive : mj_VW zG m_Sw_receive 2 := ⟨z2_168, zinP (q := (⟨"StreamWatch", "receive", "(LStreamWatch$Flow;I)V"⟩, 8)) (by decide +kernel), z1_1, z2_169, by decide, by decide, by decide +kernel⟩
abbrev E_Sw_holdData (l : Launch) (D : va_G) (cA : Nat → ClassId) (mc ms : Nat) (args : List Value) (w : mj_M) (kp : Nat → Prop) (post : mj_R) : Prop := mj_Ev zG l D cA m_Sw_holdData 2 80 mc ms args w kp post
abbrev E0_Sw_holdData (l : Launch) (D : va_G) (cA : Nat → ClassId) (args : List Value) (w : mj_M) (r : Option Value) (w' : mj_M) : Prop := mj_Ev zG l D cA m_Sw_holdData 2 80 0 0 args w (fun _ => True) (fun r1 w1 => r1 = r ∧ w1 = w')
theorem v_Sw_holdData : mj_VW zG m_Sw_holdData 1 := ⟨z2_180, zinP (q := (⟨"StreamWatch", "holdData", "(LStreamWatch$Stream;)V"⟩, 8)) (by decide +kernel), z1_1, z2_181, by decide, by decide, by decide +kernel⟩
abbrev E_Sw_raiseAlerts (l : Launch) (D : va_G) (cA : Nat → ClassId) (mc ms : Nat) (args : List Value) (w : mj_M) (kp : Nat → Prop) (post : mj_R) : Prop := mj_Ev zG l D cA m_Sw_raiseAlerts 4 160 mc ms args w kp post
abbrev E0_Sw_raiseAlerts (l : Launch) (D : va_G) (cA : Nat → ClassId) (args : List Value) (w : mj_M) (r : Option Value) (w' : mj_M) : Prop := mj_Ev zG l D cA m_Sw_raiseAlerts 4 160 0 0 args w (fun _ => True) (fun r1 w1 => r1 = r ∧ w1 = w')
theorem v_Sw_raiseAlerts : mj_VW zG m_Sw_raiseAlerts 3 := ⟨z2_199, zinP (q := (⟨"StreamWatch", "raiseAlerts", "(LStreamWatch$Flow;LStreamWatch$Stream;I)V"⟩, 8)) (by decide +kernel), z1_1, z2_200, by decide, by decide, by decide +kernel⟩
abbrev E_Sw_ruleAt (l : Launch) (D : va_G) (cA : Nat → ClassId) (mc ms : Nat) (args : List Value) (w : mj_M) (kp : Nat → Prop) (post : mj_R) : Prop := mj_Ev zG l D cA m_Sw_ruleAt 0 0 mc ms args w kp post
abbrev E0_Sw_ruleAt (l : Launch) (D : va_G) (cA : Nat → ClassId) (args : List Value) (w : mj_M) (r : Option Value) (w' : mj_M) : Prop := mj_Ev zG l D cA m_Sw_ruleAt 0 0 0 0 args w (fun _ => True) (fun r1 w1 => r1 = r ∧ w1 = w')
theorem v_Sw_ruleAt : mj_VW zG m_Sw_ruleAt 1 := ⟨z2_203, zinP (q := (⟨"StreamWatch", "ruleAt", "(I)LStreamWatch$Rule;"⟩, 8)) (by decide +kernel), z1_1, z2_204, by decide, by decide, by decide +kernel⟩
abbrev E_Sw_streamAt (l : Launch) (D : va_G) (cA : Nat → ClassId) (mc ms : Nat) (args : List Value) (w : mj_M) (kp : Nat → Prop) (post : mj_R) : Prop := mj_Ev zG l D cA m_Sw_streamAt 2 80 mc ms args w kp post
abbrev E0_Sw_streamAt (l : Launch) (D : va_G) (cA : Nat → ClassId) (args : List Value) (w : mj_M) (r : Option Value) (w' : mj_M) : Prop := mj_Ev zG l D cA m_Sw_streamAt 2 80 0 0 args w (fun _ => True) (fun r1 w1 => r1 = r ∧ w1 = w')
theorem v_Sw_streamAt : mj_VW zG m_Sw_streamAt 2 := ⟨z3_84, zinP (q := (⟨"StreamWatch", "streamAt", "(II)LStreamWatch$Stream;"⟩, 8)) (by decide +kernel), z1_1, z3_85, by decide, by decide, by decide +kernel⟩
abbrev E_Md_init (l : Launch) (D : va_G) (cA : Nat → ClassId) (mc ms : Nat) (args : List Value) (w : mj_M) (kp : Nat → Prop) (post : mj_R) : Prop := mj_Ev zG l D cA m_Md_init 1 40 mc ms args w kp post
abbrev E0_Md_init (l : Launch) (D : va_G) (cA : Nat → ClassId) (args : List Value) (w : mj_M) (r : Option Value) (w' : mj_M) : Prop := mj_Ev zG l D cA m_Md_init 1 40 0 0 args w (fun _ => True) (fun r1 w1 => r1 = r ∧ w1 = w')
abbrev E_Md_thrown (l : Launch) (D : va_G) (cA : Nat → ClassId) (mc ms : Nat) (args : List Value) (w : mj_M) (kp : Nat → Prop) (post : mj_R) : Prop := mj_Ev zG l D cA m_Md_thrown 0 0 mc ms args w kp post
abbrev E0_Md_thrown (l : Launch) (D : va_G) (cA : Nat → ClassId) (args : List Value) (w : mj_M) (r : Option Value) (w' : mj_M) : Prop := mj_Ev zG l D cA m_Md_thrown 0 0 0 0 args w (fun _ => True) (fun r1 w1 => r1 = r ∧ w1 = w')
theorem v_Md_thrown : mj_VW zG m_Md_thrown 0 := ⟨z4_166, z4_167, z1_10, z4_168, by decide, by decide, by decide +kernel⟩
abbrev E_Md_add (l : Launch) (D : va_G) (cA : Nat → ClassId) (mc ms : Nat) (args : List Value) (w : mj_M) (kp : Nat → Prop) (post : mj_R) : Prop := mj_Ev zG l D cA m_Md_add 0 0 mc ms args w kp post
abbrev E0_Md_add (l : Launch) (D : va_G) (cA : Nat → ClassId) (args : List Value) (w : mj_M) (r : Option Value) (w' : mj_M) : Prop := mj_Ev zG l D cA m_Md_add 0 0 0 0 args w (fun _ => True) (fun r1 w1 => r1 = r ∧ w1 = w')
theorem v_Md_add : mj_VW zG m_Md_add 1 := ⟨z4_181, zinP (q := (⟨"StreamWatchModel", "add", "(I)V"⟩, 33)) (by decide +kernel), z1_10, z4_182, by decide, by decide, by decide +kernel⟩
abbrev E_Md_addNumber (l : Launch) (D : va_G) (cA : Nat → ClassId) (mc ms : Nat) (args : List Value) (w : mj_M) (kp : Nat → Prop) (post : mj_R) : Prop := mj_Ev zG l D cA m_Md_addNumber 1 40 mc ms args w kp post
abbrev E0_Md_addNumber (l : Launch) (D : va_G) (cA : Nat → ClassId) (args : List Value) (w : mj_M) (r : Option Value) (w' : mj_M) : Prop := mj_Ev zG l D cA m_Md_addNumber 1 40 0 0 args w (fun _ => True) (fun r1 w1 => r1 = r ∧ w1 = w')
theorem v_Md_addNumber : mj_VW zG m_Md_addNumber 2 := ⟨z4_177, zinP (q := (⟨"StreamWatchModel", "addNumber", "(II)V"⟩, 33)) (by decide +kernel), z1_10, z4_178, by decide, by decide, by decide +kernel⟩
abbrev E_Md_craft (l : Launch) (D : va_G) (cA : Nat → ClassId) (mc ms : Nat) (args : List Value) (w : mj_M) (kp : Nat → Prop) (post : mj_R) : Prop := mj_Ev zG l D cA m_Md_craft 3 120 mc ms args w kp post
abbrev E0_Md_craft (l : Launch) (D : va_G) (cA : Nat → ClassId) (args : List Value) (w : mj_M) (r : Option Value) (w' : mj_M) : Prop := mj_Ev zG l D cA m_Md_craft 3 120 0 0 args w (fun _ => True) (fun r1 w1 => r1 = r ∧ w1 = w')
theorem v_Md_craft : mj_VW zG m_Md_craft 6 := ⟨z4_170, z4_171, z1_10, z4_172, by decide, by decide, by decide +kernel⟩
abbrev E_Md_alter (l : Launch) (D : va_G) (cA : Nat → ClassId) (mc ms : Nat) (args : List Value) (w : mj_M) (kp : Nat → Prop) (post : mj_R) : Prop := mj_Ev zG l D cA m_Md_alter 0 0 mc ms args w kp post
abbrev E0_Md_alter (l : Launch) (D : va_G) (cA : Nat → ClassId) (args : List Value) (w : mj_M) (r : Option Value) (w' : mj_M) : Prop := mj_Ev zG l D cA m_Md_alter 0 0 0 0 args w (fun _ => True) (fun r1 w1 => r1 = r ∧ w1 = w')
theorem v_Md_alter : mj_VW zG m_Md_alter 2 := ⟨z4_212, z4_213, z1_10, z4_214, by decide, by decide, by decide +kernel⟩
abbrev E_Md_wipe (l : Launch) (D : va_G) (cA : Nat → ClassId) (mc ms : Nat) (args : List Value) (w : mj_M) (kp : Nat → Prop) (post : mj_R) : Prop := mj_Ev zG l D cA m_Md_wipe 0 0 mc ms args w kp post
abbrev E0_Md_wipe (l : Launch) (D : va_G) (cA : Nat → ClassId) (args : List Value) (w : mj_M) (r : Option Value) (w' : mj_M) : Prop := mj_Ev zG l D cA m_Md_wipe 0 0 0 0 args w (fun _ => True) (fun r1 w1 => r1 = r ∧ w1 = w')
theorem v_Md_wipe : mj_VW zG m_Md_wipe 0 := ⟨z4_216, z4_217, z1_10, z4_218, by decide, by decide, by decide +kernel⟩
abbrev E_Md_put (l : Launch) (D : va_G) (cA : Nat → ClassId) (mc ms : Nat) (args : List Value) (w : mj_M) (kp : Nat → Prop) (post : mj_R) : Prop := mj_Ev zG l D cA m_Md_put 1 40 mc ms args w kp post
abbrev E0_Md_put (l : Launch) (D : va_G) (cA : Nat → ClassId) (args : List Value) (w : mj_M) (r : Option Value) (w' : mj_M) : Prop := mj_Ev zG l D cA m_Md_put 1 40 0 0 args w (fun _ => True) (fun r1 w1 => r1 = r ∧ w1 = w')
theorem v_Md_put : mj_VW zG m_Md_put 2 := ⟨z4_220, z4_221, z1_10, z4_222, by decide, by decide, by decide +kernel⟩
abbrev E_Md_wire (l : Launch) (D : va_G) (cA : Nat → ClassId) (mc ms : Nat) (args : List Value) (w : mj_M) (kp : Nat → Prop) (post : mj_R) : Prop := mj_Ev zG l D cA m_Md_wire 0 0 mc ms args w kp post
abbrev E0_Md_wire (l : Launch) (D : va_G) (cA : Nat → ClassId) (args : List Value) (w : mj_M) (r : Option Value) (w' : mj_M) : Prop := mj_Ev zG l D cA m_Md_wire 0 0 0 0 args w (fun _ => True) (fun r1 w1 => r1 = r ∧ w1 = w')
theorem v_Md_wire : mj_VW zG m_Md_wire 1 := ⟨z4_224, z4_225, z1_10, z4_226, by decide, by decide, by decide +kernel⟩
abbrev E_Md_pair (l : Launch) (D : va_G) (cA : Nat → ClassId) (mc ms : Nat) (args : List Value) (w : mj_M) (kp : Nat → Prop) (post : mj_R) : Prop := mj_Ev zG l D cA m_Md_pair 0 0 mc ms args w kp post
abbrev E0_Md_pair (l : Launch) (D : va_G) (cA : Nat → ClassId) (args : List Value) (w : mj_M) (r : Option Value) (w' : mj_M) : Prop := mj_Ev zG l D cA m_Md_pair 0 0 0 0 args w (fun _ => True) (fun r1 w1 => r1 = r ∧ w1 = w')
theorem v_Md_pair : mj_VW zG m_Md_pair 1 := ⟨z4_209, zinP (q := (⟨"StreamWatchModel", "pair", "(I)I"⟩, 33)) (by decide +kernel), z1_10, z4_210, by decide, by decide, by decide +kernel⟩
abbrev E_Md_four (l : Launch) (D : va_G) (cA : Nat → ClassId) (mc ms : Nat) (args : List Value) (w : mj_M) (kp : Nat → Prop) (post : mj_R) : Prop := mj_Ev zG l D cA m_Md_four 1 40 mc ms args w kp post
abbrev E0_Md_four (l : Launch) (D : va_G) (cA : Nat → ClassId) (args : List Value) (w : mj_M) (r : Option Value) (w' : mj_M) : Prop := mj_Ev zG l D cA m_Md_four 1 40 0 0 args w (fun _ => True) (fun r1 w1 => r1 = r ∧ w1 = w')
theorem v_Md_four : mj_VW zG m_Md_four 1 := ⟨z5_13, zinP (q := (⟨"StreamWatchModel", "four", "(I)I"⟩, 33)) (by decide +kernel), z1_10, z5_14, by decide, by decide, by decide +kernel⟩
abbrev E_Md_total (l : Launch) (D : va_G) (cA : Nat → ClassId) (mc ms : Nat) (args : List Value) (w : mj_M) (kp : Nat → Prop) (post : mj_R) : Prop := mj_Ev zG l D cA m_Md_total 0 0 mc ms args w kp post
abbrev E0_Md_total (l : Launch) (D : va_G) (cA : Nat → ClassId) (args : List Value) (w : mj_M) (r : Option Value) (w' : mj_M) : Prop := mj_Ev zG l D cA m_Md_total 0 0 0 0 args w (fun _ => True) (fun r1 w1 => r1 = r ∧ w1 = w')
theorem v_Md_total : mj_VW zG m_Md_total 2 := ⟨z4_198, zinP (q := (⟨"StreamWatchModel", "total", "(II)I"⟩, 33)) (by decide +kernel), z1_10, z4_199, by decide, by decide, by decide +kernel⟩
abbrev E_Md_folded (l : Launch) (D : va_G) (cA : Nat → ClassId) (mc ms : Nat) (args : List Value) (w : mj_M) (kp : Nat → Prop) (post : mj_R) : Prop := mj_Ev zG l D cA m_Md_folded 0 0 mc ms args w kp post
abbrev E0_Md_folded (l : Launch) (D : va_G) (cA : Nat → ClassId) (args : List Value) (w : mj_M) (r : Option Value) (w' : mj_M) : Prop := mj_Ev zG l D cA m_Md_folded 0 0 0 0 args w (fun _ => True) (fun r1 w1 => r1 = r ∧ w1 = w')
theorem v_Md_folded : mj_SW zG m_Md_folded 1 := ⟨z4_201, z1_10, z4_202, by decide, by decide, by decide +kernel⟩
abbrev E_Md_headerSize (l : Launch) (D : va_G) (cA : Nat → ClassId) (mc ms : Nat) (args : List Value) (w : mj_M) (kp : Nat → Prop) (post : mj_R) : Prop := mj_Ev zG l D cA m_Md_headerSize 0 0 mc ms args w kp post
abbrev E0_Md_headerSize (l : Launch) (D : va_G) (cA : Nat → ClassId) (args : List Value) (w : mj_M) (r : Option Value) (w' : mj_M) : Prop := mj_Ev zG l D cA m_Md_headerSize 0 0 0 0 args w (fun _ => True) (fun r1 w1 => r1 = r ∧ w1 = w')
theorem v_Md_headerSize : mj_VW zG m_Md_headerSize 0 := ⟨z4_194, zinP (q := (⟨"StreamWatchModel", "headerSize", "()I"⟩, 33)) (by decide +kernel), z1_10, z4_195, by decide, by decide, by decide +kernel⟩
abbrev E_Md_headerSum (l : Launch) (D : va_G) (cA : Nat → ClassId) (mc ms : Nat) (args : List Value) (w : mj_M) (kp : Nat → Prop) (post : mj_R) : Prop := mj_Ev zG l D cA m_Md_headerSum 1 40 mc ms args w kp post
abbrev E0_Md_headerSum (l : Launch) (D : va_G) (cA : Nat → ClassId) (args : List Value) (w : mj_M) (r : Option Value) (w' : mj_M) : Prop := mj_Ev zG l D cA m_Md_headerSum 1 40 0 0 args w (fun _ => True) (fun r1 w1 => r1 = r ∧ w1 = w')
theorem v_Md_headerSum : mj_VW zG m_Md_headerSum 0 := ⟨z4_190, zinP (q := (⟨"StreamWatchModel", "headerSum", "()I"⟩, 33)) (by decide +kernel), z1_10, z4_191, by decide, by decide, by decide +kernel⟩
abbrev E_Md_partSum (l : Launch) (D : va_G) (cA : Nat → ClassId) (mc ms : Nat) (args : List Value) (w : mj_M) (kp : Nat → Prop) (post : mj_R) : Prop := mj_Ev zG l D cA m_Md_partSum 1 40 mc ms args w kp post
abbrev E0_Md_partSum (l : Launch) (D : va_G) (cA : Nat → ClassId) (args : List Value) (w : mj_M) (r : Option Value) (w' : mj_M) : Prop := mj_Ev zG l D cA m_Md_partSum 1 40 0 0 args w (fun _ => True) (fun r1 w1 => r1 = r ∧ w1 = w')
theorem v_Md_partSum : mj_VW zG m_Md_partSum 0 := ⟨z4_205, zinP (q := (⟨"StreamWatchModel", "partSum", "()I"⟩, 33)) (by decide +kernel), z1_10, z4_206, by decide, by decide, by decide +kernel⟩
abbrev E_Md_reason (l : Launch) (D : va_G) (cA : Nat → ClassId) (mc ms : Nat) (args : List Value) (w : mj_M) (kp : Nat → Prop) (post : mj_R) : Prop := mj_Ev zG l D cA m_Md_reason 2 80 mc ms args w kp post
abbrev E0_Md_reason (l : Launch) (D : va_G) (cA : Nat → ClassId) (args : List Value) (w : mj_M) (r : Option Value) (w' : mj_M) : Prop := mj_Ev zG l D cA m_Md_reason 2 80 0 0 args w (fun _ => True) (fun r1 w1 => r1 = r ∧ w1 = w')
theorem v_Md_reason : mj_VW zG m_Md_reason 1 := ⟨z4_233, zinP (q := (⟨"StreamWatchModel", "reason", "(Z)I"⟩, 33)) (by decide +kernel), z1_10, z4_234, by decide, by decide, by decide +kernel⟩
abbrev E_Md_close (l : Launch) (D : va_G) (cA : Nat → ClassId) (mc ms : Nat) (args : List Value) (w : mj_M) (kp : Nat → Prop) (post : mj_R) : Prop := mj_Ev zG l D cA m_Md_close 2 80 mc ms args w kp post
abbrev E0_Md_close (l : Launch) (D : va_G) (cA : Nat → ClassId) (args : List Value) (w : mj_M) (r : Option Value) (w' : mj_M) : Prop := mj_Ev zG l D cA m_Md_close 2 80 0 0 args w (fun _ => True) (fun r1 w1 => r1 = r ∧ w1 = w')
theorem v_Md_close : mj_VW zG m_Md_close 0 := ⟨z4_185, zinP (q := (⟨"StreamWatchModel", "close", "()V"⟩, 33)) (by decide +kernel), z1_10, z4_186, by decide, by decide, by decide +kernel⟩
abbrev E_Md_seal (l : Launch) (D : va_G) (cA : Nat → ClassId) (mc ms : Nat) (args : List Value) (w : mj_M) (kp : Nat → Prop) (post : mj_R) : Prop := mj_Ev zG l D cA m_Md_seal 3 120 mc ms args w kp post
abbrev E0_Md_seal (l : Launch) (D : va_G) (cA : Nat → ClassId) (args : List Value) (w : mj_M) (r : Option Value) (w' : mj_M) : Prop := mj_Ev zG l D cA m_Md_seal 3 120 0 0 args w (fun _ => True) (fun r1 w1 => r1 = r ∧ w1 = w')
theorem v_Md_seal : mj_VW zG m_Md_seal 0 := ⟨z4_228, z4_229, z1_10, z4_230, by decide, by decide, by decide +kernel⟩
abbrev E_Md_rule (l : Launch) (D : va_G) (cA : Nat → ClassId) (mc ms : Nat) (args : List Value) (w : mj_M) (kp : Nat → Prop) (post : mj_R) : Prop := mj_Ev zG l D cA m_Md_rule 0 0 mc ms args w kp post
abbrev E0_Md_rule (l : Launch) (D : va_G) (cA : Nat → ClassId) (args : List Value) (w : mj_M) (r : Option Value) (w' : mj_M) : Prop := mj_Ev zG l D cA m_Md_rule 0 0 0 0 args w (fun _ => True) (fun r1 w1 => r1 = r ∧ w1 = w')
theorem v_Md_rule : mj_VW zG m_Md_rule 2 := ⟨z4_236, z4_237, z1_10, z4_238, by decide, by decide, by decide +kernel⟩
abbrev E_Md_option (l : Launch) (D : va_G) (cA : Nat → ClassId) (mc ms : Nat) (args : List Value) (w : mj_M) (kp : Nat → Prop) (post : mj_R) : Prop := mj_Ev zG l D cA m_Md_option 0 0 mc ms args w kp post
abbrev E0_Md_option (l : Launch) (D : va_G) (cA : Nat → ClassId) (args : List Value) (w : mj_M) (r : Option Value) (w' : mj_M) : Prop := mj_Ev zG l D cA m_Md_option 0 0 0 0 args w (fun _ => True) (fun r1 w1 => r1 = r ∧ w1 = w')
theorem v_Md_option : mj_VW zG m_Md_option 5 := ⟨z5_0, z5_1, z1_10, z5_2, by decide, by decide, by decide +kernel⟩
abbrev E_Md_upper (l : Launch) (D : va_G) (cA : Nat → ClassId) (mc ms : Nat) (args : List Value) (w : mj_M) (kp : Nat → Prop) (post : mj_R) : Prop := mj_Ev zG l D cA m_Md_upper 0 0 mc ms args w kp post
abbrev E0_Md_upper (l : Launch) (D : va_G) (cA : Nat → ClassId) (args : List Value) (w : mj_M) (r : Option Value) (w' : mj_M) : Prop := mj_Ev zG l D cA m_Md_upper 0 0 0 0 args w (fun _ => True) (fun r1 w1 => r1 = r ∧ w1 = w')
theorem v_Md_upper : mj_SW zG m_Md_upper 1 := ⟨z5_52, z1_10, z5_53, by decide, by decide, by decide +kernel⟩
abbrev E_Md_found (l : Launch) (D : va_G) (cA : Nat → ClassId) (mc ms : Nat) (args : List Value) (w : mj_M) (kp : Nat → Prop) (post : mj_R) : Prop := mj_Ev zG l D cA m_Md_found 1 40 mc ms args w kp post
abbrev E0_Md_found (l : Launch) (D : va_G) (cA : Nat → ClassId) (args : List Value) (w : mj_M) (r : Option Value) (w' : mj_M) : Prop := mj_Ev zG l D cA m_Md_found 1 40 0 0 args w (fun _ => True) (fun r1 w1 => r1 = r ∧ w1 = w')
theorem v_Md_found : mj_VW zG m_Md_found 4 := ⟨z5_49, zinP (q := (⟨"StreamWatchModel", "found", "(IIII)Z"⟩, 33)) (by decide +kernel), z1_10, z5_50, by decide, by decide, by decide +kernel⟩
abbrev E_Md_base (l : Launch) (D : va_G) (cA : Nat → ClassId) (mc ms : Nat) (args : List Value) (w : mj_M) (kp : Nat → Prop) (post : mj_R) : Prop := mj_Ev zG l D cA m_Md_base 0 0 mc ms args w kp post
abbrev E0_Md_base (l : Launch) (D : va_G) (cA : Nat → ClassId) (args : List Value) (w : mj_M) (r : Option Value) (w' : mj_M) : Prop := mj_Ev zG l D cA m_Md_base 0 0 0 0 args w (fun _ => True) (fun r1 w1 => r1 = r ∧ w1 = w')
theorem v_Md_base : mj_VW zG m_Md_base 2 := ⟨z5_45, zinP (q := (⟨"StreamWatchModel", "base", "(II)I"⟩, 33)) (by decide +kernel), z1_10, z5_46, by decide, by decide, by decide +kernel⟩
abbrev E_Md_clean (l : Launch) (D : va_G) (cA : Nat → ClassId) (mc ms : Nat) (args : List Value) (w : mj_M) (kp : Nat → Prop) (post : mj_R) : Prop := mj_Ev zG l D cA m_Md_clean 2 80 mc ms args w kp post
abbrev E0_Md_clean (l : Launch) (D : va_G) (cA : Nat → ClassId) (args : List Value) (w : mj_M) (r : Option Value) (w' : mj_M) : Prop := mj_Ev zG l D cA m_Md_clean 2 80 0 0 args w (fun _ => True) (fun r1 w1 => r1 = r ∧ w1 = w')
theorem v_Md_clean : mj_VW zG m_Md_clean 2 := ⟨z5_41, zinP (q := (⟨"StreamWatchModel", "clean", "(II)Z"⟩, 33)) (by decide +kernel), z1_10, z5_42, by decide, by decide, by decide +kernel⟩
abbrev E_Md_holdsOn (l : Launch) (D : va_G) (cA : Nat → ClassId) (mc ms : Nat) (args : List Value) (w : mj_M) (kp : Nat → Prop) (post : mj_R) : Prop := mj_Ev zG l D cA m_Md_holdsOn 3 120 mc ms args w kp post
abbrev E0_Md_holdsOn (l : Launch) (D : va_G) (cA : Nat → ClassId) (args : List Value) (w : mj_M) (r : Option Value) (w' : mj_M) : Prop := mj_Ev zG l D cA m_Md_holdsOn 3 120 0 0 args w (fun _ => True) (fun r1 w1 => r1 = r ∧ w1 = w')
theorem v_Md_holdsOn : mj_VW zG m_Md_holdsOn 2 := ⟨z5_37, zinP (q := (⟨"StreamWatchModel", "holdsOn", "(II)Z"⟩, 33)) (by decide +kernel), z1_10, z5_38, by decide, by decide, by decide +kernel⟩
abbrev E_Md_look (l : Launch) (D : va_G) (cA : Nat → ClassId) (mc ms : Nat) (args : List Value) (w : mj_M) (kp : Nat → Prop) (post : mj_R) : Prop := mj_Ev zG l D cA m_Md_look 4 160 mc ms args w kp post
abbrev E0_Md_look (l : Launch) (D : va_G) (cA : Nat → ClassId) (args : List Value) (w : mj_M) (r : Option Value) (w' : mj_M) : Prop := mj_Ev zG l D cA m_Md_look 4 160 0 0 args w (fun _ => True) (fun r1 w1 => r1 = r ∧ w1 = w')
theorem v_Md_look : mj_VW zG m_Md_look 1 := ⟨z5_33, zinP (q := (⟨"StreamWatchModel", "look", "(I)I"⟩, 33)) (by decide +kernel), z1_10, z5_34, by decide, by decide, by decide +kernel⟩
abbrev E_Md_begin (l : Launch) (D : va_G) (cA : Nat → ClassId) (mc ms : Nat) (args : List Value) (w : mj_M) (kp : Nat → Prop) (post : mj_R) : Prop := mj_Ev zG l D cA m_Md_begin 2 80 mc ms args w kp post
abbrev E0_Md_begin (l : Launch) (D : va_G) (cA : Nat → ClassId) (args : List Value) (w : mj_M) (r : Option Value) (w' : mj_M) : Prop := mj_Ev zG l D cA m_Md_begin 2 80 0 0 args w (fun _ => True) (fun r1 w1 => r1 = r ∧ w1 = w')
theorem v_Md_begin : mj_VW zG m_Md_begin 2 := ⟨z5_21, zinP (q := (⟨"StreamWatchModel", "begin", "(II)V"⟩, 33)) (by decide +kernel), z1_10, z5_22, by decide, by decide, by decide +kernel⟩
abbrev E_Md_room (l : Launch) (D : va_G) (cA : Nat → ClassId) (mc ms : Nat) (args : List Value) (w : mj_M) (kp : Nat → Prop) (post : mj_R) : Prop := mj_Ev zG l D cA m_Md_room 0 0 mc ms args w kp post
abbrev E0_Md_room (l : Launch) (D : va_G) (cA : Nat → ClassId) (args : List Value) (w : mj_M) (r : Option Value) (w' : mj_M) : Prop := mj_Ev zG l D cA m_Md_room 0 0 0 0 args w (fun _ => True) (fun r1 w1 => r1 = r ∧ w1 = w')
theorem v_Md_room : mj_VW zG m_Md_room 0 := ⟨z5_17, zinP (q := (⟨"StreamWatchModel", "room", "()I"⟩, 33)) (by decide +kernel), z1_10, z5_18, by decide, by decide, by decide +kernel⟩
abbrev E_Md_find (l : Launch) (D : va_G) (cA : Nat → ClassId) (mc ms : Nat) (args : List Value) (w : mj_M) (kp : Nat → Prop) (post : mj_R) : Prop := mj_Ev zG l D cA m_Md_find 2 80 mc ms args w kp post
abbrev E0_Md_find (l : Launch) (D : va_G) (cA : Nat → ClassId) (args : List Value) (w : mj_M) (r : Option Value) (w' : mj_M) : Prop := mj_Ev zG l D cA m_Md_find 2 80 0 0 args w (fun _ => True) (fun r1 w1 => r1 = r ∧ w1 = w')
theorem v_Md_find : mj_VW zG m_Md_find 1 := ⟨z5_9, zinP (q := (⟨"StreamWatchModel", "find", "(I)I"⟩, 33)) (by decide +kernel), z1_10, z5_10, by decide, by decide, by decide +kernel⟩
abbrev E_Md_hold (l : Launch) (D : va_G) (cA : Nat → ClassId) (mc ms : Nat) (args : List Value) (w : mj_M) (kp : Nat → Prop) (post : mj_R) : Prop := mj_Ev zG l D cA m_Md_hold 0 0 mc ms args w kp post
abbrev E0_Md_hold (l : Launch) (D : va_G) (cA : Nat → ClassId) (args : List Value) (w : mj_M) (r : Option Value) (w' : mj_M) : Prop := mj_Ev zG l D cA m_Md_hold 0 0 0 0 args w (fun _ => True) (fun r1 w1 => r1 = r ∧ w1 = w')
theorem v_Md_hold : mj_VW zG m_Md_hold 3 := ⟨z5_25, zinP (q := (⟨"StreamWatchModel", "hold", "(III)V"⟩, 33)) (by decide +kernel), z1_10, z5_26, by decide, by decide, by decide +kernel⟩
abbrev E_Md_grow (l : Launch) (D : va_G) (cA : Nat → ClassId) (mc ms : Nat) (args : List Value) (w : mj_M) (kp : Nat → Prop) (post : mj_R) : Prop := mj_Ev zG l D cA m_Md_grow 5 200 mc ms args w kp post
abbrev E0_Md_grow (l : Launch) (D : va_G) (cA : Nat → ClassId) (args : List Value) (w : mj_M) (r : Option Value) (w' : mj_M) : Prop := mj_Ev zG l D cA m_Md_grow 5 200 0 0 args w (fun _ => True) (fun r1 w1 => r1 = r ∧ w1 = w')
theorem v_Md_grow : mj_VW zG m_Md_grow 1 := ⟨z5_29, zinP (q := (⟨"StreamWatchModel", "grow", "(I)I"⟩, 33)) (by decide +kernel), z1_10, z5_30, by decide, by decide, by decide +kernel⟩
abbrev E_Md_watch (l : Launch) (D : va_G) (cA : Nat → ClassId) (mc ms : Nat) (args : List Value) (w : mj_M) (kp : Nat → Prop) (post : mj_R) : Prop := mj_Ev zG l D cA m_Md_watch 6 240 mc ms args w kp post
abbrev E0_Md_watch (l : Launch) (D : va_G) (cA : Nat → ClassId) (args : List Value) (w : mj_M) (r : Option Value) (w' : mj_M) : Prop := mj_Ev zG l D cA m_Md_watch 6 240 0 0 args w (fun _ => True) (fun r1 w1 => r1 = r ∧ w1 = w')
theorem v_Md_watch : mj_VW zG m_Md_watch 0 := ⟨z5_4, z5_5, z1_10, z5_6, by decide, by decide, by decide +kernel⟩
abbrev E_Md_isFlow (l : Launch) (D : va_G) (cA : Nat → ClassId) (mc ms : Nat) (args : List Value) (w : mj_M) (kp : Nat → Prop) (post : mj_R) : Prop := mj_Ev zG l D cA m_Md_isFlow 0 0 mc ms args w kp post
abbrev E0_Md_isFlow (l : Launch) (D : va_G) (cA : Nat → ClassId) (args : List Value) (w : mj_M) (r : Option Value) (w' : mj_M) : Prop := mj_Ev zG l D cA m_Md_isFlow 0 0 0 0 args w (fun _ => True) (fun r1 w1 => r1 = r ∧ w1 = w')
theorem v_Md_isFlow : mj_VW zG m_Md_isFlow 1 := ⟨z5_60, zinP (q := (⟨"StreamWatchModel", "isFlow", "(I)Z"⟩, 33)) (by decide +kernel), z1_10, z5_61, by decide, by decide, by decide +kernel⟩
abbrev E_Md_flow (l : Launch) (D : va_G) (cA : Nat → ClassId) (mc ms : Nat) (args : List Value) (w : mj_M) (kp : Nat → Prop) (post : mj_R) : Prop := mj_Ev zG l D cA m_Md_flow 1 40 mc ms args w kp post
abbrev E0_Md_flow (l : Launch) (D : va_G) (cA : Nat → ClassId) (args : List Value) (w : mj_M) (r : Option Value) (w' : mj_M) : Prop := mj_Ev zG l D cA m_Md_flow 1 40 0 0 args w (fun _ => True) (fun r1 w1 => r1 = r ∧ w1 = w')
theorem v_Md_flow : mj_VW zG m_Md_flow 2 := ⟨z5_55, z5_56, z1_10, z5_57, by decide, by decide, by decide +kernel⟩
abbrev E_Md_stream (l : Launch) (D : va_G) (cA : Nat → ClassId) (mc ms : Nat) (args : List Value) (w : mj_M) (kp : Nat → Prop) (post : mj_R) : Prop := mj_Ev zG l D cA m_Md_stream 1 40 mc ms args w kp post
abbrev E0_Md_stream (l : Launch) (D : va_G) (cA : Nat → ClassId) (args : List Value) (w : mj_M) (r : Option Value) (w' : mj_M) : Prop := mj_Ev zG l D cA m_Md_stream 1 40 0 0 args w (fun _ => True) (fun r1 w1 => r1 = r ∧ w1 = w')
theorem v_Md_stream : mj_VW zG m_Md_stream 3 := ⟨z5_63, z5_64, z1_10, z5_65, by decide, by decide, by decide +kernel⟩
abbrev E_Md_text (l : Launch) (D : va_G) (cA : Nat → ClassId) (mc ms : Nat) (args : List Value) (w : mj_M) (kp : Nat → Prop) (post : mj_R) : Prop := mj_Ev zG l D cA m_Md_text 1 40 mc ms args w kp post
abbrev E0_Md_text (l : Launch) (D : va_G) (cA : Nat → ClassId) (args : List Value) (w : mj_M) (r : Option Value) (w' : mj_M) : Prop := mj_Ev zG l D cA m_Md_text 1 40 0 0 args w (fun _ => True) (fun r1 w1 => r1 = r ∧ w1 = w')
theorem v_Md_text : mj_VW zG m_Md_text 3 := ⟨z5_67, z5_68, z1_10, z5_69, by decide, by decide, by decide +kernel⟩
abbrev E_Md_alerts (l : Launch) (D : va_G) (cA : Nat → ClassId) (mc ms : Nat) (args : List Value) (w : mj_M) (kp : Nat → Prop) (post : mj_R) : Prop := mj_Ev zG l D cA m_Md_alerts 0 0 mc ms args w kp post
abbrev E0_Md_alerts (l : Launch) (D : va_G) (cA : Nat → ClassId) (args : List Value) (w : mj_M) (r : Option Value) (w' : mj_M) : Prop := mj_Ev zG l D cA m_Md_alerts 0 0 0 0 args w (fun _ => True) (fun r1 w1 => r1 = r ∧ w1 = w')
theorem v_Md_alerts : mj_VW zG m_Md_alerts 0 := ⟨z5_71, z5_72, z1_10, z5_73, by decide, by decide, by decide +kernel⟩
abbrev E_Md_alert (l : Launch) (D : va_G) (cA : Nat → ClassId) (mc ms : Nat) (args : List Value) (w : mj_M) (kp : Nat → Prop) (post : mj_R) : Prop := mj_Ev zG l D cA m_Md_alert 0 0 mc ms args w kp post
abbrev E0_Md_alert (l : Launch) (D : va_G) (cA : Nat → ClassId) (args : List Value) (w : mj_M) (r : Option Value) (w' : mj_M) : Prop := mj_Ev zG l D cA m_Md_alert 0 0 0 0 args w (fun _ => True) (fun r1 w1 => r1 = r ∧ w1 = w')
theorem v_Md_alert : mj_VW zG m_Md_alert 2 := ⟨z5_75, z5_76, z1_10, z5_77, by decide, by decide, by decide +kernel⟩
abbrev E_Lw_cell (l : Launch) (D : va_G) (cA : Nat → ClassId) (mc ms : Nat) (args : List Value) (w : mj_M) (kp : Nat → Prop) (post : mj_R) : Prop := mj_Ev zG l D cA m_Lw_cell 7 280 mc ms args w kp post
abbrev E0_Lw_cell (l : Launch) (D : va_G) (cA : Nat → ClassId) (args : List Value) (w : mj_M) (r : Option Value) (w' : mj_M) : Prop := mj_Ev zG l D cA m_Lw_cell 7 280 0 0 args w (fun _ => True) (fun r1 w1 => r1 = r ∧ w1 = w')
theorem v_Lw_cell : mj_SW zG m_Lw_cell 2 := ⟨z3_110, z1_0, z3_111, by decide, by decide, by decide +kernel⟩
theorem l_Fl_init_34 : Cond.methodLink "StreamWatch$Flow" 29 (m_Sm_init).1 ∈ zTb := z1_94
theorem l_Fl_init_45 : Cond.methodLink "StreamWatch$Flow" 29 (m_Sm_init).1 ∈ zTb := z1_94
theorem l_Fl_open_41 : Cond.methodLink "StreamWatch$Flow" 55 (m_Sm_reset).1 ∈ zTb := z2_149
theorem l_Fl_open_48 : Cond.methodLink "StreamWatch$Flow" 55 (m_Sm_reset).1 ∈ zTb := z2_149
theorem l_Fl_freeIfBothEnded_4 : Cond.methodLink "StreamWatch$Flow" 58 (m_Sm_hasEnded).1 ∈ zTb := z3_64
theorem l_Fl_freeIfBothEnded_14 : Cond.methodLink "StreamWatch$Flow" 58 (m_Sm_hasEnded).1 ∈ zTb := z3_64
theorem l_Fl_freeIfBothEnded_21 : Cond.methodLink "StreamWatch$Flow" 62 (m_Fl_free).1 ∈ zTb := z3_68
theorem l_Fl_wayOf_9 : Cond.methodLink "StreamWatch$Flow" 65 (m_Fl_isClient).1 ∈ zTb := z2_132
theorem l_Fl_wayOf_26 : Cond.methodLink "StreamWatch$Flow" 69 (m_Fl_isServer).1 ∈ zTb := z2_136
theorem l_Fl_wayOf_43 : Cond.methodLink "StreamWatch$Flow" 69 (m_Fl_isServer).1 ∈ zTb := z2_136
theorem l_Fl_wayOf_60 : Cond.methodLink "StreamWatch$Flow" 65 (m_Fl_isClient).1 ∈ zTb := z2_132
theorem l_Ft_at_15 : Cond.methodLink "StreamWatch$FlowTable" 22 (m_Fl_isLive).1 ∈ zTb := z2_124
theorem l_Ft_of_9 : Cond.methodLink "StreamWatch$FlowTable" 26 (m_Ft_at).1 ∈ zTb := z2_120
theorem l_Ft_of_19 : Cond.methodLink "StreamWatch$FlowTable" 30 (m_Fl_wayOf).1 ∈ zTb := z2_128
theorem l_Ft_open_15 : Cond.methodLink "StreamWatch$FlowTable" 22 (m_Fl_isLive).1 ∈ zTb := z2_124
theorem l_Ft_open_27 : Cond.methodLink "StreamWatch$FlowTable" 22 (m_Fl_isLive).1 ∈ zTb := z2_124
theorem l_Ft_open_64 : Cond.methodLink "StreamWatch$FlowTable" 37 (m_Fl_open).1 ∈ zTb := z2_145
theorem l_Ft_heardAfter_11 : Cond.methodLink "StreamWatch$FlowTable" 26 (m_Ft_at).1 ∈ zTb := z2_120
theorem l_Mk_markStartOnly_18 : Cond.methodLink "StreamWatch$Marks" 23 (m_Mk_set).1 ∈ zTb := z2_225
theorem l_Mk_markStartOnly_29 : Cond.methodLink "StreamWatch$Marks" 27 (m_Mk_settle).1 ∈ zTb := z2_229
theorem l_Op_standsAt_7 : Cond.methodLink "StreamWatch$Option" 35 (m_Sm_size).1 ∈ zTb := z3_9
theorem l_Op_standsAt_53 : Cond.methodLink "StreamWatch$Option" 40 (m_Sm_byteAt).1 ∈ zTb := z3_10
theorem l_Op_standsAt_56 : Cond.methodLink "StreamWatch$Option" 44 (m_Op_folded).1 ∈ zTb := z3_14
theorem l_Op_standsAt_62 : Cond.methodLink "StreamWatch$Option" 44 (m_Op_folded).1 ∈ zTb := z3_14
theorem l_Pk_read_1 : Cond.methodLink "StreamWatch$Packet" 36 (m_Wi_ipSize).1 ∈ zTb := z2_99
theorem l_Pk_read_9 : Cond.methodLink "StreamWatch$Packet" 42 (m_Wi_quadAt).1 ∈ zTb := z2_100
theorem l_Pk_read_19 : Cond.methodLink "StreamWatch$Packet" 42 (m_Wi_quadAt).1 ∈ zTb := z2_100
theorem l_Pk_read_28 : Cond.methodLink "StreamWatch$Packet" 46 (m_Wi_pairAt).1 ∈ zTb := z2_104
theorem l_Pk_read_39 : Cond.methodLink "StreamWatch$Packet" 46 (m_Wi_pairAt).1 ∈ zTb := z2_104
theorem l_Pk_read_51 : Cond.methodLink "StreamWatch$Packet" 49 (m_Wi_at).1 ∈ zTb := z2_105
theorem l_Pk_read_62 : Cond.methodLink "StreamWatch$Packet" 42 (m_Wi_quadAt).1 ∈ zTb := z2_100
theorem l_Pk_read_67 : Cond.methodLink "StreamWatch$Packet" 52 (m_Pk_hasFlag).1 ∈ zTb := z2_106
theorem l_Pk_read_84 : Cond.methodLink "StreamWatch$Packet" 56 (m_Wi_dataStart).1 ∈ zTb := z2_110
theorem l_Pk_read_92 : Cond.methodLink "StreamWatch$Packet" 58 (m_Wi_length).1 ∈ zTb := z2_111
theorem l_Se_holds_1 : Cond.methodLink "StreamWatch$Search" 19 (m_Sm_size).1 ∈ zTb := z2_217
theorem l_Se_holds_10 : Cond.methodLink "StreamWatch$Search" 25 (m_Mk_markStartOnly).1 ∈ zTb := z2_221
theorem l_Se_holds_14 : Cond.methodLink "StreamWatch$Search" 29 (m_Ru_size).1 ∈ zTb := z2_233
theorem l_Se_holds_33 : Cond.methodLink "StreamWatch$Search" 29 (m_Ru_size).1 ∈ zTb := z2_233
theorem l_Se_holds_47 : Cond.methodLink "StreamWatch$Search" 32 (m_Ru_at).1 ∈ zTb := z2_237
theorem l_Se_holds_63 : Cond.methodLink "StreamWatch$Search" 36 (m_Se_find).1 ∈ zTb := z3_1
theorem l_Se_holds_78 : Cond.methodLink "StreamWatch$Search" 46 (m_Se_dropBases).1 ∈ zTb := z3_21
theorem l_Se_holds_88 : Cond.methodLink "StreamWatch$Search" 50 (m_Se_moveBases).1 ∈ zTb := z3_35
theorem l_Se_holds_96 : Cond.methodLink "StreamWatch$Search" 53 (m_Mk_settle).1 ∈ zTb := z3_20
theorem l_Se_holds_105 : Cond.methodLink "StreamWatch$Search" 56 (m_Mk_isAnyIn).1 ∈ zTb := z3_25
theorem l_Se_find_1 : Cond.methodLink "StreamWatch$Search" 19 (m_Sm_size).1 ∈ zTb := z2_217
theorem l_Se_find_24 : Cond.methodLink "StreamWatch$Search" 60 (m_Op_standsAt).1 ∈ zTb := z3_5
theorem l_Se_find_27 : Cond.methodLink "StreamWatch$Search" 64 (m_Mk_set).1 ∈ zTb := z3_19
theorem l_Se_find_41 : Cond.methodLink "StreamWatch$Search" 53 (m_Mk_settle).1 ∈ zTb := z3_20
theorem l_Se_dropBases_39 : Cond.methodLink "StreamWatch$Search" 56 (m_Mk_isAnyIn).1 ∈ zTb := z3_25
theorem l_Se_dropBases_51 : Cond.methodLink "StreamWatch$Search" 64 (m_Mk_set).1 ∈ zTb := z3_19
theorem l_Se_moveBases_12 : Cond.methodLink "StreamWatch$Search" 25 (m_Mk_markStartOnly).1 ∈ zTb := z2_221
theorem l_Se_moveBases_36 : Cond.methodLink "StreamWatch$Search" 80 (m_Mk_has).1 ∈ zTb := z3_39
theorem l_Se_moveBases_60 : Cond.methodLink "StreamWatch$Search" 56 (m_Mk_isAnyIn).1 ∈ zTb := z3_25
theorem l_Se_moveBases_80 : Cond.methodLink "StreamWatch$Search" 64 (m_Mk_set).1 ∈ zTb := z3_19
theorem l_Sm_init_51 : Cond.methodLink "StreamWatch$Stream" 38 (m_Sm_emptyWindow).1 ∈ zTb := z1_98
theorem l_Sm_reset_1 : Cond.methodLink "StreamWatch$Stream" 38 (m_Sm_emptyWindow).1 ∈ zTb := z1_98
theorem l_Sm_hold_22 : Cond.methodLink "StreamWatch$Stream" 41 (m_Sm_placeOf).1 ∈ zTb := z2_186
theorem l_Sm_isNextHeld_8 : Cond.methodLink "StreamWatch$Stream" 41 (m_Sm_placeOf).1 ∈ zTb := z2_186
theorem l_Sm_takeNext_4 : Cond.methodLink "StreamWatch$Stream" 41 (m_Sm_placeOf).1 ∈ zTb := z2_186
theorem l_Wi_at_2 : Cond.methodLink "StreamWatch$Wire" 17 (m_Wi_has).1 ∈ zTb := z2_5
theorem l_Wi_flip_2 : Cond.methodLink "StreamWatch$Wire" 17 (m_Wi_has).1 ∈ zTb := z2_5
theorem l_Wi_fault_13 : Cond.methodLink "StreamWatch$Wire" 21 (m_Wi_at).1 ∈ zTb := z2_33
theorem l_Wi_fault_23 : Cond.methodLink "StreamWatch$Wire" 21 (m_Wi_at).1 ∈ zTb := z2_33
theorem l_Wi_fault_34 : Cond.methodLink "StreamWatch$Wire" 25 (m_Wi_length).1 ∈ zTb := z2_37
theorem l_Wi_fault_45 : Cond.methodLink "StreamWatch$Wire" 25 (m_Wi_length).1 ∈ zTb := z2_37
theorem l_Wi_fault_49 : Cond.methodLink "StreamWatch$Wire" 29 (m_Wi_ipSize).1 ∈ zTb := z2_45
theorem l_Wi_fault_65 : Cond.methodLink "StreamWatch$Wire" 32 (m_Wi_ipSum).1 ∈ zTb := z2_49
theorem l_Wi_fault_78 : Cond.methodLink "StreamWatch$Wire" 36 (m_Wi_pairAt).1 ∈ zTb := z2_41
theorem l_Wi_fault_93 : Cond.methodLink "StreamWatch$Wire" 21 (m_Wi_at).1 ∈ zTb := z2_33
theorem l_Wi_fault_105 : Cond.methodLink "StreamWatch$Wire" 39 (m_Wi_tcpWords).1 ∈ zTb := z2_61
theorem l_Wi_fault_113 : Cond.methodLink "StreamWatch$Wire" 39 (m_Wi_tcpWords).1 ∈ zTb := z2_61
theorem l_Wi_fault_122 : Cond.methodLink "StreamWatch$Wire" 42 (m_Wi_dataStart).1 ∈ zTb := z2_65
theorem l_Wi_fault_126 : Cond.methodLink "StreamWatch$Wire" 25 (m_Wi_length).1 ∈ zTb := z2_37
theorem l_Wi_fault_140 : Cond.methodLink "StreamWatch$Wire" 45 (m_Wi_tcpSum).1 ∈ zTb := z2_69
theorem l_Wi_makeSumsRight_1 : Cond.methodLink "StreamWatch$Wire" 29 (m_Wi_ipSize).1 ∈ zTb := z2_45
theorem l_Wi_makeSumsRight_12 : Cond.methodLink "StreamWatch$Wire" 48 (m_Wi_setPair).1 ∈ zTb := z2_77
theorem l_Wi_makeSumsRight_21 : Cond.methodLink "StreamWatch$Wire" 32 (m_Wi_ipSum).1 ∈ zTb := z2_49
theorem l_Wi_makeSumsRight_25 : Cond.methodLink "StreamWatch$Wire" 48 (m_Wi_setPair).1 ∈ zTb := z2_77
theorem l_Wi_makeSumsRight_31 : Cond.methodLink "StreamWatch$Wire" 48 (m_Wi_setPair).1 ∈ zTb := z2_77
theorem l_Wi_makeSumsRight_39 : Cond.methodLink "StreamWatch$Wire" 45 (m_Wi_tcpSum).1 ∈ zTb := z2_69
theorem l_Wi_makeSumsRight_43 : Cond.methodLink "StreamWatch$Wire" 48 (m_Wi_setPair).1 ∈ zTb := z2_77
theorem l_Wi_ipSize_2 : Cond.methodLink "StreamWatch$Wire" 21 (m_Wi_at).1 ∈ zTb := z2_33
theorem l_Wi_length_2 : Cond.methodLink "StreamWatch$Wire" 36 (m_Wi_pairAt).1 ∈ zTb := z2_41
theorem l_Wi_dataStart_1 : Cond.methodLink "StreamWatch$Wire" 29 (m_Wi_ipSize).1 ∈ zTb := z2_45
theorem l_Wi_dataStart_5 : Cond.methodLink "StreamWatch$Wire" 39 (m_Wi_tcpWords).1 ∈ zTb := z2_61
theorem l_Wi_pairAt_2 : Cond.methodLink "StreamWatch$Wire" 21 (m_Wi_at).1 ∈ zTb := z2_33
theorem l_Wi_pairAt_12 : Cond.methodLink "StreamWatch$Wire" 21 (m_Wi_at).1 ∈ zTb := z2_33
theorem l_Wi_quadAt_2 : Cond.methodLink "StreamWatch$Wire" 36 (m_Wi_pairAt).1 ∈ zTb := z2_41
theorem l_Wi_quadAt_12 : Cond.methodLink "StreamWatch$Wire" 36 (m_Wi_pairAt).1 ∈ zTb := z2_41
theorem l_Wi_tcpWords_2 : Cond.methodLink "StreamWatch$Wire" 29 (m_Wi_ipSize).1 ∈ zTb := z2_45
theorem l_Wi_tcpWords_8 : Cond.methodLink "StreamWatch$Wire" 21 (m_Wi_at).1 ∈ zTb := z2_33
theorem l_Wi_ipSum_3 : Cond.methodLink "StreamWatch$Wire" 29 (m_Wi_ipSize).1 ∈ zTb := z2_45
theorem l_Wi_ipSum_7 : Cond.methodLink "StreamWatch$Wire" 52 (m_Wi_sumOf).1 ∈ zTb := z2_53
theorem l_Wi_tcpSum_6 : Cond.methodLink "StreamWatch$Wire" 52 (m_Wi_sumOf).1 ∈ zTb := z2_53
theorem l_Wi_tcpSum_13 : Cond.methodLink "StreamWatch$Wire" 56 (m_Wi_addToSum).1 ∈ zTb := z2_57
theorem l_Wi_tcpSum_19 : Cond.methodLink "StreamWatch$Wire" 25 (m_Wi_length).1 ∈ zTb := z2_37
theorem l_Wi_tcpSum_23 : Cond.methodLink "StreamWatch$Wire" 29 (m_Wi_ipSize).1 ∈ zTb := z2_45
theorem l_Wi_tcpSum_27 : Cond.methodLink "StreamWatch$Wire" 56 (m_Wi_addToSum).1 ∈ zTb := z2_57
theorem l_Wi_tcpSum_33 : Cond.methodLink "StreamWatch$Wire" 29 (m_Wi_ipSize).1 ∈ zTb := z2_45
theorem l_Wi_tcpSum_37 : Cond.methodLink "StreamWatch$Wire" 25 (m_Wi_length).1 ∈ zTb := z2_37
theorem l_Wi_tcpSum_41 : Cond.methodLink "StreamWatch$Wire" 52 (m_Wi_sumOf).1 ∈ zTb := z2_53
theorem l_Wi_sumOf_25 : Cond.methodLink "StreamWatch$Wire" 21 (m_Wi_at).1 ∈ zTb := z2_33
theorem l_Wi_sumOf_39 : Cond.methodLink "StreamWatch$Wire" 21 (m_Wi_at).1 ∈ zTb := z2_33
theorem l_Wi_sumOf_48 : Cond.methodLink "StreamWatch$Wire" 56 (m_Wi_addToSum).1 ∈ zTb := z2_57
theorem l_Wi_setPair_2 : Cond.methodLink "StreamWatch$Wire" 17 (m_Wi_has).1 ∈ zTb := z2_5
theorem l_Wi_setPair_12 : Cond.methodLink "StreamWatch$Wire" 17 (m_Wi_has).1 ∈ zTb := z2_5
theorem l_Sw_init_31 : Cond.methodLink "StreamWatch" 25 (m_Ft_init).1 ∈ zTb := z1_81
theorem l_Sw_craft_65 : Cond.methodLink "StreamWatch" 69 (m_Wi_clear).1 ∈ zTb := z2_13
theorem l_Sw_craft_73 : Cond.methodLink "StreamWatch" 72 (m_Sw_writeIpHeader).1 ∈ zTb := z3_189
theorem l_Sw_craft_82 : Cond.methodLink "StreamWatch" 76 (m_Sw_writeTcpHeader).1 ∈ zTb := z3_197
theorem l_Sw_craft_93 : Cond.methodLink "StreamWatch" 80 (m_Wi_append).1 ∈ zTb := z2_21
theorem l_Sw_craft_101 : Cond.methodLink "StreamWatch" 84 (m_Wi_makeSumsRight).1 ∈ zTb := z2_73
theorem l_Sw_craft_108 : Cond.methodLink "StreamWatch" 87 (m_Wi_size).1 ∈ zTb := z2_85
theorem l_Sw_alter_6 : Cond.methodLink "StreamWatch" 91 (m_Wi_flip).1 ∈ zTb := z2_1
theorem l_Sw_wipe_4 : Cond.methodLink "StreamWatch" 69 (m_Wi_clear).1 ∈ zTb := z2_13
theorem l_Sw_put_17 : Cond.methodLink "StreamWatch" 80 (m_Wi_append).1 ∈ zTb := z2_21
theorem l_Sw_seal_5 : Cond.methodLink "StreamWatch" 95 (m_Wi_fault).1 ∈ zTb := z2_29
theorem l_Sw_seal_17 : Cond.methodLink "StreamWatch" 84 (m_Wi_makeSumsRight).1 ∈ zTb := z2_73
theorem l_Sw_wire_9 : Cond.methodLink "StreamWatch" 87 (m_Wi_size).1 ∈ zTb := z2_85
theorem l_Sw_wire_18 : Cond.methodLink "StreamWatch" 99 (m_Wi_has).1 ∈ zTb := z2_89
theorem l_Sw_wire_29 : Cond.methodLink "StreamWatch" 103 (m_Wi_at).1 ∈ zTb := z2_90
theorem l_Sw_watch_5 : Cond.methodLink "StreamWatch" 95 (m_Wi_fault).1 ∈ zTb := z2_29
theorem l_Sw_watch_25 : Cond.methodLink "StreamWatch" 107 (m_Pk_read).1 ∈ zTb := z2_95
theorem l_Sw_watch_29 : Cond.methodLink "StreamWatch" 111 (m_Sw_flowOfPacket).1 ∈ zTb := z2_112
theorem l_Sw_watch_45 : Cond.methodLink "StreamWatch" 115 (m_Ft_hear).1 ∈ zTb := z2_153
theorem l_Sw_watch_52 : Cond.methodLink "StreamWatch" 119 (m_Al_total).1 ∈ zTb := z2_157
theorem l_Sw_watch_61 : Cond.methodLink "StreamWatch" 122 (m_Pk_hasFlag).1 ∈ zTb := z2_140
theorem l_Sw_watch_68 : Cond.methodLink "StreamWatch" 125 (m_Fl_free).1 ∈ zTb := z2_161
theorem l_Sw_watch_81 : Cond.methodLink "StreamWatch" 130 (m_Fl_wayOf).1 ∈ zTb := z2_165
theorem l_Sw_watch_84 : Cond.methodLink "StreamWatch" 134 (m_Sw_receive).1 ∈ zTb := z2_166
theorem l_Sw_watch_91 : Cond.methodLink "StreamWatch" 119 (m_Al_total).1 ∈ zTb := z2_157
theorem l_Sw_rule_72 : Cond.methodLink "StreamWatch" 148 (m_Ru_init).1 ∈ zTb := z3_230
theorem l_Sw_option_96 : Cond.methodLink "StreamWatch" 159 (m_Sw_ruleAt).1 ∈ zTb := z2_201
theorem l_Sw_option_118 : Cond.methodLink "StreamWatch" 165 (m_Ru_size).1 ∈ zTb := z4_21
theorem l_Sw_option_149 : Cond.methodLink "StreamWatch" 170 (m_Op_init).1 ∈ zTb := z4_24
theorem l_Sw_option_152 : Cond.methodLink "StreamWatch" 173 (m_Ru_add).1 ∈ zTb := z4_55
theorem l_Sw_option_157 : Cond.methodLink "StreamWatch" 165 (m_Ru_size).1 ∈ zTb := z4_21
theorem l_Sw_flow_5 : Cond.methodLink "StreamWatch" 177 (m_Ft_at).1 ∈ zTb := z3_73
theorem l_Sw_flow_77 : Cond.methodLink "StreamWatch" 192 (m_Ft_heardAfter).1 ∈ zTb := z3_74
theorem l_Sw_stream_3 : Cond.methodLink "StreamWatch" 196 (m_Sw_streamAt).1 ∈ zTb := z3_82
theorem l_Sw_stream_50 : Cond.methodLink "StreamWatch" 200 (m_Sm_size).1 ∈ zTb := z3_47
theorem l_Sw_stream_56 : Cond.methodLink "StreamWatch" 203 (m_Sm_next).1 ∈ zTb := z3_52
theorem l_Sw_stream_62 : Cond.methodLink "StreamWatch" 206 (m_Sm_heldCount).1 ∈ zTb := z3_86
theorem l_Sw_stream_68 : Cond.methodLink "StreamWatch" 209 (m_Sm_hasEnded).1 ∈ zTb := z3_90
theorem l_Sw_text_3 : Cond.methodLink "StreamWatch" 196 (m_Sw_streamAt).1 ∈ zTb := z3_82
theorem l_Sw_text_20 : Cond.methodLink "StreamWatch" 213 (m_Sm_byteAt).1 ∈ zTb := z3_95
theorem l_Sw_alerts_4 : Cond.methodLink "StreamWatch" 119 (m_Al_total).1 ∈ zTb := z2_157
theorem l_Sw_alert_6 : Cond.methodLink "StreamWatch" 216 (m_Al_read).1 ∈ zTb := z3_104
theorem l_Sw_writeIpHeader_14 : Cond.methodLink "StreamWatch" 80 (m_Wi_append).1 ∈ zTb := z2_21
theorem l_Sw_writeIpHeader_28 : Cond.methodLink "StreamWatch" 80 (m_Wi_append).1 ∈ zTb := z2_21
theorem l_Sw_writeIpHeader_38 : Cond.methodLink "StreamWatch" 80 (m_Wi_append).1 ∈ zTb := z2_21
theorem l_Sw_writeIpHeader_50 : Cond.methodLink "StreamWatch" 80 (m_Wi_append).1 ∈ zTb := z2_21
theorem l_Sw_writeIpHeader_72 : Cond.methodLink "StreamWatch" 80 (m_Wi_append).1 ∈ zTb := z2_21
theorem l_Sw_writeIpHeader_94 : Cond.methodLink "StreamWatch" 80 (m_Wi_append).1 ∈ zTb := z2_21
theorem l_Sw_writeTcpHeader_25 : Cond.methodLink "StreamWatch" 80 (m_Wi_append).1 ∈ zTb := z2_21
theorem l_Sw_writeTcpHeader_47 : Cond.methodLink "StreamWatch" 80 (m_Wi_append).1 ∈ zTb := z2_21
theorem l_Sw_writeTcpHeader_58 : Cond.methodLink "StreamWatch" 80 (m_Wi_append).1 ∈ zTb := z2_21
theorem l_Sw_writeTcpHeader_68 : Cond.methodLink "StreamWatch" 80 (m_Wi_append).1 ∈ zTb := z2_21
theorem l_Sw_writeTcpHeader_87 : Cond.methodLink "StreamWatch" 80 (m_Wi_append).1 ∈ zTb := z2_21
theorem l_Sw_writeTcpHeader_98 : Cond.methodLink "StreamWatch" 80 (m_Wi_append).1 ∈ zTb := z2_21
theorem l_Sw_flowOfPacket_8 : Cond.methodLink "StreamWatch" 228 (m_Ft_of).1 ∈ zTb := z2_116
theorem l_Sw_flowOfPacket_23 : Cond.methodLink "StreamWatch" 122 (m_Pk_hasFlag).1 ∈ zTb := z2_140
theorem l_Sw_flowOfPacket_35 : Cond.methodLink "StreamWatch" 122 (m_Pk_hasFlag).1 ∈ zTb := z2_140
theorem l_Sw_flowOfPacket_59 : Cond.methodLink "StreamWatch" 232 (m_Ft_open).1 ∈ zTb := z2_141
theorem l_Sw_receive_2 : Cond.methodLink "StreamWatch" 235 (m_Fl_streamOf).1 ∈ zTb := z2_170
theorem l_Sw_receive_19 : Cond.methodLink "StreamWatch" 242 (m_Sm_begin).1 ∈ zTb := z2_174
theorem l_Sw_receive_24 : Cond.methodLink "StreamWatch" 246 (m_Sw_holdData).1 ∈ zTb := z2_178
theorem l_Sw_receive_38 : Cond.methodLink "StreamWatch" 250 (m_Sm_isNextHeld).1 ∈ zTb := z2_189
theorem l_Sw_receive_45 : Cond.methodLink "StreamWatch" 253 (m_Sm_takeNext).1 ∈ zTb := z2_193
theorem l_Sw_receive_55 : Cond.methodLink "StreamWatch" 256 (m_Sw_raiseAlerts).1 ∈ zTb := z2_197
theorem l_Sw_receive_69 : Cond.methodLink "StreamWatch" 122 (m_Pk_hasFlag).1 ∈ zTb := z2_140
theorem l_Sw_receive_76 : Cond.methodLink "StreamWatch" 203 (m_Sm_next).1 ∈ zTb := z3_52
theorem l_Sw_receive_98 : Cond.methodLink "StreamWatch" 263 (m_Sm_end).1 ∈ zTb := z3_56
theorem l_Sw_receive_102 : Cond.methodLink "StreamWatch" 266 (m_Fl_freeIfBothEnded).1 ∈ zTb := z3_60
theorem l_Sw_holdData_36 : Cond.methodLink "StreamWatch" 103 (m_Wi_at).1 ∈ zTb := z2_90
theorem l_Sw_holdData_43 : Cond.methodLink "StreamWatch" 272 (m_Sm_hold).1 ∈ zTb := z2_182
theorem l_Sw_raiseAlerts_15 : Cond.methodLink "StreamWatch" 159 (m_Sw_ruleAt).1 ∈ zTb := z2_201
theorem l_Sw_raiseAlerts_32 : Cond.methodLink "StreamWatch" 276 (m_Ru_isFor).1 ∈ zTb := z2_205
theorem l_Sw_raiseAlerts_41 : Cond.methodLink "StreamWatch" 279 (m_Sm_hasRaised).1 ∈ zTb := z2_209
theorem l_Sw_raiseAlerts_57 : Cond.methodLink "StreamWatch" 282 (m_Se_holds).1 ∈ zTb := z2_213
theorem l_Sw_raiseAlerts_66 : Cond.methodLink "StreamWatch" 286 (m_Sm_setRaised).1 ∈ zTb := z3_43
theorem l_Sw_raiseAlerts_81 : Cond.methodLink "StreamWatch" 200 (m_Sm_size).1 ∈ zTb := z3_47
theorem l_Sw_raiseAlerts_84 : Cond.methodLink "StreamWatch" 289 (m_Al_add).1 ∈ zTb := z3_48
theorem l_Sw_streamAt_5 : Cond.methodLink "StreamWatch" 177 (m_Ft_at).1 ∈ zTb := z3_73
theorem l_Sw_streamAt_19 : Cond.methodLink "StreamWatch" 235 (m_Fl_streamOf).1 ∈ zTb := z2_170
theorem l_Md_addNumber_15 : Cond.methodLink "StreamWatchModel" 100 (m_Md_add).1 ∈ zTb := z4_179
theorem l_Md_craft_68 : Cond.methodLink "StreamWatchModel" 106 (m_Md_addNumber).1 ∈ zTb := z4_175
theorem l_Md_craft_78 : Cond.methodLink "StreamWatchModel" 106 (m_Md_addNumber).1 ∈ zTb := z4_175
theorem l_Md_craft_84 : Cond.methodLink "StreamWatchModel" 106 (m_Md_addNumber).1 ∈ zTb := z4_175
theorem l_Md_craft_91 : Cond.methodLink "StreamWatchModel" 106 (m_Md_addNumber).1 ∈ zTb := z4_175
theorem l_Md_craft_97 : Cond.methodLink "StreamWatchModel" 106 (m_Md_addNumber).1 ∈ zTb := z4_175
theorem l_Md_craft_113 : Cond.methodLink "StreamWatchModel" 106 (m_Md_addNumber).1 ∈ zTb := z4_175
theorem l_Md_craft_129 : Cond.methodLink "StreamWatchModel" 106 (m_Md_addNumber).1 ∈ zTb := z4_175
theorem l_Md_craft_148 : Cond.methodLink "StreamWatchModel" 106 (m_Md_addNumber).1 ∈ zTb := z4_175
theorem l_Md_craft_167 : Cond.methodLink "StreamWatchModel" 106 (m_Md_addNumber).1 ∈ zTb := z4_175
theorem l_Md_craft_173 : Cond.methodLink "StreamWatchModel" 106 (m_Md_addNumber).1 ∈ zTb := z4_175
theorem l_Md_craft_179 : Cond.methodLink "StreamWatchModel" 106 (m_Md_addNumber).1 ∈ zTb := z4_175
theorem l_Md_craft_186 : Cond.methodLink "StreamWatchModel" 106 (m_Md_addNumber).1 ∈ zTb := z4_175
theorem l_Md_craft_196 : Cond.methodLink "StreamWatchModel" 106 (m_Md_addNumber).1 ∈ zTb := z4_175
theorem l_Md_craft_202 : Cond.methodLink "StreamWatchModel" 106 (m_Md_addNumber).1 ∈ zTb := z4_175
theorem l_Md_craft_208 : Cond.methodLink "StreamWatchModel" 106 (m_Md_addNumber).1 ∈ zTb := z4_175
theorem l_Md_craft_232 : Cond.methodLink "StreamWatchModel" 100 (m_Md_add).1 ∈ zTb := z4_179
theorem l_Md_craft_242 : Cond.methodLink "StreamWatchModel" 110 (m_Md_close).1 ∈ zTb := z4_183
theorem l_Md_put_48 : Cond.methodLink "StreamWatchModel" 100 (m_Md_add).1 ∈ zTb := z4_179
theorem l_Md_four_2 : Cond.methodLink "StreamWatchModel" 113 (m_Md_pair).1 ∈ zTb := z4_207
theorem l_Md_four_12 : Cond.methodLink "StreamWatchModel" 113 (m_Md_pair).1 ∈ zTb := z4_207
theorem l_Md_headerSum_3 : Cond.methodLink "StreamWatchModel" 118 (m_Md_headerSize).1 ∈ zTb := z4_192
theorem l_Md_headerSum_6 : Cond.methodLink "StreamWatchModel" 122 (m_Md_total).1 ∈ zTb := z4_196
theorem l_Md_headerSum_9 : Cond.methodLink "StreamWatchModel" 126 (m_Md_folded).1 ∈ zTb := z4_200
theorem l_Md_partSum_1 : Cond.methodLink "StreamWatchModel" 118 (m_Md_headerSize).1 ∈ zTb := z4_192
theorem l_Md_partSum_7 : Cond.methodLink "StreamWatchModel" 113 (m_Md_pair).1 ∈ zTb := z4_207
theorem l_Md_partSum_16 : Cond.methodLink "StreamWatchModel" 122 (m_Md_total).1 ∈ zTb := z4_196
theorem l_Md_partSum_29 : Cond.methodLink "StreamWatchModel" 122 (m_Md_total).1 ∈ zTb := z4_196
theorem l_Md_partSum_33 : Cond.methodLink "StreamWatchModel" 126 (m_Md_folded).1 ∈ zTb := z4_200
theorem l_Md_reason_36 : Cond.methodLink "StreamWatchModel" 118 (m_Md_headerSize).1 ∈ zTb := z4_192
theorem l_Md_reason_42 : Cond.methodLink "StreamWatchModel" 113 (m_Md_pair).1 ∈ zTb := z4_207
theorem l_Md_reason_69 : Cond.methodLink "StreamWatchModel" 129 (m_Md_headerSum).1 ∈ zTb := z4_188
theorem l_Md_reason_82 : Cond.methodLink "StreamWatchModel" 113 (m_Md_pair).1 ∈ zTb := z4_207
theorem l_Md_reason_153 : Cond.methodLink "StreamWatchModel" 132 (m_Md_partSum).1 ∈ zTb := z4_203
theorem l_Md_close_19 : Cond.methodLink "StreamWatchModel" 129 (m_Md_headerSum).1 ∈ zTb := z4_188
theorem l_Md_close_48 : Cond.methodLink "StreamWatchModel" 118 (m_Md_headerSize).1 ∈ zTb := z4_192
theorem l_Md_close_74 : Cond.methodLink "StreamWatchModel" 132 (m_Md_partSum).1 ∈ zTb := z4_203
theorem l_Md_seal_7 : Cond.methodLink "StreamWatchModel" 135 (m_Md_reason).1 ∈ zTb := z4_231
theorem l_Md_seal_16 : Cond.methodLink "StreamWatchModel" 110 (m_Md_close).1 ∈ zTb := z4_183
theorem l_Md_found_136 : Cond.methodLink "StreamWatchModel" 142 (m_Md_upper).1 ∈ zTb := z5_51
theorem l_Md_found_141 : Cond.methodLink "StreamWatchModel" 142 (m_Md_upper).1 ∈ zTb := z5_51
theorem l_Md_clean_67 : Cond.methodLink "StreamWatchModel" 148 (m_Md_base).1 ∈ zTb := z5_43
theorem l_Md_clean_94 : Cond.methodLink "StreamWatchModel" 151 (m_Md_found).1 ∈ zTb := z5_47
theorem l_Md_holdsOn_81 : Cond.methodLink "StreamWatchModel" 155 (m_Md_clean).1 ∈ zTb := z5_39
theorem l_Md_holdsOn_159 : Cond.methodLink "StreamWatchModel" 148 (m_Md_base).1 ∈ zTb := z5_43
theorem l_Md_holdsOn_162 : Cond.methodLink "StreamWatchModel" 151 (m_Md_found).1 ∈ zTb := z5_47
theorem l_Md_holdsOn_194 : Cond.methodLink "StreamWatchModel" 155 (m_Md_clean).1 ∈ zTb := z5_39
theorem l_Md_look_99 : Cond.methodLink "StreamWatchModel" 159 (m_Md_holdsOn).1 ∈ zTb := z5_35
theorem l_Md_begin_15 : Cond.methodLink "StreamWatchModel" 165 (m_Md_four).1 ∈ zTb := z5_11
theorem l_Md_begin_26 : Cond.methodLink "StreamWatchModel" 113 (m_Md_pair).1 ∈ zTb := z4_207
theorem l_Md_begin_38 : Cond.methodLink "StreamWatchModel" 165 (m_Md_four).1 ∈ zTb := z5_11
theorem l_Md_begin_51 : Cond.methodLink "StreamWatchModel" 113 (m_Md_pair).1 ∈ zTb := z4_207
theorem l_Md_find_3 : Cond.methodLink "StreamWatchModel" 165 (m_Md_four).1 ∈ zTb := z5_11
theorem l_Md_find_10 : Cond.methodLink "StreamWatchModel" 165 (m_Md_four).1 ∈ zTb := z5_11
theorem l_Md_find_16 : Cond.methodLink "StreamWatchModel" 113 (m_Md_pair).1 ∈ zTb := z4_207
theorem l_Md_find_25 : Cond.methodLink "StreamWatchModel" 113 (m_Md_pair).1 ∈ zTb := z4_207
theorem l_Md_grow_182 : Cond.methodLink "StreamWatchModel" 168 (m_Md_look).1 ∈ zTb := z5_31
theorem l_Md_watch_7 : Cond.methodLink "StreamWatchModel" 135 (m_Md_reason).1 ∈ zTb := z4_231
theorem l_Md_watch_20 : Cond.methodLink "StreamWatchModel" 118 (m_Md_headerSize).1 ∈ zTb := z4_192
theorem l_Md_watch_36 : Cond.methodLink "StreamWatchModel" 171 (m_Md_find).1 ∈ zTb := z5_7
theorem l_Md_watch_63 : Cond.methodLink "StreamWatchModel" 174 (m_Md_room).1 ∈ zTb := z5_15
theorem l_Md_watch_72 : Cond.methodLink "StreamWatchModel" 177 (m_Md_begin).1 ∈ zTb := z5_19
theorem l_Md_watch_139 : Cond.methodLink "StreamWatchModel" 165 (m_Md_four).1 ∈ zTb := z5_11
theorem l_Md_watch_211 : Cond.methodLink "StreamWatchModel" 113 (m_Md_pair).1 ∈ zTb := z4_207
theorem l_Md_watch_245 : Cond.methodLink "StreamWatchModel" 183 (m_Md_hold).1 ∈ zTb := z5_23
theorem l_Md_watch_257 : Cond.methodLink "StreamWatchModel" 187 (m_Md_grow).1 ∈ zTb := z5_27
theorem l_Md_flow_7 : Cond.methodLink "StreamWatchModel" 190 (m_Md_isFlow).1 ∈ zTb := z5_58
theorem l_Md_stream_7 : Cond.methodLink "StreamWatchModel" 190 (m_Md_isFlow).1 ∈ zTb := z5_58
theorem l_Md_text_7 : Cond.methodLink "StreamWatchModel" 190 (m_Md_isFlow).1 ∈ zTb := z5_58
theorem l_Lw_cell_13 : Cond.methodLink "StreamWatchLaw" 7 (m_Sw_craft).1 ∈ zTb := z3_116
end
section
/-! Wire: its world, its pure answers, its methods (by program: wip/whole/src_wire.py) -/
abbrev wWi (n : Nat) (f : Nat → Int32) : mj_M := [(0, .inr (9, [.ref 1, .int (nI n)])), (1, .inl (0, 100, .inl f))]
def wA (n : Nat) (f : Nat → Int32) (k : Int32) : Int32 := if 0 ≤ k ∧ k < nI n then f k.toNatClampNeg else 0
def wPair (n : Nat) (f : Nat → Int32) (k : Int32) : Int32 := wA n f k <<< ((8 : Int32) &&& 31) ||| wA n f (k + 1)
def wQuad (n : Nat) (f : Nat → Int32) (k : Int32) : Int32 := wPair n f k <<< ((16 : Int32) &&& 31) ||| wPair n f (k + 2)
def wIp (n : Nat) (f : Nat → Int32) : Int32 := (wA n f 0 &&& 15) * 4
def wIpN (n : Nat) (f : Nat → Int32) : Nat := (wA n f 0).toBitVec.toNat % 16 * 4
theorem wIp_eq (n : Nat) (f : Nat → Int32) : wIp n f = nI (wIpN n f) := by
  unfold wIp wIpN
  rw [pk_and _ 4 (m := 15) (by decide), show (4 : Int32) = nI 4 from rfl, pk_mul]
theorem wIp_le (n : Nat) (f : Nat → Int32) : wIpN n f ≤ 60 := by
  unfold wIpN
  omega
theorem wLenA {n ip : Nat} {x : Int32} (hn : n ≤ 100) (hi : ip ≤ 60) (h3 : ¬ nI n < x) (h4 : nI ip + 20 ≤ x) : x = nI x.toNatClampNeg ∧ x.toNatClampNeg ≤ n ∧ ip + 20 ≤ x.toNatClampNeg := by
  have e1 : nI ip + 20 = nI (ip + 20) := nI_add ip 20
  rw [e1] at h4
  have a1 := Int32.le_iff_toInt_le.mp h4
  have a2 := Int32.le_iff_toInt_le.mp (Int32.not_lt.mp h3)
  rw [nI_toInt (by omega)] at a1 a2
  obtain ⟨j, hj, rfl⟩ := nI_of (x := x) (fun h9 => by
    have := Int32.lt_iff_toInt_lt.mp h9
    rw [Int32.toInt_zero] at this
    omega)
  rw [nI_toInt hj] at a1 a2
  rw [nI_clamp hj]
  exact ⟨rfl, by omega, by omega⟩
def wTw (n : Nat) (f : Nat → Int32) : Int32 := wA n f (nI (wIpN n f) + 12) >>> ((4 : Int32) &&& 31)
def wDs (n : Nat) (f : Nat → Int32) : Int32 := nI (wIpN n f) + wTw n f * 4
def wAdd (s x : Int32) : Int32 := ((s + x) &&& 65535) + ((s + x).toUInt32 >>> ((16 : Int32).toUInt32 &&& Int32.toUInt32 31)).toInt32
theorem vp_in_of2 {n N : Nat} {k : Int32} (h : 0 ≤ k ∧ k < nI n) (hn : n ≤ N) (hN : N < 2 ^ 31) : vp_in k N := by
  rw [vp_in_iff]
  have h1 := Int32.le_iff_toInt_le.mp h.1
  have h2 := Int32.lt_iff_toInt_lt.mp h.2
  rw [nI_toInt (by omega)] at h2
  rw [Int32.toInt_zero] at h1
  omega
theorem wfit {n j : Nat} (hn : n ≤ 100) (hj : j ≤ 8) (h : n + j ≤ 100) : nI j ≤ 100 - nI n := by
  rw [show (100 : Int32) = nI 100 from rfl, pk_sub hn]
  exact nI_le (by omega) (by omega)
theorem wfit2 {n j : Nat} (hn : n ≤ 100) (hj : j ≤ 8) (h : nI j ≤ 100 - nI n) : n + j ≤ 100 := by
  rw [show (100 : Int32) = nI 100 from rfl, pk_sub hn] at h
  have := (nI_leI (by omega) (by omega)).mp h
  omega
section WIRE
variable (l : Launch) (D : va_G) (cA : Nat → ClassId)

set_option maxRecDepth 100000 in
set_option maxHeartbeats 4000000 in
theorem ev_Wi_size (n : Nat) (f : Nat → Int32) : E0_Wi_size l D cA [.ref 0] (wWi n f) (some (.int (nI n))) (wWi n f) := by
  refine mj_ev (lv := [(0, .ref 0)]) (by decide +kernel) (Nat.le_of_ble_eq_true rfl) rfl (fun X h => ?_)
  refine mj_blk h.1 b_Wi_size_0 rfl trivial ?_
  exact mj_iret h rfl d_Wi_size_4 (by decide) (by decide) ⟨rfl, rfl⟩
set_option maxRecDepth 100000 in
set_option maxHeartbeats 4000000 in
theorem ev_Wi_has (n : Nat) (f : Nat → Int32) (k : Int32) : E0_Wi_has l D cA [.ref 0, .int k] (wWi n f) (some (.int (if 0 ≤ k ∧ k < nI n then 1 else 0))) (wWi n f) := by
  refine mj_ev (lv := [(0, .ref 0), (1, .int k)]) (by decide +kernel) (Nat.le_of_ble_eq_true rfl) rfl (fun X h => ?_)
  refine mj_blk h.1 b_Wi_has_0 rfl trivial ?_
  refine mj_iflt h.1 (tgt := 16) d_Wi_has_1 (by decide) (fun h1 => ?_) (fun h1 => ?_)
  · refine mj_blk h.1 b_Wi_has_16 rfl trivial ?_
    exact mj_zret h rfl (by first | exact Or.inl rfl | exact Or.inr rfl) d_Wi_has_17 (by decide) (by decide) ⟨by rw [if_neg (fun h9 => Int32.not_le.mpr h1 h9.1)], rfl⟩
  · refine mj_blk h.1 b_Wi_has_4 rfl trivial ?_
    refine mj_icge h.1 (tgt := 16) d_Wi_has_9 (by decide) (fun h2 => ?_) (fun h2 => ?_)
    · refine mj_blk h.1 b_Wi_has_16 rfl trivial ?_
      exact mj_zret h rfl (by first | exact Or.inl rfl | exact Or.inr rfl) d_Wi_has_17 (by decide) (by decide) ⟨by first | (rw [if_neg (fun h9 => Int32.not_lt.mpr h2 h9.2)]; done) | rw [if_pos ⟨Int32.not_lt.mp h1, Int32.not_le.mp h2⟩], rfl⟩
    · refine mj_blk h.1 b_Wi_has_12 rfl trivial ?_
      exact mj_zret h rfl (by first | exact Or.inl rfl | exact Or.inr rfl) d_Wi_has_17 (by decide) (by decide) ⟨by first | (rw [if_neg (fun h9 => Int32.not_lt.mpr h2 h9.2)]; done) | rw [if_pos ⟨Int32.not_lt.mp h1, Int32.not_le.mp h2⟩], rfl⟩
set_option maxRecDepth 100000 in
set_option maxHeartbeats 4000000 in
theorem ev_Wi_at (n : Nat) (hn : n ≤ 100) (f : Nat → Int32) (k : Int32) : E0_Wi_at l D cA [.ref 0, .int k] (wWi n f) (some (.int (wA n f k))) (wWi n f) := by
  refine mj_ev (lv := [(0, .ref 0), (1, .int k)]) (by decide +kernel) (Nat.le_of_ble_eq_true rfl) rfl (fun X h => ?_)
  refine mj_blk h.1 b_Wi_at_0 rfl trivial ?_
  refine mj_callV h zGood (ev_Wi_has l D cA _ _ _) v_Wi_has l_Wi_at_2 d_Wi_at_2 rfl ⟨by decide, by decide⟩ ⟨by decide, by decide⟩ [(0, 0), (1, 1)] rfl rfl rfl rfl rfl rfl (Nat.le_of_ble_eq_true rfl) ?_
  rintro _ _ ⟨rfl, rfl⟩
  refine mj_k rfl rfl ?_
  first | refine mj_ifeqB h.1 (tgt := 17) d_Wi_at_5 (by decide) (fun h1 => ?_) (fun h1 => ?_) | refine mj_ifeq h.1 (tgt := 17) d_Wi_at_5 (by decide) (fun h1 => ?_) (fun h1 => ?_)
  · refine mj_blk h.1 b_Wi_at_17 rfl trivial ?_
    exact mj_iret h rfl d_Wi_at_18 (by decide) (by decide) ⟨by unfold wA; first | rw [if_pos h1] | rw [if_neg h1], rfl⟩
  · refine mj_blk h.1 b_Wi_at_8 rfl ⟨vp_in_of2 h1 hn (by decide), trivial⟩ ?_
    exact mj_iret h rfl d_Wi_at_18 (by decide) (by decide) ⟨by unfold wA; first | rw [if_pos h1] | rw [if_neg h1], rfl⟩
set_option maxRecDepth 100000 in
set_option maxHeartbeats 4000000 in
theorem ev_Wi_clear (n : Nat) (f : Nat → Int32) : E0_Wi_clear l D cA [.ref 0] (wWi n f) none (wWi 0 f) := by
  refine mj_ev (lv := [(0, .ref 0)]) (by decide +kernel) (Nat.le_of_ble_eq_true rfl) rfl (fun X h => ?_)
  refine mj_blk h.1 b_Wi_clear_0 rfl trivial ?_
  exact mj_vret h rfl d_Wi_clear_5 (by decide) (by decide) ⟨rfl, rfl⟩
set_option maxRecDepth 100000 in
set_option maxHeartbeats 4000000 in
theorem ev_Wi_flip (n : Nat) (hn : n ≤ 100) (f : Nat → Int32) (k b : Int32) : E0_Wi_flip l D cA [.ref 0, .int k, .int b] (wWi n f) (some (.int (if 0 ≤ k ∧ k < nI n then 1 else 0))) (wWi n (if 0 ≤ k ∧ k < nI n then upd f k.toNatClampNeg (f k.toNatClampNeg ^^^ (b &&& 255)) else f)) := by
  refine mj_ev (lv := [(0, .ref 0), (1, .int k), (2, .int b)]) (by decide +kernel) (Nat.le_of_ble_eq_true rfl) rfl (fun X h => ?_)
  refine mj_blk h.1 b_Wi_flip_0 rfl trivial ?_
  refine mj_callV h zGood (ev_Wi_has l D cA _ _ _) v_Wi_has l_Wi_flip_2 d_Wi_flip_2 rfl ⟨by decide, by decide⟩ ⟨by decide, by decide⟩ [(0, 0), (1, 1)] rfl rfl rfl rfl rfl rfl (Nat.le_of_ble_eq_true rfl) ?_
  rintro _ _ ⟨rfl, rfl⟩
  refine mj_k rfl rfl ?_
  first | refine mj_ifneB h.1 (tgt := 10) d_Wi_flip_5 (by decide) (fun h1 => ?_) (fun h1 => ?_) | refine mj_ifne h.1 (tgt := 10) d_Wi_flip_5 (by decide) (fun h1 => ?_) (fun h1 => ?_)
  · refine mj_blk h.1 b_Wi_flip_10 rfl ⟨vp_in_of2 h1 hn (by decide), vp_in_of2 h1 hn (by decide), trivial⟩ ?_
    exact mj_zret h rfl (by first | exact Or.inl rfl | exact Or.inr rfl) d_Wi_flip_25 (by decide) (by decide) ⟨by first | rw [if_pos h1] | rw [if_neg h1], by first | rw [if_pos h1] | rw [if_neg h1]⟩
  · refine mj_blk h.1 b_Wi_flip_8 rfl trivial ?_
    exact mj_zret h rfl (by first | exact Or.inl rfl | exact Or.inr rfl) d_Wi_flip_9 (by decide) (by decide) ⟨by first | rw [if_pos h1] | rw [if_neg h1], by first | rw [if_pos h1] | rw [if_neg h1]⟩
set_option maxRecDepth 100000 in
set_option maxHeartbeats 4000000 in
theorem ev_Wi_pairAt (n : Nat) (hn : n ≤ 100) (f : Nat → Int32) (k : Int32) : E0_Wi_pairAt l D cA [.ref 0, .int k] (wWi n f) (some (.int (wPair n f k))) (wWi n f) := by
  refine mj_ev (lv := [(0, .ref 0), (1, .int k)]) (by decide +kernel) (Nat.le_of_ble_eq_true rfl) rfl (fun X h => ?_)
  refine mj_blk h.1 b_Wi_pairAt_0 rfl trivial ?_
  refine mj_callV h zGood (ev_Wi_at l D cA _ hn _ _) v_Wi_at l_Wi_pairAt_2 d_Wi_pairAt_2 rfl ⟨by decide, by decide⟩ ⟨by decide, by decide⟩ [(0, 0), (1, 1)] rfl rfl rfl rfl rfl rfl (Nat.le_of_ble_eq_true rfl) ?_
  rintro _ _ ⟨rfl, rfl⟩
  refine mj_k rfl rfl ?_
  refine mj_blk h.1 b_Wi_pairAt_5 rfl trivial ?_
  refine mj_callV h zGood (ev_Wi_at l D cA _ hn _ _) v_Wi_at l_Wi_pairAt_12 d_Wi_pairAt_12 rfl ⟨by decide, by decide⟩ ⟨by decide, by decide⟩ [(0, 0), (1, 1)] rfl rfl rfl rfl rfl rfl (Nat.le_of_ble_eq_true rfl) ?_
  rintro _ _ ⟨rfl, rfl⟩
  refine mj_k rfl rfl ?_
  refine mj_blk h.1 b_Wi_pairAt_15 rfl trivial ?_
  exact mj_iret h rfl d_Wi_pairAt_16 (by decide) (by decide) ⟨rfl, rfl⟩
set_option maxRecDepth 100000 in
set_option maxHeartbeats 4000000 in
theorem ev_Wi_quadAt (n : Nat) (hn : n ≤ 100) (f : Nat → Int32) (k : Int32) : E0_Wi_quadAt l D cA [.ref 0, .int k] (wWi n f) (some (.int (wQuad n f k))) (wWi n f) := by
  refine mj_ev (lv := [(0, .ref 0), (1, .int k)]) (by decide +kernel) (Nat.le_of_ble_eq_true rfl) rfl (fun X h => ?_)
  refine mj_blk h.1 b_Wi_quadAt_0 rfl trivial ?_
  refine mj_callV h zGood (ev_Wi_pairAt l D cA _ hn _ _) v_Wi_pairAt l_Wi_quadAt_2 d_Wi_quadAt_2 rfl ⟨by decide, by decide⟩ ⟨by decide, by decide⟩ [(0, 0), (1, 1)] rfl rfl rfl rfl rfl rfl (Nat.le_of_ble_eq_true rfl) ?_
  rintro _ _ ⟨rfl, rfl⟩
  refine mj_k rfl rfl ?_
  refine mj_blk h.1 b_Wi_quadAt_5 rfl trivial ?_
  refine mj_callV h zGood (ev_Wi_pairAt l D cA _ hn _ _) v_Wi_pairAt l_Wi_quadAt_12 d_Wi_quadAt_12 rfl ⟨by decide, by decide⟩ ⟨by decide, by decide⟩ [(0, 0), (1, 1)] rfl rfl rfl rfl rfl rfl (Nat.le_of_ble_eq_true rfl) ?_
  rintro _ _ ⟨rfl, rfl⟩
  refine mj_k rfl rfl ?_
  refine mj_blk h.1 b_Wi_quadAt_15 rfl trivial ?_
  exact mj_iret h rfl d_Wi_quadAt_16 (by decide) (by decide) ⟨rfl, rfl⟩
set_option maxRecDepth 100000 in
set_option maxHeartbeats 4000000 in
theorem ev_Wi_ipSize (n : Nat) (hn : n ≤ 100) (f : Nat → Int32) : E0_Wi_ipSize l D cA [.ref 0] (wWi n f) (some (.int (nI (wIpN n f)))) (wWi n f) := by
  refine mj_ev (lv := [(0, .ref 0)]) (by decide +kernel) (Nat.le_of_ble_eq_true rfl) rfl (fun X h => ?_)
  refine mj_blk h.1 b_Wi_ipSize_0 rfl trivial ?_
  refine mj_callV h zGood (ev_Wi_at l D cA _ hn _ _) v_Wi_at l_Wi_ipSize_2 d_Wi_ipSize_2 rfl ⟨by decide, by decide⟩ ⟨by decide, by decide⟩ [(0, 0), (1, 1)] rfl rfl rfl rfl rfl rfl (Nat.le_of_ble_eq_true rfl) ?_
  rintro _ _ ⟨rfl, rfl⟩
  refine mj_k rfl rfl ?_
  refine mj_blk h.1 b_Wi_ipSize_5 rfl trivial ?_
  exact mj_iret h rfl d_Wi_ipSize_10 (by decide) (by decide) ⟨by rw [← wIp_eq]; rfl, rfl⟩
set_option maxRecDepth 100000 in
set_option maxHeartbeats 4000000 in
theorem ev_Wi_length (n : Nat) (hn : n ≤ 100) (f : Nat → Int32) : E0_Wi_length l D cA [.ref 0] (wWi n f) (some (.int (wPair n f 2))) (wWi n f) := by
  refine mj_ev (lv := [(0, .ref 0)]) (by decide +kernel) (Nat.le_of_ble_eq_true rfl) rfl (fun X h => ?_)
  refine mj_blk h.1 b_Wi_length_0 rfl trivial ?_
  refine mj_callV h zGood (ev_Wi_pairAt l D cA _ hn _ _) v_Wi_pairAt l_Wi_length_2 d_Wi_length_2 rfl ⟨by decide, by decide⟩ ⟨by decide, by decide⟩ [(0, 0), (1, 1)] rfl rfl rfl rfl rfl rfl (Nat.le_of_ble_eq_true rfl) ?_
  rintro _ _ ⟨rfl, rfl⟩
  refine mj_k rfl rfl ?_
  exact mj_iret h rfl d_Wi_length_5 (by decide) (by decide) ⟨rfl, rfl⟩
set_option maxRecDepth 100000 in
set_option maxHeartbeats 4000000 in
theorem ev_Wi_tcpWords (n : Nat) (hn : n ≤ 100) (f : Nat → Int32) : E0_Wi_tcpWords l D cA [.ref 0] (wWi n f) (some (.int (wTw n f))) (wWi n f) := by
  refine mj_ev (lv := [(0, .ref 0)]) (by decide +kernel) (Nat.le_of_ble_eq_true rfl) rfl (fun X h => ?_)
  refine mj_blk h.1 b_Wi_tcpWords_0 rfl trivial ?_
  refine mj_callV h zGood (ev_Wi_ipSize l D cA _ hn _) v_Wi_ipSize l_Wi_tcpWords_2 d_Wi_tcpWords_2 rfl ⟨by decide, by decide⟩ ⟨by decide, by decide⟩ [(0, 0), (1, 1)] rfl rfl rfl rfl rfl rfl (Nat.le_of_ble_eq_true rfl) ?_
  rintro _ _ ⟨rfl, rfl⟩
  refine mj_k rfl rfl ?_
  refine mj_blk h.1 b_Wi_tcpWords_5 rfl trivial ?_
  refine mj_callV h zGood (ev_Wi_at l D cA _ hn _ _) v_Wi_at l_Wi_tcpWords_8 d_Wi_tcpWords_8 rfl ⟨by decide, by decide⟩ ⟨by decide, by decide⟩ [(0, 0), (1, 1)] rfl rfl rfl rfl rfl rfl (Nat.le_of_ble_eq_true rfl) ?_
  rintro _ _ ⟨rfl, rfl⟩
  refine mj_k rfl rfl ?_
  refine mj_blk h.1 b_Wi_tcpWords_11 rfl trivial ?_
  exact mj_iret h rfl d_Wi_tcpWords_13 (by decide) (by decide) ⟨rfl, rfl⟩
set_option maxRecDepth 100000 in
set_option maxHeartbeats 4000000 in
theorem ev_Wi_dataStart (n : Nat) (hn : n ≤ 100) (f : Nat → Int32) : E0_Wi_dataStart l D cA [.ref 0] (wWi n f) (some (.int (wDs n f))) (wWi n f) := by
  refine mj_ev (lv := [(0, .ref 0)]) (by decide +kernel) (Nat.le_of_ble_eq_true rfl) rfl (fun X h => ?_)
  refine mj_blk h.1 b_Wi_dataStart_0 rfl trivial ?_
  refine mj_callV h zGood (ev_Wi_ipSize l D cA _ hn _) v_Wi_ipSize l_Wi_dataStart_1 d_Wi_dataStart_1 rfl ⟨by decide, by decide⟩ ⟨by decide, by decide⟩ [(0, 0), (1, 1)] rfl rfl rfl rfl rfl rfl (Nat.le_of_ble_eq_true rfl) ?_
  rintro _ _ ⟨rfl, rfl⟩
  refine mj_k rfl rfl ?_
  refine mj_blk h.1 b_Wi_dataStart_4 rfl trivial ?_
  refine mj_callV h zGood (ev_Wi_tcpWords l D cA _ hn _) v_Wi_tcpWords l_Wi_dataStart_5 d_Wi_dataStart_5 rfl ⟨by decide, by decide⟩ ⟨by decide, by decide⟩ [(0, 0), (1, 1)] rfl rfl rfl rfl rfl rfl (Nat.le_of_ble_eq_true rfl) ?_
  rintro _ _ ⟨rfl, rfl⟩
  refine mj_k rfl rfl ?_
  refine mj_blk h.1 b_Wi_dataStart_8 rfl trivial ?_
  exact mj_iret h rfl d_Wi_dataStart_11 (by decide) (by decide) ⟨rfl, rfl⟩
set_option maxRecDepth 100000 in
set_option maxHeartbeats 4000000 in
theorem ev_Wi_addToSum (s x : Int32) : E0_Wi_addToSum l D cA [.int s, .int x] [] (some (.int (wAdd s x))) [] := by
  refine mj_ev (lv := [(0, .int s), (1, .int x)]) (by decide +kernel) (Nat.le_of_ble_eq_true rfl) rfl (fun X h => ?_)
  refine mj_blk h.1 b_Wi_addToSum_0 rfl trivial ?_
  exact mj_iret h rfl d_Wi_addToSum_13 (by decide) (by decide) ⟨rfl, rfl⟩
theorem mj_m1 (x : Int32) : x + (-1) = x - 1 := by rw [Int32.sub_eq_add_neg]
theorem mj_neg {r : Nat} (h : r < 2 ^ 31) : nI r - 1 < 0 ↔ r = 0 := by
  cases r with
  | zero => exact ⟨fun _ => rfl, fun _ => by decide⟩
  | succ r =>
    rw [nI_pred]
    exact ⟨fun h1 => absurd h1 (nI_pos (by omega)), fun h1 => by omega⟩
/-- byte i of a long -/
def wB (v : Int64) (i : Int32) : Int32 := (v.toUInt64 >>> ((8 * i).toInt64.toUInt64 &&& Int64.toUInt64 63)).toInt64.toInt32 &&& 255
/-- r bytes of v, the highest first, laid from place n on -/
def wApp : Nat → Nat → (Nat → Int32) → Int64 → (Nat → Int32)
  | 0, _, f, _ => f
  | r + 1, n, f, v => wApp r (n + 1) (upd f n (wB v (nI r))) v

set_option maxRecDepth 100000 in
set_option maxHeartbeats 4000000 in
theorem lp_Wi_append {X : mj_X} {post : mj_R} (h : mj_E zG X l D cA m_Wi_append 0 0 0 0 (fun _ => True) post) (j : Int32) (v : Int64) : ∀ (r n : Nat) (f : Nat → Int32), n + r ≤ 100 → r ≤ 8 → post (some (.int 1)) (wWi (n + r) (wApp r n f v)) → mj_W zG X 0 0 18 [(4, .int (nI r - 1)), (0, .ref 0), (1, .int j), (2, .long v)] [] (wWi n f) := by
  intro r
  induction r with
  | zero =>
    intro n f hn hr hp
    refine mj_blk h.1 b_Wi_append_18 rfl trivial ?_
    refine mj_iflt h.1 (tgt := 60) d_Wi_append_20 (by decide) (fun h1 => ?_) (fun h1 => ?_)
    · refine mj_blk h.1 b_Wi_append_60 rfl trivial ?_
      exact mj_zret h rfl (Or.inr rfl) d_Wi_append_61 (by decide) (by decide) hp
    · exact absurd ((mj_neg (by omega)).mpr rfl) h1
  | succ r ih =>
    intro n f hn hr hp
    refine mj_blk h.1 b_Wi_append_18 rfl trivial ?_
    refine mj_iflt h.1 (tgt := 60) d_Wi_append_20 (by decide) (fun h1 => ?_) (fun h1 => ?_)
    · exact absurd ((mj_neg (by omega)).mp h1) (Nat.succ_ne_zero _)
    · refine mj_blk h.1 b_Wi_append_23 rfl ⟨vp_in_nI (by omega) (by decide), trivial⟩ ?_
      rw [nI_pred, nI_clamp (by omega), ← nI_succ, mj_m1]
      exact ih (n + 1) _ (by omega) (by omega) (by rw [show n + 1 + r = n + (r + 1) by omega]; exact hp)
set_option maxRecDepth 100000 in
set_option maxHeartbeats 4000000 in
theorem ev_Wi_append (n : Nat) (hn : n ≤ 100) (f : Nat → Int32) (j : Nat) (hj : j ≤ 8) (v : Int64) : E0_Wi_append l D cA [.ref 0, .int (nI j), .long v] (wWi n f) (some (.int (if n + j ≤ 100 then 1 else 0))) (if n + j ≤ 100 then wWi (n + j) (wApp j n f v) else wWi n f) := by
  refine mj_ev (lv := [(0, .ref 0), (1, .int (nI j)), (2, .long v)]) (by decide +kernel) (Nat.le_of_ble_eq_true rfl) rfl (fun X h => ?_)
  refine mj_blk h.1 b_Wi_append_0 rfl trivial ?_
  refine mj_icle h.1 (tgt := 13) d_Wi_append_8 (by decide) (fun h1 => ?_) (fun h1 => ?_)
  · have hc : n + j ≤ 100 := wfit2 hn hj h1
    refine mj_blk h.1 b_Wi_append_13 rfl trivial ?_
    exact lp_Wi_append l D cA h _ _ j n f hc hj ⟨by rw [if_pos hc], by rw [if_pos hc]⟩
  · have hc : ¬ n + j ≤ 100 := fun h9 => h1 (wfit hn hj h9)
    refine mj_blk h.1 b_Wi_append_11 rfl trivial ?_
    exact mj_zret h rfl (Or.inl rfl) d_Wi_append_12 (by decide) (by decide) ⟨by rw [if_neg hc], by rw [if_neg hc]⟩
/-- the sum of the words from a up to b -/
def wSum (n : Nat) (f : Nat → Int32) : Nat → Nat → Nat → Int32 → Int32
  | 0, _, _, s => s
  | t + 1, a, b, s => if a < b then wSum n f t (a + 2) b (wAdd s (wA n f (nI a) <<< ((8 : Int32) &&& 31) ||| (if a + 1 < b then wA n f (nI a + 1) else 0))) else s
set_option maxRecDepth 100000 in
set_option maxHeartbeats 4000000 in
theorem lp_Wi_sumOf {X : mj_X} {post : mj_R} (n : Nat) (hn : n ≤ 100) (f : Nat → Int32) (b : Nat) (hb : b < 2 ^ 30) (p q : Int32) (h : mj_E zG X l D cA m_Wi_sumOf 2 80 0 0 (fun _ => True) post) : ∀ (t a : Nat) (s : Int32), b ≤ a + t → a ≤ b + 1 → post (some (.int (wSum n f t a b s))) (wWi n f) → mj_W zG X 0 0 6 [(5, .int (nI a)), (4, .int s), (0, .ref 0), (1, .int p), (2, .int (nI b)), (3, .int q)] [] (wWi n f) := by
  intro t
  induction t with
  | zero =>
    intro a s ht ha hp
    refine mj_blk h.1 b_Wi_sumOf_6 rfl trivial ?_
    refine mj_icge h.1 (tgt := 59) d_Wi_sumOf_9 (by decide) (fun h1 => ?_) (fun h1 => ?_)
    · refine mj_blk h.1 b_Wi_sumOf_59 rfl trivial ?_
      exact mj_iret h rfl d_Wi_sumOf_61 (by decide) (by decide) hp
    · exact absurd (nI_le (by omega) (by omega)) h1
  | succ t ih =>
    intro a s ht ha hp
    refine mj_blk h.1 b_Wi_sumOf_6 rfl trivial ?_
    refine mj_icge h.1 (tgt := 59) d_Wi_sumOf_9 (by decide) (fun g1 => ?_) (fun g1 => ?_)
    · have c1 : ¬ a < b := fun h9 => Int32.not_lt.mpr g1 (nI_lt h9 (by omega))
      have hp9 : post (some (.int s)) (wWi n f) := by
        have hp2 := hp
        unfold wSum at hp2
        rw [if_neg c1] at hp2
        exact hp2
      refine mj_blk h.1 b_Wi_sumOf_59 rfl trivial ?_
      exact mj_iret h rfl d_Wi_sumOf_61 (by decide) (by decide) hp9
    · have c1 : a < b := (nI_ltI (by omega) (by omega)).mp (Int32.not_le.mp g1)
      refine mj_blk h.1 b_Wi_sumOf_12 rfl trivial ?_
      refine mj_icge h.1 (tgt := 31) d_Wi_sumOf_17 (by decide) (fun g2 => ?_) (fun g2 => ?_)
      · have c2 : ¬ a + 1 < b := fun h9 => Int32.not_lt.mpr g2 (by rw [← nI_succ]; exact nI_lt h9 (by omega))
        have hp2 : post (some (.int (wSum n f t (a + 2) b (wAdd s (wA n f (nI a) <<< ((8 : Int32) &&& 31) ||| 0))))) (wWi n f) := by
          have hp2 := hp
          unfold wSum at hp2
          rw [if_pos c1, if_neg c2] at hp2
          exact hp2
        refine mj_blk h.1 b_Wi_sumOf_31 rfl trivial ?_
        refine mj_blk h.1 b_Wi_sumOf_32 rfl trivial ?_
        refine mj_callV h zGood (ev_Wi_at l D cA _ hn _ _) v_Wi_at l_Wi_sumOf_39 d_Wi_sumOf_39 rfl ⟨by decide, by decide⟩ ⟨by decide, by decide⟩ [(0, 0), (1, 1)] rfl rfl rfl rfl rfl rfl (Nat.le_of_ble_eq_true rfl) ?_
        rintro _ _ ⟨rfl, rfl⟩
        refine mj_k rfl rfl ?_
        refine mj_blk h.1 b_Wi_sumOf_42 rfl trivial ?_
        refine mj_callS h zGood (ev_Wi_addToSum l D cA _ _) v_Wi_addToSum rfl l_Wi_sumOf_48 d_Wi_sumOf_48 rfl ⟨by decide, by decide⟩ ⟨by decide, by decide⟩ [(0, 0), (1, 1)] rfl rfl rfl rfl (Nat.le_of_ble_eq_true rfl) ?_
        rintro _ _ ⟨rfl, rfl⟩
        refine mj_k rfl rfl ?_
        refine mj_blk h.1 b_Wi_sumOf_51 rfl trivial ?_
        refine mj_lpk [0, 1, 3, 4, 5, 6] rfl ?_
        rw [show nI a + 2 = nI (a + 2) from nI_add a 2]
        exact ih (a + 2) _ (by omega) (by omega) hp2
      · have c2 : a + 1 < b := (nI_ltI (by omega) (by omega)).mp (by rw [nI_succ]; exact Int32.not_le.mp g2)
        have hp2 : post (some (.int (wSum n f t (a + 2) b (wAdd s (wA n f (nI a) <<< ((8 : Int32) &&& 31) ||| wA n f (nI a + 1)))))) (wWi n f) := by
          have hp2 := hp
          unfold wSum at hp2
          rw [if_pos c1, if_pos c2] at hp2
          exact hp2
        refine mj_blk h.1 b_Wi_sumOf_20 rfl trivial ?_
        refine mj_callV h zGood (ev_Wi_at l D cA _ hn _ _) v_Wi_at l_Wi_sumOf_25 d_Wi_sumOf_25 rfl ⟨by decide, by decide⟩ ⟨by decide, by decide⟩ [(0, 0), (1, 1)] rfl rfl rfl rfl rfl rfl (Nat.le_of_ble_eq_true rfl) ?_
        rintro _ _ ⟨rfl, rfl⟩
        refine mj_k rfl rfl ?_
        refine mj_blk h.1 b_Wi_sumOf_28 rfl trivial ?_
        refine mj_blk h.1 b_Wi_sumOf_32 rfl trivial ?_
        refine mj_callV h zGood (ev_Wi_at l D cA _ hn _ _) v_Wi_at l_Wi_sumOf_39 d_Wi_sumOf_39 rfl ⟨by decide, by decide⟩ ⟨by decide, by decide⟩ [(0, 0), (1, 1)] rfl rfl rfl rfl rfl rfl (Nat.le_of_ble_eq_true rfl) ?_
        rintro _ _ ⟨rfl, rfl⟩
        refine mj_k rfl rfl ?_
        refine mj_blk h.1 b_Wi_sumOf_42 rfl trivial ?_
        refine mj_callS h zGood (ev_Wi_addToSum l D cA _ _) v_Wi_addToSum rfl l_Wi_sumOf_48 d_Wi_sumOf_48 rfl ⟨by decide, by decide⟩ ⟨by decide, by decide⟩ [(0, 0), (1, 1)] rfl rfl rfl rfl (Nat.le_of_ble_eq_true rfl) ?_
        rintro _ _ ⟨rfl, rfl⟩
        refine mj_k rfl rfl ?_
        refine mj_blk h.1 b_Wi_sumOf_51 rfl trivial ?_
        refine mj_lpk [0, 1, 3, 4, 5, 6] rfl ?_
        rw [show nI a + 2 = nI (a + 2) from nI_add a 2]
        exact ih (a + 2) _ (by omega) (by omega) hp2
set_option maxRecDepth 100000 in
set_option maxHeartbeats 4000000 in
theorem ev_Wi_sumOf (n : Nat) (hn : n ≤ 100) (f : Nat → Int32) (a b : Nat) (hb : b < 2 ^ 30) (ha : a ≤ b + 1) (s : Int32) : E0_Wi_sumOf l D cA [.ref 0, .int (nI a), .int (nI b), .int s] (wWi n f) (some (.int (wSum n f b a b s))) (wWi n f) := by
  refine mj_ev (lv := [(0, .ref 0), (1, .int (nI a)), (2, .int (nI b)), (3, .int s)]) (by decide +kernel) (Nat.le_of_ble_eq_true rfl) rfl (fun X h => ?_)
  refine mj_blk h.1 b_Wi_sumOf_0 rfl trivial ?_
  exact lp_Wi_sumOf l D cA n hn f b hb _ _ h b a s (by omega) ha ⟨rfl, rfl⟩
def wIs (n : Nat) (f : Nat → Int32) : Int32 := wSum n f (wIpN n f) 0 (wIpN n f) 0
def wTs (n : Nat) (f : Nat → Int32) (L : Nat) : Int32 := wSum n f L (wIpN n f) L (wAdd (wAdd (wSum n f 20 12 20 0) 6) (nI L - nI (wIpN n f)))
def wSet (n : Nat) (f : Nat → Int32) (k x : Int32) : Nat → Int32 := if (0 ≤ k ∧ k < nI n) ∧ (0 ≤ k + 1 ∧ k + 1 < nI n) then upd (upd f k.toNatClampNeg ((x >>> ((8 : Int32) &&& 31)) &&& 255)) (k + 1).toNatClampNeg (x &&& 255) else f
def wF2 (n : Nat) (f : Nat → Int32) : Nat → Int32 := wSet n (wSet n f 10 0) 10 (65535 - wIs n (wSet n f 10 0))
def wF3 (n : Nat) (f : Nat → Int32) : Nat → Int32 := wSet n (wF2 n f) (nI (wIpN n f) + 16) 0
def wMk (n : Nat) (f : Nat → Int32) (L : Nat) : Nat → Int32 := wSet n (wF3 n f) (nI (wIpN n f) + 16) (65535 - wTs n (wF3 n f) L)
def wFault (n : Nat) (f : Nat → Int32) (s : Prop) [Decidable s] : Int32 :=
  if 20 ≤ nI n then
    if wA n f 0 < 69 then 2 else if wA n f 0 ≤ 71 then
      if nI n < wPair n f 2 then 3 else if nI (wIpN n f) + 20 ≤ wPair n f 2 then
        if s ∧ ¬ wIs n f = 65535 then 4 else if wPair n f 6 &&& 16383 = 0 then
          if wA n f 9 = 6 then
            if wTw n f < 5 then 7 else if 8 < wTw n f then 7 else if wDs n f ≤ wPair n f 2 then
              if s ∧ ¬ wTs n f (wPair n f 2).toNatClampNeg = 65535 then 8 else 0
            else 7
          else 6
        else 5
      else 3
    else 2
  else 1
set_option maxRecDepth 100000 in
set_option maxHeartbeats 4000000 in
theorem ev_Wi_ipSum (n : Nat) (hn : n ≤ 100) (f : Nat → Int32) : E0_Wi_ipSum l D cA [.ref 0] (wWi n f) (some (.int (wIs n f))) (wWi n f) := by
  refine mj_ev (lv := [(0, .ref 0)]) (by decide +kernel) (Nat.le_of_ble_eq_true rfl) rfl (fun X h => ?_)
  refine mj_blk h.1 b_Wi_ipSum_0 rfl trivial ?_
  refine mj_callV h zGood (ev_Wi_ipSize l D cA _ hn _) v_Wi_ipSize l_Wi_ipSum_3 d_Wi_ipSum_3 rfl ⟨by decide, by decide⟩ ⟨by decide, by decide⟩ [(0, 0), (1, 1)] rfl rfl rfl rfl rfl rfl (Nat.le_of_ble_eq_true rfl) ?_
  rintro _ _ ⟨rfl, rfl⟩
  refine mj_k rfl rfl ?_
  refine mj_blk h.1 b_Wi_ipSum_6 rfl trivial ?_
  refine mj_callV h zGood (ev_Wi_sumOf l D cA n hn f 0 (wIpN n f) (Nat.lt_of_le_of_lt (wIp_le n f) (by decide)) (Nat.zero_le _) 0) v_Wi_sumOf l_Wi_ipSum_7 d_Wi_ipSum_7 rfl ⟨by decide, by decide⟩ ⟨by decide, by decide⟩ [(0, 0), (1, 1)] rfl rfl rfl rfl rfl rfl (Nat.le_of_ble_eq_true rfl) ?_
  rintro _ _ ⟨rfl, rfl⟩
  refine mj_k rfl rfl ?_
  exact mj_iret h rfl d_Wi_ipSum_10 (by decide) (by decide) ⟨rfl, rfl⟩
set_option maxRecDepth 100000 in
set_option maxHeartbeats 4000000 in
theorem ev_Wi_tcpSum (n : Nat) (hn : n ≤ 100) (f : Nat → Int32) (L : Nat) (hL : wPair n f 2 = nI L) (hL2 : L < 2 ^ 30) (hI : wIpN n f ≤ L + 1) : E0_Wi_tcpSum l D cA [.ref 0] (wWi n f) (some (.int (wTs n f L))) (wWi n f) := by
  refine mj_ev (lv := [(0, .ref 0)]) (by decide +kernel) (Nat.le_of_ble_eq_true rfl) rfl (fun X h => ?_)
  refine mj_blk h.1 b_Wi_tcpSum_0 rfl trivial ?_
  refine mj_callV h zGood (ev_Wi_sumOf l D cA n hn f 12 20 (by decide) (by decide) 0) v_Wi_sumOf l_Wi_tcpSum_6 d_Wi_tcpSum_6 rfl ⟨by decide, by decide⟩ ⟨by decide, by decide⟩ [(0, 0), (1, 1)] rfl rfl rfl rfl rfl rfl (Nat.le_of_ble_eq_true rfl) ?_
  rintro _ _ ⟨rfl, rfl⟩
  refine mj_k rfl rfl ?_
  refine mj_blk h.1 b_Wi_tcpSum_9 rfl trivial ?_
  refine mj_callS h zGood (ev_Wi_addToSum l D cA _ _) v_Wi_addToSum rfl l_Wi_tcpSum_13 d_Wi_tcpSum_13 rfl ⟨by decide, by decide⟩ ⟨by decide, by decide⟩ [(0, 0), (1, 1)] rfl rfl rfl rfl (Nat.le_of_ble_eq_true rfl) ?_
  rintro _ _ ⟨rfl, rfl⟩
  refine mj_k rfl rfl ?_
  refine mj_blk h.1 b_Wi_tcpSum_16 rfl trivial ?_
  refine mj_callV h zGood (ev_Wi_length l D cA _ hn _) v_Wi_length l_Wi_tcpSum_19 d_Wi_tcpSum_19 rfl ⟨by decide, by decide⟩ ⟨by decide, by decide⟩ [(0, 0), (1, 1)] rfl rfl rfl rfl rfl rfl (Nat.le_of_ble_eq_true rfl) ?_
  rintro _ _ ⟨rfl, rfl⟩
  rw [hL]
  refine mj_k rfl rfl ?_
  refine mj_blk h.1 b_Wi_tcpSum_22 rfl trivial ?_
  refine mj_callV h zGood (ev_Wi_ipSize l D cA _ hn _) v_Wi_ipSize l_Wi_tcpSum_23 d_Wi_tcpSum_23 rfl ⟨by decide, by decide⟩ ⟨by decide, by decide⟩ [(0, 0), (1, 1)] rfl rfl rfl rfl rfl rfl (Nat.le_of_ble_eq_true rfl) ?_
  rintro _ _ ⟨rfl, rfl⟩
  refine mj_k rfl rfl ?_
  refine mj_blk h.1 b_Wi_tcpSum_26 rfl trivial ?_
  refine mj_callS h zGood (ev_Wi_addToSum l D cA _ _) v_Wi_addToSum rfl l_Wi_tcpSum_27 d_Wi_tcpSum_27 rfl ⟨by decide, by decide⟩ ⟨by decide, by decide⟩ [(0, 0), (1, 1)] rfl rfl rfl rfl (Nat.le_of_ble_eq_true rfl) ?_
  rintro _ _ ⟨rfl, rfl⟩
  refine mj_k rfl rfl ?_
  refine mj_blk h.1 b_Wi_tcpSum_30 rfl trivial ?_
  refine mj_callV h zGood (ev_Wi_ipSize l D cA _ hn _) v_Wi_ipSize l_Wi_tcpSum_33 d_Wi_tcpSum_33 rfl ⟨by decide, by decide⟩ ⟨by decide, by decide⟩ [(0, 0), (1, 1)] rfl rfl rfl rfl rfl rfl (Nat.le_of_ble_eq_true rfl) ?_
  rintro _ _ ⟨rfl, rfl⟩
  refine mj_k rfl rfl ?_
  refine mj_blk h.1 b_Wi_tcpSum_36 rfl trivial ?_
  refine mj_callV h zGood (ev_Wi_length l D cA _ hn _) v_Wi_length l_Wi_tcpSum_37 d_Wi_tcpSum_37 rfl ⟨by decide, by decide⟩ ⟨by decide, by decide⟩ [(0, 0), (1, 1)] rfl rfl rfl rfl rfl rfl (Nat.le_of_ble_eq_true rfl) ?_
  rintro _ _ ⟨rfl, rfl⟩
  rw [hL]
  refine mj_k rfl rfl ?_
  refine mj_blk h.1 b_Wi_tcpSum_40 rfl trivial ?_
  refine mj_callV h zGood (ev_Wi_sumOf l D cA n hn f (wIpN n f) L hL2 hI _) v_Wi_sumOf l_Wi_tcpSum_41 d_Wi_tcpSum_41 rfl ⟨by decide, by decide⟩ ⟨by decide, by decide⟩ [(0, 0), (1, 1)] rfl rfl rfl rfl rfl rfl (Nat.le_of_ble_eq_true rfl) ?_
  rintro _ _ ⟨rfl, rfl⟩
  refine mj_k rfl rfl ?_
  exact mj_iret h rfl d_Wi_tcpSum_44 (by decide) (by decide) ⟨rfl, rfl⟩
set_option maxRecDepth 100000 in
set_option maxHeartbeats 4000000 in
theorem ev_Wi_setPair (n : Nat) (hn : n ≤ 100) (f : Nat → Int32) (k x : Int32) : E0_Wi_setPair l D cA [.ref 0, .int k, .int x] (wWi n f) none (wWi n (wSet n f k x)) := by
  refine mj_ev (lv := [(0, .ref 0), (1, .int k), (2, .int x)]) (by decide +kernel) (Nat.le_of_ble_eq_true rfl) rfl (fun X h => ?_)
  refine mj_blk h.1 b_Wi_setPair_0 rfl trivial ?_
  refine mj_callV h zGood (ev_Wi_has l D cA _ _ _) v_Wi_has l_Wi_setPair_2 d_Wi_setPair_2 rfl ⟨by decide, by decide⟩ ⟨by decide, by decide⟩ [(0, 0), (1, 1)] rfl rfl rfl rfl rfl rfl (Nat.le_of_ble_eq_true rfl) ?_
  rintro _ _ ⟨rfl, rfl⟩
  refine mj_k rfl rfl ?_
  first | refine mj_ifeqB h.1 (tgt := 45) d_Wi_setPair_5 (by decide) (fun h1 => ?_) (fun h1 => ?_) | refine mj_ifeq h.1 (tgt := 45) d_Wi_setPair_5 (by decide) (fun h1 => ?_) (fun h1 => ?_)
  · exact mj_vret h rfl d_Wi_setPair_45 (by decide) (by decide) ⟨rfl, by unfold wSet; rw [if_neg (fun h9 => h1 h9.1)]⟩
  · refine mj_blk h.1 b_Wi_setPair_8 rfl trivial ?_
    refine mj_callV h zGood (ev_Wi_has l D cA _ _ _) v_Wi_has l_Wi_setPair_12 d_Wi_setPair_12 rfl ⟨by decide, by decide⟩ ⟨by decide, by decide⟩ [(0, 0), (1, 1)] rfl rfl rfl rfl rfl rfl (Nat.le_of_ble_eq_true rfl) ?_
    rintro _ _ ⟨rfl, rfl⟩
    refine mj_k rfl rfl ?_
    first | refine mj_ifeqB h.1 (tgt := 45) d_Wi_setPair_15 (by decide) (fun h2 => ?_) (fun h2 => ?_) | refine mj_ifeq h.1 (tgt := 45) d_Wi_setPair_15 (by decide) (fun h2 => ?_) (fun h2 => ?_)
    · exact mj_vret h rfl d_Wi_setPair_45 (by decide) (by decide) ⟨rfl, by unfold wSet; first | (rw [if_pos ⟨h1, h2⟩]; done) | (rw [if_neg (fun h9 => h1 h9.1)]; done) | (rw [if_neg (fun h9 => h2 h9.2)]; done)⟩
    · refine mj_blk h.1 b_Wi_setPair_18 rfl ⟨vp_in_of2 h2 hn (by decide), vp_in_of2 h1 hn (by decide), trivial⟩ ?_
      exact mj_vret h rfl d_Wi_setPair_45 (by decide) (by decide) ⟨rfl, by unfold wSet; first | (rw [if_pos ⟨h1, h2⟩]; done) | (rw [if_neg (fun h9 => h1 h9.1)]; done) | (rw [if_neg (fun h9 => h2 h9.2)]; done)⟩
set_option maxRecDepth 100000 in
set_option maxHeartbeats 4000000 in
theorem ev_Wi_makeSumsRight0 (n : Nat) (hn : n ≤ 100) (f f1 f2 f3 f4 : Nat → Int32) (L : Nat) (e1 : f1 = wSet n f 10 0) (e2 : f2 = wSet n f1 10 (65535 - wIs n f1)) (e3 : f3 = wSet n f2 (nI (wIpN n f) + 16) 0) (e4 : f4 = wSet n f3 (nI (wIpN n f) + 16) (65535 - wTs n f3 L)) (hL : wPair n f3 2 = nI L) (hL2 : L < 2 ^ 30) (hI : wIpN n f3 ≤ L + 1) : E0_Wi_makeSumsRight l D cA [.ref 0] (wWi n f) none (wWi n f4) := by
  refine mj_ev (lv := [(0, .ref 0)]) (by decide +kernel) (Nat.le_of_ble_eq_true rfl) rfl (fun X h => ?_)
  refine mj_blk h.1 b_Wi_makeSumsRight_0 rfl trivial ?_
  refine mj_callV h zGood (ev_Wi_ipSize l D cA _ hn _) v_Wi_ipSize l_Wi_makeSumsRight_1 d_Wi_makeSumsRight_1 rfl ⟨by decide, by decide⟩ ⟨by decide, by decide⟩ [(0, 0), (1, 1)] rfl rfl rfl rfl rfl rfl (Nat.le_of_ble_eq_true rfl) ?_
  rintro _ _ ⟨rfl, rfl⟩
  refine mj_k rfl rfl ?_
  refine mj_blk h.1 b_Wi_makeSumsRight_4 rfl trivial ?_
  refine mj_callV h zGood (ev_Wi_setPair l D cA n hn f 10 0) v_Wi_setPair l_Wi_makeSumsRight_12 d_Wi_makeSumsRight_12 rfl ⟨by decide, by decide⟩ ⟨by decide, by decide⟩ [(0, 0), (1, 1)] rfl rfl rfl rfl rfl rfl (Nat.le_of_ble_eq_true rfl) ?_
  rintro _ _ ⟨rfl, rfl⟩
  rw [← e1]
  refine mj_k rfl rfl ?_
  refine mj_blk h.1 b_Wi_makeSumsRight_15 rfl trivial ?_
  refine mj_callV h zGood (ev_Wi_ipSum l D cA n hn f1) v_Wi_ipSum l_Wi_makeSumsRight_21 d_Wi_makeSumsRight_21 rfl ⟨by decide, by decide⟩ ⟨by decide, by decide⟩ [(0, 0), (1, 1)] rfl rfl rfl rfl rfl rfl (Nat.le_of_ble_eq_true rfl) ?_
  rintro _ _ ⟨rfl, rfl⟩
  refine mj_k rfl rfl ?_
  refine mj_blk h.1 b_Wi_makeSumsRight_24 rfl trivial ?_
  refine mj_callV h zGood (ev_Wi_setPair l D cA n hn f1 10 _) v_Wi_setPair l_Wi_makeSumsRight_25 d_Wi_makeSumsRight_25 rfl ⟨by decide, by decide⟩ ⟨by decide, by decide⟩ [(0, 0), (1, 1)] rfl rfl rfl rfl rfl rfl (Nat.le_of_ble_eq_true rfl) ?_
  rintro _ _ ⟨rfl, rfl⟩
  rw [← e2]
  refine mj_k rfl rfl ?_
  refine mj_blk h.1 b_Wi_makeSumsRight_28 rfl trivial ?_
  refine mj_callV h zGood (ev_Wi_setPair l D cA n hn f2 _ 0) v_Wi_setPair l_Wi_makeSumsRight_31 d_Wi_makeSumsRight_31 rfl ⟨by decide, by decide⟩ ⟨by decide, by decide⟩ [(0, 0), (1, 1)] rfl rfl rfl rfl rfl rfl (Nat.le_of_ble_eq_true rfl) ?_
  rintro _ _ ⟨rfl, rfl⟩
  rw [← e3]
  refine mj_k rfl rfl ?_
  refine mj_blk h.1 b_Wi_makeSumsRight_34 rfl trivial ?_
  refine mj_callV h zGood (ev_Wi_tcpSum l D cA n hn f3 L hL hL2 hI) v_Wi_tcpSum l_Wi_makeSumsRight_39 d_Wi_makeSumsRight_39 rfl ⟨by decide, by decide⟩ ⟨by decide, by decide⟩ [(0, 0), (1, 1)] rfl rfl rfl rfl rfl rfl (Nat.le_of_ble_eq_true rfl) ?_
  rintro _ _ ⟨rfl, rfl⟩
  refine mj_k rfl rfl ?_
  refine mj_blk h.1 b_Wi_makeSumsRight_42 rfl trivial ?_
  refine mj_callV h zGood (ev_Wi_setPair l D cA n hn f3 _ _) v_Wi_setPair l_Wi_makeSumsRight_43 d_Wi_makeSumsRight_43 rfl ⟨by decide, by decide⟩ ⟨by decide, by decide⟩ [(0, 0), (1, 1)] rfl rfl rfl rfl rfl rfl (Nat.le_of_ble_eq_true rfl) ?_
  rintro _ _ ⟨rfl, rfl⟩
  rw [← e4]
  refine mj_k rfl rfl ?_
  exact mj_vret h rfl d_Wi_makeSumsRight_46 (by decide) (by decide) ⟨rfl, rfl⟩
theorem ev_Wi_makeSumsRight (n : Nat) (hn : n ≤ 100) (f : Nat → Int32) (L : Nat) (hL : wPair n (wF3 n f) 2 = nI L) (hL2 : L < 2 ^ 30) (hI : wIpN n (wF3 n f) ≤ L + 1) : E0_Wi_makeSumsRight l D cA [.ref 0] (wWi n f) none (wWi n (wMk n f L)) := ev_Wi_makeSumsRight0 l D cA n hn f (wSet n f 10 0) (wF2 n f) (wF3 n f) (wMk n f L) L rfl rfl rfl rfl hL hL2 hI
set_option maxRecDepth 100000 in
set_option maxHeartbeats 4000000 in
theorem ev_Wi_fault (n : Nat) (hn : n ≤ 100) (f : Nat → Int32) (s : Prop) [Decidable s] : E0_Wi_fault l D cA [.ref 0, .int (if s then 1 else 0)] (wWi n f) (some (.int (wFault n f s))) (wWi n f) := by
  refine mj_ev (lv := [(0, .ref 0), (1, .int (if s then 1 else 0))]) (by decide +kernel) (Nat.le_of_ble_eq_true rfl) rfl (fun X h => ?_)
  refine mj_blk h.1 b_Wi_fault_0 rfl trivial ?_
  refine mj_icge h.1 (tgt := 11) d_Wi_fault_6 (by decide) (fun h1 => ?_) (fun h1 => ?_)
  · refine mj_blk h.1 b_Wi_fault_11 rfl trivial ?_
    refine mj_callV h zGood (ev_Wi_at l D cA _ hn _ _) v_Wi_at l_Wi_fault_13 d_Wi_fault_13 rfl ⟨by decide, by decide⟩ ⟨by decide, by decide⟩ [(0, 0), (1, 1)] rfl rfl rfl rfl rfl rfl (Nat.le_of_ble_eq_true rfl) ?_
    rintro _ _ ⟨rfl, rfl⟩
    refine mj_k rfl rfl ?_
    refine mj_blk h.1 b_Wi_fault_16 rfl trivial ?_
    refine mj_iclt h.1 (tgt := 31) d_Wi_fault_18 (by decide) (fun h2 => ?_) (fun h2 => ?_)
    · refine mj_blk h.1 b_Wi_fault_31 rfl trivial ?_
      exact mj_iret h rfl d_Wi_fault_32 (by decide) (by decide) ⟨by unfold wFault; rw [if_pos h1, if_pos h2], rfl⟩
    · refine mj_blk h.1 b_Wi_fault_21 rfl trivial ?_
      refine mj_callV h zGood (ev_Wi_at l D cA _ hn _ _) v_Wi_at l_Wi_fault_23 d_Wi_fault_23 rfl ⟨by decide, by decide⟩ ⟨by decide, by decide⟩ [(0, 0), (1, 1)] rfl rfl rfl rfl rfl rfl (Nat.le_of_ble_eq_true rfl) ?_
      rintro _ _ ⟨rfl, rfl⟩
      refine mj_k rfl rfl ?_
      refine mj_blk h.1 b_Wi_fault_26 rfl trivial ?_
      refine mj_icle h.1 (tgt := 33) d_Wi_fault_28 (by decide) (fun h3 => ?_) (fun h3 => ?_)
      · refine mj_blk h.1 b_Wi_fault_33 rfl trivial ?_
        refine mj_callV h zGood (ev_Wi_length l D cA _ hn _) v_Wi_length l_Wi_fault_34 d_Wi_fault_34 rfl ⟨by decide, by decide⟩ ⟨by decide, by decide⟩ [(0, 0), (1, 1)] rfl rfl rfl rfl rfl rfl (Nat.le_of_ble_eq_true rfl) ?_
        rintro _ _ ⟨rfl, rfl⟩
        refine mj_k rfl rfl ?_
        refine mj_blk h.1 b_Wi_fault_37 rfl trivial ?_
        refine mj_icgt h.1 (tgt := 58) d_Wi_fault_41 (by decide) (fun h4 => ?_) (fun h4 => ?_)
        · refine mj_blk h.1 b_Wi_fault_58 rfl trivial ?_
          exact mj_iret h rfl d_Wi_fault_59 (by decide) (by decide) ⟨by unfold wFault; rw [if_pos h1, if_neg h2, if_pos h3, if_pos h4], rfl⟩
        · refine mj_blk h.1 b_Wi_fault_44 rfl trivial ?_
          refine mj_callV h zGood (ev_Wi_length l D cA _ hn _) v_Wi_length l_Wi_fault_45 d_Wi_fault_45 rfl ⟨by decide, by decide⟩ ⟨by decide, by decide⟩ [(0, 0), (1, 1)] rfl rfl rfl rfl rfl rfl (Nat.le_of_ble_eq_true rfl) ?_
          rintro _ _ ⟨rfl, rfl⟩
          refine mj_k rfl rfl ?_
          refine mj_blk h.1 b_Wi_fault_48 rfl trivial ?_
          refine mj_callV h zGood (ev_Wi_ipSize l D cA _ hn _) v_Wi_ipSize l_Wi_fault_49 d_Wi_fault_49 rfl ⟨by decide, by decide⟩ ⟨by decide, by decide⟩ [(0, 0), (1, 1)] rfl rfl rfl rfl rfl rfl (Nat.le_of_ble_eq_true rfl) ?_
          rintro _ _ ⟨rfl, rfl⟩
          refine mj_k rfl rfl ?_
          refine mj_blk h.1 b_Wi_fault_52 rfl trivial ?_
          refine mj_icge h.1 (tgt := 60) d_Wi_fault_55 (by decide) (fun h5 => ?_) (fun h5 => ?_)
          · refine mj_blk h.1 b_Wi_fault_60 rfl trivial ?_
            first | refine mj_ifeqB h.1 (tgt := 75) d_Wi_fault_61 (by decide) (fun h6 => ?_) (fun h6 => ?_) | refine mj_ifeq h.1 (tgt := 75) d_Wi_fault_61 (by decide) (fun h6 => ?_) (fun h6 => ?_)
            · refine mj_blk h.1 b_Wi_fault_75 rfl trivial ?_
              refine mj_callV h zGood (ev_Wi_pairAt l D cA _ hn _ _) v_Wi_pairAt l_Wi_fault_78 d_Wi_fault_78 rfl ⟨by decide, by decide⟩ ⟨by decide, by decide⟩ [(0, 0), (1, 1)] rfl rfl rfl rfl rfl rfl (Nat.le_of_ble_eq_true rfl) ?_
              rintro _ _ ⟨rfl, rfl⟩
              refine mj_k rfl rfl ?_
              refine mj_blk h.1 b_Wi_fault_81 rfl trivial ?_
              first | refine mj_ifeqB h.1 (tgt := 90) d_Wi_fault_85 (by decide) (fun h7 => ?_) (fun h7 => ?_) | refine mj_ifeq h.1 (tgt := 90) d_Wi_fault_85 (by decide) (fun h7 => ?_) (fun h7 => ?_)
              · refine mj_blk h.1 b_Wi_fault_90 rfl trivial ?_
                refine mj_callV h zGood (ev_Wi_at l D cA _ hn _ _) v_Wi_at l_Wi_fault_93 d_Wi_fault_93 rfl ⟨by decide, by decide⟩ ⟨by decide, by decide⟩ [(0, 0), (1, 1)] rfl rfl rfl rfl rfl rfl (Nat.le_of_ble_eq_true rfl) ?_
                rintro _ _ ⟨rfl, rfl⟩
                refine mj_k rfl rfl ?_
                refine mj_blk h.1 b_Wi_fault_96 rfl trivial ?_
                refine mj_iceq h.1 (tgt := 104) d_Wi_fault_98 (by decide) (fun h8 => ?_) (fun h8 => ?_)
                · refine mj_blk h.1 b_Wi_fault_104 rfl trivial ?_
                  refine mj_callV h zGood (ev_Wi_tcpWords l D cA _ hn _) v_Wi_tcpWords l_Wi_fault_105 d_Wi_fault_105 rfl ⟨by decide, by decide⟩ ⟨by decide, by decide⟩ [(0, 0), (1, 1)] rfl rfl rfl rfl rfl rfl (Nat.le_of_ble_eq_true rfl) ?_
                  rintro _ _ ⟨rfl, rfl⟩
                  refine mj_k rfl rfl ?_
                  refine mj_blk h.1 b_Wi_fault_108 rfl trivial ?_
                  refine mj_iclt h.1 (tgt := 132) d_Wi_fault_109 (by decide) (fun h9 => ?_) (fun h9 => ?_)
                  · refine mj_blk h.1 b_Wi_fault_132 rfl trivial ?_
                    exact mj_iret h rfl d_Wi_fault_134 (by decide) (by decide) ⟨by unfold wFault; rw [if_pos h1, if_neg h2, if_pos h3, if_neg h4, if_pos h5, if_neg (fun h9 => h6 h9.1), if_pos h7, if_pos h8, if_pos h9], rfl⟩
                  · refine mj_blk h.1 b_Wi_fault_112 rfl trivial ?_
                    refine mj_callV h zGood (ev_Wi_tcpWords l D cA _ hn _) v_Wi_tcpWords l_Wi_fault_113 d_Wi_fault_113 rfl ⟨by decide, by decide⟩ ⟨by decide, by decide⟩ [(0, 0), (1, 1)] rfl rfl rfl rfl rfl rfl (Nat.le_of_ble_eq_true rfl) ?_
                    rintro _ _ ⟨rfl, rfl⟩
                    refine mj_k rfl rfl ?_
                    refine mj_blk h.1 b_Wi_fault_116 rfl trivial ?_
                    refine mj_icgt h.1 (tgt := 132) d_Wi_fault_118 (by decide) (fun h10 => ?_) (fun h10 => ?_)
                    · refine mj_blk h.1 b_Wi_fault_132 rfl trivial ?_
                      exact mj_iret h rfl d_Wi_fault_134 (by decide) (by decide) ⟨by unfold wFault; rw [if_pos h1, if_neg h2, if_pos h3, if_neg h4, if_pos h5, if_neg (fun h9 => h6 h9.1), if_pos h7, if_pos h8, if_neg h9, if_pos h10], rfl⟩
                    · refine mj_blk h.1 b_Wi_fault_121 rfl trivial ?_
                      refine mj_callV h zGood (ev_Wi_dataStart l D cA _ hn _) v_Wi_dataStart l_Wi_fault_122 d_Wi_fault_122 rfl ⟨by decide, by decide⟩ ⟨by decide, by decide⟩ [(0, 0), (1, 1)] rfl rfl rfl rfl rfl rfl (Nat.le_of_ble_eq_true rfl) ?_
                      rintro _ _ ⟨rfl, rfl⟩
                      refine mj_k rfl rfl ?_
                      refine mj_blk h.1 b_Wi_fault_125 rfl trivial ?_
                      refine mj_callV h zGood (ev_Wi_length l D cA _ hn _) v_Wi_length l_Wi_fault_126 d_Wi_fault_126 rfl ⟨by decide, by decide⟩ ⟨by decide, by decide⟩ [(0, 0), (1, 1)] rfl rfl rfl rfl rfl rfl (Nat.le_of_ble_eq_true rfl) ?_
                      rintro _ _ ⟨rfl, rfl⟩
                      refine mj_k rfl rfl ?_
                      refine mj_icle h.1 (tgt := 135) d_Wi_fault_129 (by decide) (fun h11 => ?_) (fun h11 => ?_)
                      · refine mj_blk h.1 b_Wi_fault_135 rfl trivial ?_
                        first | refine mj_ifeqB h.1 (tgt := 151) d_Wi_fault_136 (by decide) (fun h12 => ?_) (fun h12 => ?_) | refine mj_ifeq h.1 (tgt := 151) d_Wi_fault_136 (by decide) (fun h12 => ?_) (fun h12 => ?_)
                        · refine mj_blk h.1 b_Wi_fault_151 rfl trivial ?_
                          exact mj_iret h rfl d_Wi_fault_152 (by decide) (by decide) ⟨by unfold wFault; rw [if_pos h1, if_neg h2, if_pos h3, if_neg h4, if_pos h5, if_neg (fun h9 => h6 h9.1), if_pos h7, if_pos h8, if_neg h9, if_neg h10, if_pos h11, if_neg (fun h9 => h12 h9.1)], rfl⟩
                        · refine mj_blk h.1 b_Wi_fault_139 rfl trivial ?_
                          refine mj_callV h zGood (ev_Wi_tcpSum l D cA n hn f _ (wLenA hn (wIp_le n f) h4 h5).1 (by have := wLenA hn (wIp_le n f) h4 h5; omega) (by have := wLenA hn (wIp_le n f) h4 h5; omega)) v_Wi_tcpSum l_Wi_fault_140 d_Wi_fault_140 rfl ⟨by decide, by decide⟩ ⟨by decide, by decide⟩ [(0, 0), (1, 1)] rfl rfl rfl rfl rfl rfl (Nat.le_of_ble_eq_true rfl) ?_
                          rintro _ _ ⟨rfl, rfl⟩
                          refine mj_k rfl rfl ?_
                          refine mj_blk h.1 b_Wi_fault_143 rfl trivial ?_
                          refine mj_iceq h.1 (tgt := 151) d_Wi_fault_145 (by decide) (fun h13 => ?_) (fun h13 => ?_)
                          · refine mj_blk h.1 b_Wi_fault_151 rfl trivial ?_
                            exact mj_iret h rfl d_Wi_fault_152 (by decide) (by decide) (absurd h12 h6)
                          · refine mj_blk h.1 b_Wi_fault_148 rfl trivial ?_
                            exact mj_iret h rfl d_Wi_fault_150 (by decide) (by decide) (absurd h12 h6)
                      · refine mj_blk h.1 b_Wi_fault_132 rfl trivial ?_
                        exact mj_iret h rfl d_Wi_fault_134 (by decide) (by decide) ⟨by unfold wFault; rw [if_pos h1, if_neg h2, if_pos h3, if_neg h4, if_pos h5, if_neg (fun h9 => h6 h9.1), if_pos h7, if_pos h8, if_neg h9, if_neg h10, if_neg h11], rfl⟩
                · refine mj_blk h.1 b_Wi_fault_101 rfl trivial ?_
                  exact mj_iret h rfl d_Wi_fault_103 (by decide) (by decide) ⟨by unfold wFault; rw [if_pos h1, if_neg h2, if_pos h3, if_neg h4, if_pos h5, if_neg (fun h9 => h6 h9.1), if_pos h7, if_neg h8], rfl⟩
              · refine mj_blk h.1 b_Wi_fault_88 rfl trivial ?_
                exact mj_iret h rfl d_Wi_fault_89 (by decide) (by decide) ⟨by unfold wFault; rw [if_pos h1, if_neg h2, if_pos h3, if_neg h4, if_pos h5, if_neg (fun h9 => h6 h9.1), if_neg h7], rfl⟩
            · refine mj_blk h.1 b_Wi_fault_64 rfl trivial ?_
              refine mj_callV h zGood (ev_Wi_ipSum l D cA n hn _) v_Wi_ipSum l_Wi_fault_65 d_Wi_fault_65 rfl ⟨by decide, by decide⟩ ⟨by decide, by decide⟩ [(0, 0), (1, 1)] rfl rfl rfl rfl rfl rfl (Nat.le_of_ble_eq_true rfl) ?_
              rintro _ _ ⟨rfl, rfl⟩
              refine mj_k rfl rfl ?_
              refine mj_blk h.1 b_Wi_fault_68 rfl trivial ?_
              refine mj_iceq h.1 (tgt := 75) d_Wi_fault_70 (by decide) (fun h14 => ?_) (fun h14 => ?_)
              · refine mj_blk h.1 b_Wi_fault_75 rfl trivial ?_
                refine mj_callV h zGood (ev_Wi_pairAt l D cA _ hn _ _) v_Wi_pairAt l_Wi_fault_78 d_Wi_fault_78 rfl ⟨by decide, by decide⟩ ⟨by decide, by decide⟩ [(0, 0), (1, 1)] rfl rfl rfl rfl rfl rfl (Nat.le_of_ble_eq_true rfl) ?_
                rintro _ _ ⟨rfl, rfl⟩
                refine mj_k rfl rfl ?_
                refine mj_blk h.1 b_Wi_fault_81 rfl trivial ?_
                first | refine mj_ifeqB h.1 (tgt := 90) d_Wi_fault_85 (by decide) (fun h15 => ?_) (fun h15 => ?_) | refine mj_ifeq h.1 (tgt := 90) d_Wi_fault_85 (by decide) (fun h15 => ?_) (fun h15 => ?_)
                · refine mj_blk h.1 b_Wi_fault_90 rfl trivial ?_
                  refine mj_callV h zGood (ev_Wi_at l D cA _ hn _ _) v_Wi_at l_Wi_fault_93 d_Wi_fault_93 rfl ⟨by decide, by decide⟩ ⟨by decide, by decide⟩ [(0, 0), (1, 1)] rfl rfl rfl rfl rfl rfl (Nat.le_of_ble_eq_true rfl) ?_
                  rintro _ _ ⟨rfl, rfl⟩
                  refine mj_k rfl rfl ?_
                  refine mj_blk h.1 b_Wi_fault_96 rfl trivial ?_
                  refine mj_iceq h.1 (tgt := 104) d_Wi_fault_98 (by decide) (fun h16 => ?_) (fun h16 => ?_)
                  · refine mj_blk h.1 b_Wi_fault_104 rfl trivial ?_
                    refine mj_callV h zGood (ev_Wi_tcpWords l D cA _ hn _) v_Wi_tcpWords l_Wi_fault_105 d_Wi_fault_105 rfl ⟨by decide, by decide⟩ ⟨by decide, by decide⟩ [(0, 0), (1, 1)] rfl rfl rfl rfl rfl rfl (Nat.le_of_ble_eq_true rfl) ?_
                    rintro _ _ ⟨rfl, rfl⟩
                    refine mj_k rfl rfl ?_
                    refine mj_blk h.1 b_Wi_fault_108 rfl trivial ?_
                    refine mj_iclt h.1 (tgt := 132) d_Wi_fault_109 (by decide) (fun h17 => ?_) (fun h17 => ?_)
                    · refine mj_blk h.1 b_Wi_fault_132 rfl trivial ?_
                      exact mj_iret h rfl d_Wi_fault_134 (by decide) (by decide) ⟨by unfold wFault; rw [if_pos h1, if_neg h2, if_pos h3, if_neg h4, if_pos h5, if_neg (fun h9 => h9.2 h14), if_pos h15, if_pos h16, if_pos h17], rfl⟩
                    · refine mj_blk h.1 b_Wi_fault_112 rfl trivial ?_
                      refine mj_callV h zGood (ev_Wi_tcpWords l D cA _ hn _) v_Wi_tcpWords l_Wi_fault_113 d_Wi_fault_113 rfl ⟨by decide, by decide⟩ ⟨by decide, by decide⟩ [(0, 0), (1, 1)] rfl rfl rfl rfl rfl rfl (Nat.le_of_ble_eq_true rfl) ?_
                      rintro _ _ ⟨rfl, rfl⟩
                      refine mj_k rfl rfl ?_
                      refine mj_blk h.1 b_Wi_fault_116 rfl trivial ?_
                      refine mj_icgt h.1 (tgt := 132) d_Wi_fault_118 (by decide) (fun h18 => ?_) (fun h18 => ?_)
                      · refine mj_blk h.1 b_Wi_fault_132 rfl trivial ?_
                        exact mj_iret h rfl d_Wi_fault_134 (by decide) (by decide) ⟨by unfold wFault; rw [if_pos h1, if_neg h2, if_pos h3, if_neg h4, if_pos h5, if_neg (fun h9 => h9.2 h14), if_pos h15, if_pos h16, if_neg h17, if_pos h18], rfl⟩
                      · refine mj_blk h.1 b_Wi_fault_121 rfl trivial ?_
                        refine mj_callV h zGood (ev_Wi_dataStart l D cA _ hn _) v_Wi_dataStart l_Wi_fault_122 d_Wi_fault_122 rfl ⟨by decide, by decide⟩ ⟨by decide, by decide⟩ [(0, 0), (1, 1)] rfl rfl rfl rfl rfl rfl (Nat.le_of_ble_eq_true rfl) ?_
                        rintro _ _ ⟨rfl, rfl⟩
                        refine mj_k rfl rfl ?_
                        refine mj_blk h.1 b_Wi_fault_125 rfl trivial ?_
                        refine mj_callV h zGood (ev_Wi_length l D cA _ hn _) v_Wi_length l_Wi_fault_126 d_Wi_fault_126 rfl ⟨by decide, by decide⟩ ⟨by decide, by decide⟩ [(0, 0), (1, 1)] rfl rfl rfl rfl rfl rfl (Nat.le_of_ble_eq_true rfl) ?_
                        rintro _ _ ⟨rfl, rfl⟩
                        refine mj_k rfl rfl ?_
                        refine mj_icle h.1 (tgt := 135) d_Wi_fault_129 (by decide) (fun h19 => ?_) (fun h19 => ?_)
                        · refine mj_blk h.1 b_Wi_fault_135 rfl trivial ?_
                          first | refine mj_ifeqB h.1 (tgt := 151) d_Wi_fault_136 (by decide) (fun h20 => ?_) (fun h20 => ?_) | refine mj_ifeq h.1 (tgt := 151) d_Wi_fault_136 (by decide) (fun h20 => ?_) (fun h20 => ?_)
                          · refine mj_blk h.1 b_Wi_fault_151 rfl trivial ?_
                            exact mj_iret h rfl d_Wi_fault_152 (by decide) (by decide) (absurd h6 h20)
                          · refine mj_blk h.1 b_Wi_fault_139 rfl trivial ?_
                            refine mj_callV h zGood (ev_Wi_tcpSum l D cA n hn f _ (wLenA hn (wIp_le n f) h4 h5).1 (by have := wLenA hn (wIp_le n f) h4 h5; omega) (by have := wLenA hn (wIp_le n f) h4 h5; omega)) v_Wi_tcpSum l_Wi_fault_140 d_Wi_fault_140 rfl ⟨by decide, by decide⟩ ⟨by decide, by decide⟩ [(0, 0), (1, 1)] rfl rfl rfl rfl rfl rfl (Nat.le_of_ble_eq_true rfl) ?_
                            rintro _ _ ⟨rfl, rfl⟩
                            refine mj_k rfl rfl ?_
                            refine mj_blk h.1 b_Wi_fault_143 rfl trivial ?_
                            refine mj_iceq h.1 (tgt := 151) d_Wi_fault_145 (by decide) (fun h21 => ?_) (fun h21 => ?_)
                            · refine mj_blk h.1 b_Wi_fault_151 rfl trivial ?_
                              exact mj_iret h rfl d_Wi_fault_152 (by decide) (by decide) ⟨by unfold wFault; rw [if_pos h1, if_neg h2, if_pos h3, if_neg h4, if_pos h5, if_neg (fun h9 => h9.2 h14), if_pos h15, if_pos h16, if_neg h17, if_neg h18, if_pos h19, if_neg (fun h9 => h9.2 h21)], rfl⟩
                            · refine mj_blk h.1 b_Wi_fault_148 rfl trivial ?_
                              exact mj_iret h rfl d_Wi_fault_150 (by decide) (by decide) ⟨by unfold wFault; rw [if_pos h1, if_neg h2, if_pos h3, if_neg h4, if_pos h5, if_neg (fun h9 => h9.2 h14), if_pos h15, if_pos h16, if_neg h17, if_neg h18, if_pos h19, if_pos ⟨h20, h21⟩], rfl⟩
                        · refine mj_blk h.1 b_Wi_fault_132 rfl trivial ?_
                          exact mj_iret h rfl d_Wi_fault_134 (by decide) (by decide) ⟨by unfold wFault; rw [if_pos h1, if_neg h2, if_pos h3, if_neg h4, if_pos h5, if_neg (fun h9 => h9.2 h14), if_pos h15, if_pos h16, if_neg h17, if_neg h18, if_neg h19], rfl⟩
                  · refine mj_blk h.1 b_Wi_fault_101 rfl trivial ?_
                    exact mj_iret h rfl d_Wi_fault_103 (by decide) (by decide) ⟨by unfold wFault; rw [if_pos h1, if_neg h2, if_pos h3, if_neg h4, if_pos h5, if_neg (fun h9 => h9.2 h14), if_pos h15, if_neg h16], rfl⟩
                · refine mj_blk h.1 b_Wi_fault_88 rfl trivial ?_
                  exact mj_iret h rfl d_Wi_fault_89 (by decide) (by decide) ⟨by unfold wFault; rw [if_pos h1, if_neg h2, if_pos h3, if_neg h4, if_pos h5, if_neg (fun h9 => h9.2 h14), if_neg h15], rfl⟩
              · refine mj_blk h.1 b_Wi_fault_73 rfl trivial ?_
                exact mj_iret h rfl d_Wi_fault_74 (by decide) (by decide) ⟨by unfold wFault; rw [if_pos h1, if_neg h2, if_pos h3, if_neg h4, if_pos h5, if_pos ⟨h6, h14⟩], rfl⟩
          · refine mj_blk h.1 b_Wi_fault_58 rfl trivial ?_
            exact mj_iret h rfl d_Wi_fault_59 (by decide) (by decide) ⟨by unfold wFault; rw [if_pos h1, if_neg h2, if_pos h3, if_neg h4, if_neg h5], rfl⟩
      · refine mj_blk h.1 b_Wi_fault_31 rfl trivial ?_
        exact mj_iret h rfl d_Wi_fault_32 (by decide) (by decide) ⟨by unfold wFault; rw [if_pos h1, if_neg h2, if_neg h3], rfl⟩
  · refine mj_blk h.1 b_Wi_fault_9 rfl trivial ?_
    exact mj_iret h rfl d_Wi_fault_10 (by decide) (by decide) ⟨by unfold wFault; rw [if_neg h1], rfl⟩
end WIRE
end
section
/-! Stream (by program: wip/whole/src_small.py) -/
abbrev wSm (tx hd : Nat → Int32) (ts : Nat) (hs nx rr : Int32) (bg en : Bool) : mj_M := [(0, .inr (8, [.ref 1, .ref 2, .int (nI ts), .int hs, .int nx, .int rr, .int (if bg then 1 else 0), .int (if en then 1 else 0)])), (1, .inl (0, 80, .inl tx)), (2, .inl (0, 32, .inl hd))]
def sFill : Nat → Nat → (Nat → Int32) → (Nat → Int32)
  | 0, _, f => f
  | r + 1, i, f => sFill r (i + 1) (upd f i (-1))
abbrev sPl (x : Int32) : Nat := (x &&& 31).toNatClampNeg
def sHd (hd : Nat → Int32) (nx num v : Int32) (lst : Bool) : Nat → Int32 := if num - nx < 0 then hd else if num - nx < 32 then (if hd (sPl num) = -1 then upd hd (sPl num) v else if lst then upd hd (sPl num) v else hd) else hd
def sHs (hd : Nat → Int32) (nx num hs : Int32) : Int32 := if num - nx < 0 then hs else if num - nx < 32 then (if hd (sPl num) = -1 then hs + 1 else hs) else hs
theorem sPl_in (x : Int32) : vp_in (x &&& 31) 32 := pk_andIn x 5 (m := 31) (by decide) (by decide)
section STREAM
variable (l : Launch) (D : va_G) (cA : Nat → ClassId)
variable (tx hd : Nat → Int32) (ts : Nat) (hs nx rr : Int32) (bg en : Bool)

set_option maxRecDepth 100000 in
set_option maxHeartbeats 4000000 in
theorem ev_Sm_size : E0_Sm_size l D cA [.ref 0] (wSm tx hd ts hs nx rr bg en) (some (.int (nI ts))) (wSm tx hd ts hs nx rr bg en) := by
  refine mj_ev (lv := [(0, .ref 0)]) (by decide +kernel) (Nat.le_of_ble_eq_true rfl) rfl (fun X h => ?_)
  refine mj_blk h.1 b_Sm_size_0 rfl trivial ?_
  exact mj_iret h rfl d_Sm_size_4 (by decide) (by decide) ⟨rfl, rfl⟩
set_option maxRecDepth 100000 in
set_option maxHeartbeats 4000000 in
theorem ev_Sm_next : E0_Sm_next l D cA [.ref 0] (wSm tx hd ts hs nx rr bg en) (some (.int (nx))) (wSm tx hd ts hs nx rr bg en) := by
  refine mj_ev (lv := [(0, .ref 0)]) (by decide +kernel) (Nat.le_of_ble_eq_true rfl) rfl (fun X h => ?_)
  refine mj_blk h.1 b_Sm_next_0 rfl trivial ?_
  exact mj_iret h rfl d_Sm_next_4 (by decide) (by decide) ⟨rfl, rfl⟩
set_option maxRecDepth 100000 in
set_option maxHeartbeats 4000000 in
theorem ev_Sm_heldCount : E0_Sm_heldCount l D cA [.ref 0] (wSm tx hd ts hs nx rr bg en) (some (.int (hs))) (wSm tx hd ts hs nx rr bg en) := by
  refine mj_ev (lv := [(0, .ref 0)]) (by decide +kernel) (Nat.le_of_ble_eq_true rfl) rfl (fun X h => ?_)
  refine mj_blk h.1 b_Sm_heldCount_0 rfl trivial ?_
  exact mj_iret h rfl d_Sm_heldCount_4 (by decide) (by decide) ⟨rfl, rfl⟩
set_option maxRecDepth 100000 in
set_option maxHeartbeats 4000000 in
theorem ev_Sm_hasEnded : E0_Sm_hasEnded l D cA [.ref 0] (wSm tx hd ts hs nx rr bg en) (some (.int (if en then 1 else 0))) (wSm tx hd ts hs nx rr bg en) := by
  refine mj_ev (lv := [(0, .ref 0)]) (by decide +kernel) (Nat.le_of_ble_eq_true rfl) rfl (fun X h => ?_)
  refine mj_blk h.1 b_Sm_hasEnded_0 rfl trivial ?_
  exact mj_zret h rfl (mj_z01) d_Sm_hasEnded_4 (by decide) (by decide) ⟨rfl, rfl⟩
set_option maxRecDepth 100000 in
set_option maxHeartbeats 4000000 in
theorem ev_Sm_end : E0_Sm_end l D cA [.ref 0] (wSm tx hd ts hs nx rr bg en) none (wSm tx hd ts hs nx rr bg true) := by
  refine mj_ev (lv := [(0, .ref 0)]) (by decide +kernel) (Nat.le_of_ble_eq_true rfl) rfl (fun X h => ?_)
  refine mj_blk h.1 b_Sm_end_0 rfl ⟨Or.inr rfl, trivial⟩ ?_
  exact mj_vret h rfl d_Sm_end_5 (by decide) (by decide) ⟨rfl, rfl⟩
set_option maxRecDepth 100000 in
set_option maxHeartbeats 4000000 in
theorem ev_Sm_placeOf (x : Int32) : E0_Sm_placeOf l D cA [.int x] [] (some (.int (x &&& 31))) [] := by
  refine mj_ev (lv := [(0, .int x)]) (by decide +kernel) (Nat.le_of_ble_eq_true rfl) rfl (fun X h => ?_)
  refine mj_blk h.1 b_Sm_placeOf_0 rfl trivial ?_
  exact mj_iret h rfl d_Sm_placeOf_4 (by decide) (by decide) ⟨rfl, rfl⟩
set_option maxRecDepth 100000 in
set_option maxHeartbeats 4000000 in
theorem ev_Sm_begin (x : Int32) : E0_Sm_begin l D cA [.ref 0, .int x] (wSm tx hd ts hs nx rr bg en) none (wSm tx hd ts hs (if bg then nx else x) rr true en) := by
  refine mj_ev (lv := [(0, .ref 0), (1, .int x)]) (by decide +kernel) (Nat.le_of_ble_eq_true rfl) rfl (fun X h => ?_)
  refine mj_blk h.1 b_Sm_begin_0 rfl trivial ?_
  first | refine mj_ifneB h.1 (tgt := 17) d_Sm_begin_4 (by decide) (fun h1 => ?_) (fun h1 => ?_) | refine mj_ifne h.1 (tgt := 17) d_Sm_begin_4 (by decide) (fun h1 => ?_) (fun h1 => ?_)
  · exact mj_vret h rfl d_Sm_begin_17 (by decide) (by decide) ⟨rfl, by cases bg <;> first | rfl | exact absurd rfl h1 | cases h1⟩
  · refine mj_blk h.1 b_Sm_begin_7 rfl ⟨Or.inr rfl, trivial⟩ ?_
    exact mj_vret h rfl d_Sm_begin_17 (by decide) (by decide) ⟨rfl, by cases bg <;> first | rfl | exact absurd rfl h1 | cases h1⟩
set_option maxRecDepth 100000 in
set_option maxHeartbeats 4000000 in
theorem ev_Sm_setRaised (r : Int32) : E0_Sm_setRaised l D cA [.ref 0, .int r] (wSm tx hd ts hs nx rr bg en) none (wSm tx hd ts hs nx (rr ||| (1 <<< (r &&& 31))) bg en) := by
  refine mj_ev (lv := [(0, .ref 0), (1, .int r)]) (by decide +kernel) (Nat.le_of_ble_eq_true rfl) rfl (fun X h => ?_)
  refine mj_blk h.1 b_Sm_setRaised_0 rfl trivial ?_
  exact mj_vret h rfl d_Sm_setRaised_12 (by decide) (by decide) ⟨rfl, rfl⟩
set_option maxRecDepth 100000 in
set_option maxHeartbeats 4000000 in
theorem ev_Sm_hasRaised (r : Int32) : E0_Sm_hasRaised l D cA [.ref 0, .int r] (wSm tx hd ts hs nx rr bg en) (some (.int (if ¬ rr &&& (1 <<< (r &&& 31)) = 0 then 1 else 0))) (wSm tx hd ts hs nx rr bg en) := by
  refine mj_ev (lv := [(0, .ref 0), (1, .int r)]) (by decide +kernel) (Nat.le_of_ble_eq_true rfl) rfl (fun X h => ?_)
  refine mj_blk h.1 b_Sm_hasRaised_0 rfl trivial ?_
  first | refine mj_ifeqB h.1 (tgt := 15) d_Sm_hasRaised_8 (by decide) (fun h1 => ?_) (fun h1 => ?_) | refine mj_ifeq h.1 (tgt := 15) d_Sm_hasRaised_8 (by decide) (fun h1 => ?_) (fun h1 => ?_)
  · refine mj_blk h.1 b_Sm_hasRaised_15 rfl trivial ?_
    exact mj_zret h rfl (by first | exact Or.inl rfl | exact Or.inr rfl) d_Sm_hasRaised_16 (by decide) (by decide) ⟨by first | (rw [if_pos h1]; done) | (rw [if_neg (fun h9 => h9 h1)]; done), rfl⟩
  · refine mj_blk h.1 b_Sm_hasRaised_11 rfl trivial ?_
    exact mj_zret h rfl (by first | exact Or.inl rfl | exact Or.inr rfl) d_Sm_hasRaised_16 (by decide) (by decide) ⟨by first | (rw [if_pos h1]; done) | (rw [if_neg (fun h9 => h9 h1)]; done), rfl⟩
set_option maxRecDepth 100000 in
set_option maxHeartbeats 4000000 in
theorem ev_Sm_byteAt (ht : ts ≤ 80) (k : Int32) : E0_Sm_byteAt l D cA [.ref 0, .int k] (wSm tx hd ts hs nx rr bg en) (some (.int (if 0 ≤ k ∧ k < nI ts then tx k.toNatClampNeg else -1))) (wSm tx hd ts hs nx rr bg en) := by
  refine mj_ev (lv := [(0, .ref 0), (1, .int k)]) (by decide +kernel) (Nat.le_of_ble_eq_true rfl) rfl (fun X h => ?_)
  refine mj_blk h.1 b_Sm_byteAt_0 rfl trivial ?_
  refine mj_iflt h.1 (tgt := 21) d_Sm_byteAt_1 (by decide) (fun h1 => ?_) (fun h1 => ?_)
  · refine mj_blk h.1 b_Sm_byteAt_21 rfl trivial ?_
    exact mj_iret h rfl d_Sm_byteAt_22 (by decide) (by decide) ⟨by first | (rw [if_neg (fun h9 => Int32.not_le.mpr h1 h9.1)]; done), rfl⟩
  · refine mj_blk h.1 b_Sm_byteAt_4 rfl trivial ?_
    refine mj_icge h.1 (tgt := 21) d_Sm_byteAt_9 (by decide) (fun h2 => ?_) (fun h2 => ?_)
    · refine mj_blk h.1 b_Sm_byteAt_21 rfl trivial ?_
      exact mj_iret h rfl d_Sm_byteAt_22 (by decide) (by decide) ⟨by first | (rw [if_neg (fun h9 => Int32.not_le.mpr h1 h9.1)]; done) | (rw [if_neg (fun h9 => Int32.not_lt.mpr h2 h9.2)]; done) | (rw [if_pos ⟨Int32.not_lt.mp h1, Int32.not_le.mp h2⟩]; done), rfl⟩
    · refine mj_blk h.1 b_Sm_byteAt_12 rfl ⟨vp_in_of2 ⟨Int32.not_lt.mp h1, Int32.not_le.mp h2⟩ ht (by decide), trivial⟩ ?_
      exact mj_iret h rfl d_Sm_byteAt_22 (by decide) (by decide) ⟨by first | (rw [if_neg (fun h9 => Int32.not_le.mpr h1 h9.1)]; done) | (rw [if_neg (fun h9 => Int32.not_lt.mpr h2 h9.2)]; done) | (rw [if_pos ⟨Int32.not_lt.mp h1, Int32.not_le.mp h2⟩]; done), rfl⟩
set_option maxRecDepth 100000 in
set_option maxHeartbeats 4000000 in
theorem ev_Sm_isNextHeld : E0_Sm_isNextHeld l D cA [.ref 0] (wSm tx hd ts hs nx rr bg en) (some (.int (if ¬ hd (sPl nx) = -1 then 1 else 0))) (wSm tx hd ts hs nx rr bg en) := by
  refine mj_ev (lv := [(0, .ref 0)]) (by decide +kernel) (Nat.le_of_ble_eq_true rfl) rfl (fun X h => ?_)
  refine mj_blk h.1 b_Sm_isNextHeld_0 rfl trivial ?_
  refine mj_callS h zGood (ev_Sm_placeOf l D cA _) v_Sm_placeOf rfl l_Sm_isNextHeld_8 d_Sm_isNextHeld_8 rfl ⟨by decide, by decide⟩ ⟨by decide, by decide⟩ [] rfl rfl rfl rfl (Nat.le_of_ble_eq_true rfl) ?_
  rintro _ _ ⟨rfl, rfl⟩
  refine mj_k rfl rfl ?_
  refine mj_blk h.1 b_Sm_isNextHeld_11 rfl ⟨sPl_in _, trivial⟩ ?_
  refine mj_iceq h.1 (tgt := 20) d_Sm_isNextHeld_13 (by decide) (fun h1 => ?_) (fun h1 => ?_)
  · refine mj_blk h.1 b_Sm_isNextHeld_20 rfl trivial ?_
    exact mj_zret h rfl (by first | exact Or.inl rfl | exact Or.inr rfl) d_Sm_isNextHeld_21 (by decide) (by decide) ⟨by first | (rw [if_pos h1]; done) | (rw [if_neg (fun h9 => h9 h1)]; done), rfl⟩
  · refine mj_blk h.1 b_Sm_isNextHeld_16 rfl trivial ?_
    exact mj_zret h rfl (by first | exact Or.inl rfl | exact Or.inr rfl) d_Sm_isNextHeld_21 (by decide) (by decide) ⟨by first | (rw [if_pos h1]; done) | (rw [if_neg (fun h9 => h9 h1)]; done), rfl⟩
set_option maxRecDepth 100000 in
set_option maxHeartbeats 4000000 in
theorem ev_Sm_hold (num v : Int32) (lst : Bool) : E0_Sm_hold l D cA [.ref 0, .int num, .int v, .int (if lst then 1 else 0)] (wSm tx hd ts hs nx rr bg en) none (wSm tx (sHd hd nx num v lst) ts (sHs hd nx num hs) nx rr bg en) := by
  refine mj_ev (lv := [(0, .ref 0), (1, .int num), (2, .int v), (3, .int (if lst then 1 else 0))]) (by decide +kernel) (Nat.le_of_ble_eq_true rfl) rfl (fun X h => ?_)
  refine mj_blk h.1 b_Sm_hold_0 rfl trivial ?_
  refine mj_iflt h.1 (tgt := 20) d_Sm_hold_10 (by decide) (fun h1 => ?_) (fun h1 => ?_)
  · exact mj_vret h rfl d_Sm_hold_20 (by decide) (by decide) ⟨rfl, by unfold sHd sHs; rw [if_pos h1]; first | rfl | rw [if_pos h1]⟩
  · refine mj_blk h.1 b_Sm_hold_13 rfl trivial ?_
    refine mj_iclt h.1 (tgt := 21) d_Sm_hold_17 (by decide) (fun h2 => ?_) (fun h2 => ?_)
    · refine mj_blk h.1 b_Sm_hold_21 rfl trivial ?_
      refine mj_callS h zGood (ev_Sm_placeOf l D cA _) v_Sm_placeOf rfl l_Sm_hold_22 d_Sm_hold_22 rfl ⟨by decide, by decide⟩ ⟨by decide, by decide⟩ [] rfl rfl rfl rfl (Nat.le_of_ble_eq_true rfl) ?_
      rintro _ _ ⟨rfl, rfl⟩
      refine mj_k rfl rfl ?_
      refine mj_blk h.1 b_Sm_hold_25 rfl ⟨sPl_in _, trivial⟩ ?_
      refine mj_icne h.1 (tgt := 59) d_Sm_hold_35 (by decide) (fun h3 => ?_) (fun h3 => ?_)
      · refine mj_blk h.1 b_Sm_hold_59 rfl trivial ?_
        first | refine mj_ifeqB h.1 (tgt := 71) d_Sm_hold_60 (by decide) (fun h4 => ?_) (fun h4 => ?_) | refine mj_ifeq h.1 (tgt := 71) d_Sm_hold_60 (by decide) (fun h4 => ?_) (fun h4 => ?_)
        · exact mj_vret h rfl d_Sm_hold_71 (by decide) (by decide) ⟨rfl, by unfold sHd sHs; rw [if_neg h1, if_pos h2, if_neg h3, if_neg h4]; first | rfl | rw [if_neg h1, if_pos h2, if_neg h3]⟩
        · refine mj_blk h.1 b_Sm_hold_63 rfl ⟨sPl_in _, trivial⟩ ?_
          exact mj_vret h rfl d_Sm_hold_71 (by decide) (by decide) ⟨rfl, by unfold sHd sHs; rw [if_neg h1, if_pos h2, if_neg h3, if_pos h4]; first | rfl | rw [if_neg h1, if_pos h2, if_neg h3]⟩
      · refine mj_blk h.1 b_Sm_hold_38 rfl ⟨sPl_in _, trivial⟩ ?_
        exact mj_vret h rfl d_Sm_hold_71 (by decide) (by decide) ⟨rfl, by unfold sHd sHs; rw [if_neg h1, if_pos h2, if_pos h3]; first | rfl | rw [if_neg h1, if_pos h2, if_pos h3]⟩
    · exact mj_vret h rfl d_Sm_hold_20 (by decide) (by decide) ⟨rfl, by unfold sHd sHs; rw [if_neg h1, if_neg h2]; first | rfl | rw [if_neg h1, if_neg h2]⟩
set_option maxRecDepth 100000 in
set_option maxHeartbeats 4000000 in
theorem ev_Sm_takeNext (ht : ts ≤ 80) : E0_Sm_takeNext l D cA [.ref 0] (wSm tx hd ts hs nx rr bg en) (some (.int (if ¬ 80 ≤ nI ts then 1 else 0))) (wSm (if 80 ≤ nI ts then tx else upd tx ts (hd (sPl nx))) (upd hd (sPl nx) (-1)) (if 80 ≤ nI ts then ts else ts + 1) (hs - 1) (nx + 1) rr bg en) := by
  refine mj_ev (lv := [(0, .ref 0)]) (by decide +kernel) (Nat.le_of_ble_eq_true rfl) rfl (fun X h => ?_)
  refine mj_blk h.1 b_Sm_takeNext_0 rfl trivial ?_
  refine mj_callS h zGood (ev_Sm_placeOf l D cA _) v_Sm_placeOf rfl l_Sm_takeNext_4 d_Sm_takeNext_4 rfl ⟨by decide, by decide⟩ ⟨by decide, by decide⟩ [] rfl rfl rfl rfl (Nat.le_of_ble_eq_true rfl) ?_
  rintro _ _ ⟨rfl, rfl⟩
  refine mj_k rfl rfl ?_
  refine mj_blk h.1 b_Sm_takeNext_7 rfl trivial ?_
  refine mj_icge h.1 (tgt := 21) d_Sm_takeNext_14 (by decide) (fun h1 => ?_) (fun h1 => ?_)
  · refine mj_blk h.1 b_Sm_takeNext_21 rfl trivial ?_
    refine mj_blk h.1 b_Sm_takeNext_22 rfl trivial ?_
    refine mj_ifeq0 h.1 (tgt := 52) d_Sm_takeNext_24 (by decide) ?_
    refine mj_blk h.1 b_Sm_takeNext_52 rfl ⟨sPl_in _, trivial⟩ ?_
    exact mj_zret h rfl (by first | exact Or.inl rfl | exact Or.inr rfl) d_Sm_takeNext_80 (by decide) (by decide) ⟨by rw [if_neg (fun h9 => h9 h1)], by rw [if_pos h1, if_pos h1]⟩
  · refine mj_blk h.1 b_Sm_takeNext_17 rfl trivial ?_
    refine mj_blk h.1 b_Sm_takeNext_22 rfl trivial ?_
    refine mj_ifeq1 h.1 (tgt := 52) d_Sm_takeNext_24 (by decide) ?_
    have hts : ts < 80 := (nI_ltI (by omega) (by decide)).mp (Int32.not_le.mp h1)
    refine mj_blk h.1 b_Sm_takeNext_27 rfl ⟨vp_in_nI hts (by decide), sPl_in _, trivial⟩ ?_
    refine mj_blk h.1 b_Sm_takeNext_52 rfl ⟨sPl_in _, trivial⟩ ?_
    exact mj_zret h rfl (by first | exact Or.inl rfl | exact Or.inr rfl) d_Sm_takeNext_80 (by decide) (by decide) ⟨by rw [if_pos h1], by rw [if_neg h1, if_neg h1, ← nI_succ, nI_clamp (by omega)]⟩
set_option maxRecDepth 100000 in
set_option maxHeartbeats 4000000 in
theorem lp_Sm_emptyWindow {X : mj_X} {post : mj_R} (h : mj_E zG X l D cA m_Sm_emptyWindow 0 0 0 0 (fun _ => True) post) : ∀ (r i : Nat) (hd : Nat → Int32), i + r = 32 → post none (wSm tx (sFill r i hd) ts 0 nx rr bg en) → mj_W zG X 0 0 2 [(1, .int (nI i)), (0, .ref 0)] [] (wSm tx hd ts hs nx rr bg en) := by
  intro r
  induction r with
  | zero =>
    intro i hd hi hp
    refine mj_blk h.1 b_Sm_emptyWindow_2 rfl trivial ?_
    refine mj_icge h.1 (tgt := 21) d_Sm_emptyWindow_5 (by decide) (fun h1 => ?_) (fun h1 => ?_)
    · refine mj_blk h.1 b_Sm_emptyWindow_21 rfl trivial ?_
      exact mj_vret h rfl d_Sm_emptyWindow_26 (by decide) (by decide) hp
    · exact absurd (show nI 32 ≤ nI i from nI_le (by omega) (by omega)) h1
  | succ r ih =>
    intro i hd hi hp
    refine mj_blk h.1 b_Sm_emptyWindow_2 rfl trivial ?_
    refine mj_icge h.1 (tgt := 21) d_Sm_emptyWindow_5 (by decide) (fun h1 => ?_) (fun h1 => ?_)
    · exact absurd ((nI_leI (a := 32) (by omega) (by omega)).mp h1) (by omega)
    · refine mj_blk h.1 b_Sm_emptyWindow_8 rfl ⟨vp_in_nI (by omega) (by decide), trivial⟩ ?_
      rw [nI_clamp (by omega), show nI i + 1 = nI (i + 1) from (nI_succ i).symm]
      exact ih (i + 1) _ (by omega) hp
set_option maxRecDepth 100000 in
set_option maxHeartbeats 4000000 in
theorem ev_Sm_emptyWindow : E0_Sm_emptyWindow l D cA [.ref 0] (wSm tx hd ts hs nx rr bg en) none (wSm tx (sFill 32 0 hd) ts 0 nx rr bg en) := by
  refine mj_ev (lv := [(0, .ref 0)]) (by decide +kernel) (Nat.le_of_ble_eq_true rfl) rfl (fun X h => ?_)
  refine mj_blk h.1 b_Sm_emptyWindow_0 rfl trivial ?_
  exact lp_Sm_emptyWindow l D cA tx ts hs nx rr bg en h 32 0 hd rfl ⟨rfl, rfl⟩
set_option maxRecDepth 100000 in
set_option maxHeartbeats 4000000 in
theorem ev_Sm_reset : E0_Sm_reset l D cA [.ref 0] (wSm tx hd ts hs nx rr bg en) none (wSm tx (sFill 32 0 hd) 0 0 0 0 false false) := by
  refine mj_ev (lv := [(0, .ref 0)]) (by decide +kernel) (Nat.le_of_ble_eq_true rfl) rfl (fun X h => ?_)
  refine mj_blk h.1 b_Sm_reset_0 rfl trivial ?_
  refine mj_callV h zGood (ev_Sm_emptyWindow l D cA _ _ _ _ _ _ _ _) v_Sm_emptyWindow l_Sm_reset_1 d_Sm_reset_1 rfl ⟨by decide, by decide⟩ ⟨by decide, by decide⟩ [(0, 0), (1, 1), (2, 2)] rfl rfl rfl rfl rfl rfl (Nat.le_of_ble_eq_true rfl) ?_
  rintro _ _ ⟨rfl, rfl⟩
  refine mj_k rfl rfl ?_
  refine mj_blk h.1 b_Sm_reset_4 rfl ⟨Or.inl rfl, Or.inl rfl, trivial⟩ ?_
  exact mj_vret h rfl d_Sm_reset_29 (by decide) (by decide) ⟨rfl, rfl⟩
end STREAM
end
section
/-! AlertLog -/
abbrev wAl (rows : Nat → Int32) (tot nw : Int32) : mj_M := [(0, .inr (0, [.ref 1, .int tot, .int nw])), (1, .inl (0, 96, .inl rows))]
def aAdd (rows : Nat → Int32) (b : Nat) (r cp way sz : Int32) : Nat → Int32 := upd (upd (upd (upd rows (4 * b) r) (4 * b + 1) cp) (4 * b + 2) way) (4 * b + 3) sz
def aRead (rows : Nat → Int32) (tot nw k w : Int32) : Int32 := if 0 ≤ k ∧ k < (if 24 < tot then 24 else tot) then (if 0 ≤ w ∧ w < 4 then rows ((if nw < k then nw - k + 24 else nw - k) * 4 + w).toNatClampNeg else -1) else -1
section ALOG
variable (l : Launch) (D : va_G) (cA : Nat → ClassId) (rows : Nat → Int32) (tot nw : Int32)

set_option maxRecDepth 100000 in
set_option maxHeartbeats 4000000 in
theorem ev_Al_total : E0_Al_total l D cA [.ref 0] (wAl rows tot nw) (some (.int tot)) (wAl rows tot nw) := by
  refine mj_ev (lv := [(0, .ref 0)]) (by decide +kernel) (Nat.le_of_ble_eq_true rfl) rfl (fun X h => ?_)
  refine mj_blk h.1 b_Al_total_0 rfl trivial ?_
  exact mj_iret h rfl d_Al_total_4 (by decide) (by decide) ⟨rfl, rfl⟩
theorem a4 (b : Nat) : nI b * 4 = nI (4 * b) := by rw [show (4 : Int32) = nI 4 from rfl, pk_mul, Nat.mul_comm]
set_option maxRecDepth 100000 in
set_option maxHeartbeats 4000000 in
theorem ev_Al_add (b : Nat) (hb : b < 24) (hbb : (if 24 ≤ nw + 1 then 0 else nw + 1) = nI b) (r cp way sz : Int32) : E0_Al_add l D cA [.ref 0, .int r, .int cp, .int way, .int sz] (wAl rows tot nw) none (wAl (aAdd rows b r cp way sz) (tot + 1) (nI b)) := by
  refine mj_ev (lv := [(0, .ref 0), (1, .int r), (2, .int cp), (3, .int way), (4, .int sz)]) (by decide +kernel) (Nat.le_of_ble_eq_true rfl) rfl (fun X h => ?_)
  refine mj_blk h.1 b_Al_add_0 rfl trivial ?_
  refine mj_icge h.1 (tgt := 21) d_Al_add_9 (by decide) (fun h1 => ?_) (fun h1 => ?_)
  · refine mj_blk h.1 b_Al_add_21 rfl trivial ?_
    refine mj_top (show _ = nI b by rw [if_pos h1] at hbb; exact hbb) ?_
    refine mj_blk h.1 b_Al_add_22 rfl ⟨by rw [a4, show (3 : Int32) = nI 3 from rfl, nI_add]; exact vp_in_nI (by omega) (by decide), by rw [a4, show (2 : Int32) = nI 2 from rfl, nI_add]; exact vp_in_nI (by omega) (by decide), by rw [a4, nI_1]; exact vp_in_nI (by omega) (by decide), by rw [a4]; exact vp_in_nI (by omega) (by decide), trivial⟩ ?_
    exact mj_vret h rfl d_Al_add_82 (by decide) (by decide) ⟨rfl, by rw [a4, show (3 : Int32) = nI 3 from rfl, show (2 : Int32) = nI 2 from rfl, nI_1, nI_add, nI_add, nI_clamp (by omega), nI_clamp (by omega), nI_clamp (by omega), nI_clamp (by omega)]; rfl⟩
  · refine mj_blk h.1 b_Al_add_12 rfl trivial ?_
    refine mj_top (show _ = nI b by rw [if_neg h1] at hbb; exact hbb) ?_
    refine mj_blk h.1 b_Al_add_22 rfl ⟨by rw [a4, show (3 : Int32) = nI 3 from rfl, nI_add]; exact vp_in_nI (by omega) (by decide), by rw [a4, show (2 : Int32) = nI 2 from rfl, nI_add]; exact vp_in_nI (by omega) (by decide), by rw [a4, nI_1]; exact vp_in_nI (by omega) (by decide), by rw [a4]; exact vp_in_nI (by omega) (by decide), trivial⟩ ?_
    exact mj_vret h rfl d_Al_add_82 (by decide) (by decide) ⟨rfl, by rw [a4, show (3 : Int32) = nI 3 from rfl, show (2 : Int32) = nI 2 from rfl, nI_1, nI_add, nI_add, nI_clamp (by omega), nI_clamp (by omega), nI_clamp (by omega), nI_clamp (by omega)]; rfl⟩
end ALOG
end
section
/-! Marks: what is marked (0 or 1 a place), the latest mark at or before each place, the top -/
abbrev wMk1 (mk lt : Nat → Int32) (tp : Int32) : mj_M := [(0, .inr (3, [.ref 1, .ref 2, .int tp])), (1, .inl (1, 81, .inl mk)), (2, .inl (0, 81, .inl lt))]
def kPut (mk : Nat → Int32) (p x : Int32) : Nat → Int32 := if p < 0 then mk else if 80 < p then mk else upd mk p.toNatClampNeg x
def kSet : Nat → Nat → Int32 → (Nat → Int32) → (Nat → Int32) → (Nat → Int32)
  | 0, _, _, _, lt => lt
  | r + 1, p, last, g, lt => kSet r (p + 1) (if g p = 0 then last else nI p) g (upd lt p (if g p = 0 then last else nI p))
def kStart : Nat → Nat → (Nat → Int32) → (Nat → Int32)
  | 0, _, g => g
  | r + 1, p, g => kStart r (p + 1) (upd g p (if p = 0 then 1 else 0))
theorem vp_in_81 {p : Int32} (h1 : ¬ p < 0) (h2 : ¬ 80 < p) : vp_in p 81 := by
  rw [vp_in_iff]
  have a1 := Int32.le_iff_toInt_le.mp (Int32.not_lt.mp h1)
  have a2 := Int32.le_iff_toInt_le.mp (Int32.not_lt.mp h2)
  rw [Int32.toInt_zero] at a1
  have e : (80 : Int32).toInt = 80 := by decide
  rw [e] at a2
  omega
section MARKS
variable (l : Launch) (D : va_G) (cA : Nat → ClassId)

set_option maxRecDepth 100000 in
set_option maxHeartbeats 4000000 in
theorem ev_Mk_set (mk lt : Nat → Int32) (tp : Int32) (p x : Int32) (hx : x = 0 ∨ x = 1) : E0_Mk_set l D cA [.ref 0, .int p, .int x] (wMk1 mk lt tp) none (wMk1 (kPut mk p x) lt tp) := by
  refine mj_ev (lv := [(0, .ref 0), (1, .int p), (2, .int x)]) (by decide +kernel) (Nat.le_of_ble_eq_true rfl) rfl (fun X h => ?_)
  refine mj_blk h.1 b_Mk_set_0 rfl trivial ?_
  refine mj_iflt h.1 (tgt := 17) d_Mk_set_1 (by decide) (fun h1 => ?_) (fun h1 => ?_)
  · exact mj_vret h rfl d_Mk_set_17 (by decide) (by decide) ⟨rfl, by unfold kPut; rw [if_pos h1]⟩
  · refine mj_blk h.1 b_Mk_set_4 rfl trivial ?_
    refine mj_icgt h.1 (tgt := 17) d_Mk_set_7 (by decide) (fun h2 => ?_) (fun h2 => ?_)
    · exact mj_vret h rfl d_Mk_set_17 (by decide) (by decide) ⟨rfl, by unfold kPut; rw [if_neg h1, if_pos h2]⟩
    · refine mj_blk h.1 b_Mk_set_10 rfl ⟨vp_in_81 h1 h2, hx, trivial⟩ ?_
      exact mj_vret h rfl d_Mk_set_17 (by decide) (by decide) ⟨rfl, by unfold kPut; rw [if_neg h1, if_neg h2]⟩
set_option maxRecDepth 100000 in
set_option maxHeartbeats 4000000 in
theorem ev_Mk_has (mk lt : Nat → Int32) (tp : Int32) (p : Int32) : E0_Mk_has l D cA [.ref 0, .int p] (wMk1 mk lt tp) (some (.int (if ¬ p < 0 ∧ ¬ 80 < p ∧ ¬ mk p.toNatClampNeg = 0 then 1 else 0))) (wMk1 mk lt tp) := by
  refine mj_ev (lv := [(0, .ref 0), (1, .int p)]) (by decide +kernel) (Nat.le_of_ble_eq_true rfl) rfl (fun X h => ?_)
  refine mj_blk h.1 b_Mk_has_0 rfl trivial ?_
  refine mj_iflt h.1 (tgt := 23) d_Mk_has_1 (by decide) (fun h1 => ?_) (fun h1 => ?_)
  · refine mj_blk h.1 b_Mk_has_23 rfl trivial ?_
    exact mj_zret h rfl (by first | exact Or.inl rfl | exact Or.inr rfl) d_Mk_has_24 (by decide) (by decide) ⟨by rw [if_neg (fun h9 => h9.1 h1)], rfl⟩
  · refine mj_blk h.1 b_Mk_has_4 rfl trivial ?_
    refine mj_icgt h.1 (tgt := 23) d_Mk_has_7 (by decide) (fun h2 => ?_) (fun h2 => ?_)
    · refine mj_blk h.1 b_Mk_has_23 rfl trivial ?_
      exact mj_zret h rfl (by first | exact Or.inl rfl | exact Or.inr rfl) d_Mk_has_24 (by decide) (by decide) ⟨by rw [if_neg (fun h9 => h9.2.1 h2)], rfl⟩
    · refine mj_blk h.1 b_Mk_has_10 rfl ⟨vp_in_81 h1 h2, trivial⟩ ?_
      first | refine mj_ifeqB h.1 (tgt := 23) d_Mk_has_16 (by decide) (fun h3 => ?_) (fun h3 => ?_) | refine mj_ifeq h.1 (tgt := 23) d_Mk_has_16 (by decide) (fun h3 => ?_) (fun h3 => ?_)
      · refine mj_blk h.1 b_Mk_has_23 rfl trivial ?_
        exact mj_zret h rfl (by first | exact Or.inl rfl | exact Or.inr rfl) d_Mk_has_24 (by decide) (by decide) ⟨by rw [if_neg (fun h9 => h9.2.2 h3)], rfl⟩
      · refine mj_blk h.1 b_Mk_has_19 rfl trivial ?_
        exact mj_zret h rfl (by first | exact Or.inl rfl | exact Or.inr rfl) d_Mk_has_24 (by decide) (by decide) ⟨by rw [if_pos ⟨h1, h2, h3⟩], rfl⟩
set_option maxRecDepth 100000 in
set_option maxHeartbeats 4000000 in
theorem lp_Mk_settle (mk : Nat → Int32) (e : Nat) (he : e ≤ 80) (q : Int32) {X : mj_X} {post : mj_R} (h : mj_E zG X l D cA m_Mk_settle 0 0 0 0 (fun _ => True) post) : ∀ (r p : Nat) (last : Int32) (lt : Nat → Int32), p + r = e + 1 → post none (wMk1 mk (kSet r p last mk lt) (nI e)) → mj_W zG X 0 0 20 [(3, .int (nI p)), (2, .int last), (0, .ref 0), (1, .int q)] [] (wMk1 mk lt (nI e)) := by
  intro r
  induction r with
  | zero =>
    intro p last lt hi hp
    refine mj_blk h.1 b_Mk_settle_20 rfl trivial ?_
    refine mj_icgt h.1 (tgt := 52) d_Mk_settle_25 (by decide) (fun h1 => ?_) (fun h1 => ?_)
    · exact mj_vret h rfl d_Mk_settle_52 (by decide) (by decide) hp
    · exact absurd ((nI_ltI (by omega) (by omega)).mpr (by omega)) h1
  | succ r ih =>
    intro p last lt hi hp
    refine mj_blk h.1 b_Mk_settle_20 rfl trivial ?_
    refine mj_icgt h.1 (tgt := 52) d_Mk_settle_25 (by decide) (fun h1 => ?_) (fun h1 => ?_)
    · exact absurd ((nI_ltI (by omega) (by omega)).mp h1) (by omega)
    · refine mj_blk h.1 b_Mk_settle_28 rfl ⟨vp_in_nI (by omega) (by decide), trivial⟩ ?_
      first | refine mj_ifeqB h.1 (tgt := 39) d_Mk_settle_34 (by decide) (fun h2 => ?_) (fun h2 => ?_) | refine mj_ifeq h.1 (tgt := 39) d_Mk_settle_34 (by decide) (fun h2 => ?_) (fun h2 => ?_)
      · refine mj_blk h.1 b_Mk_settle_39 rfl ⟨vp_in_nI (by omega) (by decide), trivial⟩ ?_
        have e1 : mk p = 0 := by rw [nI_clamp (by omega)] at h2; exact h2
        have hp2 := hp
        unfold kSet at hp2
        rw [if_pos e1] at hp2
        rw [nI_clamp (by omega), show nI p + 1 = nI (p + 1) from (nI_succ p).symm]
        exact ih (p + 1) _ _ (by omega) hp2
      · refine mj_blk h.1 b_Mk_settle_37 rfl trivial ?_
        refine mj_blk h.1 b_Mk_settle_39 rfl ⟨vp_in_nI (by omega) (by decide), trivial⟩ ?_
        have e1 : ¬ mk p = 0 := by rw [nI_clamp (by omega)] at h2; exact h2
        have hp2 := hp
        unfold kSet at hp2
        rw [if_neg e1] at hp2
        rw [nI_clamp (by omega), show nI p + 1 = nI (p + 1) from (nI_succ p).symm]
        exact ih (p + 1) _ _ (by omega) hp2
set_option maxRecDepth 100000 in
set_option maxHeartbeats 4000000 in
theorem ev_Mk_settle (mk lt : Nat → Int32) (tp : Int32) (e : Nat) (he : e ≤ 80) : E0_Mk_settle l D cA [.ref 0, .int (nI e)] (wMk1 mk lt tp) none (wMk1 mk (kSet (e + 1) 0 (-1) mk lt) (nI e)) := by
  refine mj_ev (lv := [(0, .ref 0), (1, .int (nI e))]) (by decide +kernel) (Nat.le_of_ble_eq_true rfl) rfl (fun X h => ?_)
  refine mj_blk h.1 b_Mk_settle_0 rfl trivial ?_
  refine mj_icgt h.1 (tgt := 13) d_Mk_settle_6 (by decide) (fun h1 => ?_) (fun h1 => ?_)
  · exact absurd (show nI e ≤ nI 80 from nI_le he (by decide)) (Int32.not_le.mpr h1)
  · refine mj_blk h.1 b_Mk_settle_9 rfl trivial ?_
    refine mj_blk h.1 b_Mk_settle_15 rfl trivial ?_
    exact lp_Mk_settle l D cA mk e he _ h (e + 1) 0 (-1) lt (by omega) ⟨rfl, rfl⟩
theorem kmin_le {e : Nat} (he : e ≤ 80) {b : Int32} : ¬ 80 < (if nI e < b then nI e else b) := by
  have h1 : ¬ (80 : Int32) < nI e := nI_nlt (a := 80) (b := e) he (by decide)
  by_cases h : nI e < b
  · rw [if_pos h]
    exact h1
  · rw [if_neg h]
    exact fun h9 => h1 (Int32.lt_of_lt_of_le h9 (Int32.not_lt.mp h))
theorem kPut_in {mk : Nat → Int32} {p : Nat} {x : Int32} (h : p ≤ 80) : kPut mk (nI p) x = upd mk p x := by
  unfold kPut
  rw [if_neg (nI_pos (by omega)), if_neg (show ¬ (80 : Int32) < nI p from nI_nlt (a := 80) h (by decide)), nI_clamp (by omega)]
set_option maxRecDepth 100000 in
set_option maxHeartbeats 4000000 in
theorem lp_Mk_start (lt : Nat → Int32) (tp : Int32) (e : Nat) (he : e ≤ 80) {X : mj_X} {post : mj_R} (h : mj_E zG X l D cA m_Mk_markStartOnly 1 40 0 0 (fun _ => True) post) : ∀ (r p : Nat) (mk : Nat → Int32), p + r = e + 1 → post none (wMk1 (kStart r p mk) (kSet (e + 1) 0 (-1) (kStart r p mk) lt) (nI e)) → mj_W zG X 0 0 2 [(2, .int (nI p)), (0, .ref 0), (1, .int (nI e))] [] (wMk1 mk lt tp) := by
  intro r
  induction r with
  | zero =>
    intro p mk hi hp
    refine mj_blk h.1 b_Mk_markStartOnly_2 rfl trivial ?_
    refine mj_icgt h.1 (tgt := 27) d_Mk_markStartOnly_4 (by decide) (fun h1 => ?_) (fun h1 => ?_)
    · refine mj_blk h.1 b_Mk_markStartOnly_27 rfl trivial ?_
      refine mj_callV h zGood (ev_Mk_settle l D cA _ _ _ e he) v_Mk_settle l_Mk_markStartOnly_29 d_Mk_markStartOnly_29 rfl ⟨by decide, by decide⟩ ⟨by decide, by decide⟩ [(0, 0), (1, 1), (2, 2)] rfl rfl rfl rfl rfl rfl (Nat.le_of_ble_eq_true rfl) ?_
      rintro _ _ ⟨rfl, rfl⟩
      refine mj_k rfl rfl ?_
      exact mj_vret h rfl d_Mk_markStartOnly_32 (by decide) (by decide) hp
    · exact absurd ((nI_ltI (by omega) (by omega)).mpr (by omega)) h1
  | succ r ih =>
    intro p mk hi hp
    refine mj_blk h.1 b_Mk_markStartOnly_2 rfl trivial ?_
    refine mj_icgt h.1 (tgt := 27) d_Mk_markStartOnly_4 (by decide) (fun h1 => ?_) (fun h1 => ?_)
    · exact absurd ((nI_ltI (by omega) (by omega)).mp h1) (by omega)
    · refine mj_blk h.1 b_Mk_markStartOnly_7 rfl trivial ?_
      first | refine mj_ifneB h.1 (tgt := 17) d_Mk_markStartOnly_10 (by decide) (fun h2 => ?_) (fun h2 => ?_) | refine mj_ifne h.1 (tgt := 17) d_Mk_markStartOnly_10 (by decide) (fun h2 => ?_) (fun h2 => ?_)
      · refine mj_blk h.1 b_Mk_markStartOnly_17 rfl trivial ?_
        refine mj_callV h zGood (ev_Mk_set l D cA _ _ _ (nI p) _ (Or.inl rfl)) v_Mk_set l_Mk_markStartOnly_18 d_Mk_markStartOnly_18 rfl ⟨by decide, by decide⟩ ⟨by decide, by decide⟩ [(0, 0), (1, 1), (2, 2)] rfl rfl rfl rfl rfl rfl (Nat.le_of_ble_eq_true rfl) ?_
        rintro _ _ ⟨rfl, rfl⟩
        rw [kPut_in (by omega)]
        refine mj_k rfl rfl ?_
        refine mj_blk h.1 b_Mk_markStartOnly_21 rfl trivial ?_
        have e1 : ¬ p = 0 := fun h9 => h2 (by rw [h9]; rfl)
        have hp2 := hp
        unfold kStart at hp2
        rw [if_neg e1] at hp2
        rw [show nI p + 1 = nI (p + 1) from (nI_succ p).symm]
        exact ih (p + 1) _ (by omega) hp2
      · refine mj_blk h.1 b_Mk_markStartOnly_13 rfl trivial ?_
        refine mj_callV h zGood (ev_Mk_set l D cA _ _ _ (nI p) _ (Or.inr rfl)) v_Mk_set l_Mk_markStartOnly_18 d_Mk_markStartOnly_18 rfl ⟨by decide, by decide⟩ ⟨by decide, by decide⟩ [(0, 0), (1, 1), (2, 2)] rfl rfl rfl rfl rfl rfl (Nat.le_of_ble_eq_true rfl) ?_
        rintro _ _ ⟨rfl, rfl⟩
        rw [kPut_in (by omega)]
        refine mj_k rfl rfl ?_
        refine mj_blk h.1 b_Mk_markStartOnly_21 rfl trivial ?_
        have e1 : p = 0 := by
          have h3 := (nI_eq (b := 0) (by omega) (by decide)).mp h2
          exact h3
        have hp2 := hp
        unfold kStart at hp2
        rw [if_pos e1] at hp2
        rw [show nI p + 1 = nI (p + 1) from (nI_succ p).symm]
        exact ih (p + 1) _ (by omega) hp2
set_option maxRecDepth 100000 in
set_option maxHeartbeats 4000000 in
theorem ev_Mk_markStartOnly (mk lt : Nat → Int32) (tp : Int32) (e : Nat) (he : e ≤ 80) : E0_Mk_markStartOnly l D cA [.ref 0, .int (nI e)] (wMk1 mk lt tp) none (wMk1 (kStart (e + 1) 0 mk) (kSet (e + 1) 0 (-1) (kStart (e + 1) 0 mk) lt) (nI e)) := by
  refine mj_ev (lv := [(0, .ref 0), (1, .int (nI e))]) (by decide +kernel) (Nat.le_of_ble_eq_true rfl) rfl (fun X h => ?_)
  refine mj_blk h.1 b_Mk_markStartOnly_0 rfl trivial ?_
  exact lp_Mk_start l D cA lt tp e he h (e + 1) 0 mk (by omega) ⟨rfl, rfl⟩
set_option maxRecDepth 100000 in
set_option maxHeartbeats 4000000 in
theorem ev_Mk_isAnyIn (mk lt : Nat → Int32) (e : Nat) (he : e ≤ 80) (a b : Int32) : E0_Mk_isAnyIn l D cA [.ref 0, .int a, .int b] (wMk1 mk lt (nI e)) (some (.int (if ¬ (if nI e < b then nI e else b) < 0 ∧ ¬ lt (if nI e < b then nI e else b).toNatClampNeg < (if a < 0 then 0 else a) then 1 else 0))) (wMk1 mk lt (nI e)) := by
  refine mj_ev (lv := [(0, .ref 0), (1, .int a), (2, .int b)]) (by decide +kernel) (Nat.le_of_ble_eq_true rfl) rfl (fun X h => ?_)
  refine mj_blk h.1 b_Mk_isAnyIn_0 rfl trivial ?_
  refine mj_min h z3_29 z3_30 z1_15 z3_31 (by decide) (Nat.le_of_ble_eq_true rfl) (by decide) (by decide) d_Mk_isAnyIn_5 ?_
  refine mj_blk h.1 b_Mk_isAnyIn_8 rfl trivial ?_
  refine mj_iflt h.1 (tgt := 31) d_Mk_isAnyIn_10 (by decide) (fun h1 => ?_) (fun h1 => ?_)
  · refine mj_blk h.1 b_Mk_isAnyIn_31 rfl trivial ?_
    exact mj_zret h rfl (by first | exact Or.inl rfl | exact Or.inr rfl) d_Mk_isAnyIn_32 (by decide) (by decide) ⟨by rw [if_neg (fun h9 => h9.1 h1)], rfl⟩
  · refine mj_blk h.1 b_Mk_isAnyIn_13 rfl ⟨vp_in_81 h1 (kmin_le he), trivial⟩ ?_
    refine mj_max h z3_32 z3_33 z1_15 z3_34 (by decide) (Nat.le_of_ble_eq_true rfl) (by decide) (by decide) d_Mk_isAnyIn_21 ?_
    refine mj_iclt h.1 (tgt := 31) d_Mk_isAnyIn_24 (by decide) (fun h2 => ?_) (fun h2 => ?_)
    · refine mj_blk h.1 b_Mk_isAnyIn_31 rfl trivial ?_
      exact mj_zret h rfl (by first | exact Or.inl rfl | exact Or.inr rfl) d_Mk_isAnyIn_32 (by decide) (by decide) ⟨by rw [if_neg (fun h9 => h9.2 h2)], rfl⟩
    · refine mj_blk h.1 b_Mk_isAnyIn_27 rfl trivial ?_
      exact mj_zret h rfl (by first | exact Or.inl rfl | exact Or.inr rfl) d_Mk_isAnyIn_32 (by decide) (by decide) ⟨by rw [if_pos ⟨h1, h2⟩], rfl⟩
end MARKS
end
section
/-! Packet (by program: wip/whole/src_mid.py) -/
abbrev cPk (fh fp th tp fn ds dz fg : Int32) : mj_C := .inr (5, [.int fh, .int fp, .int th, .int tp, .int fn, .int ds, .int dz, .int fg])
abbrev cWi (b : Nat) (n : Nat) : mj_C := .inr (9, [.ref b, .int (nI n)])
abbrev cIs (k : Nat) (f : Nat → Int32) : mj_C := .inl (0, k, .inl f)
def pFg (n : Nat) (f : Nat → Int32) : Int32 := wA n f (nI (wIpN n f) + 13)
def pFn (n : Nat) (f : Nat → Int32) : Int32 := wQuad n f (nI (wIpN n f) + 4) + (if ¬ pFg n f &&& 2 = 0 then 1 else 0)
abbrev cPr (n : Nat) (f : Nat → Int32) : mj_C := cPk (wQuad n f 12) (wPair n f (nI (wIpN n f))) (wQuad n f 16) (wPair n f (nI (wIpN n f) + 2)) (pFn n f) (wDs n f) (wPair n f 2 - wDs n f) (pFg n f)
section PACKET
variable (l : Launch) (D : va_G) (cA : Nat → ClassId) (fh fp th tp fn ds dz fg : Int32)

set_option maxRecDepth 100000 in
set_option maxHeartbeats 4000000 in
theorem ev_Pk_hasFlag (b : Int32) : E0_Pk_hasFlag l D cA [.ref 0, .int b] [(0, cPk fh fp th tp fn ds dz fg)] (some (.int (if ¬ fg &&& b = 0 then 1 else 0))) [(0, cPk fh fp th tp fn ds dz fg)] := by
  refine mj_ev (lv := [(0, .ref 0), (1, .int b)]) (by decide +kernel) (Nat.le_of_ble_eq_true rfl) rfl (fun X h => ?_)
  refine mj_blk h.1 b_Pk_hasFlag_0 rfl trivial ?_
  first | refine mj_ifeqB h.1 (tgt := 13) d_Pk_hasFlag_6 (by decide) (fun h1 => ?_) (fun h1 => ?_) | refine mj_ifeq h.1 (tgt := 13) d_Pk_hasFlag_6 (by decide) (fun h1 => ?_) (fun h1 => ?_)
  · refine mj_blk h.1 b_Pk_hasFlag_13 rfl trivial ?_
    exact mj_zret h rfl (by first | exact Or.inl rfl | exact Or.inr rfl) d_Pk_hasFlag_14 (by decide) (by decide) ⟨by first | (rw [if_pos h1]; done) | (rw [if_neg (fun h9 => h9 h1)]; done), rfl⟩
  · refine mj_blk h.1 b_Pk_hasFlag_9 rfl trivial ?_
    exact mj_zret h rfl (by first | exact Or.inl rfl | exact Or.inr rfl) d_Pk_hasFlag_14 (by decide) (by decide) ⟨by first | (rw [if_pos h1]; done) | (rw [if_neg (fun h9 => h9 h1)]; done), rfl⟩
set_option maxRecDepth 100000 in
set_option maxHeartbeats 4000000 in
theorem ev_Pk_read (n : Nat) (hn : n ≤ 100) (f : Nat → Int32) : E0_Pk_read l D cA [.ref 0, .ref 1] [(0, cPk fh fp th tp fn ds dz fg), (1, cWi 2 n), (2, cIs 100 f)] none [(0, cPr n f), (1, cWi 2 n), (2, cIs 100 f)] := by
  refine mj_ev (lv := [(0, .ref 0), (1, .ref 1)]) (by decide +kernel) (Nat.le_of_ble_eq_true rfl) rfl (fun X h => ?_)
  refine mj_blk h.1 b_Pk_read_0 rfl trivial ?_
  refine mj_callV h zGood (ev_Wi_ipSize l D cA _ hn _) v_Wi_ipSize l_Pk_read_1 d_Pk_read_1 rfl ⟨by decide, by decide⟩ ⟨by decide, by decide⟩ [(0, 1), (1, 2)] rfl rfl rfl rfl rfl rfl (Nat.le_of_ble_eq_true rfl) ?_
  rintro _ _ ⟨rfl, rfl⟩
  refine mj_k rfl rfl ?_
  refine mj_blk h.1 b_Pk_read_4 rfl trivial ?_
  refine mj_callV h zGood (ev_Wi_quadAt l D cA _ hn _ _) v_Wi_quadAt l_Pk_read_9 d_Pk_read_9 rfl ⟨by decide, by decide⟩ ⟨by decide, by decide⟩ [(0, 1), (1, 2)] rfl rfl rfl rfl rfl rfl (Nat.le_of_ble_eq_true rfl) ?_
  rintro _ _ ⟨rfl, rfl⟩
  refine mj_k rfl rfl ?_
  refine mj_blk h.1 b_Pk_read_12 rfl trivial ?_
  refine mj_callV h zGood (ev_Wi_quadAt l D cA _ hn _ _) v_Wi_quadAt l_Pk_read_19 d_Pk_read_19 rfl ⟨by decide, by decide⟩ ⟨by decide, by decide⟩ [(0, 1), (1, 2)] rfl rfl rfl rfl rfl rfl (Nat.le_of_ble_eq_true rfl) ?_
  rintro _ _ ⟨rfl, rfl⟩
  refine mj_k rfl rfl ?_
  refine mj_blk h.1 b_Pk_read_22 rfl trivial ?_
  refine mj_callV h zGood (ev_Wi_pairAt l D cA _ hn _ _) v_Wi_pairAt l_Pk_read_28 d_Pk_read_28 rfl ⟨by decide, by decide⟩ ⟨by decide, by decide⟩ [(0, 1), (1, 2)] rfl rfl rfl rfl rfl rfl (Nat.le_of_ble_eq_true rfl) ?_
  rintro _ _ ⟨rfl, rfl⟩
  refine mj_k rfl rfl ?_
  refine mj_blk h.1 b_Pk_read_31 rfl trivial ?_
  refine mj_callV h zGood (ev_Wi_pairAt l D cA _ hn _ _) v_Wi_pairAt l_Pk_read_39 d_Pk_read_39 rfl ⟨by decide, by decide⟩ ⟨by decide, by decide⟩ [(0, 1), (1, 2)] rfl rfl rfl rfl rfl rfl (Nat.le_of_ble_eq_true rfl) ?_
  rintro _ _ ⟨rfl, rfl⟩
  refine mj_k rfl rfl ?_
  refine mj_blk h.1 b_Pk_read_42 rfl trivial ?_
  refine mj_callV h zGood (ev_Wi_at l D cA _ hn _ _) v_Wi_at l_Pk_read_51 d_Pk_read_51 rfl ⟨by decide, by decide⟩ ⟨by decide, by decide⟩ [(0, 1), (1, 2)] rfl rfl rfl rfl rfl rfl (Nat.le_of_ble_eq_true rfl) ?_
  rintro _ _ ⟨rfl, rfl⟩
  refine mj_k rfl rfl ?_
  refine mj_blk h.1 b_Pk_read_54 rfl trivial ?_
  refine mj_callV h zGood (ev_Wi_quadAt l D cA _ hn _ _) v_Wi_quadAt l_Pk_read_62 d_Pk_read_62 rfl ⟨by decide, by decide⟩ ⟨by decide, by decide⟩ [(0, 1), (1, 2)] rfl rfl rfl rfl rfl rfl (Nat.le_of_ble_eq_true rfl) ?_
  rintro _ _ ⟨rfl, rfl⟩
  refine mj_k rfl rfl ?_
  refine mj_blk h.1 b_Pk_read_65 rfl trivial ?_
  refine mj_callV h zGood (ev_Pk_hasFlag l D cA _ _ _ _ _ _ _ _ _) v_Pk_hasFlag l_Pk_read_67 d_Pk_read_67 rfl ⟨by decide, by decide⟩ ⟨by decide, by decide⟩ [(0, 0)] rfl rfl rfl rfl rfl rfl (Nat.le_of_ble_eq_true rfl) ?_
  rintro _ _ ⟨rfl, rfl⟩
  refine mj_k rfl rfl ?_
  first | refine mj_ifeqB h.1 (tgt := 77) d_Pk_read_70 (by decide) (fun h1 => ?_) (fun h1 => ?_) | refine mj_ifeq h.1 (tgt := 77) d_Pk_read_70 (by decide) (fun h1 => ?_) (fun h1 => ?_)
  · refine mj_blk h.1 b_Pk_read_77 rfl trivial ?_
    refine mj_blk h.1 b_Pk_read_78 rfl trivial ?_
    refine mj_callV h zGood (ev_Wi_dataStart l D cA _ hn _) v_Wi_dataStart l_Pk_read_84 d_Pk_read_84 rfl ⟨by decide, by decide⟩ ⟨by decide, by decide⟩ [(0, 1), (1, 2)] rfl rfl rfl rfl rfl rfl (Nat.le_of_ble_eq_true rfl) ?_
    rintro _ _ ⟨rfl, rfl⟩
    refine mj_k rfl rfl ?_
    refine mj_blk h.1 b_Pk_read_87 rfl trivial ?_
    refine mj_callV h zGood (ev_Wi_length l D cA _ hn _) v_Wi_length l_Pk_read_92 d_Pk_read_92 rfl ⟨by decide, by decide⟩ ⟨by decide, by decide⟩ [(0, 1), (1, 2)] rfl rfl rfl rfl rfl rfl (Nat.le_of_ble_eq_true rfl) ?_
    rintro _ _ ⟨rfl, rfl⟩
    refine mj_k rfl rfl ?_
    refine mj_blk h.1 b_Pk_read_95 rfl trivial ?_
    exact mj_vret h rfl d_Pk_read_103 (by decide) (by decide) ⟨rfl, by unfold cPr pFn pFg; first | (rw [if_neg h1]; done) | (rw [if_pos h1]; done)⟩
  · refine mj_blk h.1 b_Pk_read_73 rfl trivial ?_
    refine mj_blk h.1 b_Pk_read_78 rfl trivial ?_
    refine mj_callV h zGood (ev_Wi_dataStart l D cA _ hn _) v_Wi_dataStart l_Pk_read_84 d_Pk_read_84 rfl ⟨by decide, by decide⟩ ⟨by decide, by decide⟩ [(0, 1), (1, 2)] rfl rfl rfl rfl rfl rfl (Nat.le_of_ble_eq_true rfl) ?_
    rintro _ _ ⟨rfl, rfl⟩
    refine mj_k rfl rfl ?_
    refine mj_blk h.1 b_Pk_read_87 rfl trivial ?_
    refine mj_callV h zGood (ev_Wi_length l D cA _ hn _) v_Wi_length l_Pk_read_92 d_Pk_read_92 rfl ⟨by decide, by decide⟩ ⟨by decide, by decide⟩ [(0, 1), (1, 2)] rfl rfl rfl rfl rfl rfl (Nat.le_of_ble_eq_true rfl) ?_
    rintro _ _ ⟨rfl, rfl⟩
    refine mj_k rfl rfl ?_
    refine mj_blk h.1 b_Pk_read_95 rfl trivial ?_
    exact mj_vret h rfl d_Pk_read_103 (by decide) (by decide) ⟨rfl, by unfold cPr pFn pFg; first | (rw [if_neg h1]; done) | (rw [if_pos h1]; done)⟩
end PACKET
end
section
/-! Flow -/
abbrev cFl (a b : Nat) (ch cp sh sp ha : Int32) (lv : Bool) : mj_C := .inr (1, [.int ch, .int cp, .int sh, .int sp, .int ha, .ref a, .ref b, .int (if lv then 1 else 0)])
abbrev cSm (p q : Nat) (ts : Nat) (hs nx rr : Int32) (bg en : Bool) : mj_C := .inr (8, [.ref p, .ref q, .int (nI ts), .int hs, .int nx, .int rr, .int (if bg then 1 else 0), .int (if en then 1 else 0)])
def fWay (ch cp sh sp fh fp th tp : Int32) : Int32 := if (ch = fh ∧ cp = fp) ∧ (sh = th ∧ sp = tp) then 0 else if (sh = fh ∧ sp = fp) ∧ (ch = th ∧ cp = tp) then 1 else -1
section FLOW
variable (l : Launch) (D : va_G) (cA : Nat → ClassId) (ch cp sh sp ha : Int32) (lv : Bool)

set_option maxRecDepth 100000 in
set_option maxHeartbeats 4000000 in
theorem ev_Fl_isLive : E0_Fl_isLive l D cA [.ref 0] [(0, cFl 1 2 ch cp sh sp ha lv)] (some (.int (if lv then 1 else 0))) [(0, cFl 1 2 ch cp sh sp ha lv)] := by
  refine mj_ev (lv := [(0, .ref 0)]) (by decide +kernel) (Nat.le_of_ble_eq_true rfl) rfl (fun X h => ?_)
  refine mj_blk h.1 b_Fl_isLive_0 rfl trivial ?_
  exact mj_zret h rfl (mj_z01) d_Fl_isLive_4 (by decide) (by decide) ⟨rfl, rfl⟩
set_option maxRecDepth 100000 in
set_option maxHeartbeats 4000000 in
theorem ev_Fl_free : E0_Fl_free l D cA [.ref 0] [(0, cFl 1 2 ch cp sh sp ha lv)] none [(0, cFl 1 2 ch cp sh sp ha false)] := by
  refine mj_ev (lv := [(0, .ref 0)]) (by decide +kernel) (Nat.le_of_ble_eq_true rfl) rfl (fun X h => ?_)
  refine mj_blk h.1 b_Fl_free_0 rfl ⟨Or.inl rfl, trivial⟩ ?_
  exact mj_vret h rfl d_Fl_free_5 (by decide) (by decide) ⟨rfl, rfl⟩
set_option maxRecDepth 100000 in
set_option maxHeartbeats 4000000 in
theorem ev_Fl_isClient (h9 p9 : Int32) : E0_Fl_isClient l D cA [.ref 0, .int h9, .int p9] [(0, cFl 1 2 ch cp sh sp ha lv)] (some (.int (if ch = h9 ∧ cp = p9 then 1 else 0))) [(0, cFl 1 2 ch cp sh sp ha lv)] := by
  refine mj_ev (lv := [(0, .ref 0), (1, .int h9), (2, .int p9)]) (by decide +kernel) (Nat.le_of_ble_eq_true rfl) rfl (fun X h => ?_)
  refine mj_blk h.1 b_Fl_isClient_0 rfl trivial ?_
  refine mj_icne h.1 (tgt := 20) d_Fl_isClient_5 (by decide) (fun h1 => ?_) (fun h1 => ?_)
  · refine mj_blk h.1 b_Fl_isClient_20 rfl trivial ?_
    exact mj_zret h rfl (by first | exact Or.inl rfl | exact Or.inr rfl) d_Fl_isClient_21 (by decide) (by decide) ⟨by rw [if_neg (fun z => h1 z.1)], rfl⟩
  · refine mj_blk h.1 b_Fl_isClient_8 rfl trivial ?_
    refine mj_icne h.1 (tgt := 20) d_Fl_isClient_13 (by decide) (fun h2 => ?_) (fun h2 => ?_)
    · refine mj_blk h.1 b_Fl_isClient_20 rfl trivial ?_
      exact mj_zret h rfl (by first | exact Or.inl rfl | exact Or.inr rfl) d_Fl_isClient_21 (by decide) (by decide) ⟨by rw [if_neg (fun z => h2 z.2)], rfl⟩
    · refine mj_blk h.1 b_Fl_isClient_16 rfl trivial ?_
      exact mj_zret h rfl (by first | exact Or.inl rfl | exact Or.inr rfl) d_Fl_isClient_21 (by decide) (by decide) ⟨by rw [if_pos ⟨h1, h2⟩], rfl⟩
set_option maxRecDepth 100000 in
set_option maxHeartbeats 4000000 in
theorem ev_Fl_isServer (h9 p9 : Int32) : E0_Fl_isServer l D cA [.ref 0, .int h9, .int p9] [(0, cFl 1 2 ch cp sh sp ha lv)] (some (.int (if sh = h9 ∧ sp = p9 then 1 else 0))) [(0, cFl 1 2 ch cp sh sp ha lv)] := by
  refine mj_ev (lv := [(0, .ref 0), (1, .int h9), (2, .int p9)]) (by decide +kernel) (Nat.le_of_ble_eq_true rfl) rfl (fun X h => ?_)
  refine mj_blk h.1 b_Fl_isServer_0 rfl trivial ?_
  refine mj_icne h.1 (tgt := 20) d_Fl_isServer_5 (by decide) (fun h1 => ?_) (fun h1 => ?_)
  · refine mj_blk h.1 b_Fl_isServer_20 rfl trivial ?_
    exact mj_zret h rfl (by first | exact Or.inl rfl | exact Or.inr rfl) d_Fl_isServer_21 (by decide) (by decide) ⟨by rw [if_neg (fun z => h1 z.1)], rfl⟩
  · refine mj_blk h.1 b_Fl_isServer_8 rfl trivial ?_
    refine mj_icne h.1 (tgt := 20) d_Fl_isServer_13 (by decide) (fun h2 => ?_) (fun h2 => ?_)
    · refine mj_blk h.1 b_Fl_isServer_20 rfl trivial ?_
      exact mj_zret h rfl (by first | exact Or.inl rfl | exact Or.inr rfl) d_Fl_isServer_21 (by decide) (by decide) ⟨by rw [if_neg (fun z => h2 z.2)], rfl⟩
    · refine mj_blk h.1 b_Fl_isServer_16 rfl trivial ?_
      exact mj_zret h rfl (by first | exact Or.inl rfl | exact Or.inr rfl) d_Fl_isServer_21 (by decide) (by decide) ⟨by rw [if_pos ⟨h1, h2⟩], rfl⟩
set_option maxRecDepth 100000 in
set_option maxHeartbeats 4000000 in
theorem ev_Fl_streamOf (w : Int32) : E0_Fl_streamOf l D cA [.ref 0, .int w] [(0, cFl 1 2 ch cp sh sp ha lv)] (some (if w = 0 then .ref 1 else if w = 1 then .ref 2 else .null)) [(0, cFl 1 2 ch cp sh sp ha lv)] := by
  refine mj_ev (lv := [(0, .ref 0), (1, .int w)]) (by decide +kernel) (Nat.le_of_ble_eq_true rfl) rfl (fun X h => ?_)
  refine mj_blk h.1 b_Fl_streamOf_0 rfl trivial ?_
  first | refine mj_ifneB h.1 (tgt := 9) d_Fl_streamOf_1 (by decide) (fun h1 => ?_) (fun h1 => ?_) | refine mj_ifne h.1 (tgt := 9) d_Fl_streamOf_1 (by decide) (fun h1 => ?_) (fun h1 => ?_)
  · refine mj_blk h.1 b_Fl_streamOf_9 rfl trivial ?_
    refine mj_icne h.1 (tgt := 21) d_Fl_streamOf_11 (by decide) (fun h2 => ?_) (fun h2 => ?_)
    · refine mj_blk h.1 b_Fl_streamOf_21 rfl trivial ?_
      first | exact mj_aret h rfl d_Fl_streamOf_22 (by decide) (by decide) ⟨by rw [if_neg h1, if_neg h2], rfl⟩ | exact mj_aretN h rfl d_Fl_streamOf_22 (by decide) (by decide) ⟨by rw [if_neg h1, if_neg h2], rfl⟩
    · refine mj_blk h.1 b_Fl_streamOf_14 rfl trivial ?_
      first | exact mj_aret h rfl d_Fl_streamOf_22 (by decide) (by decide) ⟨by rw [if_neg h1, if_pos h2], rfl⟩ | exact mj_aretN h rfl d_Fl_streamOf_22 (by decide) (by decide) ⟨by rw [if_neg h1, if_pos h2], rfl⟩
  · refine mj_blk h.1 b_Fl_streamOf_4 rfl trivial ?_
    first | exact mj_aret h rfl d_Fl_streamOf_8 (by decide) (by decide) ⟨by rw [if_pos h1], rfl⟩ | exact mj_aretN h rfl d_Fl_streamOf_8 (by decide) (by decide) ⟨by rw [if_pos h1], rfl⟩
set_option maxRecDepth 100000 in
set_option maxHeartbeats 4000000 in
theorem ev_Fl_wayOf (fh fp th tp fn ds dz fg : Int32) : E0_Fl_wayOf l D cA [.ref 0, .ref 3] [(0, cFl 1 2 ch cp sh sp ha lv), (3, cPk fh fp th tp fn ds dz fg)] (some (.int (fWay ch cp sh sp fh fp th tp))) [(0, cFl 1 2 ch cp sh sp ha lv), (3, cPk fh fp th tp fn ds dz fg)] := by
  refine mj_ev (lv := [(0, .ref 0), (1, .ref 3)]) (by decide +kernel) (Nat.le_of_ble_eq_true rfl) rfl (fun X h => ?_)
  refine mj_blk h.1 b_Fl_wayOf_0 rfl trivial ?_
  refine mj_callV h zGood (ev_Fl_isClient l D cA _ _ _ _ _ _ _ _) v_Fl_isClient l_Fl_wayOf_9 d_Fl_wayOf_9 rfl ⟨by decide, by decide⟩ ⟨by decide, by decide⟩ [(0, 0), (1, 1), (2, 2)] rfl rfl rfl rfl rfl rfl (Nat.le_of_ble_eq_true rfl) ?_
  rintro _ _ ⟨rfl, rfl⟩
  refine mj_k rfl rfl ?_
  refine mj_blk h.1 b_Fl_wayOf_12 rfl trivial ?_
  first | refine mj_ifeqB h.1 (tgt := 34) d_Fl_wayOf_14 (by decide) (fun h1 => ?_) (fun h1 => ?_) | refine mj_ifeq h.1 (tgt := 34) d_Fl_wayOf_14 (by decide) (fun h1 => ?_) (fun h1 => ?_)
  · refine mj_blk h.1 b_Fl_wayOf_34 rfl trivial ?_
    refine mj_callV h zGood (ev_Fl_isServer l D cA _ _ _ _ _ _ _ _) v_Fl_isServer l_Fl_wayOf_43 d_Fl_wayOf_43 rfl ⟨by decide, by decide⟩ ⟨by decide, by decide⟩ [(0, 0), (1, 1), (2, 2)] rfl rfl rfl rfl rfl rfl (Nat.le_of_ble_eq_true rfl) ?_
    rintro _ _ ⟨rfl, rfl⟩
    refine mj_k rfl rfl ?_
    refine mj_blk h.1 b_Fl_wayOf_46 rfl trivial ?_
    first | refine mj_ifeqB h.1 (tgt := 68) d_Fl_wayOf_48 (by decide) (fun h2 => ?_) (fun h2 => ?_) | refine mj_ifeq h.1 (tgt := 68) d_Fl_wayOf_48 (by decide) (fun h2 => ?_) (fun h2 => ?_)
    · refine mj_blk h.1 b_Fl_wayOf_68 rfl trivial ?_
      exact mj_iret h rfl d_Fl_wayOf_69 (by decide) (by decide) ⟨by unfold fWay; rw [if_neg (fun z => h1 z.1), if_neg (fun z => h2 z.1)], rfl⟩
    · refine mj_blk h.1 b_Fl_wayOf_51 rfl trivial ?_
      refine mj_callV h zGood (ev_Fl_isClient l D cA _ _ _ _ _ _ _ _) v_Fl_isClient l_Fl_wayOf_60 d_Fl_wayOf_60 rfl ⟨by decide, by decide⟩ ⟨by decide, by decide⟩ [(0, 0), (1, 1), (2, 2)] rfl rfl rfl rfl rfl rfl (Nat.le_of_ble_eq_true rfl) ?_
      rintro _ _ ⟨rfl, rfl⟩
      refine mj_k rfl rfl ?_
      first | refine mj_ifeqB h.1 (tgt := 68) d_Fl_wayOf_63 (by decide) (fun h3 => ?_) (fun h3 => ?_) | refine mj_ifeq h.1 (tgt := 68) d_Fl_wayOf_63 (by decide) (fun h3 => ?_) (fun h3 => ?_)
      · refine mj_blk h.1 b_Fl_wayOf_68 rfl trivial ?_
        exact mj_iret h rfl d_Fl_wayOf_69 (by decide) (by decide) ⟨by unfold fWay; rw [if_neg (fun z => h1 z.1), if_neg (fun z => h3 z.2)], rfl⟩
      · refine mj_blk h.1 b_Fl_wayOf_66 rfl trivial ?_
        exact mj_iret h rfl d_Fl_wayOf_67 (by decide) (by decide) ⟨by unfold fWay; rw [if_neg (fun z => h1 z.1), if_pos ⟨h2, h3⟩], rfl⟩
  · refine mj_blk h.1 b_Fl_wayOf_17 rfl trivial ?_
    refine mj_callV h zGood (ev_Fl_isServer l D cA _ _ _ _ _ _ _ _) v_Fl_isServer l_Fl_wayOf_26 d_Fl_wayOf_26 rfl ⟨by decide, by decide⟩ ⟨by decide, by decide⟩ [(0, 0), (1, 1), (2, 2)] rfl rfl rfl rfl rfl rfl (Nat.le_of_ble_eq_true rfl) ?_
    rintro _ _ ⟨rfl, rfl⟩
    refine mj_k rfl rfl ?_
    first | refine mj_ifeqB h.1 (tgt := 34) d_Fl_wayOf_29 (by decide) (fun h4 => ?_) (fun h4 => ?_) | refine mj_ifeq h.1 (tgt := 34) d_Fl_wayOf_29 (by decide) (fun h4 => ?_) (fun h4 => ?_)
    · refine mj_blk h.1 b_Fl_wayOf_34 rfl trivial ?_
      refine mj_callV h zGood (ev_Fl_isServer l D cA _ _ _ _ _ _ _ _) v_Fl_isServer l_Fl_wayOf_43 d_Fl_wayOf_43 rfl ⟨by decide, by decide⟩ ⟨by decide, by decide⟩ [(0, 0), (1, 1), (2, 2)] rfl rfl rfl rfl rfl rfl (Nat.le_of_ble_eq_true rfl) ?_
      rintro _ _ ⟨rfl, rfl⟩
      refine mj_k rfl rfl ?_
      refine mj_blk h.1 b_Fl_wayOf_46 rfl trivial ?_
      first | refine mj_ifeqB h.1 (tgt := 68) d_Fl_wayOf_48 (by decide) (fun h5 => ?_) (fun h5 => ?_) | refine mj_ifeq h.1 (tgt := 68) d_Fl_wayOf_48 (by decide) (fun h5 => ?_) (fun h5 => ?_)
      · refine mj_blk h.1 b_Fl_wayOf_68 rfl trivial ?_
        exact mj_iret h rfl d_Fl_wayOf_69 (by decide) (by decide) ⟨by unfold fWay; rw [if_neg (fun z => h4 z.2), if_neg (fun z => h5 z.1)], rfl⟩
      · refine mj_blk h.1 b_Fl_wayOf_51 rfl trivial ?_
        refine mj_callV h zGood (ev_Fl_isClient l D cA _ _ _ _ _ _ _ _) v_Fl_isClient l_Fl_wayOf_60 d_Fl_wayOf_60 rfl ⟨by decide, by decide⟩ ⟨by decide, by decide⟩ [(0, 0), (1, 1), (2, 2)] rfl rfl rfl rfl rfl rfl (Nat.le_of_ble_eq_true rfl) ?_
        rintro _ _ ⟨rfl, rfl⟩
        refine mj_k rfl rfl ?_
        first | refine mj_ifeqB h.1 (tgt := 68) d_Fl_wayOf_63 (by decide) (fun h6 => ?_) (fun h6 => ?_) | refine mj_ifeq h.1 (tgt := 68) d_Fl_wayOf_63 (by decide) (fun h6 => ?_) (fun h6 => ?_)
        · refine mj_blk h.1 b_Fl_wayOf_68 rfl trivial ?_
          exact mj_iret h rfl d_Fl_wayOf_69 (by decide) (by decide) ⟨by unfold fWay; rw [if_neg (fun z => h4 z.2), if_neg (fun z => h6 z.2)], rfl⟩
        · refine mj_blk h.1 b_Fl_wayOf_66 rfl trivial ?_
          exact mj_iret h rfl d_Fl_wayOf_67 (by decide) (by decide) ⟨by unfold fWay; rw [if_neg (fun z => h4 z.2), if_pos ⟨h5, h6⟩], rfl⟩
    · refine mj_blk h.1 b_Fl_wayOf_32 rfl trivial ?_
      exact mj_iret h rfl d_Fl_wayOf_33 (by decide) (by decide) ⟨by unfold fWay; rw [if_pos ⟨h1, h4⟩], rfl⟩
set_option maxRecDepth 100000 in
set_option maxHeartbeats 4000000 in
theorem ev_Fl_freeIfBothEnded (tx1 hd1 : Nat → Int32) (ts1 : Nat) (hs1 nx1 rr1 : Int32) (bg1 en1 : Bool) (tx2 hd2 : Nat → Int32) (ts2 : Nat) (hs2 nx2 rr2 : Int32) (bg2 en2 : Bool) : E0_Fl_freeIfBothEnded l D cA [.ref 0] [(0, cFl 1 2 ch cp sh sp ha lv), (1, cSm 3 4 ts1 hs1 nx1 rr1 bg1 en1), (3, cIs 80 tx1), (4, cIs 32 hd1), (2, cSm 5 6 ts2 hs2 nx2 rr2 bg2 en2), (5, cIs 80 tx2), (6, cIs 32 hd2)] none [(0, cFl 1 2 ch cp sh sp ha (if en1 ∧ en2 then false else lv)), (1, cSm 3 4 ts1 hs1 nx1 rr1 bg1 en1), (3, cIs 80 tx1), (4, cIs 32 hd1), (2, cSm 5 6 ts2 hs2 nx2 rr2 bg2 en2), (5, cIs 80 tx2), (6, cIs 32 hd2)] := by
  refine mj_ev (lv := [(0, .ref 0)]) (by decide +kernel) (Nat.le_of_ble_eq_true rfl) rfl (fun X h => ?_)
  refine mj_blk h.1 b_Fl_freeIfBothEnded_0 rfl trivial ?_
  refine mj_callV h zGood (ev_Sm_hasEnded l D cA _ _ _ _ _ _ _ _) v_Sm_hasEnded l_Fl_freeIfBothEnded_4 d_Fl_freeIfBothEnded_4 rfl ⟨by decide, by decide⟩ ⟨by decide, by decide⟩ [(0, 1), (1, 3), (2, 4)] rfl rfl rfl rfl rfl rfl (Nat.le_of_ble_eq_true rfl) ?_
  rintro _ _ ⟨rfl, rfl⟩
  refine mj_k rfl rfl ?_
  first | refine mj_ifeqB h.1 (tgt := 24) d_Fl_freeIfBothEnded_7 (by decide) (fun h1 => ?_) (fun h1 => ?_) | refine mj_ifeq h.1 (tgt := 24) d_Fl_freeIfBothEnded_7 (by decide) (fun h1 => ?_) (fun h1 => ?_)
  · exact mj_vret h rfl d_Fl_freeIfBothEnded_24 (by decide) (by decide) ⟨rfl, by rw [if_neg (show ¬ (en1 = true ∧ en2 = true) from fun z => h1 z.1)]⟩
  · refine mj_blk h.1 b_Fl_freeIfBothEnded_10 rfl trivial ?_
    refine mj_callV h zGood (ev_Sm_hasEnded l D cA _ _ _ _ _ _ _ _) v_Sm_hasEnded l_Fl_freeIfBothEnded_14 d_Fl_freeIfBothEnded_14 rfl ⟨by decide, by decide⟩ ⟨by decide, by decide⟩ [(0, 2), (1, 5), (2, 6)] rfl rfl rfl rfl rfl rfl (Nat.le_of_ble_eq_true rfl) ?_
    rintro _ _ ⟨rfl, rfl⟩
    refine mj_k rfl rfl ?_
    first | refine mj_ifeqB h.1 (tgt := 24) d_Fl_freeIfBothEnded_17 (by decide) (fun h2 => ?_) (fun h2 => ?_) | refine mj_ifeq h.1 (tgt := 24) d_Fl_freeIfBothEnded_17 (by decide) (fun h2 => ?_) (fun h2 => ?_)
    · exact mj_vret h rfl d_Fl_freeIfBothEnded_24 (by decide) (by decide) ⟨rfl, by rw [if_neg (show ¬ (en1 = true ∧ en2 = true) from fun z => h2 z.2)]⟩
    · refine mj_blk h.1 b_Fl_freeIfBothEnded_20 rfl trivial ?_
      refine mj_callV h zGood (ev_Fl_free l D cA _ _ _ _ _ _) v_Fl_free l_Fl_freeIfBothEnded_21 d_Fl_freeIfBothEnded_21 rfl ⟨by decide, by decide⟩ ⟨by decide, by decide⟩ [(0, 0), (1, 1), (2, 2)] rfl rfl rfl rfl rfl rfl (Nat.le_of_ble_eq_true rfl) ?_
      rintro _ _ ⟨rfl, rfl⟩
      refine mj_k rfl rfl ?_
      exact mj_vret h rfl d_Fl_freeIfBothEnded_24 (by decide) (by decide) ⟨rfl, by rw [if_pos (show en1 = true ∧ en2 = true from ⟨h1, h2⟩)]⟩
set_option maxRecDepth 100000 in
set_option maxHeartbeats 4000000 in
theorem ev_Fl_open (tx1 hd1 : Nat → Int32) (ts1 : Nat) (hs1 nx1 rr1 : Int32) (bg1 en1 : Bool) (tx2 hd2 : Nat → Int32) (ts2 : Nat) (hs2 nx2 rr2 : Int32) (bg2 en2 : Bool) (fh fp th tp fn ds dz fg : Int32) : E0_Fl_open l D cA [.ref 0, .ref 7] [(0, cFl 1 2 ch cp sh sp ha lv), (1, cSm 3 4 ts1 hs1 nx1 rr1 bg1 en1), (3, cIs 80 tx1), (4, cIs 32 hd1), (2, cSm 5 6 ts2 hs2 nx2 rr2 bg2 en2), (5, cIs 80 tx2), (6, cIs 32 hd2), (7, cPk fh fp th tp fn ds dz fg)] none [(0, cFl 1 2 fh fp th tp ha true), (1, cSm 3 4 0 0 0 0 false false), (3, cIs 80 tx1), (4, cIs 32 (sFill 32 0 hd1)), (2, cSm 5 6 0 0 0 0 false false), (5, cIs 80 tx2), (6, cIs 32 (sFill 32 0 hd2)), (7, cPk fh fp th tp fn ds dz fg)] := by
  refine mj_ev (lv := [(0, .ref 0), (1, .ref 7)]) (by decide +kernel) (Nat.le_of_ble_eq_true rfl) rfl (fun X h => ?_)
  refine mj_blk h.1 b_Fl_open_0 rfl ⟨Or.inr rfl, trivial⟩ ?_
  refine mj_callV h zGood (ev_Sm_reset l D cA _ _ _ _ _ _ _ _) v_Sm_reset l_Fl_open_41 d_Fl_open_41 rfl ⟨by decide, by decide⟩ ⟨by decide, by decide⟩ [(0, 1), (1, 3), (2, 4)] rfl rfl rfl rfl rfl rfl (Nat.le_of_ble_eq_true rfl) ?_
  rintro _ _ ⟨rfl, rfl⟩
  refine mj_k rfl rfl ?_
  refine mj_blk h.1 b_Fl_open_44 rfl trivial ?_
  refine mj_callV h zGood (ev_Sm_reset l D cA _ _ _ _ _ _ _ _) v_Sm_reset l_Fl_open_48 d_Fl_open_48 rfl ⟨by decide, by decide⟩ ⟨by decide, by decide⟩ [(0, 2), (1, 5), (2, 6)] rfl rfl rfl rfl rfl rfl (Nat.le_of_ble_eq_true rfl) ?_
  rintro _ _ ⟨rfl, rfl⟩
  refine mj_k rfl rfl ?_
  exact mj_vret h rfl d_Fl_open_51 (by decide) (by decide) ⟨rfl, rfl⟩
end FLOW
end
section
/-! Rule (its options' places: o, a list of three), Option -/
abbrev cRu (a : Nat) (wy pt : Int32) (c : Nat) : mj_C := .inr (6, [.int wy, .int pt, .ref a, .int (nI c)])
abbrev cOs (o : List (Option Nat)) : mj_C := .inl (5, 3, .inr (.inr o))
abbrev cOp (nt rl : Bool) (le mo sz : Int32) (ct : Int64) (ac : Bool) : mj_C := .inr (4, [.int (if nt then 1 else 0), .int (if rl then 1 else 0), .int le, .int mo, .int sz, .long ct, .int (if ac then 1 else 0)])
def oFo (ac : Bool) (x : Int32) : Int32 := if ac then (if x < 65 then x else if 90 < x then x else x - 65 + 97) else x
section RULE
variable (l : Launch) (D : va_G) (cA : Nat → ClassId) (wy pt : Int32) (c : Nat)

set_option maxRecDepth 100000 in
set_option maxHeartbeats 4000000 in
theorem ev_Ru_size : E0_Ru_size l D cA [.ref 0] [(0, cRu 1 wy pt c)] (some (.int (nI c))) [(0, cRu 1 wy pt c)] := by
  refine mj_ev (lv := [(0, .ref 0)]) (by decide +kernel) (Nat.le_of_ble_eq_true rfl) rfl (fun X h => ?_)
  refine mj_blk h.1 b_Ru_size_0 rfl trivial ?_
  exact mj_iret h rfl d_Ru_size_4 (by decide) (by decide) ⟨rfl, rfl⟩
set_option maxRecDepth 100000 in
set_option maxHeartbeats 4000000 in
theorem ev_Ru_isFor (w p : Int32) : E0_Ru_isFor l D cA [.ref 0, .int w, .int p] [(0, cRu 1 wy pt c)] (some (.int (if (wy = 2 ∨ wy = w) ∧ (pt = 0 ∨ pt = p) then 1 else 0))) [(0, cRu 1 wy pt c)] := by
  refine mj_ev (lv := [(0, .ref 0), (1, .int w), (2, .int p)]) (by decide +kernel) (Nat.le_of_ble_eq_true rfl) rfl (fun X h => ?_)
  refine mj_blk h.1 b_Ru_isFor_0 rfl trivial ?_
  refine mj_iceq h.1 (tgt := 16) d_Ru_isFor_5 (by decide) (fun h1 => ?_) (fun h1 => ?_)
  · refine mj_blk h.1 b_Ru_isFor_16 rfl trivial ?_
    refine mj_blk h.1 b_Ru_isFor_21 rfl trivial ?_
    refine mj_ifeq1 h.1 (tgt := 45) d_Ru_isFor_23 (by decide) ?_
    refine mj_blk h.1 b_Ru_isFor_26 rfl trivial ?_
    first | refine mj_ifeqB h.1 (tgt := 41) d_Ru_isFor_30 (by decide) (fun h3 => ?_) (fun h3 => ?_) | refine mj_ifeq h.1 (tgt := 41) d_Ru_isFor_30 (by decide) (fun h3 => ?_) (fun h3 => ?_)
    · refine mj_blk h.1 b_Ru_isFor_41 rfl trivial ?_
      exact mj_zret h rfl (by first | exact Or.inl rfl | exact Or.inr rfl) d_Ru_isFor_46 (by decide) (by decide) ⟨by rw [if_pos ⟨Or.inl h1, Or.inl h3⟩], rfl⟩
    · refine mj_blk h.1 b_Ru_isFor_33 rfl trivial ?_
      refine mj_icne h.1 (tgt := 45) d_Ru_isFor_38 (by decide) (fun h4 => ?_) (fun h4 => ?_)
      · refine mj_blk h.1 b_Ru_isFor_45 rfl trivial ?_
        exact mj_zret h rfl (by first | exact Or.inl rfl | exact Or.inr rfl) d_Ru_isFor_46 (by decide) (by decide) ⟨by rw [if_neg (fun z => z.2.elim h3 h4)], rfl⟩
      · refine mj_blk h.1 b_Ru_isFor_41 rfl trivial ?_
        exact mj_zret h rfl (by first | exact Or.inl rfl | exact Or.inr rfl) d_Ru_isFor_46 (by decide) (by decide) ⟨by rw [if_pos ⟨Or.inl h1, Or.inr h4⟩], rfl⟩
  · refine mj_blk h.1 b_Ru_isFor_8 rfl trivial ?_
    refine mj_icne h.1 (tgt := 20) d_Ru_isFor_13 (by decide) (fun h5 => ?_) (fun h5 => ?_)
    · refine mj_blk h.1 b_Ru_isFor_20 rfl trivial ?_
      refine mj_blk h.1 b_Ru_isFor_21 rfl trivial ?_
      refine mj_ifeq0 h.1 (tgt := 45) d_Ru_isFor_23 (by decide) ?_
      refine mj_blk h.1 b_Ru_isFor_45 rfl trivial ?_
      exact mj_zret h rfl (by first | exact Or.inl rfl | exact Or.inr rfl) d_Ru_isFor_46 (by decide) (by decide) ⟨by rw [if_neg (fun z => z.1.elim h1 h5)], rfl⟩
    · refine mj_blk h.1 b_Ru_isFor_16 rfl trivial ?_
      refine mj_blk h.1 b_Ru_isFor_21 rfl trivial ?_
      refine mj_ifeq1 h.1 (tgt := 45) d_Ru_isFor_23 (by decide) ?_
      refine mj_blk h.1 b_Ru_isFor_26 rfl trivial ?_
      first | refine mj_ifeqB h.1 (tgt := 41) d_Ru_isFor_30 (by decide) (fun h8 => ?_) (fun h8 => ?_) | refine mj_ifeq h.1 (tgt := 41) d_Ru_isFor_30 (by decide) (fun h8 => ?_) (fun h8 => ?_)
      · refine mj_blk h.1 b_Ru_isFor_41 rfl trivial ?_
        exact mj_zret h rfl (by first | exact Or.inl rfl | exact Or.inr rfl) d_Ru_isFor_46 (by decide) (by decide) ⟨by rw [if_pos ⟨Or.inr h5, Or.inl h8⟩], rfl⟩
      · refine mj_blk h.1 b_Ru_isFor_33 rfl trivial ?_
        refine mj_icne h.1 (tgt := 45) d_Ru_isFor_38 (by decide) (fun h9 => ?_) (fun h9 => ?_)
        · refine mj_blk h.1 b_Ru_isFor_45 rfl trivial ?_
          exact mj_zret h rfl (by first | exact Or.inl rfl | exact Or.inr rfl) d_Ru_isFor_46 (by decide) (by decide) ⟨by rw [if_neg (fun z => z.2.elim h8 h9)], rfl⟩
        · refine mj_blk h.1 b_Ru_isFor_41 rfl trivial ?_
          exact mj_zret h rfl (by first | exact Or.inl rfl | exact Or.inr rfl) d_Ru_isFor_46 (by decide) (by decide) ⟨by rw [if_pos ⟨Or.inr h5, Or.inr h9⟩], rfl⟩
set_option maxRecDepth 100000 in
set_option maxHeartbeats 4000000 in
theorem ev_Ru_at (o : List (Option Nat)) (hc : c ≤ 3) (i a : Nat) (hi : i < c) (ha : o.getD i none = some a) : E0_Ru_at l D cA [.ref 0, .int (nI i)] [(0, cRu 1 wy pt c), (1, cOs o)] (some (.ref a)) [(0, cRu 1 wy pt c), (1, cOs o)] := by
  refine mj_ev (lv := [(0, .ref 0), (1, .int (nI i))]) (by decide +kernel) (Nat.le_of_ble_eq_true rfl) rfl (fun X h => ?_)
  refine mj_blk h.1 b_Ru_at_0 rfl trivial ?_
  refine mj_iflt h.1 (tgt := 21) d_Ru_at_1 (by decide) (fun h1 => ?_) (fun h1 => ?_)
  · first | exact absurd h1 (nI_pos (by omega)) | exact absurd h2 (nI_ge hi (by omega))
  · refine mj_blk h.1 b_Ru_at_4 rfl trivial ?_
    refine mj_icge h.1 (tgt := 21) d_Ru_at_9 (by decide) (fun h2 => ?_) (fun h2 => ?_)
    · first | exact absurd h1 (nI_pos (by omega)) | exact absurd h2 (nI_ge hi (by omega))
    · refine mj_blk h.1 b_Ru_at_12 rfl ⟨vp_in_nI (by omega) (by decide), trivial⟩ ?_
      rw [nI_clamp (by omega), ha]
      exact mj_aret h rfl d_Ru_at_22 (by decide) (by decide) ⟨rfl, rfl⟩
end RULE
section OPTN
variable (l : Launch) (D : va_G) (cA : Nat → ClassId) (nt rl : Bool) (le mo sz : Int32) (ct : Int64) (ac : Bool)

set_option maxRecDepth 100000 in
set_option maxHeartbeats 4000000 in
theorem ev_Op_folded (x : Int32) : E0_Op_folded l D cA [.ref 0, .int x] [(0, cOp nt rl le mo sz ct ac)] (some (.int (oFo ac x))) [(0, cOp nt rl le mo sz ct ac)] := by
  refine mj_ev (lv := [(0, .ref 0), (1, .int x)]) (by decide +kernel) (Nat.le_of_ble_eq_true rfl) rfl (fun X h => ?_)
  refine mj_blk h.1 b_Op_folded_0 rfl trivial ?_
  first | refine mj_ifeqB h.1 (tgt := 29) d_Op_folded_4 (by decide) (fun h1 => ?_) (fun h1 => ?_) | refine mj_ifeq h.1 (tgt := 29) d_Op_folded_4 (by decide) (fun h1 => ?_) (fun h1 => ?_)
  · refine mj_blk h.1 b_Op_folded_29 rfl trivial ?_
    exact mj_iret h rfl d_Op_folded_30 (by decide) (by decide) ⟨by unfold oFo; rw [if_neg h1], rfl⟩
  · refine mj_blk h.1 b_Op_folded_7 rfl trivial ?_
    refine mj_iclt h.1 (tgt := 29) d_Op_folded_10 (by decide) (fun h2 => ?_) (fun h2 => ?_)
    · refine mj_blk h.1 b_Op_folded_29 rfl trivial ?_
      exact mj_iret h rfl d_Op_folded_30 (by decide) (by decide) ⟨by unfold oFo; rw [if_pos h1, if_pos h2], rfl⟩
    · refine mj_blk h.1 b_Op_folded_13 rfl trivial ?_
      refine mj_icgt h.1 (tgt := 29) d_Op_folded_16 (by decide) (fun h3 => ?_) (fun h3 => ?_)
      · refine mj_blk h.1 b_Op_folded_29 rfl trivial ?_
        exact mj_iret h rfl d_Op_folded_30 (by decide) (by decide) ⟨by unfold oFo; rw [if_pos h1, if_neg h2, if_pos h3], rfl⟩
      · refine mj_blk h.1 b_Op_folded_19 rfl trivial ?_
        exact mj_iret h rfl d_Op_folded_30 (by decide) (by decide) ⟨by unfold oFo; rw [if_pos h1, if_neg h2, if_neg h3], rfl⟩
/-- the content's byte i -/
abbrev oB (sz : Int32) (ct : Int64) (i : Int32) : Int32 := wB ct (sz - 1 - i)
abbrev sAt (tx : Nat → Int32) (ts : Nat) (k : Int32) : Int32 := if 0 ≤ k ∧ k < nI ts then tx k.toNatClampNeg else -1
/-- the content's r bytes from i on stand in the text from place p on -/
def oSame (ac : Bool) (s : Nat) (ct : Int64) (tx : Nat → Int32) (ts : Nat) (p : Int32) : Nat → Nat → Bool
  | 0, _ => true
  | r + 1, i => decide (oFo ac (sAt tx ts (p + nI i)) = oFo ac (oB (nI s) ct (nI i))) && oSame ac s ct tx ts p r (i + 1)
def oSt (ac : Bool) (s : Nat) (ct : Int64) (tx : Nat → Int32) (ts : Nat) (p : Int32) : Bool := decide (p + nI s ≤ nI ts) && oSame ac s ct tx ts p s 0
set_option maxRecDepth 100000 in
set_option maxHeartbeats 4000000 in
theorem lp_Op_standsAt {X : mj_X} {post : mj_R} (s : Nat) (hs9 : s ≤ 6) (tx : Nat → Int32) (ts : Nat) (ht : ts ≤ 80) (hd : Nat → Int32) (hs nx rr : Int32) (bg en : Bool) (p : Int32) (h : mj_E zG X l D cA m_Op_standsAt 1 40 0 0 (fun _ => True) post) : ∀ (r i : Nat), i + r = s → post (some (.int (if oSame ac s ct tx ts p r i then 1 else 0))) [(0, cOp nt rl le mo (nI s) ct ac), (1, cSm 2 3 ts hs nx rr bg en), (2, cIs 80 tx), (3, cIs 32 hd)] → mj_W zG X 0 0 17 [(3, .int (nI i)), (0, .ref 0), (1, .int p), (2, .ref 1)] [] [(0, cOp nt rl le mo (nI s) ct ac), (1, cSm 2 3 ts hs nx rr bg en), (2, cIs 80 tx), (3, cIs 32 hd)] := by
  intro r
  induction r with
  | zero =>
    intro i hi hp
    refine mj_blk h.1 b_Op_standsAt_17 rfl trivial ?_
    refine mj_icge h.1 (tgt := 76) d_Op_standsAt_22 (by decide) (fun h1 => ?_) (fun h1 => ?_)
    · refine mj_blk h.1 b_Op_standsAt_76 rfl trivial ?_
      exact mj_zret h rfl (Or.inr rfl) d_Op_standsAt_77 (by decide) (by decide) hp
    · exact absurd (nI_le (by omega) (by omega)) h1
  | succ r ih =>
    intro i hi hp
    refine mj_blk h.1 b_Op_standsAt_17 rfl trivial ?_
    refine mj_icge h.1 (tgt := 76) d_Op_standsAt_22 (by decide) (fun h1 => ?_) (fun h1 => ?_)
    · exact absurd ((nI_leI (by omega) (by omega)).mp h1) (by omega)
    · refine mj_blk h.1 b_Op_standsAt_25 rfl trivial ?_
      refine mj_callV h zGood (ev_Sm_byteAt l D cA _ _ _ _ _ _ _ _ ht _) v_Sm_byteAt l_Op_standsAt_53 d_Op_standsAt_53 rfl ⟨by decide, by decide⟩ ⟨by decide, by decide⟩ [(0, 1), (1, 2), (2, 3)] rfl rfl rfl rfl rfl rfl (Nat.le_of_ble_eq_true rfl) ?_
      rintro _ _ ⟨rfl, rfl⟩
      refine mj_k rfl rfl ?_
      refine mj_callV h zGood (ev_Op_folded l D cA _ _ _ _ _ _ _ _) v_Op_folded l_Op_standsAt_56 d_Op_standsAt_56 rfl ⟨by decide, by decide⟩ ⟨by decide, by decide⟩ [(0, 0)] rfl rfl rfl rfl rfl rfl (Nat.le_of_ble_eq_true rfl) ?_
      rintro _ _ ⟨rfl, rfl⟩
      refine mj_k rfl rfl ?_
      refine mj_blk h.1 b_Op_standsAt_59 rfl trivial ?_
      refine mj_callV h zGood (ev_Op_folded l D cA _ _ _ _ _ _ _ _) v_Op_folded l_Op_standsAt_62 d_Op_standsAt_62 rfl ⟨by decide, by decide⟩ ⟨by decide, by decide⟩ [(0, 0)] rfl rfl rfl rfl rfl rfl (Nat.le_of_ble_eq_true rfl) ?_
      rintro _ _ ⟨rfl, rfl⟩
      refine mj_k rfl rfl ?_
      refine mj_iceq h.1 (tgt := 70) d_Op_standsAt_65 (by decide) (fun h2 => ?_) (fun h2 => ?_)
      · refine mj_blk h.1 b_Op_standsAt_70 rfl trivial ?_
        refine mj_lpk [0, 2, 3, 4] rfl ?_
        have hp2 := hp
        unfold oSame at hp2
        rw [decide_eq_true (show oFo ac (sAt tx ts (p + nI i)) = oFo ac (oB (nI s) ct (nI i)) from h2), Bool.true_and] at hp2
        rw [show nI i + 1 = nI (i + 1) from (nI_succ i).symm]
        exact ih (i + 1) (by omega) hp2
      · have hp2 := hp
        unfold oSame at hp2
        rw [decide_eq_false (show ¬ oFo ac (sAt tx ts (p + nI i)) = oFo ac (oB (nI s) ct (nI i)) from h2), Bool.false_and] at hp2
        refine mj_blk h.1 b_Op_standsAt_68 rfl trivial ?_
        exact mj_zret h rfl (Or.inl rfl) d_Op_standsAt_69 (by decide) (by decide) hp2
set_option maxRecDepth 100000 in
set_option maxHeartbeats 4000000 in
theorem ev_Op_standsAt (s : Nat) (hs9 : s ≤ 6) (tx : Nat → Int32) (ts : Nat) (ht : ts ≤ 80) (hd : Nat → Int32) (hs nx rr : Int32) (bg en : Bool) (p : Int32) : E0_Op_standsAt l D cA [.ref 0, .int p, .ref 1] [(0, cOp nt rl le mo (nI s) ct ac), (1, cSm 2 3 ts hs nx rr bg en), (2, cIs 80 tx), (3, cIs 32 hd)] (some (.int (if oSt ac s ct tx ts p then 1 else 0))) [(0, cOp nt rl le mo (nI s) ct ac), (1, cSm 2 3 ts hs nx rr bg en), (2, cIs 80 tx), (3, cIs 32 hd)] := by
  refine mj_ev (lv := [(0, .ref 0), (1, .int p), (2, .ref 1)]) (by decide +kernel) (Nat.le_of_ble_eq_true rfl) rfl (fun X h => ?_)
  refine mj_blk h.1 b_Op_standsAt_0 rfl trivial ?_
  refine mj_callV h zGood (ev_Sm_size l D cA _ _ _ _ _ _ _ _) v_Sm_size l_Op_standsAt_7 d_Op_standsAt_7 rfl ⟨by decide, by decide⟩ ⟨by decide, by decide⟩ [(0, 1), (1, 2), (2, 3)] rfl rfl rfl rfl rfl rfl (Nat.le_of_ble_eq_true rfl) ?_
  rintro _ _ ⟨rfl, rfl⟩
  refine mj_k rfl rfl ?_
  refine mj_icle h.1 (tgt := 15) d_Op_standsAt_10 (by decide) (fun h1 => ?_) (fun h1 => ?_)
  · refine mj_blk h.1 b_Op_standsAt_15 rfl trivial ?_
    exact lp_Op_standsAt l D cA nt rl le mo ct ac s hs9 tx ts ht hd hs nx rr bg en p h s 0 (by omega) ⟨by unfold oSt; rw [decide_eq_true h1, Bool.true_and], rfl⟩
  · refine mj_blk h.1 b_Op_standsAt_13 rfl trivial ?_
    exact mj_zret h rfl (Or.inl rfl) d_Op_standsAt_14 (by decide) (by decide) ⟨by unfold oSt; rw [decide_eq_false h1, Bool.false_and]; rfl, rfl⟩
end OPTN
end
section
/-! Search: bases at 1, found at 2, the option at 7, the stream at 8 -/
abbrev cMk (a b : Nat) (tp : Int32) : mj_C := .inr (3, [.ref a, .ref b, .int tp])
abbrev cBs (g : Nat → Int32) : mj_C := .inl (1, 81, .inl g)
abbrev cSe : mj_C := .inr (7, [.ref 1, .ref 2])
abbrev kAny (lt : Nat → Int32) (e : Nat) (a b : Int32) : Prop := ¬ (if nI e < b then nI e else b) < 0 ∧ ¬ lt (if nI e < b then nI e else b).toNatClampNeg < (if a < 0 then 0 else a)
def vFind (ac : Bool) (s : Nat) (ct : Int64) (tx : Nat → Int32) (ts : Nat) : Nat → Nat → (Nat → Int32) → (Nat → Int32)
  | 0, _, g => g
  | r + 1, p, g => vFind ac s ct tx ts r (p + 1) (upd g p (if oSt ac s ct tx ts (nI p) then 1 else 0))
def vDrop (rl : Bool) (le mo : Int32) (fl : Nat → Int32) (e : Nat) : Nat → Nat → (Nat → Int32) → (Nat → Int32)
  | 0, _, g => g
  | r + 1, p, g => vDrop rl le mo fl e r (p + 1) (if kAny fl e ((if rl then nI p else 0) + le) ((if rl then nI p else 0) + mo) then upd g p 0 else g)
abbrev vHit (le mo sz : Int32) (fm bl : Nat → Int32) (e : Nat) (p : Int32) : Prop := (¬ p - sz < 0 ∧ ¬ 80 < p - sz ∧ ¬ fm (p - sz).toNatClampNeg = 0) ∧ kAny bl e (p - sz - mo) (p - sz - le)
def vMove (le mo sz : Int32) (fm bl : Nat → Int32) (e : Nat) : Nat → Nat → (Nat → Int32) → (Nat → Int32)
  | 0, _, g => g
  | r + 1, p, g => vMove le mo sz fm bl e r (p + 1) (upd g p (if vHit le mo sz fm bl e (nI p) then 1 else 0))
section SEARCH
variable (l : Launch) (D : va_G) (cA : Nat → ClassId) (nt rl : Bool) (le mo : Int32) (s : Nat) (ct : Int64) (ac : Bool) (tx : Nat → Int32) (ts : Nat) (hd : Nat → Int32) (hs nx rr : Int32) (bg en : Bool)

set_option maxRecDepth 100000 in
set_option maxHeartbeats 4000000 in
theorem lp_Se_find {X : mj_X} {post : mj_R} (hs9 : s ≤ 6) (ht : ts ≤ 80) (bm bl : Nat → Int32) (bt : Int32) (fl : Nat → Int32) (ft : Int32) (h : mj_E zG X l D cA m_Se_find 2 80 0 0 (fun _ => True) post) : ∀ (r p : Nat) (fm : Nat → Int32), p + r = ts + 1 → post none [(0, cSe), (1, cMk 3 4 bt), (3, cBs bm), (4, cIs 81 bl), (2, cMk 5 6 (nI ts)), (5, cBs (vFind ac s ct tx ts r p fm)), (6, cIs 81 (kSet (ts + 1) 0 (-1) (vFind ac s ct tx ts r p fm) fl)), (7, cOp nt rl le mo (nI s) ct ac), (8, cSm 9 10 ts hs nx rr bg en), (9, cIs 80 tx), (10, cIs 32 hd)] → mj_W zG X 0 0 8 [(4, .int (nI p)), (3, .int (nI ts)), (0, .ref 0), (1, .ref 7), (2, .ref 8)] [] [(0, cSe), (1, cMk 3 4 bt), (3, cBs bm), (4, cIs 81 bl), (2, cMk 5 6 ft), (5, cBs fm), (6, cIs 81 fl), (7, cOp nt rl le mo (nI s) ct ac), (8, cSm 9 10 ts hs nx rr bg en), (9, cIs 80 tx), (10, cIs 32 hd)] := by
  intro r
  induction r with
  | zero =>
    intro p fm hi hp
    refine mj_blk h.1 b_Se_find_8 rfl trivial ?_
    refine mj_icgt h.1 (tgt := 36) d_Se_find_11 (by decide) (fun h1 => ?_) (fun h1 => ?_)
    · refine mj_blk h.1 b_Se_find_36 rfl trivial ?_
      refine mj_callV h zGood (ev_Mk_settle l D cA _ _ _ ts ht) v_Mk_settle l_Se_find_41 d_Se_find_41 rfl ⟨by decide, by decide⟩ ⟨by decide, by decide⟩ [(0, 2), (1, 5), (2, 6)] rfl rfl rfl rfl rfl rfl (Nat.le_of_ble_eq_true rfl) ?_
      rintro _ _ ⟨rfl, rfl⟩
      refine mj_k rfl rfl ?_
      exact mj_vret h rfl d_Se_find_44 (by decide) (by decide) hp
    · exact absurd ((nI_ltI (by omega) (by omega)).mpr (by omega)) h1
  | succ r ih =>
    intro p fm hi hp
    refine mj_blk h.1 b_Se_find_8 rfl trivial ?_
    refine mj_icgt h.1 (tgt := 36) d_Se_find_11 (by decide) (fun h1 => ?_) (fun h1 => ?_)
    · exact absurd ((nI_ltI (by omega) (by omega)).mp h1) (by omega)
    · refine mj_blk h.1 b_Se_find_14 rfl trivial ?_
      refine mj_callV h zGood (ev_Op_standsAt l D cA _ _ _ _ _ _ s hs9 _ _ ht _ _ _ _ _ _ _) v_Op_standsAt l_Se_find_24 d_Se_find_24 rfl ⟨by decide, by decide⟩ ⟨by decide, by decide⟩ [(0, 7), (1, 8), (2, 9), (3, 10)] rfl rfl rfl rfl rfl rfl (Nat.le_of_ble_eq_true rfl) ?_
      rintro _ _ ⟨rfl, rfl⟩
      refine mj_k rfl rfl ?_
      refine mj_callV h zGood (ev_Mk_set l D cA _ _ _ (nI p) _ mj_z01) v_Mk_set l_Se_find_27 d_Se_find_27 rfl ⟨by decide, by decide⟩ ⟨by decide, by decide⟩ [(0, 2), (1, 5), (2, 6)] rfl rfl rfl rfl rfl rfl (Nat.le_of_ble_eq_true rfl) ?_
      rintro _ _ ⟨rfl, rfl⟩
      rw [kPut_in (by omega)]
      refine mj_k rfl rfl ?_
      refine mj_blk h.1 b_Se_find_30 rfl trivial ?_
      rw [show nI p + 1 = nI (p + 1) from (nI_succ p).symm]
      exact ih (p + 1) _ (by omega) hp
set_option maxRecDepth 100000 in
set_option maxHeartbeats 4000000 in
theorem ev_Se_find (hs9 : s ≤ 6) (ht : ts ≤ 80) (bm bl : Nat → Int32) (bt : Int32) (fm fl : Nat → Int32) (ft : Int32) : E0_Se_find l D cA [.ref 0, .ref 7, .ref 8] [(0, cSe), (1, cMk 3 4 bt), (3, cBs bm), (4, cIs 81 bl), (2, cMk 5 6 ft), (5, cBs fm), (6, cIs 81 fl), (7, cOp nt rl le mo (nI s) ct ac), (8, cSm 9 10 ts hs nx rr bg en), (9, cIs 80 tx), (10, cIs 32 hd)] none [(0, cSe), (1, cMk 3 4 bt), (3, cBs bm), (4, cIs 81 bl), (2, cMk 5 6 (nI ts)), (5, cBs (vFind ac s ct tx ts (ts + 1) 0 fm)), (6, cIs 81 (kSet (ts + 1) 0 (-1) (vFind ac s ct tx ts (ts + 1) 0 fm) fl)), (7, cOp nt rl le mo (nI s) ct ac), (8, cSm 9 10 ts hs nx rr bg en), (9, cIs 80 tx), (10, cIs 32 hd)] := by
  refine mj_ev (lv := [(0, .ref 0), (1, .ref 7), (2, .ref 8)]) (by decide +kernel) (Nat.le_of_ble_eq_true rfl) rfl (fun X h => ?_)
  refine mj_blk h.1 b_Se_find_0 rfl trivial ?_
  refine mj_callV h zGood (ev_Sm_size l D cA _ _ _ _ _ _ _ _) v_Sm_size l_Se_find_1 d_Se_find_1 rfl ⟨by decide, by decide⟩ ⟨by decide, by decide⟩ [(0, 8), (1, 9), (2, 10)] rfl rfl rfl rfl rfl rfl (Nat.le_of_ble_eq_true rfl) ?_
  rintro _ _ ⟨rfl, rfl⟩
  refine mj_k rfl rfl ?_
  refine mj_blk h.1 b_Se_find_4 rfl trivial ?_
  exact lp_Se_find l D cA nt rl le mo s ct ac tx ts hd hs nx rr bg en hs9 ht bm bl bt fl ft h (ts + 1) 0 fm (by omega) ⟨rfl, rfl⟩
set_option maxRecDepth 100000 in
set_option maxHeartbeats 4000000 in
theorem lp_Se_drop {X : mj_X} {post : mj_R} (e : Nat) (he : e ≤ 80) (bl fm fl : Nat → Int32) (h : mj_E zG X l D cA m_Se_dropBases 2 80 0 0 (fun _ => True) post) : ∀ (r p : Nat) (bm : Nat → Int32), p + r = e + 1 → post none [(0, cSe), (1, cMk 3 4 (nI e)), (3, cBs (vDrop rl le mo fl e r p bm)), (4, cIs 81 bl), (2, cMk 5 6 (nI e)), (5, cBs fm), (6, cIs 81 fl), (7, cOp nt rl le mo (nI s) ct ac)] → mj_W zG X 0 0 2 [(3, .int (nI p)), (0, .ref 0), (1, .ref 7), (2, .int (nI e))] [] [(0, cSe), (1, cMk 3 4 (nI e)), (3, cBs bm), (4, cIs 81 bl), (2, cMk 5 6 (nI e)), (5, cBs fm), (6, cIs 81 fl), (7, cOp nt rl le mo (nI s) ct ac)] := by
  intro r
  induction r with
  | zero =>
    intro p bm hi hp
    refine mj_blk h.1 b_Se_dropBases_2 rfl trivial ?_
    refine mj_icgt h.1 (tgt := 60) d_Se_dropBases_4 (by decide) (fun h1 => ?_) (fun h1 => ?_)
    · exact mj_vret h rfl d_Se_dropBases_60 (by decide) (by decide) hp
    · exact absurd ((nI_ltI (by omega) (by omega)).mpr (by omega)) h1
  | succ r ih =>
    intro p bm hi hp
    refine mj_blk h.1 b_Se_dropBases_2 rfl trivial ?_
    refine mj_icgt h.1 (tgt := 60) d_Se_dropBases_4 (by decide) (fun h1 => ?_) (fun h1 => ?_)
    · exact absurd ((nI_ltI (by omega) (by omega)).mp h1) (by omega)
    · refine mj_blk h.1 b_Se_dropBases_7 rfl trivial ?_
      first | refine mj_ifeqB h.1 (tgt := 18) d_Se_dropBases_11 (by decide) (fun h2 => ?_) (fun h2 => ?_) | refine mj_ifeq h.1 (tgt := 18) d_Se_dropBases_11 (by decide) (fun h2 => ?_) (fun h2 => ?_)
      · refine mj_blk h.1 b_Se_dropBases_18 rfl trivial ?_
        refine mj_blk h.1 b_Se_dropBases_19 rfl trivial ?_
        refine mj_callV h zGood (ev_Mk_isAnyIn l D cA _ _ e he _ _) v_Mk_isAnyIn l_Se_dropBases_39 d_Se_dropBases_39 rfl ⟨by decide, by decide⟩ ⟨by decide, by decide⟩ [(0, 2), (1, 5), (2, 6)] rfl rfl rfl rfl rfl rfl (Nat.le_of_ble_eq_true rfl) ?_
        rintro _ _ ⟨rfl, rfl⟩
        refine mj_k rfl rfl ?_
        first | refine mj_ifeqB h.1 (tgt := 54) d_Se_dropBases_42 (by decide) (fun h3 => ?_) (fun h3 => ?_) | refine mj_ifeq h.1 (tgt := 54) d_Se_dropBases_42 (by decide) (fun h3 => ?_) (fun h3 => ?_)
        · refine mj_blk h.1 b_Se_dropBases_54 rfl trivial ?_
          refine mj_lpk [0, 2, 3, 4] rfl ?_
          have hp2 := hp
          unfold vDrop at hp2
          rw [if_neg h2, if_neg h3] at hp2
          rw [show nI p + 1 = nI (p + 1) from (nI_succ p).symm]
          exact ih (p + 1) _ (by omega) hp2
        · refine mj_blk h.1 b_Se_dropBases_45 rfl trivial ?_
          refine mj_callV h zGood (ev_Mk_set l D cA _ _ _ (nI p) _ (Or.inl rfl)) v_Mk_set l_Se_dropBases_51 d_Se_dropBases_51 rfl ⟨by decide, by decide⟩ ⟨by decide, by decide⟩ [(0, 1), (1, 3), (2, 4)] rfl rfl rfl rfl rfl rfl (Nat.le_of_ble_eq_true rfl) ?_
          rintro _ _ ⟨rfl, rfl⟩
          rw [kPut_in (by omega)]
          refine mj_k rfl rfl ?_
          refine mj_blk h.1 b_Se_dropBases_54 rfl trivial ?_
          refine mj_lpk [0, 2, 3, 4] rfl ?_
          have hp2 := hp
          unfold vDrop at hp2
          rw [if_neg h2, if_pos h3] at hp2
          rw [show nI p + 1 = nI (p + 1) from (nI_succ p).symm]
          exact ih (p + 1) _ (by omega) hp2
      · refine mj_blk h.1 b_Se_dropBases_14 rfl trivial ?_
        refine mj_blk h.1 b_Se_dropBases_19 rfl trivial ?_
        refine mj_callV h zGood (ev_Mk_isAnyIn l D cA _ _ e he _ _) v_Mk_isAnyIn l_Se_dropBases_39 d_Se_dropBases_39 rfl ⟨by decide, by decide⟩ ⟨by decide, by decide⟩ [(0, 2), (1, 5), (2, 6)] rfl rfl rfl rfl rfl rfl (Nat.le_of_ble_eq_true rfl) ?_
        rintro _ _ ⟨rfl, rfl⟩
        refine mj_k rfl rfl ?_
        first | refine mj_ifeqB h.1 (tgt := 54) d_Se_dropBases_42 (by decide) (fun h4 => ?_) (fun h4 => ?_) | refine mj_ifeq h.1 (tgt := 54) d_Se_dropBases_42 (by decide) (fun h4 => ?_) (fun h4 => ?_)
        · refine mj_blk h.1 b_Se_dropBases_54 rfl trivial ?_
          refine mj_lpk [0, 2, 3, 4] rfl ?_
          have hp2 := hp
          unfold vDrop at hp2
          rw [if_pos h2, if_neg h4] at hp2
          rw [show nI p + 1 = nI (p + 1) from (nI_succ p).symm]
          exact ih (p + 1) _ (by omega) hp2
        · refine mj_blk h.1 b_Se_dropBases_45 rfl trivial ?_
          refine mj_callV h zGood (ev_Mk_set l D cA _ _ _ (nI p) _ (Or.inl rfl)) v_Mk_set l_Se_dropBases_51 d_Se_dropBases_51 rfl ⟨by decide, by decide⟩ ⟨by decide, by decide⟩ [(0, 1), (1, 3), (2, 4)] rfl rfl rfl rfl rfl rfl (Nat.le_of_ble_eq_true rfl) ?_
          rintro _ _ ⟨rfl, rfl⟩
          rw [kPut_in (by omega)]
          refine mj_k rfl rfl ?_
          refine mj_blk h.1 b_Se_dropBases_54 rfl trivial ?_
          refine mj_lpk [0, 2, 3, 4] rfl ?_
          have hp2 := hp
          unfold vDrop at hp2
          rw [if_pos h2, if_pos h4] at hp2
          rw [show nI p + 1 = nI (p + 1) from (nI_succ p).symm]
          exact ih (p + 1) _ (by omega) hp2
set_option maxRecDepth 100000 in
set_option maxHeartbeats 4000000 in
theorem ev_Se_dropBases (e : Nat) (he : e ≤ 80) (bm bl fm fl : Nat → Int32) : E0_Se_dropBases l D cA [.ref 0, .ref 7, .int (nI e)] [(0, cSe), (1, cMk 3 4 (nI e)), (3, cBs bm), (4, cIs 81 bl), (2, cMk 5 6 (nI e)), (5, cBs fm), (6, cIs 81 fl), (7, cOp nt rl le mo (nI s) ct ac)] none [(0, cSe), (1, cMk 3 4 (nI e)), (3, cBs (vDrop rl le mo fl e (e + 1) 0 bm)), (4, cIs 81 bl), (2, cMk 5 6 (nI e)), (5, cBs fm), (6, cIs 81 fl), (7, cOp nt rl le mo (nI s) ct ac)] := by
  refine mj_ev (lv := [(0, .ref 0), (1, .ref 7), (2, .int (nI e))]) (by decide +kernel) (Nat.le_of_ble_eq_true rfl) rfl (fun X h => ?_)
  refine mj_blk h.1 b_Se_dropBases_0 rfl trivial ?_
  exact lp_Se_drop l D cA nt rl le mo s ct ac e he bl fm fl h (e + 1) 0 bm (by omega) ⟨rfl, rfl⟩
set_option maxRecDepth 100000 in
set_option maxHeartbeats 4000000 in
theorem lp_Se_move {X : mj_X} {post : mj_R} (e : Nat) (he : e ≤ 80) (bl fm fl : Nat → Int32) (h : mj_E zG X l D cA m_Se_moveBases 2 80 0 0 (fun _ => True) post) : ∀ (r p : Nat) (bm : Nat → Int32), p + r = e + 1 → post none [(0, cSe), (1, cMk 3 4 (nI e)), (3, cBs (vMove le mo (nI s) fm bl e r p bm)), (4, cIs 81 bl), (2, cMk 5 6 (nI e)), (5, cBs fm), (6, cIs 81 fl), (7, cOp nt rl le mo (nI s) ct ac)] → mj_W zG X 0 0 17 [(3, .int (nI p)), (0, .ref 0), (1, .ref 7), (2, .int (nI e))] [] [(0, cSe), (1, cMk 3 4 (nI e)), (3, cBs bm), (4, cIs 81 bl), (2, cMk 5 6 (nI e)), (5, cBs fm), (6, cIs 81 fl), (7, cOp nt rl le mo (nI s) ct ac)] := by
  intro r
  induction r with
  | zero =>
    intro p bm hi hp
    refine mj_blk h.1 b_Se_moveBases_17 rfl trivial ?_
    refine mj_icgt h.1 (tgt := 89) d_Se_moveBases_19 (by decide) (fun h1 => ?_) (fun h1 => ?_)
    · exact mj_vret h rfl d_Se_moveBases_89 (by decide) (by decide) hp
    · exact absurd ((nI_ltI (by omega) (by omega)).mpr (by omega)) h1
  | succ r ih =>
    intro p bm hi hp
    refine mj_blk h.1 b_Se_moveBases_17 rfl trivial ?_
    refine mj_icgt h.1 (tgt := 89) d_Se_moveBases_19 (by decide) (fun h1 => ?_) (fun h1 => ?_)
    · exact absurd ((nI_ltI (by omega) (by omega)).mp h1) (by omega)
    · refine mj_blk h.1 b_Se_moveBases_22 rfl trivial ?_
      refine mj_callV h zGood (ev_Mk_has l D cA _ _ _ _) v_Mk_has l_Se_moveBases_36 d_Se_moveBases_36 rfl ⟨by decide, by decide⟩ ⟨by decide, by decide⟩ [(0, 2), (1, 5), (2, 6)] rfl rfl rfl rfl rfl rfl (Nat.le_of_ble_eq_true rfl) ?_
      rintro _ _ ⟨rfl, rfl⟩
      refine mj_k rfl rfl ?_
      first | refine mj_ifeqB h.1 (tgt := 70) d_Se_moveBases_39 (by decide) (fun h2 => ?_) (fun h2 => ?_) | refine mj_ifeq h.1 (tgt := 70) d_Se_moveBases_39 (by decide) (fun h2 => ?_) (fun h2 => ?_)
      · refine mj_blk h.1 b_Se_moveBases_70 rfl trivial ?_
        refine mj_blk h.1 b_Se_moveBases_71 rfl trivial ?_
        refine mj_callV h zGood (ev_Mk_set l D cA _ _ _ (nI p) _ (Or.inl rfl)) v_Mk_set l_Se_moveBases_80 d_Se_moveBases_80 rfl ⟨by decide, by decide⟩ ⟨by decide, by decide⟩ [(0, 1), (1, 3), (2, 4)] rfl rfl rfl rfl rfl rfl (Nat.le_of_ble_eq_true rfl) ?_
        rintro _ _ ⟨rfl, rfl⟩
        rw [kPut_in (by omega)]
        refine mj_k rfl rfl ?_
        refine mj_blk h.1 b_Se_moveBases_83 rfl trivial ?_
        refine mj_lpk [0, 3, 4, 5] rfl ?_
        have hp2 := hp
        unfold vMove at hp2
        rw [if_neg (show ¬ vHit le mo (nI s) fm bl e (nI p) from fun z => h2 z.1)] at hp2
        rw [show nI p + 1 = nI (p + 1) from (nI_succ p).symm]
        exact ih (p + 1) _ (by omega) hp2
      · refine mj_blk h.1 b_Se_moveBases_42 rfl trivial ?_
        refine mj_callV h zGood (ev_Mk_isAnyIn l D cA _ _ e he _ _) v_Mk_isAnyIn l_Se_moveBases_60 d_Se_moveBases_60 rfl ⟨by decide, by decide⟩ ⟨by decide, by decide⟩ [(0, 1), (1, 3), (2, 4)] rfl rfl rfl rfl rfl rfl (Nat.le_of_ble_eq_true rfl) ?_
        rintro _ _ ⟨rfl, rfl⟩
        refine mj_k rfl rfl ?_
        first | refine mj_ifeqB h.1 (tgt := 70) d_Se_moveBases_63 (by decide) (fun h3 => ?_) (fun h3 => ?_) | refine mj_ifeq h.1 (tgt := 70) d_Se_moveBases_63 (by decide) (fun h3 => ?_) (fun h3 => ?_)
        · refine mj_blk h.1 b_Se_moveBases_70 rfl trivial ?_
          refine mj_blk h.1 b_Se_moveBases_71 rfl trivial ?_
          refine mj_callV h zGood (ev_Mk_set l D cA _ _ _ (nI p) _ (Or.inl rfl)) v_Mk_set l_Se_moveBases_80 d_Se_moveBases_80 rfl ⟨by decide, by decide⟩ ⟨by decide, by decide⟩ [(0, 1), (1, 3), (2, 4)] rfl rfl rfl rfl rfl rfl (Nat.le_of_ble_eq_true rfl) ?_
          rintro _ _ ⟨rfl, rfl⟩
          rw [kPut_in (by omega)]
          refine mj_k rfl rfl ?_
          refine mj_blk h.1 b_Se_moveBases_83 rfl trivial ?_
          refine mj_lpk [0, 3, 4, 5] rfl ?_
          have hp2 := hp
          unfold vMove at hp2
          rw [if_neg (show ¬ vHit le mo (nI s) fm bl e (nI p) from fun z => h3 z.2)] at hp2
          rw [show nI p + 1 = nI (p + 1) from (nI_succ p).symm]
          exact ih (p + 1) _ (by omega) hp2
        · refine mj_blk h.1 b_Se_moveBases_66 rfl trivial ?_
          refine mj_blk h.1 b_Se_moveBases_71 rfl trivial ?_
          refine mj_callV h zGood (ev_Mk_set l D cA _ _ _ (nI p) _ (Or.inr rfl)) v_Mk_set l_Se_moveBases_80 d_Se_moveBases_80 rfl ⟨by decide, by decide⟩ ⟨by decide, by decide⟩ [(0, 1), (1, 3), (2, 4)] rfl rfl rfl rfl rfl rfl (Nat.le_of_ble_eq_true rfl) ?_
          rintro _ _ ⟨rfl, rfl⟩
          rw [kPut_in (by omega)]
          refine mj_k rfl rfl ?_
          refine mj_blk h.1 b_Se_moveBases_83 rfl trivial ?_
          refine mj_lpk [0, 3, 4, 5] rfl ?_
          have hp2 := hp
          unfold vMove at hp2
          rw [if_pos (show vHit le mo (nI s) fm bl e (nI p) from ⟨h2, h3⟩)] at hp2
          rw [show nI p + 1 = nI (p + 1) from (nI_succ p).symm]
          exact ih (p + 1) _ (by omega) hp2
def vB0 (rl : Bool) (e : Nat) (bm : Nat → Int32) : Nat → Int32 := if rl then bm else kStart (e + 1) 0 bm
def vL0 (rl : Bool) (e : Nat) (bm bl : Nat → Int32) : Nat → Int32 := if rl then bl else kSet (e + 1) 0 (-1) (kStart (e + 1) 0 bm) bl
set_option maxRecDepth 100000 in
set_option maxHeartbeats 4000000 in
theorem ev_Se_moveBases (e : Nat) (he : e ≤ 80) (bm bl fm fl : Nat → Int32) : E0_Se_moveBases l D cA [.ref 0, .ref 7, .int (nI e)] [(0, cSe), (1, cMk 3 4 (nI e)), (3, cBs bm), (4, cIs 81 bl), (2, cMk 5 6 (nI e)), (5, cBs fm), (6, cIs 81 fl), (7, cOp nt rl le mo (nI s) ct ac)] none [(0, cSe), (1, cMk 3 4 (nI e)), (3, cBs (vMove le mo (nI s) fm (vL0 rl e bm bl) e (e + 1) 0 (vB0 rl e bm))), (4, cIs 81 (vL0 rl e bm bl)), (2, cMk 5 6 (nI e)), (5, cBs fm), (6, cIs 81 fl), (7, cOp nt rl le mo (nI s) ct ac)] := by
  refine mj_ev (lv := [(0, .ref 0), (1, .ref 7), (2, .int (nI e))]) (by decide +kernel) (Nat.le_of_ble_eq_true rfl) rfl (fun X h => ?_)
  refine mj_blk h.1 b_Se_moveBases_0 rfl trivial ?_
  first | refine mj_ifneB h.1 (tgt := 15) d_Se_moveBases_4 (by decide) (fun h1 => ?_) (fun h1 => ?_) | refine mj_ifne h.1 (tgt := 15) d_Se_moveBases_4 (by decide) (fun h1 => ?_) (fun h1 => ?_)
  · refine mj_blk h.1 b_Se_moveBases_15 rfl trivial ?_
    exact lp_Se_move l D cA nt rl le mo s ct ac e he _ fm fl h (e + 1) 0 _ (by omega) ⟨rfl, by unfold vL0 vB0; rw [if_pos h1, if_pos h1]⟩
  · refine mj_blk h.1 b_Se_moveBases_7 rfl trivial ?_
    refine mj_callV h zGood (ev_Mk_markStartOnly l D cA _ _ _ e he) v_Mk_markStartOnly l_Se_moveBases_12 d_Se_moveBases_12 rfl ⟨by decide, by decide⟩ ⟨by decide, by decide⟩ [(0, 1), (1, 3), (2, 4)] rfl rfl rfl rfl rfl rfl (Nat.le_of_ble_eq_true rfl) ?_
    rintro _ _ ⟨rfl, rfl⟩
    refine mj_k rfl rfl ?_
    refine mj_blk h.1 b_Se_moveBases_15 rfl trivial ?_
    exact lp_Se_move l D cA nt rl le mo s ct ac e he _ fm fl h (e + 1) 0 _ (by omega) ⟨rfl, by unfold vL0 vB0; rw [if_neg h1, if_neg h1]⟩
end SEARCH
end
section
/-! Search.holds: up to three options at 20, 21, 22; the rule at 11, its array at 12 (by program: wip/whole/src_holds.py) -/
abbrev oT : Type := Bool × Bool × Int32 × Int32 × Nat × Int64 × Bool
abbrev cOt (t : oT) : mj_C := cOp t.1 t.2.1 t.2.2.1 t.2.2.2.1 (nI t.2.2.2.2.1) t.2.2.2.2.2.1 t.2.2.2.2.2.2
def vFm (t : oT) (tx : Nat → Int32) (ts : Nat) (fm : Nat → Int32) : Nat → Int32 := vFind t.2.2.2.2.2.2 t.2.2.2.2.1 t.2.2.2.2.2.1 tx ts (ts + 1) 0 fm
def vBm (t : oT) (ts : Nat) (bm bl fm fl : Nat → Int32) : Nat → Int32 := if t.1 then vDrop t.2.1 t.2.2.1 t.2.2.2.1 fl ts (ts + 1) 0 bm else vMove t.2.2.1 t.2.2.2.1 (nI t.2.2.2.2.1) fm (vL0 t.2.1 ts bm bl) ts (ts + 1) 0 (vB0 t.2.1 ts bm)
def vBl (t : oT) (ts : Nat) (bm bl : Nat → Int32) : Nat → Int32 := if t.1 then bl else vL0 t.2.1 ts bm bl
def vRun (tx : Nat → Int32) (ts : Nat) : List oT → (Nat → Int32) → (Nat → Int32) → (Nat → Int32) → (Nat → Int32) → Bool → Bool
  | [], _, _, _, _, b => b
  | _ :: _, _, _, _, _, false => false
  | t :: os, bm, bl, fm, fl, true => vRun tx ts os (vBm t ts bm bl (vFm t tx ts fm) (kSet (ts + 1) 0 (-1) (vFm t tx ts fm) fl)) (kSet (ts + 1) 0 (-1) (vBm t ts bm bl (vFm t tx ts fm) (kSet (ts + 1) 0 (-1) (vFm t tx ts fm) fl)) (vBl t ts bm bl)) (vFm t tx ts fm) (kSet (ts + 1) 0 (-1) (vFm t tx ts fm) fl) (decide (kAny (kSet (ts + 1) 0 (-1) (vBm t ts bm bl (vFm t tx ts fm) (kSet (ts + 1) 0 (-1) (vFm t tx ts fm) fl)) (vBl t ts bm bl)) ts 0 (nI ts)))
theorem if_dec {P : Prop} [Decidable P] : (if decide P = true then (1 : Int32) else 0) = if P then 1 else 0 := by
  by_cases h : P <;> simp [h]
section HOLDS
variable (l : Launch) (D : va_G) (cA : Nat → ClassId) (wy pt : Int32) (tx : Nat → Int32) (ts : Nat) (hd : Nat → Int32) (hs nx rr : Int32) (bg en : Bool)

set_option maxRecDepth 100000 in
set_option maxHeartbeats 4000000 in
theorem hH_0_0 {X : mj_X} {post : mj_R} (h : mj_E zG X l D cA m_Se_holds 3 120 0 0 (fun _ => True) post) (b : Bool) (hp : (∀ bm bl bt fm fl ft, post (some (.int (if b then 1 else 0))) [(0, cSe), (1, cMk 3 4 bt), (3, cBs bm), (4, cIs 81 bl), (2, cMk 5 6 ft), (5, cBs fm), (6, cIs 81 fl), (8, cSm 9 10 ts hs nx rr bg en), (9, cIs 80 tx), (10, cIs 32 hd), (11, cRu 12 wy pt 0), (12, cOs [none, none, none])])) (bm bl fm fl : Nat → Int32) (bt ft : Int32) : mj_W zG X 0 0 30 [(5, .int (nI 0)), (4, .int (if b then 1 else 0)), (3, .int (nI ts)), (0, .ref 0), (1, .ref 11), (2, .ref 8)] [] [(0, cSe), (1, cMk 3 4 bt), (3, cBs bm), (4, cIs 81 bl), (2, cMk 5 6 ft), (5, cBs fm), (6, cIs 81 fl), (8, cSm 9 10 ts hs nx rr bg en), (9, cIs 80 tx), (10, cIs 32 hd), (11, cRu 12 wy pt 0), (12, cOs [none, none, none])] := by
  refine mj_blk h.1 b_Se_holds_30 rfl trivial ?_
  refine mj_callV h zGood (ev_Ru_size l D cA _ _ 0) v_Ru_size l_Se_holds_33 d_Se_holds_33 rfl ⟨by decide, by decide⟩ ⟨by decide, by decide⟩ [(0, 11), (1, 12), (20, 20), (21, 21), (22, 22)] rfl rfl rfl rfl rfl rfl (Nat.le_of_ble_eq_true rfl) ?_
  rintro _ _ ⟨rfl, rfl⟩
  refine mj_k rfl rfl ?_
  refine mj_icge h.1 (tgt := 116) d_Se_holds_36 (by decide) (fun h1 => ?_) (fun h1 => ?_)
  · refine mj_blk h.1 b_Se_holds_116 rfl trivial ?_
    exact mj_zret h rfl (mj_z01) d_Se_holds_118 (by decide) (by decide) (hp _ _ _ _ _ _)
  · exact absurd (by decide) h1
set_option maxRecDepth 100000 in
set_option maxHeartbeats 4000000 in
theorem ev_Se_holds_0 (ht : ts ≤ 80) (bm bl : Nat → Int32) (bt : Int32) (fm fl : Nat → Int32) (ft : Int32) : E_Se_holds l D cA 0 0 [.ref 0, .ref 11, .ref 8] [(0, cSe), (1, cMk 3 4 bt), (3, cBs bm), (4, cIs 81 bl), (2, cMk 5 6 ft), (5, cBs fm), (6, cIs 81 fl), (8, cSm 9 10 ts hs nx rr bg en), (9, cIs 80 tx), (10, cIs 32 hd), (11, cRu 12 wy pt 0), (12, cOs [none, none, none])] (fun _ => True) (fun r1 w1 => r1 = some (.int (0)) ∧ ∃ bm1 bl1 bt1 fm1 fl1 ft1, w1 = [(0, cSe), (1, cMk 3 4 bt1), (3, cBs bm1), (4, cIs 81 bl1), (2, cMk 5 6 ft1), (5, cBs fm1), (6, cIs 81 fl1), (8, cSm 9 10 ts hs nx rr bg en), (9, cIs 80 tx), (10, cIs 32 hd), (11, cRu 12 wy pt 0), (12, cOs [none, none, none])]) := by
  refine mj_ev (lv := [(0, .ref 0), (1, .ref 11), (2, .ref 8)]) (by decide +kernel) (Nat.le_of_ble_eq_true rfl) rfl (fun X h => ?_)
  refine mj_blk h.1 b_Se_holds_0 rfl trivial ?_
  refine mj_callV h zGood (ev_Sm_size l D cA _ _ _ _ _ _ _ _) v_Sm_size l_Se_holds_1 d_Se_holds_1 rfl ⟨by decide, by decide⟩ ⟨by decide, by decide⟩ [(0, 8), (1, 9), (2, 10)] rfl rfl rfl rfl rfl rfl (Nat.le_of_ble_eq_true rfl) ?_
  rintro _ _ ⟨rfl, rfl⟩
  refine mj_k rfl rfl ?_
  refine mj_blk h.1 b_Se_holds_4 rfl trivial ?_
  refine mj_callV h zGood (ev_Mk_markStartOnly l D cA _ _ _ ts ht) v_Mk_markStartOnly l_Se_holds_10 d_Se_holds_10 rfl ⟨by decide, by decide⟩ ⟨by decide, by decide⟩ [(0, 1), (1, 3), (2, 4)] rfl rfl rfl rfl rfl rfl (Nat.le_of_ble_eq_true rfl) ?_
  rintro _ _ ⟨rfl, rfl⟩
  refine mj_k rfl rfl ?_
  refine mj_blk h.1 b_Se_holds_13 rfl trivial ?_
  refine mj_callV h zGood (ev_Ru_size l D cA _ _ 0) v_Ru_size l_Se_holds_14 d_Se_holds_14 rfl ⟨by decide, by decide⟩ ⟨by decide, by decide⟩ [(0, 11), (1, 12), (20, 20), (21, 21), (22, 22)] rfl rfl rfl rfl rfl rfl (Nat.le_of_ble_eq_true rfl) ?_
  rintro _ _ ⟨rfl, rfl⟩
  refine mj_k rfl rfl ?_
  refine mj_ifle h.1 (tgt := 24) d_Se_holds_17 (by decide) (fun h1 => ?_) (fun h1 => ?_)
  · refine mj_blk h.1 b_Se_holds_24 rfl trivial ?_
    refine mj_blk h.1 b_Se_holds_25 rfl trivial ?_
    exact hH_0_0 l D cA wy pt tx ts hd hs nx rr bg en h false (fun _ _ _ _ _ _ => ⟨rfl, _, _, _, _, _, _, rfl⟩) _ _ _ _ _ _
  · exact absurd (by decide) h1
set_option maxRecDepth 100000 in
set_option maxHeartbeats 4000000 in
theorem hH_1_1 {X : mj_X} {post : mj_R} (h : mj_E zG X l D cA m_Se_holds 3 120 0 0 (fun _ => True) post) (t0 : oT) (hz0 : t0.2.2.2.2.1 ≤ 6) (b : Bool) (hp : (∀ bm bl bt fm fl ft, post (some (.int (if b then 1 else 0))) [(0, cSe), (1, cMk 3 4 bt), (3, cBs bm), (4, cIs 81 bl), (2, cMk 5 6 ft), (5, cBs fm), (6, cIs 81 fl), (8, cSm 9 10 ts hs nx rr bg en), (9, cIs 80 tx), (10, cIs 32 hd), (11, cRu 12 wy pt 1), (12, cOs [some 20, none, none]), (20, cOt t0)])) (bm bl fm fl : Nat → Int32) (bt ft : Int32) : mj_W zG X 0 0 30 [(5, .int (nI 1)), (4, .int (if b then 1 else 0)), (3, .int (nI ts)), (0, .ref 0), (1, .ref 11), (2, .ref 8)] [] [(0, cSe), (1, cMk 3 4 bt), (3, cBs bm), (4, cIs 81 bl), (2, cMk 5 6 ft), (5, cBs fm), (6, cIs 81 fl), (8, cSm 9 10 ts hs nx rr bg en), (9, cIs 80 tx), (10, cIs 32 hd), (11, cRu 12 wy pt 1), (12, cOs [some 20, none, none]), (20, cOt t0)] := by
  refine mj_blk h.1 b_Se_holds_30 rfl trivial ?_
  refine mj_callV h zGood (ev_Ru_size l D cA _ _ 1) v_Ru_size l_Se_holds_33 d_Se_holds_33 rfl ⟨by decide, by decide⟩ ⟨by decide, by decide⟩ [(0, 11), (1, 12), (20, 20), (21, 21), (22, 22)] rfl rfl rfl rfl rfl rfl (Nat.le_of_ble_eq_true rfl) ?_
  rintro _ _ ⟨rfl, rfl⟩
  refine mj_k rfl rfl ?_
  refine mj_icge h.1 (tgt := 116) d_Se_holds_36 (by decide) (fun h1 => ?_) (fun h1 => ?_)
  · refine mj_blk h.1 b_Se_holds_116 rfl trivial ?_
    exact mj_zret h rfl (mj_z01) d_Se_holds_118 (by decide) (by decide) (hp _ _ _ _ _ _)
  · exact absurd (by decide) h1
set_option maxRecDepth 100000 in
set_option maxHeartbeats 4000000 in
theorem hI_1_0 {X : mj_X} {post : mj_R} (ht : ts ≤ 80) (h : mj_E zG X l D cA m_Se_holds 3 120 0 0 (fun _ => True) post) (t0 : oT) (hz0 : t0.2.2.2.2.1 ≤ 6) (bm bl fm fl : Nat → Int32) (ft : Int32) (K : mj_W zG X 0 0 30 [(5, .int (nI 1)), (4, .int (if kAny (kSet (ts + 1) 0 (-1) (vBm t0 ts bm bl (vFm t0 tx ts fm) (kSet (ts + 1) 0 (-1) (vFm t0 tx ts fm) fl)) (vBl t0 ts bm bl)) ts 0 (nI ts) then 1 else 0)), (3, .int (nI ts)), (0, .ref 0), (1, .ref 11), (2, .ref 8)] [] [(0, cSe), (1, cMk 3 4 (nI ts)), (3, cBs (vBm t0 ts bm bl (vFm t0 tx ts fm) (kSet (ts + 1) 0 (-1) (vFm t0 tx ts fm) fl))), (4, cIs 81 (kSet (ts + 1) 0 (-1) (vBm t0 ts bm bl (vFm t0 tx ts fm) (kSet (ts + 1) 0 (-1) (vFm t0 tx ts fm) fl)) (vBl t0 ts bm bl))), (2, cMk 5 6 (nI ts)), (5, cBs (vFm t0 tx ts fm)), (6, cIs 81 (kSet (ts + 1) 0 (-1) (vFm t0 tx ts fm) fl)), (8, cSm 9 10 ts hs nx rr bg en), (9, cIs 80 tx), (10, cIs 32 hd), (11, cRu 12 wy pt 1), (12, cOs [some 20, none, none]), (20, cOt t0)]) : mj_W zG X 0 0 30 [(5, .int (nI 0)), (4, .int 1), (3, .int (nI ts)), (0, .ref 0), (1, .ref 11), (2, .ref 8)] [] [(0, cSe), (1, cMk 3 4 (nI ts)), (3, cBs bm), (4, cIs 81 bl), (2, cMk 5 6 ft), (5, cBs fm), (6, cIs 81 fl), (8, cSm 9 10 ts hs nx rr bg en), (9, cIs 80 tx), (10, cIs 32 hd), (11, cRu 12 wy pt 1), (12, cOs [some 20, none, none]), (20, cOt t0)] := by
  refine mj_blk h.1 b_Se_holds_30 rfl trivial ?_
  refine mj_callV h zGood (ev_Ru_size l D cA _ _ 1) v_Ru_size l_Se_holds_33 d_Se_holds_33 rfl ⟨by decide, by decide⟩ ⟨by decide, by decide⟩ [(0, 11), (1, 12), (20, 20), (21, 21), (22, 22)] rfl rfl rfl rfl rfl rfl (Nat.le_of_ble_eq_true rfl) ?_
  rintro _ _ ⟨rfl, rfl⟩
  refine mj_k rfl rfl ?_
  refine mj_icge h.1 (tgt := 116) d_Se_holds_36 (by decide) (fun h1 => ?_) (fun h1 => ?_)
  · exact absurd h1 (by decide)
  · refine mj_blk h.1 b_Se_holds_39 rfl trivial ?_
    refine mj_ifeq1 h.1 (tgt := 116) d_Se_holds_41 (by decide) ?_
    refine mj_blk h.1 b_Se_holds_44 rfl trivial ?_
    refine mj_callV h zGood (ev_Ru_at l D cA _ _ 1 [some 20, none, none] (by decide) 0 20 (by decide) rfl) v_Ru_at l_Se_holds_47 d_Se_holds_47 rfl ⟨by decide, by decide⟩ ⟨by decide, by decide⟩ [(0, 11), (1, 12), (20, 20), (21, 21), (22, 22)] rfl rfl rfl rfl rfl rfl (Nat.le_of_ble_eq_true rfl) ?_
    rintro _ _ ⟨rfl, rfl⟩
    refine mj_k rfl rfl ?_
    refine mj_blk h.1 b_Se_holds_50 rfl trivial ?_
    refine mj_ifnonnull_r h.1 d_Se_holds_54 (tgt := 59) (by decide) ?_
    refine mj_blk h.1 b_Se_holds_59 rfl trivial ?_
    refine mj_callV h zGood (ev_Se_find l D cA _ _ _ _ t0.2.2.2.2.1 _ _ _ ts _ _ _ _ _ _ hz0 ht _ _ _ _ _ _) v_Se_find l_Se_holds_63 d_Se_holds_63 rfl ⟨by decide, by decide⟩ ⟨by decide, by decide⟩ [(0, 0), (1, 1), (2, 2), (3, 3), (4, 4), (5, 5), (6, 6), (7, 20), (8, 8), (9, 9), (10, 10)] rfl rfl rfl rfl rfl rfl (Nat.le_of_ble_eq_true rfl) ?_
    rintro _ _ ⟨rfl, rfl⟩
    refine mj_k rfl rfl ?_
    refine mj_blk h.1 b_Se_holds_66 rfl trivial ?_
    first | refine mj_ifeqB h.1 (tgt := 84) d_Se_holds_71 (by decide) (fun h3 => ?_) (fun h3 => ?_) | refine mj_ifeq h.1 (tgt := 84) d_Se_holds_71 (by decide) (fun h3 => ?_) (fun h3 => ?_)
    · refine mj_blk h.1 b_Se_holds_84 rfl trivial ?_
      refine mj_callV h zGood (ev_Se_moveBases l D cA _ _ _ _ t0.2.2.2.2.1 _ _ ts ht _ _ _ _) v_Se_moveBases l_Se_holds_88 d_Se_holds_88 rfl ⟨by decide, by decide⟩ ⟨by decide, by decide⟩ [(0, 0), (1, 1), (2, 2), (3, 3), (4, 4), (5, 5), (6, 6), (7, 20), (8, 8), (9, 9), (10, 10)] rfl rfl rfl rfl rfl rfl (Nat.le_of_ble_eq_true rfl) ?_
      rintro _ _ ⟨rfl, rfl⟩
      refine mj_k rfl rfl ?_
      refine mj_blk h.1 b_Se_holds_91 rfl trivial ?_
      refine mj_callV h zGood (ev_Mk_settle l D cA _ _ _ ts ht) v_Mk_settle l_Se_holds_96 d_Se_holds_96 rfl ⟨by decide, by decide⟩ ⟨by decide, by decide⟩ [(0, 1), (1, 3), (2, 4)] rfl rfl rfl rfl rfl rfl (Nat.le_of_ble_eq_true rfl) ?_
      rintro _ _ ⟨rfl, rfl⟩
      refine mj_k rfl rfl ?_
      refine mj_blk h.1 b_Se_holds_99 rfl trivial ?_
      refine mj_callV h zGood (ev_Mk_isAnyIn l D cA _ _ ts ht _ _) v_Mk_isAnyIn l_Se_holds_105 d_Se_holds_105 rfl ⟨by decide, by decide⟩ ⟨by decide, by decide⟩ [(0, 1), (1, 3), (2, 4)] rfl rfl rfl rfl rfl rfl (Nat.le_of_ble_eq_true rfl) ?_
      rintro _ _ ⟨rfl, rfl⟩
      refine mj_k rfl rfl ?_
      refine mj_blk h.1 b_Se_holds_108 rfl trivial ?_
      refine mj_lpk [0, 1, 3, 4, 5, 6] rfl ?_
      have k2 := K
      unfold vBm vBl at k2
      rw [if_neg h3, if_neg h3] at k2
      exact k2
    · refine mj_blk h.1 b_Se_holds_74 rfl trivial ?_
      refine mj_callV h zGood (ev_Se_dropBases l D cA _ _ _ _ t0.2.2.2.2.1 _ _ ts ht _ _ _ _) v_Se_dropBases l_Se_holds_78 d_Se_holds_78 rfl ⟨by decide, by decide⟩ ⟨by decide, by decide⟩ [(0, 0), (1, 1), (2, 2), (3, 3), (4, 4), (5, 5), (6, 6), (7, 20), (8, 8), (9, 9), (10, 10)] rfl rfl rfl rfl rfl rfl (Nat.le_of_ble_eq_true rfl) ?_
      rintro _ _ ⟨rfl, rfl⟩
      refine mj_k rfl rfl ?_
      refine mj_blk h.1 b_Se_holds_81 rfl trivial ?_
      refine mj_blk h.1 b_Se_holds_91 rfl trivial ?_
      refine mj_callV h zGood (ev_Mk_settle l D cA _ _ _ ts ht) v_Mk_settle l_Se_holds_96 d_Se_holds_96 rfl ⟨by decide, by decide⟩ ⟨by decide, by decide⟩ [(0, 1), (1, 3), (2, 4)] rfl rfl rfl rfl rfl rfl (Nat.le_of_ble_eq_true rfl) ?_
      rintro _ _ ⟨rfl, rfl⟩
      refine mj_k rfl rfl ?_
      refine mj_blk h.1 b_Se_holds_99 rfl trivial ?_
      refine mj_callV h zGood (ev_Mk_isAnyIn l D cA _ _ ts ht _ _) v_Mk_isAnyIn l_Se_holds_105 d_Se_holds_105 rfl ⟨by decide, by decide⟩ ⟨by decide, by decide⟩ [(0, 1), (1, 3), (2, 4)] rfl rfl rfl rfl rfl rfl (Nat.le_of_ble_eq_true rfl) ?_
      rintro _ _ ⟨rfl, rfl⟩
      refine mj_k rfl rfl ?_
      refine mj_blk h.1 b_Se_holds_108 rfl trivial ?_
      refine mj_lpk [0, 1, 3, 4, 5, 6] rfl ?_
      have k2 := K
      unfold vBm vBl at k2
      rw [if_pos h3, if_pos h3] at k2
      exact k2
set_option maxRecDepth 100000 in
set_option maxHeartbeats 4000000 in
theorem hF_1_0 {X : mj_X} {post : mj_R} (h : mj_E zG X l D cA m_Se_holds 3 120 0 0 (fun _ => True) post) (t0 : oT) (hz0 : t0.2.2.2.2.1 ≤ 6) (bm bl fm fl : Nat → Int32) (bt ft : Int32) (hp : post (some (.int 0)) [(0, cSe), (1, cMk 3 4 bt), (3, cBs bm), (4, cIs 81 bl), (2, cMk 5 6 ft), (5, cBs fm), (6, cIs 81 fl), (8, cSm 9 10 ts hs nx rr bg en), (9, cIs 80 tx), (10, cIs 32 hd), (11, cRu 12 wy pt 1), (12, cOs [some 20, none, none]), (20, cOt t0)]) : mj_W zG X 0 0 30 [(5, .int (nI 0)), (4, .int 0), (3, .int (nI ts)), (0, .ref 0), (1, .ref 11), (2, .ref 8)] [] [(0, cSe), (1, cMk 3 4 bt), (3, cBs bm), (4, cIs 81 bl), (2, cMk 5 6 ft), (5, cBs fm), (6, cIs 81 fl), (8, cSm 9 10 ts hs nx rr bg en), (9, cIs 80 tx), (10, cIs 32 hd), (11, cRu 12 wy pt 1), (12, cOs [some 20, none, none]), (20, cOt t0)] := by
  refine mj_blk h.1 b_Se_holds_30 rfl trivial ?_
  refine mj_callV h zGood (ev_Ru_size l D cA _ _ 1) v_Ru_size l_Se_holds_33 d_Se_holds_33 rfl ⟨by decide, by decide⟩ ⟨by decide, by decide⟩ [(0, 11), (1, 12), (20, 20), (21, 21), (22, 22)] rfl rfl rfl rfl rfl rfl (Nat.le_of_ble_eq_true rfl) ?_
  rintro _ _ ⟨rfl, rfl⟩
  refine mj_k rfl rfl ?_
  refine mj_icge h.1 (tgt := 116) d_Se_holds_36 (by decide) (fun h1 => ?_) (fun h1 => ?_)
  · refine mj_blk h.1 b_Se_holds_116 rfl trivial ?_
    exact mj_zret h rfl (Or.inl rfl) d_Se_holds_118 (by decide) (by decide) hp
  · refine mj_blk h.1 b_Se_holds_39 rfl trivial ?_
    refine mj_ifeq0 h.1 (tgt := 116) d_Se_holds_41 (by decide) ?_
    refine mj_blk h.1 b_Se_holds_116 rfl trivial ?_
    exact mj_zret h rfl (Or.inl rfl) d_Se_holds_118 (by decide) (by decide) hp
set_option maxRecDepth 100000 in
set_option maxHeartbeats 4000000 in
theorem hH_1_0 {X : mj_X} {post : mj_R} (ht : ts ≤ 80) (h : mj_E zG X l D cA m_Se_holds 3 120 0 0 (fun _ => True) post) (t0 : oT) (hz0 : t0.2.2.2.2.1 ≤ 6) (b : Bool) (bm bl fm fl : Nat → Int32) (ft : Int32) (hp : ∀ bm1 bl1 bt fm1 fl1 ft, post (some (.int (if vRun tx ts [t0] bm bl fm fl b then 1 else 0))) [(0, cSe), (1, cMk 3 4 bt), (3, cBs bm1), (4, cIs 81 bl1), (2, cMk 5 6 ft), (5, cBs fm1), (6, cIs 81 fl1), (8, cSm 9 10 ts hs nx rr bg en), (9, cIs 80 tx), (10, cIs 32 hd), (11, cRu 12 wy pt 1), (12, cOs [some 20, none, none]), (20, cOt t0)]) : mj_W zG X 0 0 30 [(5, .int (nI 0)), (4, .int (if b then 1 else 0)), (3, .int (nI ts)), (0, .ref 0), (1, .ref 11), (2, .ref 8)] [] [(0, cSe), (1, cMk 3 4 (nI ts)), (3, cBs bm), (4, cIs 81 bl), (2, cMk 5 6 ft), (5, cBs fm), (6, cIs 81 fl), (8, cSm 9 10 ts hs nx rr bg en), (9, cIs 80 tx), (10, cIs 32 hd), (11, cRu 12 wy pt 1), (12, cOs [some 20, none, none]), (20, cOt t0)] := by
  cases b with
  | false =>
    exact hF_1_0 l D cA wy pt tx ts hd hs nx rr bg en h t0 hz0 bm bl fm fl (nI ts) ft (hp _ _ _ _ _ _)
  | true =>
    refine hI_1_0 l D cA wy pt tx ts hd hs nx rr bg en ht h t0 hz0 bm bl fm fl ft ?_
    rw [← if_dec]
    exact hH_1_1 l D cA wy pt tx ts hd hs nx rr bg en h t0 hz0 _ hp _ _ _ _ _ _
set_option maxRecDepth 100000 in
set_option maxHeartbeats 4000000 in
theorem ev_Se_holds_1 (ht : ts ≤ 80) (t0 : oT) (hz0 : t0.2.2.2.2.1 ≤ 6) (bm bl : Nat → Int32) (bt : Int32) (fm fl : Nat → Int32) (ft : Int32) : E_Se_holds l D cA 0 0 [.ref 0, .ref 11, .ref 8] [(0, cSe), (1, cMk 3 4 bt), (3, cBs bm), (4, cIs 81 bl), (2, cMk 5 6 ft), (5, cBs fm), (6, cIs 81 fl), (8, cSm 9 10 ts hs nx rr bg en), (9, cIs 80 tx), (10, cIs 32 hd), (11, cRu 12 wy pt 1), (12, cOs [some 20, none, none]), (20, cOt t0)] (fun _ => True) (fun r1 w1 => r1 = some (.int (if vRun tx ts [t0] (kStart (ts + 1) 0 bm) (kSet (ts + 1) 0 (-1) (kStart (ts + 1) 0 bm) bl) fm fl true then 1 else 0)) ∧ ∃ bm1 bl1 bt1 fm1 fl1 ft1, w1 = [(0, cSe), (1, cMk 3 4 bt1), (3, cBs bm1), (4, cIs 81 bl1), (2, cMk 5 6 ft1), (5, cBs fm1), (6, cIs 81 fl1), (8, cSm 9 10 ts hs nx rr bg en), (9, cIs 80 tx), (10, cIs 32 hd), (11, cRu 12 wy pt 1), (12, cOs [some 20, none, none]), (20, cOt t0)]) := by
  refine mj_ev (lv := [(0, .ref 0), (1, .ref 11), (2, .ref 8)]) (by decide +kernel) (Nat.le_of_ble_eq_true rfl) rfl (fun X h => ?_)
  refine mj_blk h.1 b_Se_holds_0 rfl trivial ?_
  refine mj_callV h zGood (ev_Sm_size l D cA _ _ _ _ _ _ _ _) v_Sm_size l_Se_holds_1 d_Se_holds_1 rfl ⟨by decide, by decide⟩ ⟨by decide, by decide⟩ [(0, 8), (1, 9), (2, 10)] rfl rfl rfl rfl rfl rfl (Nat.le_of_ble_eq_true rfl) ?_
  rintro _ _ ⟨rfl, rfl⟩
  refine mj_k rfl rfl ?_
  refine mj_blk h.1 b_Se_holds_4 rfl trivial ?_
  refine mj_callV h zGood (ev_Mk_markStartOnly l D cA _ _ _ ts ht) v_Mk_markStartOnly l_Se_holds_10 d_Se_holds_10 rfl ⟨by decide, by decide⟩ ⟨by decide, by decide⟩ [(0, 1), (1, 3), (2, 4)] rfl rfl rfl rfl rfl rfl (Nat.le_of_ble_eq_true rfl) ?_
  rintro _ _ ⟨rfl, rfl⟩
  refine mj_k rfl rfl ?_
  refine mj_blk h.1 b_Se_holds_13 rfl trivial ?_
  refine mj_callV h zGood (ev_Ru_size l D cA _ _ 1) v_Ru_size l_Se_holds_14 d_Se_holds_14 rfl ⟨by decide, by decide⟩ ⟨by decide, by decide⟩ [(0, 11), (1, 12), (20, 20), (21, 21), (22, 22)] rfl rfl rfl rfl rfl rfl (Nat.le_of_ble_eq_true rfl) ?_
  rintro _ _ ⟨rfl, rfl⟩
  refine mj_k rfl rfl ?_
  refine mj_ifle h.1 (tgt := 24) d_Se_holds_17 (by decide) (fun h1 => ?_) (fun h1 => ?_)
  · exact absurd h1 (by decide)
  · refine mj_blk h.1 b_Se_holds_20 rfl trivial ?_
    refine mj_blk h.1 b_Se_holds_25 rfl trivial ?_
    exact hH_1_0 l D cA wy pt tx ts hd hs nx rr bg en ht h t0 hz0 true _ _ _ _ _ (fun _ _ _ _ _ _ => ⟨rfl, _, _, _, _, _, _, rfl⟩)
set_option maxRecDepth 100000 in
set_option maxHeartbeats 4000000 in
theorem hH_2_2 {X : mj_X} {post : mj_R} (h : mj_E zG X l D cA m_Se_holds 3 120 0 0 (fun _ => True) post) (t0 : oT) (hz0 : t0.2.2.2.2.1 ≤ 6) (t1 : oT) (hz1 : t1.2.2.2.2.1 ≤ 6) (b : Bool) (hp : (∀ bm bl bt fm fl ft, post (some (.int (if b then 1 else 0))) [(0, cSe), (1, cMk 3 4 bt), (3, cBs bm), (4, cIs 81 bl), (2, cMk 5 6 ft), (5, cBs fm), (6, cIs 81 fl), (8, cSm 9 10 ts hs nx rr bg en), (9, cIs 80 tx), (10, cIs 32 hd), (11, cRu 12 wy pt 2), (12, cOs [some 20, some 21, none]), (20, cOt t0), (21, cOt t1)])) (bm bl fm fl : Nat → Int32) (bt ft : Int32) : mj_W zG X 0 0 30 [(5, .int (nI 2)), (4, .int (if b then 1 else 0)), (3, .int (nI ts)), (0, .ref 0), (1, .ref 11), (2, .ref 8)] [] [(0, cSe), (1, cMk 3 4 bt), (3, cBs bm), (4, cIs 81 bl), (2, cMk 5 6 ft), (5, cBs fm), (6, cIs 81 fl), (8, cSm 9 10 ts hs nx rr bg en), (9, cIs 80 tx), (10, cIs 32 hd), (11, cRu 12 wy pt 2), (12, cOs [some 20, some 21, none]), (20, cOt t0), (21, cOt t1)] := by
  refine mj_blk h.1 b_Se_holds_30 rfl trivial ?_
  refine mj_callV h zGood (ev_Ru_size l D cA _ _ 2) v_Ru_size l_Se_holds_33 d_Se_holds_33 rfl ⟨by decide, by decide⟩ ⟨by decide, by decide⟩ [(0, 11), (1, 12), (20, 20), (21, 21), (22, 22)] rfl rfl rfl rfl rfl rfl (Nat.le_of_ble_eq_true rfl) ?_
  rintro _ _ ⟨rfl, rfl⟩
  refine mj_k rfl rfl ?_
  refine mj_icge h.1 (tgt := 116) d_Se_holds_36 (by decide) (fun h1 => ?_) (fun h1 => ?_)
  · refine mj_blk h.1 b_Se_holds_116 rfl trivial ?_
    exact mj_zret h rfl (mj_z01) d_Se_holds_118 (by decide) (by decide) (hp _ _ _ _ _ _)
  · exact absurd (by decide) h1
set_option maxRecDepth 100000 in
set_option maxHeartbeats 4000000 in
theorem hI_2_1 {X : mj_X} {post : mj_R} (ht : ts ≤ 80) (h : mj_E zG X l D cA m_Se_holds 3 120 0 0 (fun _ => True) post) (t0 : oT) (hz0 : t0.2.2.2.2.1 ≤ 6) (t1 : oT) (hz1 : t1.2.2.2.2.1 ≤ 6) (bm bl fm fl : Nat → Int32) (ft : Int32) (K : mj_W zG X 0 0 30 [(5, .int (nI 2)), (4, .int (if kAny (kSet (ts + 1) 0 (-1) (vBm t1 ts bm bl (vFm t1 tx ts fm) (kSet (ts + 1) 0 (-1) (vFm t1 tx ts fm) fl)) (vBl t1 ts bm bl)) ts 0 (nI ts) then 1 else 0)), (3, .int (nI ts)), (0, .ref 0), (1, .ref 11), (2, .ref 8)] [] [(0, cSe), (1, cMk 3 4 (nI ts)), (3, cBs (vBm t1 ts bm bl (vFm t1 tx ts fm) (kSet (ts + 1) 0 (-1) (vFm t1 tx ts fm) fl))), (4, cIs 81 (kSet (ts + 1) 0 (-1) (vBm t1 ts bm bl (vFm t1 tx ts fm) (kSet (ts + 1) 0 (-1) (vFm t1 tx ts fm) fl)) (vBl t1 ts bm bl))), (2, cMk 5 6 (nI ts)), (5, cBs (vFm t1 tx ts fm)), (6, cIs 81 (kSet (ts + 1) 0 (-1) (vFm t1 tx ts fm) fl)), (8, cSm 9 10 ts hs nx rr bg en), (9, cIs 80 tx), (10, cIs 32 hd), (11, cRu 12 wy pt 2), (12, cOs [some 20, some 21, none]), (20, cOt t0), (21, cOt t1)]) : mj_W zG X 0 0 30 [(5, .int (nI 1)), (4, .int 1), (3, .int (nI ts)), (0, .ref 0), (1, .ref 11), (2, .ref 8)] [] [(0, cSe), (1, cMk 3 4 (nI ts)), (3, cBs bm), (4, cIs 81 bl), (2, cMk 5 6 ft), (5, cBs fm), (6, cIs 81 fl), (8, cSm 9 10 ts hs nx rr bg en), (9, cIs 80 tx), (10, cIs 32 hd), (11, cRu 12 wy pt 2), (12, cOs [some 20, some 21, none]), (20, cOt t0), (21, cOt t1)] := by
  refine mj_blk h.1 b_Se_holds_30 rfl trivial ?_
  refine mj_callV h zGood (ev_Ru_size l D cA _ _ 2) v_Ru_size l_Se_holds_33 d_Se_holds_33 rfl ⟨by decide, by decide⟩ ⟨by decide, by decide⟩ [(0, 11), (1, 12), (20, 20), (21, 21), (22, 22)] rfl rfl rfl rfl rfl rfl (Nat.le_of_ble_eq_true rfl) ?_
  rintro _ _ ⟨rfl, rfl⟩
  refine mj_k rfl rfl ?_
  refine mj_icge h.1 (tgt := 116) d_Se_holds_36 (by decide) (fun h1 => ?_) (fun h1 => ?_)
  · exact absurd h1 (by decide)
  · refine mj_blk h.1 b_Se_holds_39 rfl trivial ?_
    refine mj_ifeq1 h.1 (tgt := 116) d_Se_holds_41 (by decide) ?_
    refine mj_blk h.1 b_Se_holds_44 rfl trivial ?_
    refine mj_callV h zGood (ev_Ru_at l D cA _ _ 2 [some 20, some 21, none] (by decide) 1 21 (by decide) rfl) v_Ru_at l_Se_holds_47 d_Se_holds_47 rfl ⟨by decide, by decide⟩ ⟨by decide, by decide⟩ [(0, 11), (1, 12), (20, 20), (21, 21), (22, 22)] rfl rfl rfl rfl rfl rfl (Nat.le_of_ble_eq_true rfl) ?_
    rintro _ _ ⟨rfl, rfl⟩
    refine mj_k rfl rfl ?_
    refine mj_blk h.1 b_Se_holds_50 rfl trivial ?_
    refine mj_ifnonnull_r h.1 d_Se_holds_54 (tgt := 59) (by decide) ?_
    refine mj_blk h.1 b_Se_holds_59 rfl trivial ?_
    refine mj_callV h zGood (ev_Se_find l D cA _ _ _ _ t1.2.2.2.2.1 _ _ _ ts _ _ _ _ _ _ hz1 ht _ _ _ _ _ _) v_Se_find l_Se_holds_63 d_Se_holds_63 rfl ⟨by decide, by decide⟩ ⟨by decide, by decide⟩ [(0, 0), (1, 1), (2, 2), (3, 3), (4, 4), (5, 5), (6, 6), (7, 21), (8, 8), (9, 9), (10, 10)] rfl rfl rfl rfl rfl rfl (Nat.le_of_ble_eq_true rfl) ?_
    rintro _ _ ⟨rfl, rfl⟩
    refine mj_k rfl rfl ?_
    refine mj_blk h.1 b_Se_holds_66 rfl trivial ?_
    first | refine mj_ifeqB h.1 (tgt := 84) d_Se_holds_71 (by decide) (fun h3 => ?_) (fun h3 => ?_) | refine mj_ifeq h.1 (tgt := 84) d_Se_holds_71 (by decide) (fun h3 => ?_) (fun h3 => ?_)
    · refine mj_blk h.1 b_Se_holds_84 rfl trivial ?_
      refine mj_callV h zGood (ev_Se_moveBases l D cA _ _ _ _ t1.2.2.2.2.1 _ _ ts ht _ _ _ _) v_Se_moveBases l_Se_holds_88 d_Se_holds_88 rfl ⟨by decide, by decide⟩ ⟨by decide, by decide⟩ [(0, 0), (1, 1), (2, 2), (3, 3), (4, 4), (5, 5), (6, 6), (7, 21), (8, 8), (9, 9), (10, 10)] rfl rfl rfl rfl rfl rfl (Nat.le_of_ble_eq_true rfl) ?_
      rintro _ _ ⟨rfl, rfl⟩
      refine mj_k rfl rfl ?_
      refine mj_blk h.1 b_Se_holds_91 rfl trivial ?_
      refine mj_callV h zGood (ev_Mk_settle l D cA _ _ _ ts ht) v_Mk_settle l_Se_holds_96 d_Se_holds_96 rfl ⟨by decide, by decide⟩ ⟨by decide, by decide⟩ [(0, 1), (1, 3), (2, 4)] rfl rfl rfl rfl rfl rfl (Nat.le_of_ble_eq_true rfl) ?_
      rintro _ _ ⟨rfl, rfl⟩
      refine mj_k rfl rfl ?_
      refine mj_blk h.1 b_Se_holds_99 rfl trivial ?_
      refine mj_callV h zGood (ev_Mk_isAnyIn l D cA _ _ ts ht _ _) v_Mk_isAnyIn l_Se_holds_105 d_Se_holds_105 rfl ⟨by decide, by decide⟩ ⟨by decide, by decide⟩ [(0, 1), (1, 3), (2, 4)] rfl rfl rfl rfl rfl rfl (Nat.le_of_ble_eq_true rfl) ?_
      rintro _ _ ⟨rfl, rfl⟩
      refine mj_k rfl rfl ?_
      refine mj_blk h.1 b_Se_holds_108 rfl trivial ?_
      refine mj_lpk [0, 1, 3, 4, 5, 6] rfl ?_
      have k2 := K
      unfold vBm vBl at k2
      rw [if_neg h3, if_neg h3] at k2
      exact k2
    · refine mj_blk h.1 b_Se_holds_74 rfl trivial ?_
      refine mj_callV h zGood (ev_Se_dropBases l D cA _ _ _ _ t1.2.2.2.2.1 _ _ ts ht _ _ _ _) v_Se_dropBases l_Se_holds_78 d_Se_holds_78 rfl ⟨by decide, by decide⟩ ⟨by decide, by decide⟩ [(0, 0), (1, 1), (2, 2), (3, 3), (4, 4), (5, 5), (6, 6), (7, 21), (8, 8), (9, 9), (10, 10)] rfl rfl rfl rfl rfl rfl (Nat.le_of_ble_eq_true rfl) ?_
      rintro _ _ ⟨rfl, rfl⟩
      refine mj_k rfl rfl ?_
      refine mj_blk h.1 b_Se_holds_81 rfl trivial ?_
      refine mj_blk h.1 b_Se_holds_91 rfl trivial ?_
      refine mj_callV h zGood (ev_Mk_settle l D cA _ _ _ ts ht) v_Mk_settle l_Se_holds_96 d_Se_holds_96 rfl ⟨by decide, by decide⟩ ⟨by decide, by decide⟩ [(0, 1), (1, 3), (2, 4)] rfl rfl rfl rfl rfl rfl (Nat.le_of_ble_eq_true rfl) ?_
      rintro _ _ ⟨rfl, rfl⟩
      refine mj_k rfl rfl ?_
      refine mj_blk h.1 b_Se_holds_99 rfl trivial ?_
      refine mj_callV h zGood (ev_Mk_isAnyIn l D cA _ _ ts ht _ _) v_Mk_isAnyIn l_Se_holds_105 d_Se_holds_105 rfl ⟨by decide, by decide⟩ ⟨by decide, by decide⟩ [(0, 1), (1, 3), (2, 4)] rfl rfl rfl rfl rfl rfl (Nat.le_of_ble_eq_true rfl) ?_
      rintro _ _ ⟨rfl, rfl⟩
      refine mj_k rfl rfl ?_
      refine mj_blk h.1 b_Se_holds_108 rfl trivial ?_
      refine mj_lpk [0, 1, 3, 4, 5, 6] rfl ?_
      have k2 := K
      unfold vBm vBl at k2
      rw [if_pos h3, if_pos h3] at k2
      exact k2
set_option maxRecDepth 100000 in
set_option maxHeartbeats 4000000 in
theorem hF_2_1 {X : mj_X} {post : mj_R} (h : mj_E zG X l D cA m_Se_holds 3 120 0 0 (fun _ => True) post) (t0 : oT) (hz0 : t0.2.2.2.2.1 ≤ 6) (t1 : oT) (hz1 : t1.2.2.2.2.1 ≤ 6) (bm bl fm fl : Nat → Int32) (bt ft : Int32) (hp : post (some (.int 0)) [(0, cSe), (1, cMk 3 4 bt), (3, cBs bm), (4, cIs 81 bl), (2, cMk 5 6 ft), (5, cBs fm), (6, cIs 81 fl), (8, cSm 9 10 ts hs nx rr bg en), (9, cIs 80 tx), (10, cIs 32 hd), (11, cRu 12 wy pt 2), (12, cOs [some 20, some 21, none]), (20, cOt t0), (21, cOt t1)]) : mj_W zG X 0 0 30 [(5, .int (nI 1)), (4, .int 0), (3, .int (nI ts)), (0, .ref 0), (1, .ref 11), (2, .ref 8)] [] [(0, cSe), (1, cMk 3 4 bt), (3, cBs bm), (4, cIs 81 bl), (2, cMk 5 6 ft), (5, cBs fm), (6, cIs 81 fl), (8, cSm 9 10 ts hs nx rr bg en), (9, cIs 80 tx), (10, cIs 32 hd), (11, cRu 12 wy pt 2), (12, cOs [some 20, some 21, none]), (20, cOt t0), (21, cOt t1)] := by
  refine mj_blk h.1 b_Se_holds_30 rfl trivial ?_
  refine mj_callV h zGood (ev_Ru_size l D cA _ _ 2) v_Ru_size l_Se_holds_33 d_Se_holds_33 rfl ⟨by decide, by decide⟩ ⟨by decide, by decide⟩ [(0, 11), (1, 12), (20, 20), (21, 21), (22, 22)] rfl rfl rfl rfl rfl rfl (Nat.le_of_ble_eq_true rfl) ?_
  rintro _ _ ⟨rfl, rfl⟩
  refine mj_k rfl rfl ?_
  refine mj_icge h.1 (tgt := 116) d_Se_holds_36 (by decide) (fun h1 => ?_) (fun h1 => ?_)
  · refine mj_blk h.1 b_Se_holds_116 rfl trivial ?_
    exact mj_zret h rfl (Or.inl rfl) d_Se_holds_118 (by decide) (by decide) hp
  · refine mj_blk h.1 b_Se_holds_39 rfl trivial ?_
    refine mj_ifeq0 h.1 (tgt := 116) d_Se_holds_41 (by decide) ?_
    refine mj_blk h.1 b_Se_holds_116 rfl trivial ?_
    exact mj_zret h rfl (Or.inl rfl) d_Se_holds_118 (by decide) (by decide) hp
set_option maxRecDepth 100000 in
set_option maxHeartbeats 4000000 in
theorem hH_2_1 {X : mj_X} {post : mj_R} (ht : ts ≤ 80) (h : mj_E zG X l D cA m_Se_holds 3 120 0 0 (fun _ => True) post) (t0 : oT) (hz0 : t0.2.2.2.2.1 ≤ 6) (t1 : oT) (hz1 : t1.2.2.2.2.1 ≤ 6) (b : Bool) (bm bl fm fl : Nat → Int32) (ft : Int32) (hp : ∀ bm1 bl1 bt fm1 fl1 ft, post (some (.int (if vRun tx ts [t1] bm bl fm fl b then 1 else 0))) [(0, cSe), (1, cMk 3 4 bt), (3, cBs bm1), (4, cIs 81 bl1), (2, cMk 5 6 ft), (5, cBs fm1), (6, cIs 81 fl1), (8, cSm 9 10 ts hs nx rr bg en), (9, cIs 80 tx), (10, cIs 32 hd), (11, cRu 12 wy pt 2), (12, cOs [some 20, some 21, none]), (20, cOt t0), (21, cOt t1)]) : mj_W zG X 0 0 30 [(5, .int (nI 1)), (4, .int (if b then 1 else 0)), (3, .int (nI ts)), (0, .ref 0), (1, .ref 11), (2, .ref 8)] [] [(0, cSe), (1, cMk 3 4 (nI ts)), (3, cBs bm), (4, cIs 81 bl), (2, cMk 5 6 ft), (5, cBs fm), (6, cIs 81 fl), (8, cSm 9 10 ts hs nx rr bg en), (9, cIs 80 tx), (10, cIs 32 hd), (11, cRu 12 wy pt 2), (12, cOs [some 20, some 21, none]), (20, cOt t0), (21, cOt t1)] := by
  cases b with
  | false =>
    exact hF_2_1 l D cA wy pt tx ts hd hs nx rr bg en h t0 hz0 t1 hz1 bm bl fm fl (nI ts) ft (hp _ _ _ _ _ _)
  | true =>
    refine hI_2_1 l D cA wy pt tx ts hd hs nx rr bg en ht h t0 hz0 t1 hz1 bm bl fm fl ft ?_
    rw [← if_dec]
    exact hH_2_2 l D cA wy pt tx ts hd hs nx rr bg en h t0 hz0 t1 hz1 _ hp _ _ _ _ _ _
set_option maxRecDepth 100000 in
set_option maxHeartbeats 4000000 in
theorem hI_2_0 {X : mj_X} {post : mj_R} (ht : ts ≤ 80) (h : mj_E zG X l D cA m_Se_holds 3 120 0 0 (fun _ => True) post) (t0 : oT) (hz0 : t0.2.2.2.2.1 ≤ 6) (t1 : oT) (hz1 : t1.2.2.2.2.1 ≤ 6) (bm bl fm fl : Nat → Int32) (ft : Int32) (K : mj_W zG X 0 0 30 [(5, .int (nI 1)), (4, .int (if kAny (kSet (ts + 1) 0 (-1) (vBm t0 ts bm bl (vFm t0 tx ts fm) (kSet (ts + 1) 0 (-1) (vFm t0 tx ts fm) fl)) (vBl t0 ts bm bl)) ts 0 (nI ts) then 1 else 0)), (3, .int (nI ts)), (0, .ref 0), (1, .ref 11), (2, .ref 8)] [] [(0, cSe), (1, cMk 3 4 (nI ts)), (3, cBs (vBm t0 ts bm bl (vFm t0 tx ts fm) (kSet (ts + 1) 0 (-1) (vFm t0 tx ts fm) fl))), (4, cIs 81 (kSet (ts + 1) 0 (-1) (vBm t0 ts bm bl (vFm t0 tx ts fm) (kSet (ts + 1) 0 (-1) (vFm t0 tx ts fm) fl)) (vBl t0 ts bm bl))), (2, cMk 5 6 (nI ts)), (5, cBs (vFm t0 tx ts fm)), (6, cIs 81 (kSet (ts + 1) 0 (-1) (vFm t0 tx ts fm) fl)), (8, cSm 9 10 ts hs nx rr bg en), (9, cIs 80 tx), (10, cIs 32 hd), (11, cRu 12 wy pt 2), (12, cOs [some 20, some 21, none]), (20, cOt t0), (21, cOt t1)]) : mj_W zG X 0 0 30 [(5, .int (nI 0)), (4, .int 1), (3, .int (nI ts)), (0, .ref 0), (1, .ref 11), (2, .ref 8)] [] [(0, cSe), (1, cMk 3 4 (nI ts)), (3, cBs bm), (4, cIs 81 bl), (2, cMk 5 6 ft), (5, cBs fm), (6, cIs 81 fl), (8, cSm 9 10 ts hs nx rr bg en), (9, cIs 80 tx), (10, cIs 32 hd), (11, cRu 12 wy pt 2), (12, cOs [some 20, some 21, none]), (20, cOt t0), (21, cOt t1)] := by
  refine mj_blk h.1 b_Se_holds_30 rfl trivial ?_
  refine mj_callV h zGood (ev_Ru_size l D cA _ _ 2) v_Ru_size l_Se_holds_33 d_Se_holds_33 rfl ⟨by decide, by decide⟩ ⟨by decide, by decide⟩ [(0, 11), (1, 12), (20, 20), (21, 21), (22, 22)] rfl rfl rfl rfl rfl rfl (Nat.le_of_ble_eq_true rfl) ?_
  rintro _ _ ⟨rfl, rfl⟩
  refine mj_k rfl rfl ?_
  refine mj_icge h.1 (tgt := 116) d_Se_holds_36 (by decide) (fun h1 => ?_) (fun h1 => ?_)
  · exact absurd h1 (by decide)
  · refine mj_blk h.1 b_Se_holds_39 rfl trivial ?_
    refine mj_ifeq1 h.1 (tgt := 116) d_Se_holds_41 (by decide) ?_
    refine mj_blk h.1 b_Se_holds_44 rfl trivial ?_
    refine mj_callV h zGood (ev_Ru_at l D cA _ _ 2 [some 20, some 21, none] (by decide) 0 20 (by decide) rfl) v_Ru_at l_Se_holds_47 d_Se_holds_47 rfl ⟨by decide, by decide⟩ ⟨by decide, by decide⟩ [(0, 11), (1, 12), (20, 20), (21, 21), (22, 22)] rfl rfl rfl rfl rfl rfl (Nat.le_of_ble_eq_true rfl) ?_
    rintro _ _ ⟨rfl, rfl⟩
    refine mj_k rfl rfl ?_
    refine mj_blk h.1 b_Se_holds_50 rfl trivial ?_
    refine mj_ifnonnull_r h.1 d_Se_holds_54 (tgt := 59) (by decide) ?_
    refine mj_blk h.1 b_Se_holds_59 rfl trivial ?_
    refine mj_callV h zGood (ev_Se_find l D cA _ _ _ _ t0.2.2.2.2.1 _ _ _ ts _ _ _ _ _ _ hz0 ht _ _ _ _ _ _) v_Se_find l_Se_holds_63 d_Se_holds_63 rfl ⟨by decide, by decide⟩ ⟨by decide, by decide⟩ [(0, 0), (1, 1), (2, 2), (3, 3), (4, 4), (5, 5), (6, 6), (7, 20), (8, 8), (9, 9), (10, 10)] rfl rfl rfl rfl rfl rfl (Nat.le_of_ble_eq_true rfl) ?_
    rintro _ _ ⟨rfl, rfl⟩
    refine mj_k rfl rfl ?_
    refine mj_blk h.1 b_Se_holds_66 rfl trivial ?_
    first | refine mj_ifeqB h.1 (tgt := 84) d_Se_holds_71 (by decide) (fun h3 => ?_) (fun h3 => ?_) | refine mj_ifeq h.1 (tgt := 84) d_Se_holds_71 (by decide) (fun h3 => ?_) (fun h3 => ?_)
    · refine mj_blk h.1 b_Se_holds_84 rfl trivial ?_
      refine mj_callV h zGood (ev_Se_moveBases l D cA _ _ _ _ t0.2.2.2.2.1 _ _ ts ht _ _ _ _) v_Se_moveBases l_Se_holds_88 d_Se_holds_88 rfl ⟨by decide, by decide⟩ ⟨by decide, by decide⟩ [(0, 0), (1, 1), (2, 2), (3, 3), (4, 4), (5, 5), (6, 6), (7, 20), (8, 8), (9, 9), (10, 10)] rfl rfl rfl rfl rfl rfl (Nat.le_of_ble_eq_true rfl) ?_
      rintro _ _ ⟨rfl, rfl⟩
      refine mj_k rfl rfl ?_
      refine mj_blk h.1 b_Se_holds_91 rfl trivial ?_
      refine mj_callV h zGood (ev_Mk_settle l D cA _ _ _ ts ht) v_Mk_settle l_Se_holds_96 d_Se_holds_96 rfl ⟨by decide, by decide⟩ ⟨by decide, by decide⟩ [(0, 1), (1, 3), (2, 4)] rfl rfl rfl rfl rfl rfl (Nat.le_of_ble_eq_true rfl) ?_
      rintro _ _ ⟨rfl, rfl⟩
      refine mj_k rfl rfl ?_
      refine mj_blk h.1 b_Se_holds_99 rfl trivial ?_
      refine mj_callV h zGood (ev_Mk_isAnyIn l D cA _ _ ts ht _ _) v_Mk_isAnyIn l_Se_holds_105 d_Se_holds_105 rfl ⟨by decide, by decide⟩ ⟨by decide, by decide⟩ [(0, 1), (1, 3), (2, 4)] rfl rfl rfl rfl rfl rfl (Nat.le_of_ble_eq_true rfl) ?_
      rintro _ _ ⟨rfl, rfl⟩
      refine mj_k rfl rfl ?_
      refine mj_blk h.1 b_Se_holds_108 rfl trivial ?_
      refine mj_lpk [0, 1, 3, 4, 5, 6] rfl ?_
      have k2 := K
      unfold vBm vBl at k2
      rw [if_neg h3, if_neg h3] at k2
      exact k2
    · refine mj_blk h.1 b_Se_holds_74 rfl trivial ?_
      refine mj_callV h zGood (ev_Se_dropBases l D cA _ _ _ _ t0.2.2.2.2.1 _ _ ts ht _ _ _ _) v_Se_dropBases l_Se_holds_78 d_Se_holds_78 rfl ⟨by decide, by decide⟩ ⟨by decide, by decide⟩ [(0, 0), (1, 1), (2, 2), (3, 3), (4, 4), (5, 5), (6, 6), (7, 20), (8, 8), (9, 9), (10, 10)] rfl rfl rfl rfl rfl rfl (Nat.le_of_ble_eq_true rfl) ?_
      rintro _ _ ⟨rfl, rfl⟩
      refine mj_k rfl rfl ?_
      refine mj_blk h.1 b_Se_holds_81 rfl trivial ?_
      refine mj_blk h.1 b_Se_holds_91 rfl trivial ?_
      refine mj_callV h zGood (ev_Mk_settle l D cA _ _ _ ts ht) v_Mk_settle l_Se_holds_96 d_Se_holds_96 rfl ⟨by decide, by decide⟩ ⟨by decide, by decide⟩ [(0, 1), (1, 3), (2, 4)] rfl rfl rfl rfl rfl rfl (Nat.le_of_ble_eq_true rfl) ?_
      rintro _ _ ⟨rfl, rfl⟩
      refine mj_k rfl rfl ?_
      refine mj_blk h.1 b_Se_holds_99 rfl trivial ?_
      refine mj_callV h zGood (ev_Mk_isAnyIn l D cA _ _ ts ht _ _) v_Mk_isAnyIn l_Se_holds_105 d_Se_holds_105 rfl ⟨by decide, by decide⟩ ⟨by decide, by decide⟩ [(0, 1), (1, 3), (2, 4)] rfl rfl rfl rfl rfl rfl (Nat.le_of_ble_eq_true rfl) ?_
      rintro _ _ ⟨rfl, rfl⟩
      refine mj_k rfl rfl ?_
      refine mj_blk h.1 b_Se_holds_108 rfl trivial ?_
      refine mj_lpk [0, 1, 3, 4, 5, 6] rfl ?_
      have k2 := K
      unfold vBm vBl at k2
      rw [if_pos h3, if_pos h3] at k2
      exact k2
set_option maxRecDepth 100000 in
set_option maxHeartbeats 4000000 in
theorem hF_2_0 {X : mj_X} {post : mj_R} (h : mj_E zG X l D cA m_Se_holds 3 120 0 0 (fun _ => True) post) (t0 : oT) (hz0 : t0.2.2.2.2.1 ≤ 6) (t1 : oT) (hz1 : t1.2.2.2.2.1 ≤ 6) (bm bl fm fl : Nat → Int32) (bt ft : Int32) (hp : post (some (.int 0)) [(0, cSe), (1, cMk 3 4 bt), (3, cBs bm), (4, cIs 81 bl), (2, cMk 5 6 ft), (5, cBs fm), (6, cIs 81 fl), (8, cSm 9 10 ts hs nx rr bg en), (9, cIs 80 tx), (10, cIs 32 hd), (11, cRu 12 wy pt 2), (12, cOs [some 20, some 21, none]), (20, cOt t0), (21, cOt t1)]) : mj_W zG X 0 0 30 [(5, .int (nI 0)), (4, .int 0), (3, .int (nI ts)), (0, .ref 0), (1, .ref 11), (2, .ref 8)] [] [(0, cSe), (1, cMk 3 4 bt), (3, cBs bm), (4, cIs 81 bl), (2, cMk 5 6 ft), (5, cBs fm), (6, cIs 81 fl), (8, cSm 9 10 ts hs nx rr bg en), (9, cIs 80 tx), (10, cIs 32 hd), (11, cRu 12 wy pt 2), (12, cOs [some 20, some 21, none]), (20, cOt t0), (21, cOt t1)] := by
  refine mj_blk h.1 b_Se_holds_30 rfl trivial ?_
  refine mj_callV h zGood (ev_Ru_size l D cA _ _ 2) v_Ru_size l_Se_holds_33 d_Se_holds_33 rfl ⟨by decide, by decide⟩ ⟨by decide, by decide⟩ [(0, 11), (1, 12), (20, 20), (21, 21), (22, 22)] rfl rfl rfl rfl rfl rfl (Nat.le_of_ble_eq_true rfl) ?_
  rintro _ _ ⟨rfl, rfl⟩
  refine mj_k rfl rfl ?_
  refine mj_icge h.1 (tgt := 116) d_Se_holds_36 (by decide) (fun h1 => ?_) (fun h1 => ?_)
  · refine mj_blk h.1 b_Se_holds_116 rfl trivial ?_
    exact mj_zret h rfl (Or.inl rfl) d_Se_holds_118 (by decide) (by decide) hp
  · refine mj_blk h.1 b_Se_holds_39 rfl trivial ?_
    refine mj_ifeq0 h.1 (tgt := 116) d_Se_holds_41 (by decide) ?_
    refine mj_blk h.1 b_Se_holds_116 rfl trivial ?_
    exact mj_zret h rfl (Or.inl rfl) d_Se_holds_118 (by decide) (by decide) hp
set_option maxRecDepth 100000 in
set_option maxHeartbeats 4000000 in
theorem hH_2_0 {X : mj_X} {post : mj_R} (ht : ts ≤ 80) (h : mj_E zG X l D cA m_Se_holds 3 120 0 0 (fun _ => True) post) (t0 : oT) (hz0 : t0.2.2.2.2.1 ≤ 6) (t1 : oT) (hz1 : t1.2.2.2.2.1 ≤ 6) (b : Bool) (bm bl fm fl : Nat → Int32) (ft : Int32) (hp : ∀ bm1 bl1 bt fm1 fl1 ft, post (some (.int (if vRun tx ts [t0, t1] bm bl fm fl b then 1 else 0))) [(0, cSe), (1, cMk 3 4 bt), (3, cBs bm1), (4, cIs 81 bl1), (2, cMk 5 6 ft), (5, cBs fm1), (6, cIs 81 fl1), (8, cSm 9 10 ts hs nx rr bg en), (9, cIs 80 tx), (10, cIs 32 hd), (11, cRu 12 wy pt 2), (12, cOs [some 20, some 21, none]), (20, cOt t0), (21, cOt t1)]) : mj_W zG X 0 0 30 [(5, .int (nI 0)), (4, .int (if b then 1 else 0)), (3, .int (nI ts)), (0, .ref 0), (1, .ref 11), (2, .ref 8)] [] [(0, cSe), (1, cMk 3 4 (nI ts)), (3, cBs bm), (4, cIs 81 bl), (2, cMk 5 6 ft), (5, cBs fm), (6, cIs 81 fl), (8, cSm 9 10 ts hs nx rr bg en), (9, cIs 80 tx), (10, cIs 32 hd), (11, cRu 12 wy pt 2), (12, cOs [some 20, some 21, none]), (20, cOt t0), (21, cOt t1)] := by
  cases b with
  | false =>
    exact hF_2_0 l D cA wy pt tx ts hd hs nx rr bg en h t0 hz0 t1 hz1 bm bl fm fl (nI ts) ft (hp _ _ _ _ _ _)
  | true =>
    refine hI_2_0 l D cA wy pt tx ts hd hs nx rr bg en ht h t0 hz0 t1 hz1 bm bl fm fl ft ?_
    rw [← if_dec]
    exact hH_2_1 l D cA wy pt tx ts hd hs nx rr bg en ht h t0 hz0 t1 hz1 _ _ _ _ _ _ hp
set_option maxRecDepth 100000 in
set_option maxHeartbeats 4000000 in
theorem ev_Se_holds_2 (ht : ts ≤ 80) (t0 : oT) (hz0 : t0.2.2.2.2.1 ≤ 6) (t1 : oT) (hz1 : t1.2.2.2.2.1 ≤ 6) (bm bl : Nat → Int32) (bt : Int32) (fm fl : Nat → Int32) (ft : Int32) : E_Se_holds l D cA 0 0 [.ref 0, .ref 11, .ref 8] [(0, cSe), (1, cMk 3 4 bt), (3, cBs bm), (4, cIs 81 bl), (2, cMk 5 6 ft), (5, cBs fm), (6, cIs 81 fl), (8, cSm 9 10 ts hs nx rr bg en), (9, cIs 80 tx), (10, cIs 32 hd), (11, cRu 12 wy pt 2), (12, cOs [some 20, some 21, none]), (20, cOt t0), (21, cOt t1)] (fun _ => True) (fun r1 w1 => r1 = some (.int (if vRun tx ts [t0, t1] (kStart (ts + 1) 0 bm) (kSet (ts + 1) 0 (-1) (kStart (ts + 1) 0 bm) bl) fm fl true then 1 else 0)) ∧ ∃ bm1 bl1 bt1 fm1 fl1 ft1, w1 = [(0, cSe), (1, cMk 3 4 bt1), (3, cBs bm1), (4, cIs 81 bl1), (2, cMk 5 6 ft1), (5, cBs fm1), (6, cIs 81 fl1), (8, cSm 9 10 ts hs nx rr bg en), (9, cIs 80 tx), (10, cIs 32 hd), (11, cRu 12 wy pt 2), (12, cOs [some 20, some 21, none]), (20, cOt t0), (21, cOt t1)]) := by
  refine mj_ev (lv := [(0, .ref 0), (1, .ref 11), (2, .ref 8)]) (by decide +kernel) (Nat.le_of_ble_eq_true rfl) rfl (fun X h => ?_)
  refine mj_blk h.1 b_Se_holds_0 rfl trivial ?_
  refine mj_callV h zGood (ev_Sm_size l D cA _ _ _ _ _ _ _ _) v_Sm_size l_Se_holds_1 d_Se_holds_1 rfl ⟨by decide, by decide⟩ ⟨by decide, by decide⟩ [(0, 8), (1, 9), (2, 10)] rfl rfl rfl rfl rfl rfl (Nat.le_of_ble_eq_true rfl) ?_
  rintro _ _ ⟨rfl, rfl⟩
  refine mj_k rfl rfl ?_
  refine mj_blk h.1 b_Se_holds_4 rfl trivial ?_
  refine mj_callV h zGood (ev_Mk_markStartOnly l D cA _ _ _ ts ht) v_Mk_markStartOnly l_Se_holds_10 d_Se_holds_10 rfl ⟨by decide, by decide⟩ ⟨by decide, by decide⟩ [(0, 1), (1, 3), (2, 4)] rfl rfl rfl rfl rfl rfl (Nat.le_of_ble_eq_true rfl) ?_
  rintro _ _ ⟨rfl, rfl⟩
  refine mj_k rfl rfl ?_
  refine mj_blk h.1 b_Se_holds_13 rfl trivial ?_
  refine mj_callV h zGood (ev_Ru_size l D cA _ _ 2) v_Ru_size l_Se_holds_14 d_Se_holds_14 rfl ⟨by decide, by decide⟩ ⟨by decide, by decide⟩ [(0, 11), (1, 12), (20, 20), (21, 21), (22, 22)] rfl rfl rfl rfl rfl rfl (Nat.le_of_ble_eq_true rfl) ?_
  rintro _ _ ⟨rfl, rfl⟩
  refine mj_k rfl rfl ?_
  refine mj_ifle h.1 (tgt := 24) d_Se_holds_17 (by decide) (fun h1 => ?_) (fun h1 => ?_)
  · exact absurd h1 (by decide)
  · refine mj_blk h.1 b_Se_holds_20 rfl trivial ?_
    refine mj_blk h.1 b_Se_holds_25 rfl trivial ?_
    exact hH_2_0 l D cA wy pt tx ts hd hs nx rr bg en ht h t0 hz0 t1 hz1 true _ _ _ _ _ (fun _ _ _ _ _ _ => ⟨rfl, _, _, _, _, _, _, rfl⟩)
set_option maxRecDepth 100000 in
set_option maxHeartbeats 4000000 in
theorem hH_3_3 {X : mj_X} {post : mj_R} (h : mj_E zG X l D cA m_Se_holds 3 120 0 0 (fun _ => True) post) (t0 : oT) (hz0 : t0.2.2.2.2.1 ≤ 6) (t1 : oT) (hz1 : t1.2.2.2.2.1 ≤ 6) (t2 : oT) (hz2 : t2.2.2.2.2.1 ≤ 6) (b : Bool) (hp : (∀ bm bl bt fm fl ft, post (some (.int (if b then 1 else 0))) [(0, cSe), (1, cMk 3 4 bt), (3, cBs bm), (4, cIs 81 bl), (2, cMk 5 6 ft), (5, cBs fm), (6, cIs 81 fl), (8, cSm 9 10 ts hs nx rr bg en), (9, cIs 80 tx), (10, cIs 32 hd), (11, cRu 12 wy pt 3), (12, cOs [some 20, some 21, some 22]), (20, cOt t0), (21, cOt t1), (22, cOt t2)])) (bm bl fm fl : Nat → Int32) (bt ft : Int32) : mj_W zG X 0 0 30 [(5, .int (nI 3)), (4, .int (if b then 1 else 0)), (3, .int (nI ts)), (0, .ref 0), (1, .ref 11), (2, .ref 8)] [] [(0, cSe), (1, cMk 3 4 bt), (3, cBs bm), (4, cIs 81 bl), (2, cMk 5 6 ft), (5, cBs fm), (6, cIs 81 fl), (8, cSm 9 10 ts hs nx rr bg en), (9, cIs 80 tx), (10, cIs 32 hd), (11, cRu 12 wy pt 3), (12, cOs [some 20, some 21, some 22]), (20, cOt t0), (21, cOt t1), (22, cOt t2)] := by
  refine mj_blk h.1 b_Se_holds_30 rfl trivial ?_
  refine mj_callV h zGood (ev_Ru_size l D cA _ _ 3) v_Ru_size l_Se_holds_33 d_Se_holds_33 rfl ⟨by decide, by decide⟩ ⟨by decide, by decide⟩ [(0, 11), (1, 12), (20, 20), (21, 21), (22, 22)] rfl rfl rfl rfl rfl rfl (Nat.le_of_ble_eq_true rfl) ?_
  rintro _ _ ⟨rfl, rfl⟩
  refine mj_k rfl rfl ?_
  refine mj_icge h.1 (tgt := 116) d_Se_holds_36 (by decide) (fun h1 => ?_) (fun h1 => ?_)
  · refine mj_blk h.1 b_Se_holds_116 rfl trivial ?_
    exact mj_zret h rfl (mj_z01) d_Se_holds_118 (by decide) (by decide) (hp _ _ _ _ _ _)
  · exact absurd (by decide) h1
set_option maxRecDepth 100000 in
set_option maxHeartbeats 4000000 in
theorem hI_3_2 {X : mj_X} {post : mj_R} (ht : ts ≤ 80) (h : mj_E zG X l D cA m_Se_holds 3 120 0 0 (fun _ => True) post) (t0 : oT) (hz0 : t0.2.2.2.2.1 ≤ 6) (t1 : oT) (hz1 : t1.2.2.2.2.1 ≤ 6) (t2 : oT) (hz2 : t2.2.2.2.2.1 ≤ 6) (bm bl fm fl : Nat → Int32) (ft : Int32) (K : mj_W zG X 0 0 30 [(5, .int (nI 3)), (4, .int (if kAny (kSet (ts + 1) 0 (-1) (vBm t2 ts bm bl (vFm t2 tx ts fm) (kSet (ts + 1) 0 (-1) (vFm t2 tx ts fm) fl)) (vBl t2 ts bm bl)) ts 0 (nI ts) then 1 else 0)), (3, .int (nI ts)), (0, .ref 0), (1, .ref 11), (2, .ref 8)] [] [(0, cSe), (1, cMk 3 4 (nI ts)), (3, cBs (vBm t2 ts bm bl (vFm t2 tx ts fm) (kSet (ts + 1) 0 (-1) (vFm t2 tx ts fm) fl))), (4, cIs 81 (kSet (ts + 1) 0 (-1) (vBm t2 ts bm bl (vFm t2 tx ts fm) (kSet (ts + 1) 0 (-1) (vFm t2 tx ts fm) fl)) (vBl t2 ts bm bl))), (2, cMk 5 6 (nI ts)), (5, cBs (vFm t2 tx ts fm)), (6, cIs 81 (kSet (ts + 1) 0 (-1) (vFm t2 tx ts fm) fl)), (8, cSm 9 10 ts hs nx rr bg en), (9, cIs 80 tx), (10, cIs 32 hd), (11, cRu 12 wy pt 3), (12, cOs [some 20, some 21, some 22]), (20, cOt t0), (21, cOt t1), (22, cOt t2)]) : mj_W zG X 0 0 30 [(5, .int (nI 2)), (4, .int 1), (3, .int (nI ts)), (0, .ref 0), (1, .ref 11), (2, .ref 8)] [] [(0, cSe), (1, cMk 3 4 (nI ts)), (3, cBs bm), (4, cIs 81 bl), (2, cMk 5 6 ft), (5, cBs fm), (6, cIs 81 fl), (8, cSm 9 10 ts hs nx rr bg en), (9, cIs 80 tx), (10, cIs 32 hd), (11, cRu 12 wy pt 3), (12, cOs [some 20, some 21, some 22]), (20, cOt t0), (21, cOt t1), (22, cOt t2)] := by
  refine mj_blk h.1 b_Se_holds_30 rfl trivial ?_
  refine mj_callV h zGood (ev_Ru_size l D cA _ _ 3) v_Ru_size l_Se_holds_33 d_Se_holds_33 rfl ⟨by decide, by decide⟩ ⟨by decide, by decide⟩ [(0, 11), (1, 12), (20, 20), (21, 21), (22, 22)] rfl rfl rfl rfl rfl rfl (Nat.le_of_ble_eq_true rfl) ?_
  rintro _ _ ⟨rfl, rfl⟩
  refine mj_k rfl rfl ?_
  refine mj_icge h.1 (tgt := 116) d_Se_holds_36 (by decide) (fun h1 => ?_) (fun h1 => ?_)
  · exact absurd h1 (by decide)
  · refine mj_blk h.1 b_Se_holds_39 rfl trivial ?_
    refine mj_ifeq1 h.1 (tgt := 116) d_Se_holds_41 (by decide) ?_
    refine mj_blk h.1 b_Se_holds_44 rfl trivial ?_
    refine mj_callV h zGood (ev_Ru_at l D cA _ _ 3 [some 20, some 21, some 22] (by decide) 2 22 (by decide) rfl) v_Ru_at l_Se_holds_47 d_Se_holds_47 rfl ⟨by decide, by decide⟩ ⟨by decide, by decide⟩ [(0, 11), (1, 12), (20, 20), (21, 21), (22, 22)] rfl rfl rfl rfl rfl rfl (Nat.le_of_ble_eq_true rfl) ?_
    rintro _ _ ⟨rfl, rfl⟩
    refine mj_k rfl rfl ?_
    refine mj_blk h.1 b_Se_holds_50 rfl trivial ?_
    refine mj_ifnonnull_r h.1 d_Se_holds_54 (tgt := 59) (by decide) ?_
    refine mj_blk h.1 b_Se_holds_59 rfl trivial ?_
    refine mj_callV h zGood (ev_Se_find l D cA _ _ _ _ t2.2.2.2.2.1 _ _ _ ts _ _ _ _ _ _ hz2 ht _ _ _ _ _ _) v_Se_find l_Se_holds_63 d_Se_holds_63 rfl ⟨by decide, by decide⟩ ⟨by decide, by decide⟩ [(0, 0), (1, 1), (2, 2), (3, 3), (4, 4), (5, 5), (6, 6), (7, 22), (8, 8), (9, 9), (10, 10)] rfl rfl rfl rfl rfl rfl (Nat.le_of_ble_eq_true rfl) ?_
    rintro _ _ ⟨rfl, rfl⟩
    refine mj_k rfl rfl ?_
    refine mj_blk h.1 b_Se_holds_66 rfl trivial ?_
    first | refine mj_ifeqB h.1 (tgt := 84) d_Se_holds_71 (by decide) (fun h3 => ?_) (fun h3 => ?_) | refine mj_ifeq h.1 (tgt := 84) d_Se_holds_71 (by decide) (fun h3 => ?_) (fun h3 => ?_)
    · refine mj_blk h.1 b_Se_holds_84 rfl trivial ?_
      refine mj_callV h zGood (ev_Se_moveBases l D cA _ _ _ _ t2.2.2.2.2.1 _ _ ts ht _ _ _ _) v_Se_moveBases l_Se_holds_88 d_Se_holds_88 rfl ⟨by decide, by decide⟩ ⟨by decide, by decide⟩ [(0, 0), (1, 1), (2, 2), (3, 3), (4, 4), (5, 5), (6, 6), (7, 22), (8, 8), (9, 9), (10, 10)] rfl rfl rfl rfl rfl rfl (Nat.le_of_ble_eq_true rfl) ?_
      rintro _ _ ⟨rfl, rfl⟩
      refine mj_k rfl rfl ?_
      refine mj_blk h.1 b_Se_holds_91 rfl trivial ?_
      refine mj_callV h zGood (ev_Mk_settle l D cA _ _ _ ts ht) v_Mk_settle l_Se_holds_96 d_Se_holds_96 rfl ⟨by decide, by decide⟩ ⟨by decide, by decide⟩ [(0, 1), (1, 3), (2, 4)] rfl rfl rfl rfl rfl rfl (Nat.le_of_ble_eq_true rfl) ?_
      rintro _ _ ⟨rfl, rfl⟩
      refine mj_k rfl rfl ?_
      refine mj_blk h.1 b_Se_holds_99 rfl trivial ?_
      refine mj_callV h zGood (ev_Mk_isAnyIn l D cA _ _ ts ht _ _) v_Mk_isAnyIn l_Se_holds_105 d_Se_holds_105 rfl ⟨by decide, by decide⟩ ⟨by decide, by decide⟩ [(0, 1), (1, 3), (2, 4)] rfl rfl rfl rfl rfl rfl (Nat.le_of_ble_eq_true rfl) ?_
      rintro _ _ ⟨rfl, rfl⟩
      refine mj_k rfl rfl ?_
      refine mj_blk h.1 b_Se_holds_108 rfl trivial ?_
      refine mj_lpk [0, 1, 3, 4, 5, 6] rfl ?_
      have k2 := K
      unfold vBm vBl at k2
      rw [if_neg h3, if_neg h3] at k2
      exact k2
    · refine mj_blk h.1 b_Se_holds_74 rfl trivial ?_
      refine mj_callV h zGood (ev_Se_dropBases l D cA _ _ _ _ t2.2.2.2.2.1 _ _ ts ht _ _ _ _) v_Se_dropBases l_Se_holds_78 d_Se_holds_78 rfl ⟨by decide, by decide⟩ ⟨by decide, by decide⟩ [(0, 0), (1, 1), (2, 2), (3, 3), (4, 4), (5, 5), (6, 6), (7, 22), (8, 8), (9, 9), (10, 10)] rfl rfl rfl rfl rfl rfl (Nat.le_of_ble_eq_true rfl) ?_
      rintro _ _ ⟨rfl, rfl⟩
      refine mj_k rfl rfl ?_
      refine mj_blk h.1 b_Se_holds_81 rfl trivial ?_
      refine mj_blk h.1 b_Se_holds_91 rfl trivial ?_
      refine mj_callV h zGood (ev_Mk_settle l D cA _ _ _ ts ht) v_Mk_settle l_Se_holds_96 d_Se_holds_96 rfl ⟨by decide, by decide⟩ ⟨by decide, by decide⟩ [(0, 1), (1, 3), (2, 4)] rfl rfl rfl rfl rfl rfl (Nat.le_of_ble_eq_true rfl) ?_
      rintro _ _ ⟨rfl, rfl⟩
      refine mj_k rfl rfl ?_
      refine mj_blk h.1 b_Se_holds_99 rfl trivial ?_
      refine mj_callV h zGood (ev_Mk_isAnyIn l D cA _ _ ts ht _ _) v_Mk_isAnyIn l_Se_holds_105 d_Se_holds_105 rfl ⟨by decide, by decide⟩ ⟨by decide, by decide⟩ [(0, 1), (1, 3), (2, 4)] rfl rfl rfl rfl rfl rfl (Nat.le_of_ble_eq_true rfl) ?_
      rintro _ _ ⟨rfl, rfl⟩
      refine mj_k rfl rfl ?_
      refine mj_blk h.1 b_Se_holds_108 rfl trivial ?_
      refine mj_lpk [0, 1, 3, 4, 5, 6] rfl ?_
      have k2 := K
      unfold vBm vBl at k2
      rw [if_pos h3, if_pos h3] at k2
      exact k2
set_option maxRecDepth 100000 in
set_option maxHeartbeats 4000000 in
theorem hF_3_2 {X : mj_X} {post : mj_R} (h : mj_E zG X l D cA m_Se_holds 3 120 0 0 (fun _ => True) post) (t0 : oT) (hz0 : t0.2.2.2.2.1 ≤ 6) (t1 : oT) (hz1 : t1.2.2.2.2.1 ≤ 6) (t2 : oT) (hz2 : t2.2.2.2.2.1 ≤ 6) (bm bl fm fl : Nat → Int32) (bt ft : Int32) (hp : post (some (.int 0)) [(0, cSe), (1, cMk 3 4 bt), (3, cBs bm), (4, cIs 81 bl), (2, cMk 5 6 ft), (5, cBs fm), (6, cIs 81 fl), (8, cSm 9 10 ts hs nx rr bg en), (9, cIs 80 tx), (10, cIs 32 hd), (11, cRu 12 wy pt 3), (12, cOs [some 20, some 21, some 22]), (20, cOt t0), (21, cOt t1), (22, cOt t2)]) : mj_W zG X 0 0 30 [(5, .int (nI 2)), (4, .int 0), (3, .int (nI ts)), (0, .ref 0), (1, .ref 11), (2, .ref 8)] [] [(0, cSe), (1, cMk 3 4 bt), (3, cBs bm), (4, cIs 81 bl), (2, cMk 5 6 ft), (5, cBs fm), (6, cIs 81 fl), (8, cSm 9 10 ts hs nx rr bg en), (9, cIs 80 tx), (10, cIs 32 hd), (11, cRu 12 wy pt 3), (12, cOs [some 20, some 21, some 22]), (20, cOt t0), (21, cOt t1), (22, cOt t2)] := by
  refine mj_blk h.1 b_Se_holds_30 rfl trivial ?_
  refine mj_callV h zGood (ev_Ru_size l D cA _ _ 3) v_Ru_size l_Se_holds_33 d_Se_holds_33 rfl ⟨by decide, by decide⟩ ⟨by decide, by decide⟩ [(0, 11), (1, 12), (20, 20), (21, 21), (22, 22)] rfl rfl rfl rfl rfl rfl (Nat.le_of_ble_eq_true rfl) ?_
  rintro _ _ ⟨rfl, rfl⟩
  refine mj_k rfl rfl ?_
  refine mj_icge h.1 (tgt := 116) d_Se_holds_36 (by decide) (fun h1 => ?_) (fun h1 => ?_)
  · refine mj_blk h.1 b_Se_holds_116 rfl trivial ?_
    exact mj_zret h rfl (Or.inl rfl) d_Se_holds_118 (by decide) (by decide) hp
  · refine mj_blk h.1 b_Se_holds_39 rfl trivial ?_
    refine mj_ifeq0 h.1 (tgt := 116) d_Se_holds_41 (by decide) ?_
    refine mj_blk h.1 b_Se_holds_116 rfl trivial ?_
    exact mj_zret h rfl (Or.inl rfl) d_Se_holds_118 (by decide) (by decide) hp
set_option maxRecDepth 100000 in
set_option maxHeartbeats 4000000 in
theorem hH_3_2 {X : mj_X} {post : mj_R} (ht : ts ≤ 80) (h : mj_E zG X l D cA m_Se_holds 3 120 0 0 (fun _ => True) post) (t0 : oT) (hz0 : t0.2.2.2.2.1 ≤ 6) (t1 : oT) (hz1 : t1.2.2.2.2.1 ≤ 6) (t2 : oT) (hz2 : t2.2.2.2.2.1 ≤ 6) (b : Bool) (bm bl fm fl : Nat → Int32) (ft : Int32) (hp : ∀ bm1 bl1 bt fm1 fl1 ft, post (some (.int (if vRun tx ts [t2] bm bl fm fl b then 1 else 0))) [(0, cSe), (1, cMk 3 4 bt), (3, cBs bm1), (4, cIs 81 bl1), (2, cMk 5 6 ft), (5, cBs fm1), (6, cIs 81 fl1), (8, cSm 9 10 ts hs nx rr bg en), (9, cIs 80 tx), (10, cIs 32 hd), (11, cRu 12 wy pt 3), (12, cOs [some 20, some 21, some 22]), (20, cOt t0), (21, cOt t1), (22, cOt t2)]) : mj_W zG X 0 0 30 [(5, .int (nI 2)), (4, .int (if b then 1 else 0)), (3, .int (nI ts)), (0, .ref 0), (1, .ref 11), (2, .ref 8)] [] [(0, cSe), (1, cMk 3 4 (nI ts)), (3, cBs bm), (4, cIs 81 bl), (2, cMk 5 6 ft), (5, cBs fm), (6, cIs 81 fl), (8, cSm 9 10 ts hs nx rr bg en), (9, cIs 80 tx), (10, cIs 32 hd), (11, cRu 12 wy pt 3), (12, cOs [some 20, some 21, some 22]), (20, cOt t0), (21, cOt t1), (22, cOt t2)] := by
  cases b with
  | false =>
    exact hF_3_2 l D cA wy pt tx ts hd hs nx rr bg en h t0 hz0 t1 hz1 t2 hz2 bm bl fm fl (nI ts) ft (hp _ _ _ _ _ _)
  | true =>
    refine hI_3_2 l D cA wy pt tx ts hd hs nx rr bg en ht h t0 hz0 t1 hz1 t2 hz2 bm bl fm fl ft ?_
    rw [← if_dec]
    exact hH_3_3 l D cA wy pt tx ts hd hs nx rr bg en h t0 hz0 t1 hz1 t2 hz2 _ hp _ _ _ _ _ _
set_option maxRecDepth 100000 in
set_option maxHeartbeats 4000000 in
theorem hI_3_1 {X : mj_X} {post : mj_R} (ht : ts ≤ 80) (h : mj_E zG X l D cA m_Se_holds 3 120 0 0 (fun _ => True) post) (t0 : oT) (hz0 : t0.2.2.2.2.1 ≤ 6) (t1 : oT) (hz1 : t1.2.2.2.2.1 ≤ 6) (t2 : oT) (hz2 : t2.2.2.2.2.1 ≤ 6) (bm bl fm fl : Nat → Int32) (ft : Int32) (K : mj_W zG X 0 0 30 [(5, .int (nI 2)), (4, .int (if kAny (kSet (ts + 1) 0 (-1) (vBm t1 ts bm bl (vFm t1 tx ts fm) (kSet (ts + 1) 0 (-1) (vFm t1 tx ts fm) fl)) (vBl t1 ts bm bl)) ts 0 (nI ts) then 1 else 0)), (3, .int (nI ts)), (0, .ref 0), (1, .ref 11), (2, .ref 8)] [] [(0, cSe), (1, cMk 3 4 (nI ts)), (3, cBs (vBm t1 ts bm bl (vFm t1 tx ts fm) (kSet (ts + 1) 0 (-1) (vFm t1 tx ts fm) fl))), (4, cIs 81 (kSet (ts + 1) 0 (-1) (vBm t1 ts bm bl (vFm t1 tx ts fm) (kSet (ts + 1) 0 (-1) (vFm t1 tx ts fm) fl)) (vBl t1 ts bm bl))), (2, cMk 5 6 (nI ts)), (5, cBs (vFm t1 tx ts fm)), (6, cIs 81 (kSet (ts + 1) 0 (-1) (vFm t1 tx ts fm) fl)), (8, cSm 9 10 ts hs nx rr bg en), (9, cIs 80 tx), (10, cIs 32 hd), (11, cRu 12 wy pt 3), (12, cOs [some 20, some 21, some 22]), (20, cOt t0), (21, cOt t1), (22, cOt t2)]) : mj_W zG X 0 0 30 [(5, .int (nI 1)), (4, .int 1), (3, .int (nI ts)), (0, .ref 0), (1, .ref 11), (2, .ref 8)] [] [(0, cSe), (1, cMk 3 4 (nI ts)), (3, cBs bm), (4, cIs 81 bl), (2, cMk 5 6 ft), (5, cBs fm), (6, cIs 81 fl), (8, cSm 9 10 ts hs nx rr bg en), (9, cIs 80 tx), (10, cIs 32 hd), (11, cRu 12 wy pt 3), (12, cOs [some 20, some 21, some 22]), (20, cOt t0), (21, cOt t1), (22, cOt t2)] := by
  refine mj_blk h.1 b_Se_holds_30 rfl trivial ?_
  refine mj_callV h zGood (ev_Ru_size l D cA _ _ 3) v_Ru_size l_Se_holds_33 d_Se_holds_33 rfl ⟨by decide, by decide⟩ ⟨by decide, by decide⟩ [(0, 11), (1, 12), (20, 20), (21, 21), (22, 22)] rfl rfl rfl rfl rfl rfl (Nat.le_of_ble_eq_true rfl) ?_
  rintro _ _ ⟨rfl, rfl⟩
  refine mj_k rfl rfl ?_
  refine mj_icge h.1 (tgt := 116) d_Se_holds_36 (by decide) (fun h1 => ?_) (fun h1 => ?_)
  · exact absurd h1 (by decide)
  · refine mj_blk h.1 b_Se_holds_39 rfl trivial ?_
    refine mj_ifeq1 h.1 (tgt := 116) d_Se_holds_41 (by decide) ?_
    refine mj_blk h.1 b_Se_holds_44 rfl trivial ?_
    refine mj_callV h zGood (ev_Ru_at l D cA _ _ 3 [some 20, some 21, some 22] (by decide) 1 21 (by decide) rfl) v_Ru_at l_Se_holds_47 d_Se_holds_47 rfl ⟨by decide, by decide⟩ ⟨by decide, by decide⟩ [(0, 11), (1, 12), (20, 20), (21, 21), (22, 22)] rfl rfl rfl rfl rfl rfl (Nat.le_of_ble_eq_true rfl) ?_
    rintro _ _ ⟨rfl, rfl⟩
    refine mj_k rfl rfl ?_
    refine mj_blk h.1 b_Se_holds_50 rfl trivial ?_
    refine mj_ifnonnull_r h.1 d_Se_holds_54 (tgt := 59) (by decide) ?_
    refine mj_blk h.1 b_Se_holds_59 rfl trivial ?_
    refine mj_callV h zGood (ev_Se_find l D cA _ _ _ _ t1.2.2.2.2.1 _ _ _ ts _ _ _ _ _ _ hz1 ht _ _ _ _ _ _) v_Se_find l_Se_holds_63 d_Se_holds_63 rfl ⟨by decide, by decide⟩ ⟨by decide, by decide⟩ [(0, 0), (1, 1), (2, 2), (3, 3), (4, 4), (5, 5), (6, 6), (7, 21), (8, 8), (9, 9), (10, 10)] rfl rfl rfl rfl rfl rfl (Nat.le_of_ble_eq_true rfl) ?_
    rintro _ _ ⟨rfl, rfl⟩
    refine mj_k rfl rfl ?_
    refine mj_blk h.1 b_Se_holds_66 rfl trivial ?_
    first | refine mj_ifeqB h.1 (tgt := 84) d_Se_holds_71 (by decide) (fun h3 => ?_) (fun h3 => ?_) | refine mj_ifeq h.1 (tgt := 84) d_Se_holds_71 (by decide) (fun h3 => ?_) (fun h3 => ?_)
    · refine mj_blk h.1 b_Se_holds_84 rfl trivial ?_
      refine mj_callV h zGood (ev_Se_moveBases l D cA _ _ _ _ t1.2.2.2.2.1 _ _ ts ht _ _ _ _) v_Se_moveBases l_Se_holds_88 d_Se_holds_88 rfl ⟨by decide, by decide⟩ ⟨by decide, by decide⟩ [(0, 0), (1, 1), (2, 2), (3, 3), (4, 4), (5, 5), (6, 6), (7, 21), (8, 8), (9, 9), (10, 10)] rfl rfl rfl rfl rfl rfl (Nat.le_of_ble_eq_true rfl) ?_
      rintro _ _ ⟨rfl, rfl⟩
      refine mj_k rfl rfl ?_
      refine mj_blk h.1 b_Se_holds_91 rfl trivial ?_
      refine mj_callV h zGood (ev_Mk_settle l D cA _ _ _ ts ht) v_Mk_settle l_Se_holds_96 d_Se_holds_96 rfl ⟨by decide, by decide⟩ ⟨by decide, by decide⟩ [(0, 1), (1, 3), (2, 4)] rfl rfl rfl rfl rfl rfl (Nat.le_of_ble_eq_true rfl) ?_
      rintro _ _ ⟨rfl, rfl⟩
      refine mj_k rfl rfl ?_
      refine mj_blk h.1 b_Se_holds_99 rfl trivial ?_
      refine mj_callV h zGood (ev_Mk_isAnyIn l D cA _ _ ts ht _ _) v_Mk_isAnyIn l_Se_holds_105 d_Se_holds_105 rfl ⟨by decide, by decide⟩ ⟨by decide, by decide⟩ [(0, 1), (1, 3), (2, 4)] rfl rfl rfl rfl rfl rfl (Nat.le_of_ble_eq_true rfl) ?_
      rintro _ _ ⟨rfl, rfl⟩
      refine mj_k rfl rfl ?_
      refine mj_blk h.1 b_Se_holds_108 rfl trivial ?_
      refine mj_lpk [0, 1, 3, 4, 5, 6] rfl ?_
      have k2 := K
      unfold vBm vBl at k2
      rw [if_neg h3, if_neg h3] at k2
      exact k2
    · refine mj_blk h.1 b_Se_holds_74 rfl trivial ?_
      refine mj_callV h zGood (ev_Se_dropBases l D cA _ _ _ _ t1.2.2.2.2.1 _ _ ts ht _ _ _ _) v_Se_dropBases l_Se_holds_78 d_Se_holds_78 rfl ⟨by decide, by decide⟩ ⟨by decide, by decide⟩ [(0, 0), (1, 1), (2, 2), (3, 3), (4, 4), (5, 5), (6, 6), (7, 21), (8, 8), (9, 9), (10, 10)] rfl rfl rfl rfl rfl rfl (Nat.le_of_ble_eq_true rfl) ?_
      rintro _ _ ⟨rfl, rfl⟩
      refine mj_k rfl rfl ?_
      refine mj_blk h.1 b_Se_holds_81 rfl trivial ?_
      refine mj_blk h.1 b_Se_holds_91 rfl trivial ?_
      refine mj_callV h zGood (ev_Mk_settle l D cA _ _ _ ts ht) v_Mk_settle l_Se_holds_96 d_Se_holds_96 rfl ⟨by decide, by decide⟩ ⟨by decide, by decide⟩ [(0, 1), (1, 3), (2, 4)] rfl rfl rfl rfl rfl rfl (Nat.le_of_ble_eq_true rfl) ?_
      rintro _ _ ⟨rfl, rfl⟩
      refine mj_k rfl rfl ?_
      refine mj_blk h.1 b_Se_holds_99 rfl trivial ?_
      refine mj_callV h zGood (ev_Mk_isAnyIn l D cA _ _ ts ht _ _) v_Mk_isAnyIn l_Se_holds_105 d_Se_holds_105 rfl ⟨by decide, by decide⟩ ⟨by decide, by decide⟩ [(0, 1), (1, 3), (2, 4)] rfl rfl rfl rfl rfl rfl (Nat.le_of_ble_eq_true rfl) ?_
      rintro _ _ ⟨rfl, rfl⟩
      refine mj_k rfl rfl ?_
      refine mj_blk h.1 b_Se_holds_108 rfl trivial ?_
      refine mj_lpk [0, 1, 3, 4, 5, 6] rfl ?_
      have k2 := K
      unfold vBm vBl at k2
      rw [if_pos h3, if_pos h3] at k2
      exact k2
set_option maxRecDepth 100000 in
set_option maxHeartbeats 4000000 in
theorem hF_3_1 {X : mj_X} {post : mj_R} (h : mj_E zG X l D cA m_Se_holds 3 120 0 0 (fun _ => True) post) (t0 : oT) (hz0 : t0.2.2.2.2.1 ≤ 6) (t1 : oT) (hz1 : t1.2.2.2.2.1 ≤ 6) (t2 : oT) (hz2 : t2.2.2.2.2.1 ≤ 6) (bm bl fm fl : Nat → Int32) (bt ft : Int32) (hp : post (some (.int 0)) [(0, cSe), (1, cMk 3 4 bt), (3, cBs bm), (4, cIs 81 bl), (2, cMk 5 6 ft), (5, cBs fm), (6, cIs 81 fl), (8, cSm 9 10 ts hs nx rr bg en), (9, cIs 80 tx), (10, cIs 32 hd), (11, cRu 12 wy pt 3), (12, cOs [some 20, some 21, some 22]), (20, cOt t0), (21, cOt t1), (22, cOt t2)]) : mj_W zG X 0 0 30 [(5, .int (nI 1)), (4, .int 0), (3, .int (nI ts)), (0, .ref 0), (1, .ref 11), (2, .ref 8)] [] [(0, cSe), (1, cMk 3 4 bt), (3, cBs bm), (4, cIs 81 bl), (2, cMk 5 6 ft), (5, cBs fm), (6, cIs 81 fl), (8, cSm 9 10 ts hs nx rr bg en), (9, cIs 80 tx), (10, cIs 32 hd), (11, cRu 12 wy pt 3), (12, cOs [some 20, some 21, some 22]), (20, cOt t0), (21, cOt t1), (22, cOt t2)] := by
  refine mj_blk h.1 b_Se_holds_30 rfl trivial ?_
  refine mj_callV h zGood (ev_Ru_size l D cA _ _ 3) v_Ru_size l_Se_holds_33 d_Se_holds_33 rfl ⟨by decide, by decide⟩ ⟨by decide, by decide⟩ [(0, 11), (1, 12), (20, 20), (21, 21), (22, 22)] rfl rfl rfl rfl rfl rfl (Nat.le_of_ble_eq_true rfl) ?_
  rintro _ _ ⟨rfl, rfl⟩
  refine mj_k rfl rfl ?_
  refine mj_icge h.1 (tgt := 116) d_Se_holds_36 (by decide) (fun h1 => ?_) (fun h1 => ?_)
  · refine mj_blk h.1 b_Se_holds_116 rfl trivial ?_
    exact mj_zret h rfl (Or.inl rfl) d_Se_holds_118 (by decide) (by decide) hp
  · refine mj_blk h.1 b_Se_holds_39 rfl trivial ?_
    refine mj_ifeq0 h.1 (tgt := 116) d_Se_holds_41 (by decide) ?_
    refine mj_blk h.1 b_Se_holds_116 rfl trivial ?_
    exact mj_zret h rfl (Or.inl rfl) d_Se_holds_118 (by decide) (by decide) hp
set_option maxRecDepth 100000 in
set_option maxHeartbeats 4000000 in
theorem hH_3_1 {X : mj_X} {post : mj_R} (ht : ts ≤ 80) (h : mj_E zG X l D cA m_Se_holds 3 120 0 0 (fun _ => True) post) (t0 : oT) (hz0 : t0.2.2.2.2.1 ≤ 6) (t1 : oT) (hz1 : t1.2.2.2.2.1 ≤ 6) (t2 : oT) (hz2 : t2.2.2.2.2.1 ≤ 6) (b : Bool) (bm bl fm fl : Nat → Int32) (ft : Int32) (hp : ∀ bm1 bl1 bt fm1 fl1 ft, post (some (.int (if vRun tx ts [t1, t2] bm bl fm fl b then 1 else 0))) [(0, cSe), (1, cMk 3 4 bt), (3, cBs bm1), (4, cIs 81 bl1), (2, cMk 5 6 ft), (5, cBs fm1), (6, cIs 81 fl1), (8, cSm 9 10 ts hs nx rr bg en), (9, cIs 80 tx), (10, cIs 32 hd), (11, cRu 12 wy pt 3), (12, cOs [some 20, some 21, some 22]), (20, cOt t0), (21, cOt t1), (22, cOt t2)]) : mj_W zG X 0 0 30 [(5, .int (nI 1)), (4, .int (if b then 1 else 0)), (3, .int (nI ts)), (0, .ref 0), (1, .ref 11), (2, .ref 8)] [] [(0, cSe), (1, cMk 3 4 (nI ts)), (3, cBs bm), (4, cIs 81 bl), (2, cMk 5 6 ft), (5, cBs fm), (6, cIs 81 fl), (8, cSm 9 10 ts hs nx rr bg en), (9, cIs 80 tx), (10, cIs 32 hd), (11, cRu 12 wy pt 3), (12, cOs [some 20, some 21, some 22]), (20, cOt t0), (21, cOt t1), (22, cOt t2)] := by
  cases b with
  | false =>
    exact hF_3_1 l D cA wy pt tx ts hd hs nx rr bg en h t0 hz0 t1 hz1 t2 hz2 bm bl fm fl (nI ts) ft (hp _ _ _ _ _ _)
  | true =>
    refine hI_3_1 l D cA wy pt tx ts hd hs nx rr bg en ht h t0 hz0 t1 hz1 t2 hz2 bm bl fm fl ft ?_
    rw [← if_dec]
    exact hH_3_2 l D cA wy pt tx ts hd hs nx rr bg en ht h t0 hz0 t1 hz1 t2 hz2 _ _ _ _ _ _ hp
set_option maxRecDepth 100000 in
set_option maxHeartbeats 4000000 in
theorem hI_3_0 {X : mj_X} {post : mj_R} (ht : ts ≤ 80) (h : mj_E zG X l D cA m_Se_holds 3 120 0 0 (fun _ => True) post) (t0 : oT) (hz0 : t0.2.2.2.2.1 ≤ 6) (t1 : oT) (hz1 : t1.2.2.2.2.1 ≤ 6) (t2 : oT) (hz2 : t2.2.2.2.2.1 ≤ 6) (bm bl fm fl : Nat → Int32) (ft : Int32) (K : mj_W zG X 0 0 30 [(5, .int (nI 1)), (4, .int (if kAny (kSet (ts + 1) 0 (-1) (vBm t0 ts bm bl (vFm t0 tx ts fm) (kSet (ts + 1) 0 (-1) (vFm t0 tx ts fm) fl)) (vBl t0 ts bm bl)) ts 0 (nI ts) then 1 else 0)), (3, .int (nI ts)), (0, .ref 0), (1, .ref 11), (2, .ref 8)] [] [(0, cSe), (1, cMk 3 4 (nI ts)), (3, cBs (vBm t0 ts bm bl (vFm t0 tx ts fm) (kSet (ts + 1) 0 (-1) (vFm t0 tx ts fm) fl))), (4, cIs 81 (kSet (ts + 1) 0 (-1) (vBm t0 ts bm bl (vFm t0 tx ts fm) (kSet (ts + 1) 0 (-1) (vFm t0 tx ts fm) fl)) (vBl t0 ts bm bl))), (2, cMk 5 6 (nI ts)), (5, cBs (vFm t0 tx ts fm)), (6, cIs 81 (kSet (ts + 1) 0 (-1) (vFm t0 tx ts fm) fl)), (8, cSm 9 10 ts hs nx rr bg en), (9, cIs 80 tx), (10, cIs 32 hd), (11, cRu 12 wy pt 3), (12, cOs [some 20, some 21, some 22]), (20, cOt t0), (21, cOt t1), (22, cOt t2)]) : mj_W zG X 0 0 30 [(5, .int (nI 0)), (4, .int 1), (3, .int (nI ts)), (0, .ref 0), (1, .ref 11), (2, .ref 8)] [] [(0, cSe), (1, cMk 3 4 (nI ts)), (3, cBs bm), (4, cIs 81 bl), (2, cMk 5 6 ft), (5, cBs fm), (6, cIs 81 fl), (8, cSm 9 10 ts hs nx rr bg en), (9, cIs 80 tx), (10, cIs 32 hd), (11, cRu 12 wy pt 3), (12, cOs [some 20, some 21, some 22]), (20, cOt t0), (21, cOt t1), (22, cOt t2)] := by
  refine mj_blk h.1 b_Se_holds_30 rfl trivial ?_
  refine mj_callV h zGood (ev_Ru_size l D cA _ _ 3) v_Ru_size l_Se_holds_33 d_Se_holds_33 rfl ⟨by decide, by decide⟩ ⟨by decide, by decide⟩ [(0, 11), (1, 12), (20, 20), (21, 21), (22, 22)] rfl rfl rfl rfl rfl rfl (Nat.le_of_ble_eq_true rfl) ?_
  rintro _ _ ⟨rfl, rfl⟩
  refine mj_k rfl rfl ?_
  refine mj_icge h.1 (tgt := 116) d_Se_holds_36 (by decide) (fun h1 => ?_) (fun h1 => ?_)
  · exact absurd h1 (by decide)
  · refine mj_blk h.1 b_Se_holds_39 rfl trivial ?_
    refine mj_ifeq1 h.1 (tgt := 116) d_Se_holds_41 (by decide) ?_
    refine mj_blk h.1 b_Se_holds_44 rfl trivial ?_
    refine mj_callV h zGood (ev_Ru_at l D cA _ _ 3 [some 20, some 21, some 22] (by decide) 0 20 (by decide) rfl) v_Ru_at l_Se_holds_47 d_Se_holds_47 rfl ⟨by decide, by decide⟩ ⟨by decide, by decide⟩ [(0, 11), (1, 12), (20, 20), (21, 21), (22, 22)] rfl rfl rfl rfl rfl rfl (Nat.le_of_ble_eq_true rfl) ?_
    rintro _ _ ⟨rfl, rfl⟩
    refine mj_k rfl rfl ?_
    refine mj_blk h.1 b_Se_holds_50 rfl trivial ?_
    refine mj_ifnonnull_r h.1 d_Se_holds_54 (tgt := 59) (by decide) ?_
    refine mj_blk h.1 b_Se_holds_59 rfl trivial ?_
    refine mj_callV h zGood (ev_Se_find l D cA _ _ _ _ t0.2.2.2.2.1 _ _ _ ts _ _ _ _ _ _ hz0 ht _ _ _ _ _ _) v_Se_find l_Se_holds_63 d_Se_holds_63 rfl ⟨by decide, by decide⟩ ⟨by decide, by decide⟩ [(0, 0), (1, 1), (2, 2), (3, 3), (4, 4), (5, 5), (6, 6), (7, 20), (8, 8), (9, 9), (10, 10)] rfl rfl rfl rfl rfl rfl (Nat.le_of_ble_eq_true rfl) ?_
    rintro _ _ ⟨rfl, rfl⟩
    refine mj_k rfl rfl ?_
    refine mj_blk h.1 b_Se_holds_66 rfl trivial ?_
    first | refine mj_ifeqB h.1 (tgt := 84) d_Se_holds_71 (by decide) (fun h3 => ?_) (fun h3 => ?_) | refine mj_ifeq h.1 (tgt := 84) d_Se_holds_71 (by decide) (fun h3 => ?_) (fun h3 => ?_)
    · refine mj_blk h.1 b_Se_holds_84 rfl trivial ?_
      refine mj_callV h zGood (ev_Se_moveBases l D cA _ _ _ _ t0.2.2.2.2.1 _ _ ts ht _ _ _ _) v_Se_moveBases l_Se_holds_88 d_Se_holds_88 rfl ⟨by decide, by decide⟩ ⟨by decide, by decide⟩ [(0, 0), (1, 1), (2, 2), (3, 3), (4, 4), (5, 5), (6, 6), (7, 20), (8, 8), (9, 9), (10, 10)] rfl rfl rfl rfl rfl rfl (Nat.le_of_ble_eq_true rfl) ?_
      rintro _ _ ⟨rfl, rfl⟩
      refine mj_k rfl rfl ?_
      refine mj_blk h.1 b_Se_holds_91 rfl trivial ?_
      refine mj_callV h zGood (ev_Mk_settle l D cA _ _ _ ts ht) v_Mk_settle l_Se_holds_96 d_Se_holds_96 rfl ⟨by decide, by decide⟩ ⟨by decide, by decide⟩ [(0, 1), (1, 3), (2, 4)] rfl rfl rfl rfl rfl rfl (Nat.le_of_ble_eq_true rfl) ?_
      rintro _ _ ⟨rfl, rfl⟩
      refine mj_k rfl rfl ?_
      refine mj_blk h.1 b_Se_holds_99 rfl trivial ?_
      refine mj_callV h zGood (ev_Mk_isAnyIn l D cA _ _ ts ht _ _) v_Mk_isAnyIn l_Se_holds_105 d_Se_holds_105 rfl ⟨by decide, by decide⟩ ⟨by decide, by decide⟩ [(0, 1), (1, 3), (2, 4)] rfl rfl rfl rfl rfl rfl (Nat.le_of_ble_eq_true rfl) ?_
      rintro _ _ ⟨rfl, rfl⟩
      refine mj_k rfl rfl ?_
      refine mj_blk h.1 b_Se_holds_108 rfl trivial ?_
      refine mj_lpk [0, 1, 3, 4, 5, 6] rfl ?_
      have k2 := K
      unfold vBm vBl at k2
      rw [if_neg h3, if_neg h3] at k2
      exact k2
    · refine mj_blk h.1 b_Se_holds_74 rfl trivial ?_
      refine mj_callV h zGood (ev_Se_dropBases l D cA _ _ _ _ t0.2.2.2.2.1 _ _ ts ht _ _ _ _) v_Se_dropBases l_Se_holds_78 d_Se_holds_78 rfl ⟨by decide, by decide⟩ ⟨by decide, by decide⟩ [(0, 0), (1, 1), (2, 2), (3, 3), (4, 4), (5, 5), (6, 6), (7, 20), (8, 8), (9, 9), (10, 10)] rfl rfl rfl rfl rfl rfl (Nat.le_of_ble_eq_true rfl) ?_
      rintro _ _ ⟨rfl, rfl⟩
      refine mj_k rfl rfl ?_
      refine mj_blk h.1 b_Se_holds_81 rfl trivial ?_
      refine mj_blk h.1 b_Se_holds_91 rfl trivial ?_
      refine mj_callV h zGood (ev_Mk_settle l D cA _ _ _ ts ht) v_Mk_settle l_Se_holds_96 d_Se_holds_96 rfl ⟨by decide, by decide⟩ ⟨by decide, by decide⟩ [(0, 1), (1, 3), (2, 4)] rfl rfl rfl rfl rfl rfl (Nat.le_of_ble_eq_true rfl) ?_
      rintro _ _ ⟨rfl, rfl⟩
      refine mj_k rfl rfl ?_
      refine mj_blk h.1 b_Se_holds_99 rfl trivial ?_
      refine mj_callV h zGood (ev_Mk_isAnyIn l D cA _ _ ts ht _ _) v_Mk_isAnyIn l_Se_holds_105 d_Se_holds_105 rfl ⟨by decide, by decide⟩ ⟨by decide, by decide⟩ [(0, 1), (1, 3), (2, 4)] rfl rfl rfl rfl rfl rfl (Nat.le_of_ble_eq_true rfl) ?_
      rintro _ _ ⟨rfl, rfl⟩
      refine mj_k rfl rfl ?_
      refine mj_blk h.1 b_Se_holds_108 rfl trivial ?_
      refine mj_lpk [0, 1, 3, 4, 5, 6] rfl ?_
      have k2 := K
      unfold vBm vBl at k2
      rw [if_pos h3, if_pos h3] at k2
      exact k2
set_option maxRecDepth 100000 in
set_option maxHeartbeats 4000000 in
theorem hF_3_0 {X : mj_X} {post : mj_R} (h : mj_E zG X l D cA m_Se_holds 3 120 0 0 (fun _ => True) post) (t0 : oT) (hz0 : t0.2.2.2.2.1 ≤ 6) (t1 : oT) (hz1 : t1.2.2.2.2.1 ≤ 6) (t2 : oT) (hz2 : t2.2.2.2.2.1 ≤ 6) (bm bl fm fl : Nat → Int32) (bt ft : Int32) (hp : post (some (.int 0)) [(0, cSe), (1, cMk 3 4 bt), (3, cBs bm), (4, cIs 81 bl), (2, cMk 5 6 ft), (5, cBs fm), (6, cIs 81 fl), (8, cSm 9 10 ts hs nx rr bg en), (9, cIs 80 tx), (10, cIs 32 hd), (11, cRu 12 wy pt 3), (12, cOs [some 20, some 21, some 22]), (20, cOt t0), (21, cOt t1), (22, cOt t2)]) : mj_W zG X 0 0 30 [(5, .int (nI 0)), (4, .int 0), (3, .int (nI ts)), (0, .ref 0), (1, .ref 11), (2, .ref 8)] [] [(0, cSe), (1, cMk 3 4 bt), (3, cBs bm), (4, cIs 81 bl), (2, cMk 5 6 ft), (5, cBs fm), (6, cIs 81 fl), (8, cSm 9 10 ts hs nx rr bg en), (9, cIs 80 tx), (10, cIs 32 hd), (11, cRu 12 wy pt 3), (12, cOs [some 20, some 21, some 22]), (20, cOt t0), (21, cOt t1), (22, cOt t2)] := by
  refine mj_blk h.1 b_Se_holds_30 rfl trivial ?_
  refine mj_callV h zGood (ev_Ru_size l D cA _ _ 3) v_Ru_size l_Se_holds_33 d_Se_holds_33 rfl ⟨by decide, by decide⟩ ⟨by decide, by decide⟩ [(0, 11), (1, 12), (20, 20), (21, 21), (22, 22)] rfl rfl rfl rfl rfl rfl (Nat.le_of_ble_eq_true rfl) ?_
  rintro _ _ ⟨rfl, rfl⟩
  refine mj_k rfl rfl ?_
  refine mj_icge h.1 (tgt := 116) d_Se_holds_36 (by decide) (fun h1 => ?_) (fun h1 => ?_)
  · refine mj_blk h.1 b_Se_holds_116 rfl trivial ?_
    exact mj_zret h rfl (Or.inl rfl) d_Se_holds_118 (by decide) (by decide) hp
  · refine mj_blk h.1 b_Se_holds_39 rfl trivial ?_
    refine mj_ifeq0 h.1 (tgt := 116) d_Se_holds_41 (by decide) ?_
    refine mj_blk h.1 b_Se_holds_116 rfl trivial ?_
    exact mj_zret h rfl (Or.inl rfl) d_Se_holds_118 (by decide) (by decide) hp
set_option maxRecDepth 100000 in
set_option maxHeartbeats 4000000 in
theorem hH_3_0 {X : mj_X} {post : mj_R} (ht : ts ≤ 80) (h : mj_E zG X l D cA m_Se_holds 3 120 0 0 (fun _ => True) post) (t0 : oT) (hz0 : t0.2.2.2.2.1 ≤ 6) (t1 : oT) (hz1 : t1.2.2.2.2.1 ≤ 6) (t2 : oT) (hz2 : t2.2.2.2.2.1 ≤ 6) (b : Bool) (bm bl fm fl : Nat → Int32) (ft : Int32) (hp : ∀ bm1 bl1 bt fm1 fl1 ft, post (some (.int (if vRun tx ts [t0, t1, t2] bm bl fm fl b then 1 else 0))) [(0, cSe), (1, cMk 3 4 bt), (3, cBs bm1), (4, cIs 81 bl1), (2, cMk 5 6 ft), (5, cBs fm1), (6, cIs 81 fl1), (8, cSm 9 10 ts hs nx rr bg en), (9, cIs 80 tx), (10, cIs 32 hd), (11, cRu 12 wy pt 3), (12, cOs [some 20, some 21, some 22]), (20, cOt t0), (21, cOt t1), (22, cOt t2)]) : mj_W zG X 0 0 30 [(5, .int (nI 0)), (4, .int (if b then 1 else 0)), (3, .int (nI ts)), (0, .ref 0), (1, .ref 11), (2, .ref 8)] [] [(0, cSe), (1, cMk 3 4 (nI ts)), (3, cBs bm), (4, cIs 81 bl), (2, cMk 5 6 ft), (5, cBs fm), (6, cIs 81 fl), (8, cSm 9 10 ts hs nx rr bg en), (9, cIs 80 tx), (10, cIs 32 hd), (11, cRu 12 wy pt 3), (12, cOs [some 20, some 21, some 22]), (20, cOt t0), (21, cOt t1), (22, cOt t2)] := by
  cases b with
  | false =>
    exact hF_3_0 l D cA wy pt tx ts hd hs nx rr bg en h t0 hz0 t1 hz1 t2 hz2 bm bl fm fl (nI ts) ft (hp _ _ _ _ _ _)
  | true =>
    refine hI_3_0 l D cA wy pt tx ts hd hs nx rr bg en ht h t0 hz0 t1 hz1 t2 hz2 bm bl fm fl ft ?_
    rw [← if_dec]
    exact hH_3_1 l D cA wy pt tx ts hd hs nx rr bg en ht h t0 hz0 t1 hz1 t2 hz2 _ _ _ _ _ _ hp
set_option maxRecDepth 100000 in
set_option maxHeartbeats 4000000 in
theorem ev_Se_holds_3 (ht : ts ≤ 80) (t0 : oT) (hz0 : t0.2.2.2.2.1 ≤ 6) (t1 : oT) (hz1 : t1.2.2.2.2.1 ≤ 6) (t2 : oT) (hz2 : t2.2.2.2.2.1 ≤ 6) (bm bl : Nat → Int32) (bt : Int32) (fm fl : Nat → Int32) (ft : Int32) : E_Se_holds l D cA 0 0 [.ref 0, .ref 11, .ref 8] [(0, cSe), (1, cMk 3 4 bt), (3, cBs bm), (4, cIs 81 bl), (2, cMk 5 6 ft), (5, cBs fm), (6, cIs 81 fl), (8, cSm 9 10 ts hs nx rr bg en), (9, cIs 80 tx), (10, cIs 32 hd), (11, cRu 12 wy pt 3), (12, cOs [some 20, some 21, some 22]), (20, cOt t0), (21, cOt t1), (22, cOt t2)] (fun _ => True) (fun r1 w1 => r1 = some (.int (if vRun tx ts [t0, t1, t2] (kStart (ts + 1) 0 bm) (kSet (ts + 1) 0 (-1) (kStart (ts + 1) 0 bm) bl) fm fl true then 1 else 0)) ∧ ∃ bm1 bl1 bt1 fm1 fl1 ft1, w1 = [(0, cSe), (1, cMk 3 4 bt1), (3, cBs bm1), (4, cIs 81 bl1), (2, cMk 5 6 ft1), (5, cBs fm1), (6, cIs 81 fl1), (8, cSm 9 10 ts hs nx rr bg en), (9, cIs 80 tx), (10, cIs 32 hd), (11, cRu 12 wy pt 3), (12, cOs [some 20, some 21, some 22]), (20, cOt t0), (21, cOt t1), (22, cOt t2)]) := by
  refine mj_ev (lv := [(0, .ref 0), (1, .ref 11), (2, .ref 8)]) (by decide +kernel) (Nat.le_of_ble_eq_true rfl) rfl (fun X h => ?_)
  refine mj_blk h.1 b_Se_holds_0 rfl trivial ?_
  refine mj_callV h zGood (ev_Sm_size l D cA _ _ _ _ _ _ _ _) v_Sm_size l_Se_holds_1 d_Se_holds_1 rfl ⟨by decide, by decide⟩ ⟨by decide, by decide⟩ [(0, 8), (1, 9), (2, 10)] rfl rfl rfl rfl rfl rfl (Nat.le_of_ble_eq_true rfl) ?_
  rintro _ _ ⟨rfl, rfl⟩
  refine mj_k rfl rfl ?_
  refine mj_blk h.1 b_Se_holds_4 rfl trivial ?_
  refine mj_callV h zGood (ev_Mk_markStartOnly l D cA _ _ _ ts ht) v_Mk_markStartOnly l_Se_holds_10 d_Se_holds_10 rfl ⟨by decide, by decide⟩ ⟨by decide, by decide⟩ [(0, 1), (1, 3), (2, 4)] rfl rfl rfl rfl rfl rfl (Nat.le_of_ble_eq_true rfl) ?_
  rintro _ _ ⟨rfl, rfl⟩
  refine mj_k rfl rfl ?_
  refine mj_blk h.1 b_Se_holds_13 rfl trivial ?_
  refine mj_callV h zGood (ev_Ru_size l D cA _ _ 3) v_Ru_size l_Se_holds_14 d_Se_holds_14 rfl ⟨by decide, by decide⟩ ⟨by decide, by decide⟩ [(0, 11), (1, 12), (20, 20), (21, 21), (22, 22)] rfl rfl rfl rfl rfl rfl (Nat.le_of_ble_eq_true rfl) ?_
  rintro _ _ ⟨rfl, rfl⟩
  refine mj_k rfl rfl ?_
  refine mj_ifle h.1 (tgt := 24) d_Se_holds_17 (by decide) (fun h1 => ?_) (fun h1 => ?_)
  · exact absurd h1 (by decide)
  · refine mj_blk h.1 b_Se_holds_20 rfl trivial ?_
    refine mj_blk h.1 b_Se_holds_25 rfl trivial ?_
    exact hH_3_0 l D cA wy pt tx ts hd hs nx rr bg en ht h t0 hz0 t1 hz1 t2 hz2 true _ _ _ _ _ (fun _ _ _ _ _ _ => ⟨rfl, _, _, _, _, _, _, rfl⟩)
end HOLDS
end
