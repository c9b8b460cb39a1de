/-! names of classes, fields, words; by program (wip/whole/gen.py) -/
def zTb : List Cond := lw_tbl.filter goodWord
theorem zin1 {w : Cond} (h : w ∈ tables_1_1) (hg : goodWord w = true) : w ∈ zTb := List.mem_filter.mpr ⟨List.mem_append_right _ (show w ∈ tables_1_1 ++ (tables_1_2 ++ (tables_1_3 ++ (tables_1_4 ++ (tables_1_5)))) from List.mem_append_left _ h), hg⟩
theorem zin2 {w : Cond} (h : w ∈ tables_1_2) (hg : goodWord w = true) : w ∈ zTb := List.mem_filter.mpr ⟨List.mem_append_right _ (show w ∈ tables_1_1 ++ (tables_1_2 ++ (tables_1_3 ++ (tables_1_4 ++ (tables_1_5)))) from List.mem_append_right _ (List.mem_append_left _ h)), hg⟩
theorem zin3 {w : Cond} (h : w ∈ tables_1_3) (hg : goodWord w = true) : w ∈ zTb := List.mem_filter.mpr ⟨List.mem_append_right _ (show w ∈ tables_1_1 ++ (tables_1_2 ++ (tables_1_3 ++ (tables_1_4 ++ (tables_1_5)))) from List.mem_append_right _ (List.mem_append_right _ (List.mem_append_left _ h))), hg⟩
theorem zin4 {w : Cond} (h : w ∈ tables_1_4) (hg : goodWord w = true) : w ∈ zTb := List.mem_filter.mpr ⟨List.mem_append_right _ (show w ∈ tables_1_1 ++ (tables_1_2 ++ (tables_1_3 ++ (tables_1_4 ++ (tables_1_5)))) from List.mem_append_right _ (List.mem_append_right _ (List.mem_append_right _ (List.mem_append_left _ h)))), hg⟩
theorem zin5 {w : Cond} (h : w ∈ tables_1_5) (hg : goodWord w = true) : w ∈ zTb := List.mem_filter.mpr ⟨List.mem_append_right _ (show w ∈ tables_1_1 ++ (tables_1_2 ++ (tables_1_3 ++ (tables_1_4 ++ (tables_1_5)))) from List.mem_append_right _ (List.mem_append_right _ (List.mem_append_right _ (List.mem_append_right _ (h))))), hg⟩
theorem zinP {q : MethodName × Nat} (h : q ∈ lw_privs) : Cond.selects q.1.cls q.1 q.1 ∈ zTb := List.mem_filter.mpr ⟨List.mem_append_left _ (List.mem_map.mpr ⟨q, h, rfl⟩), rfl⟩
theorem zGood : GoodIn zTb zTb := fun w h => ⟨h, good_of_word (List.mem_filter.mp h).2⟩
theorem z1_0 : Cond.initialized "StreamWatchLaw" ∈ zTb := zin1 (List.mem_of_getElem? (i := 0) rfl) rfl
theorem z1_1 : Cond.initialized "StreamWatch" ∈ zTb := zin1 (List.mem_of_getElem? (i := 1) rfl) rfl
theorem z1_2 : Cond.initialized "StreamWatch$Wire" ∈ zTb := zin1 (List.mem_of_getElem? (i := 2) rfl) rfl
theorem z1_3 : Cond.initialized "StreamWatch$Packet" ∈ zTb := zin1 (List.mem_of_getElem? (i := 3) rfl) rfl
theorem z1_4 : Cond.initialized "StreamWatch$FlowTable" ∈ zTb := zin1 (List.mem_of_getElem? (i := 4) rfl) rfl
theorem z1_5 : Cond.initialized "StreamWatch$Flow" ∈ zTb := zin1 (List.mem_of_getElem? (i := 5) rfl) rfl
theorem z1_6 : Cond.initialized "StreamWatch$Stream" ∈ zTb := zin1 (List.mem_of_getElem? (i := 6) rfl) rfl
theorem z1_7 : Cond.initialized "StreamWatch$Search" ∈ zTb := zin1 (List.mem_of_getElem? (i := 7) rfl) rfl
theorem z1_8 : Cond.initialized "StreamWatch$Marks" ∈ zTb := zin1 (List.mem_of_getElem? (i := 8) rfl) rfl
theorem z1_9 : Cond.initialized "StreamWatch$AlertLog" ∈ zTb := zin1 (List.mem_of_getElem? (i := 9) rfl) rfl
theorem z1_10 : Cond.initialized "StreamWatchModel" ∈ zTb := zin1 (List.mem_of_getElem? (i := 10) rfl) rfl
theorem z1_11 : Cond.initialized "java/lang/Throwable" ∈ zTb := zin1 (List.mem_of_getElem? (i := 11) rfl) rfl
theorem z1_12 : Cond.initialized "java/lang/Exception" ∈ zTb := zin1 (List.mem_of_getElem? (i := 12) rfl) rfl
theorem z1_13 : Cond.initialized "java/lang/RuntimeException" ∈ zTb := zin1 (List.mem_of_getElem? (i := 13) rfl) rfl
theorem z1_14 : Cond.initialized "java/lang/IllegalArgumentException" ∈ zTb := zin1 (List.mem_of_getElem? (i := 14) rfl) rfl
theorem z1_15 : Cond.initialized "java/lang/Math" ∈ zTb := zin1 (List.mem_of_getElem? (i := 15) rfl) rfl
theorem z1_16 : Cond.initialized "java/lang/IllegalStateException" ∈ zTb := zin1 (List.mem_of_getElem? (i := 16) rfl) rfl
theorem z1_17 : Cond.initialized "StreamWatch$Rule" ∈ zTb := zin1 (List.mem_of_getElem? (i := 17) rfl) rfl
theorem z1_18 : Cond.initialized "StreamWatch$Option" ∈ zTb := zin1 (List.mem_of_getElem? (i := 18) rfl) rfl
theorem z1_19 : Cond.classLink "StreamWatchLaw" 8 "StreamWatch" ∈ zTb := zin1 (List.mem_of_getElem? (i := 19) rfl) rfl
theorem z1_20 : Cond.instantiable "StreamWatch" 8 ∈ zTb := zin1 (List.mem_of_getElem? (i := 20) rfl) rfl
theorem z1_21 : Cond.methodLink "StreamWatchLaw" 31 ⟨"StreamWatch", "<init>", "(I)V"⟩ ∈ zTb := zin1 (List.mem_of_getElem? (i := 21) rfl) rfl
theorem z1_22 : Cond.instanceMethod ⟨"StreamWatch", "<init>", "(I)V"⟩ ∈ zTb := zin1 (List.mem_of_getElem? (i := 22) rfl) rfl
theorem z1_23 : Cond.code ⟨"StreamWatch", "<init>", "(I)V"⟩ prog_1_method_1_code 2 (Option.none : Option FieldType) ∈ zTb := zin1 (List.mem_of_getElem? (i := 23) rfl) rfl
theorem z1_24 : Cond.methodLink "StreamWatch" 1 ⟨"java/lang/Object", "<init>", "()V"⟩ ∈ zTb := zin1 (List.mem_of_getElem? (i := 24) rfl) rfl
theorem z1_25 : Cond.instanceMethod ⟨"java/lang/Object", "<init>", "()V"⟩ ∈ zTb := zin1 (List.mem_of_getElem? (i := 25) rfl) rfl
theorem z1_26 : Cond.code ⟨"java/lang/Object", "<init>", "()V"⟩ object_method_1_code 1 (Option.none : Option FieldType) ∈ zTb := zin1 (List.mem_of_getElem? (i := 26) rfl) rfl
theorem z1_27 : Cond.classLink "StreamWatch" 7 "StreamWatch$Wire" ∈ zTb := zin1 (List.mem_of_getElem? (i := 27) rfl) rfl
theorem z1_28 : Cond.instantiable "StreamWatch$Wire" 2 ∈ zTb := zin1 (List.mem_of_getElem? (i := 28) rfl) rfl
theorem z1_30 : Cond.instanceMethod ⟨"StreamWatch$Wire", "<init>", "()V"⟩ ∈ zTb := zin1 (List.mem_of_getElem? (i := 30) rfl) rfl
theorem z1_31 : Cond.code ⟨"StreamWatch$Wire", "<init>", "()V"⟩ prog_11_method_1_code 1 (Option.none : Option FieldType) ∈ zTb := zin1 (List.mem_of_getElem? (i := 31) rfl) rfl
theorem z1_32 : Cond.methodLink "StreamWatch$Wire" 1 ⟨"java/lang/Object", "<init>", "()V"⟩ ∈ zTb := zin1 (List.mem_of_getElem? (i := 32) rfl) rfl
theorem z1_33 : Cond.fieldLink "StreamWatch$Wire" 9 "StreamWatch$Wire" "bytes" "[I" ∈ zTb := zin1 (List.mem_of_getElem? (i := 33) rfl) rfl
theorem z1_34 : Cond.fieldLink "StreamWatch$Wire" 13 "StreamWatch$Wire" "count" "I" ∈ zTb := zin1 (List.mem_of_getElem? (i := 34) rfl) rfl
theorem z1_35 : Cond.laysFinal "StreamWatch$Wire" "StreamWatch$Wire" "bytes" "[I" ∈ zTb := zin1 (List.mem_of_getElem? (i := 35) rfl) rfl
theorem z1_37 : Cond.lays "StreamWatch$Wire" "StreamWatch$Wire" "count" "I" ∈ zTb := zin1 (List.mem_of_getElem? (i := 37) rfl) rfl
theorem z1_40 : Cond.arrayClass FieldType.int ∈ zTb := zin1 (List.mem_of_getElem? (i := 40) rfl) rfl
theorem z1_41 : Cond.classLink "StreamWatch" 16 "StreamWatch$Packet" ∈ zTb := zin1 (List.mem_of_getElem? (i := 41) rfl) rfl
theorem z1_42 : Cond.instantiable "StreamWatch$Packet" 8 ∈ zTb := zin1 (List.mem_of_getElem? (i := 42) rfl) rfl
theorem z1_44 : Cond.instanceMethod ⟨"StreamWatch$Packet", "<init>", "()V"⟩ ∈ zTb := zin1 (List.mem_of_getElem? (i := 44) rfl) rfl
theorem z1_45 : Cond.code ⟨"StreamWatch$Packet", "<init>", "()V"⟩ prog_7_method_1_code 1 (Option.none : Option FieldType) ∈ zTb := zin1 (List.mem_of_getElem? (i := 45) rfl) rfl
theorem z1_46 : Cond.methodLink "StreamWatch$Packet" 3 ⟨"java/lang/Object", "<init>", "()V"⟩ ∈ zTb := zin1 (List.mem_of_getElem? (i := 46) rfl) rfl
theorem z1_47 : Cond.fieldLink "StreamWatch$Packet" 9 "StreamWatch$Packet" "fromHost" "I" ∈ zTb := zin1 (List.mem_of_getElem? (i := 47) rfl) rfl
theorem z1_48 : Cond.fieldLink "StreamWatch$Flow" 41 "StreamWatch$Packet" "fromHost" "I" ∈ zTb := zin1 (List.mem_of_getElem? (i := 48) rfl) rfl
theorem z1_49 : Cond.fieldLink "StreamWatch$Packet" 15 "StreamWatch$Packet" "fromPort" "I" ∈ zTb := zin1 (List.mem_of_getElem? (i := 49) rfl) rfl
theorem z1_50 : Cond.fieldLink "StreamWatch$Flow" 46 "StreamWatch$Packet" "fromPort" "I" ∈ zTb := zin1 (List.mem_of_getElem? (i := 50) rfl) rfl
theorem z1_51 : Cond.fieldLink "StreamWatch$Packet" 18 "StreamWatch$Packet" "toHost" "I" ∈ zTb := zin1 (List.mem_of_getElem? (i := 51) rfl) rfl
theorem z1_52 : Cond.fieldLink "StreamWatch$Flow" 49 "StreamWatch$Packet" "toHost" "I" ∈ zTb := zin1 (List.mem_of_getElem? (i := 52) rfl) rfl
theorem z1_53 : Cond.fieldLink "StreamWatch$Packet" 21 "StreamWatch$Packet" "toPort" "I" ∈ zTb := zin1 (List.mem_of_getElem? (i := 53) rfl) rfl
theorem z1_54 : Cond.fieldLink "StreamWatch$Flow" 52 "StreamWatch$Packet" "toPort" "I" ∈ zTb := zin1 (List.mem_of_getElem? (i := 54) rfl) rfl
theorem z1_55 : Cond.fieldLink "StreamWatch$Packet" 24 "StreamWatch$Packet" "firstNumber" "I" ∈ zTb := zin1 (List.mem_of_getElem? (i := 55) rfl) rfl
theorem z1_56 : Cond.fieldLink "StreamWatch" 239 "StreamWatch$Packet" "firstNumber" "I" ∈ zTb := zin1 (List.mem_of_getElem? (i := 56) rfl) rfl
theorem z1_57 : Cond.fieldLink "StreamWatch$Packet" 27 "StreamWatch$Packet" "dataStart" "I" ∈ zTb := zin1 (List.mem_of_getElem? (i := 57) rfl) rfl
theorem z1_58 : Cond.fieldLink "StreamWatch" 269 "StreamWatch$Packet" "dataStart" "I" ∈ zTb := zin1 (List.mem_of_getElem? (i := 58) rfl) rfl
theorem z1_59 : Cond.fieldLink "StreamWatch$Packet" 30 "StreamWatch$Packet" "dataSize" "I" ∈ zTb := zin1 (List.mem_of_getElem? (i := 59) rfl) rfl
theorem z1_60 : Cond.fieldLink "StreamWatch" 260 "StreamWatch$Packet" "dataSize" "I" ∈ zTb := zin1 (List.mem_of_getElem? (i := 60) rfl) rfl
theorem z1_61 : Cond.fieldLink "StreamWatch$Packet" 33 "StreamWatch$Packet" "flags" "I" ∈ zTb := zin1 (List.mem_of_getElem? (i := 61) rfl) rfl
theorem z1_62 : Cond.lays "StreamWatch$Packet" "StreamWatch$Packet" "fromHost" "I" ∈ zTb := zin1 (List.mem_of_getElem? (i := 62) rfl) rfl
theorem z1_64 : Cond.lays "StreamWatch$Packet" "StreamWatch$Packet" "fromPort" "I" ∈ zTb := zin1 (List.mem_of_getElem? (i := 64) rfl) rfl
theorem z1_66 : Cond.lays "StreamWatch$Packet" "StreamWatch$Packet" "toHost" "I" ∈ zTb := zin1 (List.mem_of_getElem? (i := 66) rfl) rfl
theorem z1_68 : Cond.lays "StreamWatch$Packet" "StreamWatch$Packet" "toPort" "I" ∈ zTb := zin1 (List.mem_of_getElem? (i := 68) rfl) rfl
theorem z1_70 : Cond.lays "StreamWatch$Packet" "StreamWatch$Packet" "firstNumber" "I" ∈ zTb := zin1 (List.mem_of_getElem? (i := 70) rfl) rfl
theorem z1_72 : Cond.lays "StreamWatch$Packet" "StreamWatch$Packet" "dataStart" "I" ∈ zTb := zin1 (List.mem_of_getElem? (i := 72) rfl) rfl
theorem z1_74 : Cond.lays "StreamWatch$Packet" "StreamWatch$Packet" "dataSize" "I" ∈ zTb := zin1 (List.mem_of_getElem? (i := 74) rfl) rfl
theorem z1_76 : Cond.lays "StreamWatch$Packet" "StreamWatch$Packet" "flags" "I" ∈ zTb := zin1 (List.mem_of_getElem? (i := 76) rfl) rfl
theorem z1_79 : Cond.classLink "StreamWatch" 23 "StreamWatch$FlowTable" ∈ zTb := zin1 (List.mem_of_getElem? (i := 79) rfl) rfl
theorem z1_80 : Cond.instantiable "StreamWatch$FlowTable" 2 ∈ zTb := zin1 (List.mem_of_getElem? (i := 80) rfl) rfl
theorem z1_81 : Cond.methodLink "StreamWatch" 25 ⟨"StreamWatch$FlowTable", "<init>", "()V"⟩ ∈ zTb := zin1 (List.mem_of_getElem? (i := 81) rfl) rfl
theorem z1_82 : Cond.instanceMethod ⟨"StreamWatch$FlowTable", "<init>", "()V"⟩ ∈ zTb := zin1 (List.mem_of_getElem? (i := 82) rfl) rfl
theorem z1_83 : Cond.code ⟨"StreamWatch$FlowTable", "<init>", "()V"⟩ prog_4_method_1_code 2 (Option.none : Option FieldType) ∈ zTb := zin1 (List.mem_of_getElem? (i := 83) rfl) rfl
theorem z1_84 : Cond.methodLink "StreamWatch$FlowTable" 3 ⟨"java/lang/Object", "<init>", "()V"⟩ ∈ zTb := zin1 (List.mem_of_getElem? (i := 84) rfl) rfl
theorem z1_85 : Cond.classLink "StreamWatch$FlowTable" 11 "StreamWatch$Flow" ∈ zTb := zin1 (List.mem_of_getElem? (i := 85) rfl) rfl
theorem z1_87 : Cond.instantiable "StreamWatch$Flow" 8 ∈ zTb := zin1 (List.mem_of_getElem? (i := 87) rfl) rfl
theorem z1_89 : Cond.instanceMethod ⟨"StreamWatch$Flow", "<init>", "()V"⟩ ∈ zTb := zin1 (List.mem_of_getElem? (i := 89) rfl) rfl
theorem z1_90 : Cond.code ⟨"StreamWatch$Flow", "<init>", "()V"⟩ prog_3_method_1_code 1 (Option.none : Option FieldType) ∈ zTb := zin1 (List.mem_of_getElem? (i := 90) rfl) rfl
theorem z1_91 : Cond.methodLink "StreamWatch$Flow" 3 ⟨"java/lang/Object", "<init>", "()V"⟩ ∈ zTb := zin1 (List.mem_of_getElem? (i := 91) rfl) rfl
theorem z1_92 : Cond.classLink "StreamWatch$Flow" 27 "StreamWatch$Stream" ∈ zTb := zin1 (List.mem_of_getElem? (i := 92) rfl) rfl
theorem z1_93 : Cond.instantiable "StreamWatch$Stream" 8 ∈ zTb := zin1 (List.mem_of_getElem? (i := 93) rfl) rfl
theorem z1_94 : Cond.methodLink "StreamWatch$Flow" 29 ⟨"StreamWatch$Stream", "<init>", "()V"⟩ ∈ zTb := zin1 (List.mem_of_getElem? (i := 94) rfl) rfl
theorem z1_95 : Cond.instanceMethod ⟨"StreamWatch$Stream", "<init>", "()V"⟩ ∈ zTb := zin1 (List.mem_of_getElem? (i := 95) rfl) rfl
theorem z1_96 : Cond.code ⟨"StreamWatch$Stream", "<init>", "()V"⟩ prog_10_method_1_code 1 (Option.none : Option FieldType) ∈ zTb := zin1 (List.mem_of_getElem? (i := 96) rfl) rfl
theorem z1_97 : Cond.methodLink "StreamWatch$Stream" 3 ⟨"java/lang/Object", "<init>", "()V"⟩ ∈ zTb := zin1 (List.mem_of_getElem? (i := 97) rfl) rfl
theorem z1_98 : Cond.methodLink "StreamWatch$Stream" 38 ⟨"StreamWatch$Stream", "emptyWindow", "()V"⟩ ∈ zTb := zin1 (List.mem_of_getElem? (i := 98) rfl) rfl
theorem z1_100 : Cond.instanceMethod ⟨"StreamWatch$Stream", "emptyWindow", "()V"⟩ ∈ zTb := zin1 (List.mem_of_getElem? (i := 100) rfl) rfl
theorem z1_101 : Cond.code ⟨"StreamWatch$Stream", "emptyWindow", "()V"⟩ prog_10_method_15_code 2 (Option.none : Option FieldType) ∈ zTb := zin1 (List.mem_of_getElem? (i := 101) rfl) rfl
theorem z1_102 : Cond.fieldLink "StreamWatch$Stream" 9 "StreamWatch$Stream" "text" "[I" ∈ zTb := zin1 (List.mem_of_getElem? (i := 102) rfl) rfl
theorem z1_103 : Cond.fieldLink "StreamWatch$Stream" 15 "StreamWatch$Stream" "held" "[I" ∈ zTb := zin1 (List.mem_of_getElem? (i := 103) rfl) rfl
theorem z1_104 : Cond.fieldLink "StreamWatch$Stream" 18 "StreamWatch$Stream" "textSize" "I" ∈ zTb := zin1 (List.mem_of_getElem? (i := 104) rfl) rfl
theorem z1_105 : Cond.fieldLink "StreamWatch$Stream" 22 "StreamWatch$Stream" "heldSize" "I" ∈ zTb := zin1 (List.mem_of_getElem? (i := 105) rfl) rfl
theorem z1_106 : Cond.fieldLink "StreamWatch$Stream" 25 "StreamWatch$Stream" "next" "I" ∈ zTb := zin1 (List.mem_of_getElem? (i := 106) rfl) rfl
theorem z1_107 : Cond.fieldLink "StreamWatch$Stream" 28 "StreamWatch$Stream" "raisedRules" "I" ∈ zTb := zin1 (List.mem_of_getElem? (i := 107) rfl) rfl
theorem z1_108 : Cond.fieldLink "StreamWatch$Stream" 31 "StreamWatch$Stream" "begun" "Z" ∈ zTb := zin1 (List.mem_of_getElem? (i := 108) rfl) rfl
theorem z1_109 : Cond.fieldLink "StreamWatch$Stream" 35 "StreamWatch$Stream" "ended" "Z" ∈ zTb := zin1 (List.mem_of_getElem? (i := 109) rfl) rfl
theorem z1_110 : Cond.laysFinal "StreamWatch$Stream" "StreamWatch$Stream" "text" "[I" ∈ zTb := zin1 (List.mem_of_getElem? (i := 110) rfl) rfl
theorem z1_112 : Cond.laysFinal "StreamWatch$Stream" "StreamWatch$Stream" "held" "[I" ∈ zTb := zin1 (List.mem_of_getElem? (i := 112) rfl) rfl
theorem z1_114 : Cond.lays "StreamWatch$Stream" "StreamWatch$Stream" "textSize" "I" ∈ zTb := zin1 (List.mem_of_getElem? (i := 114) rfl) rfl
theorem z1_116 : Cond.lays "StreamWatch$Stream" "StreamWatch$Stream" "heldSize" "I" ∈ zTb := zin1 (List.mem_of_getElem? (i := 116) rfl) rfl
theorem z1_118 : Cond.lays "StreamWatch$Stream" "StreamWatch$Stream" "next" "I" ∈ zTb := zin1 (List.mem_of_getElem? (i := 118) rfl) rfl
theorem z1_120 : Cond.lays "StreamWatch$Stream" "StreamWatch$Stream" "raisedRules" "I" ∈ zTb := zin1 (List.mem_of_getElem? (i := 120) rfl) rfl
theorem z1_122 : Cond.lays "StreamWatch$Stream" "StreamWatch$Stream" "begun" "Z" ∈ zTb := zin1 (List.mem_of_getElem? (i := 122) rfl) rfl
theorem z1_124 : Cond.lays "StreamWatch$Stream" "StreamWatch$Stream" "ended" "Z" ∈ zTb := zin1 (List.mem_of_getElem? (i := 124) rfl) rfl
theorem z1_127 : Cond.fieldLink "StreamWatch$Flow" 9 "StreamWatch$Flow" "clientHost" "I" ∈ zTb := zin1 (List.mem_of_getElem? (i := 127) rfl) rfl
theorem z1_128 : Cond.fieldLink "StreamWatch" 180 "StreamWatch$Flow" "clientHost" "I" ∈ zTb := zin1 (List.mem_of_getElem? (i := 128) rfl) rfl
theorem z1_129 : Cond.fieldLink "StreamWatch$Flow" 15 "StreamWatch$Flow" "clientPort" "I" ∈ zTb := zin1 (List.mem_of_getElem? (i := 129) rfl) rfl
theorem z1_130 : Cond.fieldLink "StreamWatch" 183 "StreamWatch$Flow" "clientPort" "I" ∈ zTb := zin1 (List.mem_of_getElem? (i := 130) rfl) rfl
theorem z1_131 : Cond.fieldLink "StreamWatch$Flow" 18 "StreamWatch$Flow" "serverHost" "I" ∈ zTb := zin1 (List.mem_of_getElem? (i := 131) rfl) rfl
theorem z1_132 : Cond.fieldLink "StreamWatch" 186 "StreamWatch$Flow" "serverHost" "I" ∈ zTb := zin1 (List.mem_of_getElem? (i := 132) rfl) rfl
theorem z1_133 : Cond.fieldLink "StreamWatch$Flow" 21 "StreamWatch$Flow" "serverPort" "I" ∈ zTb := zin1 (List.mem_of_getElem? (i := 133) rfl) rfl
theorem z1_134 : Cond.fieldLink "StreamWatch" 189 "StreamWatch$Flow" "serverPort" "I" ∈ zTb := zin1 (List.mem_of_getElem? (i := 134) rfl) rfl
theorem z1_135 : Cond.fieldLink "StreamWatch$Flow" 24 "StreamWatch$Flow" "heardAt" "I" ∈ zTb := zin1 (List.mem_of_getElem? (i := 135) rfl) rfl
theorem z1_136 : Cond.fieldLink "StreamWatch$FlowTable" 34 "StreamWatch$Flow" "heardAt" "I" ∈ zTb := zin1 (List.mem_of_getElem? (i := 136) rfl) rfl
theorem z1_137 : Cond.fieldLink "StreamWatch$Flow" 30 "StreamWatch$Flow" "toServer" "LStreamWatch$Stream;" ∈ zTb := zin1 (List.mem_of_getElem? (i := 137) rfl) rfl
theorem z1_138 : Cond.fieldLink "StreamWatch$Flow" 34 "StreamWatch$Flow" "toClient" "LStreamWatch$Stream;" ∈ zTb := zin1 (List.mem_of_getElem? (i := 138) rfl) rfl
theorem z1_139 : Cond.fieldLink "StreamWatch$Flow" 37 "StreamWatch$Flow" "live" "Z" ∈ zTb := zin1 (List.mem_of_getElem? (i := 139) rfl) rfl
theorem z1_140 : Cond.lays "StreamWatch$Flow" "StreamWatch$Flow" "clientHost" "I" ∈ zTb := zin1 (List.mem_of_getElem? (i := 140) rfl) rfl
theorem z1_142 : Cond.lays "StreamWatch$Flow" "StreamWatch$Flow" "clientPort" "I" ∈ zTb := zin1 (List.mem_of_getElem? (i := 142) rfl) rfl
theorem z1_144 : Cond.lays "StreamWatch$Flow" "StreamWatch$Flow" "serverHost" "I" ∈ zTb := zin1 (List.mem_of_getElem? (i := 144) rfl) rfl
theorem z1_146 : Cond.lays "StreamWatch$Flow" "StreamWatch$Flow" "serverPort" "I" ∈ zTb := zin1 (List.mem_of_getElem? (i := 146) rfl) rfl
theorem z1_148 : Cond.lays "StreamWatch$Flow" "StreamWatch$Flow" "heardAt" "I" ∈ zTb := zin1 (List.mem_of_getElem? (i := 148) rfl) rfl
theorem z1_150 : Cond.laysFinal "StreamWatch$Flow" "StreamWatch$Flow" "toServer" "LStreamWatch$Stream;" ∈ zTb := zin1 (List.mem_of_getElem? (i := 150) rfl) rfl
theorem z1_152 : Cond.laysFinal "StreamWatch$Flow" "StreamWatch$Flow" "toClient" "LStreamWatch$Stream;" ∈ zTb := zin1 (List.mem_of_getElem? (i := 152) rfl) rfl
theorem z1_154 : Cond.lays "StreamWatch$Flow" "StreamWatch$Flow" "live" "Z" ∈ zTb := zin1 (List.mem_of_getElem? (i := 154) rfl) rfl
theorem z1_157 : Cond.fieldLink "StreamWatch$FlowTable" 13 "StreamWatch$FlowTable" "places" "[LStreamWatch$Flow;" ∈ zTb := zin1 (List.mem_of_getElem? (i := 157) rfl) rfl
theorem z1_158 : Cond.fieldLink "StreamWatch$FlowTable" 17 "StreamWatch$FlowTable" "packetsHeard" "I" ∈ zTb := zin1 (List.mem_of_getElem? (i := 158) rfl) rfl
theorem z1_159 : Cond.laysFinal "StreamWatch$FlowTable" "StreamWatch$FlowTable" "places" "[LStreamWatch$Flow;" ∈ zTb := zin1 (List.mem_of_getElem? (i := 159) rfl) rfl
theorem z1_161 : Cond.lays "StreamWatch$FlowTable" "StreamWatch$FlowTable" "packetsHeard" "I" ∈ zTb := zin1 (List.mem_of_getElem? (i := 161) rfl) rfl
theorem z1_164 : Cond.classLink "StreamWatch" 30 "StreamWatch$Rule" ∈ zTb := zin1 (List.mem_of_getElem? (i := 164) rfl) rfl
theorem z1_166 : Cond.classLink "StreamWatch" 36 "StreamWatch$Search" ∈ zTb := zin1 (List.mem_of_getElem? (i := 166) rfl) rfl
theorem z1_167 : Cond.instantiable "StreamWatch$Search" 2 ∈ zTb := zin1 (List.mem_of_getElem? (i := 167) rfl) rfl
theorem z1_169 : Cond.instanceMethod ⟨"StreamWatch$Search", "<init>", "()V"⟩ ∈ zTb := zin1 (List.mem_of_getElem? (i := 169) rfl) rfl
theorem z1_170 : Cond.code ⟨"StreamWatch$Search", "<init>", "()V"⟩ prog_9_method_1_code 1 (Option.none : Option FieldType) ∈ zTb := zin1 (List.mem_of_getElem? (i := 170) rfl) rfl
theorem z1_171 : Cond.methodLink "StreamWatch$Search" 1 ⟨"java/lang/Object", "<init>", "()V"⟩ ∈ zTb := zin1 (List.mem_of_getElem? (i := 171) rfl) rfl
theorem z1_172 : Cond.classLink "StreamWatch$Search" 7 "StreamWatch$Marks" ∈ zTb := zin1 (List.mem_of_getElem? (i := 172) rfl) rfl
theorem z1_173 : Cond.instantiable "StreamWatch$Marks" 3 ∈ zTb := zin1 (List.mem_of_getElem? (i := 173) rfl) rfl
theorem z1_175 : Cond.instanceMethod ⟨"StreamWatch$Marks", "<init>", "()V"⟩ ∈ zTb := zin1 (List.mem_of_getElem? (i := 175) rfl) rfl
theorem z1_176 : Cond.code ⟨"StreamWatch$Marks", "<init>", "()V"⟩ prog_5_method_1_code 1 (Option.none : Option FieldType) ∈ zTb := zin1 (List.mem_of_getElem? (i := 176) rfl) rfl
theorem z1_177 : Cond.methodLink "StreamWatch$Marks" 3 ⟨"java/lang/Object", "<init>", "()V"⟩ ∈ zTb := zin1 (List.mem_of_getElem? (i := 177) rfl) rfl
theorem z1_178 : Cond.fieldLink "StreamWatch$Marks" 9 "StreamWatch$Marks" "marked" "[Z" ∈ zTb := zin1 (List.mem_of_getElem? (i := 178) rfl) rfl
theorem z1_179 : Cond.fieldLink "StreamWatch$Marks" 15 "StreamWatch$Marks" "latest" "[I" ∈ zTb := zin1 (List.mem_of_getElem? (i := 179) rfl) rfl
theorem z1_180 : Cond.fieldLink "StreamWatch$Marks" 19 "StreamWatch$Marks" "top" "I" ∈ zTb := zin1 (List.mem_of_getElem? (i := 180) rfl) rfl
theorem z1_181 : Cond.laysFinal "StreamWatch$Marks" "StreamWatch$Marks" "marked" "[Z" ∈ zTb := zin1 (List.mem_of_getElem? (i := 181) rfl) rfl
theorem z1_183 : Cond.laysFinal "StreamWatch$Marks" "StreamWatch$Marks" "latest" "[I" ∈ zTb := zin1 (List.mem_of_getElem? (i := 183) rfl) rfl
theorem z1_185 : Cond.lays "StreamWatch$Marks" "StreamWatch$Marks" "top" "I" ∈ zTb := zin1 (List.mem_of_getElem? (i := 185) rfl) rfl
theorem z1_188 : Cond.arrayClass FieldType.boolean ∈ zTb := zin1 (List.mem_of_getElem? (i := 188) rfl) rfl
theorem z1_189 : Cond.fieldLink "StreamWatch$Search" 10 "StreamWatch$Search" "bases" "LStreamWatch$Marks;" ∈ zTb := zin1 (List.mem_of_getElem? (i := 189) rfl) rfl
theorem z1_190 : Cond.fieldLink "StreamWatch$Search" 16 "StreamWatch$Search" "found" "LStreamWatch$Marks;" ∈ zTb := zin1 (List.mem_of_getElem? (i := 190) rfl) rfl
theorem z1_191 : Cond.laysFinal "StreamWatch$Search" "StreamWatch$Search" "bases" "LStreamWatch$Marks;" ∈ zTb := zin1 (List.mem_of_getElem? (i := 191) rfl) rfl
theorem z1_193 : Cond.laysFinal "StreamWatch$Search" "StreamWatch$Search" "found" "LStreamWatch$Marks;" ∈ zTb := zin1 (List.mem_of_getElem? (i := 193) rfl) rfl
theorem z1_196 : Cond.classLink "StreamWatch" 43 "StreamWatch$AlertLog" ∈ zTb := zin1 (List.mem_of_getElem? (i := 196) rfl) rfl
theorem z1_197 : Cond.instantiable "StreamWatch$AlertLog" 3 ∈ zTb := zin1 (List.mem_of_getElem? (i := 197) rfl) rfl
theorem z1_199 : Cond.instanceMethod ⟨"StreamWatch$AlertLog", "<init>", "()V"⟩ ∈ zTb := zin1 (List.mem_of_getElem? (i := 199) rfl) rfl
theorem z1_200 : Cond.code ⟨"StreamWatch$AlertLog", "<init>", "()V"⟩ prog_2_method_1_code 1 (Option.none : Option FieldType) ∈ zTb := zin1 (List.mem_of_getElem? (i := 200) rfl) rfl
theorem z1_201 : Cond.methodLink "StreamWatch$AlertLog" 3 ⟨"java/lang/Object", "<init>", "()V"⟩ ∈ zTb := zin1 (List.mem_of_getElem? (i := 201) rfl) rfl
theorem z1_202 : Cond.fieldLink "StreamWatch$AlertLog" 11 "StreamWatch$AlertLog" "rows" "[I" ∈ zTb := zin1 (List.mem_of_getElem? (i := 202) rfl) rfl
theorem z1_203 : Cond.fieldLink "StreamWatch$AlertLog" 15 "StreamWatch$AlertLog" "total" "I" ∈ zTb := zin1 (List.mem_of_getElem? (i := 203) rfl) rfl
theorem z1_204 : Cond.fieldLink "StreamWatch$AlertLog" 19 "StreamWatch$AlertLog" "newest" "I" ∈ zTb := zin1 (List.mem_of_getElem? (i := 204) rfl) rfl
theorem z1_205 : Cond.laysFinal "StreamWatch$AlertLog" "StreamWatch$AlertLog" "rows" "[I" ∈ zTb := zin1 (List.mem_of_getElem? (i := 205) rfl) rfl
theorem z1_207 : Cond.lays "StreamWatch$AlertLog" "StreamWatch$AlertLog" "total" "I" ∈ zTb := zin1 (List.mem_of_getElem? (i := 207) rfl) rfl
theorem z1_209 : Cond.lays "StreamWatch$AlertLog" "StreamWatch$AlertLog" "newest" "I" ∈ zTb := zin1 (List.mem_of_getElem? (i := 209) rfl) rfl
theorem z1_212 : Cond.fieldLink "StreamWatch" 54 "StreamWatch" "lastStays" "Z" ∈ zTb := zin1 (List.mem_of_getElem? (i := 212) rfl) rfl
theorem z1_213 : Cond.fieldLink "StreamWatch" 10 "StreamWatch" "line" "LStreamWatch$Wire;" ∈ zTb := zin1 (List.mem_of_getElem? (i := 213) rfl) rfl
theorem z1_214 : Cond.fieldLink "StreamWatch" 19 "StreamWatch" "packet" "LStreamWatch$Packet;" ∈ zTb := zin1 (List.mem_of_getElem? (i := 214) rfl) rfl
theorem z1_215 : Cond.fieldLink "StreamWatch" 26 "StreamWatch" "flows" "LStreamWatch$FlowTable;" ∈ zTb := zin1 (List.mem_of_getElem? (i := 215) rfl) rfl
theorem z1_216 : Cond.fieldLink "StreamWatch" 32 "StreamWatch" "rules" "[LStreamWatch$Rule;" ∈ zTb := zin1 (List.mem_of_getElem? (i := 216) rfl) rfl
theorem z1_217 : Cond.fieldLink "StreamWatch" 39 "StreamWatch" "search" "LStreamWatch$Search;" ∈ zTb := zin1 (List.mem_of_getElem? (i := 217) rfl) rfl
theorem z1_218 : Cond.fieldLink "StreamWatch" 46 "StreamWatch" "log" "LStreamWatch$AlertLog;" ∈ zTb := zin1 (List.mem_of_getElem? (i := 218) rfl) rfl
theorem z1_219 : Cond.fieldLink "StreamWatch" 50 "StreamWatch" "ruleCount" "I" ∈ zTb := zin1 (List.mem_of_getElem? (i := 219) rfl) rfl
theorem z1_220 : Cond.laysFinal "StreamWatch" "StreamWatch" "lastStays" "Z" ∈ zTb := zin1 (List.mem_of_getElem? (i := 220) rfl) rfl
theorem z1_222 : Cond.laysFinal "StreamWatch" "StreamWatch" "line" "LStreamWatch$Wire;" ∈ zTb := zin1 (List.mem_of_getElem? (i := 222) rfl) rfl
theorem z1_224 : Cond.laysFinal "StreamWatch" "StreamWatch" "packet" "LStreamWatch$Packet;" ∈ zTb := zin1 (List.mem_of_getElem? (i := 224) rfl) rfl
theorem z1_226 : Cond.laysFinal "StreamWatch" "StreamWatch" "flows" "LStreamWatch$FlowTable;" ∈ zTb := zin1 (List.mem_of_getElem? (i := 226) rfl) rfl
theorem z1_228 : Cond.laysFinal "StreamWatch" "StreamWatch" "rules" "[LStreamWatch$Rule;" ∈ zTb := zin1 (List.mem_of_getElem? (i := 228) rfl) rfl
theorem z1_230 : Cond.laysFinal "StreamWatch" "StreamWatch" "search" "LStreamWatch$Search;" ∈ zTb := zin1 (List.mem_of_getElem? (i := 230) rfl) rfl
theorem z1_232 : Cond.laysFinal "StreamWatch" "StreamWatch" "log" "LStreamWatch$AlertLog;" ∈ zTb := zin1 (List.mem_of_getElem? (i := 232) rfl) rfl
theorem z1_234 : Cond.lays "StreamWatch" "StreamWatch" "ruleCount" "I" ∈ zTb := zin1 (List.mem_of_getElem? (i := 234) rfl) rfl
theorem z1_237 : Cond.methodLink "StreamWatchLaw" 47 ⟨"StreamWatch", "alter", "(II)Z"⟩ ∈ zTb := zin1 (List.mem_of_getElem? (i := 237) rfl) rfl
theorem z1_238 : Cond.instanceMethod ⟨"StreamWatch", "alter", "(II)Z"⟩ ∈ zTb := zin1 (List.mem_of_getElem? (i := 238) rfl) rfl
theorem z1_239 : Cond.selects "StreamWatch" ⟨"StreamWatch", "alter", "(II)Z"⟩ ⟨"StreamWatch", "alter", "(II)Z"⟩ ∈ zTb := zin1 (List.mem_of_getElem? (i := 239) rfl) rfl
theorem z2_0 : Cond.code ⟨"StreamWatch", "alter", "(II)Z"⟩ prog_1_method_3_code 3 (Option.some FieldType.boolean) ∈ zTb := zin2 (List.mem_of_getElem? (i := 0) rfl) rfl
theorem z2_1 : Cond.methodLink "StreamWatch" 91 ⟨"StreamWatch$Wire", "flip", "(II)Z"⟩ ∈ zTb := zin2 (List.mem_of_getElem? (i := 1) rfl) rfl
theorem z2_2 : Cond.instanceMethod ⟨"StreamWatch$Wire", "flip", "(II)Z"⟩ ∈ zTb := zin2 (List.mem_of_getElem? (i := 2) rfl) rfl
theorem z2_3 : Cond.selects "StreamWatch$Wire" ⟨"StreamWatch$Wire", "flip", "(II)Z"⟩ ⟨"StreamWatch$Wire", "flip", "(II)Z"⟩ ∈ zTb := zin2 (List.mem_of_getElem? (i := 3) rfl) rfl
theorem z2_4 : Cond.code ⟨"StreamWatch$Wire", "flip", "(II)Z"⟩ prog_11_method_6_code 3 (Option.some FieldType.boolean) ∈ zTb := zin2 (List.mem_of_getElem? (i := 4) rfl) rfl
theorem z2_5 : Cond.methodLink "StreamWatch$Wire" 17 ⟨"StreamWatch$Wire", "has", "(I)Z"⟩ ∈ zTb := zin2 (List.mem_of_getElem? (i := 5) rfl) rfl
theorem z2_6 : Cond.instanceMethod ⟨"StreamWatch$Wire", "has", "(I)Z"⟩ ∈ zTb := zin2 (List.mem_of_getElem? (i := 6) rfl) rfl
theorem z2_7 : Cond.selects "StreamWatch$Wire" ⟨"StreamWatch$Wire", "has", "(I)Z"⟩ ⟨"StreamWatch$Wire", "has", "(I)Z"⟩ ∈ zTb := zin2 (List.mem_of_getElem? (i := 7) rfl) rfl
theorem z2_8 : Cond.code ⟨"StreamWatch$Wire", "has", "(I)Z"⟩ prog_11_method_3_code 2 (Option.some FieldType.boolean) ∈ zTb := zin2 (List.mem_of_getElem? (i := 8) rfl) rfl
theorem z2_9 : Cond.methodLink "StreamWatchLaw" 52 ⟨"StreamWatch", "wipe", "()V"⟩ ∈ zTb := zin2 (List.mem_of_getElem? (i := 9) rfl) rfl
theorem z2_10 : Cond.instanceMethod ⟨"StreamWatch", "wipe", "()V"⟩ ∈ zTb := zin2 (List.mem_of_getElem? (i := 10) rfl) rfl
theorem z2_11 : Cond.selects "StreamWatch" ⟨"StreamWatch", "wipe", "()V"⟩ ⟨"StreamWatch", "wipe", "()V"⟩ ∈ zTb := zin2 (List.mem_of_getElem? (i := 11) rfl) rfl
theorem z2_12 : Cond.code ⟨"StreamWatch", "wipe", "()V"⟩ prog_1_method_4_code 1 (Option.none : Option FieldType) ∈ zTb := zin2 (List.mem_of_getElem? (i := 12) rfl) rfl
theorem z2_13 : Cond.methodLink "StreamWatch" 69 ⟨"StreamWatch$Wire", "clear", "()V"⟩ ∈ zTb := zin2 (List.mem_of_getElem? (i := 13) rfl) rfl
theorem z2_14 : Cond.instanceMethod ⟨"StreamWatch$Wire", "clear", "()V"⟩ ∈ zTb := zin2 (List.mem_of_getElem? (i := 14) rfl) rfl
theorem z2_15 : Cond.selects "StreamWatch$Wire" ⟨"StreamWatch$Wire", "clear", "()V"⟩ ⟨"StreamWatch$Wire", "clear", "()V"⟩ ∈ zTb := zin2 (List.mem_of_getElem? (i := 15) rfl) rfl
theorem z2_16 : Cond.code ⟨"StreamWatch$Wire", "clear", "()V"⟩ prog_11_method_5_code 1 (Option.none : Option FieldType) ∈ zTb := zin2 (List.mem_of_getElem? (i := 16) rfl) rfl
theorem z2_17 : Cond.methodLink "StreamWatchLaw" 56 ⟨"StreamWatch", "put", "(IJ)Z"⟩ ∈ zTb := zin2 (List.mem_of_getElem? (i := 17) rfl) rfl
theorem z2_18 : Cond.instanceMethod ⟨"StreamWatch", "put", "(IJ)Z"⟩ ∈ zTb := zin2 (List.mem_of_getElem? (i := 18) rfl) rfl
theorem z2_19 : Cond.selects "StreamWatch" ⟨"StreamWatch", "put", "(IJ)Z"⟩ ⟨"StreamWatch", "put", "(IJ)Z"⟩ ∈ zTb := zin2 (List.mem_of_getElem? (i := 19) rfl) rfl
theorem z2_20 : Cond.code ⟨"StreamWatch", "put", "(IJ)Z"⟩ prog_1_method_5_code 4 (Option.some FieldType.boolean) ∈ zTb := zin2 (List.mem_of_getElem? (i := 20) rfl) rfl
theorem z2_21 : Cond.methodLink "StreamWatch" 80 ⟨"StreamWatch$Wire", "append", "(IJ)Z"⟩ ∈ zTb := zin2 (List.mem_of_getElem? (i := 21) rfl) rfl
theorem z2_22 : Cond.instanceMethod ⟨"StreamWatch$Wire", "append", "(IJ)Z"⟩ ∈ zTb := zin2 (List.mem_of_getElem? (i := 22) rfl) rfl
theorem z2_23 : Cond.selects "StreamWatch$Wire" ⟨"StreamWatch$Wire", "append", "(IJ)Z"⟩ ⟨"StreamWatch$Wire", "append", "(IJ)Z"⟩ ∈ zTb := zin2 (List.mem_of_getElem? (i := 23) rfl) rfl
theorem z2_24 : Cond.code ⟨"StreamWatch$Wire", "append", "(IJ)Z"⟩ prog_11_method_7_code 5 (Option.some FieldType.boolean) ∈ zTb := zin2 (List.mem_of_getElem? (i := 24) rfl) rfl
theorem z2_25 : Cond.methodLink "StreamWatchLaw" 61 ⟨"StreamWatch", "seal", "()Z"⟩ ∈ zTb := zin2 (List.mem_of_getElem? (i := 25) rfl) rfl
theorem z2_26 : Cond.instanceMethod ⟨"StreamWatch", "seal", "()Z"⟩ ∈ zTb := zin2 (List.mem_of_getElem? (i := 26) rfl) rfl
theorem z2_27 : Cond.selects "StreamWatch" ⟨"StreamWatch", "seal", "()Z"⟩ ⟨"StreamWatch", "seal", "()Z"⟩ ∈ zTb := zin2 (List.mem_of_getElem? (i := 27) rfl) rfl
theorem z2_28 : Cond.code ⟨"StreamWatch", "seal", "()Z"⟩ prog_1_method_6_code 1 (Option.some FieldType.boolean) ∈ zTb := zin2 (List.mem_of_getElem? (i := 28) rfl) rfl
theorem z2_29 : Cond.methodLink "StreamWatch" 95 ⟨"StreamWatch$Wire", "fault", "(Z)I"⟩ ∈ zTb := zin2 (List.mem_of_getElem? (i := 29) rfl) rfl
theorem z2_30 : Cond.instanceMethod ⟨"StreamWatch$Wire", "fault", "(Z)I"⟩ ∈ zTb := zin2 (List.mem_of_getElem? (i := 30) rfl) rfl
theorem z2_31 : Cond.selects "StreamWatch$Wire" ⟨"StreamWatch$Wire", "fault", "(Z)I"⟩ ⟨"StreamWatch$Wire", "fault", "(Z)I"⟩ ∈ zTb := zin2 (List.mem_of_getElem? (i := 31) rfl) rfl
theorem z2_32 : Cond.code ⟨"StreamWatch$Wire", "fault", "(Z)I"⟩ prog_11_method_8_code 2 (Option.some FieldType.int) ∈ zTb := zin2 (List.mem_of_getElem? (i := 32) rfl) rfl
theorem z2_33 : Cond.methodLink "StreamWatch$Wire" 21 ⟨"StreamWatch$Wire", "at", "(I)I"⟩ ∈ zTb := zin2 (List.mem_of_getElem? (i := 33) rfl) rfl
theorem z2_34 : Cond.instanceMethod ⟨"StreamWatch$Wire", "at", "(I)I"⟩ ∈ zTb := zin2 (List.mem_of_getElem? (i := 34) rfl) rfl
theorem z2_35 : Cond.selects "StreamWatch$Wire" ⟨"StreamWatch$Wire", "at", "(I)I"⟩ ⟨"StreamWatch$Wire", "at", "(I)I"⟩ ∈ zTb := zin2 (List.mem_of_getElem? (i := 35) rfl) rfl
theorem z2_36 : Cond.code ⟨"StreamWatch$Wire", "at", "(I)I"⟩ prog_11_method_4_code 2 (Option.some FieldType.int) ∈ zTb := zin2 (List.mem_of_getElem? (i := 36) rfl) rfl
theorem z2_37 : Cond.methodLink "StreamWatch$Wire" 25 ⟨"StreamWatch$Wire", "length", "()I"⟩ ∈ zTb := zin2 (List.mem_of_getElem? (i := 37) rfl) rfl
theorem z2_38 : Cond.instanceMethod ⟨"StreamWatch$Wire", "length", "()I"⟩ ∈ zTb := zin2 (List.mem_of_getElem? (i := 38) rfl) rfl
theorem z2_39 : Cond.selects "StreamWatch$Wire" ⟨"StreamWatch$Wire", "length", "()I"⟩ ⟨"StreamWatch$Wire", "length", "()I"⟩ ∈ zTb := zin2 (List.mem_of_getElem? (i := 39) rfl) rfl
theorem z2_40 : Cond.code ⟨"StreamWatch$Wire", "length", "()I"⟩ prog_11_method_11_code 1 (Option.some FieldType.int) ∈ zTb := zin2 (List.mem_of_getElem? (i := 40) rfl) rfl
theorem z2_41 : Cond.methodLink "StreamWatch$Wire" 36 ⟨"StreamWatch$Wire", "pairAt", "(I)I"⟩ ∈ zTb := zin2 (List.mem_of_getElem? (i := 41) rfl) rfl
theorem z2_42 : Cond.instanceMethod ⟨"StreamWatch$Wire", "pairAt", "(I)I"⟩ ∈ zTb := zin2 (List.mem_of_getElem? (i := 42) rfl) rfl
theorem z2_43 : Cond.selects "StreamWatch$Wire" ⟨"StreamWatch$Wire", "pairAt", "(I)I"⟩ ⟨"StreamWatch$Wire", "pairAt", "(I)I"⟩ ∈ zTb := zin2 (List.mem_of_getElem? (i := 43) rfl) rfl
theorem z2_44 : Cond.code ⟨"StreamWatch$Wire", "pairAt", "(I)I"⟩ prog_11_method_13_code 2 (Option.some FieldType.int) ∈ zTb := zin2 (List.mem_of_getElem? (i := 44) rfl) rfl
theorem z2_45 : Cond.methodLink "StreamWatch$Wire" 29 ⟨"StreamWatch$Wire", "ipSize", "()I"⟩ ∈ zTb := zin2 (List.mem_of_getElem? (i := 45) rfl) rfl
theorem z2_46 : Cond.instanceMethod ⟨"StreamWatch$Wire", "ipSize", "()I"⟩ ∈ zTb := zin2 (List.mem_of_getElem? (i := 46) rfl) rfl
theorem z2_47 : Cond.selects "StreamWatch$Wire" ⟨"StreamWatch$Wire", "ipSize", "()I"⟩ ⟨"StreamWatch$Wire", "ipSize", "()I"⟩ ∈ zTb := zin2 (List.mem_of_getElem? (i := 47) rfl) rfl
theorem z2_48 : Cond.code ⟨"StreamWatch$Wire", "ipSize", "()I"⟩ prog_11_method_10_code 1 (Option.some FieldType.int) ∈ zTb := zin2 (List.mem_of_getElem? (i := 48) rfl) rfl
theorem z2_49 : Cond.methodLink "StreamWatch$Wire" 32 ⟨"StreamWatch$Wire", "ipSum", "()I"⟩ ∈ zTb := zin2 (List.mem_of_getElem? (i := 49) rfl) rfl
theorem z2_51 : Cond.instanceMethod ⟨"StreamWatch$Wire", "ipSum", "()I"⟩ ∈ zTb := zin2 (List.mem_of_getElem? (i := 51) rfl) rfl
theorem z2_52 : Cond.code ⟨"StreamWatch$Wire", "ipSum", "()I"⟩ prog_11_method_16_code 1 (Option.some FieldType.int) ∈ zTb := zin2 (List.mem_of_getElem? (i := 52) rfl) rfl
theorem z2_53 : Cond.methodLink "StreamWatch$Wire" 52 ⟨"StreamWatch$Wire", "sumOf", "(III)I"⟩ ∈ zTb := zin2 (List.mem_of_getElem? (i := 53) rfl) rfl
theorem z2_55 : Cond.instanceMethod ⟨"StreamWatch$Wire", "sumOf", "(III)I"⟩ ∈ zTb := zin2 (List.mem_of_getElem? (i := 55) rfl) rfl
theorem z2_56 : Cond.code ⟨"StreamWatch$Wire", "sumOf", "(III)I"⟩ prog_11_method_18_code 7 (Option.some FieldType.int) ∈ zTb := zin2 (List.mem_of_getElem? (i := 56) rfl) rfl
theorem z2_57 : Cond.methodLink "StreamWatch$Wire" 56 ⟨"StreamWatch$Wire", "addToSum", "(II)I"⟩ ∈ zTb := zin2 (List.mem_of_getElem? (i := 57) rfl) rfl
theorem z2_58 : Cond.static ⟨"StreamWatch$Wire", "addToSum", "(II)I"⟩ ∈ zTb := zin2 (List.mem_of_getElem? (i := 58) rfl) rfl
theorem z2_59 : Cond.code ⟨"StreamWatch$Wire", "addToSum", "(II)I"⟩ prog_11_method_19_code 3 (Option.some FieldType.int) ∈ zTb := zin2 (List.mem_of_getElem? (i := 59) rfl) rfl
theorem z2_60 : Cond.constant "StreamWatch$Wire" 35 (65535 : Int32) ∈ zTb := zin2 (List.mem_of_getElem? (i := 60) rfl) rfl
theorem z2_61 : Cond.methodLink "StreamWatch$Wire" 39 ⟨"StreamWatch$Wire", "tcpWords", "()I"⟩ ∈ zTb := zin2 (List.mem_of_getElem? (i := 61) rfl) rfl
theorem z2_63 : Cond.instanceMethod ⟨"StreamWatch$Wire", "tcpWords", "()I"⟩ ∈ zTb := zin2 (List.mem_of_getElem? (i := 63) rfl) rfl
theorem z2_64 : Cond.code ⟨"StreamWatch$Wire", "tcpWords", "()I"⟩ prog_11_method_15_code 1 (Option.some FieldType.int) ∈ zTb := zin2 (List.mem_of_getElem? (i := 64) rfl) rfl
theorem z2_65 : Cond.methodLink "StreamWatch$Wire" 42 ⟨"StreamWatch$Wire", "dataStart", "()I"⟩ ∈ zTb := zin2 (List.mem_of_getElem? (i := 65) rfl) rfl
theorem z2_66 : Cond.instanceMethod ⟨"StreamWatch$Wire", "dataStart", "()I"⟩ ∈ zTb := zin2 (List.mem_of_getElem? (i := 66) rfl) rfl
theorem z2_67 : Cond.selects "StreamWatch$Wire" ⟨"StreamWatch$Wire", "dataStart", "()I"⟩ ⟨"StreamWatch$Wire", "dataStart", "()I"⟩ ∈ zTb := zin2 (List.mem_of_getElem? (i := 67) rfl) rfl
theorem z2_68 : Cond.code ⟨"StreamWatch$Wire", "dataStart", "()I"⟩ prog_11_method_12_code 1 (Option.some FieldType.int) ∈ zTb := zin2 (List.mem_of_getElem? (i := 68) rfl) rfl
theorem z2_69 : Cond.methodLink "StreamWatch$Wire" 45 ⟨"StreamWatch$Wire", "tcpSum", "()I"⟩ ∈ zTb := zin2 (List.mem_of_getElem? (i := 69) rfl) rfl
theorem z2_71 : Cond.instanceMethod ⟨"StreamWatch$Wire", "tcpSum", "()I"⟩ ∈ zTb := zin2 (List.mem_of_getElem? (i := 71) rfl) rfl
theorem z2_72 : Cond.code ⟨"StreamWatch$Wire", "tcpSum", "()I"⟩ prog_11_method_17_code 2 (Option.some FieldType.int) ∈ zTb := zin2 (List.mem_of_getElem? (i := 72) rfl) rfl
theorem z2_73 : Cond.methodLink "StreamWatch" 84 ⟨"StreamWatch$Wire", "makeSumsRight", "()V"⟩ ∈ zTb := zin2 (List.mem_of_getElem? (i := 73) rfl) rfl
theorem z2_74 : Cond.instanceMethod ⟨"StreamWatch$Wire", "makeSumsRight", "()V"⟩ ∈ zTb := zin2 (List.mem_of_getElem? (i := 74) rfl) rfl
theorem z2_75 : Cond.selects "StreamWatch$Wire" ⟨"StreamWatch$Wire", "makeSumsRight", "()V"⟩ ⟨"StreamWatch$Wire", "makeSumsRight", "()V"⟩ ∈ zTb := zin2 (List.mem_of_getElem? (i := 75) rfl) rfl
theorem z2_76 : Cond.code ⟨"StreamWatch$Wire", "makeSumsRight", "()V"⟩ prog_11_method_9_code 2 (Option.none : Option FieldType) ∈ zTb := zin2 (List.mem_of_getElem? (i := 76) rfl) rfl
theorem z2_77 : Cond.methodLink "StreamWatch$Wire" 48 ⟨"StreamWatch$Wire", "setPair", "(II)V"⟩ ∈ zTb := zin2 (List.mem_of_getElem? (i := 77) rfl) rfl
theorem z2_79 : Cond.instanceMethod ⟨"StreamWatch$Wire", "setPair", "(II)V"⟩ ∈ zTb := zin2 (List.mem_of_getElem? (i := 79) rfl) rfl
theorem z2_80 : Cond.code ⟨"StreamWatch$Wire", "setPair", "(II)V"⟩ prog_11_method_20_code 3 (Option.none : Option FieldType) ∈ zTb := zin2 (List.mem_of_getElem? (i := 80) rfl) rfl
theorem z2_81 : Cond.methodLink "StreamWatchLaw" 66 ⟨"StreamWatch", "wire", "(I)I"⟩ ∈ zTb := zin2 (List.mem_of_getElem? (i := 81) rfl) rfl
theorem z2_82 : Cond.instanceMethod ⟨"StreamWatch", "wire", "(I)I"⟩ ∈ zTb := zin2 (List.mem_of_getElem? (i := 82) rfl) rfl
theorem z2_83 : Cond.selects "StreamWatch" ⟨"StreamWatch", "wire", "(I)I"⟩ ⟨"StreamWatch", "wire", "(I)I"⟩ ∈ zTb := zin2 (List.mem_of_getElem? (i := 83) rfl) rfl
theorem z2_84 : Cond.code ⟨"StreamWatch", "wire", "(I)I"⟩ prog_1_method_7_code 2 (Option.some FieldType.int) ∈ zTb := zin2 (List.mem_of_getElem? (i := 84) rfl) rfl
theorem z2_85 : Cond.methodLink "StreamWatch" 87 ⟨"StreamWatch$Wire", "size", "()I"⟩ ∈ zTb := zin2 (List.mem_of_getElem? (i := 85) rfl) rfl
theorem z2_86 : Cond.instanceMethod ⟨"StreamWatch$Wire", "size", "()I"⟩ ∈ zTb := zin2 (List.mem_of_getElem? (i := 86) rfl) rfl
theorem z2_87 : Cond.selects "StreamWatch$Wire" ⟨"StreamWatch$Wire", "size", "()I"⟩ ⟨"StreamWatch$Wire", "size", "()I"⟩ ∈ zTb := zin2 (List.mem_of_getElem? (i := 87) rfl) rfl
theorem z2_88 : Cond.code ⟨"StreamWatch$Wire", "size", "()I"⟩ prog_11_method_2_code 1 (Option.some FieldType.int) ∈ zTb := zin2 (List.mem_of_getElem? (i := 88) rfl) rfl
theorem z2_89 : Cond.methodLink "StreamWatch" 99 ⟨"StreamWatch$Wire", "has", "(I)Z"⟩ ∈ zTb := zin2 (List.mem_of_getElem? (i := 89) rfl) rfl
theorem z2_90 : Cond.methodLink "StreamWatch" 103 ⟨"StreamWatch$Wire", "at", "(I)I"⟩ ∈ zTb := zin2 (List.mem_of_getElem? (i := 90) rfl) rfl
theorem z2_91 : Cond.methodLink "StreamWatchLaw" 71 ⟨"StreamWatch", "watch", "()I"⟩ ∈ zTb := zin2 (List.mem_of_getElem? (i := 91) rfl) rfl
theorem z2_92 : Cond.instanceMethod ⟨"StreamWatch", "watch", "()I"⟩ ∈ zTb := zin2 (List.mem_of_getElem? (i := 92) rfl) rfl
theorem z2_93 : Cond.selects "StreamWatch" ⟨"StreamWatch", "watch", "()I"⟩ ⟨"StreamWatch", "watch", "()I"⟩ ∈ zTb := zin2 (List.mem_of_getElem? (i := 93) rfl) rfl
theorem z2_94 : Cond.code ⟨"StreamWatch", "watch", "()I"⟩ prog_1_method_8_code 4 (Option.some FieldType.int) ∈ zTb := zin2 (List.mem_of_getElem? (i := 94) rfl) rfl
theorem z2_95 : Cond.methodLink "StreamWatch" 107 ⟨"StreamWatch$Packet", "read", "(LStreamWatch$Wire;)V"⟩ ∈ zTb := zin2 (List.mem_of_getElem? (i := 95) rfl) rfl
theorem z2_96 : Cond.instanceMethod ⟨"StreamWatch$Packet", "read", "(LStreamWatch$Wire;)V"⟩ ∈ zTb := zin2 (List.mem_of_getElem? (i := 96) rfl) rfl
theorem z2_97 : Cond.selects "StreamWatch$Packet" ⟨"StreamWatch$Packet", "read", "(LStreamWatch$Wire;)V"⟩ ⟨"StreamWatch$Packet", "read", "(LStreamWatch$Wire;)V"⟩ ∈ zTb := zin2 (List.mem_of_getElem? (i := 97) rfl) rfl
theorem z2_98 : Cond.code ⟨"StreamWatch$Packet", "read", "(LStreamWatch$Wire;)V"⟩ prog_7_method_2_code 3 (Option.none : Option FieldType) ∈ zTb := zin2 (List.mem_of_getElem? (i := 98) rfl) rfl
theorem z2_99 : Cond.methodLink "StreamWatch$Packet" 36 ⟨"StreamWatch$Wire", "ipSize", "()I"⟩ ∈ zTb := zin2 (List.mem_of_getElem? (i := 99) rfl) rfl
theorem z2_100 : Cond.methodLink "StreamWatch$Packet" 42 ⟨"StreamWatch$Wire", "quadAt", "(I)I"⟩ ∈ zTb := zin2 (List.mem_of_getElem? (i := 100) rfl) rfl
theorem z2_101 : Cond.instanceMethod ⟨"StreamWatch$Wire", "quadAt", "(I)I"⟩ ∈ zTb := zin2 (List.mem_of_getElem? (i := 101) rfl) rfl
theorem z2_102 : Cond.selects "StreamWatch$Wire" ⟨"StreamWatch$Wire", "quadAt", "(I)I"⟩ ⟨"StreamWatch$Wire", "quadAt", "(I)I"⟩ ∈ zTb := zin2 (List.mem_of_getElem? (i := 102) rfl) rfl
theorem z2_103 : Cond.code ⟨"StreamWatch$Wire", "quadAt", "(I)I"⟩ prog_11_method_14_code 2 (Option.some FieldType.int) ∈ zTb := zin2 (List.mem_of_getElem? (i := 103) rfl) rfl
theorem z2_104 : Cond.methodLink "StreamWatch$Packet" 46 ⟨"StreamWatch$Wire", "pairAt", "(I)I"⟩ ∈ zTb := zin2 (List.mem_of_getElem? (i := 104) rfl) rfl
theorem z2_105 : Cond.methodLink "StreamWatch$Packet" 49 ⟨"StreamWatch$Wire", "at", "(I)I"⟩ ∈ zTb := zin2 (List.mem_of_getElem? (i := 105) rfl) rfl
theorem z2_106 : Cond.methodLink "StreamWatch$Packet" 52 ⟨"StreamWatch$Packet", "hasFlag", "(I)Z"⟩ ∈ zTb := zin2 (List.mem_of_getElem? (i := 106) rfl) rfl
theorem z2_107 : Cond.instanceMethod ⟨"StreamWatch$Packet", "hasFlag", "(I)Z"⟩ ∈ zTb := zin2 (List.mem_of_getElem? (i := 107) rfl) rfl
theorem z2_108 : Cond.selects "StreamWatch$Packet" ⟨"StreamWatch$Packet", "hasFlag", "(I)Z"⟩ ⟨"StreamWatch$Packet", "hasFlag", "(I)Z"⟩ ∈ zTb := zin2 (List.mem_of_getElem? (i := 108) rfl) rfl
theorem z2_109 : Cond.code ⟨"StreamWatch$Packet", "hasFlag", "(I)Z"⟩ prog_7_method_3_code 2 (Option.some FieldType.boolean) ∈ zTb := zin2 (List.mem_of_getElem? (i := 109) rfl) rfl
theorem z2_110 : Cond.methodLink "StreamWatch$Packet" 56 ⟨"StreamWatch$Wire", "dataStart", "()I"⟩ ∈ zTb := zin2 (List.mem_of_getElem? (i := 110) rfl) rfl
theorem z2_111 : Cond.methodLink "StreamWatch$Packet" 58 ⟨"StreamWatch$Wire", "length", "()I"⟩ ∈ zTb := zin2 (List.mem_of_getElem? (i := 111) rfl) rfl
theorem z2_112 : Cond.methodLink "StreamWatch" 111 ⟨"StreamWatch", "flowOfPacket", "()LStreamWatch$Flow;"⟩ ∈ zTb := zin2 (List.mem_of_getElem? (i := 112) rfl) rfl
theorem z2_114 : Cond.instanceMethod ⟨"StreamWatch", "flowOfPacket", "()LStreamWatch$Flow;"⟩ ∈ zTb := zin2 (List.mem_of_getElem? (i := 114) rfl) rfl
theorem z2_115 : Cond.code ⟨"StreamWatch", "flowOfPacket", "()LStreamWatch$Flow;"⟩ prog_1_method_18_code 3 (Option.some (FieldType.object "StreamWatch$Flow")) ∈ zTb := zin2 (List.mem_of_getElem? (i := 115) rfl) rfl
theorem z2_116 : Cond.methodLink "StreamWatch" 228 ⟨"StreamWatch$FlowTable", "of", "(LStreamWatch$Packet;)LStreamWatch$Flow;"⟩ ∈ zTb := zin2 (List.mem_of_getElem? (i := 116) rfl) rfl
theorem z2_117 : Cond.instanceMethod ⟨"StreamWatch$FlowTable", "of", "(LStreamWatch$Packet;)LStreamWatch$Flow;"⟩ ∈ zTb := zin2 (List.mem_of_getElem? (i := 117) rfl) rfl
theorem z2_118 : Cond.selects "StreamWatch$FlowTable" ⟨"StreamWatch$FlowTable", "of", "(LStreamWatch$Packet;)LStreamWatch$Flow;"⟩ ⟨"StreamWatch$FlowTable", "of", "(LStreamWatch$Packet;)LStreamWatch$Flow;"⟩ ∈ zTb := zin2 (List.mem_of_getElem? (i := 118) rfl) rfl
theorem z2_119 : Cond.code ⟨"StreamWatch$FlowTable", "of", "(LStreamWatch$Packet;)LStreamWatch$Flow;"⟩ prog_4_method_3_code 4 (Option.some (FieldType.object "StreamWatch$Flow")) ∈ zTb := zin2 (List.mem_of_getElem? (i := 119) rfl) rfl
theorem z2_120 : Cond.methodLink "StreamWatch$FlowTable" 26 ⟨"StreamWatch$FlowTable", "at", "(I)LStreamWatch$Flow;"⟩ ∈ zTb := zin2 (List.mem_of_getElem? (i := 120) rfl) rfl
theorem z2_121 : Cond.instanceMethod ⟨"StreamWatch$FlowTable", "at", "(I)LStreamWatch$Flow;"⟩ ∈ zTb := zin2 (List.mem_of_getElem? (i := 121) rfl) rfl
theorem z2_122 : Cond.selects "StreamWatch$FlowTable" ⟨"StreamWatch$FlowTable", "at", "(I)LStreamWatch$Flow;"⟩ ⟨"StreamWatch$FlowTable", "at", "(I)LStreamWatch$Flow;"⟩ ∈ zTb := zin2 (List.mem_of_getElem? (i := 122) rfl) rfl
theorem z2_123 : Cond.code ⟨"StreamWatch$FlowTable", "at", "(I)LStreamWatch$Flow;"⟩ prog_4_method_2_code 2 (Option.some (FieldType.object "StreamWatch$Flow")) ∈ zTb := zin2 (List.mem_of_getElem? (i := 123) rfl) rfl
theorem z2_124 : Cond.methodLink "StreamWatch$FlowTable" 22 ⟨"StreamWatch$Flow", "isLive", "()Z"⟩ ∈ zTb := zin2 (List.mem_of_getElem? (i := 124) rfl) rfl
theorem z2_125 : Cond.instanceMethod ⟨"StreamWatch$Flow", "isLive", "()Z"⟩ ∈ zTb := zin2 (List.mem_of_getElem? (i := 125) rfl) rfl
theorem z2_126 : Cond.selects "StreamWatch$Flow" ⟨"StreamWatch$Flow", "isLive", "()Z"⟩ ⟨"StreamWatch$Flow", "isLive", "()Z"⟩ ∈ zTb := zin2 (List.mem_of_getElem? (i := 126) rfl) rfl
theorem z2_127 : Cond.code ⟨"StreamWatch$Flow", "isLive", "()Z"⟩ prog_3_method_2_code 1 (Option.some FieldType.boolean) ∈ zTb := zin2 (List.mem_of_getElem? (i := 127) rfl) rfl
theorem z2_128 : Cond.methodLink "StreamWatch$FlowTable" 30 ⟨"StreamWatch$Flow", "wayOf", "(LStreamWatch$Packet;)I"⟩ ∈ zTb := zin2 (List.mem_of_getElem? (i := 128) rfl) rfl
theorem z2_129 : Cond.instanceMethod ⟨"StreamWatch$Flow", "wayOf", "(LStreamWatch$Packet;)I"⟩ ∈ zTb := zin2 (List.mem_of_getElem? (i := 129) rfl) rfl
theorem z2_130 : Cond.selects "StreamWatch$Flow" ⟨"StreamWatch$Flow", "wayOf", "(LStreamWatch$Packet;)I"⟩ ⟨"StreamWatch$Flow", "wayOf", "(LStreamWatch$Packet;)I"⟩ ∈ zTb := zin2 (List.mem_of_getElem? (i := 130) rfl) rfl
theorem z2_131 : Cond.code ⟨"StreamWatch$Flow", "wayOf", "(LStreamWatch$Packet;)I"⟩ prog_3_method_6_code 4 (Option.some FieldType.int) ∈ zTb := zin2 (List.mem_of_getElem? (i := 131) rfl) rfl
theorem z2_132 : Cond.methodLink "StreamWatch$Flow" 65 ⟨"StreamWatch$Flow", "isClient", "(II)Z"⟩ ∈ zTb := zin2 (List.mem_of_getElem? (i := 132) rfl) rfl
theorem z2_134 : Cond.instanceMethod ⟨"StreamWatch$Flow", "isClient", "(II)Z"⟩ ∈ zTb := zin2 (List.mem_of_getElem? (i := 134) rfl) rfl
theorem z2_135 : Cond.code ⟨"StreamWatch$Flow", "isClient", "(II)Z"⟩ prog_3_method_8_code 3 (Option.some FieldType.boolean) ∈ zTb := zin2 (List.mem_of_getElem? (i := 135) rfl) rfl
theorem z2_136 : Cond.methodLink "StreamWatch$Flow" 69 ⟨"StreamWatch$Flow", "isServer", "(II)Z"⟩ ∈ zTb := zin2 (List.mem_of_getElem? (i := 136) rfl) rfl
theorem z2_138 : Cond.instanceMethod ⟨"StreamWatch$Flow", "isServer", "(II)Z"⟩ ∈ zTb := zin2 (List.mem_of_getElem? (i := 138) rfl) rfl
theorem z2_139 : Cond.code ⟨"StreamWatch$Flow", "isServer", "(II)Z"⟩ prog_3_method_9_code 3 (Option.some FieldType.boolean) ∈ zTb := zin2 (List.mem_of_getElem? (i := 139) rfl) rfl
theorem z2_140 : Cond.methodLink "StreamWatch" 122 ⟨"StreamWatch$Packet", "hasFlag", "(I)Z"⟩ ∈ zTb := zin2 (List.mem_of_getElem? (i := 140) rfl) rfl
theorem z2_141 : Cond.methodLink "StreamWatch" 232 ⟨"StreamWatch$FlowTable", "open", "(LStreamWatch$Packet;)LStreamWatch$Flow;"⟩ ∈ zTb := zin2 (List.mem_of_getElem? (i := 141) rfl) rfl
theorem z2_142 : Cond.instanceMethod ⟨"StreamWatch$FlowTable", "open", "(LStreamWatch$Packet;)LStreamWatch$Flow;"⟩ ∈ zTb := zin2 (List.mem_of_getElem? (i := 142) rfl) rfl
theorem z2_143 : Cond.selects "StreamWatch$FlowTable" ⟨"StreamWatch$FlowTable", "open", "(LStreamWatch$Packet;)LStreamWatch$Flow;"⟩ ⟨"StreamWatch$FlowTable", "open", "(LStreamWatch$Packet;)LStreamWatch$Flow;"⟩ ∈ zTb := zin2 (List.mem_of_getElem? (i := 143) rfl) rfl
theorem z2_144 : Cond.code ⟨"StreamWatch$FlowTable", "open", "(LStreamWatch$Packet;)LStreamWatch$Flow;"⟩ prog_4_method_4_code 4 (Option.some (FieldType.object "StreamWatch$Flow")) ∈ zTb := zin2 (List.mem_of_getElem? (i := 144) rfl) rfl
theorem z2_145 : Cond.methodLink "StreamWatch$FlowTable" 37 ⟨"StreamWatch$Flow", "open", "(LStreamWatch$Packet;)V"⟩ ∈ zTb := zin2 (List.mem_of_getElem? (i := 145) rfl) rfl
theorem z2_146 : Cond.instanceMethod ⟨"StreamWatch$Flow", "open", "(LStreamWatch$Packet;)V"⟩ ∈ zTb := zin2 (List.mem_of_getElem? (i := 146) rfl) rfl
theorem z2_147 : Cond.selects "StreamWatch$Flow" ⟨"StreamWatch$Flow", "open", "(LStreamWatch$Packet;)V"⟩ ⟨"StreamWatch$Flow", "open", "(LStreamWatch$Packet;)V"⟩ ∈ zTb := zin2 (List.mem_of_getElem? (i := 147) rfl) rfl
theorem z2_148 : Cond.code ⟨"StreamWatch$Flow", "open", "(LStreamWatch$Packet;)V"⟩ prog_3_method_3_code 2 (Option.none : Option FieldType) ∈ zTb := zin2 (List.mem_of_getElem? (i := 148) rfl) rfl
theorem z2_149 : Cond.methodLink "StreamWatch$Flow" 55 ⟨"StreamWatch$Stream", "reset", "()V"⟩ ∈ zTb := zin2 (List.mem_of_getElem? (i := 149) rfl) rfl
theorem z2_150 : Cond.instanceMethod ⟨"StreamWatch$Stream", "reset", "()V"⟩ ∈ zTb := zin2 (List.mem_of_getElem? (i := 150) rfl) rfl
theorem z2_151 : Cond.selects "StreamWatch$Stream" ⟨"StreamWatch$Stream", "reset", "()V"⟩ ⟨"StreamWatch$Stream", "reset", "()V"⟩ ∈ zTb := zin2 (List.mem_of_getElem? (i := 151) rfl) rfl
theorem z2_152 : Cond.code ⟨"StreamWatch$Stream", "reset", "()V"⟩ prog_10_method_2_code 1 (Option.none : Option FieldType) ∈ zTb := zin2 (List.mem_of_getElem? (i := 152) rfl) rfl
theorem z2_153 : Cond.methodLink "StreamWatch" 115 ⟨"StreamWatch$FlowTable", "hear", "(LStreamWatch$Flow;)V"⟩ ∈ zTb := zin2 (List.mem_of_getElem? (i := 153) rfl) rfl
theorem z2_154 : Cond.instanceMethod ⟨"StreamWatch$FlowTable", "hear", "(LStreamWatch$Flow;)V"⟩ ∈ zTb := zin2 (List.mem_of_getElem? (i := 154) rfl) rfl
theorem z2_155 : Cond.selects "StreamWatch$FlowTable" ⟨"StreamWatch$FlowTable", "hear", "(LStreamWatch$Flow;)V"⟩ ⟨"StreamWatch$FlowTable", "hear", "(LStreamWatch$Flow;)V"⟩ ∈ zTb := zin2 (List.mem_of_getElem? (i := 155) rfl) rfl
theorem z2_156 : Cond.code ⟨"StreamWatch$FlowTable", "hear", "(LStreamWatch$Flow;)V"⟩ prog_4_method_5_code 2 (Option.none : Option FieldType) ∈ zTb := zin2 (List.mem_of_getElem? (i := 156) rfl) rfl
theorem z2_157 : Cond.methodLink "StreamWatch" 119 ⟨"StreamWatch$AlertLog", "total", "()I"⟩ ∈ zTb := zin2 (List.mem_of_getElem? (i := 157) rfl) rfl
theorem z2_158 : Cond.instanceMethod ⟨"StreamWatch$AlertLog", "total", "()I"⟩ ∈ zTb := zin2 (List.mem_of_getElem? (i := 158) rfl) rfl
theorem z2_159 : Cond.selects "StreamWatch$AlertLog" ⟨"StreamWatch$AlertLog", "total", "()I"⟩ ⟨"StreamWatch$AlertLog", "total", "()I"⟩ ∈ zTb := zin2 (List.mem_of_getElem? (i := 159) rfl) rfl
theorem z2_160 : Cond.code ⟨"StreamWatch$AlertLog", "total", "()I"⟩ prog_2_method_2_code 1 (Option.some FieldType.int) ∈ zTb := zin2 (List.mem_of_getElem? (i := 160) rfl) rfl
theorem z2_161 : Cond.methodLink "StreamWatch" 125 ⟨"StreamWatch$Flow", "free", "()V"⟩ ∈ zTb := zin2 (List.mem_of_getElem? (i := 161) rfl) rfl
theorem z2_162 : Cond.instanceMethod ⟨"StreamWatch$Flow", "free", "()V"⟩ ∈ zTb := zin2 (List.mem_of_getElem? (i := 162) rfl) rfl
theorem z2_163 : Cond.selects "StreamWatch$Flow" ⟨"StreamWatch$Flow", "free", "()V"⟩ ⟨"StreamWatch$Flow", "free", "()V"⟩ ∈ zTb := zin2 (List.mem_of_getElem? (i := 163) rfl) rfl
theorem z2_164 : Cond.code ⟨"StreamWatch$Flow", "free", "()V"⟩ prog_3_method_4_code 1 (Option.none : Option FieldType) ∈ zTb := zin2 (List.mem_of_getElem? (i := 164) rfl) rfl
theorem z2_165 : Cond.methodLink "StreamWatch" 130 ⟨"StreamWatch$Flow", "wayOf", "(LStreamWatch$Packet;)I"⟩ ∈ zTb := zin2 (List.mem_of_getElem? (i := 165) rfl) rfl
theorem z2_166 : Cond.methodLink "StreamWatch" 134 ⟨"StreamWatch", "receive", "(LStreamWatch$Flow;I)V"⟩ ∈ zTb := zin2 (List.mem_of_getElem? (i := 166) rfl) rfl
theorem z2_168 : Cond.instanceMethod ⟨"StreamWatch", "receive", "(LStreamWatch$Flow;I)V"⟩ ∈ zTb := zin2 (List.mem_of_getElem? (i := 168) rfl) rfl
theorem z2_169 : Cond.code ⟨"StreamWatch", "receive", "(LStreamWatch$Flow;I)V"⟩ prog_1_method_19_code 5 (Option.none : Option FieldType) ∈ zTb := zin2 (List.mem_of_getElem? (i := 169) rfl) rfl
theorem z2_170 : Cond.methodLink "StreamWatch" 235 ⟨"StreamWatch$Flow", "streamOf", "(I)LStreamWatch$Stream;"⟩ ∈ zTb := zin2 (List.mem_of_getElem? (i := 170) rfl) rfl
theorem z2_171 : Cond.instanceMethod ⟨"StreamWatch$Flow", "streamOf", "(I)LStreamWatch$Stream;"⟩ ∈ zTb := zin2 (List.mem_of_getElem? (i := 171) rfl) rfl
theorem z2_172 : Cond.selects "StreamWatch$Flow" ⟨"StreamWatch$Flow", "streamOf", "(I)LStreamWatch$Stream;"⟩ ⟨"StreamWatch$Flow", "streamOf", "(I)LStreamWatch$Stream;"⟩ ∈ zTb := zin2 (List.mem_of_getElem? (i := 172) rfl) rfl
theorem z2_173 : Cond.code ⟨"StreamWatch$Flow", "streamOf", "(I)LStreamWatch$Stream;"⟩ prog_3_method_7_code 2 (Option.some (FieldType.object "StreamWatch$Stream")) ∈ zTb := zin2 (List.mem_of_getElem? (i := 173) rfl) rfl
theorem z2_174 : Cond.methodLink "StreamWatch" 242 ⟨"StreamWatch$Stream", "begin", "(I)V"⟩ ∈ zTb := zin2 (List.mem_of_getElem? (i := 174) rfl) rfl
theorem z2_175 : Cond.instanceMethod ⟨"StreamWatch$Stream", "begin", "(I)V"⟩ ∈ zTb := zin2 (List.mem_of_getElem? (i := 175) rfl) rfl
theorem z2_176 : Cond.selects "StreamWatch$Stream" ⟨"StreamWatch$Stream", "begin", "(I)V"⟩ ⟨"StreamWatch$Stream", "begin", "(I)V"⟩ ∈ zTb := zin2 (List.mem_of_getElem? (i := 176) rfl) rfl
theorem z2_177 : Cond.code ⟨"StreamWatch$Stream", "begin", "(I)V"⟩ prog_10_method_3_code 2 (Option.none : Option FieldType) ∈ zTb := zin2 (List.mem_of_getElem? (i := 177) rfl) rfl
theorem z2_178 : Cond.methodLink "StreamWatch" 246 ⟨"StreamWatch", "holdData", "(LStreamWatch$Stream;)V"⟩ ∈ zTb := zin2 (List.mem_of_getElem? (i := 178) rfl) rfl
theorem z2_180 : Cond.instanceMethod ⟨"StreamWatch", "holdData", "(LStreamWatch$Stream;)V"⟩ ∈ zTb := zin2 (List.mem_of_getElem? (i := 180) rfl) rfl
theorem z2_181 : Cond.code ⟨"StreamWatch", "holdData", "(LStreamWatch$Stream;)V"⟩ prog_1_method_20_code 3 (Option.none : Option FieldType) ∈ zTb := zin2 (List.mem_of_getElem? (i := 181) rfl) rfl
theorem z2_182 : Cond.methodLink "StreamWatch" 272 ⟨"StreamWatch$Stream", "hold", "(IIZ)V"⟩ ∈ zTb := zin2 (List.mem_of_getElem? (i := 182) rfl) rfl
theorem z2_183 : Cond.instanceMethod ⟨"StreamWatch$Stream", "hold", "(IIZ)V"⟩ ∈ zTb := zin2 (List.mem_of_getElem? (i := 183) rfl) rfl
theorem z2_184 : Cond.selects "StreamWatch$Stream" ⟨"StreamWatch$Stream", "hold", "(IIZ)V"⟩ ⟨"StreamWatch$Stream", "hold", "(IIZ)V"⟩ ∈ zTb := zin2 (List.mem_of_getElem? (i := 184) rfl) rfl
theorem z2_185 : Cond.code ⟨"StreamWatch$Stream", "hold", "(IIZ)V"⟩ prog_10_method_4_code 6 (Option.none : Option FieldType) ∈ zTb := zin2 (List.mem_of_getElem? (i := 185) rfl) rfl
theorem z2_186 : Cond.methodLink "StreamWatch$Stream" 41 ⟨"StreamWatch$Stream", "placeOf", "(I)I"⟩ ∈ zTb := zin2 (List.mem_of_getElem? (i := 186) rfl) rfl
theorem z2_187 : Cond.static ⟨"StreamWatch$Stream", "placeOf", "(I)I"⟩ ∈ zTb := zin2 (List.mem_of_getElem? (i := 187) rfl) rfl
theorem z2_188 : Cond.code ⟨"StreamWatch$Stream", "placeOf", "(I)I"⟩ prog_10_method_16_code 1 (Option.some FieldType.int) ∈ zTb := zin2 (List.mem_of_getElem? (i := 188) rfl) rfl
theorem z2_189 : Cond.methodLink "StreamWatch" 250 ⟨"StreamWatch$Stream", "isNextHeld", "()Z"⟩ ∈ zTb := zin2 (List.mem_of_getElem? (i := 189) rfl) rfl
theorem z2_190 : Cond.instanceMethod ⟨"StreamWatch$Stream", "isNextHeld", "()Z"⟩ ∈ zTb := zin2 (List.mem_of_getElem? (i := 190) rfl) rfl
theorem z2_191 : Cond.selects "StreamWatch$Stream" ⟨"StreamWatch$Stream", "isNextHeld", "()Z"⟩ ⟨"StreamWatch$Stream", "isNextHeld", "()Z"⟩ ∈ zTb := zin2 (List.mem_of_getElem? (i := 191) rfl) rfl
theorem z2_192 : Cond.code ⟨"StreamWatch$Stream", "isNextHeld", "()Z"⟩ prog_10_method_5_code 1 (Option.some FieldType.boolean) ∈ zTb := zin2 (List.mem_of_getElem? (i := 192) rfl) rfl
theorem z2_193 : Cond.methodLink "StreamWatch" 253 ⟨"StreamWatch$Stream", "takeNext", "()Z"⟩ ∈ zTb := zin2 (List.mem_of_getElem? (i := 193) rfl) rfl
theorem z2_194 : Cond.instanceMethod ⟨"StreamWatch$Stream", "takeNext", "()Z"⟩ ∈ zTb := zin2 (List.mem_of_getElem? (i := 194) rfl) rfl
theorem z2_195 : Cond.selects "StreamWatch$Stream" ⟨"StreamWatch$Stream", "takeNext", "()Z"⟩ ⟨"StreamWatch$Stream", "takeNext", "()Z"⟩ ∈ zTb := zin2 (List.mem_of_getElem? (i := 195) rfl) rfl
theorem z2_196 : Cond.code ⟨"StreamWatch$Stream", "takeNext", "()Z"⟩ prog_10_method_6_code 3 (Option.some FieldType.boolean) ∈ zTb := zin2 (List.mem_of_getElem? (i := 196) rfl) rfl
theorem z2_197 : Cond.methodLink "StreamWatch" 256 ⟨"StreamWatch", "raiseAlerts", "(LStreamWatch$Flow;LStreamWatch$Stream;I)V"⟩ ∈ zTb := zin2 (List.mem_of_getElem? (i := 197) rfl) rfl
theorem z2_199 : Cond.instanceMethod ⟨"StreamWatch", "raiseAlerts", "(LStreamWatch$Flow;LStreamWatch$Stream;I)V"⟩ ∈ zTb := zin2 (List.mem_of_getElem? (i := 199) rfl) rfl
theorem z2_200 : Cond.code ⟨"StreamWatch", "raiseAlerts", "(LStreamWatch$Flow;LStreamWatch$Stream;I)V"⟩ prog_1_method_21_code 6 (Option.none : Option FieldType) ∈ zTb := zin2 (List.mem_of_getElem? (i := 200) rfl) rfl
theorem z2_201 : Cond.methodLink "StreamWatch" 159 ⟨"StreamWatch", "ruleAt", "(I)LStreamWatch$Rule;"⟩ ∈ zTb := zin2 (List.mem_of_getElem? (i := 201) rfl) rfl
theorem z2_203 : Cond.instanceMethod ⟨"StreamWatch", "ruleAt", "(I)LStreamWatch$Rule;"⟩ ∈ zTb := zin2 (List.mem_of_getElem? (i := 203) rfl) rfl
theorem z2_204 : Cond.code ⟨"StreamWatch", "ruleAt", "(I)LStreamWatch$Rule;"⟩ prog_1_method_22_code 2 (Option.some (FieldType.object "StreamWatch$Rule")) ∈ zTb := zin2 (List.mem_of_getElem? (i := 204) rfl) rfl
theorem z2_205 : Cond.methodLink "StreamWatch" 276 ⟨"StreamWatch$Rule", "isFor", "(II)Z"⟩ ∈ zTb := zin2 (List.mem_of_getElem? (i := 205) rfl) rfl
theorem z2_206 : Cond.instanceMethod ⟨"StreamWatch$Rule", "isFor", "(II)Z"⟩ ∈ zTb := zin2 (List.mem_of_getElem? (i := 206) rfl) rfl
theorem z2_207 : Cond.selects "StreamWatch$Rule" ⟨"StreamWatch$Rule", "isFor", "(II)Z"⟩ ⟨"StreamWatch$Rule", "isFor", "(II)Z"⟩ ∈ zTb := zin2 (List.mem_of_getElem? (i := 207) rfl) rfl
theorem z2_208 : Cond.code ⟨"StreamWatch$Rule", "isFor", "(II)Z"⟩ prog_8_method_5_code 4 (Option.some FieldType.boolean) ∈ zTb := zin2 (List.mem_of_getElem? (i := 208) rfl) rfl
theorem z2_209 : Cond.methodLink "StreamWatch" 279 ⟨"StreamWatch$Stream", "hasRaised", "(I)Z"⟩ ∈ zTb := zin2 (List.mem_of_getElem? (i := 209) rfl) rfl
theorem z2_210 : Cond.instanceMethod ⟨"StreamWatch$Stream", "hasRaised", "(I)Z"⟩ ∈ zTb := zin2 (List.mem_of_getElem? (i := 210) rfl) rfl
theorem z2_211 : Cond.selects "StreamWatch$Stream" ⟨"StreamWatch$Stream", "hasRaised", "(I)Z"⟩ ⟨"StreamWatch$Stream", "hasRaised", "(I)Z"⟩ ∈ zTb := zin2 (List.mem_of_getElem? (i := 211) rfl) rfl
theorem z2_212 : Cond.code ⟨"StreamWatch$Stream", "hasRaised", "(I)Z"⟩ prog_10_method_13_code 2 (Option.some FieldType.boolean) ∈ zTb := zin2 (List.mem_of_getElem? (i := 212) rfl) rfl
theorem z2_213 : Cond.methodLink "StreamWatch" 282 ⟨"StreamWatch$Search", "holds", "(LStreamWatch$Rule;LStreamWatch$Stream;)Z"⟩ ∈ zTb := zin2 (List.mem_of_getElem? (i := 213) rfl) rfl
theorem z2_214 : Cond.instanceMethod ⟨"StreamWatch$Search", "holds", "(LStreamWatch$Rule;LStreamWatch$Stream;)Z"⟩ ∈ zTb := zin2 (List.mem_of_getElem? (i := 214) rfl) rfl
theorem z2_215 : Cond.selects "StreamWatch$Search" ⟨"StreamWatch$Search", "holds", "(LStreamWatch$Rule;LStreamWatch$Stream;)Z"⟩ ⟨"StreamWatch$Search", "holds", "(LStreamWatch$Rule;LStreamWatch$Stream;)Z"⟩ ∈ zTb := zin2 (List.mem_of_getElem? (i := 215) rfl) rfl
theorem z2_216 : Cond.code ⟨"StreamWatch$Search", "holds", "(LStreamWatch$Rule;LStreamWatch$Stream;)Z"⟩ prog_9_method_2_code 7 (Option.some FieldType.boolean) ∈ zTb := zin2 (List.mem_of_getElem? (i := 216) rfl) rfl
theorem z2_217 : Cond.methodLink "StreamWatch$Search" 19 ⟨"StreamWatch$Stream", "size", "()I"⟩ ∈ zTb := zin2 (List.mem_of_getElem? (i := 217) rfl) rfl
theorem z2_218 : Cond.instanceMethod ⟨"StreamWatch$Stream", "size", "()I"⟩ ∈ zTb := zin2 (List.mem_of_getElem? (i := 218) rfl) rfl
theorem z2_219 : Cond.selects "StreamWatch$Stream" ⟨"StreamWatch$Stream", "size", "()I"⟩ ⟨"StreamWatch$Stream", "size", "()I"⟩ ∈ zTb := zin2 (List.mem_of_getElem? (i := 219) rfl) rfl
theorem z2_220 : Cond.code ⟨"StreamWatch$Stream", "size", "()I"⟩ prog_10_method_9_code 1 (Option.some FieldType.int) ∈ zTb := zin2 (List.mem_of_getElem? (i := 220) rfl) rfl
theorem z2_221 : Cond.methodLink "StreamWatch$Search" 25 ⟨"StreamWatch$Marks", "markStartOnly", "(I)V"⟩ ∈ zTb := zin2 (List.mem_of_getElem? (i := 221) rfl) rfl
theorem z2_222 : Cond.instanceMethod ⟨"StreamWatch$Marks", "markStartOnly", "(I)V"⟩ ∈ zTb := zin2 (List.mem_of_getElem? (i := 222) rfl) rfl
theorem z2_223 : Cond.selects "StreamWatch$Marks" ⟨"StreamWatch$Marks", "markStartOnly", "(I)V"⟩ ⟨"StreamWatch$Marks", "markStartOnly", "(I)V"⟩ ∈ zTb := zin2 (List.mem_of_getElem? (i := 223) rfl) rfl
theorem z2_224 : Cond.code ⟨"StreamWatch$Marks", "markStartOnly", "(I)V"⟩ prog_5_method_2_code 3 (Option.none : Option FieldType) ∈ zTb := zin2 (List.mem_of_getElem? (i := 224) rfl) rfl
theorem z2_225 : Cond.methodLink "StreamWatch$Marks" 23 ⟨"StreamWatch$Marks", "set", "(IZ)V"⟩ ∈ zTb := zin2 (List.mem_of_getElem? (i := 225) rfl) rfl
theorem z2_226 : Cond.instanceMethod ⟨"StreamWatch$Marks", "set", "(IZ)V"⟩ ∈ zTb := zin2 (List.mem_of_getElem? (i := 226) rfl) rfl
theorem z2_227 : Cond.selects "StreamWatch$Marks" ⟨"StreamWatch$Marks", "set", "(IZ)V"⟩ ⟨"StreamWatch$Marks", "set", "(IZ)V"⟩ ∈ zTb := zin2 (List.mem_of_getElem? (i := 227) rfl) rfl
theorem z2_228 : Cond.code ⟨"StreamWatch$Marks", "set", "(IZ)V"⟩ prog_5_method_3_code 3 (Option.none : Option FieldType) ∈ zTb := zin2 (List.mem_of_getElem? (i := 228) rfl) rfl
theorem z2_229 : Cond.methodLink "StreamWatch$Marks" 27 ⟨"StreamWatch$Marks", "settle", "(I)V"⟩ ∈ zTb := zin2 (List.mem_of_getElem? (i := 229) rfl) rfl
theorem z2_230 : Cond.instanceMethod ⟨"StreamWatch$Marks", "settle", "(I)V"⟩ ∈ zTb := zin2 (List.mem_of_getElem? (i := 230) rfl) rfl
theorem z2_231 : Cond.selects "StreamWatch$Marks" ⟨"StreamWatch$Marks", "settle", "(I)V"⟩ ⟨"StreamWatch$Marks", "settle", "(I)V"⟩ ∈ zTb := zin2 (List.mem_of_getElem? (i := 231) rfl) rfl
theorem z2_232 : Cond.code ⟨"StreamWatch$Marks", "settle", "(I)V"⟩ prog_5_method_5_code 4 (Option.none : Option FieldType) ∈ zTb := zin2 (List.mem_of_getElem? (i := 232) rfl) rfl
theorem z2_233 : Cond.methodLink "StreamWatch$Search" 29 ⟨"StreamWatch$Rule", "size", "()I"⟩ ∈ zTb := zin2 (List.mem_of_getElem? (i := 233) rfl) rfl
theorem z2_234 : Cond.instanceMethod ⟨"StreamWatch$Rule", "size", "()I"⟩ ∈ zTb := zin2 (List.mem_of_getElem? (i := 234) rfl) rfl
theorem z2_235 : Cond.selects "StreamWatch$Rule" ⟨"StreamWatch$Rule", "size", "()I"⟩ ⟨"StreamWatch$Rule", "size", "()I"⟩ ∈ zTb := zin2 (List.mem_of_getElem? (i := 235) rfl) rfl
theorem z2_236 : Cond.code ⟨"StreamWatch$Rule", "size", "()I"⟩ prog_8_method_2_code 1 (Option.some FieldType.int) ∈ zTb := zin2 (List.mem_of_getElem? (i := 236) rfl) rfl
theorem z2_237 : Cond.methodLink "StreamWatch$Search" 32 ⟨"StreamWatch$Rule", "at", "(I)LStreamWatch$Option;"⟩ ∈ zTb := zin2 (List.mem_of_getElem? (i := 237) rfl) rfl
theorem z2_238 : Cond.instanceMethod ⟨"StreamWatch$Rule", "at", "(I)LStreamWatch$Option;"⟩ ∈ zTb := zin2 (List.mem_of_getElem? (i := 238) rfl) rfl
theorem z2_239 : Cond.selects "StreamWatch$Rule" ⟨"StreamWatch$Rule", "at", "(I)LStreamWatch$Option;"⟩ ⟨"StreamWatch$Rule", "at", "(I)LStreamWatch$Option;"⟩ ∈ zTb := zin2 (List.mem_of_getElem? (i := 239) rfl) rfl
theorem z3_0 : Cond.code ⟨"StreamWatch$Rule", "at", "(I)LStreamWatch$Option;"⟩ prog_8_method_4_code 2 (Option.some (FieldType.object "StreamWatch$Option")) ∈ zTb := zin3 (List.mem_of_getElem? (i := 0) rfl) rfl
theorem z3_1 : Cond.methodLink "StreamWatch$Search" 36 ⟨"StreamWatch$Search", "find", "(LStreamWatch$Option;LStreamWatch$Stream;)V"⟩ ∈ zTb := zin3 (List.mem_of_getElem? (i := 1) rfl) rfl
theorem z3_3 : Cond.instanceMethod ⟨"StreamWatch$Search", "find", "(LStreamWatch$Option;LStreamWatch$Stream;)V"⟩ ∈ zTb := zin3 (List.mem_of_getElem? (i := 3) rfl) rfl
theorem z3_4 : Cond.code ⟨"StreamWatch$Search", "find", "(LStreamWatch$Option;LStreamWatch$Stream;)V"⟩ prog_9_method_3_code 5 (Option.none : Option FieldType) ∈ zTb := zin3 (List.mem_of_getElem? (i := 4) rfl) rfl
theorem z3_5 : Cond.methodLink "StreamWatch$Search" 60 ⟨"StreamWatch$Option", "standsAt", "(ILStreamWatch$Stream;)Z"⟩ ∈ zTb := zin3 (List.mem_of_getElem? (i := 5) rfl) rfl
theorem z3_6 : Cond.instanceMethod ⟨"StreamWatch$Option", "standsAt", "(ILStreamWatch$Stream;)Z"⟩ ∈ zTb := zin3 (List.mem_of_getElem? (i := 6) rfl) rfl
theorem z3_7 : Cond.selects "StreamWatch$Option" ⟨"StreamWatch$Option", "standsAt", "(ILStreamWatch$Stream;)Z"⟩ ⟨"StreamWatch$Option", "standsAt", "(ILStreamWatch$Stream;)Z"⟩ ∈ zTb := zin3 (List.mem_of_getElem? (i := 7) rfl) rfl
theorem z3_8 : Cond.code ⟨"StreamWatch$Option", "standsAt", "(ILStreamWatch$Stream;)Z"⟩ prog_6_method_2_code 5 (Option.some FieldType.boolean) ∈ zTb := zin3 (List.mem_of_getElem? (i := 8) rfl) rfl
theorem z3_9 : Cond.methodLink "StreamWatch$Option" 35 ⟨"StreamWatch$Stream", "size", "()I"⟩ ∈ zTb := zin3 (List.mem_of_getElem? (i := 9) rfl) rfl
theorem z3_10 : Cond.methodLink "StreamWatch$Option" 40 ⟨"StreamWatch$Stream", "byteAt", "(I)I"⟩ ∈ zTb := zin3 (List.mem_of_getElem? (i := 10) rfl) rfl
theorem z3_11 : Cond.instanceMethod ⟨"StreamWatch$Stream", "byteAt", "(I)I"⟩ ∈ zTb := zin3 (List.mem_of_getElem? (i := 11) rfl) rfl
theorem z3_12 : Cond.selects "StreamWatch$Stream" ⟨"StreamWatch$Stream", "byteAt", "(I)I"⟩ ⟨"StreamWatch$Stream", "byteAt", "(I)I"⟩ ∈ zTb := zin3 (List.mem_of_getElem? (i := 12) rfl) rfl
theorem z3_13 : Cond.code ⟨"StreamWatch$Stream", "byteAt", "(I)I"⟩ prog_10_method_12_code 2 (Option.some FieldType.int) ∈ zTb := zin3 (List.mem_of_getElem? (i := 13) rfl) rfl
theorem z3_14 : Cond.methodLink "StreamWatch$Option" 44 ⟨"StreamWatch$Option", "folded", "(I)I"⟩ ∈ zTb := zin3 (List.mem_of_getElem? (i := 14) rfl) rfl
theorem z3_16 : Cond.instanceMethod ⟨"StreamWatch$Option", "folded", "(I)I"⟩ ∈ zTb := zin3 (List.mem_of_getElem? (i := 16) rfl) rfl
theorem z3_17 : Cond.instantiable "StreamWatch$Option" 7 ∈ zTb := zin3 (List.mem_of_getElem? (i := 17) rfl) rfl
theorem z3_18 : Cond.code ⟨"StreamWatch$Option", "folded", "(I)I"⟩ prog_6_method_3_code 2 (Option.some FieldType.int) ∈ zTb := zin3 (List.mem_of_getElem? (i := 18) rfl) rfl
theorem z3_19 : Cond.methodLink "StreamWatch$Search" 64 ⟨"StreamWatch$Marks", "set", "(IZ)V"⟩ ∈ zTb := zin3 (List.mem_of_getElem? (i := 19) rfl) rfl
theorem z3_20 : Cond.methodLink "StreamWatch$Search" 53 ⟨"StreamWatch$Marks", "settle", "(I)V"⟩ ∈ zTb := zin3 (List.mem_of_getElem? (i := 20) rfl) rfl
theorem z3_21 : Cond.methodLink "StreamWatch$Search" 46 ⟨"StreamWatch$Search", "dropBases", "(LStreamWatch$Option;I)V"⟩ ∈ zTb := zin3 (List.mem_of_getElem? (i := 21) rfl) rfl
theorem z3_23 : Cond.instanceMethod ⟨"StreamWatch$Search", "dropBases", "(LStreamWatch$Option;I)V"⟩ ∈ zTb := zin3 (List.mem_of_getElem? (i := 23) rfl) rfl
theorem z3_24 : Cond.code ⟨"StreamWatch$Search", "dropBases", "(LStreamWatch$Option;I)V"⟩ prog_9_method_4_code 5 (Option.none : Option FieldType) ∈ zTb := zin3 (List.mem_of_getElem? (i := 24) rfl) rfl
theorem z3_25 : Cond.methodLink "StreamWatch$Search" 56 ⟨"StreamWatch$Marks", "isAnyIn", "(II)Z"⟩ ∈ zTb := zin3 (List.mem_of_getElem? (i := 25) rfl) rfl
theorem z3_26 : Cond.instanceMethod ⟨"StreamWatch$Marks", "isAnyIn", "(II)Z"⟩ ∈ zTb := zin3 (List.mem_of_getElem? (i := 26) rfl) rfl
theorem z3_27 : Cond.selects "StreamWatch$Marks" ⟨"StreamWatch$Marks", "isAnyIn", "(II)Z"⟩ ⟨"StreamWatch$Marks", "isAnyIn", "(II)Z"⟩ ∈ zTb := zin3 (List.mem_of_getElem? (i := 27) rfl) rfl
theorem z3_28 : Cond.code ⟨"StreamWatch$Marks", "isAnyIn", "(II)Z"⟩ prog_5_method_6_code 4 (Option.some FieldType.boolean) ∈ zTb := zin3 (List.mem_of_getElem? (i := 28) rfl) rfl
theorem z3_29 : Cond.methodLink "StreamWatch$Marks" 31 ⟨"java/lang/Math", "min", "(II)I"⟩ ∈ zTb := zin3 (List.mem_of_getElem? (i := 29) rfl) rfl
theorem z3_30 : Cond.static ⟨"java/lang/Math", "min", "(II)I"⟩ ∈ zTb := zin3 (List.mem_of_getElem? (i := 30) rfl) rfl
theorem z3_31 : Cond.code ⟨"java/lang/Math", "min", "(II)I"⟩ prog_17_method_69_code 2 (Option.some FieldType.int) ∈ zTb := zin3 (List.mem_of_getElem? (i := 31) rfl) rfl
theorem z3_32 : Cond.methodLink "StreamWatch$Marks" 37 ⟨"java/lang/Math", "max", "(II)I"⟩ ∈ zTb := zin3 (List.mem_of_getElem? (i := 32) rfl) rfl
theorem z3_33 : Cond.static ⟨"java/lang/Math", "max", "(II)I"⟩ ∈ zTb := zin3 (List.mem_of_getElem? (i := 33) rfl) rfl
theorem z3_34 : Cond.code ⟨"java/lang/Math", "max", "(II)I"⟩ prog_17_method_65_code 2 (Option.some FieldType.int) ∈ zTb := zin3 (List.mem_of_getElem? (i := 34) rfl) rfl
theorem z3_35 : Cond.methodLink "StreamWatch$Search" 50 ⟨"StreamWatch$Search", "moveBases", "(LStreamWatch$Option;I)V"⟩ ∈ zTb := zin3 (List.mem_of_getElem? (i := 35) rfl) rfl
theorem z3_37 : Cond.instanceMethod ⟨"StreamWatch$Search", "moveBases", "(LStreamWatch$Option;I)V"⟩ ∈ zTb := zin3 (List.mem_of_getElem? (i := 37) rfl) rfl
theorem z3_38 : Cond.code ⟨"StreamWatch$Search", "moveBases", "(LStreamWatch$Option;I)V"⟩ prog_9_method_5_code 6 (Option.none : Option FieldType) ∈ zTb := zin3 (List.mem_of_getElem? (i := 38) rfl) rfl
theorem z3_39 : Cond.methodLink "StreamWatch$Search" 80 ⟨"StreamWatch$Marks", "has", "(I)Z"⟩ ∈ zTb := zin3 (List.mem_of_getElem? (i := 39) rfl) rfl
theorem z3_40 : Cond.instanceMethod ⟨"StreamWatch$Marks", "has", "(I)Z"⟩ ∈ zTb := zin3 (List.mem_of_getElem? (i := 40) rfl) rfl
theorem z3_41 : Cond.selects "StreamWatch$Marks" ⟨"StreamWatch$Marks", "has", "(I)Z"⟩ ⟨"StreamWatch$Marks", "has", "(I)Z"⟩ ∈ zTb := zin3 (List.mem_of_getElem? (i := 41) rfl) rfl
theorem z3_42 : Cond.code ⟨"StreamWatch$Marks", "has", "(I)Z"⟩ prog_5_method_4_code 2 (Option.some FieldType.boolean) ∈ zTb := zin3 (List.mem_of_getElem? (i := 42) rfl) rfl
theorem z3_43 : Cond.methodLink "StreamWatch" 286 ⟨"StreamWatch$Stream", "setRaised", "(I)V"⟩ ∈ zTb := zin3 (List.mem_of_getElem? (i := 43) rfl) rfl
theorem z3_44 : Cond.instanceMethod ⟨"StreamWatch$Stream", "setRaised", "(I)V"⟩ ∈ zTb := zin3 (List.mem_of_getElem? (i := 44) rfl) rfl
theorem z3_45 : Cond.selects "StreamWatch$Stream" ⟨"StreamWatch$Stream", "setRaised", "(I)V"⟩ ⟨"StreamWatch$Stream", "setRaised", "(I)V"⟩ ∈ zTb := zin3 (List.mem_of_getElem? (i := 45) rfl) rfl
theorem z3_46 : Cond.code ⟨"StreamWatch$Stream", "setRaised", "(I)V"⟩ prog_10_method_14_code 2 (Option.none : Option FieldType) ∈ zTb := zin3 (List.mem_of_getElem? (i := 46) rfl) rfl
theorem z3_47 : Cond.methodLink "StreamWatch" 200 ⟨"StreamWatch$Stream", "size", "()I"⟩ ∈ zTb := zin3 (List.mem_of_getElem? (i := 47) rfl) rfl
theorem z3_48 : Cond.methodLink "StreamWatch" 289 ⟨"StreamWatch$AlertLog", "add", "(IIII)V"⟩ ∈ zTb := zin3 (List.mem_of_getElem? (i := 48) rfl) rfl
theorem z3_49 : Cond.instanceMethod ⟨"StreamWatch$AlertLog", "add", "(IIII)V"⟩ ∈ zTb := zin3 (List.mem_of_getElem? (i := 49) rfl) rfl
theorem z3_50 : Cond.selects "StreamWatch$AlertLog" ⟨"StreamWatch$AlertLog", "add", "(IIII)V"⟩ ⟨"StreamWatch$AlertLog", "add", "(IIII)V"⟩ ∈ zTb := zin3 (List.mem_of_getElem? (i := 50) rfl) rfl
theorem z3_51 : Cond.code ⟨"StreamWatch$AlertLog", "add", "(IIII)V"⟩ prog_2_method_3_code 6 (Option.none : Option FieldType) ∈ zTb := zin3 (List.mem_of_getElem? (i := 51) rfl) rfl
theorem z3_52 : Cond.methodLink "StreamWatch" 203 ⟨"StreamWatch$Stream", "next", "()I"⟩ ∈ zTb := zin3 (List.mem_of_getElem? (i := 52) rfl) rfl
theorem z3_53 : Cond.instanceMethod ⟨"StreamWatch$Stream", "next", "()I"⟩ ∈ zTb := zin3 (List.mem_of_getElem? (i := 53) rfl) rfl
theorem z3_54 : Cond.selects "StreamWatch$Stream" ⟨"StreamWatch$Stream", "next", "()I"⟩ ⟨"StreamWatch$Stream", "next", "()I"⟩ ∈ zTb := zin3 (List.mem_of_getElem? (i := 54) rfl) rfl
theorem z3_55 : Cond.code ⟨"StreamWatch$Stream", "next", "()I"⟩ prog_10_method_10_code 1 (Option.some FieldType.int) ∈ zTb := zin3 (List.mem_of_getElem? (i := 55) rfl) rfl
theorem z3_56 : Cond.methodLink "StreamWatch" 263 ⟨"StreamWatch$Stream", "end", "()V"⟩ ∈ zTb := zin3 (List.mem_of_getElem? (i := 56) rfl) rfl
theorem z3_57 : Cond.instanceMethod ⟨"StreamWatch$Stream", "end", "()V"⟩ ∈ zTb := zin3 (List.mem_of_getElem? (i := 57) rfl) rfl
theorem z3_58 : Cond.selects "StreamWatch$Stream" ⟨"StreamWatch$Stream", "end", "()V"⟩ ⟨"StreamWatch$Stream", "end", "()V"⟩ ∈ zTb := zin3 (List.mem_of_getElem? (i := 58) rfl) rfl
theorem z3_59 : Cond.code ⟨"StreamWatch$Stream", "end", "()V"⟩ prog_10_method_7_code 1 (Option.none : Option FieldType) ∈ zTb := zin3 (List.mem_of_getElem? (i := 59) rfl) rfl
theorem z3_60 : Cond.methodLink "StreamWatch" 266 ⟨"StreamWatch$Flow", "freeIfBothEnded", "()V"⟩ ∈ zTb := zin3 (List.mem_of_getElem? (i := 60) rfl) rfl
theorem z3_61 : Cond.instanceMethod ⟨"StreamWatch$Flow", "freeIfBothEnded", "()V"⟩ ∈ zTb := zin3 (List.mem_of_getElem? (i := 61) rfl) rfl
theorem z3_62 : Cond.selects "StreamWatch$Flow" ⟨"StreamWatch$Flow", "freeIfBothEnded", "()V"⟩ ⟨"StreamWatch$Flow", "freeIfBothEnded", "()V"⟩ ∈ zTb := zin3 (List.mem_of_getElem? (i := 62) rfl) rfl
theorem z3_63 : Cond.code ⟨"StreamWatch$Flow", "freeIfBothEnded", "()V"⟩ prog_3_method_5_code 1 (Option.none : Option FieldType) ∈ zTb := zin3 (List.mem_of_getElem? (i := 63) rfl) rfl
theorem z3_64 : Cond.methodLink "StreamWatch$Flow" 58 ⟨"StreamWatch$Stream", "hasEnded", "()Z"⟩ ∈ zTb := zin3 (List.mem_of_getElem? (i := 64) rfl) rfl
theorem z3_65 : Cond.instanceMethod ⟨"StreamWatch$Stream", "hasEnded", "()Z"⟩ ∈ zTb := zin3 (List.mem_of_getElem? (i := 65) rfl) rfl
theorem z3_66 : Cond.selects "StreamWatch$Stream" ⟨"StreamWatch$Stream", "hasEnded", "()Z"⟩ ⟨"StreamWatch$Stream", "hasEnded", "()Z"⟩ ∈ zTb := zin3 (List.mem_of_getElem? (i := 66) rfl) rfl
theorem z3_67 : Cond.code ⟨"StreamWatch$Stream", "hasEnded", "()Z"⟩ prog_10_method_8_code 1 (Option.some FieldType.boolean) ∈ zTb := zin3 (List.mem_of_getElem? (i := 67) rfl) rfl
theorem z3_68 : Cond.methodLink "StreamWatch$Flow" 62 ⟨"StreamWatch$Flow", "free", "()V"⟩ ∈ zTb := zin3 (List.mem_of_getElem? (i := 68) rfl) rfl
theorem z3_69 : Cond.methodLink "StreamWatchLaw" 83 ⟨"StreamWatch", "flow", "(II)I"⟩ ∈ zTb := zin3 (List.mem_of_getElem? (i := 69) rfl) rfl
theorem z3_70 : Cond.instanceMethod ⟨"StreamWatch", "flow", "(II)I"⟩ ∈ zTb := zin3 (List.mem_of_getElem? (i := 70) rfl) rfl
theorem z3_71 : Cond.selects "StreamWatch" ⟨"StreamWatch", "flow", "(II)I"⟩ ⟨"StreamWatch", "flow", "(II)I"⟩ ∈ zTb := zin3 (List.mem_of_getElem? (i := 71) rfl) rfl
theorem z3_72 : Cond.code ⟨"StreamWatch", "flow", "(II)I"⟩ prog_1_method_11_code 4 (Option.some FieldType.int) ∈ zTb := zin3 (List.mem_of_getElem? (i := 72) rfl) rfl
theorem z3_73 : Cond.methodLink "StreamWatch" 177 ⟨"StreamWatch$FlowTable", "at", "(I)LStreamWatch$Flow;"⟩ ∈ zTb := zin3 (List.mem_of_getElem? (i := 73) rfl) rfl
theorem z3_74 : Cond.methodLink "StreamWatch" 192 ⟨"StreamWatch$FlowTable", "heardAfter", "(LStreamWatch$Flow;)I"⟩ ∈ zTb := zin3 (List.mem_of_getElem? (i := 74) rfl) rfl
theorem z3_75 : Cond.instanceMethod ⟨"StreamWatch$FlowTable", "heardAfter", "(LStreamWatch$Flow;)I"⟩ ∈ zTb := zin3 (List.mem_of_getElem? (i := 75) rfl) rfl
theorem z3_76 : Cond.selects "StreamWatch$FlowTable" ⟨"StreamWatch$FlowTable", "heardAfter", "(LStreamWatch$Flow;)I"⟩ ⟨"StreamWatch$FlowTable", "heardAfter", "(LStreamWatch$Flow;)I"⟩ ∈ zTb := zin3 (List.mem_of_getElem? (i := 76) rfl) rfl
theorem z3_77 : Cond.code ⟨"StreamWatch$FlowTable", "heardAfter", "(LStreamWatch$Flow;)I"⟩ prog_4_method_6_code 5 (Option.some FieldType.int) ∈ zTb := zin3 (List.mem_of_getElem? (i := 77) rfl) rfl
theorem z3_78 : Cond.methodLink "StreamWatchLaw" 87 ⟨"StreamWatch", "stream", "(III)I"⟩ ∈ zTb := zin3 (List.mem_of_getElem? (i := 78) rfl) rfl
theorem z3_79 : Cond.instanceMethod ⟨"StreamWatch", "stream", "(III)I"⟩ ∈ zTb := zin3 (List.mem_of_getElem? (i := 79) rfl) rfl
theorem z3_80 : Cond.selects "StreamWatch" ⟨"StreamWatch", "stream", "(III)I"⟩ ⟨"StreamWatch", "stream", "(III)I"⟩ ∈ zTb := zin3 (List.mem_of_getElem? (i := 80) rfl) rfl
theorem z3_81 : Cond.code ⟨"StreamWatch", "stream", "(III)I"⟩ prog_1_method_12_code 5 (Option.some FieldType.int) ∈ zTb := zin3 (List.mem_of_getElem? (i := 81) rfl) rfl
theorem z3_82 : Cond.methodLink "StreamWatch" 196 ⟨"StreamWatch", "streamAt", "(II)LStreamWatch$Stream;"⟩ ∈ zTb := zin3 (List.mem_of_getElem? (i := 82) rfl) rfl
theorem z3_84 : Cond.instanceMethod ⟨"StreamWatch", "streamAt", "(II)LStreamWatch$Stream;"⟩ ∈ zTb := zin3 (List.mem_of_getElem? (i := 84) rfl) rfl
theorem z3_85 : Cond.code ⟨"StreamWatch", "streamAt", "(II)LStreamWatch$Stream;"⟩ prog_1_method_23_code 4 (Option.some (FieldType.object "StreamWatch$Stream")) ∈ zTb := zin3 (List.mem_of_getElem? (i := 85) rfl) rfl
theorem z3_86 : Cond.methodLink "StreamWatch" 206 ⟨"StreamWatch$Stream", "heldCount", "()I"⟩ ∈ zTb := zin3 (List.mem_of_getElem? (i := 86) rfl) rfl
theorem z3_87 : Cond.instanceMethod ⟨"StreamWatch$Stream", "heldCount", "()I"⟩ ∈ zTb := zin3 (List.mem_of_getElem? (i := 87) rfl) rfl
theorem z3_88 : Cond.selects "StreamWatch$Stream" ⟨"StreamWatch$Stream", "heldCount", "()I"⟩ ⟨"StreamWatch$Stream", "heldCount", "()I"⟩ ∈ zTb := zin3 (List.mem_of_getElem? (i := 88) rfl) rfl
theorem z3_89 : Cond.code ⟨"StreamWatch$Stream", "heldCount", "()I"⟩ prog_10_method_11_code 1 (Option.some FieldType.int) ∈ zTb := zin3 (List.mem_of_getElem? (i := 89) rfl) rfl
theorem z3_90 : Cond.methodLink "StreamWatch" 209 ⟨"StreamWatch$Stream", "hasEnded", "()Z"⟩ ∈ zTb := zin3 (List.mem_of_getElem? (i := 90) rfl) rfl
theorem z3_91 : Cond.methodLink "StreamWatchLaw" 92 ⟨"StreamWatch", "text", "(III)I"⟩ ∈ zTb := zin3 (List.mem_of_getElem? (i := 91) rfl) rfl
theorem z3_92 : Cond.instanceMethod ⟨"StreamWatch", "text", "(III)I"⟩ ∈ zTb := zin3 (List.mem_of_getElem? (i := 92) rfl) rfl
theorem z3_93 : Cond.selects "StreamWatch" ⟨"StreamWatch", "text", "(III)I"⟩ ⟨"StreamWatch", "text", "(III)I"⟩ ∈ zTb := zin3 (List.mem_of_getElem? (i := 93) rfl) rfl
theorem z3_94 : Cond.code ⟨"StreamWatch", "text", "(III)I"⟩ prog_1_method_13_code 5 (Option.some FieldType.int) ∈ zTb := zin3 (List.mem_of_getElem? (i := 94) rfl) rfl
theorem z3_95 : Cond.methodLink "StreamWatch" 213 ⟨"StreamWatch$Stream", "byteAt", "(I)I"⟩ ∈ zTb := zin3 (List.mem_of_getElem? (i := 95) rfl) rfl
theorem z3_96 : Cond.methodLink "StreamWatchLaw" 96 ⟨"StreamWatch", "alerts", "()I"⟩ ∈ zTb := zin3 (List.mem_of_getElem? (i := 96) rfl) rfl
theorem z3_97 : Cond.instanceMethod ⟨"StreamWatch", "alerts", "()I"⟩ ∈ zTb := zin3 (List.mem_of_getElem? (i := 97) rfl) rfl
theorem z3_98 : Cond.selects "StreamWatch" ⟨"StreamWatch", "alerts", "()I"⟩ ⟨"StreamWatch", "alerts", "()I"⟩ ∈ zTb := zin3 (List.mem_of_getElem? (i := 98) rfl) rfl
theorem z3_99 : Cond.code ⟨"StreamWatch", "alerts", "()I"⟩ prog_1_method_14_code 1 (Option.some FieldType.int) ∈ zTb := zin3 (List.mem_of_getElem? (i := 99) rfl) rfl
theorem z3_100 : Cond.methodLink "StreamWatchLaw" 100 ⟨"StreamWatch", "alert", "(II)I"⟩ ∈ zTb := zin3 (List.mem_of_getElem? (i := 100) rfl) rfl
theorem z3_101 : Cond.instanceMethod ⟨"StreamWatch", "alert", "(II)I"⟩ ∈ zTb := zin3 (List.mem_of_getElem? (i := 101) rfl) rfl
theorem z3_102 : Cond.selects "StreamWatch" ⟨"StreamWatch", "alert", "(II)I"⟩ ⟨"StreamWatch", "alert", "(II)I"⟩ ∈ zTb := zin3 (List.mem_of_getElem? (i := 102) rfl) rfl
theorem z3_103 : Cond.code ⟨"StreamWatch", "alert", "(II)I"⟩ prog_1_method_15_code 3 (Option.some FieldType.int) ∈ zTb := zin3 (List.mem_of_getElem? (i := 103) rfl) rfl
theorem z3_104 : Cond.methodLink "StreamWatch" 216 ⟨"StreamWatch$AlertLog", "read", "(II)I"⟩ ∈ zTb := zin3 (List.mem_of_getElem? (i := 104) rfl) rfl
theorem z3_105 : Cond.instanceMethod ⟨"StreamWatch$AlertLog", "read", "(II)I"⟩ ∈ zTb := zin3 (List.mem_of_getElem? (i := 105) rfl) rfl
theorem z3_106 : Cond.selects "StreamWatch$AlertLog" ⟨"StreamWatch$AlertLog", "read", "(II)I"⟩ ⟨"StreamWatch$AlertLog", "read", "(II)I"⟩ ∈ zTb := zin3 (List.mem_of_getElem? (i := 106) rfl) rfl
theorem z3_107 : Cond.code ⟨"StreamWatch$AlertLog", "read", "(II)I"⟩ prog_2_method_4_code 5 (Option.some FieldType.int) ∈ zTb := zin3 (List.mem_of_getElem? (i := 107) rfl) rfl
theorem z3_108 : Cond.methodLink "StreamWatch$AlertLog" 22 ⟨"java/lang/Math", "min", "(II)I"⟩ ∈ zTb := zin3 (List.mem_of_getElem? (i := 108) rfl) rfl
theorem z3_109 : Cond.methodLink "StreamWatchLaw" 25 ⟨"StreamWatchLaw", "cell", "([II)I"⟩ ∈ zTb := zin3 (List.mem_of_getElem? (i := 109) rfl) rfl
theorem z3_110 : Cond.static ⟨"StreamWatchLaw", "cell", "([II)I"⟩ ∈ zTb := zin3 (List.mem_of_getElem? (i := 110) rfl) rfl
theorem z3_111 : Cond.code ⟨"StreamWatchLaw", "cell", "([II)I"⟩ method_2_code 2 (Option.some FieldType.int) ∈ zTb := zin3 (List.mem_of_getElem? (i := 111) rfl) rfl
theorem z3_112 : Cond.methodLink "StreamWatchLaw" 39 ⟨"StreamWatchLaw", "craft", "(LStreamWatch;IIIIIJ[J)I"⟩ ∈ zTb := zin3 (List.mem_of_getElem? (i := 112) rfl) rfl
theorem z3_113 : Cond.static ⟨"StreamWatchLaw", "craft", "(LStreamWatch;IIIIIJ[J)I"⟩ ∈ zTb := zin3 (List.mem_of_getElem? (i := 113) rfl) rfl
theorem z3_115 : Cond.classLink "StreamWatchLaw" 13 "java/lang/IllegalArgumentException" ∈ zTb := zin3 (List.mem_of_getElem? (i := 115) rfl) rfl
theorem z3_116 : Cond.methodLink "StreamWatchLaw" 7 ⟨"StreamWatch", "craft", "(IIIIIJ)I"⟩ ∈ zTb := zin3 (List.mem_of_getElem? (i := 116) rfl) rfl
theorem z3_117 : Cond.instanceMethod ⟨"StreamWatch", "craft", "(IIIIIJ)I"⟩ ∈ zTb := zin3 (List.mem_of_getElem? (i := 117) rfl) rfl
theorem z3_118 : Cond.selects "StreamWatch" ⟨"StreamWatch", "craft", "(IIIIIJ)I"⟩ ⟨"StreamWatch", "craft", "(IIIIIJ)I"⟩ ∈ zTb := zin3 (List.mem_of_getElem? (i := 118) rfl) rfl
theorem z3_119 : Cond.code ⟨"StreamWatch", "craft", "(IIIIIJ)I"⟩ prog_1_method_2_code 8 (Option.some FieldType.int) ∈ zTb := zin3 (List.mem_of_getElem? (i := 119) rfl) rfl
theorem z3_120 : Cond.classLink "StreamWatch" 58 "java/lang/IllegalArgumentException" ∈ zTb := zin3 (List.mem_of_getElem? (i := 120) rfl) rfl
theorem z3_121 : Cond.instantiable "java/lang/IllegalArgumentException" 6 ∈ zTb := zin3 (List.mem_of_getElem? (i := 121) rfl) rfl
theorem z3_129 : Cond.selects "java/lang/IllegalArgumentException" ⟨"java/lang/Throwable", "fillInStackTrace", "(I)Ljava/lang/Throwable;"⟩ ⟨"java/lang/Throwable", "fillInStackTrace", "(I)Ljava/lang/Throwable;"⟩ ∈ zTb := zin3 (List.mem_of_getElem? (i := 129) rfl) rfl
theorem z3_130 : Cond.selects "java/lang/IllegalArgumentException" ⟨"java/lang/Throwable", "fillInStackTrace", "()Ljava/lang/Throwable;"⟩ ⟨"java/lang/Throwable", "fillInStackTrace", "()Ljava/lang/Throwable;"⟩ ∈ zTb := zin3 (List.mem_of_getElem? (i := 130) rfl) rfl
theorem z3_131 : Cond.lays "java/lang/IllegalArgumentException" "java/lang/Throwable" "cause" "Ljava/lang/Throwable;" ∈ zTb := zin3 (List.mem_of_getElem? (i := 131) rfl) rfl
theorem z3_132 : Cond.lays "java/lang/Throwable" "java/lang/Throwable" "cause" "Ljava/lang/Throwable;" ∈ zTb := zin3 (List.mem_of_getElem? (i := 132) rfl) rfl
theorem z3_133 : Cond.lays "java/lang/IllegalArgumentException" "java/lang/Throwable" "stackTrace" "[Ljava/lang/StackTraceElement;" ∈ zTb := zin3 (List.mem_of_getElem? (i := 133) rfl) rfl
theorem z3_134 : Cond.lays "java/lang/Throwable" "java/lang/Throwable" "stackTrace" "[Ljava/lang/StackTraceElement;" ∈ zTb := zin3 (List.mem_of_getElem? (i := 134) rfl) rfl
theorem z3_135 : Cond.lays "java/lang/IllegalArgumentException" "java/lang/Throwable" "suppressedExceptions" "Ljava/util/List;" ∈ zTb := zin3 (List.mem_of_getElem? (i := 135) rfl) rfl
theorem z3_136 : Cond.lays "java/lang/Throwable" "java/lang/Throwable" "suppressedExceptions" "Ljava/util/List;" ∈ zTb := zin3 (List.mem_of_getElem? (i := 136) rfl) rfl
theorem z3_137 : Cond.lays "java/lang/IllegalArgumentException" "java/lang/Throwable" "detailMessage" "Ljava/lang/String;" ∈ zTb := zin3 (List.mem_of_getElem? (i := 137) rfl) rfl
theorem z3_138 : Cond.lays "java/lang/Throwable" "java/lang/Throwable" "detailMessage" "Ljava/lang/String;" ∈ zTb := zin3 (List.mem_of_getElem? (i := 138) rfl) rfl
theorem z3_139 : Cond.lays "java/lang/IllegalArgumentException" "java/lang/Throwable" "backtrace" "Ljava/lang/Object;" ∈ zTb := zin3 (List.mem_of_getElem? (i := 139) rfl) rfl
theorem z3_140 : Cond.lays "java/lang/Throwable" "java/lang/Throwable" "backtrace" "Ljava/lang/Object;" ∈ zTb := zin3 (List.mem_of_getElem? (i := 140) rfl) rfl
theorem z3_141 : Cond.fieldLink "java/lang/Throwable" 198 "java/lang/Throwable" "backtrace" "Ljava/lang/Object;" ∈ zTb := zin3 (List.mem_of_getElem? (i := 141) rfl) rfl
theorem z3_143 : Cond.instanceMethod ⟨"java/lang/Throwable", "<init>", "()V"⟩ ∈ zTb := zin3 (List.mem_of_getElem? (i := 143) rfl) rfl
theorem z3_144 : Cond.code ⟨"java/lang/Throwable", "<init>", "()V"⟩ prog_20_method_1_code 1 (Option.none : Option FieldType) ∈ zTb := zin3 (List.mem_of_getElem? (i := 144) rfl) rfl
theorem z3_145 : Cond.methodLink "java/lang/Throwable" 1 ⟨"java/lang/Object", "<init>", "()V"⟩ ∈ zTb := zin3 (List.mem_of_getElem? (i := 145) rfl) rfl
theorem z3_146 : Cond.fieldLink "java/lang/Throwable" 13 "java/lang/Throwable" "UNASSIGNED_STACK" "[Ljava/lang/StackTraceElement;" ∈ zTb := zin3 (List.mem_of_getElem? (i := 146) rfl) rfl
theorem z3_148 : Cond.fieldLink "java/lang/Throwable" 20 "java/lang/Throwable" "SUPPRESSED_SENTINEL" "Ljava/util/List;" ∈ zTb := zin3 (List.mem_of_getElem? (i := 148) rfl) rfl
theorem z3_150 : Cond.methodLink "java/lang/Throwable" 27 ⟨"java/lang/Throwable", "fillInStackTrace", "()Ljava/lang/Throwable;"⟩ ∈ zTb := zin3 (List.mem_of_getElem? (i := 150) rfl) rfl
theorem z3_151 : Cond.instanceMethod ⟨"java/lang/Throwable", "fillInStackTrace", "()Ljava/lang/Throwable;"⟩ ∈ zTb := zin3 (List.mem_of_getElem? (i := 151) rfl) rfl
theorem z3_153 : Cond.selects "java/lang/IllegalStateException" ⟨"java/lang/Throwable", "fillInStackTrace", "()Ljava/lang/Throwable;"⟩ ⟨"java/lang/Throwable", "fillInStackTrace", "()Ljava/lang/Throwable;"⟩ ∈ zTb := zin3 (List.mem_of_getElem? (i := 153) rfl) rfl
theorem z3_155 : Cond.methodLink "java/lang/Throwable" 202 ⟨"java/lang/Throwable", "fillInStackTrace", "(I)Ljava/lang/Throwable;"⟩ ∈ zTb := zin3 (List.mem_of_getElem? (i := 155) rfl) rfl
theorem z3_157 : Cond.instanceMethod ⟨"java/lang/Throwable", "fillInStackTrace", "(I)Ljava/lang/Throwable;"⟩ ∈ zTb := zin3 (List.mem_of_getElem? (i := 157) rfl) rfl
theorem z3_158 : Cond.instantiable "java/lang/Throwable" 6 ∈ zTb := zin3 (List.mem_of_getElem? (i := 158) rfl) rfl
theorem z3_161 : Cond.methodLink "StreamWatch" 62 ⟨"java/lang/IllegalArgumentException", "<init>", "(Ljava/lang/String;)V"⟩ ∈ zTb := zin3 (List.mem_of_getElem? (i := 161) rfl) rfl
theorem z3_162 : Cond.instanceMethod ⟨"java/lang/IllegalArgumentException", "<init>", "(Ljava/lang/String;)V"⟩ ∈ zTb := zin3 (List.mem_of_getElem? (i := 162) rfl) rfl
theorem z3_163 : Cond.code ⟨"java/lang/IllegalArgumentException", "<init>", "(Ljava/lang/String;)V"⟩ prog_15_method_2_code 2 (Option.none : Option FieldType) ∈ zTb := zin3 (List.mem_of_getElem? (i := 163) rfl) rfl
theorem z3_164 : Cond.methodLink "java/lang/IllegalArgumentException" 7 ⟨"java/lang/RuntimeException", "<init>", "(Ljava/lang/String;)V"⟩ ∈ zTb := zin3 (List.mem_of_getElem? (i := 164) rfl) rfl
theorem z3_165 : Cond.instanceMethod ⟨"java/lang/RuntimeException", "<init>", "(Ljava/lang/String;)V"⟩ ∈ zTb := zin3 (List.mem_of_getElem? (i := 165) rfl) rfl
theorem z3_166 : Cond.code ⟨"java/lang/RuntimeException", "<init>", "(Ljava/lang/String;)V"⟩ prog_18_method_2_code 2 (Option.none : Option FieldType) ∈ zTb := zin3 (List.mem_of_getElem? (i := 166) rfl) rfl
theorem z3_167 : Cond.methodLink "java/lang/RuntimeException" 7 ⟨"java/lang/Exception", "<init>", "(Ljava/lang/String;)V"⟩ ∈ zTb := zin3 (List.mem_of_getElem? (i := 167) rfl) rfl
theorem z3_168 : Cond.instanceMethod ⟨"java/lang/Exception", "<init>", "(Ljava/lang/String;)V"⟩ ∈ zTb := zin3 (List.mem_of_getElem? (i := 168) rfl) rfl
theorem z3_169 : Cond.code ⟨"java/lang/Exception", "<init>", "(Ljava/lang/String;)V"⟩ prog_14_method_2_code 2 (Option.none : Option FieldType) ∈ zTb := zin3 (List.mem_of_getElem? (i := 169) rfl) rfl
theorem z3_170 : Cond.methodLink "java/lang/Exception" 7 ⟨"java/lang/Throwable", "<init>", "(Ljava/lang/String;)V"⟩ ∈ zTb := zin3 (List.mem_of_getElem? (i := 170) rfl) rfl
theorem z3_171 : Cond.instanceMethod ⟨"java/lang/Throwable", "<init>", "(Ljava/lang/String;)V"⟩ ∈ zTb := zin3 (List.mem_of_getElem? (i := 171) rfl) rfl
theorem z3_172 : Cond.code ⟨"java/lang/Throwable", "<init>", "(Ljava/lang/String;)V"⟩ prog_20_method_2_code 2 (Option.none : Option FieldType) ∈ zTb := zin3 (List.mem_of_getElem? (i := 172) rfl) rfl
theorem z3_173 : Cond.fieldLink "java/lang/Throwable" 198 "java/lang/Throwable" "backtrace" "Ljava/lang/Object;" ∈ zTb := zin3 (List.mem_of_getElem? (i := 173) rfl) rfl
theorem z3_174 : Cond.fieldLink "java/lang/Throwable" 31 "java/lang/Throwable" "detailMessage" "Ljava/lang/String;" ∈ zTb := zin3 (List.mem_of_getElem? (i := 174) rfl) rfl
theorem z3_175 : Cond.fieldLink "java/lang/Throwable" 7 "java/lang/Throwable" "cause" "Ljava/lang/Throwable;" ∈ zTb := zin3 (List.mem_of_getElem? (i := 175) rfl) rfl
theorem z3_176 : Cond.fieldLink "java/lang/Throwable" 17 "java/lang/Throwable" "stackTrace" "[Ljava/lang/StackTraceElement;" ∈ zTb := zin3 (List.mem_of_getElem? (i := 176) rfl) rfl
theorem z3_177 : Cond.fieldLink "java/lang/Throwable" 24 "java/lang/Throwable" "suppressedExceptions" "Ljava/util/List;" ∈ zTb := zin3 (List.mem_of_getElem? (i := 177) rfl) rfl
theorem z3_182 : Cond.lays "java/lang/IllegalArgumentException" "java/lang/Throwable" "depth" "I" ∈ zTb := zin3 (List.mem_of_getElem? (i := 182) rfl) rfl
theorem z3_186 : Cond.arrayClass FieldType.byte ∈ zTb := zin3 (List.mem_of_getElem? (i := 186) rfl) rfl
theorem z3_189 : Cond.methodLink "StreamWatch" 72 ⟨"StreamWatch", "writeIpHeader", "(III)V"⟩ ∈ zTb := zin3 (List.mem_of_getElem? (i := 189) rfl) rfl
theorem z3_191 : Cond.instanceMethod ⟨"StreamWatch", "writeIpHeader", "(III)V"⟩ ∈ zTb := zin3 (List.mem_of_getElem? (i := 191) rfl) rfl
theorem z3_192 : Cond.code ⟨"StreamWatch", "writeIpHeader", "(III)V"⟩ prog_1_method_16_code 5 (Option.none : Option FieldType) ∈ zTb := zin3 (List.mem_of_getElem? (i := 192) rfl) rfl
theorem z3_193 : Cond.constant "StreamWatch" 219 (167772161 : Int32) ∈ zTb := zin3 (List.mem_of_getElem? (i := 193) rfl) rfl
theorem z3_194 : Cond.constantLong "StreamWatch" 220 (17664 : Int64) ∈ zTb := zin3 (List.mem_of_getElem? (i := 194) rfl) rfl
theorem z3_195 : Cond.constantLong "StreamWatch" 222 (393216 : Int64) ∈ zTb := zin3 (List.mem_of_getElem? (i := 195) rfl) rfl
theorem z3_196 : Cond.constantLong "StreamWatch" 224 (167772417 : Int64) ∈ zTb := zin3 (List.mem_of_getElem? (i := 196) rfl) rfl
theorem z3_197 : Cond.methodLink "StreamWatch" 76 ⟨"StreamWatch", "writeTcpHeader", "(IIII)V"⟩ ∈ zTb := zin3 (List.mem_of_getElem? (i := 197) rfl) rfl
theorem z3_199 : Cond.instanceMethod ⟨"StreamWatch", "writeTcpHeader", "(IIII)V"⟩ ∈ zTb := zin3 (List.mem_of_getElem? (i := 199) rfl) rfl
theorem z3_200 : Cond.code ⟨"StreamWatch", "writeTcpHeader", "(IIII)V"⟩ prog_1_method_17_code 6 (Option.none : Option FieldType) ∈ zTb := zin3 (List.mem_of_getElem? (i := 200) rfl) rfl
theorem z3_201 : Cond.constantLong "StreamWatch" 226 (80 : Int64) ∈ zTb := zin3 (List.mem_of_getElem? (i := 201) rfl) rfl
theorem z3_202 : Cond.methodLink "StreamWatchLaw" 75 ⟨"StreamWatchLaw", "rule", "(LStreamWatch;II[J)I"⟩ ∈ zTb := zin3 (List.mem_of_getElem? (i := 202) rfl) rfl
theorem z3_203 : Cond.static ⟨"StreamWatchLaw", "rule", "(LStreamWatch;II[J)I"⟩ ∈ zTb := zin3 (List.mem_of_getElem? (i := 203) rfl) rfl
theorem z3_205 : Cond.classLink "StreamWatchLaw" 19 "java/lang/IllegalStateException" ∈ zTb := zin3 (List.mem_of_getElem? (i := 205) rfl) rfl
theorem z3_206 : Cond.methodLink "StreamWatchLaw" 15 ⟨"StreamWatch", "rule", "(II)I"⟩ ∈ zTb := zin3 (List.mem_of_getElem? (i := 206) rfl) rfl
theorem z3_207 : Cond.instanceMethod ⟨"StreamWatch", "rule", "(II)I"⟩ ∈ zTb := zin3 (List.mem_of_getElem? (i := 207) rfl) rfl
theorem z3_208 : Cond.selects "StreamWatch" ⟨"StreamWatch", "rule", "(II)I"⟩ ⟨"StreamWatch", "rule", "(II)I"⟩ ∈ zTb := zin3 (List.mem_of_getElem? (i := 208) rfl) rfl
theorem z3_209 : Cond.code ⟨"StreamWatch", "rule", "(II)I"⟩ prog_1_method_9_code 3 (Option.some FieldType.int) ∈ zTb := zin3 (List.mem_of_getElem? (i := 209) rfl) rfl
theorem z3_211 : Cond.constant "StreamWatch" 140 (65535 : Int32) ∈ zTb := zin3 (List.mem_of_getElem? (i := 211) rfl) rfl
theorem z3_213 : Cond.classLink "StreamWatch" 143 "java/lang/IllegalStateException" ∈ zTb := zin3 (List.mem_of_getElem? (i := 213) rfl) rfl
theorem z3_214 : Cond.instantiable "java/lang/IllegalStateException" 6 ∈ zTb := zin3 (List.mem_of_getElem? (i := 214) rfl) rfl
theorem z3_216 : Cond.selects "java/lang/IllegalStateException" ⟨"java/lang/Throwable", "fillInStackTrace", "(I)Ljava/lang/Throwable;"⟩ ⟨"java/lang/Throwable", "fillInStackTrace", "(I)Ljava/lang/Throwable;"⟩ ∈ zTb := zin3 (List.mem_of_getElem? (i := 216) rfl) rfl
theorem z3_217 : Cond.lays "java/lang/IllegalStateException" "java/lang/Throwable" "cause" "Ljava/lang/Throwable;" ∈ zTb := zin3 (List.mem_of_getElem? (i := 217) rfl) rfl
theorem z3_218 : Cond.lays "java/lang/IllegalStateException" "java/lang/Throwable" "stackTrace" "[Ljava/lang/StackTraceElement;" ∈ zTb := zin3 (List.mem_of_getElem? (i := 218) rfl) rfl
theorem z3_219 : Cond.lays "java/lang/IllegalStateException" "java/lang/Throwable" "suppressedExceptions" "Ljava/util/List;" ∈ zTb := zin3 (List.mem_of_getElem? (i := 219) rfl) rfl
theorem z3_220 : Cond.lays "java/lang/IllegalStateException" "java/lang/Throwable" "detailMessage" "Ljava/lang/String;" ∈ zTb := zin3 (List.mem_of_getElem? (i := 220) rfl) rfl
theorem z3_221 : Cond.lays "java/lang/IllegalStateException" "java/lang/Throwable" "backtrace" "Ljava/lang/Object;" ∈ zTb := zin3 (List.mem_of_getElem? (i := 221) rfl) rfl
theorem z3_223 : Cond.methodLink "StreamWatch" 147 ⟨"java/lang/IllegalStateException", "<init>", "(Ljava/lang/String;)V"⟩ ∈ zTb := zin3 (List.mem_of_getElem? (i := 223) rfl) rfl
theorem z3_224 : Cond.instanceMethod ⟨"java/lang/IllegalStateException", "<init>", "(Ljava/lang/String;)V"⟩ ∈ zTb := zin3 (List.mem_of_getElem? (i := 224) rfl) rfl
theorem z3_225 : Cond.code ⟨"java/lang/IllegalStateException", "<init>", "(Ljava/lang/String;)V"⟩ prog_16_method_2_code 2 (Option.none : Option FieldType) ∈ zTb := zin3 (List.mem_of_getElem? (i := 225) rfl) rfl
theorem z3_226 : Cond.methodLink "java/lang/IllegalStateException" 7 ⟨"java/lang/RuntimeException", "<init>", "(Ljava/lang/String;)V"⟩ ∈ zTb := zin3 (List.mem_of_getElem? (i := 226) rfl) rfl
theorem z3_227 : Cond.lays "java/lang/IllegalStateException" "java/lang/Throwable" "depth" "I" ∈ zTb := zin3 (List.mem_of_getElem? (i := 227) rfl) rfl
theorem z3_229 : Cond.instantiable "StreamWatch$Rule" 4 ∈ zTb := zin3 (List.mem_of_getElem? (i := 229) rfl) rfl
theorem z3_230 : Cond.methodLink "StreamWatch" 148 ⟨"StreamWatch$Rule", "<init>", "(II)V"⟩ ∈ zTb := zin3 (List.mem_of_getElem? (i := 230) rfl) rfl
theorem z3_231 : Cond.instanceMethod ⟨"StreamWatch$Rule", "<init>", "(II)V"⟩ ∈ zTb := zin3 (List.mem_of_getElem? (i := 231) rfl) rfl
theorem z3_232 : Cond.code ⟨"StreamWatch$Rule", "<init>", "(II)V"⟩ prog_8_method_1_code 3 (Option.none : Option FieldType) ∈ zTb := zin3 (List.mem_of_getElem? (i := 232) rfl) rfl
theorem z3_233 : Cond.methodLink "StreamWatch$Rule" 3 ⟨"java/lang/Object", "<init>", "()V"⟩ ∈ zTb := zin3 (List.mem_of_getElem? (i := 233) rfl) rfl
theorem z3_234 : Cond.classLink "StreamWatch$Rule" 9 "StreamWatch$Option" ∈ zTb := zin3 (List.mem_of_getElem? (i := 234) rfl) rfl
theorem z3_236 : Cond.fieldLink "StreamWatch$Rule" 21 "StreamWatch$Rule" "way" "I" ∈ zTb := zin3 (List.mem_of_getElem? (i := 236) rfl) rfl
theorem z3_237 : Cond.fieldLink "StreamWatch$Rule" 24 "StreamWatch$Rule" "port" "I" ∈ zTb := zin3 (List.mem_of_getElem? (i := 237) rfl) rfl
theorem z3_238 : Cond.fieldLink "StreamWatch$Rule" 11 "StreamWatch$Rule" "options" "[LStreamWatch$Option;" ∈ zTb := zin3 (List.mem_of_getElem? (i := 238) rfl) rfl
theorem z3_239 : Cond.fieldLink "StreamWatch$Rule" 17 "StreamWatch$Rule" "count" "I" ∈ zTb := zin3 (List.mem_of_getElem? (i := 239) rfl) rfl
theorem z4_0 : Cond.laysFinal "StreamWatch$Rule" "StreamWatch$Rule" "way" "I" ∈ zTb := zin4 (List.mem_of_getElem? (i := 0) rfl) rfl
theorem z4_2 : Cond.laysFinal "StreamWatch$Rule" "StreamWatch$Rule" "port" "I" ∈ zTb := zin4 (List.mem_of_getElem? (i := 2) rfl) rfl
theorem z4_4 : Cond.laysFinal "StreamWatch$Rule" "StreamWatch$Rule" "options" "[LStreamWatch$Option;" ∈ zTb := zin4 (List.mem_of_getElem? (i := 4) rfl) rfl
theorem z4_6 : Cond.lays "StreamWatch$Rule" "StreamWatch$Rule" "count" "I" ∈ zTb := zin4 (List.mem_of_getElem? (i := 6) rfl) rfl
theorem z4_9 : Cond.methodLink "StreamWatchLaw" 79 ⟨"StreamWatchLaw", "option", "(LStreamWatch;IJIII[J)I"⟩ ∈ zTb := zin4 (List.mem_of_getElem? (i := 9) rfl) rfl
theorem z4_10 : Cond.static ⟨"StreamWatchLaw", "option", "(LStreamWatch;IJIII[J)I"⟩ ∈ zTb := zin4 (List.mem_of_getElem? (i := 10) rfl) rfl
theorem z4_12 : Cond.methodLink "StreamWatchLaw" 21 ⟨"StreamWatch", "option", "(IJIII)I"⟩ ∈ zTb := zin4 (List.mem_of_getElem? (i := 12) rfl) rfl
theorem z4_13 : Cond.instanceMethod ⟨"StreamWatch", "option", "(IJIII)I"⟩ ∈ zTb := zin4 (List.mem_of_getElem? (i := 13) rfl) rfl
theorem z4_14 : Cond.selects "StreamWatch" ⟨"StreamWatch", "option", "(IJIII)I"⟩ ⟨"StreamWatch", "option", "(IJIII)I"⟩ ∈ zTb := zin4 (List.mem_of_getElem? (i := 14) rfl) rfl
theorem z4_15 : Cond.code ⟨"StreamWatch", "option", "(IJIII)I"⟩ prog_1_method_10_code 8 (Option.some FieldType.int) ∈ zTb := zin4 (List.mem_of_getElem? (i := 15) rfl) rfl
theorem z4_21 : Cond.methodLink "StreamWatch" 165 ⟨"StreamWatch$Rule", "size", "()I"⟩ ∈ zTb := zin4 (List.mem_of_getElem? (i := 21) rfl) rfl
theorem z4_23 : Cond.classLink "StreamWatch" 168 "StreamWatch$Option" ∈ zTb := zin4 (List.mem_of_getElem? (i := 23) rfl) rfl
theorem z4_24 : Cond.methodLink "StreamWatch" 170 ⟨"StreamWatch$Option", "<init>", "(IJIII)V"⟩ ∈ zTb := zin4 (List.mem_of_getElem? (i := 24) rfl) rfl
theorem z4_25 : Cond.instanceMethod ⟨"StreamWatch$Option", "<init>", "(IJIII)V"⟩ ∈ zTb := zin4 (List.mem_of_getElem? (i := 25) rfl) rfl
theorem z4_26 : Cond.code ⟨"StreamWatch$Option", "<init>", "(IJIII)V"⟩ prog_6_method_1_code 7 (Option.none : Option FieldType) ∈ zTb := zin4 (List.mem_of_getElem? (i := 26) rfl) rfl
theorem z4_27 : Cond.methodLink "StreamWatch$Option" 3 ⟨"java/lang/Object", "<init>", "()V"⟩ ∈ zTb := zin4 (List.mem_of_getElem? (i := 27) rfl) rfl
theorem z4_28 : Cond.fieldLink "StreamWatch$Option" 23 "StreamWatch$Option" "not" "Z" ∈ zTb := zin4 (List.mem_of_getElem? (i := 28) rfl) rfl
theorem z4_29 : Cond.fieldLink "StreamWatch$Search" 40 "StreamWatch$Option" "not" "Z" ∈ zTb := zin4 (List.mem_of_getElem? (i := 29) rfl) rfl
theorem z4_30 : Cond.fieldLink "StreamWatch$Option" 26 "StreamWatch$Option" "relative" "Z" ∈ zTb := zin4 (List.mem_of_getElem? (i := 30) rfl) rfl
theorem z4_31 : Cond.fieldLink "StreamWatch$Search" 68 "StreamWatch$Option" "relative" "Z" ∈ zTb := zin4 (List.mem_of_getElem? (i := 31) rfl) rfl
theorem z4_32 : Cond.fieldLink "StreamWatch$Option" 29 "StreamWatch$Option" "least" "I" ∈ zTb := zin4 (List.mem_of_getElem? (i := 32) rfl) rfl
theorem z4_33 : Cond.fieldLink "StreamWatch$Search" 71 "StreamWatch$Option" "least" "I" ∈ zTb := zin4 (List.mem_of_getElem? (i := 33) rfl) rfl
theorem z4_34 : Cond.fieldLink "StreamWatch$Option" 32 "StreamWatch$Option" "most" "I" ∈ zTb := zin4 (List.mem_of_getElem? (i := 34) rfl) rfl
theorem z4_35 : Cond.fieldLink "StreamWatch$Search" 75 "StreamWatch$Option" "most" "I" ∈ zTb := zin4 (List.mem_of_getElem? (i := 35) rfl) rfl
theorem z4_36 : Cond.fieldLink "StreamWatch$Option" 9 "StreamWatch$Option" "size" "I" ∈ zTb := zin4 (List.mem_of_getElem? (i := 36) rfl) rfl
theorem z4_37 : Cond.fieldLink "StreamWatch$Search" 78 "StreamWatch$Option" "size" "I" ∈ zTb := zin4 (List.mem_of_getElem? (i := 37) rfl) rfl
theorem z4_38 : Cond.fieldLink "StreamWatch$Option" 15 "StreamWatch$Option" "content" "J" ∈ zTb := zin4 (List.mem_of_getElem? (i := 38) rfl) rfl
theorem z4_39 : Cond.fieldLink "StreamWatch$Option" 19 "StreamWatch$Option" "anyCase" "Z" ∈ zTb := zin4 (List.mem_of_getElem? (i := 39) rfl) rfl
theorem z4_40 : Cond.laysFinal "StreamWatch$Option" "StreamWatch$Option" "not" "Z" ∈ zTb := zin4 (List.mem_of_getElem? (i := 40) rfl) rfl
theorem z4_42 : Cond.laysFinal "StreamWatch$Option" "StreamWatch$Option" "relative" "Z" ∈ zTb := zin4 (List.mem_of_getElem? (i := 42) rfl) rfl
theorem z4_44 : Cond.laysFinal "StreamWatch$Option" "StreamWatch$Option" "least" "I" ∈ zTb := zin4 (List.mem_of_getElem? (i := 44) rfl) rfl
theorem z4_46 : Cond.laysFinal "StreamWatch$Option" "StreamWatch$Option" "most" "I" ∈ zTb := zin4 (List.mem_of_getElem? (i := 46) rfl) rfl
theorem z4_48 : Cond.laysFinal "StreamWatch$Option" "StreamWatch$Option" "size" "I" ∈ zTb := zin4 (List.mem_of_getElem? (i := 48) rfl) rfl
theorem z4_50 : Cond.laysFinal "StreamWatch$Option" "StreamWatch$Option" "content" "J" ∈ zTb := zin4 (List.mem_of_getElem? (i := 50) rfl) rfl
theorem z4_52 : Cond.laysFinal "StreamWatch$Option" "StreamWatch$Option" "anyCase" "Z" ∈ zTb := zin4 (List.mem_of_getElem? (i := 52) rfl) rfl
theorem z4_55 : Cond.methodLink "StreamWatch" 173 ⟨"StreamWatch$Rule", "add", "(LStreamWatch$Option;)V"⟩ ∈ zTb := zin4 (List.mem_of_getElem? (i := 55) rfl) rfl
theorem z4_56 : Cond.instanceMethod ⟨"StreamWatch$Rule", "add", "(LStreamWatch$Option;)V"⟩ ∈ zTb := zin4 (List.mem_of_getElem? (i := 56) rfl) rfl
theorem z4_57 : Cond.selects "StreamWatch$Rule" ⟨"StreamWatch$Rule", "add", "(LStreamWatch$Option;)V"⟩ ⟨"StreamWatch$Rule", "add", "(LStreamWatch$Option;)V"⟩ ∈ zTb := zin4 (List.mem_of_getElem? (i := 57) rfl) rfl
theorem z4_58 : Cond.code ⟨"StreamWatch$Rule", "add", "(LStreamWatch$Option;)V"⟩ prog_8_method_3_code 2 (Option.none : Option FieldType) ∈ zTb := zin4 (List.mem_of_getElem? (i := 58) rfl) rfl
theorem z4_59 : Cond.classLink "StreamWatchLaw" 34 "StreamWatchModel" ∈ zTb := zin4 (List.mem_of_getElem? (i := 59) rfl) rfl
theorem z4_60 : Cond.instantiable "StreamWatchModel" 33 ∈ zTb := zin4 (List.mem_of_getElem? (i := 60) rfl) rfl
theorem z4_61 : Cond.methodLink "StreamWatchLaw" 36 ⟨"StreamWatchModel", "<init>", "(I)V"⟩ ∈ zTb := zin4 (List.mem_of_getElem? (i := 61) rfl) rfl
theorem z4_62 : Cond.instanceMethod ⟨"StreamWatchModel", "<init>", "(I)V"⟩ ∈ zTb := zin4 (List.mem_of_getElem? (i := 62) rfl) rfl
theorem z4_63 : Cond.code ⟨"StreamWatchModel", "<init>", "(I)V"⟩ prog_13_method_1_code 2 (Option.none : Option FieldType) ∈ zTb := zin4 (List.mem_of_getElem? (i := 63) rfl) rfl
theorem z4_64 : Cond.methodLink "StreamWatchModel" 1 ⟨"java/lang/Object", "<init>", "()V"⟩ ∈ zTb := zin4 (List.mem_of_getElem? (i := 64) rfl) rfl
theorem z4_65 : Cond.fieldLink "StreamWatchModel" 93 "StreamWatchModel" "thrown" "I" ∈ zTb := zin4 (List.mem_of_getElem? (i := 65) rfl) rfl
theorem z4_66 : Cond.fieldLink "StreamWatchModel" 89 "StreamWatchModel" "last" "Z" ∈ zTb := zin4 (List.mem_of_getElem? (i := 66) rfl) rfl
theorem z4_67 : Cond.fieldLink "StreamWatchModel" 97 "StreamWatchModel" "length" "I" ∈ zTb := zin4 (List.mem_of_getElem? (i := 67) rfl) rfl
theorem z4_68 : Cond.fieldLink "StreamWatchModel" 7 "StreamWatchModel" "wire" "[I" ∈ zTb := zin4 (List.mem_of_getElem? (i := 68) rfl) rfl
theorem z4_69 : Cond.fieldLink "StreamWatchModel" 13 "StreamWatchModel" "used" "[Z" ∈ zTb := zin4 (List.mem_of_getElem? (i := 69) rfl) rfl
theorem z4_70 : Cond.fieldLink "StreamWatchModel" 17 "StreamWatchModel" "clientHost" "[I" ∈ zTb := zin4 (List.mem_of_getElem? (i := 70) rfl) rfl
theorem z4_71 : Cond.fieldLink "StreamWatchModel" 20 "StreamWatchModel" "clientPort" "[I" ∈ zTb := zin4 (List.mem_of_getElem? (i := 71) rfl) rfl
theorem z4_72 : Cond.fieldLink "StreamWatchModel" 23 "StreamWatchModel" "serverHost" "[I" ∈ zTb := zin4 (List.mem_of_getElem? (i := 72) rfl) rfl
theorem z4_73 : Cond.fieldLink "StreamWatchModel" 26 "StreamWatchModel" "serverPort" "[I" ∈ zTb := zin4 (List.mem_of_getElem? (i := 73) rfl) rfl
theorem z4_74 : Cond.fieldLink "StreamWatchModel" 29 "StreamWatchModel" "heard" "[I" ∈ zTb := zin4 (List.mem_of_getElem? (i := 74) rfl) rfl
theorem z4_75 : Cond.fieldLink "StreamWatchModel" 180 "StreamWatchModel" "clock" "I" ∈ zTb := zin4 (List.mem_of_getElem? (i := 75) rfl) rfl
theorem z4_76 : Cond.fieldLink "StreamWatchModel" 32 "StreamWatchModel" "begun" "[Z" ∈ zTb := zin4 (List.mem_of_getElem? (i := 76) rfl) rfl
theorem z4_77 : Cond.fieldLink "StreamWatchModel" 35 "StreamWatchModel" "next" "[I" ∈ zTb := zin4 (List.mem_of_getElem? (i := 77) rfl) rfl
theorem z4_78 : Cond.fieldLink "StreamWatchModel" 38 "StreamWatchModel" "ended" "[Z" ∈ zTb := zin4 (List.mem_of_getElem? (i := 78) rfl) rfl
theorem z4_79 : Cond.fieldLink "StreamWatchModel" 41 "StreamWatchModel" "size" "[I" ∈ zTb := zin4 (List.mem_of_getElem? (i := 79) rfl) rfl
theorem z4_80 : Cond.fieldLink "StreamWatchModel" 44 "StreamWatchModel" "text" "[I" ∈ zTb := zin4 (List.mem_of_getElem? (i := 80) rfl) rfl
theorem z4_81 : Cond.fieldLink "StreamWatchModel" 47 "StreamWatchModel" "holds" "[Z" ∈ zTb := zin4 (List.mem_of_getElem? (i := 81) rfl) rfl
theorem z4_82 : Cond.fieldLink "StreamWatchModel" 50 "StreamWatchModel" "heldByte" "[I" ∈ zTb := zin4 (List.mem_of_getElem? (i := 82) rfl) rfl
theorem z4_83 : Cond.fieldLink "StreamWatchModel" 53 "StreamWatchModel" "raised" "[Z" ∈ zTb := zin4 (List.mem_of_getElem? (i := 83) rfl) rfl
theorem z4_84 : Cond.fieldLink "StreamWatchModel" 139 "StreamWatchModel" "rules" "I" ∈ zTb := zin4 (List.mem_of_getElem? (i := 84) rfl) rfl
theorem z4_85 : Cond.fieldLink "StreamWatchModel" 56 "StreamWatchModel" "ruleWay" "[I" ∈ zTb := zin4 (List.mem_of_getElem? (i := 85) rfl) rfl
theorem z4_86 : Cond.fieldLink "StreamWatchModel" 59 "StreamWatchModel" "rulePort" "[I" ∈ zTb := zin4 (List.mem_of_getElem? (i := 86) rfl) rfl
theorem z4_87 : Cond.fieldLink "StreamWatchModel" 62 "StreamWatchModel" "options" "[I" ∈ zTb := zin4 (List.mem_of_getElem? (i := 87) rfl) rfl
theorem z4_88 : Cond.fieldLink "StreamWatchModel" 65 "StreamWatchModel" "contentSize" "[I" ∈ zTb := zin4 (List.mem_of_getElem? (i := 88) rfl) rfl
theorem z4_89 : Cond.fieldLink "StreamWatchModel" 68 "StreamWatchModel" "content" "[I" ∈ zTb := zin4 (List.mem_of_getElem? (i := 89) rfl) rfl
theorem z4_90 : Cond.fieldLink "StreamWatchModel" 71 "StreamWatchModel" "marks" "[I" ∈ zTb := zin4 (List.mem_of_getElem? (i := 90) rfl) rfl
theorem z4_91 : Cond.fieldLink "StreamWatchModel" 74 "StreamWatchModel" "least" "[I" ∈ zTb := zin4 (List.mem_of_getElem? (i := 91) rfl) rfl
theorem z4_92 : Cond.fieldLink "StreamWatchModel" 77 "StreamWatchModel" "span" "[I" ∈ zTb := zin4 (List.mem_of_getElem? (i := 92) rfl) rfl
theorem z4_93 : Cond.fieldLink "StreamWatchModel" 145 "StreamWatchModel" "tried" "I" ∈ zTb := zin4 (List.mem_of_getElem? (i := 93) rfl) rfl
theorem z4_94 : Cond.fieldLink "StreamWatchModel" 80 "StreamWatchModel" "level" "[I" ∈ zTb := zin4 (List.mem_of_getElem? (i := 94) rfl) rfl
theorem z4_95 : Cond.fieldLink "StreamWatchModel" 83 "StreamWatchModel" "place" "[I" ∈ zTb := zin4 (List.mem_of_getElem? (i := 95) rfl) rfl
theorem z4_96 : Cond.fieldLink "StreamWatchModel" 162 "StreamWatchModel" "alerts" "I" ∈ zTb := zin4 (List.mem_of_getElem? (i := 96) rfl) rfl
theorem z4_97 : Cond.fieldLink "StreamWatchModel" 86 "StreamWatchModel" "alert" "[I" ∈ zTb := zin4 (List.mem_of_getElem? (i := 97) rfl) rfl
theorem z4_98 : Cond.lays "StreamWatchModel" "StreamWatchModel" "thrown" "I" ∈ zTb := zin4 (List.mem_of_getElem? (i := 98) rfl) rfl
theorem z4_100 : Cond.lays "StreamWatchModel" "StreamWatchModel" "last" "Z" ∈ zTb := zin4 (List.mem_of_getElem? (i := 100) rfl) rfl
theorem z4_102 : Cond.lays "StreamWatchModel" "StreamWatchModel" "length" "I" ∈ zTb := zin4 (List.mem_of_getElem? (i := 102) rfl) rfl
theorem z4_104 : Cond.lays "StreamWatchModel" "StreamWatchModel" "wire" "[I" ∈ zTb := zin4 (List.mem_of_getElem? (i := 104) rfl) rfl
theorem z4_106 : Cond.lays "StreamWatchModel" "StreamWatchModel" "used" "[Z" ∈ zTb := zin4 (List.mem_of_getElem? (i := 106) rfl) rfl
theorem z4_108 : Cond.lays "StreamWatchModel" "StreamWatchModel" "clientHost" "[I" ∈ zTb := zin4 (List.mem_of_getElem? (i := 108) rfl) rfl
theorem z4_110 : Cond.lays "StreamWatchModel" "StreamWatchModel" "clientPort" "[I" ∈ zTb := zin4 (List.mem_of_getElem? (i := 110) rfl) rfl
theorem z4_112 : Cond.lays "StreamWatchModel" "StreamWatchModel" "serverHost" "[I" ∈ zTb := zin4 (List.mem_of_getElem? (i := 112) rfl) rfl
theorem z4_114 : Cond.lays "StreamWatchModel" "StreamWatchModel" "serverPort" "[I" ∈ zTb := zin4 (List.mem_of_getElem? (i := 114) rfl) rfl
theorem z4_116 : Cond.lays "StreamWatchModel" "StreamWatchModel" "heard" "[I" ∈ zTb := zin4 (List.mem_of_getElem? (i := 116) rfl) rfl
theorem z4_118 : Cond.lays "StreamWatchModel" "StreamWatchModel" "clock" "I" ∈ zTb := zin4 (List.mem_of_getElem? (i := 118) rfl) rfl
theorem z4_120 : Cond.lays "StreamWatchModel" "StreamWatchModel" "begun" "[Z" ∈ zTb := zin4 (List.mem_of_getElem? (i := 120) rfl) rfl
theorem z4_122 : Cond.lays "StreamWatchModel" "StreamWatchModel" "next" "[I" ∈ zTb := zin4 (List.mem_of_getElem? (i := 122) rfl) rfl
theorem z4_124 : Cond.lays "StreamWatchModel" "StreamWatchModel" "ended" "[Z" ∈ zTb := zin4 (List.mem_of_getElem? (i := 124) rfl) rfl
theorem z4_126 : Cond.lays "StreamWatchModel" "StreamWatchModel" "size" "[I" ∈ zTb := zin4 (List.mem_of_getElem? (i := 126) rfl) rfl
theorem z4_128 : Cond.lays "StreamWatchModel" "StreamWatchModel" "text" "[I" ∈ zTb := zin4 (List.mem_of_getElem? (i := 128) rfl) rfl
theorem z4_130 : Cond.lays "StreamWatchModel" "StreamWatchModel" "holds" "[Z" ∈ zTb := zin4 (List.mem_of_getElem? (i := 130) rfl) rfl
theorem z4_132 : Cond.lays "StreamWatchModel" "StreamWatchModel" "heldByte" "[I" ∈ zTb := zin4 (List.mem_of_getElem? (i := 132) rfl) rfl
theorem z4_134 : Cond.lays "StreamWatchModel" "StreamWatchModel" "raised" "[Z" ∈ zTb := zin4 (List.mem_of_getElem? (i := 134) rfl) rfl
theorem z4_136 : Cond.lays "StreamWatchModel" "StreamWatchModel" "rules" "I" ∈ zTb := zin4 (List.mem_of_getElem? (i := 136) rfl) rfl
theorem z4_138 : Cond.lays "StreamWatchModel" "StreamWatchModel" "ruleWay" "[I" ∈ zTb := zin4 (List.mem_of_getElem? (i := 138) rfl) rfl
theorem z4_140 : Cond.lays "StreamWatchModel" "StreamWatchModel" "rulePort" "[I" ∈ zTb := zin4 (List.mem_of_getElem? (i := 140) rfl) rfl
theorem z4_142 : Cond.lays "StreamWatchModel" "StreamWatchModel" "options" "[I" ∈ zTb := zin4 (List.mem_of_getElem? (i := 142) rfl) rfl
theorem z4_144 : Cond.lays "StreamWatchModel" "StreamWatchModel" "contentSize" "[I" ∈ zTb := zin4 (List.mem_of_getElem? (i := 144) rfl) rfl
theorem z4_146 : Cond.lays "StreamWatchModel" "StreamWatchModel" "content" "[I" ∈ zTb := zin4 (List.mem_of_getElem? (i := 146) rfl) rfl
theorem z4_148 : Cond.lays "StreamWatchModel" "StreamWatchModel" "marks" "[I" ∈ zTb := zin4 (List.mem_of_getElem? (i := 148) rfl) rfl
theorem z4_150 : Cond.lays "StreamWatchModel" "StreamWatchModel" "least" "[I" ∈ zTb := zin4 (List.mem_of_getElem? (i := 150) rfl) rfl
theorem z4_152 : Cond.lays "StreamWatchModel" "StreamWatchModel" "span" "[I" ∈ zTb := zin4 (List.mem_of_getElem? (i := 152) rfl) rfl
theorem z4_154 : Cond.lays "StreamWatchModel" "StreamWatchModel" "tried" "I" ∈ zTb := zin4 (List.mem_of_getElem? (i := 154) rfl) rfl
theorem z4_156 : Cond.lays "StreamWatchModel" "StreamWatchModel" "level" "[I" ∈ zTb := zin4 (List.mem_of_getElem? (i := 156) rfl) rfl
theorem z4_158 : Cond.lays "StreamWatchModel" "StreamWatchModel" "place" "[I" ∈ zTb := zin4 (List.mem_of_getElem? (i := 158) rfl) rfl
theorem z4_160 : Cond.lays "StreamWatchModel" "StreamWatchModel" "alerts" "I" ∈ zTb := zin4 (List.mem_of_getElem? (i := 160) rfl) rfl
theorem z4_162 : Cond.lays "StreamWatchModel" "StreamWatchModel" "alert" "[I" ∈ zTb := zin4 (List.mem_of_getElem? (i := 162) rfl) rfl
theorem z4_165 : Cond.methodLink "StreamWatchLaw" 43 ⟨"StreamWatchModel", "thrown", "()I"⟩ ∈ zTb := zin4 (List.mem_of_getElem? (i := 165) rfl) rfl
theorem z4_166 : Cond.instanceMethod ⟨"StreamWatchModel", "thrown", "()I"⟩ ∈ zTb := zin4 (List.mem_of_getElem? (i := 166) rfl) rfl
theorem z4_167 : Cond.selects "StreamWatchModel" ⟨"StreamWatchModel", "thrown", "()I"⟩ ⟨"StreamWatchModel", "thrown", "()I"⟩ ∈ zTb := zin4 (List.mem_of_getElem? (i := 167) rfl) rfl
theorem z4_168 : Cond.code ⟨"StreamWatchModel", "thrown", "()I"⟩ prog_13_method_2_code 1 (Option.some FieldType.int) ∈ zTb := zin4 (List.mem_of_getElem? (i := 168) rfl) rfl
theorem z4_169 : Cond.methodLink "StreamWatchLaw" 42 ⟨"StreamWatchModel", "craft", "(IIIIIJ)I"⟩ ∈ zTb := zin4 (List.mem_of_getElem? (i := 169) rfl) rfl
theorem z4_170 : Cond.instanceMethod ⟨"StreamWatchModel", "craft", "(IIIIIJ)I"⟩ ∈ zTb := zin4 (List.mem_of_getElem? (i := 170) rfl) rfl
theorem z4_171 : Cond.selects "StreamWatchModel" ⟨"StreamWatchModel", "craft", "(IIIIIJ)I"⟩ ⟨"StreamWatchModel", "craft", "(IIIIIJ)I"⟩ ∈ zTb := zin4 (List.mem_of_getElem? (i := 171) rfl) rfl
theorem z4_172 : Cond.code ⟨"StreamWatchModel", "craft", "(IIIIIJ)I"⟩ prog_13_method_5_code 11 (Option.some FieldType.int) ∈ zTb := zin4 (List.mem_of_getElem? (i := 172) rfl) rfl
theorem z4_173 : Cond.constant "StreamWatchModel" 104 (167772161 : Int32) ∈ zTb := zin4 (List.mem_of_getElem? (i := 173) rfl) rfl
theorem z4_174 : Cond.constant "StreamWatchModel" 105 (167772417 : Int32) ∈ zTb := zin4 (List.mem_of_getElem? (i := 174) rfl) rfl
theorem z4_175 : Cond.methodLink "StreamWatchModel" 106 ⟨"StreamWatchModel", "addNumber", "(II)V"⟩ ∈ zTb := zin4 (List.mem_of_getElem? (i := 175) rfl) rfl
theorem z4_177 : Cond.instanceMethod ⟨"StreamWatchModel", "addNumber", "(II)V"⟩ ∈ zTb := zin4 (List.mem_of_getElem? (i := 177) rfl) rfl
theorem z4_178 : Cond.code ⟨"StreamWatchModel", "addNumber", "(II)V"⟩ prog_13_method_4_code 4 (Option.none : Option FieldType) ∈ zTb := zin4 (List.mem_of_getElem? (i := 178) rfl) rfl
theorem z4_179 : Cond.methodLink "StreamWatchModel" 100 ⟨"StreamWatchModel", "add", "(I)V"⟩ ∈ zTb := zin4 (List.mem_of_getElem? (i := 179) rfl) rfl
theorem z4_181 : Cond.instanceMethod ⟨"StreamWatchModel", "add", "(I)V"⟩ ∈ zTb := zin4 (List.mem_of_getElem? (i := 181) rfl) rfl
theorem z4_182 : Cond.code ⟨"StreamWatchModel", "add", "(I)V"⟩ prog_13_method_3_code 2 (Option.none : Option FieldType) ∈ zTb := zin4 (List.mem_of_getElem? (i := 182) rfl) rfl
theorem z4_183 : Cond.methodLink "StreamWatchModel" 110 ⟨"StreamWatchModel", "close", "()V"⟩ ∈ zTb := zin4 (List.mem_of_getElem? (i := 183) rfl) rfl
theorem z4_185 : Cond.instanceMethod ⟨"StreamWatchModel", "close", "()V"⟩ ∈ zTb := zin4 (List.mem_of_getElem? (i := 185) rfl) rfl
theorem z4_186 : Cond.code ⟨"StreamWatchModel", "close", "()V"⟩ prog_13_method_18_code 3 (Option.none : Option FieldType) ∈ zTb := zin4 (List.mem_of_getElem? (i := 186) rfl) rfl
theorem z4_187 : Cond.constant "StreamWatchModel" 117 (65535 : Int32) ∈ zTb := zin4 (List.mem_of_getElem? (i := 187) rfl) rfl
theorem z4_188 : Cond.methodLink "StreamWatchModel" 129 ⟨"StreamWatchModel", "headerSum", "()I"⟩ ∈ zTb := zin4 (List.mem_of_getElem? (i := 188) rfl) rfl
theorem z4_190 : Cond.instanceMethod ⟨"StreamWatchModel", "headerSum", "()I"⟩ ∈ zTb := zin4 (List.mem_of_getElem? (i := 190) rfl) rfl
theorem z4_191 : Cond.code ⟨"StreamWatchModel", "headerSum", "()I"⟩ prog_13_method_15_code 1 (Option.some FieldType.int) ∈ zTb := zin4 (List.mem_of_getElem? (i := 191) rfl) rfl
theorem z4_192 : Cond.methodLink "StreamWatchModel" 118 ⟨"StreamWatchModel", "headerSize", "()I"⟩ ∈ zTb := zin4 (List.mem_of_getElem? (i := 192) rfl) rfl
theorem z4_194 : Cond.instanceMethod ⟨"StreamWatchModel", "headerSize", "()I"⟩ ∈ zTb := zin4 (List.mem_of_getElem? (i := 194) rfl) rfl
theorem z4_195 : Cond.code ⟨"StreamWatchModel", "headerSize", "()I"⟩ prog_13_method_14_code 1 (Option.some FieldType.int) ∈ zTb := zin4 (List.mem_of_getElem? (i := 195) rfl) rfl
theorem z4_196 : Cond.methodLink "StreamWatchModel" 122 ⟨"StreamWatchModel", "total", "(II)I"⟩ ∈ zTb := zin4 (List.mem_of_getElem? (i := 196) rfl) rfl
theorem z4_198 : Cond.instanceMethod ⟨"StreamWatchModel", "total", "(II)I"⟩ ∈ zTb := zin4 (List.mem_of_getElem? (i := 198) rfl) rfl
theorem z4_199 : Cond.code ⟨"StreamWatchModel", "total", "(II)I"⟩ prog_13_method_12_code 5 (Option.some FieldType.int) ∈ zTb := zin4 (List.mem_of_getElem? (i := 199) rfl) rfl
theorem z4_200 : Cond.methodLink "StreamWatchModel" 126 ⟨"StreamWatchModel", "folded", "(I)I"⟩ ∈ zTb := zin4 (List.mem_of_getElem? (i := 200) rfl) rfl
theorem z4_201 : Cond.static ⟨"StreamWatchModel", "folded", "(I)I"⟩ ∈ zTb := zin4 (List.mem_of_getElem? (i := 201) rfl) rfl
theorem z4_202 : Cond.code ⟨"StreamWatchModel", "folded", "(I)I"⟩ prog_13_method_13_code 3 (Option.some FieldType.int) ∈ zTb := zin4 (List.mem_of_getElem? (i := 202) rfl) rfl
theorem z4_203 : Cond.methodLink "StreamWatchModel" 132 ⟨"StreamWatchModel", "partSum", "()I"⟩ ∈ zTb := zin4 (List.mem_of_getElem? (i := 203) rfl) rfl
theorem z4_205 : Cond.instanceMethod ⟨"StreamWatchModel", "partSum", "()I"⟩ ∈ zTb := zin4 (List.mem_of_getElem? (i := 205) rfl) rfl
theorem z4_206 : Cond.code ⟨"StreamWatchModel", "partSum", "()I"⟩ prog_13_method_16_code 3 (Option.some FieldType.int) ∈ zTb := zin4 (List.mem_of_getElem? (i := 206) rfl) rfl
theorem z4_207 : Cond.methodLink "StreamWatchModel" 113 ⟨"StreamWatchModel", "pair", "(I)I"⟩ ∈ zTb := zin4 (List.mem_of_getElem? (i := 207) rfl) rfl
theorem z4_209 : Cond.instanceMethod ⟨"StreamWatchModel", "pair", "(I)I"⟩ ∈ zTb := zin4 (List.mem_of_getElem? (i := 209) rfl) rfl
theorem z4_210 : Cond.code ⟨"StreamWatchModel", "pair", "(I)I"⟩ prog_13_method_10_code 2 (Option.some FieldType.int) ∈ zTb := zin4 (List.mem_of_getElem? (i := 210) rfl) rfl
theorem z4_211 : Cond.methodLink "StreamWatchLaw" 51 ⟨"StreamWatchModel", "alter", "(II)Z"⟩ ∈ zTb := zin4 (List.mem_of_getElem? (i := 211) rfl) rfl
theorem z4_212 : Cond.instanceMethod ⟨"StreamWatchModel", "alter", "(II)Z"⟩ ∈ zTb := zin4 (List.mem_of_getElem? (i := 212) rfl) rfl
theorem z4_213 : Cond.selects "StreamWatchModel" ⟨"StreamWatchModel", "alter", "(II)Z"⟩ ⟨"StreamWatchModel", "alter", "(II)Z"⟩ ∈ zTb := zin4 (List.mem_of_getElem? (i := 213) rfl) rfl
theorem z4_214 : Cond.code ⟨"StreamWatchModel", "alter", "(II)Z"⟩ prog_13_method_6_code 3 (Option.some FieldType.boolean) ∈ zTb := zin4 (List.mem_of_getElem? (i := 214) rfl) rfl
theorem z4_215 : Cond.methodLink "StreamWatchLaw" 55 ⟨"StreamWatchModel", "wipe", "()V"⟩ ∈ zTb := zin4 (List.mem_of_getElem? (i := 215) rfl) rfl
theorem z4_216 : Cond.instanceMethod ⟨"StreamWatchModel", "wipe", "()V"⟩ ∈ zTb := zin4 (List.mem_of_getElem? (i := 216) rfl) rfl
theorem z4_217 : Cond.selects "StreamWatchModel" ⟨"StreamWatchModel", "wipe", "()V"⟩ ⟨"StreamWatchModel", "wipe", "()V"⟩ ∈ zTb := zin4 (List.mem_of_getElem? (i := 217) rfl) rfl
theorem z4_218 : Cond.code ⟨"StreamWatchModel", "wipe", "()V"⟩ prog_13_method_7_code 1 (Option.none : Option FieldType) ∈ zTb := zin4 (List.mem_of_getElem? (i := 218) rfl) rfl
theorem z4_219 : Cond.methodLink "StreamWatchLaw" 60 ⟨"StreamWatchModel", "put", "(IJ)Z"⟩ ∈ zTb := zin4 (List.mem_of_getElem? (i := 219) rfl) rfl
theorem z4_220 : Cond.instanceMethod ⟨"StreamWatchModel", "put", "(IJ)Z"⟩ ∈ zTb := zin4 (List.mem_of_getElem? (i := 220) rfl) rfl
theorem z4_221 : Cond.selects "StreamWatchModel" ⟨"StreamWatchModel", "put", "(IJ)Z"⟩ ⟨"StreamWatchModel", "put", "(IJ)Z"⟩ ∈ zTb := zin4 (List.mem_of_getElem? (i := 221) rfl) rfl
theorem z4_222 : Cond.code ⟨"StreamWatchModel", "put", "(IJ)Z"⟩ prog_13_method_8_code 5 (Option.some FieldType.boolean) ∈ zTb := zin4 (List.mem_of_getElem? (i := 222) rfl) rfl
theorem z4_223 : Cond.methodLink "StreamWatchLaw" 70 ⟨"StreamWatchModel", "wire", "(I)I"⟩ ∈ zTb := zin4 (List.mem_of_getElem? (i := 223) rfl) rfl
theorem z4_224 : Cond.instanceMethod ⟨"StreamWatchModel", "wire", "(I)I"⟩ ∈ zTb := zin4 (List.mem_of_getElem? (i := 224) rfl) rfl
theorem z4_225 : Cond.selects "StreamWatchModel" ⟨"StreamWatchModel", "wire", "(I)I"⟩ ⟨"StreamWatchModel", "wire", "(I)I"⟩ ∈ zTb := zin4 (List.mem_of_getElem? (i := 225) rfl) rfl
theorem z4_226 : Cond.code ⟨"StreamWatchModel", "wire", "(I)I"⟩ prog_13_method_9_code 2 (Option.some FieldType.int) ∈ zTb := zin4 (List.mem_of_getElem? (i := 226) rfl) rfl
theorem z4_227 : Cond.methodLink "StreamWatchLaw" 65 ⟨"StreamWatchModel", "seal", "()Z"⟩ ∈ zTb := zin4 (List.mem_of_getElem? (i := 227) rfl) rfl
theorem z4_228 : Cond.instanceMethod ⟨"StreamWatchModel", "seal", "()Z"⟩ ∈ zTb := zin4 (List.mem_of_getElem? (i := 228) rfl) rfl
theorem z4_229 : Cond.selects "StreamWatchModel" ⟨"StreamWatchModel", "seal", "()Z"⟩ ⟨"StreamWatchModel", "seal", "()Z"⟩ ∈ zTb := zin4 (List.mem_of_getElem? (i := 229) rfl) rfl
theorem z4_230 : Cond.code ⟨"StreamWatchModel", "seal", "()Z"⟩ prog_13_method_19_code 1 (Option.some FieldType.boolean) ∈ zTb := zin4 (List.mem_of_getElem? (i := 230) rfl) rfl
theorem z4_231 : Cond.methodLink "StreamWatchModel" 135 ⟨"StreamWatchModel", "reason", "(Z)I"⟩ ∈ zTb := zin4 (List.mem_of_getElem? (i := 231) rfl) rfl
theorem z4_233 : Cond.instanceMethod ⟨"StreamWatchModel", "reason", "(Z)I"⟩ ∈ zTb := zin4 (List.mem_of_getElem? (i := 233) rfl) rfl
theorem z4_234 : Cond.code ⟨"StreamWatchModel", "reason", "(Z)I"⟩ prog_13_method_17_code 5 (Option.some FieldType.int) ∈ zTb := zin4 (List.mem_of_getElem? (i := 234) rfl) rfl
theorem z4_235 : Cond.methodLink "StreamWatchLaw" 78 ⟨"StreamWatchModel", "rule", "(II)I"⟩ ∈ zTb := zin4 (List.mem_of_getElem? (i := 235) rfl) rfl
theorem z4_236 : Cond.instanceMethod ⟨"StreamWatchModel", "rule", "(II)I"⟩ ∈ zTb := zin4 (List.mem_of_getElem? (i := 236) rfl) rfl
theorem z4_237 : Cond.selects "StreamWatchModel" ⟨"StreamWatchModel", "rule", "(II)I"⟩ ⟨"StreamWatchModel", "rule", "(II)I"⟩ ∈ zTb := zin4 (List.mem_of_getElem? (i := 237) rfl) rfl
theorem z4_238 : Cond.code ⟨"StreamWatchModel", "rule", "(II)I"⟩ prog_13_method_20_code 3 (Option.some FieldType.int) ∈ zTb := zin4 (List.mem_of_getElem? (i := 238) rfl) rfl
theorem z4_239 : Cond.methodLink "StreamWatchLaw" 82 ⟨"StreamWatchModel", "option", "(IJIII)I"⟩ ∈ zTb := zin4 (List.mem_of_getElem? (i := 239) rfl) rfl
theorem z5_0 : Cond.instanceMethod ⟨"StreamWatchModel", "option", "(IJIII)I"⟩ ∈ zTb := zin5 (List.mem_of_getElem? (i := 0) rfl) rfl
theorem z5_1 : Cond.selects "StreamWatchModel" ⟨"StreamWatchModel", "option", "(IJIII)I"⟩ ⟨"StreamWatchModel", "option", "(IJIII)I"⟩ ∈ zTb := zin5 (List.mem_of_getElem? (i := 1) rfl) rfl
theorem z5_2 : Cond.code ⟨"StreamWatchModel", "option", "(IJIII)I"⟩ prog_13_method_21_code 9 (Option.some FieldType.int) ∈ zTb := zin5 (List.mem_of_getElem? (i := 2) rfl) rfl
theorem z5_3 : Cond.methodLink "StreamWatchLaw" 74 ⟨"StreamWatchModel", "watch", "()I"⟩ ∈ zTb := zin5 (List.mem_of_getElem? (i := 3) rfl) rfl
theorem z5_4 : Cond.instanceMethod ⟨"StreamWatchModel", "watch", "()I"⟩ ∈ zTb := zin5 (List.mem_of_getElem? (i := 4) rfl) rfl
theorem z5_5 : Cond.selects "StreamWatchModel" ⟨"StreamWatchModel", "watch", "()I"⟩ ⟨"StreamWatchModel", "watch", "()I"⟩ ∈ zTb := zin5 (List.mem_of_getElem? (i := 5) rfl) rfl
theorem z5_6 : Cond.code ⟨"StreamWatchModel", "watch", "()I"⟩ prog_13_method_33_code 11 (Option.some FieldType.int) ∈ zTb := zin5 (List.mem_of_getElem? (i := 6) rfl) rfl
theorem z5_7 : Cond.methodLink "StreamWatchModel" 171 ⟨"StreamWatchModel", "find", "(I)I"⟩ ∈ zTb := zin5 (List.mem_of_getElem? (i := 7) rfl) rfl
theorem z5_9 : Cond.instanceMethod ⟨"StreamWatchModel", "find", "(I)I"⟩ ∈ zTb := zin5 (List.mem_of_getElem? (i := 9) rfl) rfl
theorem z5_10 : Cond.code ⟨"StreamWatchModel", "find", "(I)I"⟩ prog_13_method_30_code 7 (Option.some FieldType.int) ∈ zTb := zin5 (List.mem_of_getElem? (i := 10) rfl) rfl
theorem z5_11 : Cond.methodLink "StreamWatchModel" 165 ⟨"StreamWatchModel", "four", "(I)I"⟩ ∈ zTb := zin5 (List.mem_of_getElem? (i := 11) rfl) rfl
theorem z5_13 : Cond.instanceMethod ⟨"StreamWatchModel", "four", "(I)I"⟩ ∈ zTb := zin5 (List.mem_of_getElem? (i := 13) rfl) rfl
theorem z5_14 : Cond.code ⟨"StreamWatchModel", "four", "(I)I"⟩ prog_13_method_11_code 2 (Option.some FieldType.int) ∈ zTb := zin5 (List.mem_of_getElem? (i := 14) rfl) rfl
theorem z5_15 : Cond.methodLink "StreamWatchModel" 174 ⟨"StreamWatchModel", "room", "()I"⟩ ∈ zTb := zin5 (List.mem_of_getElem? (i := 15) rfl) rfl
theorem z5_17 : Cond.instanceMethod ⟨"StreamWatchModel", "room", "()I"⟩ ∈ zTb := zin5 (List.mem_of_getElem? (i := 17) rfl) rfl
theorem z5_18 : Cond.code ⟨"StreamWatchModel", "room", "()I"⟩ prog_13_method_29_code 3 (Option.some FieldType.int) ∈ zTb := zin5 (List.mem_of_getElem? (i := 18) rfl) rfl
theorem z5_19 : Cond.methodLink "StreamWatchModel" 177 ⟨"StreamWatchModel", "begin", "(II)V"⟩ ∈ zTb := zin5 (List.mem_of_getElem? (i := 19) rfl) rfl
theorem z5_21 : Cond.instanceMethod ⟨"StreamWatchModel", "begin", "(II)V"⟩ ∈ zTb := zin5 (List.mem_of_getElem? (i := 21) rfl) rfl
theorem z5_22 : Cond.code ⟨"StreamWatchModel", "begin", "(II)V"⟩ prog_13_method_28_code 5 (Option.none : Option FieldType) ∈ zTb := zin5 (List.mem_of_getElem? (i := 22) rfl) rfl
theorem z5_23 : Cond.methodLink "StreamWatchModel" 183 ⟨"StreamWatchModel", "hold", "(III)V"⟩ ∈ zTb := zin5 (List.mem_of_getElem? (i := 23) rfl) rfl
theorem z5_25 : Cond.instanceMethod ⟨"StreamWatchModel", "hold", "(III)V"⟩ ∈ zTb := zin5 (List.mem_of_getElem? (i := 25) rfl) rfl
theorem z5_26 : Cond.code ⟨"StreamWatchModel", "hold", "(III)V"⟩ prog_13_method_31_code 6 (Option.none : Option FieldType) ∈ zTb := zin5 (List.mem_of_getElem? (i := 26) rfl) rfl
theorem z5_27 : Cond.methodLink "StreamWatchModel" 187 ⟨"StreamWatchModel", "grow", "(I)I"⟩ ∈ zTb := zin5 (List.mem_of_getElem? (i := 27) rfl) rfl
theorem z5_29 : Cond.instanceMethod ⟨"StreamWatchModel", "grow", "(I)I"⟩ ∈ zTb := zin5 (List.mem_of_getElem? (i := 29) rfl) rfl
theorem z5_30 : Cond.code ⟨"StreamWatchModel", "grow", "(I)I"⟩ prog_13_method_32_code 6 (Option.some FieldType.int) ∈ zTb := zin5 (List.mem_of_getElem? (i := 30) rfl) rfl
theorem z5_31 : Cond.methodLink "StreamWatchModel" 168 ⟨"StreamWatchModel", "look", "(I)I"⟩ ∈ zTb := zin5 (List.mem_of_getElem? (i := 31) rfl) rfl
theorem z5_33 : Cond.instanceMethod ⟨"StreamWatchModel", "look", "(I)I"⟩ ∈ zTb := zin5 (List.mem_of_getElem? (i := 33) rfl) rfl
theorem z5_34 : Cond.code ⟨"StreamWatchModel", "look", "(I)I"⟩ prog_13_method_27_code 7 (Option.some FieldType.int) ∈ zTb := zin5 (List.mem_of_getElem? (i := 34) rfl) rfl
theorem z5_35 : Cond.methodLink "StreamWatchModel" 159 ⟨"StreamWatchModel", "holdsOn", "(II)Z"⟩ ∈ zTb := zin5 (List.mem_of_getElem? (i := 35) rfl) rfl
theorem z5_37 : Cond.instanceMethod ⟨"StreamWatchModel", "holdsOn", "(II)Z"⟩ ∈ zTb := zin5 (List.mem_of_getElem? (i := 37) rfl) rfl
theorem z5_38 : Cond.code ⟨"StreamWatchModel", "holdsOn", "(II)Z"⟩ prog_13_method_26_code 4 (Option.some FieldType.boolean) ∈ zTb := zin5 (List.mem_of_getElem? (i := 38) rfl) rfl
theorem z5_39 : Cond.methodLink "StreamWatchModel" 155 ⟨"StreamWatchModel", "clean", "(II)Z"⟩ ∈ zTb := zin5 (List.mem_of_getElem? (i := 39) rfl) rfl
theorem z5_41 : Cond.instanceMethod ⟨"StreamWatchModel", "clean", "(II)Z"⟩ ∈ zTb := zin5 (List.mem_of_getElem? (i := 41) rfl) rfl
theorem z5_42 : Cond.code ⟨"StreamWatchModel", "clean", "(II)Z"⟩ prog_13_method_25_code 8 (Option.some FieldType.boolean) ∈ zTb := zin5 (List.mem_of_getElem? (i := 42) rfl) rfl
theorem z5_43 : Cond.methodLink "StreamWatchModel" 148 ⟨"StreamWatchModel", "base", "(II)I"⟩ ∈ zTb := zin5 (List.mem_of_getElem? (i := 43) rfl) rfl
theorem z5_45 : Cond.instanceMethod ⟨"StreamWatchModel", "base", "(II)I"⟩ ∈ zTb := zin5 (List.mem_of_getElem? (i := 45) rfl) rfl
theorem z5_46 : Cond.code ⟨"StreamWatchModel", "base", "(II)I"⟩ prog_13_method_24_code 3 (Option.some FieldType.int) ∈ zTb := zin5 (List.mem_of_getElem? (i := 46) rfl) rfl
theorem z5_47 : Cond.methodLink "StreamWatchModel" 151 ⟨"StreamWatchModel", "found", "(IIII)Z"⟩ ∈ zTb := zin5 (List.mem_of_getElem? (i := 47) rfl) rfl
theorem z5_49 : Cond.instanceMethod ⟨"StreamWatchModel", "found", "(IIII)Z"⟩ ∈ zTb := zin5 (List.mem_of_getElem? (i := 49) rfl) rfl
theorem z5_50 : Cond.code ⟨"StreamWatchModel", "found", "(IIII)Z"⟩ prog_13_method_23_code 11 (Option.some FieldType.boolean) ∈ zTb := zin5 (List.mem_of_getElem? (i := 50) rfl) rfl
theorem z5_51 : Cond.methodLink "StreamWatchModel" 142 ⟨"StreamWatchModel", "upper", "(I)I"⟩ ∈ zTb := zin5 (List.mem_of_getElem? (i := 51) rfl) rfl
theorem z5_52 : Cond.static ⟨"StreamWatchModel", "upper", "(I)I"⟩ ∈ zTb := zin5 (List.mem_of_getElem? (i := 52) rfl) rfl
theorem z5_53 : Cond.code ⟨"StreamWatchModel", "upper", "(I)I"⟩ prog_13_method_22_code 1 (Option.some FieldType.int) ∈ zTb := zin5 (List.mem_of_getElem? (i := 53) rfl) rfl
theorem z5_54 : Cond.methodLink "StreamWatchLaw" 86 ⟨"StreamWatchModel", "flow", "(II)I"⟩ ∈ zTb := zin5 (List.mem_of_getElem? (i := 54) rfl) rfl
theorem z5_55 : Cond.instanceMethod ⟨"StreamWatchModel", "flow", "(II)I"⟩ ∈ zTb := zin5 (List.mem_of_getElem? (i := 55) rfl) rfl
theorem z5_56 : Cond.selects "StreamWatchModel" ⟨"StreamWatchModel", "flow", "(II)I"⟩ ⟨"StreamWatchModel", "flow", "(II)I"⟩ ∈ zTb := zin5 (List.mem_of_getElem? (i := 56) rfl) rfl
theorem z5_57 : Cond.code ⟨"StreamWatchModel", "flow", "(II)I"⟩ prog_13_method_35_code 5 (Option.some FieldType.int) ∈ zTb := zin5 (List.mem_of_getElem? (i := 57) rfl) rfl
theorem z5_58 : Cond.methodLink "StreamWatchModel" 190 ⟨"StreamWatchModel", "isFlow", "(I)Z"⟩ ∈ zTb := zin5 (List.mem_of_getElem? (i := 58) rfl) rfl
theorem z5_60 : Cond.instanceMethod ⟨"StreamWatchModel", "isFlow", "(I)Z"⟩ ∈ zTb := zin5 (List.mem_of_getElem? (i := 60) rfl) rfl
theorem z5_61 : Cond.code ⟨"StreamWatchModel", "isFlow", "(I)Z"⟩ prog_13_method_34_code 2 (Option.some FieldType.boolean) ∈ zTb := zin5 (List.mem_of_getElem? (i := 61) rfl) rfl
theorem z5_62 : Cond.methodLink "StreamWatchLaw" 91 ⟨"StreamWatchModel", "stream", "(III)I"⟩ ∈ zTb := zin5 (List.mem_of_getElem? (i := 62) rfl) rfl
theorem z5_63 : Cond.instanceMethod ⟨"StreamWatchModel", "stream", "(III)I"⟩ ∈ zTb := zin5 (List.mem_of_getElem? (i := 63) rfl) rfl
theorem z5_64 : Cond.selects "StreamWatchModel" ⟨"StreamWatchModel", "stream", "(III)I"⟩ ⟨"StreamWatchModel", "stream", "(III)I"⟩ ∈ zTb := zin5 (List.mem_of_getElem? (i := 64) rfl) rfl
theorem z5_65 : Cond.code ⟨"StreamWatchModel", "stream", "(III)I"⟩ prog_13_method_36_code 7 (Option.some FieldType.int) ∈ zTb := zin5 (List.mem_of_getElem? (i := 65) rfl) rfl
theorem z5_66 : Cond.methodLink "StreamWatchLaw" 95 ⟨"StreamWatchModel", "text", "(III)I"⟩ ∈ zTb := zin5 (List.mem_of_getElem? (i := 66) rfl) rfl
theorem z5_67 : Cond.instanceMethod ⟨"StreamWatchModel", "text", "(III)I"⟩ ∈ zTb := zin5 (List.mem_of_getElem? (i := 67) rfl) rfl
theorem z5_68 : Cond.selects "StreamWatchModel" ⟨"StreamWatchModel", "text", "(III)I"⟩ ⟨"StreamWatchModel", "text", "(III)I"⟩ ∈ zTb := zin5 (List.mem_of_getElem? (i := 68) rfl) rfl
theorem z5_69 : Cond.code ⟨"StreamWatchModel", "text", "(III)I"⟩ prog_13_method_37_code 4 (Option.some FieldType.int) ∈ zTb := zin5 (List.mem_of_getElem? (i := 69) rfl) rfl
theorem z5_70 : Cond.methodLink "StreamWatchLaw" 99 ⟨"StreamWatchModel", "alerts", "()I"⟩ ∈ zTb := zin5 (List.mem_of_getElem? (i := 70) rfl) rfl
theorem z5_71 : Cond.instanceMethod ⟨"StreamWatchModel", "alerts", "()I"⟩ ∈ zTb := zin5 (List.mem_of_getElem? (i := 71) rfl) rfl
theorem z5_72 : Cond.selects "StreamWatchModel" ⟨"StreamWatchModel", "alerts", "()I"⟩ ⟨"StreamWatchModel", "alerts", "()I"⟩ ∈ zTb := zin5 (List.mem_of_getElem? (i := 72) rfl) rfl
theorem z5_73 : Cond.code ⟨"StreamWatchModel", "alerts", "()I"⟩ prog_13_method_38_code 1 (Option.some FieldType.int) ∈ zTb := zin5 (List.mem_of_getElem? (i := 73) rfl) rfl
theorem z5_74 : Cond.methodLink "StreamWatchLaw" 103 ⟨"StreamWatchModel", "alert", "(II)I"⟩ ∈ zTb := zin5 (List.mem_of_getElem? (i := 74) rfl) rfl
theorem z5_75 : Cond.instanceMethod ⟨"StreamWatchModel", "alert", "(II)I"⟩ ∈ zTb := zin5 (List.mem_of_getElem? (i := 75) rfl) rfl
theorem z5_76 : Cond.selects "StreamWatchModel" ⟨"StreamWatchModel", "alert", "(II)I"⟩ ⟨"StreamWatchModel", "alert", "(II)I"⟩ ∈ zTb := zin5 (List.mem_of_getElem? (i := 76) rfl) rfl
theorem z5_77 : Cond.code ⟨"StreamWatchModel", "alert", "(II)I"⟩ prog_13_method_39_code 3 (Option.some FieldType.int) ∈ zTb := zin5 (List.mem_of_getElem? (i := 77) rfl) rfl
theorem z5_78 : Cond.constantLong "StreamWatchLaw" 37 (4294967295 : Int64) ∈ zTb := zin5 (List.mem_of_getElem? (i := 78) rfl) rfl
theorem z5_79 : Cond.arrayClass FieldType.long ∈ zTb := zin5 (List.mem_of_getElem? (i := 79) rfl) rfl
abbrev R_Al : String := "StreamWatch$AlertLog"
def T_Al : u_T := fun k => match k with
  | 0 => ("StreamWatch$AlertLog", "rows", "[I", true)
  | 1 => ("StreamWatch$AlertLog", "total", "I", false)
  | _ => ("StreamWatch$AlertLog", "newest", "I", false)
def t_Al : Nat → FieldType := fun k => match k with
  | 0 => .array .int
  | 1 => .int
  | _ => .int
theorem n_Al : ∀ a, a < 3 → ∀ b, b < 3 → a ≠ b → (T_Al a).2.1 ≠ (T_Al b).2.1 := by decide +kernel
theorem t_Al_ok : ∀ k, k < 3 → parseFieldDescriptor (T_Al k).2.2.1 = some (t_Al k) := by decide +kernel
theorem u_Al : ∀ w ∈ u_ws R_Al T_Al 3, w ∈ zTb := List.forall_mem_cons.mpr ⟨z1_205, List.forall_mem_cons.mpr ⟨z1_207, List.forall_mem_cons.mpr ⟨z1_209, fun _ h => nomatch h⟩⟩⟩
abbrev R_Fl : String := "StreamWatch$Flow"
def T_Fl : u_T := fun k => match k with
  | 0 => ("StreamWatch$Flow", "clientHost", "I", false)
  | 1 => ("StreamWatch$Flow", "clientPort", "I", false)
  | 2 => ("StreamWatch$Flow", "serverHost", "I", false)
  | 3 => ("StreamWatch$Flow", "serverPort", "I", false)
  | 4 => ("StreamWatch$Flow", "heardAt", "I", false)
  | 5 => ("StreamWatch$Flow", "toServer", "LStreamWatch$Stream;", true)
  | 6 => ("StreamWatch$Flow", "toClient", "LStreamWatch$Stream;", true)
  | _ => ("StreamWatch$Flow", "live", "Z", false)
def t_Fl : Nat → FieldType := fun k => match k with
  | 0 => .int
  | 1 => .int
  | 2 => .int
  | 3 => .int
  | 4 => .int
  | 5 => .object "StreamWatch$Stream"
  | 6 => .object "StreamWatch$Stream"
  | _ => .boolean
theorem n_Fl : ∀ a, a < 8 → ∀ b, b < 8 → a ≠ b → (T_Fl a).2.1 ≠ (T_Fl b).2.1 := by decide +kernel
theorem t_Fl_ok : ∀ k, k < 8 → parseFieldDescriptor (T_Fl k).2.2.1 = some (t_Fl k) := by decide +kernel
theorem u_Fl : ∀ w ∈ u_ws R_Fl T_Fl 8, w ∈ zTb := List.forall_mem_cons.mpr ⟨z1_140, List.forall_mem_cons.mpr ⟨z1_142, List.forall_mem_cons.mpr ⟨z1_144, List.forall_mem_cons.mpr ⟨z1_146, List.forall_mem_cons.mpr ⟨z1_148, List.forall_mem_cons.mpr ⟨z1_150, List.forall_mem_cons.mpr ⟨z1_152, List.forall_mem_cons.mpr ⟨z1_154, fun _ h => nomatch h⟩⟩⟩⟩⟩⟩⟩⟩
abbrev R_Ft : String := "StreamWatch$FlowTable"
def T_Ft : u_T := fun k => match k with
  | 0 => ("StreamWatch$FlowTable", "places", "[LStreamWatch$Flow;", true)
  | _ => ("StreamWatch$FlowTable", "packetsHeard", "I", false)
def t_Ft : Nat → FieldType := fun k => match k with
  | 0 => .array (.object "StreamWatch$Flow")
  | _ => .int
theorem n_Ft : ∀ a, a < 2 → ∀ b, b < 2 → a ≠ b → (T_Ft a).2.1 ≠ (T_Ft b).2.1 := by decide +kernel
theorem t_Ft_ok : ∀ k, k < 2 → parseFieldDescriptor (T_Ft k).2.2.1 = some (t_Ft k) := by decide +kernel
theorem u_Ft : ∀ w ∈ u_ws R_Ft T_Ft 2, w ∈ zTb := List.forall_mem_cons.mpr ⟨z1_159, List.forall_mem_cons.mpr ⟨z1_161, fun _ h => nomatch h⟩⟩
abbrev R_Mk : String := "StreamWatch$Marks"
def T_Mk : u_T := fun k => match k with
  | 0 => ("StreamWatch$Marks", "marked", "[Z", true)
  | 1 => ("StreamWatch$Marks", "latest", "[I", true)
  | _ => ("StreamWatch$Marks", "top", "I", false)
def t_Mk : Nat → FieldType := fun k => match k with
  | 0 => .array .boolean
  | 1 => .array .int
  | _ => .int
theorem n_Mk : ∀ a, a < 3 → ∀ b, b < 3 → a ≠ b → (T_Mk a).2.1 ≠ (T_Mk b).2.1 := by decide +kernel
theorem t_Mk_ok : ∀ k, k < 3 → parseFieldDescriptor (T_Mk k).2.2.1 = some (t_Mk k) := by decide +kernel
theorem u_Mk : ∀ w ∈ u_ws R_Mk T_Mk 3, w ∈ zTb := List.forall_mem_cons.mpr ⟨z1_181, List.forall_mem_cons.mpr ⟨z1_183, List.forall_mem_cons.mpr ⟨z1_185, fun _ h => nomatch h⟩⟩⟩
abbrev R_Op : String := "StreamWatch$Option"
def T_Op : u_T := fun k => match k with
  | 0 => ("StreamWatch$Option", "not", "Z", true)
  | 1 => ("StreamWatch$Option", "relative", "Z", true)
  | 2 => ("StreamWatch$Option", "least", "I", true)
  | 3 => ("StreamWatch$Option", "most", "I", true)
  | 4 => ("StreamWatch$Option", "size", "I", true)
  | 5 => ("StreamWatch$Option", "content", "J", true)
  | _ => ("StreamWatch$Option", "anyCase", "Z", true)
def t_Op : Nat → FieldType := fun k => match k with
  | 0 => .boolean
  | 1 => .boolean
  | 2 => .int
  | 3 => .int
  | 4 => .int
  | 5 => .long
  | _ => .boolean
theorem n_Op : ∀ a, a < 7 → ∀ b, b < 7 → a ≠ b → (T_Op a).2.1 ≠ (T_Op b).2.1 := by decide +kernel
theorem t_Op_ok : ∀ k, k < 7 → parseFieldDescriptor (T_Op k).2.2.1 = some (t_Op k) := by decide +kernel
theorem u_Op : ∀ w ∈ u_ws R_Op T_Op 7, w ∈ zTb := List.forall_mem_cons.mpr ⟨z4_40, List.forall_mem_cons.mpr ⟨z4_42, List.forall_mem_cons.mpr ⟨z4_44, List.forall_mem_cons.mpr ⟨z4_46, List.forall_mem_cons.mpr ⟨z4_48, List.forall_mem_cons.mpr ⟨z4_50, List.forall_mem_cons.mpr ⟨z4_52, fun _ h => nomatch h⟩⟩⟩⟩⟩⟩⟩
abbrev R_Pk : String := "StreamWatch$Packet"
def T_Pk : u_T := fun k => match k with
  | 0 => ("StreamWatch$Packet", "fromHost", "I", false)
  | 1 => ("StreamWatch$Packet", "fromPort", "I", false)
  | 2 => ("StreamWatch$Packet", "toHost", "I", false)
  | 3 => ("StreamWatch$Packet", "toPort", "I", false)
  | 4 => ("StreamWatch$Packet", "firstNumber", "I", false)
  | 5 => ("StreamWatch$Packet", "dataStart", "I", false)
  | 6 => ("StreamWatch$Packet", "dataSize", "I", false)
  | _ => ("StreamWatch$Packet", "flags", "I", false)
def t_Pk : Nat → FieldType := fun k => match k with
  | 0 => .int
  | 1 => .int
  | 2 => .int
  | 3 => .int
  | 4 => .int
  | 5 => .int
  | 6 => .int
  | _ => .int
theorem n_Pk : ∀ a, a < 8 → ∀ b, b < 8 → a ≠ b → (T_Pk a).2.1 ≠ (T_Pk b).2.1 := by decide +kernel
theorem t_Pk_ok : ∀ k, k < 8 → parseFieldDescriptor (T_Pk k).2.2.1 = some (t_Pk k) := by decide +kernel
theorem u_Pk : ∀ w ∈ u_ws R_Pk T_Pk 8, w ∈ zTb := List.forall_mem_cons.mpr ⟨z1_62, List.forall_mem_cons.mpr ⟨z1_64, List.forall_mem_cons.mpr ⟨z1_66, List.forall_mem_cons.mpr ⟨z1_68, List.forall_mem_cons.mpr ⟨z1_70, List.forall_mem_cons.mpr ⟨z1_72, List.forall_mem_cons.mpr ⟨z1_74, List.forall_mem_cons.mpr ⟨z1_76, fun _ h => nomatch h⟩⟩⟩⟩⟩⟩⟩⟩
abbrev R_Ru : String := "StreamWatch$Rule"
def T_Ru : u_T := fun k => match k with
  | 0 => ("StreamWatch$Rule", "way", "I", true)
  | 1 => ("StreamWatch$Rule", "port", "I", true)
  | 2 => ("StreamWatch$Rule", "options", "[LStreamWatch$Option;", true)
  | _ => ("StreamWatch$Rule", "count", "I", false)
def t_Ru : Nat → FieldType := fun k => match k with
  | 0 => .int
  | 1 => .int
  | 2 => .array (.object "StreamWatch$Option")
  | _ => .int
theorem n_Ru : ∀ a, a < 4 → ∀ b, b < 4 → a ≠ b → (T_Ru a).2.1 ≠ (T_Ru b).2.1 := by decide +kernel
theorem t_Ru_ok : ∀ k, k < 4 → parseFieldDescriptor (T_Ru k).2.2.1 = some (t_Ru k) := by decide +kernel
theorem u_Ru : ∀ w ∈ u_ws R_Ru T_Ru 4, w ∈ zTb := List.forall_mem_cons.mpr ⟨z4_0, List.forall_mem_cons.mpr ⟨z4_2, List.forall_mem_cons.mpr ⟨z4_4, List.forall_mem_cons.mpr ⟨z4_6, fun _ h => nomatch h⟩⟩⟩⟩
abbrev R_Se : String := "StreamWatch$Search"
def T_Se : u_T := fun k => match k with
  | 0 => ("StreamWatch$Search", "bases", "LStreamWatch$Marks;", true)
  | _ => ("StreamWatch$Search", "found", "LStreamWatch$Marks;", true)
def t_Se : Nat → FieldType := fun k => match k with
  | 0 => .object "StreamWatch$Marks"
  | _ => .object "StreamWatch$Marks"
theorem n_Se : ∀ a, a < 2 → ∀ b, b < 2 → a ≠ b → (T_Se a).2.1 ≠ (T_Se b).2.1 := by decide +kernel
theorem t_Se_ok : ∀ k, k < 2 → parseFieldDescriptor (T_Se k).2.2.1 = some (t_Se k) := by decide +kernel
theorem u_Se : ∀ w ∈ u_ws R_Se T_Se 2, w ∈ zTb := List.forall_mem_cons.mpr ⟨z1_191, List.forall_mem_cons.mpr ⟨z1_193, fun _ h => nomatch h⟩⟩
abbrev R_Sm : String := "StreamWatch$Stream"
def T_Sm : u_T := fun k => match k with
  | 0 => ("StreamWatch$Stream", "text", "[I", true)
  | 1 => ("StreamWatch$Stream", "held", "[I", true)
  | 2 => ("StreamWatch$Stream", "textSize", "I", false)
  | 3 => ("StreamWatch$Stream", "heldSize", "I", false)
  | 4 => ("StreamWatch$Stream", "next", "I", false)
  | 5 => ("StreamWatch$Stream", "raisedRules", "I", false)
  | 6 => ("StreamWatch$Stream", "begun", "Z", false)
  | _ => ("StreamWatch$Stream", "ended", "Z", false)
def t_Sm : Nat → FieldType := fun k => match k with
  | 0 => .array .int
  | 1 => .array .int
  | 2 => .int
  | 3 => .int
  | 4 => .int
  | 5 => .int
  | 6 => .boolean
  | _ => .boolean
theorem n_Sm : ∀ a, a < 8 → ∀ b, b < 8 → a ≠ b → (T_Sm a).2.1 ≠ (T_Sm b).2.1 := by decide +kernel
theorem t_Sm_ok : ∀ k, k < 8 → parseFieldDescriptor (T_Sm k).2.2.1 = some (t_Sm k) := by decide +kernel
theorem u_Sm : ∀ w ∈ u_ws R_Sm T_Sm 8, w ∈ zTb := List.forall_mem_cons.mpr ⟨z1_110, List.forall_mem_cons.mpr ⟨z1_112, List.forall_mem_cons.mpr ⟨z1_114, List.forall_mem_cons.mpr ⟨z1_116, List.forall_mem_cons.mpr ⟨z1_118, List.forall_mem_cons.mpr ⟨z1_120, List.forall_mem_cons.mpr ⟨z1_122, List.forall_mem_cons.mpr ⟨z1_124, fun _ h => nomatch h⟩⟩⟩⟩⟩⟩⟩⟩
abbrev R_Wi : String := "StreamWatch$Wire"
def T_Wi : u_T := fun k => match k with
  | 0 => ("StreamWatch$Wire", "bytes", "[I", true)
  | _ => ("StreamWatch$Wire", "count", "I", false)
def t_Wi : Nat → FieldType := fun k => match k with
  | 0 => .array .int
  | _ => .int
theorem n_Wi : ∀ a, a < 2 → ∀ b, b < 2 → a ≠ b → (T_Wi a).2.1 ≠ (T_Wi b).2.1 := by decide +kernel
theorem t_Wi_ok : ∀ k, k < 2 → parseFieldDescriptor (T_Wi k).2.2.1 = some (t_Wi k) := by decide +kernel
theorem u_Wi : ∀ w ∈ u_ws R_Wi T_Wi 2, w ∈ zTb := List.forall_mem_cons.mpr ⟨z1_35, List.forall_mem_cons.mpr ⟨z1_37, fun _ h => nomatch h⟩⟩
abbrev R_Sw : String := "StreamWatch"
def T_Sw : u_T := fun k => match k with
  | 0 => ("StreamWatch", "lastStays", "Z", true)
  | 1 => ("StreamWatch", "line", "LStreamWatch$Wire;", true)
  | 2 => ("StreamWatch", "packet", "LStreamWatch$Packet;", true)
  | 3 => ("StreamWatch", "flows", "LStreamWatch$FlowTable;", true)
  | 4 => ("StreamWatch", "rules", "[LStreamWatch$Rule;", true)
  | 5 => ("StreamWatch", "search", "LStreamWatch$Search;", true)
  | 6 => ("StreamWatch", "log", "LStreamWatch$AlertLog;", true)
  | _ => ("StreamWatch", "ruleCount", "I", false)
def t_Sw : Nat → FieldType := fun k => match k with
  | 0 => .boolean
  | 1 => .object "StreamWatch$Wire"
  | 2 => .object "StreamWatch$Packet"
  | 3 => .object "StreamWatch$FlowTable"
  | 4 => .array (.object "StreamWatch$Rule")
  | 5 => .object "StreamWatch$Search"
  | 6 => .object "StreamWatch$AlertLog"
  | _ => .int
theorem n_Sw : ∀ a, a < 8 → ∀ b, b < 8 → a ≠ b → (T_Sw a).2.1 ≠ (T_Sw b).2.1 := by decide +kernel
theorem t_Sw_ok : ∀ k, k < 8 → parseFieldDescriptor (T_Sw k).2.2.1 = some (t_Sw k) := by decide +kernel
theorem u_Sw : ∀ w ∈ u_ws R_Sw T_Sw 8, w ∈ zTb := List.forall_mem_cons.mpr ⟨z1_220, List.forall_mem_cons.mpr ⟨z1_222, List.forall_mem_cons.mpr ⟨z1_224, List.forall_mem_cons.mpr ⟨z1_226, List.forall_mem_cons.mpr ⟨z1_228, List.forall_mem_cons.mpr ⟨z1_230, List.forall_mem_cons.mpr ⟨z1_232, List.forall_mem_cons.mpr ⟨z1_234, fun _ h => nomatch h⟩⟩⟩⟩⟩⟩⟩⟩
abbrev R_Md : String := "StreamWatchModel"
def T_Md : u_T := fun k => match k with
  | 0 => ("StreamWatchModel", "thrown", "I", false)
  | 1 => ("StreamWatchModel", "last", "Z", false)
  | 2 => ("StreamWatchModel", "length", "I", false)
  | 3 => ("StreamWatchModel", "wire", "[I", false)
  | 4 => ("StreamWatchModel", "used", "[Z", false)
  | 5 => ("StreamWatchModel", "clientHost", "[I", false)
  | 6 => ("StreamWatchModel", "clientPort", "[I", false)
  | 7 => ("StreamWatchModel", "serverHost", "[I", false)
  | 8 => ("StreamWatchModel", "serverPort", "[I", false)
  | 9 => ("StreamWatchModel", "heard", "[I", false)
  | 10 => ("StreamWatchModel", "clock", "I", false)
  | 11 => ("StreamWatchModel", "begun", "[Z", false)
  | 12 => ("StreamWatchModel", "next", "[I", false)
  | 13 => ("StreamWatchModel", "ended", "[Z", false)
  | 14 => ("StreamWatchModel", "size", "[I", false)
  | 15 => ("StreamWatchModel", "text", "[I", false)
  | 16 => ("StreamWatchModel", "holds", "[Z", false)
  | 17 => ("StreamWatchModel", "heldByte", "[I", false)
  | 18 => ("StreamWatchModel", "raised", "[Z", false)
  | 19 => ("StreamWatchModel", "rules", "I", false)
  | 20 => ("StreamWatchModel", "ruleWay", "[I", false)
  | 21 => ("StreamWatchModel", "rulePort", "[I", false)
  | 22 => ("StreamWatchModel", "options", "[I", false)
  | 23 => ("StreamWatchModel", "contentSize", "[I", false)
  | 24 => ("StreamWatchModel", "content", "[I", false)
  | 25 => ("StreamWatchModel", "marks", "[I", false)
  | 26 => ("StreamWatchModel", "least", "[I", false)
  | 27 => ("StreamWatchModel", "span", "[I", false)
  | 28 => ("StreamWatchModel", "tried", "I", false)
  | 29 => ("StreamWatchModel", "level", "[I", false)
  | 30 => ("StreamWatchModel", "place", "[I", false)
  | 31 => ("StreamWatchModel", "alerts", "I", false)
  | _ => ("StreamWatchModel", "alert", "[I", false)
def t_Md : Nat → FieldType := fun k => match k with
  | 0 => .int
  | 1 => .boolean
  | 2 => .int
  | 3 => .array .int
  | 4 => .array .boolean
  | 5 => .array .int
  | 6 => .array .int
  | 7 => .array .int
  | 8 => .array .int
  | 9 => .array .int
  | 10 => .int
  | 11 => .array .boolean
  | 12 => .array .int
  | 13 => .array .boolean
  | 14 => .array .int
  | 15 => .array .int
  | 16 => .array .boolean
  | 17 => .array .int
  | 18 => .array .boolean
  | 19 => .int
  | 20 => .array .int
  | 21 => .array .int
  | 22 => .array .int
  | 23 => .array .int
  | 24 => .array .int
  | 25 => .array .int
  | 26 => .array .int
  | 27 => .array .int
  | 28 => .int
  | 29 => .array .int
  | 30 => .array .int
  | 31 => .int
  | _ => .array .int
theorem n_Md : ∀ a, a < 33 → ∀ b, b < 33 → a ≠ b → (T_Md a).2.1 ≠ (T_Md b).2.1 := by decide +kernel
theorem t_Md_ok : ∀ k, k < 33 → parseFieldDescriptor (T_Md k).2.2.1 = some (t_Md k) := by decide +kernel
theorem u_Md : ∀ w ∈ u_ws R_Md T_Md 33, w ∈ zTb := List.forall_mem_cons.mpr ⟨z4_98, List.forall_mem_cons.mpr ⟨z4_100, List.forall_mem_cons.mpr ⟨z4_102, List.forall_mem_cons.mpr ⟨z4_104, List.forall_mem_cons.mpr ⟨z4_106, List.forall_mem_cons.mpr ⟨z4_108, List.forall_mem_cons.mpr ⟨z4_110, List.forall_mem_cons.mpr ⟨z4_112, List.forall_mem_cons.mpr ⟨z4_114, List.forall_mem_cons.mpr ⟨z4_116, List.forall_mem_cons.mpr ⟨z4_118, List.forall_mem_cons.mpr ⟨z4_120, List.forall_mem_cons.mpr ⟨z4_122, List.forall_mem_cons.mpr ⟨z4_124, List.forall_mem_cons.mpr ⟨z4_126, List.forall_mem_cons.mpr ⟨z4_128, List.forall_mem_cons.mpr ⟨z4_130, List.forall_mem_cons.mpr ⟨z4_132, List.forall_mem_cons.mpr ⟨z4_134, List.forall_mem_cons.mpr ⟨z4_136, List.forall_mem_cons.mpr ⟨z4_138, List.forall_mem_cons.mpr ⟨z4_140, List.forall_mem_cons.mpr ⟨z4_142, List.forall_mem_cons.mpr ⟨z4_144, List.forall_mem_cons.mpr ⟨z4_146, List.forall_mem_cons.mpr ⟨z4_148, List.forall_mem_cons.mpr ⟨z4_150, List.forall_mem_cons.mpr ⟨z4_152, List.forall_mem_cons.mpr ⟨z4_154, List.forall_mem_cons.mpr ⟨z4_156, List.forall_mem_cons.mpr ⟨z4_158, List.forall_mem_cons.mpr ⟨z4_160, List.forall_mem_cons.mpr ⟨z4_162, fun _ h => nomatch h⟩⟩⟩⟩⟩⟩⟩⟩⟩⟩⟩⟩⟩⟩⟩⟩⟩⟩⟩⟩⟩⟩⟩⟩⟩⟩⟩⟩⟩⟩⟩⟩⟩
abbrev zCl : List vw_C := [(R_Al, T_Al, 3), (R_Fl, T_Fl, 8), (R_Ft, T_Ft, 2), (R_Mk, T_Mk, 3), (R_Op, T_Op, 7), (R_Pk, T_Pk, 8), (R_Ru, T_Ru, 4), (R_Se, T_Se, 2), (R_Sm, T_Sm, 8), (R_Wi, T_Wi, 2), (R_Sw, T_Sw, 8), (R_Md, T_Md, 33)]
abbrev zTy : List FieldType := [.int, .boolean, .long, .object "StreamWatch$Flow", .object "StreamWatch$Rule", .object "StreamWatch$Option"]
abbrev zG : mj_G := (zCl, zTb, zTy)
abbrev c_Al_init : ByteArray := prog_2_method_1_code
abbrev m_Al_init : mj_N := (⟨"StreamWatch$AlertLog", "<init>", "()V"⟩, c_Al_init, 1, none)
abbrev c_Al_total : ByteArray := prog_2_method_2_code
abbrev m_Al_total : mj_N := (⟨"StreamWatch$AlertLog", "total", "()I"⟩, c_Al_total, 1, some .int)
abbrev c_Al_add : ByteArray := prog_2_method_3_code
abbrev m_Al_add : mj_N := (⟨"StreamWatch$AlertLog", "add", "(IIII)V"⟩, c_Al_add, 6, none)
abbrev c_Al_read : ByteArray := prog_2_method_4_code
abbrev m_Al_read : mj_N := (⟨"StreamWatch$AlertLog", "read", "(II)I"⟩, c_Al_read, 5, some .int)
abbrev c_Fl_init : ByteArray := prog_3_method_1_code
abbrev m_Fl_init : mj_N := (⟨"StreamWatch$Flow", "<init>", "()V"⟩, c_Fl_init, 1, none)
abbrev c_Fl_isLive : ByteArray := prog_3_method_2_code
abbrev m_Fl_isLive : mj_N := (⟨"StreamWatch$Flow", "isLive", "()Z"⟩, c_Fl_isLive, 1, some .boolean)
abbrev c_Fl_open : ByteArray := prog_3_method_3_code
abbrev m_Fl_open : mj_N := (⟨"StreamWatch$Flow", "open", "(LStreamWatch$Packet;)V"⟩, c_Fl_open, 2, none)
abbrev c_Fl_free : ByteArray := prog_3_method_4_code
abbrev m_Fl_free : mj_N := (⟨"StreamWatch$Flow", "free", "()V"⟩, c_Fl_free, 1, none)
abbrev c_Fl_freeIfBothEnded : ByteArray := prog_3_method_5_code
abbrev m_Fl_freeIfBothEnded : mj_N := (⟨"StreamWatch$Flow", "freeIfBothEnded", "()V"⟩, c_Fl_freeIfBothEnded, 1, none)
abbrev c_Fl_wayOf : ByteArray := prog_3_method_6_code
abbrev m_Fl_wayOf : mj_N := (⟨"StreamWatch$Flow", "wayOf", "(LStreamWatch$Packet;)I"⟩, c_Fl_wayOf, 4, some .int)
abbrev c_Fl_streamOf : ByteArray := prog_3_method_7_code
abbrev m_Fl_streamOf : mj_N := (⟨"StreamWatch$Flow", "streamOf", "(I)LStreamWatch$Stream;"⟩, c_Fl_streamOf, 2, some (.object "StreamWatch$Stream"))
abbrev c_Fl_isClient : ByteArray := prog_3_method_8_code
abbrev m_Fl_isClient : mj_N := (⟨"StreamWatch$Flow", "isClient", "(II)Z"⟩, c_Fl_isClient, 3, some .boolean)
abbrev c_Fl_isServer : ByteArray := prog_3_method_9_code
abbrev m_Fl_isServer : mj_N := (⟨"StreamWatch$Flow", "isServer", "(II)Z"⟩, c_Fl_isServer, 3, some .boolean)
abbrev c_Ft_init : ByteArray := prog_4_method_1_code
abbrev m_Ft_init : mj_N := (⟨"StreamWatch$FlowTable", "<init>", "()V"⟩, c_Ft_init, 2, none)
abbrev c_Ft_at : ByteArray := prog_4_method_2_code
abbrev m_Ft_at : mj_N := (⟨"StreamWatch$FlowTable", "at", "(I)LStreamWatch$Flow;"⟩, c_Ft_at, 2, some (.object "StreamWatch$Flow"))
abbrev c_Ft_of : ByteArray := prog_4_method_3_code
abbrev m_Ft_of : mj_N := (⟨"StreamWatch$FlowTable", "of", "(LStreamWatch$Packet;)LStreamWatch$Flow;"⟩, c_Ft_of, 4, some (.object "StreamWatch$Flow"))
abbrev c_Ft_open : ByteArray := prog_4_method_4_code
abbrev m_Ft_open : mj_N := (⟨"StreamWatch$FlowTable", "open", "(LStreamWatch$Packet;)LStreamWatch$Flow;"⟩, c_Ft_open, 4, some (.object "StreamWatch$Flow"))
abbrev c_Ft_hear : ByteArray := prog_4_method_5_code
abbrev m_Ft_hear : mj_N := (⟨"StreamWatch$FlowTable", "hear", "(LStreamWatch$Flow;)V"⟩, c_Ft_hear, 2, none)
abbrev c_Ft_heardAfter : ByteArray := prog_4_method_6_code
abbrev m_Ft_heardAfter : mj_N := (⟨"StreamWatch$FlowTable", "heardAfter", "(LStreamWatch$Flow;)I"⟩, c_Ft_heardAfter, 5, some .int)
abbrev c_Mk_init : ByteArray := prog_5_method_1_code
abbrev m_Mk_init : mj_N := (⟨"StreamWatch$Marks", "<init>", "()V"⟩, c_Mk_init, 1, none)
abbrev c_Mk_markStartOnly : ByteArray := prog_5_method_2_code
abbrev m_Mk_markStartOnly : mj_N := (⟨"StreamWatch$Marks", "markStartOnly", "(I)V"⟩, c_Mk_markStartOnly, 3, none)
abbrev c_Mk_set : ByteArray := prog_5_method_3_code
abbrev m_Mk_set : mj_N := (⟨"StreamWatch$Marks", "set", "(IZ)V"⟩, c_Mk_set, 3, none)
abbrev c_Mk_has : ByteArray := prog_5_method_4_code
abbrev m_Mk_has : mj_N := (⟨"StreamWatch$Marks", "has", "(I)Z"⟩, c_Mk_has, 2, some .boolean)
abbrev c_Mk_settle : ByteArray := prog_5_method_5_code
abbrev m_Mk_settle : mj_N := (⟨"StreamWatch$Marks", "settle", "(I)V"⟩, c_Mk_settle, 4, none)
abbrev c_Mk_isAnyIn : ByteArray := prog_5_method_6_code
abbrev m_Mk_isAnyIn : mj_N := (⟨"StreamWatch$Marks", "isAnyIn", "(II)Z"⟩, c_Mk_isAnyIn, 4, some .boolean)
abbrev c_Op_init : ByteArray := prog_6_method_1_code
abbrev m_Op_init : mj_N := (⟨"StreamWatch$Option", "<init>", "(IJIII)V"⟩, c_Op_init, 7, none)
abbrev c_Op_standsAt : ByteArray := prog_6_method_2_code
abbrev m_Op_standsAt : mj_N := (⟨"StreamWatch$Option", "standsAt", "(ILStreamWatch$Stream;)Z"⟩, c_Op_standsAt, 5, some .boolean)
abbrev c_Op_folded : ByteArray := prog_6_method_3_code
abbrev m_Op_folded : mj_N := (⟨"StreamWatch$Option", "folded", "(I)I"⟩, c_Op_folded, 2, some .int)
abbrev c_Pk_init : ByteArray := prog_7_method_1_code
abbrev m_Pk_init : mj_N := (⟨"StreamWatch$Packet", "<init>", "()V"⟩, c_Pk_init, 1, none)
abbrev c_Pk_read : ByteArray := prog_7_method_2_code
abbrev m_Pk_read : mj_N := (⟨"StreamWatch$Packet", "read", "(LStreamWatch$Wire;)V"⟩, c_Pk_read, 3, none)
abbrev c_Pk_hasFlag : ByteArray := prog_7_method_3_code
abbrev m_Pk_hasFlag : mj_N := (⟨"StreamWatch$Packet", "hasFlag", "(I)Z"⟩, c_Pk_hasFlag, 2, some .boolean)
abbrev c_Ru_init : ByteArray := prog_8_method_1_code
abbrev m_Ru_init : mj_N := (⟨"StreamWatch$Rule", "<init>", "(II)V"⟩, c_Ru_init, 3, none)
abbrev c_Ru_size : ByteArray := prog_8_method_2_code
abbrev m_Ru_size : mj_N := (⟨"StreamWatch$Rule", "size", "()I"⟩, c_Ru_size, 1, some .int)
abbrev c_Ru_add : ByteArray := prog_8_method_3_code
abbrev m_Ru_add : mj_N := (⟨"StreamWatch$Rule", "add", "(LStreamWatch$Option;)V"⟩, c_Ru_add, 2, none)
abbrev c_Ru_at : ByteArray := prog_8_method_4_code
abbrev m_Ru_at : mj_N := (⟨"StreamWatch$Rule", "at", "(I)LStreamWatch$Option;"⟩, c_Ru_at, 2, some (.object "StreamWatch$Option"))
abbrev c_Ru_isFor : ByteArray := prog_8_method_5_code
abbrev m_Ru_isFor : mj_N := (⟨"StreamWatch$Rule", "isFor", "(II)Z"⟩, c_Ru_isFor, 4, some .boolean)
abbrev c_Se_init : ByteArray := prog_9_method_1_code
abbrev m_Se_init : mj_N := (⟨"StreamWatch$Search", "<init>", "()V"⟩, c_Se_init, 1, none)
abbrev c_Se_holds : ByteArray := prog_9_method_2_code
abbrev m_Se_holds : mj_N := (⟨"StreamWatch$Search", "holds", "(LStreamWatch$Rule;LStreamWatch$Stream;)Z"⟩, c_Se_holds, 7, some .boolean)
abbrev c_Se_find : ByteArray := prog_9_method_3_code
abbrev m_Se_find : mj_N := (⟨"StreamWatch$Search", "find", "(LStreamWatch$Option;LStreamWatch$Stream;)V"⟩, c_Se_find, 5, none)
abbrev c_Se_dropBases : ByteArray := prog_9_method_4_code
abbrev m_Se_dropBases : mj_N := (⟨"StreamWatch$Search", "dropBases", "(LStreamWatch$Option;I)V"⟩, c_Se_dropBases, 5, none)
abbrev c_Se_moveBases : ByteArray := prog_9_method_5_code
abbrev m_Se_moveBases : mj_N := (⟨"StreamWatch$Search", "moveBases", "(LStreamWatch$Option;I)V"⟩, c_Se_moveBases, 6, none)
abbrev c_Sm_init : ByteArray := prog_10_method_1_code
abbrev m_Sm_init : mj_N := (⟨"StreamWatch$Stream", "<init>", "()V"⟩, c_Sm_init, 1, none)
abbrev c_Sm_reset : ByteArray := prog_10_method_2_code
abbrev m_Sm_reset : mj_N := (⟨"StreamWatch$Stream", "reset", "()V"⟩, c_Sm_reset, 1, none)
abbrev c_Sm_begin : ByteArray := prog_10_method_3_code
abbrev m_Sm_begin : mj_N := (⟨"StreamWatch$Stream", "begin", "(I)V"⟩, c_Sm_begin, 2, none)
abbrev c_Sm_hold : ByteArray := prog_10_method_4_code
abbrev m_Sm_hold : mj_N := (⟨"StreamWatch$Stream", "hold", "(IIZ)V"⟩, c_Sm_hold, 6, none)
abbrev c_Sm_isNextHeld : ByteArray := prog_10_method_5_code
abbrev m_Sm_isNextHeld : mj_N := (⟨"StreamWatch$Stream", "isNextHeld", "()Z"⟩, c_Sm_isNextHeld, 1, some .boolean)
abbrev c_Sm_takeNext : ByteArray := prog_10_method_6_code
abbrev m_Sm_takeNext : mj_N := (⟨"StreamWatch$Stream", "takeNext", "()Z"⟩, c_Sm_takeNext, 3, some .boolean)
abbrev c_Sm_end : ByteArray := prog_10_method_7_code
abbrev m_Sm_end : mj_N := (⟨"StreamWatch$Stream", "end", "()V"⟩, c_Sm_end, 1, none)
abbrev c_Sm_hasEnded : ByteArray := prog_10_method_8_code
abbrev m_Sm_hasEnded : mj_N := (⟨"StreamWatch$Stream", "hasEnded", "()Z"⟩, c_Sm_hasEnded, 1, some .boolean)
abbrev c_Sm_size : ByteArray := prog_10_method_9_code
abbrev m_Sm_size : mj_N := (⟨"StreamWatch$Stream", "size", "()I"⟩, c_Sm_size, 1, some .int)
abbrev c_Sm_next : ByteArray := prog_10_method_10_code
abbrev m_Sm_next : mj_N := (⟨"StreamWatch$Stream", "next", "()I"⟩, c_Sm_next, 1, some .int)
abbrev c_Sm_heldCount : ByteArray := prog_10_method_11_code
abbrev m_Sm_heldCount : mj_N := (⟨"StreamWatch$Stream", "heldCount", "()I"⟩, c_Sm_heldCount, 1, some .int)
abbrev c_Sm_byteAt : ByteArray := prog_10_method_12_code
abbrev m_Sm_byteAt : mj_N := (⟨"StreamWatch$Stream", "byteAt", "(I)I"⟩, c_Sm_byteAt, 2, some .int)
abbrev c_Sm_hasRaised : ByteArray := prog_10_method_13_code
abbrev m_Sm_hasRaised : mj_N := (⟨"StreamWatch$Stream", "hasRaised", "(I)Z"⟩, c_Sm_hasRaised, 2, some .boolean)
abbrev c_Sm_setRaised : ByteArray := prog_10_method_14_code
abbrev m_Sm_setRaised : mj_N := (⟨"StreamWatch$Stream", "setRaised", "(I)V"⟩, c_Sm_setRaised, 2, none)
abbrev c_Sm_emptyWindow : ByteArray := prog_10_method_15_code
abbrev m_Sm_emptyWindow : mj_N := (⟨"StreamWatch$Stream", "emptyWindow", "()V"⟩, c_Sm_emptyWindow, 2, none)
abbrev c_Sm_placeOf : ByteArray := prog_10_method_16_code
abbrev m_Sm_placeOf : mj_N := (⟨"StreamWatch$Stream", "placeOf", "(I)I"⟩, c_Sm_placeOf, 1, some .int)
abbrev c_Wi_init : ByteArray := prog_11_method_1_code
abbrev m_Wi_init : mj_N := (⟨"StreamWatch$Wire", "<init>", "()V"⟩, c_Wi_init, 1, none)
abbrev c_Wi_size : ByteArray := prog_11_method_2_code
abbrev m_Wi_size : mj_N := (⟨"StreamWatch$Wire", "size", "()I"⟩, c_Wi_size, 1, some .int)
abbrev c_Wi_has : ByteArray := prog_11_method_3_code
abbrev m_Wi_has : mj_N := (⟨"StreamWatch$Wire", "has", "(I)Z"⟩, c_Wi_has, 2, some .boolean)
abbrev c_Wi_at : ByteArray := prog_11_method_4_code
abbrev m_Wi_at : mj_N := (⟨"StreamWatch$Wire", "at", "(I)I"⟩, c_Wi_at, 2, some .int)
abbrev c_Wi_clear : ByteArray := prog_11_method_5_code
abbrev m_Wi_clear : mj_N := (⟨"StreamWatch$Wire", "clear", "()V"⟩, c_Wi_clear, 1, none)
abbrev c_Wi_flip : ByteArray := prog_11_method_6_code
abbrev m_Wi_flip : mj_N := (⟨"StreamWatch$Wire", "flip", "(II)Z"⟩, c_Wi_flip, 3, some .boolean)
abbrev c_Wi_append : ByteArray := prog_11_method_7_code
abbrev m_Wi_append : mj_N := (⟨"StreamWatch$Wire", "append", "(IJ)Z"⟩, c_Wi_append, 5, some .boolean)
abbrev c_Wi_fault : ByteArray := prog_11_method_8_code
abbrev m_Wi_fault : mj_N := (⟨"StreamWatch$Wire", "fault", "(Z)I"⟩, c_Wi_fault, 2, some .int)
abbrev c_Wi_makeSumsRight : ByteArray := prog_11_method_9_code
abbrev m_Wi_makeSumsRight : mj_N := (⟨"StreamWatch$Wire", "makeSumsRight", "()V"⟩, c_Wi_makeSumsRight, 2, none)
abbrev c_Wi_ipSize : ByteArray := prog_11_method_10_code
abbrev m_Wi_ipSize : mj_N := (⟨"StreamWatch$Wire", "ipSize", "()I"⟩, c_Wi_ipSize, 1, some .int)
abbrev c_Wi_length : ByteArray := prog_11_method_11_code
abbrev m_Wi_length : mj_N := (⟨"StreamWatch$Wire", "length", "()I"⟩, c_Wi_length, 1, some .int)
abbrev c_Wi_dataStart : ByteArray := prog_11_method_12_code
abbrev m_Wi_dataStart : mj_N := (⟨"StreamWatch$Wire", "dataStart", "()I"⟩, c_Wi_dataStart, 1, some .int)
abbrev c_Wi_pairAt : ByteArray := prog_11_method_13_code
abbrev m_Wi_pairAt : mj_N := (⟨"StreamWatch$Wire", "pairAt", "(I)I"⟩, c_Wi_pairAt, 2, some .int)
abbrev c_Wi_quadAt : ByteArray := prog_11_method_14_code
abbrev m_Wi_quadAt : mj_N := (⟨"StreamWatch$Wire", "quadAt", "(I)I"⟩, c_Wi_quadAt, 2, some .int)
abbrev c_Wi_tcpWords : ByteArray := prog_11_method_15_code
abbrev m_Wi_tcpWords : mj_N := (⟨"StreamWatch$Wire", "tcpWords", "()I"⟩, c_Wi_tcpWords, 1, some .int)
abbrev c_Wi_ipSum : ByteArray := prog_11_method_16_code
abbrev m_Wi_ipSum : mj_N := (⟨"StreamWatch$Wire", "ipSum", "()I"⟩, c_Wi_ipSum, 1, some .int)
abbrev c_Wi_tcpSum : ByteArray := prog_11_method_17_code
abbrev m_Wi_tcpSum : mj_N := (⟨"StreamWatch$Wire", "tcpSum", "()I"⟩, c_Wi_tcpSum, 2, some .int)
abbrev c_Wi_sumOf : ByteArray := prog_11_method_18_code
abbrev m_Wi_sumOf : mj_N := (⟨"StreamWatch$Wire", "sumOf", "(III)I"⟩, c_Wi_sumOf, 7, some .int)
abbrev c_Wi_addToSum : ByteArray := prog_11_method_19_code
abbrev m_Wi_addToSum : mj_N := (⟨"StreamWatch$Wire", "addToSum", "(II)I"⟩, c_Wi_addToSum, 3, some .int)
abbrev c_Wi_setPair : ByteArray := prog_11_method_20_code
abbrev m_Wi_setPair : mj_N := (⟨"StreamWatch$Wire", "setPair", "(II)V"⟩, c_Wi_setPair, 3, none)
abbrev c_Sw_init : ByteArray := prog_1_method_1_code
abbrev m_Sw_init : mj_N := (⟨"StreamWatch", "<init>", "(I)V"⟩, c_Sw_init, 2, none)
abbrev c_Sw_craft : ByteArray := prog_1_method_2_code
abbrev m_Sw_craft : mj_N := (⟨"StreamWatch", "craft", "(IIIIIJ)I"⟩, c_Sw_craft, 8, some .int)
abbrev c_Sw_alter : ByteArray := prog_1_method_3_code
abbrev m_Sw_alter : mj_N := (⟨"StreamWatch", "alter", "(II)Z"⟩, c_Sw_alter, 3, some .boolean)
abbrev c_Sw_wipe : ByteArray := prog_1_method_4_code
abbrev m_Sw_wipe : mj_N := (⟨"StreamWatch", "wipe", "()V"⟩, c_Sw_wipe, 1, none)
abbrev c_Sw_put : ByteArray := prog_1_method_5_code
abbrev m_Sw_put : mj_N := (⟨"StreamWatch", "put", "(IJ)Z"⟩, c_Sw_put, 4, some .boolean)
abbrev c_Sw_seal : ByteArray := prog_1_method_6_code
abbrev m_Sw_seal : mj_N := (⟨"StreamWatch", "seal", "()Z"⟩, c_Sw_seal, 1, some .boolean)
abbrev c_Sw_wire : ByteArray := prog_1_method_7_code
abbrev m_Sw_wire : mj_N := (⟨"StreamWatch", "wire", "(I)I"⟩, c_Sw_wire, 2, some .int)
abbrev c_Sw_watch : ByteArray := prog_1_method_8_code
abbrev m_Sw_watch : mj_N := (⟨"StreamWatch", "watch", "()I"⟩, c_Sw_watch, 4, some .int)
abbrev c_Sw_rule : ByteArray := prog_1_method_9_code
abbrev m_Sw_rule : mj_N := (⟨"StreamWatch", "rule", "(II)I"⟩, c_Sw_rule, 3, some .int)
abbrev c_Sw_option : ByteArray := prog_1_method_10_code
abbrev m_Sw_option : mj_N := (⟨"StreamWatch", "option", "(IJIII)I"⟩, c_Sw_option, 8, some .int)
abbrev c_Sw_flow : ByteArray := prog_1_method_11_code
abbrev m_Sw_flow : mj_N := (⟨"StreamWatch", "flow", "(II)I"⟩, c_Sw_flow, 4, some .int)
abbrev c_Sw_stream : ByteArray := prog_1_method_12_code
abbrev m_Sw_stream : mj_N := (⟨"StreamWatch", "stream", "(III)I"⟩, c_Sw_stream, 5, some .int)
abbrev c_Sw_text : ByteArray := prog_1_method_13_code
abbrev m_Sw_text : mj_N := (⟨"StreamWatch", "text", "(III)I"⟩, c_Sw_text, 5, some .int)
abbrev c_Sw_alerts : ByteArray := prog_1_method_14_code
abbrev m_Sw_alerts : mj_N := (⟨"StreamWatch", "alerts", "()I"⟩, c_Sw_alerts, 1, some .int)
abbrev c_Sw_alert : ByteArray := prog_1_method_15_code
abbrev m_Sw_alert : mj_N := (⟨"StreamWatch", "alert", "(II)I"⟩, c_Sw_alert, 3, some .int)
abbrev c_Sw_writeIpHeader : ByteArray := prog_1_method_16_code
abbrev m_Sw_writeIpHeader : mj_N := (⟨"StreamWatch", "writeIpHeader", "(III)V"⟩, c_Sw_writeIpHeader, 5, none)
abbrev c_Sw_writeTcpHeader : ByteArray := prog_1_method_17_code
abbrev m_Sw_writeTcpHeader : mj_N := (⟨"StreamWatch", "writeTcpHeader", "(IIII)V"⟩, c_Sw_writeTcpHeader, 6, none)
abbrev c_Sw_flowOfPacket : ByteArray := prog_1_method_18_code
abbrev m_Sw_flowOfPacket : mj_N := (⟨"StreamWatch", "flowOfPacket", "()LStreamWatch$Flow;"⟩, c_Sw_flowOfPacket, 3, some (.object "StreamWatch$Flow"))
abbrev c_Sw_receive : ByteArray := prog_1_method_19_code
abbrev m_Sw_receive : mj_N := (⟨"StreamWatch", "receive", "(LStreamWatch$Flow;I)V"⟩, c_Sw_receive, 5, none)
abbrev c_Sw_holdData : ByteArray := prog_1_method_20_code
abbrev m_Sw_holdData : mj_N := (⟨"StreamWatch", "holdData", "(LStreamWatch$Stream;)V"⟩, c_Sw_holdData, 3, none)
abbrev c_Sw_raiseAlerts : ByteArray := prog_1_method_21_code
abbrev m_Sw_raiseAlerts : mj_N := (⟨"StreamWatch", "raiseAlerts", "(LStreamWatch$Flow;LStreamWatch$Stream;I)V"⟩, c_Sw_raiseAlerts, 6, none)
abbrev c_Sw_ruleAt : ByteArray := prog_1_method_22_code
abbrev m_Sw_ruleAt : mj_N := (⟨"StreamWatch", "ruleAt", "(I)LStreamWatch$Rule;"⟩, c_Sw_ruleAt, 2, some (.object "StreamWatch$Rule"))
abbrev c_Sw_streamAt : ByteArray := prog_1_method_23_code
abbrev m_Sw_streamAt : mj_N := (⟨"StreamWatch", "streamAt", "(II)LStreamWatch$Stream;"⟩, c_Sw_streamAt, 4, some (.object "StreamWatch$Stream"))
abbrev c_Md_init : ByteArray := prog_13_method_1_code
abbrev m_Md_init : mj_N := (⟨"StreamWatchModel", "<init>", "(I)V"⟩, c_Md_init, 2, none)
abbrev c_Md_thrown : ByteArray := prog_13_method_2_code
abbrev m_Md_thrown : mj_N := (⟨"StreamWatchModel", "thrown", "()I"⟩, c_Md_thrown, 1, some .int)
abbrev c_Md_add : ByteArray := prog_13_method_3_code
abbrev m_Md_add : mj_N := (⟨"StreamWatchModel", "add", "(I)V"⟩, c_Md_add, 2, none)
abbrev c_Md_addNumber : ByteArray := prog_13_method_4_code
abbrev m_Md_addNumber : mj_N := (⟨"StreamWatchModel", "addNumber", "(II)V"⟩, c_Md_addNumber, 4, none)
abbrev c_Md_craft : ByteArray := prog_13_method_5_code
abbrev m_Md_craft : mj_N := (⟨"StreamWatchModel", "craft", "(IIIIIJ)I"⟩, c_Md_craft, 11, some .int)
abbrev c_Md_alter : ByteArray := prog_13_method_6_code
abbrev m_Md_alter : mj_N := (⟨"StreamWatchModel", "alter", "(II)Z"⟩, c_Md_alter, 3, some .boolean)
abbrev c_Md_wipe : ByteArray := prog_13_method_7_code
abbrev m_Md_wipe : mj_N := (⟨"StreamWatchModel", "wipe", "()V"⟩, c_Md_wipe, 1, none)
abbrev c_Md_put : ByteArray := prog_13_method_8_code
abbrev m_Md_put : mj_N := (⟨"StreamWatchModel", "put", "(IJ)Z"⟩, c_Md_put, 5, some .boolean)
abbrev c_Md_wire : ByteArray := prog_13_method_9_code
abbrev m_Md_wire : mj_N := (⟨"StreamWatchModel", "wire", "(I)I"⟩, c_Md_wire, 2, some .int)
abbrev c_Md_pair : ByteArray := prog_13_method_10_code
abbrev m_Md_pair : mj_N := (⟨"StreamWatchModel", "pair", "(I)I"⟩, c_Md_pair, 2, some .int)
abbrev c_Md_four : ByteArray := prog_13_method_11_code
abbrev m_Md_four : mj_N := (⟨"StreamWatchModel", "four", "(I)I"⟩, c_Md_four, 2, some .int)
abbrev c_Md_total : ByteArray := prog_13_method_12_code
abbrev m_Md_total : mj_N := (⟨"StreamWatchModel", "total", "(II)I"⟩, c_Md_total, 5, some .int)
abbrev c_Md_folded : ByteArray := prog_13_method_13_code
abbrev m_Md_folded : mj_N := (⟨"StreamWatchModel", "folded", "(I)I"⟩, c_Md_folded, 3, some .int)
abbrev c_Md_headerSize : ByteArray := prog_13_method_14_code
abbrev m_Md_headerSize : mj_N := (⟨"StreamWatchModel", "headerSize", "()I"⟩, c_Md_headerSize, 1, some .int)
abbrev c_Md_headerSum : ByteArray := prog_13_method_15_code
abbrev m_Md_headerSum : mj_N := (⟨"StreamWatchModel", "headerSum", "()I"⟩, c_Md_headerSum, 1, some .int)
abbrev c_Md_partSum : ByteArray := prog_13_method_16_code
abbrev m_Md_partSum : mj_N := (⟨"StreamWatchModel", "partSum", "()I"⟩, c_Md_partSum, 3, some .int)
abbrev c_Md_reason : ByteArray := prog_13_method_17_code
abbrev m_Md_reason : mj_N := (⟨"StreamWatchModel", "reason", "(Z)I"⟩, c_Md_reason, 5, some .int)
abbrev c_Md_close : ByteArray := prog_13_method_18_code
abbrev m_Md_close : mj_N := (⟨"StreamWatchModel", "close", "()V"⟩, c_Md_close, 3, none)
abbrev c_Md_seal : ByteArray := prog_13_method_19_code
abbrev m_Md_seal : mj_N := (⟨"StreamWatchModel", "seal", "()Z"⟩, c_Md_seal, 1, some .boolean)
abbrev c_Md_rule : ByteArray := prog_13_method_20_code
abbrev m_Md_rule : mj_N := (⟨"StreamWatchModel", "rule", "(II)I"⟩, c_Md_rule, 3, some .int)
abbrev c_Md_option : ByteArray := prog_13_method_21_code
abbrev m_Md_option : mj_N := (⟨"StreamWatchModel", "option", "(IJIII)I"⟩, c_Md_option, 9, some .int)
abbrev c_Md_upper : ByteArray := prog_13_method_22_code
abbrev m_Md_upper : mj_N := (⟨"StreamWatchModel", "upper", "(I)I"⟩, c_Md_upper, 1, some .int)
abbrev c_Md_found : ByteArray := prog_13_method_23_code
abbrev m_Md_found : mj_N := (⟨"StreamWatchModel", "found", "(IIII)Z"⟩, c_Md_found, 11, some .boolean)
abbrev c_Md_base : ByteArray := prog_13_method_24_code
abbrev m_Md_base : mj_N := (⟨"StreamWatchModel", "base", "(II)I"⟩, c_Md_base, 3, some .int)
abbrev c_Md_clean : ByteArray := prog_13_method_25_code
abbrev m_Md_clean : mj_N := (⟨"StreamWatchModel", "clean", "(II)Z"⟩, c_Md_clean, 8, some .boolean)
abbrev c_Md_holdsOn : ByteArray := prog_13_method_26_code
abbrev m_Md_holdsOn : mj_N := (⟨"StreamWatchModel", "holdsOn", "(II)Z"⟩, c_Md_holdsOn, 4, some .boolean)
abbrev c_Md_look : ByteArray := prog_13_method_27_code
abbrev m_Md_look : mj_N := (⟨"StreamWatchModel", "look", "(I)I"⟩, c_Md_look, 7, some .int)
abbrev c_Md_begin : ByteArray := prog_13_method_28_code
abbrev m_Md_begin : mj_N := (⟨"StreamWatchModel", "begin", "(II)V"⟩, c_Md_begin, 5, none)
abbrev c_Md_room : ByteArray := prog_13_method_29_code
abbrev m_Md_room : mj_N := (⟨"StreamWatchModel", "room", "()I"⟩, c_Md_room, 3, some .int)
abbrev c_Md_find : ByteArray := prog_13_method_30_code
abbrev m_Md_find : mj_N := (⟨"StreamWatchModel", "find", "(I)I"⟩, c_Md_find, 7, some .int)
abbrev c_Md_hold : ByteArray := prog_13_method_31_code
abbrev m_Md_hold : mj_N := (⟨"StreamWatchModel", "hold", "(III)V"⟩, c_Md_hold, 6, none)
abbrev c_Md_grow : ByteArray := prog_13_method_32_code
abbrev m_Md_grow : mj_N := (⟨"StreamWatchModel", "grow", "(I)I"⟩, c_Md_grow, 6, some .int)
abbrev c_Md_watch : ByteArray := prog_13_method_33_code
abbrev m_Md_watch : mj_N := (⟨"StreamWatchModel", "watch", "()I"⟩, c_Md_watch, 11, some .int)
abbrev c_Md_isFlow : ByteArray := prog_13_method_34_code
abbrev m_Md_isFlow : mj_N := (⟨"StreamWatchModel", "isFlow", "(I)Z"⟩, c_Md_isFlow, 2, some .boolean)
abbrev c_Md_flow : ByteArray := prog_13_method_35_code
abbrev m_Md_flow : mj_N := (⟨"StreamWatchModel", "flow", "(II)I"⟩, c_Md_flow, 5, some .int)
abbrev c_Md_stream : ByteArray := prog_13_method_36_code
abbrev m_Md_stream : mj_N := (⟨"StreamWatchModel", "stream", "(III)I"⟩, c_Md_stream, 7, some .int)
abbrev c_Md_text : ByteArray := prog_13_method_37_code
abbrev m_Md_text : mj_N := (⟨"StreamWatchModel", "text", "(III)I"⟩, c_Md_text, 4, some .int)
abbrev c_Md_alerts : ByteArray := prog_13_method_38_code
abbrev m_Md_alerts : mj_N := (⟨"StreamWatchModel", "alerts", "()I"⟩, c_Md_alerts, 1, some .int)
abbrev c_Md_alert : ByteArray := prog_13_method_39_code
abbrev m_Md_alert : mj_N := (⟨"StreamWatchModel", "alert", "(II)I"⟩, c_Md_alert, 3, some .int)
abbrev c_Lw_cell : ByteArray := method_2_code
abbrev m_Lw_cell : mj_N := (⟨"StreamWatchLaw", "cell", "([II)I"⟩, c_Lw_cell, 2, some .int)
