section
-- ===== PART A: goes FIRST, ahead of the names: the tables' words, and 'selects' of the private methods out of them =====
/-- a private method of a class that the tables say can be made, by its rows of tables_1 -/
def lw_okq (q : MethodName × Nat) : Prop := (q.1.cls ≠ "java/lang/invoke/MethodHandle" ∧ q.1.cls ≠ "java/lang/invoke/VarHandle") ∧ Cond.instantiable q.1.cls q.2 ∈ tables_1 ∧ Cond.privateMethod q.1 ∈ tables_1 ∧ Cond.instanceMethod q.1 ∈ tables_1
theorem lw_p0 : lw_okq (⟨"SixBitBoard", "punchTape", "(I)V"⟩, 8) := ⟨⟨by decide +kernel, by decide +kernel⟩, List.mem_of_getElem? (i := 28) (by decide +kernel), List.mem_of_getElem? (i := 544) (by decide +kernel), List.mem_of_getElem? (i := 545) (by decide +kernel)⟩
theorem lw_p1 : lw_okq (⟨"SixBitBoard", "useUpTape", "()I"⟩, 8) := ⟨⟨by decide +kernel, by decide +kernel⟩, List.mem_of_getElem? (i := 28) (by decide +kernel), List.mem_of_getElem? (i := 556) (by decide +kernel), List.mem_of_getElem? (i := 557) (by decide +kernel)⟩
theorem lw_p2 : lw_okq (⟨"SixBitBoard$Assembler", "takeApart", "()I"⟩, 20) := ⟨⟨by decide +kernel, by decide +kernel⟩, List.mem_of_getElem? (i := 252) (by decide +kernel), List.mem_of_getElem? (i := 718) (by decide +kernel), List.mem_of_getElem? (i := 719) (by decide +kernel)⟩
theorem lw_p3 : lw_okq (⟨"SixBitBoard$Parser", "token", "()I"⟩, 10) := ⟨⟨by decide +kernel, by decide +kernel⟩, List.mem_of_getElem? (i := 317) (by decide +kernel), List.mem_of_getElem? (i := 730) (by decide +kernel), List.mem_of_getElem? (i := 731) (by decide +kernel)⟩
theorem lw_p4 : lw_okq (⟨"SixBitBoard$Assembler", "findOp", "()I"⟩, 20) := ⟨⟨by decide +kernel, by decide +kernel⟩, List.mem_of_getElem? (i := 252) (by decide +kernel), List.mem_of_getElem? (i := 740) (by decide +kernel), List.mem_of_getElem? (i := 741) (by decide +kernel)⟩
theorem lw_p5 : lw_okq (⟨"SixBitBoard$Assembler", "workInstruction", "()I"⟩, 20) := ⟨⟨by decide +kernel, by decide +kernel⟩, List.mem_of_getElem? (i := 252) (by decide +kernel), List.mem_of_getElem? (i := 769) (by decide +kernel), List.mem_of_getElem? (i := 770) (by decide +kernel)⟩
theorem lw_p6 : lw_okq (⟨"SixBitBoard$Parser", "atom", "()I"⟩, 10) := ⟨⟨by decide +kernel, by decide +kernel⟩, List.mem_of_getElem? (i := 317) (by decide +kernel), List.mem_of_getElem? (i := 789) (by decide +kernel), List.mem_of_getElem? (i := 790) (by decide +kernel)⟩
theorem lw_p7 : lw_okq (⟨"SixBitBoard$Parser", "operatorSize", "()I"⟩, 10) := ⟨⟨by decide +kernel, by decide +kernel⟩, List.mem_of_getElem? (i := 317) (by decide +kernel), List.mem_of_getElem? (i := 814) (by decide +kernel), List.mem_of_getElem? (i := 815) (by decide +kernel)⟩
theorem lw_p8 : lw_okq (⟨"SixBitBoard$Parser", "combine", "(JIJ)I"⟩, 10) := ⟨⟨by decide +kernel, by decide +kernel⟩, List.mem_of_getElem? (i := 317) (by decide +kernel), List.mem_of_getElem? (i := 822) (by decide +kernel), List.mem_of_getElem? (i := 823) (by decide +kernel)⟩
theorem lw_p9 : lw_okq (⟨"SixBitBoard$Assembler", "define", "(I)V"⟩, 20) := ⟨⟨by decide +kernel, by decide +kernel⟩, List.mem_of_getElem? (i := 252) (by decide +kernel), List.mem_of_getElem? (i := 869) (by decide +kernel), List.mem_of_getElem? (i := 870) (by decide +kernel)⟩
theorem lw_p10 : lw_okq (⟨"SixBitBoard$Assembler", "put", "(I)V"⟩, 20) := ⟨⟨by decide +kernel, by decide +kernel⟩, List.mem_of_getElem? (i := 252) (by decide +kernel), List.mem_of_getElem? (i := 893) (by decide +kernel), List.mem_of_getElem? (i := 894) (by decide +kernel)⟩
theorem lw_p11 : lw_okq (⟨"SixBitBoard$Assembler", "lay", "(I)V"⟩, 20) := ⟨⟨by decide +kernel, by decide +kernel⟩, List.mem_of_getElem? (i := 252) (by decide +kernel), List.mem_of_getElem? (i := 897) (by decide +kernel), List.mem_of_getElem? (i := 898) (by decide +kernel)⟩
theorem lw_p12 : lw_okq (⟨"SixBitBoard$Assembler", "workEnd", "()I"⟩, 20) := ⟨⟨by decide +kernel, by decide +kernel⟩, List.mem_of_getElem? (i := 252) (by decide +kernel), List.mem_of_getElem? (i := 901) (by decide +kernel), List.mem_of_getElem? (i := 902) (by decide +kernel)⟩
theorem lw_p13 : lw_okq (⟨"SixBitBoard$Assembler", "placeComing", "()I"⟩, 20) := ⟨⟨by decide +kernel, by decide +kernel⟩, List.mem_of_getElem? (i := 252) (by decide +kernel), List.mem_of_getElem? (i := 905) (by decide +kernel), List.mem_of_getElem? (i := 906) (by decide +kernel)⟩
theorem lw_p14 : lw_okq (⟨"SixBitBoard$Assembler", "forgetComing", "()V"⟩, 20) := ⟨⟨by decide +kernel, by decide +kernel⟩, List.mem_of_getElem? (i := 252) (by decide +kernel), List.mem_of_getElem? (i := 912) (by decide +kernel), List.mem_of_getElem? (i := 913) (by decide +kernel)⟩
theorem lw_p15 : lw_okq (⟨"SixBitBoard$Assembler", "hasWideUse", "()Z"⟩, 20) := ⟨⟨by decide +kernel, by decide +kernel⟩, List.mem_of_getElem? (i := 252) (by decide +kernel), List.mem_of_getElem? (i := 916) (by decide +kernel), List.mem_of_getElem? (i := 917) (by decide +kernel)⟩
def lw_privs_1 : List (MethodName × Nat) := [(⟨"SixBitBoard", "punchTape", "(I)V"⟩, 8), (⟨"SixBitBoard", "useUpTape", "()I"⟩, 8), (⟨"SixBitBoard$Assembler", "takeApart", "()I"⟩, 20), (⟨"SixBitBoard$Parser", "token", "()I"⟩, 10), (⟨"SixBitBoard$Assembler", "findOp", "()I"⟩, 20), (⟨"SixBitBoard$Assembler", "workInstruction", "()I"⟩, 20), (⟨"SixBitBoard$Parser", "atom", "()I"⟩, 10), (⟨"SixBitBoard$Parser", "operatorSize", "()I"⟩, 10), (⟨"SixBitBoard$Parser", "combine", "(JIJ)I"⟩, 10), (⟨"SixBitBoard$Assembler", "define", "(I)V"⟩, 20), (⟨"SixBitBoard$Assembler", "put", "(I)V"⟩, 20), (⟨"SixBitBoard$Assembler", "lay", "(I)V"⟩, 20), (⟨"SixBitBoard$Assembler", "workEnd", "()I"⟩, 20), (⟨"SixBitBoard$Assembler", "placeComing", "()I"⟩, 20), (⟨"SixBitBoard$Assembler", "forgetComing", "()V"⟩, 20), (⟨"SixBitBoard$Assembler", "hasWideUse", "()Z"⟩, 20)]
theorem lw_r1 : ∀ q ∈ lw_privs_1, lw_okq q := List.forall_mem_cons.mpr ⟨lw_p0, List.forall_mem_cons.mpr ⟨lw_p1, List.forall_mem_cons.mpr ⟨lw_p2, List.forall_mem_cons.mpr ⟨lw_p3, List.forall_mem_cons.mpr ⟨lw_p4, List.forall_mem_cons.mpr ⟨lw_p5, List.forall_mem_cons.mpr ⟨lw_p6, List.forall_mem_cons.mpr ⟨lw_p7, List.forall_mem_cons.mpr ⟨lw_p8, List.forall_mem_cons.mpr ⟨lw_p9, List.forall_mem_cons.mpr ⟨lw_p10, List.forall_mem_cons.mpr ⟨lw_p11, List.forall_mem_cons.mpr ⟨lw_p12, List.forall_mem_cons.mpr ⟨lw_p13, List.forall_mem_cons.mpr ⟨lw_p14, List.forall_mem_cons.mpr ⟨lw_p15, fun _ h => absurd h List.not_mem_nil⟩⟩⟩⟩⟩⟩⟩⟩⟩⟩⟩⟩⟩⟩⟩⟩
theorem lw_p16 : lw_okq (⟨"SixBitBoard$Assembler", "layComing", "()V"⟩, 20) := ⟨⟨by decide +kernel, by decide +kernel⟩, List.mem_of_getElem? (i := 252) (by decide +kernel), List.mem_of_getElem? (i := 921) (by decide +kernel), List.mem_of_getElem? (i := 922) (by decide +kernel)⟩
theorem lw_p17 : lw_okq (⟨"SixBitBoard$Assembler", "workOther", "()I"⟩, 20) := ⟨⟨by decide +kernel, by decide +kernel⟩, List.mem_of_getElem? (i := 252) (by decide +kernel), List.mem_of_getElem? (i := 926) (by decide +kernel), List.mem_of_getElem? (i := 927) (by decide +kernel)⟩
theorem lw_p18 : lw_okq (⟨"SixBitBoard", "advance", "(IZ)I"⟩, 8) := ⟨⟨by decide +kernel, by decide +kernel⟩, List.mem_of_getElem? (i := 28) (by decide +kernel), List.mem_of_getElem? (i := 990) (by decide +kernel), List.mem_of_getElem? (i := 991) (by decide +kernel)⟩
theorem lw_p19 : lw_okq (⟨"SixBitBoard$Machine", "isAddress", "(I)Z"⟩, 16) := ⟨⟨by decide +kernel, by decide +kernel⟩, List.mem_of_getElem? (i := 182) (by decide +kernel), List.mem_of_getElem? (i := 998) (by decide +kernel), List.mem_of_getElem? (i := 999) (by decide +kernel)⟩
theorem lw_p20 : lw_okq (⟨"SixBitBoard$Machine", "stop", "(I)V"⟩, 16) := ⟨⟨by decide +kernel, by decide +kernel⟩, List.mem_of_getElem? (i := 182) (by decide +kernel), List.mem_of_getElem? (i := 1002) (by decide +kernel), List.mem_of_getElem? (i := 1003) (by decide +kernel)⟩
theorem lw_p21 : lw_okq (⟨"SixBitBoard$Machine", "interrupt", "(I)V"⟩, 16) := ⟨⟨by decide +kernel, by decide +kernel⟩, List.mem_of_getElem? (i := 182) (by decide +kernel), List.mem_of_getElem? (i := 1006) (by decide +kernel), List.mem_of_getElem? (i := 1007) (by decide +kernel)⟩
theorem lw_p22 : lw_okq (⟨"SixBitBoard$Machine", "save", "(II)V"⟩, 16) := ⟨⟨by decide +kernel, by decide +kernel⟩, List.mem_of_getElem? (i := 182) (by decide +kernel), List.mem_of_getElem? (i := 1010) (by decide +kernel), List.mem_of_getElem? (i := 1011) (by decide +kernel)⟩
theorem lw_p23 : lw_okq (⟨"SixBitBoard$Units", "firstDone", "(J)I"⟩, 13) := ⟨⟨by decide +kernel, by decide +kernel⟩, List.mem_of_getElem? (i := 83) (by decide +kernel), List.mem_of_getElem? (i := 1018) (by decide +kernel), List.mem_of_getElem? (i := 1019) (by decide +kernel)⟩
theorem lw_p24 : lw_okq (⟨"SixBitBoard$Units", "isAhead", "(II)Z"⟩, 13) := ⟨⟨by decide +kernel, by decide +kernel⟩, List.mem_of_getElem? (i := 83) (by decide +kernel), List.mem_of_getElem? (i := 1022) (by decide +kernel), List.mem_of_getElem? (i := 1023) (by decide +kernel)⟩
theorem lw_p25 : lw_okq (⟨"SixBitBoard$Machine", "load", "(I)I"⟩, 16) := ⟨⟨by decide +kernel, by decide +kernel⟩, List.mem_of_getElem? (i := 182) (by decide +kernel), List.mem_of_getElem? (i := 1029) (by decide +kernel), List.mem_of_getElem? (i := 1030) (by decide +kernel)⟩
theorem lw_p26 : lw_okq (⟨"SixBitBoard$Machine", "decode", "()Z"⟩, 16) := ⟨⟨by decide +kernel, by decide +kernel⟩, List.mem_of_getElem? (i := 182) (by decide +kernel), List.mem_of_getElem? (i := 1033) (by decide +kernel), List.mem_of_getElem? (i := 1034) (by decide +kernel)⟩
theorem lw_p27 : lw_okq (⟨"SixBitBoard$Machine", "cost", "()I"⟩, 16) := ⟨⟨by decide +kernel, by decide +kernel⟩, List.mem_of_getElem? (i := 182) (by decide +kernel), List.mem_of_getElem? (i := 1052) (by decide +kernel), List.mem_of_getElem? (i := 1053) (by decide +kernel)⟩
theorem lw_p28 : lw_okq (⟨"SixBitBoard$Machine", "faultAhead", "()I"⟩, 16) := ⟨⟨by decide +kernel, by decide +kernel⟩, List.mem_of_getElem? (i := 182) (by decide +kernel), List.mem_of_getElem? (i := 1056) (by decide +kernel), List.mem_of_getElem? (i := 1057) (by decide +kernel)⟩
theorem lw_p29 : lw_okq (⟨"SixBitBoard$Machine", "areAddresses", "(II)Z"⟩, 16) := ⟨⟨by decide +kernel, by decide +kernel⟩, List.mem_of_getElem? (i := 182) (by decide +kernel), List.mem_of_getElem? (i := 1060) (by decide +kernel), List.mem_of_getElem? (i := 1061) (by decide +kernel)⟩
theorem lw_p30 : lw_okq (⟨"SixBitBoard$Machine", "faultOfField", "()I"⟩, 16) := ⟨⟨by decide +kernel, by decide +kernel⟩, List.mem_of_getElem? (i := 182) (by decide +kernel), List.mem_of_getElem? (i := 1064) (by decide +kernel), List.mem_of_getElem? (i := 1065) (by decide +kernel)⟩
theorem lw_p31 : lw_okq (⟨"SixBitBoard$Machine", "entered", "()I"⟩, 16) := ⟨⟨by decide +kernel, by decide +kernel⟩, List.mem_of_getElem? (i := 182) (by decide +kernel), List.mem_of_getElem? (i := 1076) (by decide +kernel), List.mem_of_getElem? (i := 1077) (by decide +kernel)⟩
def lw_privs_2 : List (MethodName × Nat) := [(⟨"SixBitBoard$Assembler", "layComing", "()V"⟩, 20), (⟨"SixBitBoard$Assembler", "workOther", "()I"⟩, 20), (⟨"SixBitBoard", "advance", "(IZ)I"⟩, 8), (⟨"SixBitBoard$Machine", "isAddress", "(I)Z"⟩, 16), (⟨"SixBitBoard$Machine", "stop", "(I)V"⟩, 16), (⟨"SixBitBoard$Machine", "interrupt", "(I)V"⟩, 16), (⟨"SixBitBoard$Machine", "save", "(II)V"⟩, 16), (⟨"SixBitBoard$Units", "firstDone", "(J)I"⟩, 13), (⟨"SixBitBoard$Units", "isAhead", "(II)Z"⟩, 13), (⟨"SixBitBoard$Machine", "load", "(I)I"⟩, 16), (⟨"SixBitBoard$Machine", "decode", "()Z"⟩, 16), (⟨"SixBitBoard$Machine", "cost", "()I"⟩, 16), (⟨"SixBitBoard$Machine", "faultAhead", "()I"⟩, 16), (⟨"SixBitBoard$Machine", "areAddresses", "(II)Z"⟩, 16), (⟨"SixBitBoard$Machine", "faultOfField", "()I"⟩, 16), (⟨"SixBitBoard$Machine", "entered", "()I"⟩, 16)]
theorem lw_r2 : ∀ q ∈ lw_privs_2, lw_okq q := List.forall_mem_cons.mpr ⟨lw_p16, List.forall_mem_cons.mpr ⟨lw_p17, List.forall_mem_cons.mpr ⟨lw_p18, List.forall_mem_cons.mpr ⟨lw_p19, List.forall_mem_cons.mpr ⟨lw_p20, List.forall_mem_cons.mpr ⟨lw_p21, List.forall_mem_cons.mpr ⟨lw_p22, List.forall_mem_cons.mpr ⟨lw_p23, List.forall_mem_cons.mpr ⟨lw_p24, List.forall_mem_cons.mpr ⟨lw_p25, List.forall_mem_cons.mpr ⟨lw_p26, List.forall_mem_cons.mpr ⟨lw_p27, List.forall_mem_cons.mpr ⟨lw_p28, List.forall_mem_cons.mpr ⟨lw_p29, List.forall_mem_cons.mpr ⟨lw_p30, List.forall_mem_cons.mpr ⟨lw_p31, fun _ h => absurd h List.not_mem_nil⟩⟩⟩⟩⟩⟩⟩⟩⟩⟩⟩⟩⟩⟩⟩⟩
theorem lw_p32 : lw_okq (⟨"SixBitBoard$Machine", "faultOfUnit", "()I"⟩, 16) := ⟨⟨by decide +kernel, by decide +kernel⟩, List.mem_of_getElem? (i := 182) (by decide +kernel), List.mem_of_getElem? (i := 1083) (by decide +kernel), List.mem_of_getElem? (i := 1084) (by decide +kernel)⟩
theorem lw_p33 : lw_okq (⟨"SixBitBoard$Machine", "jumps", "()Z"⟩, 16) := ⟨⟨by decide +kernel, by decide +kernel⟩, List.mem_of_getElem? (i := 182) (by decide +kernel), List.mem_of_getElem? (i := 1096) (by decide +kernel), List.mem_of_getElem? (i := 1097) (by decide +kernel)⟩
theorem lw_p34 : lw_okq (⟨"SixBitBoard$Machine", "perform", "(J)V"⟩, 16) := ⟨⟨by decide +kernel, by decide +kernel⟩, List.mem_of_getElem? (i := 182) (by decide +kernel), List.mem_of_getElem? (i := 1108) (by decide +kernel), List.mem_of_getElem? (i := 1109) (by decide +kernel)⟩
theorem lw_p35 : lw_okq (⟨"SixBitBoard$Machine", "reckon", "(I)V"⟩, 16) := ⟨⟨by decide +kernel, by decide +kernel⟩, List.mem_of_getElem? (i := 182) (by decide +kernel), List.mem_of_getElem? (i := 1113) (by decide +kernel), List.mem_of_getElem? (i := 1114) (by decide +kernel)⟩
theorem lw_p36 : lw_okq (⟨"SixBitBoard$Machine", "add", "(II)V"⟩, 16) := ⟨⟨by decide +kernel, by decide +kernel⟩, List.mem_of_getElem? (i := 182) (by decide +kernel), List.mem_of_getElem? (i := 1117) (by decide +kernel), List.mem_of_getElem? (i := 1118) (by decide +kernel)⟩
theorem lw_p37 : lw_okq (⟨"SixBitBoard$Machine", "convert", "()V"⟩, 16) := ⟨⟨by decide +kernel, by decide +kernel⟩, List.mem_of_getElem? (i := 182) (by decide +kernel), List.mem_of_getElem? (i := 1123) (by decide +kernel), List.mem_of_getElem? (i := 1124) (by decide +kernel)⟩
theorem lw_p38 : lw_okq (⟨"SixBitBoard$Machine", "spread", "(J)V"⟩, 16) := ⟨⟨by decide +kernel, by decide +kernel⟩, List.mem_of_getElem? (i := 182) (by decide +kernel), List.mem_of_getElem? (i := 1128) (by decide +kernel), List.mem_of_getElem? (i := 1129) (by decide +kernel)⟩
theorem lw_p39 : lw_okq (⟨"SixBitBoard$Machine", "returnToNormal", "()V"⟩, 16) := ⟨⟨by decide +kernel, by decide +kernel⟩, List.mem_of_getElem? (i := 182) (by decide +kernel), List.mem_of_getElem? (i := 1132) (by decide +kernel), List.mem_of_getElem? (i := 1133) (by decide +kernel)⟩
theorem lw_p40 : lw_okq (⟨"SixBitBoard$Machine", "shift", "()V"⟩, 16) := ⟨⟨by decide +kernel, by decide +kernel⟩, List.mem_of_getElem? (i := 182) (by decide +kernel), List.mem_of_getElem? (i := 1138) (by decide +kernel), List.mem_of_getElem? (i := 1139) (by decide +kernel)⟩
theorem lw_p41 : lw_okq (⟨"SixBitBoard$Machine", "move", "()V"⟩, 16) := ⟨⟨by decide +kernel, by decide +kernel⟩, List.mem_of_getElem? (i := 182) (by decide +kernel), List.mem_of_getElem? (i := 1142) (by decide +kernel), List.mem_of_getElem? (i := 1143) (by decide +kernel)⟩
theorem lw_p42 : lw_okq (⟨"SixBitBoard$Units", "turn", "(II)V"⟩, 13) := ⟨⟨by decide +kernel, by decide +kernel⟩, List.mem_of_getElem? (i := 83) (by decide +kernel), List.mem_of_getElem? (i := 1152) (by decide +kernel), List.mem_of_getElem? (i := 1153) (by decide +kernel)⟩
theorem lw_p43 : lw_okq (⟨"SixBitBoard$Units", "read", "(III)V"⟩, 13) := ⟨⟨by decide +kernel, by decide +kernel⟩, List.mem_of_getElem? (i := 83) (by decide +kernel), List.mem_of_getElem? (i := 1160) (by decide +kernel), List.mem_of_getElem? (i := 1161) (by decide +kernel)⟩
theorem lw_p44 : lw_okq (⟨"SixBitBoard$Units", "blockAt", "(II)I"⟩, 13) := ⟨⟨by decide +kernel, by decide +kernel⟩, List.mem_of_getElem? (i := 83) (by decide +kernel), List.mem_of_getElem? (i := 1170) (by decide +kernel), List.mem_of_getElem? (i := 1171) (by decide +kernel)⟩
theorem lw_p45 : lw_okq (⟨"SixBitBoard$Units", "writeBlock", "(III)V"⟩, 13) := ⟨⟨by decide +kernel, by decide +kernel⟩, List.mem_of_getElem? (i := 83) (by decide +kernel), List.mem_of_getElem? (i := 1178) (by decide +kernel), List.mem_of_getElem? (i := 1179) (by decide +kernel)⟩
theorem lw_p46 : lw_okq (⟨"SixBitBoard$Units", "wordAt", "(I)I"⟩, 13) := ⟨⟨by decide +kernel, by decide +kernel⟩, List.mem_of_getElem? (i := 83) (by decide +kernel), List.mem_of_getElem? (i := 1182) (by decide +kernel), List.mem_of_getElem? (i := 1183) (by decide +kernel)⟩
theorem lw_p47 : lw_okq (⟨"SixBitBoard$Units", "writeLine", "(LSixBitBoard$Paper;II)V"⟩, 13) := ⟨⟨by decide +kernel, by decide +kernel⟩, List.mem_of_getElem? (i := 83) (by decide +kernel), List.mem_of_getElem? (i := 1194) (by decide +kernel), List.mem_of_getElem? (i := 1195) (by decide +kernel)⟩
def lw_privs_3 : List (MethodName × Nat) := [(⟨"SixBitBoard$Machine", "faultOfUnit", "()I"⟩, 16), (⟨"SixBitBoard$Machine", "jumps", "()Z"⟩, 16), (⟨"SixBitBoard$Machine", "perform", "(J)V"⟩, 16), (⟨"SixBitBoard$Machine", "reckon", "(I)V"⟩, 16), (⟨"SixBitBoard$Machine", "add", "(II)V"⟩, 16), (⟨"SixBitBoard$Machine", "convert", "()V"⟩, 16), (⟨"SixBitBoard$Machine", "spread", "(J)V"⟩, 16), (⟨"SixBitBoard$Machine", "returnToNormal", "()V"⟩, 16), (⟨"SixBitBoard$Machine", "shift", "()V"⟩, 16), (⟨"SixBitBoard$Machine", "move", "()V"⟩, 16), (⟨"SixBitBoard$Units", "turn", "(II)V"⟩, 13), (⟨"SixBitBoard$Units", "read", "(III)V"⟩, 13), (⟨"SixBitBoard$Units", "blockAt", "(II)I"⟩, 13), (⟨"SixBitBoard$Units", "writeBlock", "(III)V"⟩, 13), (⟨"SixBitBoard$Units", "wordAt", "(I)I"⟩, 13), (⟨"SixBitBoard$Units", "writeLine", "(LSixBitBoard$Paper;II)V"⟩, 13)]
theorem lw_r3 : ∀ q ∈ lw_privs_3, lw_okq q := List.forall_mem_cons.mpr ⟨lw_p32, List.forall_mem_cons.mpr ⟨lw_p33, List.forall_mem_cons.mpr ⟨lw_p34, List.forall_mem_cons.mpr ⟨lw_p35, List.forall_mem_cons.mpr ⟨lw_p36, List.forall_mem_cons.mpr ⟨lw_p37, List.forall_mem_cons.mpr ⟨lw_p38, List.forall_mem_cons.mpr ⟨lw_p39, List.forall_mem_cons.mpr ⟨lw_p40, List.forall_mem_cons.mpr ⟨lw_p41, List.forall_mem_cons.mpr ⟨lw_p42, List.forall_mem_cons.mpr ⟨lw_p43, List.forall_mem_cons.mpr ⟨lw_p44, List.forall_mem_cons.mpr ⟨lw_p45, List.forall_mem_cons.mpr ⟨lw_p46, List.forall_mem_cons.mpr ⟨lw_p47, fun _ h => absurd h List.not_mem_nil⟩⟩⟩⟩⟩⟩⟩⟩⟩⟩⟩⟩⟩⟩⟩⟩
theorem lw_p48 : lw_okq (⟨"SixBitBoard$Machine", "enter", "(I)V"⟩, 16) := ⟨⟨by decide +kernel, by decide +kernel⟩, List.mem_of_getElem? (i := 182) (by decide +kernel), List.mem_of_getElem? (i := 1203) (by decide +kernel), List.mem_of_getElem? (i := 1204) (by decide +kernel)⟩
theorem lw_p49 : lw_okq (⟨"SixBitBoard$Report", "printInstruction", "(II)V"⟩, 4) := ⟨⟨by decide +kernel, by decide +kernel⟩, List.mem_of_getElem? (i := 429) (by decide +kernel), List.mem_of_getElem? (i := 1225) (by decide +kernel), List.mem_of_getElem? (i := 1226) (by decide +kernel)⟩
theorem lw_p50 : lw_okq (⟨"SixBitBoard$Report", "wordAt", "(I)I"⟩, 4) := ⟨⟨by decide +kernel, by decide +kernel⟩, List.mem_of_getElem? (i := 429) (by decide +kernel), List.mem_of_getElem? (i := 1257) (by decide +kernel), List.mem_of_getElem? (i := 1258) (by decide +kernel)⟩
theorem lw_p51 : lw_okq (⟨"SixBitBoard$Report", "punchWord", "(II)V"⟩, 4) := ⟨⟨by decide +kernel, by decide +kernel⟩, List.mem_of_getElem? (i := 429) (by decide +kernel), List.mem_of_getElem? (i := 1261) (by decide +kernel), List.mem_of_getElem? (i := 1262) (by decide +kernel)⟩
theorem lw_p52 : lw_okq (⟨"SixBitBoard", "tapeWord", "(II)I"⟩, 8) := ⟨⟨by decide +kernel, by decide +kernel⟩, List.mem_of_getElem? (i := 28) (by decide +kernel), List.mem_of_getElem? (i := 1326) (by decide +kernel), List.mem_of_getElem? (i := 1327) (by decide +kernel)⟩
theorem lw_p53 : lw_okq (⟨"SixBitBoard$Monitor", "isJob", "()Z"⟩, 16) := ⟨⟨by decide +kernel, by decide +kernel⟩, List.mem_of_getElem? (i := 448) (by decide +kernel), List.mem_of_getElem? (i := 1341) (by decide +kernel), List.mem_of_getElem? (i := 1342) (by decide +kernel)⟩
theorem lw_p54 : lw_okq (⟨"SixBitBoard$Monitor", "optionsAt", "(I)I"⟩, 16) := ⟨⟨by decide +kernel, by decide +kernel⟩, List.mem_of_getElem? (i := 448) (by decide +kernel), List.mem_of_getElem? (i := 1359) (by decide +kernel), List.mem_of_getElem? (i := 1360) (by decide +kernel)⟩
theorem lw_p55 : lw_okq (⟨"SixBitBoard$Monitor", "openBody", "()I"⟩, 16) := ⟨⟨by decide +kernel, by decide +kernel⟩, List.mem_of_getElem? (i := 448) (by decide +kernel), List.mem_of_getElem? (i := 1384) (by decide +kernel), List.mem_of_getElem? (i := 1385) (by decide +kernel)⟩
theorem lw_p56 : lw_okq (⟨"SixBitBoard$Monitor", "isCard", "(Ljava/lang/String;)Z"⟩, 16) := ⟨⟨by decide +kernel, by decide +kernel⟩, List.mem_of_getElem? (i := 448) (by decide +kernel), List.mem_of_getElem? (i := 1389) (by decide +kernel), List.mem_of_getElem? (i := 1390) (by decide +kernel)⟩
theorem lw_p57 : lw_okq (⟨"SixBitBoard$Monitor", "openData", "()I"⟩, 16) := ⟨⟨by decide +kernel, by decide +kernel⟩, List.mem_of_getElem? (i := 448) (by decide +kernel), List.mem_of_getElem? (i := 1393) (by decide +kernel), List.mem_of_getElem? (i := 1394) (by decide +kernel)⟩
theorem lw_p58 : lw_okq (⟨"SixBitBoard", "layJob", "()I"⟩, 8) := ⟨⟨by decide +kernel, by decide +kernel⟩, List.mem_of_getElem? (i := 28) (by decide +kernel), List.mem_of_getElem? (i := 1404) (by decide +kernel), List.mem_of_getElem? (i := 1405) (by decide +kernel)⟩
theorem lw_p59 : lw_okq (⟨"SixBitBoard", "layData", "()V"⟩, 8) := ⟨⟨by decide +kernel, by decide +kernel⟩, List.mem_of_getElem? (i := 28) (by decide +kernel), List.mem_of_getElem? (i := 1413) (by decide +kernel), List.mem_of_getElem? (i := 1414) (by decide +kernel)⟩
theorem lw_p60 : lw_okq (⟨"SixBitBoard", "printSource", "()V"⟩, 8) := ⟨⟨by decide +kernel, by decide +kernel⟩, List.mem_of_getElem? (i := 28) (by decide +kernel), List.mem_of_getElem? (i := 1438) (by decide +kernel), List.mem_of_getElem? (i := 1439) (by decide +kernel)⟩
theorem lw_p61 : lw_okq (⟨"SixBitBoard", "runJob", "()I"⟩, 8) := ⟨⟨by decide +kernel, by decide +kernel⟩, List.mem_of_getElem? (i := 28) (by decide +kernel), List.mem_of_getElem? (i := 1446) (by decide +kernel), List.mem_of_getElem? (i := 1447) (by decide +kernel)⟩
theorem lw_p62 : lw_okq (⟨"SixBitBoard", "closeJob", "(I)V"⟩, 8) := ⟨⟨by decide +kernel, by decide +kernel⟩, List.mem_of_getElem? (i := 28) (by decide +kernel), List.mem_of_getElem? (i := 1454) (by decide +kernel), List.mem_of_getElem? (i := 1455) (by decide +kernel)⟩
theorem lw_p63 : lw_okq (⟨"java/lang/Throwable", "fillInStackTrace", "(I)Ljava/lang/Throwable;"⟩, 6) := ⟨⟨by decide +kernel, by decide +kernel⟩, List.mem_of_getElem? (i := 1572) (by decide +kernel), List.mem_of_getElem? (i := 1570) (by decide +kernel), List.mem_of_getElem? (i := 1571) (by decide +kernel)⟩
def lw_privs_4 : List (MethodName × Nat) := [(⟨"SixBitBoard$Machine", "enter", "(I)V"⟩, 16), (⟨"SixBitBoard$Report", "printInstruction", "(II)V"⟩, 4), (⟨"SixBitBoard$Report", "wordAt", "(I)I"⟩, 4), (⟨"SixBitBoard$Report", "punchWord", "(II)V"⟩, 4), (⟨"SixBitBoard", "tapeWord", "(II)I"⟩, 8), (⟨"SixBitBoard$Monitor", "isJob", "()Z"⟩, 16), (⟨"SixBitBoard$Monitor", "optionsAt", "(I)I"⟩, 16), (⟨"SixBitBoard$Monitor", "openBody", "()I"⟩, 16), (⟨"SixBitBoard$Monitor", "isCard", "(Ljava/lang/String;)Z"⟩, 16), (⟨"SixBitBoard$Monitor", "openData", "()I"⟩, 16), (⟨"SixBitBoard", "layJob", "()I"⟩, 8), (⟨"SixBitBoard", "layData", "()V"⟩, 8), (⟨"SixBitBoard", "printSource", "()V"⟩, 8), (⟨"SixBitBoard", "runJob", "()I"⟩, 8), (⟨"SixBitBoard", "closeJob", "(I)V"⟩, 8), (⟨"java/lang/Throwable", "fillInStackTrace", "(I)Ljava/lang/Throwable;"⟩, 6)]
theorem lw_r4 : ∀ q ∈ lw_privs_4, lw_okq q := List.forall_mem_cons.mpr ⟨lw_p48, List.forall_mem_cons.mpr ⟨lw_p49, List.forall_mem_cons.mpr ⟨lw_p50, List.forall_mem_cons.mpr ⟨lw_p51, List.forall_mem_cons.mpr ⟨lw_p52, List.forall_mem_cons.mpr ⟨lw_p53, List.forall_mem_cons.mpr ⟨lw_p54, List.forall_mem_cons.mpr ⟨lw_p55, List.forall_mem_cons.mpr ⟨lw_p56, List.forall_mem_cons.mpr ⟨lw_p57, List.forall_mem_cons.mpr ⟨lw_p58, List.forall_mem_cons.mpr ⟨lw_p59, List.forall_mem_cons.mpr ⟨lw_p60, List.forall_mem_cons.mpr ⟨lw_p61, List.forall_mem_cons.mpr ⟨lw_p62, List.forall_mem_cons.mpr ⟨lw_p63, fun _ h => absurd h List.not_mem_nil⟩⟩⟩⟩⟩⟩⟩⟩⟩⟩⟩⟩⟩⟩⟩⟩
theorem lw_p64 : lw_okq (⟨"SixBitBoard", "tapeName", "(I)J"⟩, 8) := ⟨⟨by decide +kernel, by decide +kernel⟩, List.mem_of_getElem? (i := 28) (by decide +kernel), List.mem_of_getElem? (i := 1616) (by decide +kernel), List.mem_of_getElem? (i := 1617) (by decide +kernel)⟩
theorem lw_p65 : lw_okq (⟨"SixBitBoardModel", "lay", "(I)V"⟩, 94) := ⟨⟨by decide +kernel, by decide +kernel⟩, List.mem_of_getElem? (i := 1631) (by decide +kernel), List.mem_of_getElem? (i := 1931) (by decide +kernel), List.mem_of_getElem? (i := 1932) (by decide +kernel)⟩
theorem lw_p66 : lw_okq (⟨"SixBitBoardModel", "copyText", "([BI)V"⟩, 94) := ⟨⟨by decide +kernel, by decide +kernel⟩, List.mem_of_getElem? (i := 1631) (by decide +kernel), List.mem_of_getElem? (i := 1943) (by decide +kernel), List.mem_of_getElem? (i := 1944) (by decide +kernel)⟩
theorem lw_p67 : lw_okq (⟨"SixBitBoardModel", "assembleText", "()Z"⟩, 94) := ⟨⟨by decide +kernel, by decide +kernel⟩, List.mem_of_getElem? (i := 1631) (by decide +kernel), List.mem_of_getElem? (i := 1947) (by decide +kernel), List.mem_of_getElem? (i := 1948) (by decide +kernel)⟩
theorem lw_p68 : lw_okq (⟨"SixBitBoardModel", "clearMachine", "()V"⟩, 94) := ⟨⟨by decide +kernel, by decide +kernel⟩, List.mem_of_getElem? (i := 1631) (by decide +kernel), List.mem_of_getElem? (i := 1951) (by decide +kernel), List.mem_of_getElem? (i := 1952) (by decide +kernel)⟩
theorem lw_p69 : lw_okq (⟨"SixBitBoardModel", "clearMemory", "()V"⟩, 94) := ⟨⟨by decide +kernel, by decide +kernel⟩, List.mem_of_getElem? (i := 1631) (by decide +kernel), List.mem_of_getElem? (i := 1955) (by decide +kernel), List.mem_of_getElem? (i := 1956) (by decide +kernel)⟩
theorem lw_p70 : lw_okq (⟨"SixBitBoardModel", "freeUnits", "()V"⟩, 94) := ⟨⟨by decide +kernel, by decide +kernel⟩, List.mem_of_getElem? (i := 1631) (by decide +kernel), List.mem_of_getElem? (i := 1959) (by decide +kernel), List.mem_of_getElem? (i := 1960) (by decide +kernel)⟩
theorem lw_p71 : lw_okq (⟨"SixBitBoardModel", "clearAssembling", "()V"⟩, 94) := ⟨⟨by decide +kernel, by decide +kernel⟩, List.mem_of_getElem? (i := 1631) (by decide +kernel), List.mem_of_getElem? (i := 1963) (by decide +kernel), List.mem_of_getElem? (i := 1964) (by decide +kernel)⟩
theorem lw_p72 : lw_okq (⟨"SixBitBoardModel", "findLines", "()V"⟩, 94) := ⟨⟨by decide +kernel, by decide +kernel⟩, List.mem_of_getElem? (i := 1631) (by decide +kernel), List.mem_of_getElem? (i := 1967) (by decide +kernel), List.mem_of_getElem? (i := 1968) (by decide +kernel)⟩
theorem lw_p73 : lw_okq (⟨"SixBitBoardModel", "workLine", "()Z"⟩, 94) := ⟨⟨by decide +kernel, by decide +kernel⟩, List.mem_of_getElem? (i := 1631) (by decide +kernel), List.mem_of_getElem? (i := 1974) (by decide +kernel), List.mem_of_getElem? (i := 1975) (by decide +kernel)⟩
theorem lw_p74 : lw_okq (⟨"SixBitBoardModel", "letterAt", "(I)I"⟩, 94) := ⟨⟨by decide +kernel, by decide +kernel⟩, List.mem_of_getElem? (i := 1631) (by decide +kernel), List.mem_of_getElem? (i := 1978) (by decide +kernel), List.mem_of_getElem? (i := 1979) (by decide +kernel)⟩
theorem lw_p75 : lw_okq (⟨"SixBitBoardModel", "isBlank", "(II)Z"⟩, 94) := ⟨⟨by decide +kernel, by decide +kernel⟩, List.mem_of_getElem? (i := 1631) (by decide +kernel), List.mem_of_getElem? (i := 1991) (by decide +kernel), List.mem_of_getElem? (i := 1992) (by decide +kernel)⟩
theorem lw_p76 : lw_okq (⟨"SixBitBoardModel", "areColumns", "()Z"⟩, 94) := ⟨⟨by decide +kernel, by decide +kernel⟩, List.mem_of_getElem? (i := 1631) (by decide +kernel), List.mem_of_getElem? (i := 1995) (by decide +kernel), List.mem_of_getElem? (i := 1996) (by decide +kernel)⟩
theorem lw_p77 : lw_okq (⟨"SixBitBoardModel", "endOf", "(II)I"⟩, 94) := ⟨⟨by decide +kernel, by decide +kernel⟩, List.mem_of_getElem? (i := 1631) (by decide +kernel), List.mem_of_getElem? (i := 1999) (by decide +kernel), List.mem_of_getElem? (i := 2000) (by decide +kernel)⟩
theorem lw_p78 : lw_okq (⟨"SixBitBoardModel", "isName", "(II)Z"⟩, 94) := ⟨⟨by decide +kernel, by decide +kernel⟩, List.mem_of_getElem? (i := 1631) (by decide +kernel), List.mem_of_getElem? (i := 2003) (by decide +kernel), List.mem_of_getElem? (i := 2004) (by decide +kernel)⟩
theorem lw_p79 : lw_okq (⟨"SixBitBoardModel", "localKind", "(II)I"⟩, 94) := ⟨⟨by decide +kernel, by decide +kernel⟩, List.mem_of_getElem? (i := 1631) (by decide +kernel), List.mem_of_getElem? (i := 2013) (by decide +kernel), List.mem_of_getElem? (i := 2014) (by decide +kernel)⟩
def lw_privs_5 : List (MethodName × Nat) := [(⟨"SixBitBoard", "tapeName", "(I)J"⟩, 8), (⟨"SixBitBoardModel", "lay", "(I)V"⟩, 94), (⟨"SixBitBoardModel", "copyText", "([BI)V"⟩, 94), (⟨"SixBitBoardModel", "assembleText", "()Z"⟩, 94), (⟨"SixBitBoardModel", "clearMachine", "()V"⟩, 94), (⟨"SixBitBoardModel", "clearMemory", "()V"⟩, 94), (⟨"SixBitBoardModel", "freeUnits", "()V"⟩, 94), (⟨"SixBitBoardModel", "clearAssembling", "()V"⟩, 94), (⟨"SixBitBoardModel", "findLines", "()V"⟩, 94), (⟨"SixBitBoardModel", "workLine", "()Z"⟩, 94), (⟨"SixBitBoardModel", "letterAt", "(I)I"⟩, 94), (⟨"SixBitBoardModel", "isBlank", "(II)Z"⟩, 94), (⟨"SixBitBoardModel", "areColumns", "()Z"⟩, 94), (⟨"SixBitBoardModel", "endOf", "(II)I"⟩, 94), (⟨"SixBitBoardModel", "isName", "(II)Z"⟩, 94), (⟨"SixBitBoardModel", "localKind", "(II)I"⟩, 94)]
theorem lw_r5 : ∀ q ∈ lw_privs_5, lw_okq q := List.forall_mem_cons.mpr ⟨lw_p64, List.forall_mem_cons.mpr ⟨lw_p65, List.forall_mem_cons.mpr ⟨lw_p66, List.forall_mem_cons.mpr ⟨lw_p67, List.forall_mem_cons.mpr ⟨lw_p68, List.forall_mem_cons.mpr ⟨lw_p69, List.forall_mem_cons.mpr ⟨lw_p70, List.forall_mem_cons.mpr ⟨lw_p71, List.forall_mem_cons.mpr ⟨lw_p72, List.forall_mem_cons.mpr ⟨lw_p73, List.forall_mem_cons.mpr ⟨lw_p74, List.forall_mem_cons.mpr ⟨lw_p75, List.forall_mem_cons.mpr ⟨lw_p76, List.forall_mem_cons.mpr ⟨lw_p77, List.forall_mem_cons.mpr ⟨lw_p78, List.forall_mem_cons.mpr ⟨lw_p79, fun _ h => absurd h List.not_mem_nil⟩⟩⟩⟩⟩⟩⟩⟩⟩⟩⟩⟩⟩⟩⟩⟩
theorem lw_p80 : lw_okq (⟨"SixBitBoardModel", "fail", "(I)V"⟩, 94) := ⟨⟨by decide +kernel, by decide +kernel⟩, List.mem_of_getElem? (i := 1631) (by decide +kernel), List.mem_of_getElem? (i := 2017) (by decide +kernel), List.mem_of_getElem? (i := 2018) (by decide +kernel)⟩
theorem lw_p81 : lw_okq (⟨"SixBitBoardModel", "operation", "(II)I"⟩, 94) := ⟨⟨by decide +kernel, by decide +kernel⟩, List.mem_of_getElem? (i := 1631) (by decide +kernel), List.mem_of_getElem? (i := 2021) (by decide +kernel), List.mem_of_getElem? (i := 2022) (by decide +kernel)⟩
theorem lw_p82 : lw_okq (⟨"SixBitBoardModel", "isThere", "()Z"⟩, 94) := ⟨⟨by decide +kernel, by decide +kernel⟩, List.mem_of_getElem? (i := 1631) (by decide +kernel), List.mem_of_getElem? (i := 2031) (by decide +kernel), List.mem_of_getElem? (i := 2032) (by decide +kernel)⟩
theorem lw_p83 : lw_okq (⟨"SixBitBoardModel", "keyOf", "(II)J"⟩, 94) := ⟨⟨by decide +kernel, by decide +kernel⟩, List.mem_of_getElem? (i := 1631) (by decide +kernel), List.mem_of_getElem? (i := 2035) (by decide +kernel), List.mem_of_getElem? (i := 2036) (by decide +kernel)⟩
theorem lw_p84 : lw_okq (⟨"SixBitBoardModel", "find", "(J)I"⟩, 94) := ⟨⟨by decide +kernel, by decide +kernel⟩, List.mem_of_getElem? (i := 1631) (by decide +kernel), List.mem_of_getElem? (i := 2043) (by decide +kernel), List.mem_of_getElem? (i := 2044) (by decide +kernel)⟩
theorem lw_p85 : lw_okq (⟨"SixBitBoardModel", "workAddress", "(I)Z"⟩, 94) := ⟨⟨by decide +kernel, by decide +kernel⟩, List.mem_of_getElem? (i := 1631) (by decide +kernel), List.mem_of_getElem? (i := 2047) (by decide +kernel), List.mem_of_getElem? (i := 2048) (by decide +kernel)⟩
theorem lw_p86 : lw_okq (⟨"SixBitBoardModel", "wholeValue", "()I"⟩, 94) := ⟨⟨by decide +kernel, by decide +kernel⟩, List.mem_of_getElem? (i := 1631) (by decide +kernel), List.mem_of_getElem? (i := 2051) (by decide +kernel), List.mem_of_getElem? (i := 2052) (by decide +kernel)⟩
theorem lw_p87 : lw_okq (⟨"SixBitBoardModel", "wValue", "()I"⟩, 94) := ⟨⟨by decide +kernel, by decide +kernel⟩, List.mem_of_getElem? (i := 1631) (by decide +kernel), List.mem_of_getElem? (i := 2055) (by decide +kernel), List.mem_of_getElem? (i := 2056) (by decide +kernel)⟩
theorem lw_p88 : lw_okq (⟨"SixBitBoardModel", "expression", "()I"⟩, 94) := ⟨⟨by decide +kernel, by decide +kernel⟩, List.mem_of_getElem? (i := 1631) (by decide +kernel), List.mem_of_getElem? (i := 2059) (by decide +kernel), List.mem_of_getElem? (i := 2060) (by decide +kernel)⟩
theorem lw_p89 : lw_okq (⟨"SixBitBoardModel", "now", "()I"⟩, 94) := ⟨⟨by decide +kernel, by decide +kernel⟩, List.mem_of_getElem? (i := 1631) (by decide +kernel), List.mem_of_getElem? (i := 2063) (by decide +kernel), List.mem_of_getElem? (i := 2064) (by decide +kernel)⟩
theorem lw_p90 : lw_okq (⟨"SixBitBoardModel", "atom", "()I"⟩, 94) := ⟨⟨by decide +kernel, by decide +kernel⟩, List.mem_of_getElem? (i := 1631) (by decide +kernel), List.mem_of_getElem? (i := 2067) (by decide +kernel), List.mem_of_getElem? (i := 2068) (by decide +kernel)⟩
theorem lw_p91 : lw_okq (⟨"SixBitBoardModel", "nameEnd", "()I"⟩, 94) := ⟨⟨by decide +kernel, by decide +kernel⟩, List.mem_of_getElem? (i := 1631) (by decide +kernel), List.mem_of_getElem? (i := 2075) (by decide +kernel), List.mem_of_getElem? (i := 2076) (by decide +kernel)⟩
theorem lw_p92 : lw_okq (⟨"SixBitBoardModel", "hasLetter", "(I)Z"⟩, 94) := ⟨⟨by decide +kernel, by decide +kernel⟩, List.mem_of_getElem? (i := 1631) (by decide +kernel), List.mem_of_getElem? (i := 2079) (by decide +kernel), List.mem_of_getElem? (i := 2080) (by decide +kernel)⟩
theorem lw_p93 : lw_okq (⟨"SixBitBoardModel", "symbolAtom", "(I)I"⟩, 94) := ⟨⟨by decide +kernel, by decide +kernel⟩, List.mem_of_getElem? (i := 1631) (by decide +kernel), List.mem_of_getElem? (i := 2083) (by decide +kernel), List.mem_of_getElem? (i := 2084) (by decide +kernel)⟩
theorem lw_p94 : lw_okq (⟨"SixBitBoardModel", "use", "(I)V"⟩, 94) := ⟨⟨by decide +kernel, by decide +kernel⟩, List.mem_of_getElem? (i := 1631) (by decide +kernel), List.mem_of_getElem? (i := 2087) (by decide +kernel), List.mem_of_getElem? (i := 2088) (by decide +kernel)⟩
theorem lw_p95 : lw_okq (⟨"SixBitBoardModel", "number", "(I)I"⟩, 94) := ⟨⟨by decide +kernel, by decide +kernel⟩, List.mem_of_getElem? (i := 1631) (by decide +kernel), List.mem_of_getElem? (i := 2091) (by decide +kernel), List.mem_of_getElem? (i := 2092) (by decide +kernel)⟩
def lw_privs_6 : List (MethodName × Nat) := [(⟨"SixBitBoardModel", "fail", "(I)V"⟩, 94), (⟨"SixBitBoardModel", "operation", "(II)I"⟩, 94), (⟨"SixBitBoardModel", "isThere", "()Z"⟩, 94), (⟨"SixBitBoardModel", "keyOf", "(II)J"⟩, 94), (⟨"SixBitBoardModel", "find", "(J)I"⟩, 94), (⟨"SixBitBoardModel", "workAddress", "(I)Z"⟩, 94), (⟨"SixBitBoardModel", "wholeValue", "()I"⟩, 94), (⟨"SixBitBoardModel", "wValue", "()I"⟩, 94), (⟨"SixBitBoardModel", "expression", "()I"⟩, 94), (⟨"SixBitBoardModel", "now", "()I"⟩, 94), (⟨"SixBitBoardModel", "atom", "()I"⟩, 94), (⟨"SixBitBoardModel", "nameEnd", "()I"⟩, 94), (⟨"SixBitBoardModel", "hasLetter", "(I)Z"⟩, 94), (⟨"SixBitBoardModel", "symbolAtom", "(I)I"⟩, 94), (⟨"SixBitBoardModel", "use", "(I)V"⟩, 94), (⟨"SixBitBoardModel", "number", "(I)I"⟩, 94)]
theorem lw_r6 : ∀ q ∈ lw_privs_6, lw_okq q := List.forall_mem_cons.mpr ⟨lw_p80, List.forall_mem_cons.mpr ⟨lw_p81, List.forall_mem_cons.mpr ⟨lw_p82, List.forall_mem_cons.mpr ⟨lw_p83, List.forall_mem_cons.mpr ⟨lw_p84, List.forall_mem_cons.mpr ⟨lw_p85, List.forall_mem_cons.mpr ⟨lw_p86, List.forall_mem_cons.mpr ⟨lw_p87, List.forall_mem_cons.mpr ⟨lw_p88, List.forall_mem_cons.mpr ⟨lw_p89, List.forall_mem_cons.mpr ⟨lw_p90, List.forall_mem_cons.mpr ⟨lw_p91, List.forall_mem_cons.mpr ⟨lw_p92, List.forall_mem_cons.mpr ⟨lw_p93, List.forall_mem_cons.mpr ⟨lw_p94, List.forall_mem_cons.mpr ⟨lw_p95, fun _ h => absurd h List.not_mem_nil⟩⟩⟩⟩⟩⟩⟩⟩⟩⟩⟩⟩⟩⟩⟩⟩
theorem lw_p96 : lw_okq (⟨"SixBitBoardModel", "worked", "(IJJ)I"⟩, 94) := ⟨⟨by decide +kernel, by decide +kernel⟩, List.mem_of_getElem? (i := 1631) (by decide +kernel), List.mem_of_getElem? (i := 2105) (by decide +kernel), List.mem_of_getElem? (i := 2106) (by decide +kernel)⟩
theorem lw_p97 : lw_okq (⟨"SixBitBoardModel", "inside", "(II)I"⟩, 94) := ⟨⟨by decide +kernel, by decide +kernel⟩, List.mem_of_getElem? (i := 1631) (by decide +kernel), List.mem_of_getElem? (i := 2112) (by decide +kernel), List.mem_of_getElem? (i := 2113) (by decide +kernel)⟩
theorem lw_p98 : lw_okq (⟨"SixBitBoardModel", "must", "(I)V"⟩, 94) := ⟨⟨by decide +kernel, by decide +kernel⟩, List.mem_of_getElem? (i := 1631) (by decide +kernel), List.mem_of_getElem? (i := 2119) (by decide +kernel), List.mem_of_getElem? (i := 2120) (by decide +kernel)⟩
theorem lw_p99 : lw_okq (⟨"SixBitBoardModel", "define", "(I)V"⟩, 94) := ⟨⟨by decide +kernel, by decide +kernel⟩, List.mem_of_getElem? (i := 1631) (by decide +kernel), List.mem_of_getElem? (i := 2126) (by decide +kernel), List.mem_of_getElem? (i := 2127) (by decide +kernel)⟩
theorem lw_p100 : lw_okq (⟨"SixBitBoardModel", "symbolOf", "(J)I"⟩, 94) := ⟨⟨by decide +kernel, by decide +kernel⟩, List.mem_of_getElem? (i := 1631) (by decide +kernel), List.mem_of_getElem? (i := 2130) (by decide +kernel), List.mem_of_getElem? (i := 2131) (by decide +kernel)⟩
theorem lw_p101 : lw_okq (⟨"SixBitBoardModel", "bounded", "(II)I"⟩, 94) := ⟨⟨by decide +kernel, by decide +kernel⟩, List.mem_of_getElem? (i := 1631) (by decide +kernel), List.mem_of_getElem? (i := 2134) (by decide +kernel), List.mem_of_getElem? (i := 2135) (by decide +kernel)⟩
theorem lw_p102 : lw_okq (⟨"SixBitBoardModel", "finish", "()V"⟩, 94) := ⟨⟨by decide +kernel, by decide +kernel⟩, List.mem_of_getElem? (i := 1631) (by decide +kernel), List.mem_of_getElem? (i := 2138) (by decide +kernel), List.mem_of_getElem? (i := 2139) (by decide +kernel)⟩
theorem lw_p103 : lw_okq (⟨"SixBitBoardModel", "tellFutures", "()V"⟩, 94) := ⟨⟨by decide +kernel, by decide +kernel⟩, List.mem_of_getElem? (i := 1631) (by decide +kernel), List.mem_of_getElem? (i := 2142) (by decide +kernel), List.mem_of_getElem? (i := 2143) (by decide +kernel)⟩
theorem lw_p104 : lw_okq (⟨"SixBitBoardModel", "putFuture", "(I)V"⟩, 94) := ⟨⟨by decide +kernel, by decide +kernel⟩, List.mem_of_getElem? (i := 1631) (by decide +kernel), List.mem_of_getElem? (i := 2146) (by decide +kernel), List.mem_of_getElem? (i := 2147) (by decide +kernel)⟩
theorem lw_p105 : lw_okq (⟨"SixBitBoardModel", "putWord", "(I)V"⟩, 94) := ⟨⟨by decide +kernel, by decide +kernel⟩, List.mem_of_getElem? (i := 1631) (by decide +kernel), List.mem_of_getElem? (i := 2150) (by decide +kernel), List.mem_of_getElem? (i := 2151) (by decide +kernel)⟩
theorem lw_p106 : lw_okq (⟨"SixBitBoardModel", "setMemory", "(II)V"⟩, 94) := ⟨⟨by decide +kernel, by decide +kernel⟩, List.mem_of_getElem? (i := 1631) (by decide +kernel), List.mem_of_getElem? (i := 2154) (by decide +kernel), List.mem_of_getElem? (i := 2155) (by decide +kernel)⟩
theorem lw_p107 : lw_okq (⟨"SixBitBoardModel", "memoryAt", "(I)I"⟩, 94) := ⟨⟨by decide +kernel, by decide +kernel⟩, List.mem_of_getElem? (i := 1631) (by decide +kernel), List.mem_of_getElem? (i := 2158) (by decide +kernel), List.mem_of_getElem? (i := 2159) (by decide +kernel)⟩
theorem lw_p108 : lw_okq (⟨"SixBitBoardModel", "fiveLetters", "()I"⟩, 94) := ⟨⟨by decide +kernel, by decide +kernel⟩, List.mem_of_getElem? (i := 1631) (by decide +kernel), List.mem_of_getElem? (i := 2163) (by decide +kernel), List.mem_of_getElem? (i := 2164) (by decide +kernel)⟩
theorem lw_p109 : lw_okq (⟨"SixBitBoardModel", "instruction", "(I)I"⟩, 94) := ⟨⟨by decide +kernel, by decide +kernel⟩, List.mem_of_getElem? (i := 1631) (by decide +kernel), List.mem_of_getElem? (i := 2167) (by decide +kernel), List.mem_of_getElem? (i := 2168) (by decide +kernel)⟩
theorem lw_p110 : lw_okq (⟨"SixBitBoardModel", "partA", "()I"⟩, 94) := ⟨⟨by decide +kernel, by decide +kernel⟩, List.mem_of_getElem? (i := 1631) (by decide +kernel), List.mem_of_getElem? (i := 2171) (by decide +kernel), List.mem_of_getElem? (i := 2172) (by decide +kernel)⟩
theorem lw_p111 : lw_okq (⟨"SixBitBoardModel", "endsPart", "()Z"⟩, 94) := ⟨⟨by decide +kernel, by decide +kernel⟩, List.mem_of_getElem? (i := 1631) (by decide +kernel), List.mem_of_getElem? (i := 2175) (by decide +kernel), List.mem_of_getElem? (i := 2176) (by decide +kernel)⟩
def lw_privs_7 : List (MethodName × Nat) := [(⟨"SixBitBoardModel", "worked", "(IJJ)I"⟩, 94), (⟨"SixBitBoardModel", "inside", "(II)I"⟩, 94), (⟨"SixBitBoardModel", "must", "(I)V"⟩, 94), (⟨"SixBitBoardModel", "define", "(I)V"⟩, 94), (⟨"SixBitBoardModel", "symbolOf", "(J)I"⟩, 94), (⟨"SixBitBoardModel", "bounded", "(II)I"⟩, 94), (⟨"SixBitBoardModel", "finish", "()V"⟩, 94), (⟨"SixBitBoardModel", "tellFutures", "()V"⟩, 94), (⟨"SixBitBoardModel", "putFuture", "(I)V"⟩, 94), (⟨"SixBitBoardModel", "putWord", "(I)V"⟩, 94), (⟨"SixBitBoardModel", "setMemory", "(II)V"⟩, 94), (⟨"SixBitBoardModel", "memoryAt", "(I)I"⟩, 94), (⟨"SixBitBoardModel", "fiveLetters", "()I"⟩, 94), (⟨"SixBitBoardModel", "instruction", "(I)I"⟩, 94), (⟨"SixBitBoardModel", "partA", "()I"⟩, 94), (⟨"SixBitBoardModel", "endsPart", "()Z"⟩, 94)]
theorem lw_r7 : ∀ q ∈ lw_privs_7, lw_okq q := List.forall_mem_cons.mpr ⟨lw_p96, List.forall_mem_cons.mpr ⟨lw_p97, List.forall_mem_cons.mpr ⟨lw_p98, List.forall_mem_cons.mpr ⟨lw_p99, List.forall_mem_cons.mpr ⟨lw_p100, List.forall_mem_cons.mpr ⟨lw_p101, List.forall_mem_cons.mpr ⟨lw_p102, List.forall_mem_cons.mpr ⟨lw_p103, List.forall_mem_cons.mpr ⟨lw_p104, List.forall_mem_cons.mpr ⟨lw_p105, List.forall_mem_cons.mpr ⟨lw_p106, List.forall_mem_cons.mpr ⟨lw_p107, List.forall_mem_cons.mpr ⟨lw_p108, List.forall_mem_cons.mpr ⟨lw_p109, List.forall_mem_cons.mpr ⟨lw_p110, List.forall_mem_cons.mpr ⟨lw_p111, fun _ h => absurd h List.not_mem_nil⟩⟩⟩⟩⟩⟩⟩⟩⟩⟩⟩⟩⟩⟩⟩⟩
theorem lw_p112 : lw_okq (⟨"SixBitBoardModel", "isToCome", "()Z"⟩, 94) := ⟨⟨by decide +kernel, by decide +kernel⟩, List.mem_of_getElem? (i := 1631) (by decide +kernel), List.mem_of_getElem? (i := 2179) (by decide +kernel), List.mem_of_getElem? (i := 2180) (by decide +kernel)⟩
theorem lw_p113 : lw_okq (⟨"SixBitBoardModel", "addFuture", "(I)V"⟩, 94) := ⟨⟨by decide +kernel, by decide +kernel⟩, List.mem_of_getElem? (i := 1631) (by decide +kernel), List.mem_of_getElem? (i := 2183) (by decide +kernel), List.mem_of_getElem? (i := 2184) (by decide +kernel)⟩
theorem lw_p114 : lw_okq (⟨"SixBitBoardModel", "startAt", "(I)V"⟩, 94) := ⟨⟨by decide +kernel, by decide +kernel⟩, List.mem_of_getElem? (i := 1631) (by decide +kernel), List.mem_of_getElem? (i := 2187) (by decide +kernel), List.mem_of_getElem? (i := 2188) (by decide +kernel)⟩
theorem lw_p115 : lw_okq (⟨"SixBitBoardModel", "goOver", "()I"⟩, 94) := ⟨⟨by decide +kernel, by decide +kernel⟩, List.mem_of_getElem? (i := 1631) (by decide +kernel), List.mem_of_getElem? (i := 2195) (by decide +kernel), List.mem_of_getElem? (i := 2196) (by decide +kernel)⟩
theorem lw_p116 : lw_okq (⟨"SixBitBoardModel", "sayError", "()V"⟩, 94) := ⟨⟨by decide +kernel, by decide +kernel⟩, List.mem_of_getElem? (i := 1631) (by decide +kernel), List.mem_of_getElem? (i := 2199) (by decide +kernel), List.mem_of_getElem? (i := 2200) (by decide +kernel)⟩
theorem lw_p117 : lw_okq (⟨"SixBitBoardModel", "begin", "()V"⟩, 94) := ⟨⟨by decide +kernel, by decide +kernel⟩, List.mem_of_getElem? (i := 1631) (by decide +kernel), List.mem_of_getElem? (i := 2203) (by decide +kernel), List.mem_of_getElem? (i := 2204) (by decide +kernel)⟩
theorem lw_p118 : lw_okq (⟨"SixBitBoardModel", "sayDigits", "(JI)V"⟩, 94) := ⟨⟨by decide +kernel, by decide +kernel⟩, List.mem_of_getElem? (i := 1631) (by decide +kernel), List.mem_of_getElem? (i := 2207) (by decide +kernel), List.mem_of_getElem? (i := 2208) (by decide +kernel)⟩
theorem lw_p119 : lw_okq (⟨"SixBitBoardModel", "say", "(I)V"⟩, 94) := ⟨⟨by decide +kernel, by decide +kernel⟩, List.mem_of_getElem? (i := 1631) (by decide +kernel), List.mem_of_getElem? (i := 2211) (by decide +kernel), List.mem_of_getElem? (i := 2212) (by decide +kernel)⟩
theorem lw_p120 : lw_okq (⟨"SixBitBoardModel", "toColumn", "(I)V"⟩, 94) := ⟨⟨by decide +kernel, by decide +kernel⟩, List.mem_of_getElem? (i := 1631) (by decide +kernel), List.mem_of_getElem? (i := 2215) (by decide +kernel), List.mem_of_getElem? (i := 2216) (by decide +kernel)⟩
theorem lw_p121 : lw_okq (⟨"SixBitBoardModel", "print", "(I)V"⟩, 94) := ⟨⟨by decide +kernel, by decide +kernel⟩, List.mem_of_getElem? (i := 1631) (by decide +kernel), List.mem_of_getElem? (i := 2219) (by decide +kernel), List.mem_of_getElem? (i := 2220) (by decide +kernel)⟩
theorem lw_p122 : lw_okq (⟨"SixBitBoardModel", "punchCards", "()I"⟩, 94) := ⟨⟨by decide +kernel, by decide +kernel⟩, List.mem_of_getElem? (i := 1631) (by decide +kernel), List.mem_of_getElem? (i := 2231) (by decide +kernel), List.mem_of_getElem? (i := 2232) (by decide +kernel)⟩
theorem lw_p123 : lw_okq (⟨"SixBitBoardModel", "hasPut", "(I)Z"⟩, 94) := ⟨⟨by decide +kernel, by decide +kernel⟩, List.mem_of_getElem? (i := 1631) (by decide +kernel), List.mem_of_getElem? (i := 2235) (by decide +kernel), List.mem_of_getElem? (i := 2236) (by decide +kernel)⟩
theorem lw_p124 : lw_okq (⟨"SixBitBoardModel", "beginCard", "(II)V"⟩, 94) := ⟨⟨by decide +kernel, by decide +kernel⟩, List.mem_of_getElem? (i := 1631) (by decide +kernel), List.mem_of_getElem? (i := 2239) (by decide +kernel), List.mem_of_getElem? (i := 2240) (by decide +kernel)⟩
theorem lw_p125 : lw_okq (⟨"SixBitBoardModel", "sayCardWord", "(I)V"⟩, 94) := ⟨⟨by decide +kernel, by decide +kernel⟩, List.mem_of_getElem? (i := 1631) (by decide +kernel), List.mem_of_getElem? (i := 2243) (by decide +kernel), List.mem_of_getElem? (i := 2244) (by decide +kernel)⟩
theorem lw_p126 : lw_okq (⟨"SixBitBoardModel", "listWords", "()I"⟩, 94) := ⟨⟨by decide +kernel, by decide +kernel⟩, List.mem_of_getElem? (i := 1631) (by decide +kernel), List.mem_of_getElem? (i := 2251) (by decide +kernel), List.mem_of_getElem? (i := 2252) (by decide +kernel)⟩
theorem lw_p127 : lw_okq (⟨"SixBitBoardModel", "sayParts", "(I)V"⟩, 94) := ⟨⟨by decide +kernel, by decide +kernel⟩, List.mem_of_getElem? (i := 1631) (by decide +kernel), List.mem_of_getElem? (i := 2255) (by decide +kernel), List.mem_of_getElem? (i := 2256) (by decide +kernel)⟩
def lw_privs_8 : List (MethodName × Nat) := [(⟨"SixBitBoardModel", "isToCome", "()Z"⟩, 94), (⟨"SixBitBoardModel", "addFuture", "(I)V"⟩, 94), (⟨"SixBitBoardModel", "startAt", "(I)V"⟩, 94), (⟨"SixBitBoardModel", "goOver", "()I"⟩, 94), (⟨"SixBitBoardModel", "sayError", "()V"⟩, 94), (⟨"SixBitBoardModel", "begin", "()V"⟩, 94), (⟨"SixBitBoardModel", "sayDigits", "(JI)V"⟩, 94), (⟨"SixBitBoardModel", "say", "(I)V"⟩, 94), (⟨"SixBitBoardModel", "toColumn", "(I)V"⟩, 94), (⟨"SixBitBoardModel", "print", "(I)V"⟩, 94), (⟨"SixBitBoardModel", "punchCards", "()I"⟩, 94), (⟨"SixBitBoardModel", "hasPut", "(I)Z"⟩, 94), (⟨"SixBitBoardModel", "beginCard", "(II)V"⟩, 94), (⟨"SixBitBoardModel", "sayCardWord", "(I)V"⟩, 94), (⟨"SixBitBoardModel", "listWords", "()I"⟩, 94), (⟨"SixBitBoardModel", "sayParts", "(I)V"⟩, 94)]
theorem lw_r8 : ∀ q ∈ lw_privs_8, lw_okq q := List.forall_mem_cons.mpr ⟨lw_p112, List.forall_mem_cons.mpr ⟨lw_p113, List.forall_mem_cons.mpr ⟨lw_p114, List.forall_mem_cons.mpr ⟨lw_p115, List.forall_mem_cons.mpr ⟨lw_p116, List.forall_mem_cons.mpr ⟨lw_p117, List.forall_mem_cons.mpr ⟨lw_p118, List.forall_mem_cons.mpr ⟨lw_p119, List.forall_mem_cons.mpr ⟨lw_p120, List.forall_mem_cons.mpr ⟨lw_p121, List.forall_mem_cons.mpr ⟨lw_p122, List.forall_mem_cons.mpr ⟨lw_p123, List.forall_mem_cons.mpr ⟨lw_p124, List.forall_mem_cons.mpr ⟨lw_p125, List.forall_mem_cons.mpr ⟨lw_p126, List.forall_mem_cons.mpr ⟨lw_p127, fun _ h => absurd h List.not_mem_nil⟩⟩⟩⟩⟩⟩⟩⟩⟩⟩⟩⟩⟩⟩⟩⟩
theorem lw_p128 : lw_okq (⟨"SixBitBoardModel", "saySign", "(I)V"⟩, 94) := ⟨⟨by decide +kernel, by decide +kernel⟩, List.mem_of_getElem? (i := 1631) (by decide +kernel), List.mem_of_getElem? (i := 2259) (by decide +kernel), List.mem_of_getElem? (i := 2260) (by decide +kernel)⟩
theorem lw_p129 : lw_okq (⟨"SixBitBoardModel", "sayName", "(I)V"⟩, 94) := ⟨⟨by decide +kernel, by decide +kernel⟩, List.mem_of_getElem? (i := 1631) (by decide +kernel), List.mem_of_getElem? (i := 2263) (by decide +kernel), List.mem_of_getElem? (i := 2264) (by decide +kernel)⟩
theorem lw_p130 : lw_okq (⟨"SixBitBoardModel", "sayWord", "(I)V"⟩, 94) := ⟨⟨by decide +kernel, by decide +kernel⟩, List.mem_of_getElem? (i := 1631) (by decide +kernel), List.mem_of_getElem? (i := 2271) (by decide +kernel), List.mem_of_getElem? (i := 2272) (by decide +kernel)⟩
theorem lw_p131 : lw_okq (⟨"SixBitBoardModel", "sayNames", "(I)I"⟩, 94) := ⟨⟨by decide +kernel, by decide +kernel⟩, List.mem_of_getElem? (i := 1631) (by decide +kernel), List.mem_of_getElem? (i := 2279) (by decide +kernel), List.mem_of_getElem? (i := 2280) (by decide +kernel)⟩
theorem lw_p132 : lw_okq (⟨"SixBitBoardModel", "nextSymbol", "(J)I"⟩, 94) := ⟨⟨by decide +kernel, by decide +kernel⟩, List.mem_of_getElem? (i := 1631) (by decide +kernel), List.mem_of_getElem? (i := 2283) (by decide +kernel), List.mem_of_getElem? (i := 2284) (by decide +kernel)⟩
theorem lw_p133 : lw_okq (⟨"SixBitBoardModel", "sayKey", "(J)V"⟩, 94) := ⟨⟨by decide +kernel, by decide +kernel⟩, List.mem_of_getElem? (i := 1631) (by decide +kernel), List.mem_of_getElem? (i := 2287) (by decide +kernel), List.mem_of_getElem? (i := 2288) (by decide +kernel)⟩
theorem lw_p134 : lw_okq (⟨"SixBitBoardModel", "goOn", "(I)I"⟩, 94) := ⟨⟨by decide +kernel, by decide +kernel⟩, List.mem_of_getElem? (i := 1631) (by decide +kernel), List.mem_of_getElem? (i := 2296) (by decide +kernel), List.mem_of_getElem? (i := 2297) (by decide +kernel)⟩
theorem lw_p135 : lw_okq (⟨"SixBitBoardModel", "settle", "(J)V"⟩, 94) := ⟨⟨by decide +kernel, by decide +kernel⟩, List.mem_of_getElem? (i := 1631) (by decide +kernel), List.mem_of_getElem? (i := 2300) (by decide +kernel), List.mem_of_getElem? (i := 2301) (by decide +kernel)⟩
theorem lw_p136 : lw_okq (⟨"SixBitBoardModel", "look", "()I"⟩, 94) := ⟨⟨by decide +kernel, by decide +kernel⟩, List.mem_of_getElem? (i := 1631) (by decide +kernel), List.mem_of_getElem? (i := 2307) (by decide +kernel), List.mem_of_getElem? (i := 2308) (by decide +kernel)⟩
theorem lw_p137 : lw_okq (⟨"SixBitBoardModel", "isHere", "(I)Z"⟩, 94) := ⟨⟨by decide +kernel, by decide +kernel⟩, List.mem_of_getElem? (i := 1631) (by decide +kernel), List.mem_of_getElem? (i := 2311) (by decide +kernel), List.mem_of_getElem? (i := 2312) (by decide +kernel)⟩
theorem lw_p138 : lw_okq (⟨"SixBitBoardModel", "isOperation", "()Z"⟩, 94) := ⟨⟨by decide +kernel, by decide +kernel⟩, List.mem_of_getElem? (i := 1631) (by decide +kernel), List.mem_of_getElem? (i := 2315) (by decide +kernel), List.mem_of_getElem? (i := 2316) (by decide +kernel)⟩
theorem lw_p139 : lw_okq (⟨"SixBitBoardModel", "cost", "()J"⟩, 94) := ⟨⟨by decide +kernel, by decide +kernel⟩, List.mem_of_getElem? (i := 1631) (by decide +kernel), List.mem_of_getElem? (i := 2319) (by decide +kernel), List.mem_of_getElem? (i := 2320) (by decide +kernel)⟩
theorem lw_p140 : lw_okq (⟨"SixBitBoardModel", "fault", "()I"⟩, 94) := ⟨⟨by decide +kernel, by decide +kernel⟩, List.mem_of_getElem? (i := 1631) (by decide +kernel), List.mem_of_getElem? (i := 2325) (by decide +kernel), List.mem_of_getElem? (i := 2326) (by decide +kernel)⟩
theorem lw_p141 : lw_okq (⟨"SixBitBoardModel", "addressFault", "()I"⟩, 94) := ⟨⟨by decide +kernel, by decide +kernel⟩, List.mem_of_getElem? (i := 1631) (by decide +kernel), List.mem_of_getElem? (i := 2329) (by decide +kernel), List.mem_of_getElem? (i := 2330) (by decide +kernel)⟩
theorem lw_p142 : lw_okq (⟨"SixBitBoardModel", "areHere", "(II)Z"⟩, 94) := ⟨⟨by decide +kernel, by decide +kernel⟩, List.mem_of_getElem? (i := 1631) (by decide +kernel), List.mem_of_getElem? (i := 2333) (by decide +kernel), List.mem_of_getElem? (i := 2334) (by decide +kernel)⟩
theorem lw_p143 : lw_okq (⟨"SixBitBoardModel", "hasField", "()Z"⟩, 94) := ⟨⟨by decide +kernel, by decide +kernel⟩, List.mem_of_getElem? (i := 1631) (by decide +kernel), List.mem_of_getElem? (i := 2337) (by decide +kernel), List.mem_of_getElem? (i := 2338) (by decide +kernel)⟩
def lw_privs_9 : List (MethodName × Nat) := [(⟨"SixBitBoardModel", "saySign", "(I)V"⟩, 94), (⟨"SixBitBoardModel", "sayName", "(I)V"⟩, 94), (⟨"SixBitBoardModel", "sayWord", "(I)V"⟩, 94), (⟨"SixBitBoardModel", "sayNames", "(I)I"⟩, 94), (⟨"SixBitBoardModel", "nextSymbol", "(J)I"⟩, 94), (⟨"SixBitBoardModel", "sayKey", "(J)V"⟩, 94), (⟨"SixBitBoardModel", "goOn", "(I)I"⟩, 94), (⟨"SixBitBoardModel", "settle", "(J)V"⟩, 94), (⟨"SixBitBoardModel", "look", "()I"⟩, 94), (⟨"SixBitBoardModel", "isHere", "(I)Z"⟩, 94), (⟨"SixBitBoardModel", "isOperation", "()Z"⟩, 94), (⟨"SixBitBoardModel", "cost", "()J"⟩, 94), (⟨"SixBitBoardModel", "fault", "()I"⟩, 94), (⟨"SixBitBoardModel", "addressFault", "()I"⟩, 94), (⟨"SixBitBoardModel", "areHere", "(II)Z"⟩, 94), (⟨"SixBitBoardModel", "hasField", "()Z"⟩, 94)]
theorem lw_r9 : ∀ q ∈ lw_privs_9, lw_okq q := List.forall_mem_cons.mpr ⟨lw_p128, List.forall_mem_cons.mpr ⟨lw_p129, List.forall_mem_cons.mpr ⟨lw_p130, List.forall_mem_cons.mpr ⟨lw_p131, List.forall_mem_cons.mpr ⟨lw_p132, List.forall_mem_cons.mpr ⟨lw_p133, List.forall_mem_cons.mpr ⟨lw_p134, List.forall_mem_cons.mpr ⟨lw_p135, List.forall_mem_cons.mpr ⟨lw_p136, List.forall_mem_cons.mpr ⟨lw_p137, List.forall_mem_cons.mpr ⟨lw_p138, List.forall_mem_cons.mpr ⟨lw_p139, List.forall_mem_cons.mpr ⟨lw_p140, List.forall_mem_cons.mpr ⟨lw_p141, List.forall_mem_cons.mpr ⟨lw_p142, List.forall_mem_cons.mpr ⟨lw_p143, fun _ h => absurd h List.not_mem_nil⟩⟩⟩⟩⟩⟩⟩⟩⟩⟩⟩⟩⟩⟩⟩⟩
theorem lw_p144 : lw_okq (⟨"SixBitBoardModel", "isTooMuch", "()Z"⟩, 94) := ⟨⟨by decide +kernel, by decide +kernel⟩, List.mem_of_getElem? (i := 1631) (by decide +kernel), List.mem_of_getElem? (i := 2341) (by decide +kernel), List.mem_of_getElem? (i := 2342) (by decide +kernel)⟩
theorem lw_p145 : lw_okq (⟨"SixBitBoardModel", "unitFault", "()I"⟩, 94) := ⟨⟨by decide +kernel, by decide +kernel⟩, List.mem_of_getElem? (i := 1631) (by decide +kernel), List.mem_of_getElem? (i := 2348) (by decide +kernel), List.mem_of_getElem? (i := 2349) (by decide +kernel)⟩
theorem lw_p146 : lw_okq (⟨"SixBitBoardModel", "hasCard", "()Z"⟩, 94) := ⟨⟨by decide +kernel, by decide +kernel⟩, List.mem_of_getElem? (i := 1631) (by decide +kernel), List.mem_of_getElem? (i := 2352) (by decide +kernel), List.mem_of_getElem? (i := 2353) (by decide +kernel)⟩
theorem lw_p147 : lw_okq (⟨"SixBitBoardModel", "cardsLeft", "()I"⟩, 94) := ⟨⟨by decide +kernel, by decide +kernel⟩, List.mem_of_getElem? (i := 1631) (by decide +kernel), List.mem_of_getElem? (i := 2356) (by decide +kernel), List.mem_of_getElem? (i := 2357) (by decide +kernel)⟩
theorem lw_p148 : lw_okq (⟨"SixBitBoardModel", "jumps", "()Z"⟩, 94) := ⟨⟨by decide +kernel, by decide +kernel⟩, List.mem_of_getElem? (i := 1631) (by decide +kernel), List.mem_of_getElem? (i := 2360) (by decide +kernel), List.mem_of_getElem? (i := 2361) (by decide +kernel)⟩
theorem lw_p149 : lw_okq (⟨"SixBitBoardModel", "stop", "(I)V"⟩, 94) := ⟨⟨by decide +kernel, by decide +kernel⟩, List.mem_of_getElem? (i := 1631) (by decide +kernel), List.mem_of_getElem? (i := 2367) (by decide +kernel), List.mem_of_getElem? (i := 2368) (by decide +kernel)⟩
theorem lw_p150 : lw_okq (⟨"SixBitBoardModel", "fails", "(I)V"⟩, 94) := ⟨⟨by decide +kernel, by decide +kernel⟩, List.mem_of_getElem? (i := 1631) (by decide +kernel), List.mem_of_getElem? (i := 2372) (by decide +kernel), List.mem_of_getElem? (i := 2373) (by decide +kernel)⟩
theorem lw_p151 : lw_okq (⟨"SixBitBoardModel", "interrupt", "(I)V"⟩, 94) := ⟨⟨by decide +kernel, by decide +kernel⟩, List.mem_of_getElem? (i := 1631) (by decide +kernel), List.mem_of_getElem? (i := 2376) (by decide +kernel), List.mem_of_getElem? (i := 2377) (by decide +kernel)⟩
theorem lw_p152 : lw_okq (⟨"SixBitBoardModel", "perform", "()V"⟩, 94) := ⟨⟨by decide +kernel, by decide +kernel⟩, List.mem_of_getElem? (i := 1631) (by decide +kernel), List.mem_of_getElem? (i := 2380) (by decide +kernel), List.mem_of_getElem? (i := 2381) (by decide +kernel)⟩
theorem lw_p153 : lw_okq (⟨"SixBitBoardModel", "jump", "()V"⟩, 94) := ⟨⟨by decide +kernel, by decide +kernel⟩, List.mem_of_getElem? (i := 1631) (by decide +kernel), List.mem_of_getElem? (i := 2384) (by decide +kernel), List.mem_of_getElem? (i := 2385) (by decide +kernel)⟩
theorem lw_p154 : lw_okq (⟨"SixBitBoardModel", "begins", "(II)V"⟩, 94) := ⟨⟨by decide +kernel, by decide +kernel⟩, List.mem_of_getElem? (i := 1631) (by decide +kernel), List.mem_of_getElem? (i := 2388) (by decide +kernel), List.mem_of_getElem? (i := 2389) (by decide +kernel)⟩
theorem lw_p155 : lw_okq (⟨"SixBitBoardModel", "operate", "(II)V"⟩, 94) := ⟨⟨by decide +kernel, by decide +kernel⟩, List.mem_of_getElem? (i := 1631) (by decide +kernel), List.mem_of_getElem? (i := 2392) (by decide +kernel), List.mem_of_getElem? (i := 2393) (by decide +kernel)⟩
theorem lw_p156 : lw_okq (⟨"SixBitBoardModel", "control", "(I)V"⟩, 94) := ⟨⟨by decide +kernel, by decide +kernel⟩, List.mem_of_getElem? (i := 1631) (by decide +kernel), List.mem_of_getElem? (i := 2396) (by decide +kernel), List.mem_of_getElem? (i := 2397) (by decide +kernel)⟩
theorem lw_p157 : lw_okq (⟨"SixBitBoardModel", "cardWord", "(I)I"⟩, 94) := ⟨⟨by decide +kernel, by decide +kernel⟩, List.mem_of_getElem? (i := 1631) (by decide +kernel), List.mem_of_getElem? (i := 2400) (by decide +kernel), List.mem_of_getElem? (i := 2401) (by decide +kernel)⟩
theorem lw_p158 : lw_okq (⟨"SixBitBoardModel", "blockNow", "(I)I"⟩, 94) := ⟨⟨by decide +kernel, by decide +kernel⟩, List.mem_of_getElem? (i := 1631) (by decide +kernel), List.mem_of_getElem? (i := 2404) (by decide +kernel), List.mem_of_getElem? (i := 2405) (by decide +kernel)⟩
theorem lw_p159 : lw_okq (⟨"SixBitBoardModel", "work", "()V"⟩, 94) := ⟨⟨by decide +kernel, by decide +kernel⟩, List.mem_of_getElem? (i := 1631) (by decide +kernel), List.mem_of_getElem? (i := 2414) (by decide +kernel), List.mem_of_getElem? (i := 2415) (by decide +kernel)⟩
def lw_privs_10 : List (MethodName × Nat) := [(⟨"SixBitBoardModel", "isTooMuch", "()Z"⟩, 94), (⟨"SixBitBoardModel", "unitFault", "()I"⟩, 94), (⟨"SixBitBoardModel", "hasCard", "()Z"⟩, 94), (⟨"SixBitBoardModel", "cardsLeft", "()I"⟩, 94), (⟨"SixBitBoardModel", "jumps", "()Z"⟩, 94), (⟨"SixBitBoardModel", "stop", "(I)V"⟩, 94), (⟨"SixBitBoardModel", "fails", "(I)V"⟩, 94), (⟨"SixBitBoardModel", "interrupt", "(I)V"⟩, 94), (⟨"SixBitBoardModel", "perform", "()V"⟩, 94), (⟨"SixBitBoardModel", "jump", "()V"⟩, 94), (⟨"SixBitBoardModel", "begins", "(II)V"⟩, 94), (⟨"SixBitBoardModel", "operate", "(II)V"⟩, 94), (⟨"SixBitBoardModel", "control", "(I)V"⟩, 94), (⟨"SixBitBoardModel", "cardWord", "(I)I"⟩, 94), (⟨"SixBitBoardModel", "blockNow", "(I)I"⟩, 94), (⟨"SixBitBoardModel", "work", "()V"⟩, 94)]
theorem lw_r10 : ∀ q ∈ lw_privs_10, lw_okq q := List.forall_mem_cons.mpr ⟨lw_p144, List.forall_mem_cons.mpr ⟨lw_p145, List.forall_mem_cons.mpr ⟨lw_p146, List.forall_mem_cons.mpr ⟨lw_p147, List.forall_mem_cons.mpr ⟨lw_p148, List.forall_mem_cons.mpr ⟨lw_p149, List.forall_mem_cons.mpr ⟨lw_p150, List.forall_mem_cons.mpr ⟨lw_p151, List.forall_mem_cons.mpr ⟨lw_p152, List.forall_mem_cons.mpr ⟨lw_p153, List.forall_mem_cons.mpr ⟨lw_p154, List.forall_mem_cons.mpr ⟨lw_p155, List.forall_mem_cons.mpr ⟨lw_p156, List.forall_mem_cons.mpr ⟨lw_p157, List.forall_mem_cons.mpr ⟨lw_p158, List.forall_mem_cons.mpr ⟨lw_p159, fun _ h => absurd h List.not_mem_nil⟩⟩⟩⟩⟩⟩⟩⟩⟩⟩⟩⟩⟩⟩⟩⟩
theorem lw_p160 : lw_okq (⟨"SixBitBoardModel", "addTo", "(IJ)V"⟩, 94) := ⟨⟨by decide +kernel, by decide +kernel⟩, List.mem_of_getElem? (i := 1631) (by decide +kernel), List.mem_of_getElem? (i := 2418) (by decide +kernel), List.mem_of_getElem? (i := 2419) (by decide +kernel)⟩
theorem lw_p161 : lw_okq (⟨"SixBitBoardModel", "multiply", "(I)V"⟩, 94) := ⟨⟨by decide +kernel, by decide +kernel⟩, List.mem_of_getElem? (i := 1631) (by decide +kernel), List.mem_of_getElem? (i := 2422) (by decide +kernel), List.mem_of_getElem? (i := 2423) (by decide +kernel)⟩
theorem lw_p162 : lw_okq (⟨"SixBitBoardModel", "divide", "(I)V"⟩, 94) := ⟨⟨by decide +kernel, by decide +kernel⟩, List.mem_of_getElem? (i := 1631) (by decide +kernel), List.mem_of_getElem? (i := 2426) (by decide +kernel), List.mem_of_getElem? (i := 2427) (by decide +kernel)⟩
theorem lw_p163 : lw_okq (⟨"SixBitBoardModel", "convert", "()V"⟩, 94) := ⟨⟨by decide +kernel, by decide +kernel⟩, List.mem_of_getElem? (i := 1631) (by decide +kernel), List.mem_of_getElem? (i := 2430) (by decide +kernel), List.mem_of_getElem? (i := 2431) (by decide +kernel)⟩
theorem lw_p164 : lw_okq (⟨"SixBitBoardModel", "byteAt", "(I)I"⟩, 94) := ⟨⟨by decide +kernel, by decide +kernel⟩, List.mem_of_getElem? (i := 1631) (by decide +kernel), List.mem_of_getElem? (i := 2434) (by decide +kernel), List.mem_of_getElem? (i := 2435) (by decide +kernel)⟩
theorem lw_p165 : lw_okq (⟨"SixBitBoardModel", "shift", "()V"⟩, 94) := ⟨⟨by decide +kernel, by decide +kernel⟩, List.mem_of_getElem? (i := 1631) (by decide +kernel), List.mem_of_getElem? (i := 2438) (by decide +kernel), List.mem_of_getElem? (i := 2439) (by decide +kernel)⟩
theorem lw_p166 : lw_okq (⟨"SixBitBoardModel", "moveWords", "()V"⟩, 94) := ⟨⟨by decide +kernel, by decide +kernel⟩, List.mem_of_getElem? (i := 1631) (by decide +kernel), List.mem_of_getElem? (i := 2443) (by decide +kernel), List.mem_of_getElem? (i := 2444) (by decide +kernel)⟩
theorem lw_p167 : lw_okq (⟨"SixBitBoardModel", "store", "()V"⟩, 94) := ⟨⟨by decide +kernel, by decide +kernel⟩, List.mem_of_getElem? (i := 1631) (by decide +kernel), List.mem_of_getElem? (i := 2447) (by decide +kernel), List.mem_of_getElem? (i := 2448) (by decide +kernel)⟩
theorem lw_p168 : lw_okq (⟨"SixBitBoardModel", "change", "(I)V"⟩, 94) := ⟨⟨by decide +kernel, by decide +kernel⟩, List.mem_of_getElem? (i := 1631) (by decide +kernel), List.mem_of_getElem? (i := 2451) (by decide +kernel), List.mem_of_getElem? (i := 2452) (by decide +kernel)⟩
theorem lw_p169 : lw_okq (⟨"SixBitBoardModel", "compare", "(I)V"⟩, 94) := ⟨⟨by decide +kernel, by decide +kernel⟩, List.mem_of_getElem? (i := 1631) (by decide +kernel), List.mem_of_getElem? (i := 2455) (by decide +kernel), List.mem_of_getElem? (i := 2456) (by decide +kernel)⟩
theorem lw_p170 : lw_okq (⟨"SixBitBoardModel", "resume", "()V"⟩, 94) := ⟨⟨by decide +kernel, by decide +kernel⟩, List.mem_of_getElem? (i := 1631) (by decide +kernel), List.mem_of_getElem? (i := 2459) (by decide +kernel), List.mem_of_getElem? (i := 2460) (by decide +kernel)⟩
theorem lw_p171 : lw_okq (⟨"SixBitBoardModel", "takeClock", "(J)V"⟩, 94) := ⟨⟨by decide +kernel, by decide +kernel⟩, List.mem_of_getElem? (i := 1631) (by decide +kernel), List.mem_of_getElem? (i := 2463) (by decide +kernel), List.mem_of_getElem? (i := 2464) (by decide +kernel)⟩
theorem lw_p172 : lw_okq (⟨"SixBitBoardModel", "sayTrace", "(II)V"⟩, 94) := ⟨⟨by decide +kernel, by decide +kernel⟩, List.mem_of_getElem? (i := 1631) (by decide +kernel), List.mem_of_getElem? (i := 2467) (by decide +kernel), List.mem_of_getElem? (i := 2468) (by decide +kernel)⟩
theorem lw_p173 : lw_okq (⟨"SixBitBoardModel", "gatherCards", "()V"⟩, 94) := ⟨⟨by decide +kernel, by decide +kernel⟩, List.mem_of_getElem? (i := 1631) (by decide +kernel), List.mem_of_getElem? (i := 2488) (by decide +kernel), List.mem_of_getElem? (i := 2489) (by decide +kernel)⟩
theorem lw_p174 : lw_okq (⟨"SixBitBoardModel", "addCard", "([BII)V"⟩, 94) := ⟨⟨by decide +kernel, by decide +kernel⟩, List.mem_of_getElem? (i := 1631) (by decide +kernel), List.mem_of_getElem? (i := 2492) (by decide +kernel), List.mem_of_getElem? (i := 2493) (by decide +kernel)⟩
theorem lw_p175 : lw_okq (⟨"SixBitBoardModel", "isJob", "(I)Z"⟩, 94) := ⟨⟨by decide +kernel, by decide +kernel⟩, List.mem_of_getElem? (i := 1631) (by decide +kernel), List.mem_of_getElem? (i := 2508) (by decide +kernel), List.mem_of_getElem? (i := 2509) (by decide +kernel)⟩
def lw_privs_11 : List (MethodName × Nat) := [(⟨"SixBitBoardModel", "addTo", "(IJ)V"⟩, 94), (⟨"SixBitBoardModel", "multiply", "(I)V"⟩, 94), (⟨"SixBitBoardModel", "divide", "(I)V"⟩, 94), (⟨"SixBitBoardModel", "convert", "()V"⟩, 94), (⟨"SixBitBoardModel", "byteAt", "(I)I"⟩, 94), (⟨"SixBitBoardModel", "shift", "()V"⟩, 94), (⟨"SixBitBoardModel", "moveWords", "()V"⟩, 94), (⟨"SixBitBoardModel", "store", "()V"⟩, 94), (⟨"SixBitBoardModel", "change", "(I)V"⟩, 94), (⟨"SixBitBoardModel", "compare", "(I)V"⟩, 94), (⟨"SixBitBoardModel", "resume", "()V"⟩, 94), (⟨"SixBitBoardModel", "takeClock", "(J)V"⟩, 94), (⟨"SixBitBoardModel", "sayTrace", "(II)V"⟩, 94), (⟨"SixBitBoardModel", "gatherCards", "()V"⟩, 94), (⟨"SixBitBoardModel", "addCard", "([BII)V"⟩, 94), (⟨"SixBitBoardModel", "isJob", "(I)Z"⟩, 94)]
theorem lw_r11 : ∀ q ∈ lw_privs_11, lw_okq q := List.forall_mem_cons.mpr ⟨lw_p160, List.forall_mem_cons.mpr ⟨lw_p161, List.forall_mem_cons.mpr ⟨lw_p162, List.forall_mem_cons.mpr ⟨lw_p163, List.forall_mem_cons.mpr ⟨lw_p164, List.forall_mem_cons.mpr ⟨lw_p165, List.forall_mem_cons.mpr ⟨lw_p166, List.forall_mem_cons.mpr ⟨lw_p167, List.forall_mem_cons.mpr ⟨lw_p168, List.forall_mem_cons.mpr ⟨lw_p169, List.forall_mem_cons.mpr ⟨lw_p170, List.forall_mem_cons.mpr ⟨lw_p171, List.forall_mem_cons.mpr ⟨lw_p172, List.forall_mem_cons.mpr ⟨lw_p173, List.forall_mem_cons.mpr ⟨lw_p174, List.forall_mem_cons.mpr ⟨lw_p175, fun _ h => absurd h List.not_mem_nil⟩⟩⟩⟩⟩⟩⟩⟩⟩⟩⟩⟩⟩⟩⟩⟩
theorem lw_p176 : lw_okq (⟨"SixBitBoardModel", "isWord", "(ILjava/lang/String;)Z"⟩, 94) := ⟨⟨by decide +kernel, by decide +kernel⟩, List.mem_of_getElem? (i := 1631) (by decide +kernel), List.mem_of_getElem? (i := 2513) (by decide +kernel), List.mem_of_getElem? (i := 2514) (by decide +kernel)⟩
theorem lw_p177 : lw_okq (⟨"SixBitBoardModel", "deckLetter", "(II)I"⟩, 94) := ⟨⟨by decide +kernel, by decide +kernel⟩, List.mem_of_getElem? (i := 1631) (by decide +kernel), List.mem_of_getElem? (i := 2518) (by decide +kernel), List.mem_of_getElem? (i := 2519) (by decide +kernel)⟩
theorem lw_p178 : lw_okq (⟨"SixBitBoardModel", "hasWordAt", "(IILjava/lang/String;)Z"⟩, 94) := ⟨⟨by decide +kernel, by decide +kernel⟩, List.mem_of_getElem? (i := 1631) (by decide +kernel), List.mem_of_getElem? (i := 2530) (by decide +kernel), List.mem_of_getElem? (i := 2531) (by decide +kernel)⟩
theorem lw_p179 : lw_okq (⟨"SixBitBoardModel", "search", "(ILjava/lang/String;)I"⟩, 94) := ⟨⟨by decide +kernel, by decide +kernel⟩, List.mem_of_getElem? (i := 1631) (by decide +kernel), List.mem_of_getElem? (i := 2535) (by decide +kernel), List.mem_of_getElem? (i := 2536) (by decide +kernel)⟩
theorem lw_p180 : lw_okq (⟨"SixBitBoardModel", "doJob", "(III)V"⟩, 94) := ⟨⟨by decide +kernel, by decide +kernel⟩, List.mem_of_getElem? (i := 1631) (by decide +kernel), List.mem_of_getElem? (i := 2540) (by decide +kernel), List.mem_of_getElem? (i := 2541) (by decide +kernel)⟩
theorem lw_p181 : lw_okq (⟨"SixBitBoardModel", "loadCards", "(II)I"⟩, 94) := ⟨⟨by decide +kernel, by decide +kernel⟩, List.mem_of_getElem? (i := 1631) (by decide +kernel), List.mem_of_getElem? (i := 2546) (by decide +kernel), List.mem_of_getElem? (i := 2547) (by decide +kernel)⟩
theorem lw_p182 : lw_okq (⟨"SixBitBoardModel", "readCard", "(I)I"⟩, 94) := ⟨⟨by decide +kernel, by decide +kernel⟩, List.mem_of_getElem? (i := 1631) (by decide +kernel), List.mem_of_getElem? (i := 2550) (by decide +kernel), List.mem_of_getElem? (i := 2551) (by decide +kernel)⟩
theorem lw_p183 : lw_okq (⟨"SixBitBoardModel", "areDigits", "(III)Z"⟩, 94) := ⟨⟨by decide +kernel, by decide +kernel⟩, List.mem_of_getElem? (i := 1631) (by decide +kernel), List.mem_of_getElem? (i := 2554) (by decide +kernel), List.mem_of_getElem? (i := 2555) (by decide +kernel)⟩
theorem lw_p184 : lw_okq (⟨"SixBitBoardModel", "assembleLines", "(II)Z"⟩, 94) := ⟨⟨by decide +kernel, by decide +kernel⟩, List.mem_of_getElem? (i := 1631) (by decide +kernel), List.mem_of_getElem? (i := 2558) (by decide +kernel), List.mem_of_getElem? (i := 2559) (by decide +kernel)⟩
theorem lw_p185 : lw_okq (⟨"SixBitBoardModel", "hasOption", "(I)Z"⟩, 94) := ⟨⟨by decide +kernel, by decide +kernel⟩, List.mem_of_getElem? (i := 1631) (by decide +kernel), List.mem_of_getElem? (i := 2562) (by decide +kernel), List.mem_of_getElem? (i := 2563) (by decide +kernel)⟩
theorem lw_p186 : lw_okq (⟨"SixBitBoardModel", "takeImage", "()V"⟩, 94) := ⟨⟨by decide +kernel, by decide +kernel⟩, List.mem_of_getElem? (i := 1631) (by decide +kernel), List.mem_of_getElem? (i := 2566) (by decide +kernel), List.mem_of_getElem? (i := 2567) (by decide +kernel)⟩
theorem lw_p187 : lw_okq (⟨"SixBitBoardModel", "keepImage", "()V"⟩, 94) := ⟨⟨by decide +kernel, by decide +kernel⟩, List.mem_of_getElem? (i := 1631) (by decide +kernel), List.mem_of_getElem? (i := 2570) (by decide +kernel), List.mem_of_getElem? (i := 2571) (by decide +kernel)⟩
theorem lw_p188 : lw_okq (⟨"SixBitBoardModel", "sayLists", "()V"⟩, 94) := ⟨⟨by decide +kernel, by decide +kernel⟩, List.mem_of_getElem? (i := 1631) (by decide +kernel), List.mem_of_getElem? (i := 2574) (by decide +kernel), List.mem_of_getElem? (i := 2575) (by decide +kernel)⟩
theorem lw_p189 : lw_okq (⟨"SixBitBoardModel", "runJob", "()V"⟩, 94) := ⟨⟨by decide +kernel, by decide +kernel⟩, List.mem_of_getElem? (i := 1631) (by decide +kernel), List.mem_of_getElem? (i := 2578) (by decide +kernel), List.mem_of_getElem? (i := 2579) (by decide +kernel)⟩
theorem lw_p190 : lw_okq (⟨"SixBitBoardModel", "finishJob", "(III)V"⟩, 94) := ⟨⟨by decide +kernel, by decide +kernel⟩, List.mem_of_getElem? (i := 1631) (by decide +kernel), List.mem_of_getElem? (i := 2582) (by decide +kernel), List.mem_of_getElem? (i := 2583) (by decide +kernel)⟩
theorem lw_p191 : lw_okq (⟨"SixBitBoardModel", "sayAll", "(Ljava/lang/String;)V"⟩, 94) := ⟨⟨by decide +kernel, by decide +kernel⟩, List.mem_of_getElem? (i := 1631) (by decide +kernel), List.mem_of_getElem? (i := 2594) (by decide +kernel), List.mem_of_getElem? (i := 2595) (by decide +kernel)⟩
def lw_privs_12 : List (MethodName × Nat) := [(⟨"SixBitBoardModel", "isWord", "(ILjava/lang/String;)Z"⟩, 94), (⟨"SixBitBoardModel", "deckLetter", "(II)I"⟩, 94), (⟨"SixBitBoardModel", "hasWordAt", "(IILjava/lang/String;)Z"⟩, 94), (⟨"SixBitBoardModel", "search", "(ILjava/lang/String;)I"⟩, 94), (⟨"SixBitBoardModel", "doJob", "(III)V"⟩, 94), (⟨"SixBitBoardModel", "loadCards", "(II)I"⟩, 94), (⟨"SixBitBoardModel", "readCard", "(I)I"⟩, 94), (⟨"SixBitBoardModel", "areDigits", "(III)Z"⟩, 94), (⟨"SixBitBoardModel", "assembleLines", "(II)Z"⟩, 94), (⟨"SixBitBoardModel", "hasOption", "(I)Z"⟩, 94), (⟨"SixBitBoardModel", "takeImage", "()V"⟩, 94), (⟨"SixBitBoardModel", "keepImage", "()V"⟩, 94), (⟨"SixBitBoardModel", "sayLists", "()V"⟩, 94), (⟨"SixBitBoardModel", "runJob", "()V"⟩, 94), (⟨"SixBitBoardModel", "finishJob", "(III)V"⟩, 94), (⟨"SixBitBoardModel", "sayAll", "(Ljava/lang/String;)V"⟩, 94)]
theorem lw_r12 : ∀ q ∈ lw_privs_12, lw_okq q := List.forall_mem_cons.mpr ⟨lw_p176, List.forall_mem_cons.mpr ⟨lw_p177, List.forall_mem_cons.mpr ⟨lw_p178, List.forall_mem_cons.mpr ⟨lw_p179, List.forall_mem_cons.mpr ⟨lw_p180, List.forall_mem_cons.mpr ⟨lw_p181, List.forall_mem_cons.mpr ⟨lw_p182, List.forall_mem_cons.mpr ⟨lw_p183, List.forall_mem_cons.mpr ⟨lw_p184, List.forall_mem_cons.mpr ⟨lw_p185, List.forall_mem_cons.mpr ⟨lw_p186, List.forall_mem_cons.mpr ⟨lw_p187, List.forall_mem_cons.mpr ⟨lw_p188, List.forall_mem_cons.mpr ⟨lw_p189, List.forall_mem_cons.mpr ⟨lw_p190, List.forall_mem_cons.mpr ⟨lw_p191, fun _ h => absurd h List.not_mem_nil⟩⟩⟩⟩⟩⟩⟩⟩⟩⟩⟩⟩⟩⟩⟩⟩
theorem lw_p192 : lw_okq (⟨"SixBitBoardModel", "dump", "()V"⟩, 94) := ⟨⟨by decide +kernel, by decide +kernel⟩, List.mem_of_getElem? (i := 1631) (by decide +kernel), List.mem_of_getElem? (i := 2598) (by decide +kernel), List.mem_of_getElem? (i := 2599) (by decide +kernel)⟩
def lw_privs_13 : List (MethodName × Nat) := [(⟨"SixBitBoardModel", "dump", "()V"⟩, 94)]
theorem lw_r13 : ∀ q ∈ lw_privs_13, lw_okq q := List.forall_mem_cons.mpr ⟨lw_p192, fun _ h => absurd h List.not_mem_nil⟩
def lw_privs : List (MethodName × Nat) := lw_privs_1 ++ (lw_privs_2 ++ (lw_privs_3 ++ (lw_privs_4 ++ (lw_privs_5 ++ (lw_privs_6 ++ (lw_privs_7 ++ (lw_privs_8 ++ (lw_privs_9 ++ (lw_privs_10 ++ (lw_privs_11 ++ (lw_privs_12 ++ (lw_privs_13))))))))))))
def lw_tbl : List Cond := k2_sels lw_privs ++ tables_1
theorem lw_privs_ok : ∀ q ∈ lw_privs, lw_okq q := by
  show ∀ q ∈ lw_privs_1 ++ (lw_privs_2 ++ (lw_privs_3 ++ (lw_privs_4 ++ (lw_privs_5 ++ (lw_privs_6 ++ (lw_privs_7 ++ (lw_privs_8 ++ (lw_privs_9 ++ (lw_privs_10 ++ (lw_privs_11 ++ (lw_privs_12 ++ (lw_privs_13)))))))))))), lw_okq q
  exact List.forall_mem_append.mpr ⟨lw_r1, List.forall_mem_append.mpr ⟨lw_r2, List.forall_mem_append.mpr ⟨lw_r3, List.forall_mem_append.mpr ⟨lw_r4, List.forall_mem_append.mpr ⟨lw_r5, List.forall_mem_append.mpr ⟨lw_r6, List.forall_mem_append.mpr ⟨lw_r7, List.forall_mem_append.mpr ⟨lw_r8, List.forall_mem_append.mpr ⟨lw_r9, List.forall_mem_append.mpr ⟨lw_r10, List.forall_mem_append.mpr ⟨lw_r11, List.forall_mem_append.mpr ⟨lw_r12, lw_r13⟩⟩⟩⟩⟩⟩⟩⟩⟩⟩⟩⟩
end
section
/-! ===== BEGIN words of one list among another's, by their places ===== -/
theorem goodIn_r {big : List Cond} (ws : List Cond) (ps : List Nat) (hp : ws = ps.filterMap (fun i => big[i]?)) (h : ws.all goodWord = true) : GoodIn big ws := by
  intro w hw
  have h1 := List.all_eq_true.mp h w hw
  rw [hp] at hw
  obtain ⟨i, -, hi⟩ := List.mem_filterMap.mp hw
  have hm : w ∈ big := by first | exact List.mem_of_getElem? hi | exact List.getElem?_mem hi
  exact ⟨hm, good_of_word h1⟩
theorem goodIn_app {big a b : List Cond} (ha : GoodIn big a) (hb : GoodIn big b) : GoodIn big (a ++ b) := fun w h => (List.mem_append.mp h).elim (ha w) (hb w)
theorem goodIn_ca {big a b : List Cond} {c : Cond} (ha : GoodIn big (c :: a)) (hb : GoodIn big b) : GoodIn big (c :: (a ++ b)) := fun w h => (List.mem_cons.mp h).elim (fun e => ha w (List.mem_cons.mpr (Or.inl e))) (fun h => (List.mem_append.mp h).elim (fun h => ha w (List.mem_cons.mpr (Or.inr h))) (hb w))
theorem goodIn_sub {big ws : List Cond} (hm : ∀ w ∈ ws, w ∈ big) (h : ws.all goodWord = true) : GoodIn big ws := fun w hw => ⟨hm w hw, good_of_word (List.all_eq_true.mp h w hw)⟩
/-! ===== END ===== -/

/-! ===== BEGIN exceptions that leave a method, and their catching by the caller (launches without stack traces) ===== -/
section VXA
/-! The laws vx_back, vx_callV, vx_callS, vx_callSW, vx_throw0, vx_throwS follow proofs of the library, with one case more: JvmDerived/Free/Laws.lean (Back.of_free), Shelf42/LK1.lean (callV, callS), Shelf/KitTraced.lean (throwNew0V, throwNewS). -/
/-- where a method has thrown q: the class by its name, the cell, what was written, the world -/
def vx_T (XC : String → State → State → Prop) (st : State) (q : Addr) (t : State) (mc ms : Nat) (free : Addr → Prop) : Prop :=
  ∃ (E : String) (ce : Cell) (L : List Loc), XC E st t ∧ t.heap[q]? = some ce ∧ ce.vm = .none ∧ st.vm.findClass E = some ce.cls ∧ st.WarmedH t.vm ∧ st.sameButNew ({ t with vm := st.vm } : State) L mc ms ∧ ∀ z ∈ L, free z.base
def vx_Q (Qc : Array Value → State → Outcome → State → Prop) (XC : String → State → State → Prop) (mc ms : Nat) (free : Addr → Prop) : Array Value → State → Outcome → State → Prop := fun a st o t =>
  (Qc a st o t ∧ ∃ L, FrameEnd st o t L mc ms ∧ ∀ q ∈ L, free q.base) ∨ ∃ q, o = .threw q ∧ vx_T XC st q t mc ms free
/-- a callee that returns or throws -/
def vx_Met (l : Launch) (y : MethodName) (ws : List Cond) (rm : Room) (Pc : Array Value → State → Prop) (Qc : Array Value → State → Outcome → State → Prop) (XC : String → State → State → Prop) (mc ms : Nat) (free : Addr → Prop) : Prop :=
  MetFree l y (headSpec ws rm) Pc (fun _ _ _ _ _ => True) (vx_Q Qc XC mc ms free)
def vx_Post (XC : String → State → State → Prop) (mc ms : Nat) (free : Addr → Prop) : Pt → Array Value → Addr → Pt → Prop := fun A a q B =>
  ∃ (g : JFrame) (mk : MethodId) (t : State) (L : List Loc) (E : String) (ce : Cell), B.U.heap = t.heap ∧ B.U.vm = t.vm ∧ XC E (A.U.calling g mk a) t ∧ t.heap[q]? = some ce ∧ ce.vm = .none ∧ A.U.vm.findClass E = some ce.cls ∧ B.locs = A.locs ++ L ∧ (∀ z ∈ L, free z.base) ∧ B.cells = A.cells + mc ∧ B.slots = A.slots + ms
def vx_Back (l : Launch) (R : Room) (p : Program) (e : Env) (below : List Frame) (s : State) (sargs : Array Value) (y : MethodName) (len W9 : Nat)
    (Pre : Pt → Array Value → Prop) (Post : Pt → Array Value → Option Value → Pt → Prop) (PostX : Pt → Array Value → Addr → Pt → Prop) : Prop :=
  ∀ (m : MethodId) (meth : Method) (c : Code) (A : Pt) (g : JFrame) (ig : Instr) (mk : MethodId) (a : Array Value),
    Stand p l e R s m sargs below meth c A.U A.locs A.cells A.slots → g.method = m → g.locals.size = c.maxLocals → decode c.code g.pc = .ok (ig, len) →
    2 * g.monitorRoom + (g.stack.map fun v => v.category).sum ≤ W9 → A.U.methodNamed? y = some mk → Pre A a →
    (∃ (v : Option Value) (B : Pt), Stand p l e R s m sargs below meth c B.U B.locs B.cells B.slots ∧ Post A a v B ∧
      Steps p.tables e below (doInvoke e (A.U.setTop g) [] mk a).1 (B.U.setTop { g with pc := g.pc + len, stack := v.toList ++ g.stack })) ∨
    (∃ (q : Addr) (B : Pt), Stand p l e R s m sargs below meth c B.U B.locs B.cells B.slots ∧ PostX A a q B ∧
      Steps p.tables e below (doInvoke e (A.U.setTop g) [] mk a).1 ((B.U.setTop g).pushFrame (.throwing q)))
section Payer
variable {l : Launch} {R : Room} {p : Program} {e : Env} {below : List Frame} {s : State} {sargs : Array Value} {y : MethodName} {len W9 : Nat}
theorem vx_back {ws : List Cond} {rm : Room} {Pc : Array Value → State → Prop} {Qc : Array Value → State → Outcome → State → Prop} {XC : String → State → State → Prop} {mc ms : Nat} {free : Addr → Prop} {bytes : ByteArray} {maxL : Nat} {ret : Option FieldType}
    (hM : vx_Met l y ws rm Pc Qc XC mc ms free) (hblind : FrameBlind Pc) (hrc : rm.cells = mc) (hrs : rm.slots = ms)
    (hframes : rm.frames + 1 ≤ R.frames) (hlocals : W9 + (maxL + 11) + rm.locals ≤ R.locals)
    (hws : ∀ w ∈ ws, ∀ a' U, s.WarmedH U.vm → w.before a' U = true) (hcode : Cond.code y bytes maxL ret ∈ ws) (hinit : ∀ a' U, s.WarmedH U.vm → (Cond.initialized y.cls).before a' U = true) :
    vx_Back l R p e below s sargs y len W9 (PreOf R mc ms Pc) (PostOf Qc mc ms free) (vx_Post XC mc ms free) := by
  intro m meth c A g ig mk a X hg hsize hdg hW hn hp
  have h1 : (headSpec ws rm).pre.before a A.U = true := atoms_intro fun w hw => hws w hw _ _ X.warmed
  have h2 : (Cond.code y bytes maxL ret).before a A.U = true := hws _ hcode _ _ X.warmed
  have h3 : (Cond.initialized y.cls).before a A.U = true := hinit _ _ X.warmed
  have h4 : A.cells + (headSpec ws rm).room.cells ≤ R.cells := by rw [show (headSpec ws rm).room.cells = mc from hrc]; exact hp.1
  have h5 : A.slots + (headSpec ws rm).room.slots ≤ R.slots := by rw [show (headSpec ws rm).room.slots = ms from hrs]; exact hp.2.1
  have hPc : Pc a (A.U.calling g mk a) := hblind _ _ _ _ hp.2.2
  obtain ⟨U, Ls, c0, s0⟩ := A
  dsimp only [Pt.U, Pt.locs, Pt.cells, Pt.slots] at h1 h2 h3 h4 h5 X hn hPc ⊢
  obtain ⟨methY, cY, hmY, hcY, -, hlY, -, -, -, -⟩ := Cond.code_spec hn h2
  obtain ⟨kY, hkY, -⟩ := className_of_methodNamed hn
  have hinitY : kY.init = .initialized := Cond.initialized_spec (findClass_of_methodNamed hn) hkY h3
  have h : At U g.method c below := by rw [hg]; exact X.here
  have hlocals9 : W9 + (maxL + 11) + (headSpec ws rm).room.locals ≤ R.locals := hlocals
  have happ : (headSpec ws rm).appliesLoose y e.platform (U.calling g mk a) = true :=
    Spec.appliesLoose_calling (g := g) h hdg hn hkY hinitY
      (X.room_calling (g := g) (R' := (headSpec ws rm).room) hsize hmY hcY hframes (by rw [hlY]; omega) h4 h5) h1
  obtain ⟨mid, hmid⟩ := h.above
  have hfr : (U.setTop g).frames = (.java g :: mid) ++ below := by rw [State.frames_setTop' g h.top, hmid]; rfl
  obtain ⟨o, s₂, hsteps, -, hend, hq⟩ := Steps.callFree hM p X.admits X.cas X.clock (acts := []) hfr happ hPc trivial
  have hq' : vx_Q Qc XC mc ms free a (U.calling g mk a) o s₂ := hq
  rw [State.frames_setTop' g h.top] at hend
  obtain ⟨g₀, hg0⟩ := Option.isSome_iff_exists.mp h.top
  obtain ⟨r, hr⟩ := State.topJava?_eq_some.mp hg0
  have hr' : (({ U with heap := s₂.heap, slotsUsed := s₂.slotsUsed } : State).setVm s₂.vm).frames = .java g₀ :: r := hr
  rcases hq' with ⟨hqc, L, hfe, hL⟩ | ⟨q, rfl, E, ce, L, hx, hce, hcv, hcl, hW₂, hsm, hL⟩
  · obtain ⟨⟨v, rfl⟩, hW₂, e2, q2, q3, q4, q5, q6⟩ := id hfe
    have e3 : s₂ = ({ (U.calling g mk a).setFrames s₂.frames with heap := s₂.heap, slotsUsed := s₂.slotsUsed } : State).setVm s₂.vm := by
      have : s₂ = ({ s₂ with vm := (U.calling g mk a).vm } : State).setVm s₂.vm := rfl
      rw [e2] at this
      exact this
    obtain ⟨c₂, i₂, len₂, hc₂, hd₂, hf₂⟩ := hend
    have hW' : U.WarmedH s₂.vm := hW₂
    have hcc : c₂ = c := by
      have h1 : s₂.code? g.method = U.code? g.method := by
        rw [State.code?_eq, State.code?_eq, hW'.alike.method?]
      exact Option.some.inj (hc₂.symm.trans (h1.trans h.code))
    subst hcc
    have hlen : len₂ = len := by rw [hdg] at hd₂; cases hd₂; rfl
    subst hlen
    have hs₂ : s₂ = (({ U with heap := s₂.heap, slotsUsed := s₂.slotsUsed } : State).setVm s₂.vm).setTop { g with pc := g.pc + len₂, stack := v.toList ++ g.stack } := by
      refine e3.trans ?_
      rw [hf₂, State.calling_eq h.top, State.setFrames_setFrames, State.setTop_of_frames _ hr', hr]
      rfl
    have hsame : U.sameButNew ({ U with heap := s₂.heap, slotsUsed := s₂.slotsUsed } : State) L mc ms := by
      refine ⟨?_, q2, q3, q4, q5, q6⟩
      obtain ⟨t, ht, -⟩ := State.frames_cons hr
      show ({ U with heap := s₂.heap, slotsUsed := s₂.slotsUsed } : State) = { U.setFrames U.frames with heap := s₂.heap, slotsUsed := s₂.slotsUsed }
      rw [State.setFrames_self ht]
    subst hg
    refine Or.inl ⟨v, ⟨(({ U with heap := s₂.heap, slotsUsed := s₂.slotsUsed } : State).setVm s₂.vm), Ls ++ L, c0 + mc, s0 + ms⟩,
      ⟨X.admits, X.cas, X.clock, X.frames, X.room, X.hears, X.method, X.code, (X.here.setHeapUsed s₂.heap s₂.slotsUsed).setVm hW'.alike, X.tail, State.WarmedH.trans X.warmed hW', X.limits, X.bytes, X.same.trans (hsame.setVm s.vm)⟩,
      ⟨g, mk, s₂, L, rfl, rfl, hqc, rfl, hL, rfl, rfl⟩, ?_⟩
    show Steps p.tables e below _ ((({ U with heap := s₂.heap, slotsUsed := s₂.slotsUsed } : State).setVm s₂.vm).setTop { g with pc := g.pc + len₂, stack := v.toList ++ g.stack })
    rw [← hs₂]
    exact hsteps
  · obtain ⟨e2, q2, q3, q4, q5, q6⟩ := id hsm
    have e3 : s₂ = ({ (U.calling g mk a).setFrames s₂.frames with heap := s₂.heap, slotsUsed := s₂.slotsUsed } : State).setVm s₂.vm := by
      have : s₂ = ({ s₂ with vm := (U.calling g mk a).vm } : State).setVm s₂.vm := rfl
      rw [e2] at this
      exact this
    have hf₂ : s₂.frames = .throwing q :: .java g :: U.frames.tail := hend
    have hW' : U.WarmedH s₂.vm := hW₂
    have hs₂ : s₂ = ((({ U with heap := s₂.heap, slotsUsed := s₂.slotsUsed } : State).setVm s₂.vm).setTop g).pushFrame (.throwing q) := by
      refine e3.trans ?_
      rw [hf₂, State.calling_eq h.top, State.setFrames_setFrames, State.pushFrame, State.frames_setTop _ hr', State.setTop_of_frames _ hr', State.setFrames_setFrames, hr]
      rfl
    have hsame : U.sameButNew ({ U with heap := s₂.heap, slotsUsed := s₂.slotsUsed } : State) L mc ms := by
      refine ⟨?_, q2, q3, q4, q5, q6⟩
      obtain ⟨t, ht, -⟩ := State.frames_cons hr
      show ({ U with heap := s₂.heap, slotsUsed := s₂.slotsUsed } : State) = { U.setFrames U.frames with heap := s₂.heap, slotsUsed := s₂.slotsUsed }
      rw [State.setFrames_self ht]
    subst hg
    refine Or.inr ⟨q, ⟨(({ U with heap := s₂.heap, slotsUsed := s₂.slotsUsed } : State).setVm s₂.vm), Ls ++ L, c0 + mc, s0 + ms⟩,
      ⟨X.admits, X.cas, X.clock, X.frames, X.room, X.hears, X.method, X.code, (X.here.setHeapUsed s₂.heap s₂.slotsUsed).setVm hW'.alike, X.tail, State.WarmedH.trans X.warmed hW', X.limits, X.bytes, X.same.trans (hsame.setVm s.vm)⟩,
      ⟨g, mk, s₂, L, E, ce, rfl, rfl, hx, hce, hcv, hcl, rfl, hL, rfl, rfl⟩, ?_⟩
    show Steps p.tables e below _ (((({ U with heap := s₂.heap, slotsUsed := s₂.slotsUsed } : State).setVm s₂.vm).setTop g).pushFrame (.throwing q))
    rw [← hs₂]
    exact hsteps
end Payer
section Calls
variable {p : Program} {l : Launch} {e : Env} {R : Room} {s : State} {m : MethodId} {args : Array Value} {below : List Frame} {meth : Method} {c : Code} {T : State} {locs : List Loc} {cells slots : Nat}
theorem vx_callV (X : Stand p l e R s m args below meth c T locs cells slots) (hexec : p.tables.exec = Jvm.exec) {own C : String} {index : Nat} {y : MethodName} {bytes : ByteArray} {maxL : Nat} {ret : Option FieldType}
    (hown : s.vm.findClass own = some m.cls) (hlink : (Cond.methodLink own index y).before args s = true) (hinst : (Cond.instanceMethod y).before args s = true) (hsel : (Cond.selects C y y).before args s = true)
    (hcode : (Cond.code y bytes maxL ret).before args s = true) (hy : y.cls ≠ "java/lang/invoke/MethodHandle" ∧ y.cls ≠ "java/lang/invoke/VarHandle")
    {W9 : Nat} {Pre : Pt → Array Value → Prop} {Post : Pt → Array Value → Option Value → Pt → Prop} {PostX : Pt → Array Value → Addr → Pt → Prop} (hK : vx_Back l R p e below s args y 3 W9 Pre Post PostX)
    {b : Addr} {cellB : Cell} (hcell : T.heap[b]? = some cellB) (hobj : cellB.vm.isStatics = false) (hcls : s.vm.findClass C = some cellB.cls)
    {g : JFrame} (hg : g.method = m) (hsize : g.locals.size = c.maxLocals) {argsL rest : List Value} (hlen : ∀ sig, parseMethodDescriptor y.desc = some sig → argsL.length = sig.parameters.length)
    (hstack : g.stack = argsL.reverse ++ .ref b :: rest) (hW : 2 * g.monitorRoom + (rest.map fun v => v.category).sum ≤ W9) (hdg : decode c.code g.pc = .ok (.invokevirtual index, 3))
    (hpre : ∀ vm₁, s.WarmedH vm₁ → Pre ⟨T.setVm vm₁, locs, cells, slots⟩ (Value.ref b :: argsL).toArray) :
    (∃ (v : Option Value) (vm₁ : Vm) (B : Pt), s.WarmedH vm₁ ∧ Stand p l e R s m args below meth c B.U B.locs B.cells B.slots ∧ Post ⟨T.setVm vm₁, locs, cells, slots⟩ (Value.ref b :: argsL).toArray v B ∧
      ∀ target, Steps p.tables e below (B.U.setTop { g with pc := g.pc + 3, stack := v.toList ++ rest }) target → Steps p.tables e below (T.setTop g) target) ∨
    (∃ (q : Addr) (vm₁ : Vm) (B : Pt), s.WarmedH vm₁ ∧ Stand p l e R s m args below meth c B.U B.locs B.cells B.slots ∧ PostX ⟨T.setVm vm₁, locs, cells, slots⟩ (Value.ref b :: argsL).toArray q B ∧
      Steps p.tables e below (T.setTop g) ((B.U.setTop { g with stack := rest }).pushFrame (.throwing q))) := by
  obtain ⟨mk, methM, hnamed, hmethM, hstM, habM⟩ := Cond.instanceMethod_spec hinst
  obtain ⟨methM', cM, hmethM', -, -, -, -, -, -, hsigM⟩ := Cond.code_spec hnamed hcode
  cases hmethM.symm.trans hmethM'
  obtain ⟨c2, r2, m2, q1, q2, q3, q4, kP, hkP, hkPi⟩ := Cond.selects_spec hsel
  cases hcls.symm.trans q1
  cases (State.methodFound?_of_named hnamed hy).symm.trans q2
  cases hnamed.symm.trans q3
  have hselP : selectMethod e.platform s.vm cellB.cls mk = .method mk := by rw [Launch.admits_selectMethod X.admits]; exact q4
  obtain ⟨vm₁, X₁, hstep₁⟩ := X.invokevirtual hexec hown hlink hnamed hmethM hstM hkP hkPi hy (a := b) (cell := cellB) hcell
    (fun z h => by rw [h] at hobj; cases hobj) hselP hmethM habM hkP hkPi (g := g) hg (argsL := argsL) (rest := rest) (hlen _ hsigM) hstack hdg
  rcases hK m meth c ⟨T.setVm vm₁, locs, cells, slots⟩ { g with stack := rest } (.invokevirtual index) mk (Value.ref b :: argsL).toArray X₁ hg hsize hdg hW (X₁.named hnamed) (hpre vm₁ X₁.warmed) with ⟨v, B, X', hpost, hsteps⟩ | ⟨q, B, X', hpost, hsteps⟩
  · exact Or.inl ⟨v, vm₁, B, X₁.warmed, X', hpost, fun target h => hstep₁ _ fun acts => by rw [doInvoke_state]; exact hsteps.trans h⟩
  · exact Or.inr ⟨q, vm₁, B, X₁.warmed, X', hpost, hstep₁ _ fun acts => by rw [doInvoke_state]; exact hsteps⟩
theorem vx_callS (X : Stand p l e R s m args below meth c T locs cells slots) (hexec : p.tables.exec = Jvm.exec) {own : String} {index : Nat} {y : MethodName} {bytes : ByteArray} {maxL : Nat} {ret : Option FieldType}
    (hown : s.vm.findClass own = some m.cls) (hlink : (Cond.methodLink own index y).before args s = true) (hstat : (Cond.static y).before args s = true) (hinit : (Cond.initialized y.cls).before args s = true)
    (hcode : (Cond.code y bytes maxL ret).before args s = true) (hy : y.cls ≠ "java/lang/invoke/MethodHandle" ∧ y.cls ≠ "java/lang/invoke/VarHandle")
    {W9 : Nat} {Pre : Pt → Array Value → Prop} {Post : Pt → Array Value → Option Value → Pt → Prop} {PostX : Pt → Array Value → Addr → Pt → Prop} (hK : vx_Back l R p e below s args y 3 W9 Pre Post PostX)
    {g : JFrame} (hg : g.method = m) (hsize : g.locals.size = c.maxLocals) {argsL rest : List Value} (hlen : ∀ sig, parseMethodDescriptor y.desc = some sig → argsL.length = sig.parameters.length)
    (hstack : g.stack = argsL.reverse ++ rest) (hW : 2 * g.monitorRoom + (rest.map fun v => v.category).sum ≤ W9) (hdg : decode c.code g.pc = .ok (.invokestatic index, 3))
    (hpre : ∀ vm₁, s.WarmedH vm₁ → Pre ⟨T.setVm vm₁, locs, cells, slots⟩ argsL.toArray) :
    (∃ (v : Option Value) (vm₁ : Vm) (B : Pt), s.WarmedH vm₁ ∧ Stand p l e R s m args below meth c B.U B.locs B.cells B.slots ∧ Post ⟨T.setVm vm₁, locs, cells, slots⟩ argsL.toArray v B ∧
      ∀ target, Steps p.tables e below (B.U.setTop { g with pc := g.pc + 3, stack := v.toList ++ rest }) target → Steps p.tables e below (T.setTop g) target) ∨
    (∃ (q : Addr) (vm₁ : Vm) (B : Pt), s.WarmedH vm₁ ∧ Stand p l e R s m args below meth c B.U B.locs B.cells B.slots ∧ PostX ⟨T.setVm vm₁, locs, cells, slots⟩ argsL.toArray q B ∧
      Steps p.tables e below (T.setTop g) ((B.U.setTop { g with stack := rest }).pushFrame (.throwing q))) := by
  obtain ⟨mk, hnamed⟩ := Cond.code_named hcode
  obtain ⟨methM, cM, hmethM, -, -, -, -, -, -, hsigM⟩ := Cond.code_spec hnamed hcode
  have hstatic : methM.isStatic = true := Cond.static_spec hnamed hmethM hstat
  obtain ⟨kP, hkP, -⟩ := className_of_methodNamed hnamed
  have hinitP : kP.init = .initialized := Cond.initialized_spec (findClass_of_methodNamed hnamed) hkP hinit
  obtain ⟨vm₁, X₁, hstep₁⟩ := X.invokestatic hexec hown hlink hnamed hmethM hstatic hkP hinitP hy (g := g) hg (argsL := argsL) (rest := rest) (hlen _ hsigM) hstack hdg
  rcases hK m meth c ⟨T.setVm vm₁, locs, cells, slots⟩ { g with stack := rest } (.invokestatic index) mk argsL.toArray X₁ hg hsize hdg hW (X₁.named hnamed) (hpre vm₁ X₁.warmed) with ⟨v, B, X', hpost, hsteps⟩ | ⟨q, B, X', hpost, hsteps⟩
  · exact Or.inl ⟨v, vm₁, B, X₁.warmed, X', hpost, fun target h => hstep₁ _ fun acts => by rw [doInvoke_state]; exact hsteps.trans h⟩
  · exact Or.inr ⟨q, vm₁, B, X₁.warmed, X', hpost, hstep₁ _ fun acts => by rw [doInvoke_state]; exact hsteps⟩
end Calls
theorem vx_cls {s : State} {T : State} {vm₁ : Vm} {E : String} {k : ClassId} (hW : s.WarmedH vm₁) (h : (T.setVm vm₁).vm.findClass E = some k) : s.vm.findClass E = some k := by
  have h1 : vm₁.findClass E = some k := h
  rw [hW.alike.findClass] at h1
  exact h1
/-- the method's frame g, with q thrown over it -/
def vx_W (p : Program) (l : Launch) (e : Env) (R : Room) (s : State) (m : MethodId) (args : Array Value) (below : List Frame) (meth : Method) (c : Code) (H : Heap) (locs : List Loc) (cells slots : Nat) (Q : State → Prop) (g : JFrame) (q : Addr) : Prop :=
  ∀ T : State, T.heap = H → Stand p l e R s m args below meth c T locs cells slots → ∃ t, Steps p.tables e below ((T.setTop g).pushFrame (.throwing q)) t ∧ Q t
def vx_Run (p : Program) (l : Launch) (e : Env) (R : Room) (s : State) (m : MethodId) (args : Array Value) (below : List Frame) (meth : Method) (c : Code) (H : Heap) (locs : List Loc) (cells slots mc ms : Nat) (g : JFrame) (rest : List Value) (Qa : State → Outcome → State → Prop) (XC : String → State → State → Prop) (free : Addr → Prop) : Prop :=
  ∀ T : State, T.heap = H → Stand p l e R s m args below meth c T locs cells slots →
    (∃ (v : Option Value) (st₀ t T' : State) (L : List Loc), st₀.heap = H ∧ Stand p l e R s m args below meth c T' (locs ++ L) (cells + mc) (slots + ms) ∧ (∀ q ∈ L, free q.base) ∧ T'.heap = t.heap ∧ T'.vm = t.vm ∧ Qa st₀ (.returned v) t ∧
      Goes p e below T g T' { g with pc := g.pc + 3, stack := v.toList ++ rest }) ∨
    (∃ (q : Addr) (st₀ t T' : State) (L : List Loc) (E : String) (ce : Cell), st₀.heap = H ∧ Stand p l e R s m args below meth c T' (locs ++ L) (cells + mc) (slots + ms) ∧ (∀ z ∈ L, free z.base) ∧ T'.heap = t.heap ∧ T'.vm = t.vm ∧ XC E st₀ t ∧ t.heap[q]? = some ce ∧ ce.vm = .none ∧ s.vm.findClass E = some ce.cls ∧
      Steps p.tables e below (T.setTop g) ((T'.setTop { g with stack := rest }).pushFrame (.throwing q)))
def vx_X {S : Type} (px : S → Prop) (B : String → S → State → Prop) (A : Nat → Prop) : String → State → State → Prop := fun E st t => ∃ u : S, px u ∧ B E u t ∧ va_F A st t
section Runs
variable {p : Program} {l : Launch} {e : Env} {R : Room} {s : State} {m : MethodId} {args : Array Value} {below : List Frame} {meth : Method} {c : Code} {H : Heap} {locs : List Loc} {cells slots : Nat}
variable {y : MethodName} {bytes cc : ByteArray} {maxL nL mc ms n index : Nat} {ret : Option FieldType} {ws : List Cond} {rm : Room} {Pc : Array Value → State → Prop} {Qc : Array Value → State → Outcome → State → Prop} {XC : String → State → State → Prop} {free : Addr → Prop} {Ts : List Cond} {own C : String} {b : Addr} {As rest : List Value} {g : JFrame}
theorem vx_callBack (cb : CallB R s args own index y bytes maxL ret ws rm mc ms n) (hM : vx_Met l y ws rm Pc Qc XC mc ms free) (hbl : FrameBlind Pc) : vx_Back l R p e below s args y 3 8 (PreOf R mc ms Pc) (PostOf Qc mc ms free) (vx_Post XC mc ms free) := by
  obtain ⟨hrc, hrs, hfr, hlo, hws, hcw, -, hini, -⟩ := cb
  exact vx_back (bytes := bytes) (maxL := maxL) (ret := ret) hM hbl hrc hrs hfr hlo hws hcw (fun a' U hW => word_at hW (Or.inl (by first | rfl | simp [Cond.onTables, Cond.keeps, Cond.steady])) hini)
theorem vx_runV (S : CallFix p m c cc nL s args Ts own) (hM : vx_Met l y ws rm Pc Qc XC mc ms free) (cw : CallW R s args own C index y bytes maxL ret ws rm mc ms n) (hp : PreV s H C b Pc As)
    (hg : g.method = m) (hn : As.length = n) (hsize : g.locals.size = nL) (hstack : g.stack = As.reverse ++ .ref b :: rest) (hW : 2 * g.monitorRoom + (rest.map fun v => v.category).sum ≤ 8) (hdg : decode cc g.pc = .ok (.invokevirtual index, 3)) (hf : cells + mc ≤ R.cells ∧ slots + ms ≤ R.slots) :
    vx_Run p l e R s m args below meth c H locs cells slots mc ms g rest (Qc (Value.ref b :: As).toArray) XC free := by
  have hK : vx_Back l R p e below s args y 3 8 (PreOf R mc ms Pc) (PostOf Qc mc ms free) (vx_Post XC mc ms free) := vx_callBack cw.1 hM hp.1
  obtain ⟨⟨-, -, -, -, -, -, hcode, -, hy, hlen, hl⟩, hin, hse⟩ := cw
  obtain ⟨hx, hb, hml, ho, -⟩ := S
  obtain ⟨-, ⟨cellB, hcB, hoB, hclB⟩, hPc⟩ := hp
  intro T hT X
  rcases vx_callV X hx (C := C) (bytes := bytes) (maxL := maxL) (ret := ret) ho hl hin hse hcode hy hK (by rw [hT]; exact hcB) hoB hclB hg (hsize.trans hml.symm) (argsL := As) (rest := rest) (fun sig h => hn.trans (hlen sig h)) hstack hW (by rw [hb]; exact hdg)
    (fun vm₁ hW₁ => ⟨hf.1, hf.2, hPc (T.setVm vm₁) hT hW₁⟩) with ⟨v, vm₁, ⟨U', l2, c2, s2⟩, hW₁, X', ⟨g', mk, t, L, e1, e2, hq, h1, hL, h2, h3⟩, st⟩ | ⟨q, vm₁, ⟨U', l2, c2, s2⟩, hW₁, X', ⟨g', mk, t, L, E, ce, e1, e2, hq, hce, hcv, hcl, h1, hL, h2, h3⟩, st⟩
  · dsimp only [Pt.U, Pt.locs, Pt.cells, Pt.slots] at X' e1 e2 h1 h2 h3 st
    subst h1; subst h2; subst h3
    exact Or.inl ⟨v, (T.setVm vm₁).calling g' mk (Value.ref b :: As).toArray, t, U', L, hT, X', hL, e1, e2, hq, st⟩
  · dsimp only [Pt.U, Pt.locs, Pt.cells, Pt.slots] at X' e1 e2 h1 h2 h3 st hcl
    subst h1; subst h2; subst h3
    exact Or.inr ⟨q, (T.setVm vm₁).calling g' mk (Value.ref b :: As).toArray, t, U', L, E, ce, hT, X', hL, e1, e2, hq, hce, hcv, vx_cls hW₁ hcl, st⟩
theorem vx_runS (S : CallFix p m c cc nL s args Ts own) (hM : vx_Met l y ws rm Pc Qc XC mc ms free) (cw : CallB R s args own index y bytes maxL ret ws rm mc ms n ∧ (Cond.static y).before args s = true) (hp : PreS s H Pc As)
    (hg : g.method = m) (hn : As.length = n) (hsize : g.locals.size = nL) (hstack : g.stack = As.reverse ++ rest) (hW : 2 * g.monitorRoom + (rest.map fun v => v.category).sum ≤ 8) (hdg : decode cc g.pc = .ok (.invokestatic index, 3)) (hf : cells + mc ≤ R.cells ∧ slots + ms ≤ R.slots) :
    vx_Run p l e R s m args below meth c H locs cells slots mc ms g rest (Qc As.toArray) XC free := by
  have hK : vx_Back l R p e below s args y 3 8 (PreOf R mc ms Pc) (PostOf Qc mc ms free) (vx_Post XC mc ms free) := vx_callBack cw.1 hM hp.1
  obtain ⟨⟨-, -, -, -, -, -, hcode, hini, hy, hlen, hl⟩, hstt⟩ := cw
  obtain ⟨hx, hb, hml, ho, -⟩ := S
  intro T hT X
  rcases vx_callS X hx (bytes := bytes) (maxL := maxL) (ret := ret) ho hl hstt hini hcode hy hK hg (hsize.trans hml.symm) (argsL := As) (rest := rest) (fun sig h => hn.trans (hlen sig h)) hstack hW (by rw [hb]; exact hdg)
    (fun vm₁ hW₁ => ⟨hf.1, hf.2, hp.2 (T.setVm vm₁) hT hW₁⟩) with ⟨v, vm₁, ⟨U', l2, c2, s2⟩, hW₁, X', ⟨g', mk, t, L, e1, e2, hq, h1, hL, h2, h3⟩, st⟩ | ⟨q, vm₁, ⟨U', l2, c2, s2⟩, hW₁, X', ⟨g', mk, t, L, E, ce, e1, e2, hq, hce, hcv, hcl, h1, hL, h2, h3⟩, st⟩
  · dsimp only [Pt.U, Pt.locs, Pt.cells, Pt.slots] at X' e1 e2 h1 h2 h3 st
    subst h1; subst h2; subst h3
    exact Or.inl ⟨v, (T.setVm vm₁).calling g' mk As.toArray, t, U', L, hT, X', hL, e1, e2, hq, st⟩
  · dsimp only [Pt.U, Pt.locs, Pt.cells, Pt.slots] at X' e1 e2 h1 h2 h3 st hcl
    subst h1; subst h2; subst h3
    exact Or.inr ⟨q, (T.setVm vm₁).calling g' mk As.toArray, t, U', L, E, ce, hT, X', hL, e1, e2, hq, hce, hcv, vx_cls hW₁ hcl, st⟩
end Runs
section Rows
variable {p : Program} {l : Launch} {e : Env} {R : Room} {s : State} {m : MethodId} {args : Array Value} {below : List Frame} {meth : Method} {c : Code} {H : Heap} {locs : List Loc} {cells slots : Nat} {Q : State → Prop}
variable {mc ms : Nat} {free : Addr → Prop} {A0 A1 : Nat → Prop} {H0 : Heap} {a : Array Value} {pc : Nat} {ls : Array Slot} {st0 rest : List Value}
theorem vx_keep {st₀ t T' : State} {L : List Loc} (h0 : st₀.heap = H) (e1 : T'.heap = t.heap) (hS : va_S A0 H0 H locs) (hA : ∀ q, q < H.size → A1 q → A0 q) (hf : ∀ q, free q → A0 q) (hL : ∀ q ∈ L, free q.base) (hF : va_F A1 st₀ t) :
    H.size ≤ T'.heap.size ∧ (∀ q : Nat, q < H.size → ¬ A1 q → T'.heap[q]? = H[q]?) ∧ va_S A0 H0 T'.heap (locs ++ L) := by
  obtain ⟨hz, hk⟩ := hF
  rw [h0] at hz hk
  exact ⟨by rw [e1]; exact hz, fun q h1 h2 => by rw [e1]; exact hk q h1 h2,
    ⟨Nat.le_trans hS.1 (by rw [e1]; exact hz), fun q h1 h2 => by rw [e1, hk q (Nat.lt_of_lt_of_le h1 hS.1) (fun z => h2 (hA q (Nat.lt_of_lt_of_le h1 hS.1) z))]; exact hS.2.1 q h1 h2, fun q hq => by
      rcases List.mem_append.mp hq with h | h
      · exact hS.2.2 q h
      · exact hf _ (hL q h)⟩⟩
theorem vx_calli {S SX : Type} {post : Int32 → S → Prop} {px : SX → Prop} {B : S → State → Prop} {BX : String → SX → State → Prop} {AX : Nat → Prop} (hr : vx_Run p l e R s m args below meth c H locs cells slots mc ms (F0 m pc ls st0) rest (va_Qi post B A1 a) (vx_X px BX AX) free) (hS : va_S A0 H0 H locs) (hA : ∀ q, q < H.size → A1 q → A0 q) (hf : ∀ q, free q → A0 q) (hAX : ∀ q, q < H.size → AX q → A0 q)
    (kx : ∀ (E : String) (ce : Cell) (q9 : Addr) (u : SX) (t : State) (H1 : Heap) (locs1 : List Loc), t.heap = H1 → s.vm.Alike t.vm → px u → BX E u t → H.size ≤ H1.size → (∀ q : Nat, q < H.size → ¬ AX q → H1[q]? = H[q]?) → va_S A0 H0 H1 locs1 → H1[q9]? = some ce → ce.vm = .none → s.vm.findClass E = some ce.cls → vx_W p l e R s m args below meth c H1 locs1 (cells + mc) (slots + ms) Q (F0 m pc ls rest) q9)
    (kk : ∀ (r : Int32) (u : S) (t : State) (H1 : Heap) (locs1 : List Loc), t.heap = H1 → s.vm.Alike t.vm → post r u → B u t → H.size ≤ H1.size → (∀ q : Nat, q < H.size → ¬ A1 q → H1[q]? = H[q]?) → va_S A0 H0 H1 locs1 → W p l e R s m args below meth c H1 locs1 (cells + mc) (slots + ms) Q (F0 m (pc + 3) ls (.int r :: rest))) : W p l e R s m args below meth c H locs cells slots Q (F0 m pc ls st0) := by
  intro T hT X
  rcases hr T hT X with ⟨v, st₀, t, T', L, h0, X', hL, e1, e2, ⟨⟨r, u, hv, hp, hb⟩, hF⟩, st⟩ | ⟨q, st₀, t, T', L, E, ce, h0, X', hL, e1, e2, ⟨u, hp, hb, hF⟩, hce, hcv, hcl, st⟩
  · cases hv
    obtain ⟨k1, k2, k3⟩ := vx_keep h0 e1 hS hA hf hL hF
    obtain ⟨t2, a1, b1⟩ := kk r u t T'.heap (locs ++ L) e1.symm (by rw [← e2]; exact X'.warmed.alike) hp hb k1 k2 k3 T' rfl X'
    exact ⟨t2, st t2 a1, b1⟩
  · obtain ⟨k1, k2, k3⟩ := vx_keep h0 e1 hS hAX hf hL hF
    obtain ⟨t2, a1, b1⟩ := kx E ce q u t T'.heap (locs ++ L) e1.symm (by rw [← e2]; exact X'.warmed.alike) hp hb k1 k2 k3 (by rw [e1]; exact hce) hcv hcl T' rfl X'
    exact ⟨t2, st.trans a1, b1⟩
theorem vx_calll {S SX : Type} {post : Int64 → S → Prop} {px : SX → Prop} {B : S → State → Prop} {BX : String → SX → State → Prop} {AX : Nat → Prop} (hr : vx_Run p l e R s m args below meth c H locs cells slots mc ms (F0 m pc ls st0) rest (va_Ql post B A1 a) (vx_X px BX AX) free) (hS : va_S A0 H0 H locs) (hA : ∀ q, q < H.size → A1 q → A0 q) (hf : ∀ q, free q → A0 q) (hAX : ∀ q, q < H.size → AX q → A0 q)
    (kx : ∀ (E : String) (ce : Cell) (q9 : Addr) (u : SX) (t : State) (H1 : Heap) (locs1 : List Loc), t.heap = H1 → s.vm.Alike t.vm → px u → BX E u t → H.size ≤ H1.size → (∀ q : Nat, q < H.size → ¬ AX q → H1[q]? = H[q]?) → va_S A0 H0 H1 locs1 → H1[q9]? = some ce → ce.vm = .none → s.vm.findClass E = some ce.cls → vx_W p l e R s m args below meth c H1 locs1 (cells + mc) (slots + ms) Q (F0 m pc ls rest) q9)
    (kk : ∀ (r : Int64) (u : S) (t : State) (H1 : Heap) (locs1 : List Loc), t.heap = H1 → s.vm.Alike t.vm → post r u → B u t → H.size ≤ H1.size → (∀ q : Nat, q < H.size → ¬ A1 q → H1[q]? = H[q]?) → va_S A0 H0 H1 locs1 → W p l e R s m args below meth c H1 locs1 (cells + mc) (slots + ms) Q (F0 m (pc + 3) ls (.long r :: rest))) : W p l e R s m args below meth c H locs cells slots Q (F0 m pc ls st0) := by
  intro T hT X
  rcases hr T hT X with ⟨v, st₀, t, T', L, h0, X', hL, e1, e2, ⟨⟨r, u, hv, hp, hb⟩, hF⟩, st⟩ | ⟨q, st₀, t, T', L, E, ce, h0, X', hL, e1, e2, ⟨u, hp, hb, hF⟩, hce, hcv, hcl, st⟩
  · cases hv
    obtain ⟨k1, k2, k3⟩ := vx_keep h0 e1 hS hA hf hL hF
    obtain ⟨t2, a1, b1⟩ := kk r u t T'.heap (locs ++ L) e1.symm (by rw [← e2]; exact X'.warmed.alike) hp hb k1 k2 k3 T' rfl X'
    exact ⟨t2, st t2 a1, b1⟩
  · obtain ⟨k1, k2, k3⟩ := vx_keep h0 e1 hS hAX hf hL hF
    obtain ⟨t2, a1, b1⟩ := kx E ce q u t T'.heap (locs ++ L) e1.symm (by rw [← e2]; exact X'.warmed.alike) hp hb k1 k2 k3 (by rw [e1]; exact hce) hcv hcl T' rfl X'
    exact ⟨t2, st.trans a1, b1⟩
theorem vx_callf {S SX : Type} {post : UInt32 → S → Prop} {px : SX → Prop} {B : S → State → Prop} {BX : String → SX → State → Prop} {AX : Nat → Prop} (hr : vx_Run p l e R s m args below meth c H locs cells slots mc ms (F0 m pc ls st0) rest (va_Qf post B A1 a) (vx_X px BX AX) free) (hS : va_S A0 H0 H locs) (hA : ∀ q, q < H.size → A1 q → A0 q) (hf : ∀ q, free q → A0 q) (hAX : ∀ q, q < H.size → AX q → A0 q)
    (kx : ∀ (E : String) (ce : Cell) (q9 : Addr) (u : SX) (t : State) (H1 : Heap) (locs1 : List Loc), t.heap = H1 → s.vm.Alike t.vm → px u → BX E u t → H.size ≤ H1.size → (∀ q : Nat, q < H.size → ¬ AX q → H1[q]? = H[q]?) → va_S A0 H0 H1 locs1 → H1[q9]? = some ce → ce.vm = .none → s.vm.findClass E = some ce.cls → vx_W p l e R s m args below meth c H1 locs1 (cells + mc) (slots + ms) Q (F0 m pc ls rest) q9)
    (kk : ∀ (r : UInt32) (u : S) (t : State) (H1 : Heap) (locs1 : List Loc), t.heap = H1 → s.vm.Alike t.vm → post r u → B u t → H.size ≤ H1.size → (∀ q : Nat, q < H.size → ¬ A1 q → H1[q]? = H[q]?) → va_S A0 H0 H1 locs1 → W p l e R s m args below meth c H1 locs1 (cells + mc) (slots + ms) Q (F0 m (pc + 3) ls (.float r :: rest))) : W p l e R s m args below meth c H locs cells slots Q (F0 m pc ls st0) := by
  intro T hT X
  rcases hr T hT X with ⟨v, st₀, t, T', L, h0, X', hL, e1, e2, ⟨⟨r, u, hv, hp, hb⟩, hF⟩, st⟩ | ⟨q, st₀, t, T', L, E, ce, h0, X', hL, e1, e2, ⟨u, hp, hb, hF⟩, hce, hcv, hcl, st⟩
  · cases hv
    obtain ⟨k1, k2, k3⟩ := vx_keep h0 e1 hS hA hf hL hF
    obtain ⟨t2, a1, b1⟩ := kk r u t T'.heap (locs ++ L) e1.symm (by rw [← e2]; exact X'.warmed.alike) hp hb k1 k2 k3 T' rfl X'
    exact ⟨t2, st t2 a1, b1⟩
  · obtain ⟨k1, k2, k3⟩ := vx_keep h0 e1 hS hAX hf hL hF
    obtain ⟨t2, a1, b1⟩ := kx E ce q u t T'.heap (locs ++ L) e1.symm (by rw [← e2]; exact X'.warmed.alike) hp hb k1 k2 k3 (by rw [e1]; exact hce) hcv hcl T' rfl X'
    exact ⟨t2, st.trans a1, b1⟩
theorem vx_calld {S SX : Type} {post : UInt64 → S → Prop} {px : SX → Prop} {B : S → State → Prop} {BX : String → SX → State → Prop} {AX : Nat → Prop} (hr : vx_Run p l e R s m args below meth c H locs cells slots mc ms (F0 m pc ls st0) rest (va_Qd post B A1 a) (vx_X px BX AX) free) (hS : va_S A0 H0 H locs) (hA : ∀ q, q < H.size → A1 q → A0 q) (hf : ∀ q, free q → A0 q) (hAX : ∀ q, q < H.size → AX q → A0 q)
    (kx : ∀ (E : String) (ce : Cell) (q9 : Addr) (u : SX) (t : State) (H1 : Heap) (locs1 : List Loc), t.heap = H1 → s.vm.Alike t.vm → px u → BX E u t → H.size ≤ H1.size → (∀ q : Nat, q < H.size → ¬ AX q → H1[q]? = H[q]?) → va_S A0 H0 H1 locs1 → H1[q9]? = some ce → ce.vm = .none → s.vm.findClass E = some ce.cls → vx_W p l e R s m args below meth c H1 locs1 (cells + mc) (slots + ms) Q (F0 m pc ls rest) q9)
    (kk : ∀ (r : UInt64) (u : S) (t : State) (H1 : Heap) (locs1 : List Loc), t.heap = H1 → s.vm.Alike t.vm → post r u → B u t → H.size ≤ H1.size → (∀ q : Nat, q < H.size → ¬ A1 q → H1[q]? = H[q]?) → va_S A0 H0 H1 locs1 → W p l e R s m args below meth c H1 locs1 (cells + mc) (slots + ms) Q (F0 m (pc + 3) ls (.double r :: rest))) : W p l e R s m args below meth c H locs cells slots Q (F0 m pc ls st0) := by
  intro T hT X
  rcases hr T hT X with ⟨v, st₀, t, T', L, h0, X', hL, e1, e2, ⟨⟨r, u, hv, hp, hb⟩, hF⟩, st⟩ | ⟨q, st₀, t, T', L, E, ce, h0, X', hL, e1, e2, ⟨u, hp, hb, hF⟩, hce, hcv, hcl, st⟩
  · cases hv
    obtain ⟨k1, k2, k3⟩ := vx_keep h0 e1 hS hA hf hL hF
    obtain ⟨t2, a1, b1⟩ := kk r u t T'.heap (locs ++ L) e1.symm (by rw [← e2]; exact X'.warmed.alike) hp hb k1 k2 k3 T' rfl X'
    exact ⟨t2, st t2 a1, b1⟩
  · obtain ⟨k1, k2, k3⟩ := vx_keep h0 e1 hS hAX hf hL hF
    obtain ⟨t2, a1, b1⟩ := kx E ce q u t T'.heap (locs ++ L) e1.symm (by rw [← e2]; exact X'.warmed.alike) hp hb k1 k2 k3 (by rw [e1]; exact hce) hcv hcl T' rfl X'
    exact ⟨t2, st.trans a1, b1⟩
theorem vx_callv {S SX : Type} {post : S → Prop} {px : SX → Prop} {B : S → State → Prop} {BX : String → SX → State → Prop} {AX : Nat → Prop} (hr : vx_Run p l e R s m args below meth c H locs cells slots mc ms (F0 m pc ls st0) rest (va_Qv post B A1 a) (vx_X px BX AX) free) (hS : va_S A0 H0 H locs) (hA : ∀ q, q < H.size → A1 q → A0 q) (hf : ∀ q, free q → A0 q) (hAX : ∀ q, q < H.size → AX q → A0 q)
    (kx : ∀ (E : String) (ce : Cell) (q9 : Addr) (u : SX) (t : State) (H1 : Heap) (locs1 : List Loc), t.heap = H1 → s.vm.Alike t.vm → px u → BX E u t → H.size ≤ H1.size → (∀ q : Nat, q < H.size → ¬ AX q → H1[q]? = H[q]?) → va_S A0 H0 H1 locs1 → H1[q9]? = some ce → ce.vm = .none → s.vm.findClass E = some ce.cls → vx_W p l e R s m args below meth c H1 locs1 (cells + mc) (slots + ms) Q (F0 m pc ls rest) q9)
    (kk : ∀ (u : S) (t : State) (H1 : Heap) (locs1 : List Loc), t.heap = H1 → s.vm.Alike t.vm → post u → B u t → H.size ≤ H1.size → (∀ q : Nat, q < H.size → ¬ A1 q → H1[q]? = H[q]?) → va_S A0 H0 H1 locs1 → W p l e R s m args below meth c H1 locs1 (cells + mc) (slots + ms) Q (F0 m (pc + 3) ls (rest))) : W p l e R s m args below meth c H locs cells slots Q (F0 m pc ls st0) := by
  intro T hT X
  rcases hr T hT X with ⟨v, st₀, t, T', L, h0, X', hL, e1, e2, ⟨⟨u, hv, hp, hb⟩, hF⟩, st⟩ | ⟨q, st₀, t, T', L, E, ce, h0, X', hL, e1, e2, ⟨u, hp, hb, hF⟩, hce, hcv, hcl, st⟩
  · cases hv
    obtain ⟨k1, k2, k3⟩ := vx_keep h0 e1 hS hA hf hL hF
    obtain ⟨t2, a1, b1⟩ := kk u t T'.heap (locs ++ L) e1.symm (by rw [← e2]; exact X'.warmed.alike) hp hb k1 k2 k3 T' rfl X'
    exact ⟨t2, st t2 a1, b1⟩
  · obtain ⟨k1, k2, k3⟩ := vx_keep h0 e1 hS hAX hf hL hF
    obtain ⟨t2, a1, b1⟩ := kx E ce q u t T'.heap (locs ++ L) e1.symm (by rw [← e2]; exact X'.warmed.alike) hp hb k1 k2 k3 (by rw [e1]; exact hce) hcv hcl T' rfl X'
    exact ⟨t2, st.trans a1, b1⟩
/-- caught by the row x of this method's table; the rows ahead don't take it -/
theorem vx_catch {own name : String} {E : String} {ce : Cell} {q : Addr} (hown : s.vm.findClass own = some m.cls) (pre : List ExceptionTableEntry) (x : ExceptionTableEntry) (suf : List ExceptionTableEntry) (hsplit : c.exceptionTable.toList = pre ++ x :: suf)
    (hpass : ∀ z ∈ pre, covers z pc = false ∨ (z.catchType ≠ 0 ∧ ∃ nm : String, (Cond.classLink own z.catchType nm).before args s = true ∧ va_Nc E nm s)) (hx : covers x pc = true) (h0 : x.catchType ≠ 0)
    (hlink : (Cond.classLink own x.catchType name).before args s = true) (hcast : (Cond.castable E name).before args s = true) (hcell : H[q]? = some ce) (hv : ce.vm = .none) (hcl : s.vm.findClass E = some ce.cls)
    (kk : W p l e R s m args below meth c H locs cells slots Q (F0 m x.handlerPc ls [.ref q])) : vx_W p l e R s m args below meth c H locs cells slots Q (F0 m pc ls rest) q := by
  intro T hT X
  have hpl : e.platform.magicAccessors = ({} : Platform).magicAccessors := by rw [X.admits.platform]
  obtain ⟨c3, c4, hc3, hc4, hasg⟩ := Cond.castable_spec hcast
  cases Option.some.inj (hc3.symm.trans hcl)
  obtain ⟨c5, hc5, hcl5⟩ := Cond.classLink_spec hown hlink e.platform hpl
  cases Option.some.inj (hc4.symm.trans hc5)
  obtain ⟨vm', X', st⟩ := Jvm.Stand.thenCaughtThrough X q (g := F0 m pc ls rest) rfl (Steps.refl _) (by rw [hT]; exact hcell) (by rw [hv]; rfl) (by obtain ⟨k9, h9, -⟩ := Vm.findClass_spec hcl; exact ⟨k9, h9⟩) pre x suf hsplit
    (fun z hz => by
      rcases hpass z hz with h | ⟨hz0, nm, hl1, hn1⟩
      · exact Or.inl h
      · obtain ⟨c6, hc6, hcl6⟩ := Cond.classLink_spec hown hl1 e.platform hpl
        obtain ⟨a8, b8, h1, h2, h3⟩ := hn1
        cases Option.some.inj (h1.symm.trans hcl)
        cases Option.some.inj (h2.symm.trans hc6)
        exact Or.inr ⟨hz0, _, hcl6, h3⟩) hx (Or.inr ⟨h0, c4, hcl5, hasg⟩)
  obtain ⟨t, a1, b1⟩ := kk (T.setVm vm') hT X'
  exact ⟨t, st.trans a1, b1⟩
end Rows
section Ends
variable {p : Program} {l : Launch} {e : Env} {R : Room} {s : State} {m : MethodId} {args : Array Value} {below : List Frame} {meth : Method} {c : Code} {H : Heap} {locs : List Loc} {cells slots : Nat} {Q : State → Prop}
variable {mc ms : Nat} {free : Addr → Prop} {A0 A1 : Nat → Prop} {H0 : Heap} {a : Array Value} {ls : Array Slot} {st0 rest : List Value}
variable {Qc : Array Value → State → Outcome → State → Prop} {XC : String → State → State → Prop}
/-- what a body that may throw owes at its end -/
def vx_MQ (below : List Frame) (Qc : Array Value → State → Outcome → State → Prop) (XC : String → State → State → Prop) (a : Array Value) (s : State) (mc ms : Nat) (free : Addr → Prop) : State → Prop := fun t =>
  ∃ o, t.status = .running ∧ Ended t below o ∧ vx_Q Qc XC mc ms free a s o t
theorem vx_ret {g : JFrame} {mc ms : Nat} (k : W p l e R s m args below meth c H locs cells slots (MQ below Qc args s mc ms free) g) : W p l e R s m args below meth c H locs cells slots (vx_MQ below Qc XC args s mc ms free) g := by
  intro T hT X
  obtain ⟨t, a1, o, b1, b2, b3, b4⟩ := k T hT X
  exact ⟨t, a1, o, b1, b2, Or.inl ⟨b3, b4⟩⟩
/-- not caught here: it goes on to the caller -/
theorem vx_widen {g : JFrame} {q : Addr} {k n : Nat} (h1 : cells ≤ k) (h2 : slots ≤ n) (kk : vx_W p l e R s m args below meth c H locs k n Q g q) : vx_W p l e R s m args below meth c H locs cells slots Q g q := fun T hT X => kk T hT (stand_widen X h1 h2)
theorem vx_out {pc : Nat} {E : String} {ce : Cell} {q : Addr} {mc ms : Nat} (hout : ∀ x ∈ c.exceptionTable.toList, covers x pc = false) (hlocks : meth.locks = false) (hcell : H[q]? = some ce) (hv : ce.vm = .none) (hcl : s.vm.findClass E = some ce.cls)
    (hx : ∀ t : State, t.heap = H → s.vm.Alike t.vm → XC E s t) (hf : ∀ z ∈ locs, free z.base) (hc : cells ≤ mc) (hs : slots ≤ ms) :
    vx_W p l e R s m args below meth c H locs cells slots (vx_MQ below Qc XC args s mc ms free) (F0 m pc ls rest) q := by
  intro T hT X
  obtain ⟨st1, hrun, hend, hW, hsm⟩ := X.leaveThrown q (g := F0 m pc ls rest) rfl rfl rfl hout hlocks
  have hcell9 : (T.setFrames (.throwing q :: below)).heap[q]? = some ce := by
    show T.heap[q]? = some ce
    rw [hT]; exact hcell
  exact ⟨_, st1, .threw q, hrun, hend, Or.inr ⟨q, rfl, E, ce, locs, hx _ hT hW.alike, hcell9, hv, hcl, hW, hsm.mono hc hs, hf⟩⟩
theorem vx_frame {U : State} {k n : Nat} (h : s.sameButNew ({ U with vm := s.vm } : State) locs k n) : s.heap.size ≤ U.heap.size ∧ ∀ q : Nat, q < s.heap.size → (∀ z ∈ locs, z.base ≠ q) → U.heap[q]? = s.heap[q]? := by
  obtain ⟨-, h2, -, -, -, h6⟩ := h
  refine ⟨h2, fun q hq hz => ?_⟩
  obtain ⟨c9, e1, e2, e3, e4⟩ := h6 q _ (Array.getElem?_eq_getElem hq)
  have hs : c9.slots = (s.heap[q]).slots := Array.ext_getElem? fun i => e4 i fun hm => hz _ hm rfl
  have h9 : c9 = s.heap[q] := by
    rw [hs] at e2
    exact e2
  have e5 : U.heap[q]? = some c9 := e1
  rw [e5, h9, Array.getElem?_eq_getElem hq]
/-- the words of a throw but the four that speak of the heap -/
def vx_no (w : Cond) : Bool := decide (w ≠ .isRef (.static Bundle.tN "UNASSIGNED_STACK" Bundle.steD)) && decide (w ≠ .isRef (.static Bundle.tN "SUPPRESSED_SENTINEL" Bundle.listD)) && decide (w ≠ .laysStatic Bundle.tN "UNASSIGNED_STACK" Bundle.steD) && decide (w ≠ .laysStatic Bundle.tN "SUPPRESSED_SENTINEL" Bundle.listD)
def vx_at0 (own : String) (ic : Nat) (X : String) (names : List String) : List Cond := (Bundle.ownAtoms0 own ic X names).filter vx_no
def vx_atS (own : String) (ic : Nat) (X : String) (names : List String) : List Cond := (Bundle.ownAtoms own ic X names).filter vx_no
/-- a word that the tables alone decide, or a good one -/
def vx_ot (w : Cond) : Bool := w.onTables || goodWord w
theorem vx_ot_at {args a' : Array Value} {s U : State} {w : Cond} (hW : s.WarmedH U.vm) (hvm : s.vm = U.vm) (hg : vx_ot w = true) (h : w.before args s = true) : w.before a' U = true := by
  simp only [vx_ot, Bool.or_eq_true] at hg
  rcases hg with hg | hg
  · exact va_tabs hg hvm h
  · exact word_at hW (good_of_word hg) h
/-- a list's words: the good ones out of the method's own list, the others by premises of their own -/
theorem vx_hat {args : Array Value} {s : State} {L B : List Cond} (h1 : ∀ w ∈ L.filter goodWord, w.before args s = true) (h2 : ∀ w ∈ L.filter (fun w => !goodWord w), w ∈ B) (h3 : ∀ w ∈ B, w.before args s = true) : ∀ w ∈ L, w.before args s = true := by
  intro w hw
  by_cases g : goodWord w = true
  · exact h1 w (List.mem_filter.mpr ⟨hw, g⟩)
  · refine h3 w (h2 w (List.mem_filter.mpr ⟨hw, ?_⟩))
    show (!goodWord w) = true
    cases hgw : goodWord w
    · rfl
    · exact absurd hgw g
theorem vx_c {args : Array Value} {s : State} {w : Cond} {B : List Cond} (h : w.before args s = true) (t : ∀ w ∈ B, w.before args s = true) : ∀ w' ∈ w :: B, w'.before args s = true := fun w' h' => (List.mem_cons.mp h').elim (fun e => by rw [e]; exact h) (t w')
theorem vx_n {args : Array Value} {s : State} : ∀ w ∈ ([] : List Cond), w.before args s = true := fun _ h => nomatch h
theorem vx_own {args : Array Value} {s : State} {L : List Cond} (h1 : ∀ w ∈ L.filter vx_no, w.before args s = true)
    (hU : (Cond.isRef (.static Bundle.tN "UNASSIGNED_STACK" Bundle.steD)).before args s = true) (hN : (Cond.isRef (.static Bundle.tN "SUPPRESSED_SENTINEL" Bundle.listD)).before args s = true)
    (lU : (Cond.laysStatic Bundle.tN "UNASSIGNED_STACK" Bundle.steD).before args s = true) (lN : (Cond.laysStatic Bundle.tN "SUPPRESSED_SENTINEL" Bundle.listD).before args s = true) : ∀ w ∈ L, w.before args s = true := by
  intro w hw
  by_cases e1 : w = .isRef (.static Bundle.tN "UNASSIGNED_STACK" Bundle.steD)
  · rw [e1]; exact hU
  · by_cases e2 : w = .isRef (.static Bundle.tN "SUPPRESSED_SENTINEL" Bundle.listD)
    · rw [e2]; exact hN
    · by_cases e3 : w = .laysStatic Bundle.tN "UNASSIGNED_STACK" Bundle.steD
      · rw [e3]; exact lU
      · by_cases e4 : w = .laysStatic Bundle.tN "SUPPRESSED_SENTINEL" Bundle.listD
        · rw [e4]; exact lN
        · exact h1 w (List.mem_filter.mpr ⟨hw, by unfold vx_no; rw [decide_eq_true e1, decide_eq_true e2, decide_eq_true e3, decide_eq_true e4]; rfl⟩)
/-- where a static field lies, its class's statics cell in H -/
def vx_L (C n d : String) (A : Nat → Prop) (U : State) (H : Heap) : Prop := ∃ (c : ClassId) (k : Class) (i : Nat) (f : Field) (a : Nat) (cell : Cell), U.vm.findClass C = some c ∧ U.fieldFound? C n d = some (c, k, i, f) ∧ f.isStatic = true ∧ k.statics = some a ∧ H[a]? = some cell ∧ cell.vm.isStatics = true ∧ cell.cls = c ∧ f.slot < cell.slots.size ∧ k.staticTypes[f.slot]? = some f.type ∧ ¬ A a
theorem vx_L.moved {C n d : String} {A : Nat → Prop} {u U : State} {H : Heap} (hvm : u.vm.Alike U.vm) (h : vx_L C n d A u H) : vx_L C n d A U H := by
  obtain ⟨c, k, i, f, a, cell, h1, h2, h3, h4, h5, h6, h7, h8, h9, h10⟩ := h
  obtain ⟨k', hi', he⟩ := State.fieldFound?_setVm hvm h2
  exact ⟨c, k', i, f, a, cell, by rw [hvm.findClass]; exact h1, hi', h3, by rw [he]; exact h4, h5, h6, h7, h8, by rw [he]; exact h9, h10⟩
theorem vx_L.kept {C n d : String} {A : Nat → Prop} {U : State} {H H1 : Heap} (h : vx_L C n d A U H) (hq : ∀ a : Nat, a < H.size → ¬ A a → H1[a]? = H[a]?) : vx_L C n d A U H1 := by
  obtain ⟨c, k, i, f, a, cell, h1, h2, h3, h4, h5, h6, h7, h8, h9, h10⟩ := h
  exact ⟨c, k, i, f, a, cell, h1, h2, h3, h4, by rw [hq a (Array.getElem?_eq_some_iff.mp h5).1 h10]; exact h5, h6, h7, h8, h9, h10⟩
theorem vx_L.narrow {C n d : String} {A B : Nat → Prop} {U : State} {H : Heap} (h : vx_L C n d A U H) (hAB : ∀ q, B q → A q) : vx_L C n d B U H := by
  obtain ⟨c, k, i, f, a, cell, h1, h2, h3, h4, h5, h6, h7, h8, h9, h10⟩ := h
  exact ⟨c, k, i, f, a, cell, h1, h2, h3, h4, h5, h6, h7, h8, h9, fun z => h10 (hAB _ z)⟩
theorem vx_L.word {C n d : String} {A : Nat → Prop} {s : State} {args : Array Value} (h : vx_L C n d A s s.heap) : (Cond.laysStatic C n d).before args s = true := by
  obtain ⟨c, k, i, f, a, cell, h1, h2, h3, h4, h5, h6, h7, h8, h9, -⟩ := h
  show (Cond.laysStatic C n d).holds args s none s [] = true
  exact Cond.laysStatic_of h1 h2 h3 h4 h5 h6 h7 h8 h9
/-- .. and what it holds: null or some reference -/
def vx_Zq (C n d : String) (A : Nat → Prop) (U : State) (H : Heap) : Prop := va_Zq C n d A U H ∧ vx_L C n d A U H
theorem vx_Zq.moved {C n d : String} {A : Nat → Prop} {u U : State} {H : Heap} (hvm : u.vm.Alike U.vm) (h : vx_Zq C n d A u H) : vx_Zq C n d A U H := ⟨va_Zq.moved hvm h.1, vx_L.moved hvm h.2⟩
theorem vx_Zq.kept {C n d : String} {A : Nat → Prop} {U : State} {H H1 : Heap} (h : vx_Zq C n d A U H) (hq : ∀ a : Nat, a < H.size → ¬ A a → H1[a]? = H[a]?) : vx_Zq C n d A U H1 := ⟨va_Zq.kept h.1 hq, vx_L.kept h.2 hq⟩
theorem vx_Zq.narrow {C n d : String} {A B : Nat → Prop} {U : State} {H : Heap} (h : vx_Zq C n d A U H) (hAB : ∀ q, B q → A q) : vx_Zq C n d B U H := ⟨va_Zq.narrow h.1 hAB, vx_L.narrow h.2 hAB⟩
theorem vx_Zqof {args : Array Value} {s : State} {C n d : String} {A : Nat → Prop} (hl : (Cond.laysStatic C n d).before args s = true) (hini : (Cond.initialized C).before args s = true) (h : (Cond.isRef (.static C n d)).before args s = true) (hA : ∀ a : Nat, a < s.heap.size → ¬ A a) : vx_Zq C n d A s s.heap := by
  refine ⟨va_Zqof hl hini h hA, ?_⟩
  obtain ⟨c, k, i, f, a, cell, h1, h2, h3, h4, h5, h6, h7, h8, h9⟩ := Cond.laysStatic_spec hl
  exact ⟨c, k, i, f, a, cell, h1, h2, h3, h4, h5, h6, h7, h8, h9, hA a (Array.getElem?_eq_some_iff.mp h5).1⟩
theorem vx_isRef {C n d : String} {v : Value} {A : Nat → Prop} {s : State} {args : Array Value} (h : va_Z C n d v A s s.heap) (hv : v.isRef = true) : (Cond.isRef (.static C n d)).before args s = true := by
  obtain ⟨cf, kf, fi, f, a, cell, h1, h2, h3, h4, h5, h6, h7, -⟩ := h
  have he : (Term.static C n d).eval args s none [] s = some v := by
    simp [Term.eval, State.fieldNamed?, h1, h2, h4, h5, h6, h7]
  simp only [Cond.before, Cond.holds, Cond.value, he]
  cases v <;> simp_all [Value.isRef]
theorem vx_isRefq {C n d : String} {A : Nat → Prop} {s : State} {args : Array Value} (h : va_Zq C n d A s s.heap) : (Cond.isRef (.static C n d)).before args s = true := by
  rcases h with h | ⟨t, h⟩
  · exact vx_isRef h rfl
  · exact vx_isRef h rfl
/-- the same frame, seen from here: as if the method were called anew in this heap -/
theorem vx_rebase {T : State} (X : Stand p l e R s m args below meth c T locs cells slots) {R' : Room} (hf : R'.frames ≤ R.frames) (hl : R'.locals ≤ R.locals) (hc : cells + R'.cells ≤ R.cells) (hs : slots + R'.slots ≤ R.slots) :
    Stand p l e R' ((T.setVm s.vm).setFrames (.invoking m args :: below)) m args below meth c T [] 0 0 := by
  have htop : (T.setVm s.vm).topJava?.isSome := X.here.top
  have hF : ((T.setVm s.vm).setFrames (.invoking m args :: below)).frames = .invoking m args :: below := State.frames_setFrames _ (State.cur_lt_of_top htop)
  obtain ⟨g₀, hg0⟩ := Option.isSome_iff_exists.mp htop
  obtain ⟨r, hr⟩ := State.topJava?_eq_some.mp hg0
  have hl9 : e.platform.stackLimits (T.setVm s.vm).me = e.platform.stackLimits s.me := X.limits
  have hb9 : (T.setVm s.vm).me.stackBytes = s.me.stackBytes := X.bytes
  refine ⟨X.admits, X.cas, X.clock, hF, ?_, X.hears, X.method, X.code, X.here, X.tail, X.warmed, ?_, ?_, ?_⟩
  · have h := X.room
    have hU : ((T.setVm s.vm).setFrames (.invoking m args :: below)).localsInUse = s.localsInUse := by
      rw [State.localsInUse_invoking hF (meth := meth) (c := c) X.method X.code, State.localsInUse_invoking X.frames X.method X.code]
    simp only [State.hasRoom, Bool.and_eq_true, decide_eq_true_eq] at h ⊢
    obtain ⟨⟨⟨⟨h1, h2, h3, h4, h5, h6⟩, h7⟩, h8⟩, h9⟩ := h
    rw [X.frames, List.length_cons] at h2 h3
    have q1 := X.heapSize
    have q2 := X.used
    simp only [hF, hU, List.length_cons, State.stackLimits_setFrames, State.stackBytes_setFrames, hl9, hb9]
    refine ⟨⟨⟨⟨by omega, by omega, by omega, by omega, by omega, h6⟩, ?_⟩, ?_⟩, X.book⟩
    · show T.heap.size + R'.cells ≤ e.platform.maxCells
      omega
    · show T.slotsUsed + R'.slots ≤ e.platform.maxSlots
      omega
  · rw [State.stackLimits_setFrames]; rfl
  · rw [State.stackBytes_setFrames]; rfl
  · refine ⟨?_, Nat.le_refl _, Nat.le_refl _, ?_, ?_, fun a c9 h9 => ⟨c9, h9, rfl, rfl, fun _ _ => rfl⟩⟩
    · obtain ⟨t, ht, -⟩ := State.frames_cons hr
      show T.setVm s.vm = { ((T.setVm s.vm).setFrames (.invoking m args :: below)).setFrames (T.setVm s.vm).frames with heap := T.heap, slotsUsed := T.slotsUsed }
      rw [State.setFrames_setFrames, State.setFrames_self ht]
      rfl
    · show T.slotsUsed = T.slotsUsed + ((T.heap.toList.drop T.heap.size).map (·.slots.size)).sum
      rw [List.drop_eq_nil_of_le (Nat.le_of_eq Array.length_toList)]
      rfl
    · show ((T.heap.toList.drop T.heap.size).map (·.slots.size)).sum ≤ 0
      rw [List.drop_eq_nil_of_le (Nat.le_of_eq Array.length_toList)]
      exact Nat.le_refl _
/-- 'throw new E()': new; dup; invokespecial; athrow -/
theorem vx_throw0 {cc : ByteArray} {pc : Nat} (hexec : p.tables.exec = Jvm.exec) (hb : c.code = cc) (hl : l.stackTraces = false) {own cls : String} {names : List String} {ik ic mc ms : Nat} {A : Nat → Prop}
    (hown : s.vm.findClass own = some m.cls) (hcls : Bundle.fit cls = true) (hnames : ∀ n ∈ names, Bundle.fit n = true)
    (hk : (Cond.classLink own ik cls).before args s = true) (hini : (Cond.initialized cls).before args s = true) (hat : ∀ w ∈ vx_at0 own ic cls names, w.before args s = true)
    (hgood : ∀ w ∈ Cond.classLink own ik cls :: Cond.initialized cls :: vx_at0 own ic cls names, vx_ot w = true)
    (hU : vx_Zq Bundle.tN "UNASSIGNED_STACK" Bundle.steD A s s.heap) (hN : vx_Zq Bundle.tN "SUPPRESSED_SENTINEL" Bundle.listD A s s.heap) (hS : va_S A s.heap H locs) (hsize : ls.size = c.maxLocals)
    (d0 : decode cc pc = .ok (.new ik, 3)) (d3 : decode cc (pc + 3) = .ok (.dup, 1)) (d4 : decode cc (pc + 4) = .ok (.invokespecial ic, 3)) (d7 : decode cc (pc + 7) = .ok (.athrow, 1))
    (hout : ∀ x ∈ c.exceptionTable.toList, covers x (pc + 7) = false)
    (hRframes : names.length + 3 < R.frames) (hRlocals : (rest.map fun v => v.category).sum + (13 * (names.length + 1) + 42) ≤ R.locals) (hRcells : cells + 1 ≤ R.cells) (hRslots : slots + 6 ≤ R.slots) (hlocks : meth.locks = false)
    (hx : ∀ t : State, s.vm.Alike t.vm → H.size ≤ t.heap.size → (∀ q : Nat, q < H.size → t.heap[q]? = H[q]?) → XC cls s t)
    (hf : ∀ z ∈ locs, free z.base) (hc : cells + 1 ≤ mc) (hs : slots + 6 ≤ ms) :
    W p l e R s m args below meth c H locs cells slots (vx_MQ below Qc XC args s mc ms free) (F0 m pc ls rest) := by
  intro T hT X
  have htr : e.platform.stackTraces = false := (show e.platform.stackTraces = l.stackTraces by rw [X.admits.platform]).trans hl
  have Y := vx_rebase X (R' := { frames := R.frames, locals := R.locals, cells := 1, slots := 6 }) (Nat.le_refl _) (Nat.le_refl _) hRcells hRslots
  obtain ⟨s', hA⟩ : ∃ z, z = (T.setVm s.vm).setFrames (.invoking m args :: below) := ⟨_, rfl⟩
  rw [← hA] at Y
  have hvm : s'.vm = s.vm := by rw [hA]; rfl
  have hhp : s'.heap = H := by rw [hA]; exact hT
  have hW0 : s.WarmedH s'.vm := by rw [hvm]; exact State.WarmedH.refl s
  have hat' : ∀ w ∈ vx_at0 own ic cls names, w.before args s' = true := fun w hw => vx_ot_at hW0 hvm.symm (hgood w (List.mem_cons_of_mem _ (List.mem_cons_of_mem _ hw))) (hat w hw)
  have hk' : (Cond.classLink own ik cls).before args s' = true := vx_ot_at hW0 hvm.symm (hgood _ List.mem_cons_self) hk
  have hini' : (Cond.initialized cls).before args s' = true := vx_ot_at hW0 hvm.symm (hgood _ (List.mem_cons_of_mem _ List.mem_cons_self)) hini
  have hU' : vx_Zq Bundle.tN "UNASSIGNED_STACK" Bundle.steD A s' s'.heap := by rw [hhp]; exact vx_Zq.moved hW0.alike (hU.kept hS.2.1)
  have hN' : vx_Zq Bundle.tN "SUPPRESSED_SENTINEL" Bundle.listD A s' s'.heap := by rw [hhp]; exact vx_Zq.moved hW0.alike (hN.kept hS.2.1)
  have h : ∀ w ∈ Bundle.ownAtoms0 own ic cls names, w.before args s' = true := vx_own hat' (vx_isRefq hU'.1) (vx_isRefq hN'.1) hU'.2.word hN'.2.word
  have hown' : s'.vm.findClass own = some m.cls := by rw [hvm]; exact hown
  have hins : (Cond.instantiable cls 6).before args s' = true := h _ (by simp [Bundle.ownAtoms0])
  obtain ⟨vm₁, cX, kX, hfX, hkX, -, -, X₁, st1⟩ := Y.newCold hexec (own := own) (C := cls) (index := ik) (n := 6) hown' hk' hins hini'
    (g := F0 m pc ls rest) rfl (by rw [hb]; exact d0) (Nat.le_refl _) (Nat.le_refl _)
  generalize hT1 : (T.setVm vm₁).pushCell { cls := cX, slots := kX.instanceTypes.map defaultValue, vm := .none } = T1 at X₁ st1
  have hcat : (Value.ref T.heap.size).category = 1 := rfl
  have hcellA : T1.heap[T.heap.size]? = some (freshCell cX kX) := by rw [← hT1]; exact State.heap_pushCell_size _ _
  have d3' : decode c.code (pc + 3) = .ok (.dup, 1) := by rw [hb]; exact d3
  obtain ⟨U, hsteps, hrun, hend, hW, hsame, ce, hce, hO⟩ := X₁.ctorThrow0 hexec htr (own := own) (cls := cls) (names := names) (ic := ic) hown' hcls hnames h (fun x hx => nomatch hx) hfX hkX hcellA (by rw [hhp, hT]; exact Nat.le_refl _)
    (g := { method := m, pc := pc + 4, locals := ls, stack := .ref T.heap.size :: .ref T.heap.size :: rest, locked := none }) rfl hsize rfl rfl (rest := rest) rfl
    (by rw [hb]; exact d4) (by rw [hb]; exact d7) hout hRframes (by simp only [List.map_cons, List.sum_cons, hcat]; omega) hlocks
  obtain ⟨f1, f2⟩ := vx_frame hsame
  rw [hhp] at f1 f2
  have hWs : s.WarmedH U.vm := State.WarmedH.trans hW0 hW
  have hcl : s.vm.findClass cls = some ce.cls := by
    have h9 := hO.cls
    rw [hvm] at h9
    exact h9
  have hall : s.sameButNew ({ U with vm := s.vm } : State) locs mc ms := by
    subst hA
    obtain ⟨e1, e2⟩ := hsame
    rw [State.setFrames_setFrames] at e1
    have h2 : (T.setVm s.vm).sameButNew ({ U with vm := s.vm } : State) [] (0 + 1) (0 + 6) := ⟨e1, e2⟩
    have h3 := X.same.trans h2
    rw [List.append_nil] at h3
    exact h3.mono hc hs
  refine ⟨U, ?_, .threw T.heap.size, hrun, hend, Or.inr ⟨T.heap.size, rfl, cls, ce, locs, hx U hWs.alike f1 (fun q hq => f2 q hq (fun z hz => nomatch hz)), hce, hO.vm, hcl, hWs, hall, hf⟩⟩
  refine st1 _ ?_
  show Steps p.tables e below (T1.setTop { method := m, pc := pc + 3, locals := ls, stack := .ref T.heap.size :: rest, locked := none }) _
  jvm_step X₁.here [X₁.here.top, hexec, d3', Value.category]
  exact hsteps
/-- 'throw new E("text")': new; dup; ldc; invokespecial; athrow -/
theorem vx_throwS {cc : ByteArray} {pc : Nat} (hexec : p.tables.exec = Jvm.exec) (hb : c.code = cc) (hl : l.stackTraces = false) {own cls text : String} {names : List String} {ik is ic mc ms sa : Nat} {A : Nat → Prop}
    (hown : s.vm.findClass own = some m.cls) (hcls : Bundle.fit cls = true) (hnames : ∀ n ∈ names, Bundle.fit n = true)
    (hk : (Cond.classLink own ik cls).before args s = true) (hini : (Cond.initialized cls).before args s = true) (hstr : vk_R own is text sa s) (hat : ∀ w ∈ vx_atS own ic cls names, w.before args s = true)
    (hgood : ∀ w ∈ Cond.classLink own ik cls :: Cond.initialized cls :: vx_atS own ic cls names, vx_ot w = true)
    (hU : vx_Zq Bundle.tN "UNASSIGNED_STACK" Bundle.steD A s s.heap) (hN : vx_Zq Bundle.tN "SUPPRESSED_SENTINEL" Bundle.listD A s s.heap) (hS : va_S A s.heap H locs) (hsize : ls.size = c.maxLocals)
    (d0 : decode cc pc = .ok (.new ik, 3)) (d3 : decode cc (pc + 3) = .ok (.dup, 1)) (d4 : decode cc (pc + 4) = .ok (.ldc is, 2)) (d6 : decode cc (pc + 6) = .ok (.invokespecial ic, 3)) (d9 : decode cc (pc + 9) = .ok (.athrow, 1))
    (hout : ∀ x ∈ c.exceptionTable.toList, covers x (pc + 9) = false)
    (hRframes : names.length + 3 < R.frames) (hRlocals : (rest.map fun v => v.category).sum + (13 * (names.length + 1) + 43) ≤ R.locals) (hRcells : cells + 1 ≤ R.cells) (hRslots : slots + 6 ≤ R.slots) (hlocks : meth.locks = false)
    (hx : ∀ t : State, s.vm.Alike t.vm → H.size ≤ t.heap.size → (∀ q : Nat, q < H.size → t.heap[q]? = H[q]?) → XC cls s t)
    (hf : ∀ z ∈ locs, free z.base) (hc : cells + 1 ≤ mc) (hs : slots + 6 ≤ ms) :
    W p l e R s m args below meth c H locs cells slots (vx_MQ below Qc XC args s mc ms free) (F0 m pc ls rest) := by
  intro T hT X
  have htr : e.platform.stackTraces = false := (show e.platform.stackTraces = l.stackTraces by rw [X.admits.platform]).trans hl
  have Y := vx_rebase X (R' := { frames := R.frames, locals := R.locals, cells := 1, slots := 6 }) (Nat.le_refl _) (Nat.le_refl _) hRcells hRslots
  obtain ⟨s', hA⟩ : ∃ z, z = (T.setVm s.vm).setFrames (.invoking m args :: below) := ⟨_, rfl⟩
  rw [← hA] at Y
  have hvm : s'.vm = s.vm := by rw [hA]; rfl
  have hhp : s'.heap = H := by rw [hA]; exact hT
  have hW0 : s.WarmedH s'.vm := by rw [hvm]; exact State.WarmedH.refl s
  have hat' : ∀ w ∈ vx_atS own ic cls names, w.before args s' = true := fun w hw => vx_ot_at hW0 hvm.symm (hgood w (List.mem_cons_of_mem _ (List.mem_cons_of_mem _ hw))) (hat w hw)
  have hk' : (Cond.classLink own ik cls).before args s' = true := vx_ot_at hW0 hvm.symm (hgood _ List.mem_cons_self) hk
  have hini' : (Cond.initialized cls).before args s' = true := vx_ot_at hW0 hvm.symm (hgood _ (List.mem_cons_of_mem _ List.mem_cons_self)) hini
  have hU' : vx_Zq Bundle.tN "UNASSIGNED_STACK" Bundle.steD A s' s'.heap := by rw [hhp]; exact vx_Zq.moved hW0.alike (hU.kept hS.2.1)
  have hN' : vx_Zq Bundle.tN "SUPPRESSED_SENTINEL" Bundle.listD A s' s'.heap := by rw [hhp]; exact vx_Zq.moved hW0.alike (hN.kept hS.2.1)
  have h : ∀ w ∈ Bundle.ownAtoms own ic cls names, w.before args s' = true := vx_own hat' (vx_isRefq hU'.1) (vx_isRefq hN'.1) hU'.2.word hN'.2.word
  have hown' : s'.vm.findClass own = some m.cls := by rw [hvm]; exact hown
  have hins : (Cond.instantiable cls 6).before args s' = true := h _ (by simp [Bundle.ownAtoms])
  obtain ⟨vm₁, cX, kX, hfX, hkX, -, -, X₁, st1⟩ := Y.newCold hexec (own := own) (C := cls) (index := ik) (n := 6) hown' hk' hins hini'
    (g := F0 m pc ls rest) rfl (by rw [hb]; exact d0) (Nat.le_refl _) (Nat.le_refl _)
  generalize hT1 : (T.setVm vm₁).pushCell { cls := cX, slots := kX.instanceTypes.map defaultValue, vm := .none } = T1 at X₁ st1
  have hcat : (Value.ref T.heap.size).category = 1 := rfl
  have hcellA : T1.heap[T.heap.size]? = some (freshCell cX kX) := by rw [← hT1]; exact State.heap_pushCell_size _ _
  have d3' : decode c.code (pc + 3) = .ok (.dup, 1) := by rw [hb]; exact d3
  have d4' : decode c.code (pc + 4) = .ok (.ldc is, 2) := by rw [hb]; exact d4
  have hstr' : vk_R own is text sa s' := vk_R.warm hW0 hstr
  obtain ⟨U, hsteps, hrun, hend, hW, hsame, ce, hce, hO⟩ := X₁.ctorThrowS hexec htr (own := own) (cls := cls) (names := names) (ic := ic) hown' hcls hnames h (fun x hx => nomatch hx) hfX hkX hcellA (by rw [hhp, hT]; exact Nat.le_refl _) (msg := .ref sa) rfl
    (g := { method := m, pc := pc + 6, locals := ls, stack := .ref sa :: .ref T.heap.size :: .ref T.heap.size :: rest, locked := none }) rfl hsize rfl rfl (rest := rest) rfl
    (by rw [hb]; exact d6) (by rw [hb]; exact d9) hout hRframes (by simp only [List.map_cons, List.sum_cons, hcat]; omega) hlocks
  obtain ⟨f1, f2⟩ := vx_frame hsame
  rw [hhp] at f1 f2
  have hWs : s.WarmedH U.vm := State.WarmedH.trans hW0 hW
  have hcl : s.vm.findClass cls = some ce.cls := by
    have h9 := hO.cls
    rw [hvm] at h9
    exact h9
  have hall : s.sameButNew ({ U with vm := s.vm } : State) locs mc ms := by
    subst hA
    obtain ⟨e1, e2⟩ := hsame
    rw [State.setFrames_setFrames] at e1
    have h2 : (T.setVm s.vm).sameButNew ({ U with vm := s.vm } : State) [] (0 + 1) (0 + 6) := ⟨e1, e2⟩
    have h3 := X.same.trans h2
    rw [List.append_nil] at h3
    exact h3.mono hc hs
  refine ⟨U, ?_, .threw T.heap.size, hrun, hend, Or.inr ⟨T.heap.size, rfl, cls, ce, locs, hx U hWs.alike f1 (fun q hq => f2 q hq (fun z hz => nomatch hz)), hce, hO.vm, hcl, hWs, hall, hf⟩⟩
  refine st1 _ ?_
  show Steps p.tables e below (T1.setTop { method := m, pc := pc + 3, locals := ls, stack := .ref T.heap.size :: rest, locked := none }) _
  jvm_step X₁.here [X₁.here.top, hexec, d3', Value.category]
  exact X₁.ldcString hexec (own := own) (text := text) (index := is) (a := sa) hown' hstr'.1 hstr'.2
    (g := { method := m, pc := pc + 4, locals := ls, stack := .ref T.heap.size :: .ref T.heap.size :: rest, locked := none }) rfl d4' _ hsteps
/-- 'throw new E("text")', the text by a wide index -/
theorem vx_throwSW {cc : ByteArray} {pc : Nat} (hexec : p.tables.exec = Jvm.exec) (hb : c.code = cc) (hl : l.stackTraces = false) {own cls text : String} {names : List String} {ik is ic mc ms sa : Nat} {A : Nat → Prop}
    (hown : s.vm.findClass own = some m.cls) (hcls : Bundle.fit cls = true) (hnames : ∀ n ∈ names, Bundle.fit n = true)
    (hk : (Cond.classLink own ik cls).before args s = true) (hini : (Cond.initialized cls).before args s = true) (hstr : vk_R own is text sa s) (hat : ∀ w ∈ vx_atS own ic cls names, w.before args s = true)
    (hgood : ∀ w ∈ Cond.classLink own ik cls :: Cond.initialized cls :: vx_atS own ic cls names, vx_ot w = true)
    (hU : vx_Zq Bundle.tN "UNASSIGNED_STACK" Bundle.steD A s s.heap) (hN : vx_Zq Bundle.tN "SUPPRESSED_SENTINEL" Bundle.listD A s s.heap) (hS : va_S A s.heap H locs) (hsize : ls.size = c.maxLocals)
    (d0 : decode cc pc = .ok (.new ik, 3)) (d3 : decode cc (pc + 3) = .ok (.dup, 1)) (d4 : decode cc (pc + 4) = .ok (.ldc_w is, 3)) (d7 : decode cc (pc + 7) = .ok (.invokespecial ic, 3)) (d10 : decode cc (pc + 10) = .ok (.athrow, 1))
    (hout : ∀ x ∈ c.exceptionTable.toList, covers x (pc + 10) = false)
    (hRframes : names.length + 3 < R.frames) (hRlocals : (rest.map fun v => v.category).sum + (13 * (names.length + 1) + 43) ≤ R.locals) (hRcells : cells + 1 ≤ R.cells) (hRslots : slots + 6 ≤ R.slots) (hlocks : meth.locks = false)
    (hx : ∀ t : State, s.vm.Alike t.vm → H.size ≤ t.heap.size → (∀ q : Nat, q < H.size → t.heap[q]? = H[q]?) → XC cls s t)
    (hf : ∀ z ∈ locs, free z.base) (hc : cells + 1 ≤ mc) (hs : slots + 6 ≤ ms) :
    W p l e R s m args below meth c H locs cells slots (vx_MQ below Qc XC args s mc ms free) (F0 m pc ls rest) := by
  intro T hT X
  have htr : e.platform.stackTraces = false := (show e.platform.stackTraces = l.stackTraces by rw [X.admits.platform]).trans hl
  have Y := vx_rebase X (R' := { frames := R.frames, locals := R.locals, cells := 1, slots := 6 }) (Nat.le_refl _) (Nat.le_refl _) hRcells hRslots
  obtain ⟨s', hA⟩ : ∃ z, z = (T.setVm s.vm).setFrames (.invoking m args :: below) := ⟨_, rfl⟩
  rw [← hA] at Y
  have hvm : s'.vm = s.vm := by rw [hA]; rfl
  have hhp : s'.heap = H := by rw [hA]; exact hT
  have hW0 : s.WarmedH s'.vm := by rw [hvm]; exact State.WarmedH.refl s
  have hat' : ∀ w ∈ vx_atS own ic cls names, w.before args s' = true := fun w hw => vx_ot_at hW0 hvm.symm (hgood w (List.mem_cons_of_mem _ (List.mem_cons_of_mem _ hw))) (hat w hw)
  have hk' : (Cond.classLink own ik cls).before args s' = true := vx_ot_at hW0 hvm.symm (hgood _ List.mem_cons_self) hk
  have hini' : (Cond.initialized cls).before args s' = true := vx_ot_at hW0 hvm.symm (hgood _ (List.mem_cons_of_mem _ List.mem_cons_self)) hini
  have hU' : vx_Zq Bundle.tN "UNASSIGNED_STACK" Bundle.steD A s' s'.heap := by rw [hhp]; exact vx_Zq.moved hW0.alike (hU.kept hS.2.1)
  have hN' : vx_Zq Bundle.tN "SUPPRESSED_SENTINEL" Bundle.listD A s' s'.heap := by rw [hhp]; exact vx_Zq.moved hW0.alike (hN.kept hS.2.1)
  have h : ∀ w ∈ Bundle.ownAtoms own ic cls names, w.before args s' = true := vx_own hat' (vx_isRefq hU'.1) (vx_isRefq hN'.1) hU'.2.word hN'.2.word
  have hown' : s'.vm.findClass own = some m.cls := by rw [hvm]; exact hown
  have hins : (Cond.instantiable cls 6).before args s' = true := h _ (by simp [Bundle.ownAtoms])
  obtain ⟨vm₁, cX, kX, hfX, hkX, -, -, X₁, st1⟩ := Y.newCold hexec (own := own) (C := cls) (index := ik) (n := 6) hown' hk' hins hini'
    (g := F0 m pc ls rest) rfl (by rw [hb]; exact d0) (Nat.le_refl _) (Nat.le_refl _)
  generalize hT1 : (T.setVm vm₁).pushCell { cls := cX, slots := kX.instanceTypes.map defaultValue, vm := .none } = T1 at X₁ st1
  have hcat : (Value.ref T.heap.size).category = 1 := rfl
  have hcellA : T1.heap[T.heap.size]? = some (freshCell cX kX) := by rw [← hT1]; exact State.heap_pushCell_size _ _
  have d3' : decode c.code (pc + 3) = .ok (.dup, 1) := by rw [hb]; exact d3
  have d4' : decode c.code (pc + 4) = .ok (.ldc_w is, 3) := by rw [hb]; exact d4
  have hstr' : vk_R own is text sa s' := vk_R.warm hW0 hstr
  obtain ⟨U, hsteps, hrun, hend, hW, hsame, ce, hce, hO⟩ := X₁.ctorThrowS hexec htr (own := own) (cls := cls) (names := names) (ic := ic) hown' hcls hnames h (fun x hx => nomatch hx) hfX hkX hcellA (by rw [hhp, hT]; exact Nat.le_refl _) (msg := .ref sa) rfl
    (g := { method := m, pc := pc + 7, locals := ls, stack := .ref sa :: .ref T.heap.size :: .ref T.heap.size :: rest, locked := none }) rfl hsize rfl rfl (rest := rest) rfl
    (by rw [hb]; exact d7) (by rw [hb]; exact d10) hout hRframes (by simp only [List.map_cons, List.sum_cons, hcat]; omega) hlocks
  obtain ⟨f1, f2⟩ := vx_frame hsame
  rw [hhp] at f1 f2
  have hWs : s.WarmedH U.vm := State.WarmedH.trans hW0 hW
  have hcl : s.vm.findClass cls = some ce.cls := by
    have h9 := hO.cls
    rw [hvm] at h9
    exact h9
  have hall : s.sameButNew ({ U with vm := s.vm } : State) locs mc ms := by
    subst hA
    obtain ⟨e1, e2⟩ := hsame
    rw [State.setFrames_setFrames] at e1
    have h2 : (T.setVm s.vm).sameButNew ({ U with vm := s.vm } : State) [] (0 + 1) (0 + 6) := ⟨e1, e2⟩
    have h3 := X.same.trans h2
    rw [List.append_nil] at h3
    exact h3.mono hc hs
  refine ⟨U, ?_, .threw T.heap.size, hrun, hend, Or.inr ⟨T.heap.size, rfl, cls, ce, locs, hx U hWs.alike f1 (fun q hq => f2 q hq (fun z hz => nomatch hz)), hce, hO.vm, hcl, hWs, hall, hf⟩⟩
  refine st1 _ ?_
  show Steps p.tables e below (T1.setTop { method := m, pc := pc + 3, locals := ls, stack := .ref T.heap.size :: rest, locked := none }) _
  jvm_step X₁.here [X₁.here.top, hexec, d3', Value.category]
  exact X₁.ldcStringW hexec (own := own) (text := text) (index := is) (a := sa) hown' hstr'.1 hstr'.2
    (g := { method := m, pc := pc + 4, locals := ls, stack := .ref T.heap.size :: .ref T.heap.size :: rest, locked := none }) rfl d4' _ hsteps
end Ends
section Bodies
variable {l : Launch}
theorem vx_ofW {y : MethodName} {ws ws' : List Cond} {rm : Room} {Pc : Array Value → State → Prop} {Qc : Array Value → State → Outcome → State → Prop} {XC : String → State → State → Prop} {mc ms : Nat} {free : Addr → Prop} {cc : ByteArray} {maxL : Nat} {ret : Option FieldType}
    (hy : plainName y.cls = true) (hw : ws = Cond.code y cc maxL ret :: ws')
    (body : ∀ p e s m args below meth c s₁, BodyLoose p l y (headSpec ws rm) cc maxL ret e s m args below meth c s₁ → c.maxLocals = maxL → (∀ x ∈ c.exceptionTable.toList, False) → Pc args s →
      W p l e (headSpec ws rm).room s m args below meth c s.heap [] 0 0 (vx_MQ below Qc XC args s mc ms free) (entryFrame m args maxL)) : vx_Met l y ws rm Pc Qc XC mc ms free := by
  refine MetFree.of_bodyS (code := cc) (maxLocals := maxL) (ret := ret) hy ?_ ?_
  · intro args s m h hn
    obtain ⟨meth, c, h1, h2, h3, h4, h5, h6, -, -⟩ := Cond.code_spec hn (atoms_spec (ws := ws) h _ (by rw [hw]; exact List.mem_cons_self))
    exact ⟨meth, c, h1, h2, h3, h4, h5, h6⟩
  · intro p e s m args below meth c s₁ B hml hP _
    have hh0 : s₁.heap = s.heap := by rw [B.state]; rfl
    have ht : ∀ x ∈ c.exceptionTable.toList, False := by
      obtain ⟨meth9, c9, h1, h2, -, -, -, -, h7, -⟩ := Cond.code_spec B.named (atoms_spec (ws := ws) B.pre _ (by rw [hw]; exact List.mem_cons_self))
      cases Option.some.inj (h1.symm.trans B.method)
      cases Option.some.inj (h2.symm.trans (Stand.of_body B).code)
      intro x hx
      rw [Array.isEmpty_iff.mp h7] at hx
      cases hx
    obtain ⟨t, a1, o, b1, b2, b3⟩ := body p e s m args below meth c s₁ B hml ht hP s₁ hh0 (Stand.of_body B)
    exact ⟨t, o, a1, b1, b2, b3⟩
/-- the table of a body with handlers -/
theorem vx_table {p : Program} {x y : MethodName} {S : Spec} {cc bytes : ByteArray} {maxL maxL' : Nat} {ret ret' : Option FieldType} {e : Env} {s s₁ : State} {m : MethodId} {args : Array Value} {below : List Frame} {meth : Method} {c : Code} {hh : List (Nat × Nat × Nat × Nat)}
    (B : BodyLoose p l y S cc maxL ret e s m args below meth c s₁) (h : (Cond.codeWith y bytes maxL' ret' hh).before args s = true) : c.exceptionTable.toList = tableOf hh := by
  obtain ⟨m9, meth9, c9, hn9, h1, h2, -, -, h6, -⟩ := Cond.codeWith_spec h
  cases Option.some.inj (hn9.symm.trans B.named)
  cases Option.some.inj (h1.symm.trans B.method)
  cases Option.some.inj (h2.symm.trans (Stand.of_body B).code)
  rw [← h6, table_eq]
end Bodies
end VXA
/-! ===== END ===== -/
/-! ===== BEGIN a static call of a method with an exception table ===== -/
section VXS
variable {p : Program} {l : Launch} {e : Env} {R : Room} {s : State} {m : MethodId} {args : Array Value} {below : List Frame} {meth : Method} {c : Code} {T : State} {H : Heap} {locs : List Loc} {cells slots : Nat}
abbrev vx_CSW (R : Room) (s : State) (args : Array Value) (own : String) (index : Nat) (y : MethodName) (bytes : ByteArray) (maxL : Nat) (ret : Option FieldType) (hh : List (Nat × Nat × Nat × Nat)) (ws : List Cond) (rm : Room) (mc ms n : Nat) : Prop :=
  (rm.cells = mc ∧ rm.slots = ms ∧ rm.frames + 1 ≤ R.frames ∧ 8 + (maxL + 11) + rm.locals ≤ R.locals ∧ (∀ w ∈ ws, ∀ (a' : Array Value) (U : State), s.WarmedH U.vm → w.before a' U = true) ∧ Cond.codeWith y bytes maxL ret hh ∈ ws) ∧
  (Cond.codeWith y bytes maxL ret hh).before args s = true ∧ (Cond.initialized y.cls).before args s = true ∧ (y.cls ≠ "java/lang/invoke/MethodHandle" ∧ y.cls ≠ "java/lang/invoke/VarHandle") ∧
  (∀ sig, parseMethodDescriptor y.desc = some sig → n = sig.parameters.length) ∧ (Cond.methodLink own index y).before args s = true ∧ (Cond.static y).before args s = true
theorem vx_cwSW {own : String} {index maxL mc ms : Nat} {y : MethodName} {bytes : ByteArray} {ret : Option FieldType} {hh : List (Nat × Nat × Nat × Nat)} {Ts ws ws' : List Cond} {rm : Room} (n : Nat) (ht : ∀ w ∈ Ts, w.before args s = true) (hT : GoodIn Ts (va_wsS own index y ws)) (hw : ws = Cond.codeWith y bytes maxL ret hh :: ws') (hrc : rm.cells = mc) (hrs : rm.slots = ms)
    (hd : y.cls ≠ "java/lang/invoke/MethodHandle" ∧ y.cls ≠ "java/lang/invoke/VarHandle" ∧ (parseMethodDescriptor y.desc).map (fun d => d.parameters.length) = some n) (hR : rm.frames + 1 ≤ R.frames ∧ 8 + (maxL + 11) + rm.locals ≤ R.locals) :
    vx_CSW R s args own index y bytes maxL ret hh ws rm mc ms n := by
  have ok : ∀ w ∈ va_wsS own index y ws, w.before args s = true := fun w h => ht w (hT w h).1
  have hG : GoodIn Ts ws := fun w h => hT w (by unfold va_wsS; exact List.mem_append_right _ h)
  have hc : Cond.codeWith y bytes maxL ret hh ∈ ws := by rw [hw]; exact List.mem_cons_self
  refine ⟨⟨hrc, hrs, hR.1, hR.2, pay_in ht hG, hc⟩, ht _ (hG _ hc).1, ok _ (by simp [va_wsS]), ⟨hd.1, hd.2.1⟩, fun sig h => ?_, ok _ (by simp [va_wsS]), ok _ (by simp [va_wsS])⟩
  have h2 := hd.2.2
  rw [h] at h2
  exact (Option.some.inj h2).symm
theorem vx_callSW (X : Stand p l e R s m args below meth c T locs cells slots) (hexec : p.tables.exec = Jvm.exec) {own : String} {index : Nat} {y : MethodName} {bytes : ByteArray} {maxL : Nat} {ret : Option FieldType} {hh : List (Nat × Nat × Nat × Nat)}
    (hown : s.vm.findClass own = some m.cls) (hlink : (Cond.methodLink own index y).before args s = true) (hstat : (Cond.static y).before args s = true) (hinit : (Cond.initialized y.cls).before args s = true)
    (hcode : (Cond.codeWith y bytes maxL ret hh).before args s = true) (hy : y.cls ≠ "java/lang/invoke/MethodHandle" ∧ y.cls ≠ "java/lang/invoke/VarHandle")
    {W9 : Nat} {Pre : Pt → Array Value → Prop} {Post : Pt → Array Value → Option Value → Pt → Prop} (hK : Back l R p e below s args y 3 W9 Pre Post)
    {g : JFrame} (hg : g.method = m) (hsize : g.locals.size = c.maxLocals) {argsL rest : List Value} (hlen : ∀ sig, parseMethodDescriptor y.desc = some sig → argsL.length = sig.parameters.length)
    (hstack : g.stack = argsL.reverse ++ rest) (hW : 2 * g.monitorRoom + (rest.map fun v => v.category).sum ≤ W9) (hdg : decode c.code g.pc = .ok (.invokestatic index, 3))
    (hpre : ∀ vm₁, s.WarmedH vm₁ → Pre ⟨T.setVm vm₁, locs, cells, slots⟩ argsL.toArray) :
    ∃ (v : Option Value) (vm₁ : Vm) (B : Pt), s.WarmedH vm₁ ∧ Stand p l e R s m args below meth c B.U B.locs B.cells B.slots ∧ Post ⟨T.setVm vm₁, locs, cells, slots⟩ argsL.toArray v B ∧
      ∀ target, Steps p.tables e below (B.U.setTop { g with pc := g.pc + 3, stack := v.toList ++ rest }) target → Steps p.tables e below (T.setTop g) target := by
  obtain ⟨mk, methM, cM, hnamed, hmethM, -, -, -, -, -, -, hsigM⟩ := Cond.codeWith_spec hcode
  have hstatic : methM.isStatic = true := Cond.static_spec hnamed hmethM hstat
  obtain ⟨kP, hkP, -⟩ := className_of_methodNamed hnamed
  have hinitP : kP.init = .initialized := Cond.initialized_spec (findClass_of_methodNamed hnamed) hkP hinit
  obtain ⟨vm₁, X₁, hstep₁⟩ := X.invokestatic hexec hown hlink hnamed hmethM hstatic hkP hinitP hy (g := g) hg (argsL := argsL) (rest := rest) (hlen _ hsigM) hstack hdg
  obtain ⟨v, B, X', hpost, hsteps⟩ := hK m meth c ⟨T.setVm vm₁, locs, cells, slots⟩ { g with stack := rest } (.invokestatic index) mk argsL.toArray X₁ hg hsize hdg hW (X₁.named hnamed) (hpre vm₁ X₁.warmed)
  exact ⟨v, vm₁, B, X₁.warmed, X', hpost, fun target h => hstep₁ _ fun acts => by rw [doInvoke_state]; exact hsteps.trans h⟩
theorem vx_runSW {y : MethodName} {bytes cc : ByteArray} {maxL nL mc ms n index : Nat} {ret : Option FieldType} {hh : List (Nat × Nat × Nat × Nat)} {ws : List Cond} {rm : Room} {Pc : Array Value → State → Prop} {Qc : Array Value → State → Outcome → State → Prop} {free : Addr → Prop} {Ts : List Cond} {own : String} {As rest : List Value} {g : JFrame}
    (S : CallFix p m c cc nL s args Ts own) (hM : Met l y ws rm Pc Qc mc ms free) (cw : vx_CSW R s args own index y bytes maxL ret hh ws rm mc ms n) (hp : PreS s H Pc As)
    (hg : g.method = m) (hn : As.length = n) (hsize : g.locals.size = nL) (hstack : g.stack = As.reverse ++ rest) (hW : 2 * g.monitorRoom + (rest.map fun v => v.category).sum ≤ 8) (hdg : decode cc g.pc = .ok (.invokestatic index, 3)) (hf : cells + mc ≤ R.cells ∧ slots + ms ≤ R.slots) :
    va_Run p l e R s m args below meth c H locs cells slots mc ms g rest (Qc As.toArray) (free) := by
  obtain ⟨⟨hrc, hrs, hfr, hlo, hws, hcw⟩, hcode, hini, hy, hlen, hl, hstt⟩ := cw
  have hK : Back l R p e below s args y 3 8 (PreOf R mc ms Pc) (PostOf Qc mc ms free) := va_backW (hh := hh) (bytes := bytes) (maxL := maxL) (ret := ret) hM hp.1 hrc hrs hfr hlo hws hcw (fun a' U hW => word_at hW (Or.inl (by first | rfl | simp [Cond.onTables, Cond.keeps, Cond.steady])) hini)
  obtain ⟨hx, hb, hml, ho, -⟩ := S
  intro T hT X
  obtain ⟨v, vm₁, ⟨U', l2, c2, s2⟩, hW₁, X', ⟨g', mk, t, L, e1, e2, hq, h1, hL, h2, h3⟩, st⟩ := vx_callSW X hx (hh := hh) (bytes := bytes) (maxL := maxL) (ret := ret) ho hl hstt hini hcode hy hK hg (hsize.trans hml.symm) (argsL := As) (rest := rest) (fun sig h => hn.trans (hlen sig h)) hstack hW (by rw [hb]; exact hdg)
    (fun vm₁ hW₁ => ⟨hf.1, hf.2, hp.2 (T.setVm vm₁) hT hW₁⟩)
  dsimp only [Pt.U, Pt.locs, Pt.cells, Pt.slots] at X' e1 e2 h1 h2 h3 st
  subst h1; subst h2; subst h3
  exact ⟨v, (T.setVm vm₁).calling g' mk As.toArray, t, U', L, hT, X', hL, e1, e2, hq, st⟩
/-- not caught here, past rows that name other classes: it goes on to the caller -/
theorem vx_outP {p : Program} {l : Launch} {e : Env} {R : Room} {s : State} {m : MethodId} {args : Array Value} {below : List Frame} {meth : Method} {c : Code} {H : Heap} {locs : List Loc} {cells slots : Nat} {free : Addr → Prop} {ls : Array Slot} {rest : List Value} {Qc : Array Value → State → Outcome → State → Prop} {XC : String → State → State → Prop}
    {pc : Nat} {own E : String} {ce : Cell} {q : Addr} {mc ms : Nat} (hown : s.vm.findClass own = some m.cls) (hlocks : meth.locks = false)
    (hpass : ∀ z ∈ c.exceptionTable.toList, covers z pc = false ∨ (z.catchType ≠ 0 ∧ ∃ nm : String, (Cond.classLink own z.catchType nm).before args s = true ∧ va_Nc E nm s)) (hcell : H[q]? = some ce) (hv : ce.vm = .none) (hcl : s.vm.findClass E = some ce.cls)
    (hx : ∀ t : State, t.heap = H → s.vm.Alike t.vm → XC E s t) (hf : ∀ z ∈ locs, free z.base) (hc : cells ≤ mc) (hs : slots ≤ ms) :
    vx_W p l e R s m args below meth c H locs cells slots (vx_MQ below Qc XC args s mc ms free) (F0 m pc ls rest) q := by
  intro T hT X
  have hpl : e.platform.magicAccessors = ({} : Platform).magicAccessors := by rw [X.admits.platform]
  obtain ⟨vm', hW', X', st⟩ := Jvm.Stand.outThrough X hlocks q (g := F0 m pc ls rest) rfl rfl rfl (cell := ce) (by rw [hT]; exact hcell) (by rw [hv]; rfl)
    (by obtain ⟨k9, h9, -⟩ := Vm.findClass_spec hcl; exact ⟨k9, h9⟩) (fun z hz => by
      rcases hpass z hz with h | ⟨hz0, nm, hl1, hn1⟩
      · exact Or.inl h
      · obtain ⟨c6, hc6, hcl6⟩ := Cond.classLink_spec hown hl1 e.platform hpl
        obtain ⟨a8, b8, h1, h2, h3⟩ := hn1
        cases Option.some.inj (h1.symm.trans hcl)
        cases Option.some.inj (h2.symm.trans hc6)
        exact Or.inr ⟨hz0, _, hcl6, h3⟩)
  obtain ⟨g₀, hfr⟩ := X'.frames_eq
  have hcell9 : ((T.setVm vm').setFrames (.throwing q :: below)).heap[q]? = some ce := by
    show T.heap[q]? = some ce
    rw [hT]; exact hcell
  have hend : Ended ((T.setVm vm').setFrames (.throwing q :: below)) below (.threw q) := State.frames_setFrames _ (State.cur_lt_of_frames hfr)
  refine ⟨(T.setVm vm').setFrames (.throwing q :: below), ?_, .threw q, X'.here.running, hend, Or.inr ⟨q, rfl, E, ce, locs, hx _ hT (X'.ends _).1.alike, hcell9, hv, hcl, (X'.ends _).1, (X'.ends _).2.mono hc hs, hf⟩⟩
  rw [X.pushThrowing_eq]
  exact st
/-- a thing of a world lies in the heap -/
theorem vx_lt {D : va_G} {cl : List vw_C} {ws : va_W} {H1 : Heap} (h : va_P D cl ws H1) {k : Nat} {q : Nat × va_E} (hk : ws[k]? = some q) : q.1 < H1.size := (h k q hk).lt
end VXS
/-! ===== END ===== -/
/-! ===== BEGIN methods with a table of their own: called by a name, returning or throwing ===== -/
section VXH
/-! vx_backW, vx_callVX, vx_callSX, vx_callVW, vx_runVW, vx_runVX, vx_runSX, vx_ofWH follow the same proofs as their sisters above (Free/Laws.lean, Shelf42/LK1.lean); vx_outP calls Shelf42/NT130.lean (outThrough). -/
section
variable {l : Launch} {R : Room} {p : Program} {e : Env} {below : List Frame} {s : State} {sargs : Array Value} {y : MethodName} {len W9 : Nat}
theorem vx_backW {ws : List Cond} {rm : Room} {Pc : Array Value → State → Prop} {Qc : Array Value → State → Outcome → State → Prop} {XC : String → State → State → Prop} {mc ms : Nat} {free : Addr → Prop} {bytes : ByteArray} {maxL : Nat} {ret : Option FieldType} {hh : List (Nat × Nat × Nat × Nat)}
    (hM : vx_Met l y ws rm Pc Qc XC mc ms free) (hblind : FrameBlind Pc) (hrc : rm.cells = mc) (hrs : rm.slots = ms)
    (hframes : rm.frames + 1 ≤ R.frames) (hlocals : W9 + (maxL + 11) + rm.locals ≤ R.locals)
    (hws : ∀ w ∈ ws, ∀ a' U, s.WarmedH U.vm → w.before a' U = true) (hcode : Cond.codeWith y bytes maxL ret hh ∈ ws) (hinit : ∀ a' U, s.WarmedH U.vm → (Cond.initialized y.cls).before a' U = true) :
    vx_Back l R p e below s sargs y len W9 (PreOf R mc ms Pc) (PostOf Qc mc ms free) (vx_Post XC mc ms free) := by
  intro m meth c A g ig mk a X hg hsize hdg hW hn hp
  have h1 : (headSpec ws rm).pre.before a A.U = true := atoms_intro fun w hw => hws w hw _ _ X.warmed
  have h2 : (Cond.codeWith y bytes maxL ret hh).before a A.U = true := hws _ hcode _ _ X.warmed
  have h3 : (Cond.initialized y.cls).before a A.U = true := hinit _ _ X.warmed
  have h4 : A.cells + (headSpec ws rm).room.cells ≤ R.cells := by rw [show (headSpec ws rm).room.cells = mc from hrc]; exact hp.1
  have h5 : A.slots + (headSpec ws rm).room.slots ≤ R.slots := by rw [show (headSpec ws rm).room.slots = ms from hrs]; exact hp.2.1
  have hPc : Pc a (A.U.calling g mk a) := hblind _ _ _ _ hp.2.2
  obtain ⟨U, Ls, c0, s0⟩ := A
  dsimp only [Pt.U, Pt.locs, Pt.cells, Pt.slots] at h1 h2 h3 h4 h5 X hn hPc ⊢
  obtain ⟨m9, methY, cY, hn9, hmY, hcY, -, hlY, -⟩ := Cond.codeWith_spec h2
  cases Option.some.inj (hn9.symm.trans hn)
  obtain ⟨kY, hkY, -⟩ := className_of_methodNamed hn
  have hinitY : kY.init = .initialized := Cond.initialized_spec (findClass_of_methodNamed hn) hkY h3
  have h : At U g.method c below := by rw [hg]; exact X.here
  have hlocals9 : W9 + (maxL + 11) + (headSpec ws rm).room.locals ≤ R.locals := hlocals
  have happ : (headSpec ws rm).appliesLoose y e.platform (U.calling g mk a) = true :=
    Spec.appliesLoose_calling (g := g) h hdg hn hkY hinitY
      (X.room_calling (g := g) (R' := (headSpec ws rm).room) hsize hmY hcY hframes (by rw [hlY]; omega) h4 h5) h1
  obtain ⟨mid, hmid⟩ := h.above
  have hfr : (U.setTop g).frames = (.java g :: mid) ++ below := by rw [State.frames_setTop' g h.top, hmid]; rfl
  obtain ⟨o, s₂, hsteps, -, hend, hq⟩ := Steps.callFree hM p X.admits X.cas X.clock (acts := []) hfr happ hPc trivial
  have hq' : vx_Q Qc XC mc ms free a (U.calling g mk a) o s₂ := hq
  rw [State.frames_setTop' g h.top] at hend
  obtain ⟨g₀, hg0⟩ := Option.isSome_iff_exists.mp h.top
  obtain ⟨r, hr⟩ := State.topJava?_eq_some.mp hg0
  have hr' : (({ U with heap := s₂.heap, slotsUsed := s₂.slotsUsed } : State).setVm s₂.vm).frames = .java g₀ :: r := hr
  rcases hq' with ⟨hqc, L, hfe, hL⟩ | ⟨q, rfl, E, ce, L, hx, hce, hcv, hcl, hW₂, hsm, hL⟩
  · obtain ⟨⟨v, rfl⟩, hW₂, e2, q2, q3, q4, q5, q6⟩ := id hfe
    have e3 : s₂ = ({ (U.calling g mk a).setFrames s₂.frames with heap := s₂.heap, slotsUsed := s₂.slotsUsed } : State).setVm s₂.vm := by
      have : s₂ = ({ s₂ with vm := (U.calling g mk a).vm } : State).setVm s₂.vm := rfl
      rw [e2] at this
      exact this
    obtain ⟨c₂, i₂, len₂, hc₂, hd₂, hf₂⟩ := hend
    have hW' : U.WarmedH s₂.vm := hW₂
    have hcc : c₂ = c := by
      have h1 : s₂.code? g.method = U.code? g.method := by
        rw [State.code?_eq, State.code?_eq, hW'.alike.method?]
      exact Option.some.inj (hc₂.symm.trans (h1.trans h.code))
    subst hcc
    have hlen : len₂ = len := by rw [hdg] at hd₂; cases hd₂; rfl
    subst hlen
    have hs₂ : s₂ = (({ U with heap := s₂.heap, slotsUsed := s₂.slotsUsed } : State).setVm s₂.vm).setTop { g with pc := g.pc + len₂, stack := v.toList ++ g.stack } := by
      refine e3.trans ?_
      rw [hf₂, State.calling_eq h.top, State.setFrames_setFrames, State.setTop_of_frames _ hr', hr]
      rfl
    have hsame : U.sameButNew ({ U with heap := s₂.heap, slotsUsed := s₂.slotsUsed } : State) L mc ms := by
      refine ⟨?_, q2, q3, q4, q5, q6⟩
      obtain ⟨t, ht, -⟩ := State.frames_cons hr
      show ({ U with heap := s₂.heap, slotsUsed := s₂.slotsUsed } : State) = { U.setFrames U.frames with heap := s₂.heap, slotsUsed := s₂.slotsUsed }
      rw [State.setFrames_self ht]
    subst hg
    refine Or.inl ⟨v, ⟨(({ U with heap := s₂.heap, slotsUsed := s₂.slotsUsed } : State).setVm s₂.vm), Ls ++ L, c0 + mc, s0 + ms⟩,
      ⟨X.admits, X.cas, X.clock, X.frames, X.room, X.hears, X.method, X.code, (X.here.setHeapUsed s₂.heap s₂.slotsUsed).setVm hW'.alike, X.tail, State.WarmedH.trans X.warmed hW', X.limits, X.bytes, X.same.trans (hsame.setVm s.vm)⟩,
      ⟨g, mk, s₂, L, rfl, rfl, hqc, rfl, hL, rfl, rfl⟩, ?_⟩
    show Steps p.tables e below _ ((({ U with heap := s₂.heap, slotsUsed := s₂.slotsUsed } : State).setVm s₂.vm).setTop { g with pc := g.pc + len₂, stack := v.toList ++ g.stack })
    rw [← hs₂]
    exact hsteps
  · obtain ⟨e2, q2, q3, q4, q5, q6⟩ := id hsm
    have e3 : s₂ = ({ (U.calling g mk a).setFrames s₂.frames with heap := s₂.heap, slotsUsed := s₂.slotsUsed } : State).setVm s₂.vm := by
      have : s₂ = ({ s₂ with vm := (U.calling g mk a).vm } : State).setVm s₂.vm := rfl
      rw [e2] at this
      exact this
    have hf₂ : s₂.frames = .throwing q :: .java g :: U.frames.tail := hend
    have hW' : U.WarmedH s₂.vm := hW₂
    have hs₂ : s₂ = ((({ U with heap := s₂.heap, slotsUsed := s₂.slotsUsed } : State).setVm s₂.vm).setTop g).pushFrame (.throwing q) := by
      refine e3.trans ?_
      rw [hf₂, State.calling_eq h.top, State.setFrames_setFrames, State.pushFrame, State.frames_setTop _ hr', State.setTop_of_frames _ hr', State.setFrames_setFrames, hr]
      rfl
    have hsame : U.sameButNew ({ U with heap := s₂.heap, slotsUsed := s₂.slotsUsed } : State) L mc ms := by
      refine ⟨?_, q2, q3, q4, q5, q6⟩
      obtain ⟨t, ht, -⟩ := State.frames_cons hr
      show ({ U with heap := s₂.heap, slotsUsed := s₂.slotsUsed } : State) = { U.setFrames U.frames with heap := s₂.heap, slotsUsed := s₂.slotsUsed }
      rw [State.setFrames_self ht]
    subst hg
    refine Or.inr ⟨q, ⟨(({ U with heap := s₂.heap, slotsUsed := s₂.slotsUsed } : State).setVm s₂.vm), Ls ++ L, c0 + mc, s0 + ms⟩,
      ⟨X.admits, X.cas, X.clock, X.frames, X.room, X.hears, X.method, X.code, (X.here.setHeapUsed s₂.heap s₂.slotsUsed).setVm hW'.alike, X.tail, State.WarmedH.trans X.warmed hW', X.limits, X.bytes, X.same.trans (hsame.setVm s.vm)⟩,
      ⟨g, mk, s₂, L, E, ce, rfl, rfl, hx, hce, hcv, hcl, rfl, hL, rfl, rfl⟩, ?_⟩
    show Steps p.tables e below _ (((({ U with heap := s₂.heap, slotsUsed := s₂.slotsUsed } : State).setVm s₂.vm).setTop g).pushFrame (.throwing q))
    rw [← hs₂]
    exact hsteps
end
variable {p : Program} {l : Launch} {e : Env} {R : Room} {s : State} {m : MethodId} {args : Array Value} {below : List Frame} {meth : Method} {c : Code} {T : State} {H : Heap} {locs : List Loc} {cells slots : Nat}
theorem vx_callVX (X : Stand p l e R s m args below meth c T locs cells slots) (hexec : p.tables.exec = Jvm.exec) {own C : String} {index : Nat} {y : MethodName} {bytes : ByteArray} {maxL : Nat} {ret : Option FieldType} {hh : List (Nat × Nat × Nat × Nat)}
    (hown : s.vm.findClass own = some m.cls) (hlink : (Cond.methodLink own index y).before args s = true) (hinst : (Cond.instanceMethod y).before args s = true) (hsel : (Cond.selects C y y).before args s = true)
    (hcode : (Cond.codeWith y bytes maxL ret hh).before args s = true) (hy : y.cls ≠ "java/lang/invoke/MethodHandle" ∧ y.cls ≠ "java/lang/invoke/VarHandle")
    {W9 : Nat} {Pre : Pt → Array Value → Prop} {Post : Pt → Array Value → Option Value → Pt → Prop} {PostX : Pt → Array Value → Addr → Pt → Prop} (hK : vx_Back l R p e below s args y 3 W9 Pre Post PostX)
    {b : Addr} {cellB : Cell} (hcell : T.heap[b]? = some cellB) (hobj : cellB.vm.isStatics = false) (hcls : s.vm.findClass C = some cellB.cls)
    {g : JFrame} (hg : g.method = m) (hsize : g.locals.size = c.maxLocals) {argsL rest : List Value} (hlen : ∀ sig, parseMethodDescriptor y.desc = some sig → argsL.length = sig.parameters.length)
    (hstack : g.stack = argsL.reverse ++ .ref b :: rest) (hW : 2 * g.monitorRoom + (rest.map fun v => v.category).sum ≤ W9) (hdg : decode c.code g.pc = .ok (.invokevirtual index, 3))
    (hpre : ∀ vm₁, s.WarmedH vm₁ → Pre ⟨T.setVm vm₁, locs, cells, slots⟩ (Value.ref b :: argsL).toArray) :
    (∃ (v : Option Value) (vm₁ : Vm) (B : Pt), s.WarmedH vm₁ ∧ Stand p l e R s m args below meth c B.U B.locs B.cells B.slots ∧ Post ⟨T.setVm vm₁, locs, cells, slots⟩ (Value.ref b :: argsL).toArray v B ∧
      ∀ target, Steps p.tables e below (B.U.setTop { g with pc := g.pc + 3, stack := v.toList ++ rest }) target → Steps p.tables e below (T.setTop g) target) ∨
    (∃ (q : Addr) (vm₁ : Vm) (B : Pt), s.WarmedH vm₁ ∧ Stand p l e R s m args below meth c B.U B.locs B.cells B.slots ∧ PostX ⟨T.setVm vm₁, locs, cells, slots⟩ (Value.ref b :: argsL).toArray q B ∧
      Steps p.tables e below (T.setTop g) ((B.U.setTop { g with stack := rest }).pushFrame (.throwing q))) := by
  obtain ⟨mk, methM, hnamed, hmethM, hstM, habM⟩ := Cond.instanceMethod_spec hinst
  obtain ⟨m8, methM', cM, hn8, hmethM', -, -, -, -, -, -, hsigM⟩ := Cond.codeWith_spec hcode
  cases Option.some.inj (hn8.symm.trans hnamed)
  cases hmethM.symm.trans hmethM'
  obtain ⟨c2, r2, m2, q1, q2, q3, q4, kP, hkP, hkPi⟩ := Cond.selects_spec hsel
  cases hcls.symm.trans q1
  cases (State.methodFound?_of_named hnamed hy).symm.trans q2
  cases hnamed.symm.trans q3
  have hselP : selectMethod e.platform s.vm cellB.cls mk = .method mk := by rw [Launch.admits_selectMethod X.admits]; exact q4
  obtain ⟨vm₁, X₁, hstep₁⟩ := X.invokevirtual hexec hown hlink hnamed hmethM hstM hkP hkPi hy (a := b) (cell := cellB) hcell
    (fun z h => by rw [h] at hobj; cases hobj) hselP hmethM habM hkP hkPi (g := g) hg (argsL := argsL) (rest := rest) (hlen _ hsigM) hstack hdg
  rcases hK m meth c ⟨T.setVm vm₁, locs, cells, slots⟩ { g with stack := rest } (.invokevirtual index) mk (Value.ref b :: argsL).toArray X₁ hg hsize hdg hW (X₁.named hnamed) (hpre vm₁ X₁.warmed) with ⟨v, B, X', hpost, hsteps⟩ | ⟨q, B, X', hpost, hsteps⟩
  · exact Or.inl ⟨v, vm₁, B, X₁.warmed, X', hpost, fun target h => hstep₁ _ fun acts => by rw [doInvoke_state]; exact hsteps.trans h⟩
  · exact Or.inr ⟨q, vm₁, B, X₁.warmed, X', hpost, hstep₁ _ fun acts => by rw [doInvoke_state]; exact hsteps⟩
theorem vx_callSX (X : Stand p l e R s m args below meth c T locs cells slots) (hexec : p.tables.exec = Jvm.exec) {own : String} {index : Nat} {y : MethodName} {bytes : ByteArray} {maxL : Nat} {ret : Option FieldType} {hh : List (Nat × Nat × Nat × Nat)}
    (hown : s.vm.findClass own = some m.cls) (hlink : (Cond.methodLink own index y).before args s = true) (hstat : (Cond.static y).before args s = true) (hinit : (Cond.initialized y.cls).before args s = true)
    (hcode : (Cond.codeWith y bytes maxL ret hh).before args s = true) (hy : y.cls ≠ "java/lang/invoke/MethodHandle" ∧ y.cls ≠ "java/lang/invoke/VarHandle")
    {W9 : Nat} {Pre : Pt → Array Value → Prop} {Post : Pt → Array Value → Option Value → Pt → Prop} {PostX : Pt → Array Value → Addr → Pt → Prop} (hK : vx_Back l R p e below s args y 3 W9 Pre Post PostX)
    {g : JFrame} (hg : g.method = m) (hsize : g.locals.size = c.maxLocals) {argsL rest : List Value} (hlen : ∀ sig, parseMethodDescriptor y.desc = some sig → argsL.length = sig.parameters.length)
    (hstack : g.stack = argsL.reverse ++ rest) (hW : 2 * g.monitorRoom + (rest.map fun v => v.category).sum ≤ W9) (hdg : decode c.code g.pc = .ok (.invokestatic index, 3))
    (hpre : ∀ vm₁, s.WarmedH vm₁ → Pre ⟨T.setVm vm₁, locs, cells, slots⟩ argsL.toArray) :
    (∃ (v : Option Value) (vm₁ : Vm) (B : Pt), s.WarmedH vm₁ ∧ Stand p l e R s m args below meth c B.U B.locs B.cells B.slots ∧ Post ⟨T.setVm vm₁, locs, cells, slots⟩ argsL.toArray v B ∧
      ∀ target, Steps p.tables e below (B.U.setTop { g with pc := g.pc + 3, stack := v.toList ++ rest }) target → Steps p.tables e below (T.setTop g) target) ∨
    (∃ (q : Addr) (vm₁ : Vm) (B : Pt), s.WarmedH vm₁ ∧ Stand p l e R s m args below meth c B.U B.locs B.cells B.slots ∧ PostX ⟨T.setVm vm₁, locs, cells, slots⟩ argsL.toArray q B ∧
      Steps p.tables e below (T.setTop g) ((B.U.setTop { g with stack := rest }).pushFrame (.throwing q))) := by
  obtain ⟨mk, methM, cM, hnamed, hmethM, -, -, -, -, -, -, hsigM⟩ := Cond.codeWith_spec hcode
  have hstatic : methM.isStatic = true := Cond.static_spec hnamed hmethM hstat
  obtain ⟨kP, hkP, -⟩ := className_of_methodNamed hnamed
  have hinitP : kP.init = .initialized := Cond.initialized_spec (findClass_of_methodNamed hnamed) hkP hinit
  obtain ⟨vm₁, X₁, hstep₁⟩ := X.invokestatic hexec hown hlink hnamed hmethM hstatic hkP hinitP hy (g := g) hg (argsL := argsL) (rest := rest) (hlen _ hsigM) hstack hdg
  rcases hK m meth c ⟨T.setVm vm₁, locs, cells, slots⟩ { g with stack := rest } (.invokestatic index) mk argsL.toArray X₁ hg hsize hdg hW (X₁.named hnamed) (hpre vm₁ X₁.warmed) with ⟨v, B, X', hpost, hsteps⟩ | ⟨q, B, X', hpost, hsteps⟩
  · exact Or.inl ⟨v, vm₁, B, X₁.warmed, X', hpost, fun target h => hstep₁ _ fun acts => by rw [doInvoke_state]; exact hsteps.trans h⟩
  · exact Or.inr ⟨q, vm₁, B, X₁.warmed, X', hpost, hstep₁ _ fun acts => by rw [doInvoke_state]; exact hsteps⟩
theorem vx_callVW (X : Stand p l e R s m args below meth c T locs cells slots) (hexec : p.tables.exec = Jvm.exec) {own C : String} {index : Nat} {y : MethodName} {bytes : ByteArray} {maxL : Nat} {ret : Option FieldType} {hh : List (Nat × Nat × Nat × Nat)}
    (hown : s.vm.findClass own = some m.cls) (hlink : (Cond.methodLink own index y).before args s = true) (hinst : (Cond.instanceMethod y).before args s = true) (hsel : (Cond.selects C y y).before args s = true)
    (hcode : (Cond.codeWith y bytes maxL ret hh).before args s = true) (hy : y.cls ≠ "java/lang/invoke/MethodHandle" ∧ y.cls ≠ "java/lang/invoke/VarHandle")
    {W9 : Nat} {Pre : Pt → Array Value → Prop} {Post : Pt → Array Value → Option Value → Pt → Prop} (hK : Back l R p e below s args y 3 W9 Pre Post)
    {b : Addr} {cellB : Cell} (hcell : T.heap[b]? = some cellB) (hobj : cellB.vm.isStatics = false) (hcls : s.vm.findClass C = some cellB.cls)
    {g : JFrame} (hg : g.method = m) (hsize : g.locals.size = c.maxLocals) {argsL rest : List Value} (hlen : ∀ sig, parseMethodDescriptor y.desc = some sig → argsL.length = sig.parameters.length)
    (hstack : g.stack = argsL.reverse ++ .ref b :: rest) (hW : 2 * g.monitorRoom + (rest.map fun v => v.category).sum ≤ W9) (hdg : decode c.code g.pc = .ok (.invokevirtual index, 3))
    (hpre : ∀ vm₁, s.WarmedH vm₁ → Pre ⟨T.setVm vm₁, locs, cells, slots⟩ (Value.ref b :: argsL).toArray) :
    ∃ (v : Option Value) (vm₁ : Vm) (B : Pt), s.WarmedH vm₁ ∧ Stand p l e R s m args below meth c B.U B.locs B.cells B.slots ∧ Post ⟨T.setVm vm₁, locs, cells, slots⟩ (Value.ref b :: argsL).toArray v B ∧
      ∀ target, Steps p.tables e below (B.U.setTop { g with pc := g.pc + 3, stack := v.toList ++ rest }) target → Steps p.tables e below (T.setTop g) target := by
  obtain ⟨mk, methM, hnamed, hmethM, hstM, habM⟩ := Cond.instanceMethod_spec hinst
  obtain ⟨m8, methM', cM, hn8, hmethM', -, -, -, -, -, -, hsigM⟩ := Cond.codeWith_spec hcode
  cases Option.some.inj (hn8.symm.trans hnamed)
  cases hmethM.symm.trans hmethM'
  obtain ⟨c2, r2, m2, q1, q2, q3, q4, kP, hkP, hkPi⟩ := Cond.selects_spec hsel
  cases hcls.symm.trans q1
  cases (State.methodFound?_of_named hnamed hy).symm.trans q2
  cases hnamed.symm.trans q3
  have hselP : selectMethod e.platform s.vm cellB.cls mk = .method mk := by rw [Launch.admits_selectMethod X.admits]; exact q4
  obtain ⟨vm₁, X₁, hstep₁⟩ := X.invokevirtual hexec hown hlink hnamed hmethM hstM hkP hkPi hy (a := b) (cell := cellB) hcell
    (fun z h => by rw [h] at hobj; cases hobj) hselP hmethM habM hkP hkPi (g := g) hg (argsL := argsL) (rest := rest) (hlen _ hsigM) hstack hdg
  obtain ⟨v, B, X', hpost, hsteps⟩ := hK m meth c ⟨T.setVm vm₁, locs, cells, slots⟩ { g with stack := rest } (.invokevirtual index) mk (Value.ref b :: argsL).toArray X₁ hg hsize hdg hW (X₁.named hnamed) (hpre vm₁ X₁.warmed)
  exact ⟨v, vm₁, B, X₁.warmed, X', hpost, fun target h => hstep₁ _ fun acts => by rw [doInvoke_state]; exact hsteps.trans h⟩
abbrev vx_CVW (R : Room) (s : State) (args : Array Value) (own C : String) (index : Nat) (y : MethodName) (bytes : ByteArray) (maxL : Nat) (ret : Option FieldType) (hh : List (Nat × Nat × Nat × Nat)) (ws : List Cond) (rm : Room) (mc ms n : Nat) : Prop :=
  (rm.cells = mc ∧ rm.slots = ms ∧ rm.frames + 1 ≤ R.frames ∧ 8 + (maxL + 11) + rm.locals ≤ R.locals ∧ (∀ w ∈ ws, ∀ (a' : Array Value) (U : State), s.WarmedH U.vm → w.before a' U = true) ∧ Cond.codeWith y bytes maxL ret hh ∈ ws) ∧
  (Cond.codeWith y bytes maxL ret hh).before args s = true ∧ (Cond.initialized y.cls).before args s = true ∧ (y.cls ≠ "java/lang/invoke/MethodHandle" ∧ y.cls ≠ "java/lang/invoke/VarHandle") ∧
  (∀ sig, parseMethodDescriptor y.desc = some sig → n = sig.parameters.length) ∧ (Cond.methodLink own index y).before args s = true ∧ (Cond.instanceMethod y).before args s = true ∧ (Cond.selects C y y).before args s = true
theorem vx_cwVW {own C : String} {index maxL mc ms : Nat} {y : MethodName} {bytes : ByteArray} {ret : Option FieldType} {hh : List (Nat × Nat × Nat × Nat)} {Ts ws ws' : List Cond} {rm : Room} (n : Nat) (ht : ∀ w ∈ Ts, w.before args s = true) (hT : GoodIn Ts (wsV own index C y ws)) (hw : ws = Cond.codeWith y bytes maxL ret hh :: ws') (hrc : rm.cells = mc) (hrs : rm.slots = ms)
    (hd : y.cls = C ∧ y.cls ≠ "java/lang/invoke/MethodHandle" ∧ y.cls ≠ "java/lang/invoke/VarHandle" ∧ (parseMethodDescriptor y.desc).map (fun d => d.parameters.length) = some n) (hR : rm.frames + 1 ≤ R.frames ∧ 8 + (maxL + 11) + rm.locals ≤ R.locals) :
    vx_CVW R s args own C index y bytes maxL ret hh ws rm mc ms n := by
  obtain ⟨hC, hd⟩ := hd
  subst hC
  have ok : ∀ w ∈ wsV own index y.cls y ws, w.before args s = true := fun w h => ht w (hT w h).1
  have hG : GoodIn Ts ws := fun w h => hT w (by unfold wsV; exact List.mem_append_right _ h)
  have hc : Cond.codeWith y bytes maxL ret hh ∈ ws := by rw [hw]; exact List.mem_cons_self
  refine ⟨⟨hrc, hrs, hR.1, hR.2, pay_in ht hG, hc⟩, ht _ (hG _ hc).1, ok _ (by simp [wsV]), ⟨hd.1, hd.2.1⟩, fun sig h => ?_, ok _ (by simp [wsV]), ok _ (by simp [wsV]), ok _ (by simp [wsV])⟩
  have h2 := hd.2.2
  rw [h] at h2
  exact (Option.some.inj h2).symm
theorem vx_runVW {y : MethodName} {bytes cc : ByteArray} {maxL nL mc ms n index : Nat} {ret : Option FieldType} {hh : List (Nat × Nat × Nat × Nat)} {ws : List Cond} {rm : Room} {Pc : Array Value → State → Prop} {Qc : Array Value → State → Outcome → State → Prop} {free : Addr → Prop} {Ts : List Cond} {own C : String} {b : Addr} {As rest : List Value} {g : JFrame}
    (S : CallFix p m c cc nL s args Ts own) (hM : Met l y ws rm Pc Qc mc ms free) (cw : vx_CVW R s args own C index y bytes maxL ret hh ws rm mc ms n) (hp : PreV s H C b Pc As)
    (hg : g.method = m) (hn : As.length = n) (hsize : g.locals.size = nL) (hstack : g.stack = As.reverse ++ .ref b :: rest) (hW : 2 * g.monitorRoom + (rest.map fun v => v.category).sum ≤ 8) (hdg : decode cc g.pc = .ok (.invokevirtual index, 3)) (hf : cells + mc ≤ R.cells ∧ slots + ms ≤ R.slots) :
    va_Run p l e R s m args below meth c H locs cells slots mc ms g rest (Qc (Value.ref b :: As).toArray) free := by
  obtain ⟨⟨hrc, hrs, hfr, hlo, hws, hcw⟩, hcode, hini, hy, hlen, hl, hin, hse⟩ := cw
  have hK : Back l R p e below s args y 3 8 (PreOf R mc ms Pc) (PostOf Qc mc ms free) := va_backW (hh := hh) (bytes := bytes) (maxL := maxL) (ret := ret) hM hp.1 hrc hrs hfr hlo hws hcw (fun a' U hW => word_at hW (Or.inl (by first | rfl | simp [Cond.onTables, Cond.keeps, Cond.steady])) hini)
  obtain ⟨hx, hb, hml, ho, -⟩ := S
  obtain ⟨-, ⟨cellB, hcB, hoB, hclB⟩, hPc⟩ := hp
  intro T hT X
  obtain ⟨v, vm₁, ⟨U', l2, c2, s2⟩, hW₁, X', ⟨g', mk, t, L, e1, e2, hq, h1, hL, h2, h3⟩, st⟩ := vx_callVW X hx (C := C) (hh := hh) (bytes := bytes) (maxL := maxL) (ret := ret) ho hl hin hse hcode hy hK (by rw [hT]; exact hcB) hoB hclB hg (hsize.trans hml.symm) (argsL := As) (rest := rest) (fun sig h => hn.trans (hlen sig h)) hstack hW (by rw [hb]; exact hdg)
    (fun vm₁ hW₁ => ⟨hf.1, hf.2, hPc (T.setVm vm₁) hT hW₁⟩)
  dsimp only [Pt.U, Pt.locs, Pt.cells, Pt.slots] at X' e1 e2 h1 h2 h3 st
  subst h1; subst h2; subst h3
  exact ⟨v, (T.setVm vm₁).calling g' mk (Value.ref b :: As).toArray, t, U', L, hT, X', hL, e1, e2, hq, st⟩
section
variable {y : MethodName} {bytes cc : ByteArray} {maxL nL mc ms n index : Nat} {ret : Option FieldType} {ws : List Cond} {rm : Room} {Pc : Array Value → State → Prop} {Qc : Array Value → State → Outcome → State → Prop} {XC : String → State → State → Prop} {free : Addr → Prop} {Ts : List Cond} {own C : String} {b : Addr} {As rest : List Value} {g : JFrame}
theorem vx_runVX {hh : List (Nat × Nat × Nat × Nat)} (S : CallFix p m c cc nL s args Ts own) (hM : vx_Met l y ws rm Pc Qc XC mc ms free) (cw : vx_CVW R s args own C index y bytes maxL ret hh ws rm mc ms n) (hp : PreV s H C b Pc As)
    (hg : g.method = m) (hn : As.length = n) (hsize : g.locals.size = nL) (hstack : g.stack = As.reverse ++ .ref b :: rest) (hW : 2 * g.monitorRoom + (rest.map fun v => v.category).sum ≤ 8) (hdg : decode cc g.pc = .ok (.invokevirtual index, 3)) (hf : cells + mc ≤ R.cells ∧ slots + ms ≤ R.slots) :
    vx_Run p l e R s m args below meth c H locs cells slots mc ms g rest (Qc (Value.ref b :: As).toArray) XC free := by
  obtain ⟨⟨hrc, hrs, hfr, hlo, hws, hcw⟩, hcode, hini, hy, hlen, hl, hin, hse⟩ := cw
  have hK : vx_Back l R p e below s args y 3 8 (PreOf R mc ms Pc) (PostOf Qc mc ms free) (vx_Post XC mc ms free) := vx_backW (hh := hh) (bytes := bytes) (maxL := maxL) (ret := ret) hM hp.1 hrc hrs hfr hlo hws hcw (fun a' U hW => word_at hW (Or.inl (by first | rfl | simp [Cond.onTables, Cond.keeps, Cond.steady])) hini)
  obtain ⟨hx, hb, hml, ho, -⟩ := S
  obtain ⟨-, ⟨cellB, hcB, hoB, hclB⟩, hPc⟩ := hp
  intro T hT X
  rcases vx_callVX X hx (C := C) (hh := hh) (bytes := bytes) (maxL := maxL) (ret := ret) ho hl hin hse hcode hy hK (by rw [hT]; exact hcB) hoB hclB hg (hsize.trans hml.symm) (argsL := As) (rest := rest) (fun sig h => hn.trans (hlen sig h)) hstack hW (by rw [hb]; exact hdg)
    (fun vm₁ hW₁ => ⟨hf.1, hf.2, hPc (T.setVm vm₁) hT hW₁⟩) with ⟨v, vm₁, ⟨U', l2, c2, s2⟩, hW₁, X', ⟨g', mk, t, L, e1, e2, hq, h1, hL, h2, h3⟩, st⟩ | ⟨q, vm₁, ⟨U', l2, c2, s2⟩, hW₁, X', ⟨g', mk, t, L, E, ce, e1, e2, hq, hce, hcv, hcl, h1, hL, h2, h3⟩, st⟩
  · dsimp only [Pt.U, Pt.locs, Pt.cells, Pt.slots] at X' e1 e2 h1 h2 h3 st
    subst h1; subst h2; subst h3
    exact Or.inl ⟨v, (T.setVm vm₁).calling g' mk (Value.ref b :: As).toArray, t, U', L, hT, X', hL, e1, e2, hq, st⟩
  · dsimp only [Pt.U, Pt.locs, Pt.cells, Pt.slots] at X' e1 e2 h1 h2 h3 st hcl
    subst h1; subst h2; subst h3
    exact Or.inr ⟨q, (T.setVm vm₁).calling g' mk (Value.ref b :: As).toArray, t, U', L, E, ce, hT, X', hL, e1, e2, hq, hce, hcv, vx_cls hW₁ hcl, st⟩
theorem vx_runSX {hh : List (Nat × Nat × Nat × Nat)} (S : CallFix p m c cc nL s args Ts own) (hM : vx_Met l y ws rm Pc Qc XC mc ms free) (cw : vx_CSW R s args own index y bytes maxL ret hh ws rm mc ms n) (hp : PreS s H Pc As)
    (hg : g.method = m) (hn : As.length = n) (hsize : g.locals.size = nL) (hstack : g.stack = As.reverse ++ rest) (hW : 2 * g.monitorRoom + (rest.map fun v => v.category).sum ≤ 8) (hdg : decode cc g.pc = .ok (.invokestatic index, 3)) (hf : cells + mc ≤ R.cells ∧ slots + ms ≤ R.slots) :
    vx_Run p l e R s m args below meth c H locs cells slots mc ms g rest (Qc As.toArray) XC free := by
  obtain ⟨⟨hrc, hrs, hfr, hlo, hws, hcw⟩, hcode, hini, hy, hlen, hl, hstt⟩ := cw
  have hK : vx_Back l R p e below s args y 3 8 (PreOf R mc ms Pc) (PostOf Qc mc ms free) (vx_Post XC mc ms free) := vx_backW (hh := hh) (bytes := bytes) (maxL := maxL) (ret := ret) hM hp.1 hrc hrs hfr hlo hws hcw (fun a' U hW => word_at hW (Or.inl (by first | rfl | simp [Cond.onTables, Cond.keeps, Cond.steady])) hini)
  obtain ⟨hx, hb, hml, ho, -⟩ := S
  intro T hT X
  rcases vx_callSX X hx (hh := hh) (bytes := bytes) (maxL := maxL) (ret := ret) ho hl hstt hini hcode hy hK hg (hsize.trans hml.symm) (argsL := As) (rest := rest) (fun sig h => hn.trans (hlen sig h)) hstack hW (by rw [hb]; exact hdg)
    (fun vm₁ hW₁ => ⟨hf.1, hf.2, hp.2 (T.setVm vm₁) hT hW₁⟩) with ⟨v, vm₁, ⟨U', l2, c2, s2⟩, hW₁, X', ⟨g', mk, t, L, e1, e2, hq, h1, hL, h2, h3⟩, st⟩ | ⟨q, vm₁, ⟨U', l2, c2, s2⟩, hW₁, X', ⟨g', mk, t, L, E, ce, e1, e2, hq, hce, hcv, hcl, h1, hL, h2, h3⟩, st⟩
  · dsimp only [Pt.U, Pt.locs, Pt.cells, Pt.slots] at X' e1 e2 h1 h2 h3 st
    subst h1; subst h2; subst h3
    exact Or.inl ⟨v, (T.setVm vm₁).calling g' mk As.toArray, t, U', L, hT, X', hL, e1, e2, hq, st⟩
  · dsimp only [Pt.U, Pt.locs, Pt.cells, Pt.slots] at X' e1 e2 h1 h2 h3 st hcl
    subst h1; subst h2; subst h3
    exact Or.inr ⟨q, (T.setVm vm₁).calling g' mk As.toArray, t, U', L, E, ce, hT, X', hL, e1, e2, hq, hce, hcv, vx_cls hW₁ hcl, st⟩
end
end VXH
theorem vx_ofWH {l : Launch} {y : MethodName} {ws ws' : List Cond} {rm : Room} {Pc : Array Value → State → Prop} {Qc : Array Value → State → Outcome → State → Prop} {XC : String → State → State → Prop} {mc ms : Nat} {free : Addr → Prop} {cc : ByteArray} {maxL : Nat} {ret : Option FieldType} {hh : List (Nat × Nat × Nat × Nat)}
    (hy : plainName y.cls = true) (hw : ws = Cond.codeWith y cc maxL ret hh :: ws')
    (body : ∀ p e s m args below meth c s₁, BodyLoose p l y (headSpec ws rm) cc maxL ret e s m args below meth c s₁ → c.maxLocals = maxL → Pc args s →
      W p l e (headSpec ws rm).room s m args below meth c s.heap [] 0 0 (vx_MQ below Qc XC args s mc ms free) (entryFrame m args maxL)) : vx_Met l y ws rm Pc Qc XC mc ms free := by
  refine MetFree.of_bodyS (code := cc) (maxLocals := maxL) (ret := ret) hy ?_ ?_
  · intro args s m h hn
    obtain ⟨m9, meth, c, hn9, h1, h2, h3, h4, -, h5, h6, -⟩ := Cond.codeWith_spec (atoms_spec (ws := ws) h _ (by rw [hw]; exact List.mem_cons_self))
    cases hn.symm.trans hn9
    exact ⟨meth, c, h1, h2, h3, h4, h5, h6⟩
  · intro p e s m args below meth c s₁ B hml hP _
    have hh0 : s₁.heap = s.heap := by rw [B.state]; rfl
    obtain ⟨t, a1, o, b1, b2, b3⟩ := body p e s m args below meth c s₁ B hml hP s₁ hh0 (Stand.of_body B)
    exact ⟨t, o, a1, b1, b2, b3⟩
/-! ===== END ===== -/
end
section
/-! ===== BEGIN printed: names, fields, word lists, decode rows ===== -/
def RX0 : String := "SixBitBoard$Assembler"
def TX0 : u_T := fun k => match k with
  | 0 => ("SixBitBoard$Assembler", "text", "LSixBitBoard$Text;", true)
  | 1 => ("SixBitBoard$Assembler", "memory", "[I", true)
  | 2 => ("SixBitBoard$Assembler", "symbols", "LSixBitBoard$Symbols;", true)
  | 3 => ("SixBitBoard$Assembler", "parser", "LSixBitBoard$Parser;", true)
  | 4 => ("SixBitBoard$Assembler", "touched", "[J", true)
  | 5 => ("SixBitBoard$Assembler", "putIn", "[I", true)
  | 6 => ("SixBitBoard$Assembler", "putAt", "[I", true)
  | 7 => ("SixBitBoard$Assembler", "puts", "I", false)
  | 8 => ("SixBitBoard$Assembler", "localAt", "[I", true)
  | 9 => ("SixBitBoard$Assembler", "location", "I", false)
  | 10 => ("SixBitBoard$Assembler", "lowest", "I", false)
  | 11 => ("SixBitBoard$Assembler", "op", "I", false)
  | 12 => ("SixBitBoard$Assembler", "label", "I", false)
  | 13 => ("SixBitBoard$Assembler", "labelName", "J", false)
  | 14 => ("SixBitBoard$Assembler", "labelDigit", "I", false)
  | 15 => ("SixBitBoard$Assembler", "lines", "I", false)
  | 16 => ("SixBitBoard$Assembler", "words", "I", false)
  | 17 => ("SixBitBoard$Assembler", "start", "I", false)
  | 18 => ("SixBitBoard$Assembler", "kind", "I", false)
  | _ => ("SixBitBoard$Assembler", "whole", "Z", false)
def tyX0 : Nat → FieldType := fun k => match k with
  | 0 => .object "SixBitBoard$Text"
  | 1 => .array .int
  | 2 => .object "SixBitBoard$Symbols"
  | 3 => .object "SixBitBoard$Parser"
  | 4 => .array .long
  | 5 => .array .int
  | 6 => .array .int
  | 7 => .int
  | 8 => .array .int
  | 9 => .int
  | 10 => .int
  | 11 => .int
  | 12 => .int
  | 13 => .long
  | 14 => .int
  | 15 => .int
  | 16 => .int
  | 17 => .int
  | 18 => .int
  | _ => .boolean
abbrev wsX00 : List Cond := u_ws RX0 TX0 20
theorem nmX0 : ∀ a, a < 20 → ∀ b, b < 20 → a ≠ b → (TX0 a).2.1 ≠ (TX0 b).2.1 := by decide +kernel
theorem tyX0_ok : ∀ k, k < 20 → parseFieldDescriptor (TX0 k).2.2.1 = some (tyX0 k) := by decide +kernel
abbrev cX0_init : ByteArray := prog_2_method_1_code
def yX0_init : MethodName := ⟨RX0, "<init>", "(LSixBitBoard$Text;[ILSixBitBoard$Symbols;)V"⟩
abbrev cX0_open : ByteArray := prog_2_method_2_code
def yX0_open : MethodName := ⟨RX0, "open", "(IIZ)V"⟩
abbrev cX0_close : ByteArray := prog_2_method_3_code
def yX0_close : MethodName := ⟨RX0, "close", "(I)V"⟩
abbrev cX0_isTouched : ByteArray := prog_2_method_4_code
def yX0_isTouched : MethodName := ⟨RX0, "isTouched", "(I)Z"⟩
abbrev cX0_putOf : ByteArray := prog_2_method_5_code
def yX0_putOf : MethodName := ⟨RX0, "putOf", "(I)I"⟩
abbrev cX0_nextWrong : ByteArray := prog_2_method_6_code
def yX0_nextWrong : MethodName := ⟨RX0, "nextWrong", "()I"⟩
abbrev cX0_takeApart : ByteArray := prog_2_method_7_code
def yX0_takeApart : MethodName := ⟨RX0, "takeApart", "()I"⟩
abbrev cX0_findOp : ByteArray := prog_2_method_8_code
def yX0_findOp : MethodName := ⟨RX0, "findOp", "()I"⟩
abbrev cX0_workInstruction : ByteArray := prog_2_method_9_code
def yX0_workInstruction : MethodName := ⟨RX0, "workInstruction", "()I"⟩
abbrev cX0_workOther : ByteArray := prog_2_method_10_code
def yX0_workOther : MethodName := ⟨RX0, "workOther", "()I"⟩
abbrev cX0_define : ByteArray := prog_2_method_11_code
def yX0_define : MethodName := ⟨RX0, "define", "(I)V"⟩
abbrev cX0_put : ByteArray := prog_2_method_12_code
def yX0_put : MethodName := ⟨RX0, "put", "(I)V"⟩
abbrev cX0_lay : ByteArray := prog_2_method_13_code
def yX0_lay : MethodName := ⟨RX0, "lay", "(I)V"⟩
abbrev cX0_workEnd : ByteArray := prog_2_method_14_code
def yX0_workEnd : MethodName := ⟨RX0, "workEnd", "()I"⟩
abbrev cX0_placeComing : ByteArray := prog_2_method_15_code
def yX0_placeComing : MethodName := ⟨RX0, "placeComing", "()I"⟩
abbrev cX0_forgetComing : ByteArray := prog_2_method_16_code
def yX0_forgetComing : MethodName := ⟨RX0, "forgetComing", "()V"⟩
abbrev cX0_hasWideUse : ByteArray := prog_2_method_17_code
def yX0_hasWideUse : MethodName := ⟨RX0, "hasWideUse", "()Z"⟩
abbrev cX0_layComing : ByteArray := prog_2_method_18_code
def yX0_layComing : MethodName := ⟨RX0, "layComing", "()V"⟩
def RX1 : String := "SixBitBoard$Codes"
def TX1 : u_T := fun k => match k with
  | _ => ("", "", "", false)
def tyX1 : Nat → FieldType := fun k => match k with
  | _ => .int
abbrev wsX10 : List Cond := u_ws RX1 TX1 0
theorem nmX1 : ∀ a, a < 0 → ∀ b, b < 0 → a ≠ b → (TX1 a).2.1 ≠ (TX1 b).2.1 := by decide +kernel
theorem tyX1_ok : ∀ k, k < 0 → parseFieldDescriptor (TX1 k).2.2.1 = some (tyX1 k) := by decide +kernel
abbrev cX1_value : ByteArray := prog_3_method_2_code
def yX1_value : MethodName := ⟨RX1, "value", "(I)I"⟩
abbrev cX1_shown : ByteArray := prog_3_method_3_code
def yX1_shown : MethodName := ⟨RX1, "shown", "(I)I"⟩
abbrev cX1_wordOf : ByteArray := prog_3_method_4_code
def yX1_wordOf : MethodName := ⟨RX1, "wordOf", "(J)I"⟩
abbrev cX1_byteOf : ByteArray := prog_3_method_5_code
def yX1_byteOf : MethodName := ⟨RX1, "byteOf", "(II)I"⟩
abbrev cX1_isField : ByteArray := prog_3_method_6_code
def yX1_isField : MethodName := ⟨RX1, "isField", "(I)Z"⟩
abbrev cX1_maskOf : ByteArray := prog_3_method_7_code
def yX1_maskOf : MethodName := ⟨RX1, "maskOf", "(I)I"⟩
abbrev cX1_field : ByteArray := prog_3_method_8_code
def yX1_field : MethodName := ⟨RX1, "field", "(II)I"⟩
abbrev cX1_stored : ByteArray := prog_3_method_9_code
def yX1_stored : MethodName := ⟨RX1, "stored", "(III)I"⟩
abbrev cX1_code : ByteArray := prog_3_method_10_code
def yX1_code : MethodName := ⟨RX1, "code", "(I)I"⟩
abbrev cX1_written : ByteArray := prog_3_method_11_code
def yX1_written : MethodName := ⟨RX1, "written", "(I)I"⟩
abbrev cX1_rank : ByteArray := prog_3_method_12_code
def yX1_rank : MethodName := ⟨RX1, "rank", "(I)I"⟩
abbrev cX1_letterOf : ByteArray := prog_3_method_13_code
def yX1_letterOf : MethodName := ⟨RX1, "letterOf", "(I)I"⟩
abbrev cX1_opLetter : ByteArray := prog_3_method_14_code
def yX1_opLetter : MethodName := ⟨RX1, "opLetter", "(II)I"⟩
abbrev cX1_letterIn : ByteArray := prog_3_method_15_code
def yX1_letterIn : MethodName := ⟨RX1, "letterIn", "(Ljava/lang/String;II)I"⟩
abbrev cX1_opOf : ByteArray := prog_3_method_16_code
def yX1_opOf : MethodName := ⟨RX1, "opOf", "(II)I"⟩
abbrev cX1_cOf : ByteArray := prog_3_method_17_code
def yX1_cOf : MethodName := ⟨RX1, "cOf", "(I)I"⟩
abbrev cX1_fOf : ByteArray := prog_3_method_18_code
def yX1_fOf : MethodName := ⟨RX1, "fOf", "(I)I"⟩
def RX2 : String := "SixBitBoard$Machine"
def TX2 : u_T := fun k => match k with
  | 0 => ("SixBitBoard$Machine", "memory", "[I", true)
  | 1 => ("SixBitBoard$Machine", "registers", "[I", true)
  | 2 => ("SixBitBoard$Machine", "units", "LSixBitBoard$Units;", true)
  | 3 => ("SixBitBoard$Machine", "overflow", "Z", false)
  | 4 => ("SixBitBoard$Machine", "comparison", "I", false)
  | 5 => ("SixBitBoard$Machine", "counter", "I", false)
  | 6 => ("SixBitBoard$Machine", "time", "J", false)
  | 7 => ("SixBitBoard$Machine", "limit", "J", false)
  | 8 => ("SixBitBoard$Machine", "status", "I", false)
  | 9 => ("SixBitBoard$Machine", "watched", "Z", false)
  | 10 => ("SixBitBoard$Machine", "control", "Z", false)
  | 11 => ("SixBitBoard$Machine", "latest", "I", false)
  | 12 => ("SixBitBoard$Machine", "latestAt", "I", false)
  | 13 => ("SixBitBoard$Machine", "c", "I", false)
  | 14 => ("SixBitBoard$Machine", "f", "I", false)
  | _ => ("SixBitBoard$Machine", "m", "I", false)
def tyX2 : Nat → FieldType := fun k => match k with
  | 0 => .array .int
  | 1 => .array .int
  | 2 => .object "SixBitBoard$Units"
  | 3 => .boolean
  | 4 => .int
  | 5 => .int
  | 6 => .long
  | 7 => .long
  | 8 => .int
  | 9 => .boolean
  | 10 => .boolean
  | 11 => .int
  | 12 => .int
  | 13 => .int
  | 14 => .int
  | _ => .int
abbrev wsX20 : List Cond := u_ws RX2 TX2 16
theorem nmX2 : ∀ a, a < 16 → ∀ b, b < 16 → a ≠ b → (TX2 a).2.1 ≠ (TX2 b).2.1 := by decide +kernel
theorem tyX2_ok : ∀ k, k < 16 → parseFieldDescriptor (TX2 k).2.2.1 = some (tyX2 k) := by decide +kernel
abbrev cX2_init : ByteArray := prog_4_method_1_code
def yX2_init : MethodName := ⟨RX2, "<init>", "([ILSixBitBoard$Units;)V"⟩
abbrev cX2_clear : ByteArray := prog_4_method_2_code
def yX2_clear : MethodName := ⟨RX2, "clear", "()V"⟩
abbrev cX2_start : ByteArray := prog_4_method_3_code
def yX2_start : MethodName := ⟨RX2, "start", "(I)V"⟩
abbrev cX2_isAddress : ByteArray := prog_4_method_4_code
def yX2_isAddress : MethodName := ⟨RX2, "isAddress", "(I)Z"⟩
abbrev cX2_areAddresses : ByteArray := prog_4_method_5_code
def yX2_areAddresses : MethodName := ⟨RX2, "areAddresses", "(II)Z"⟩
abbrev cX2_load : ByteArray := prog_4_method_6_code
def yX2_load : MethodName := ⟨RX2, "load", "(I)I"⟩
abbrev cX2_save : ByteArray := prog_4_method_7_code
def yX2_save : MethodName := ⟨RX2, "save", "(II)V"⟩
abbrev cX2_advance : ByteArray := prog_4_method_8_code
def yX2_advance : MethodName := ⟨RX2, "advance", "()Z"⟩
abbrev cX2_less : ByteArray := prog_4_method_9_code
def yX2_less : MethodName := ⟨RX2, "less", "(IJ)I"⟩
abbrev cX2_stop : ByteArray := prog_4_method_10_code
def yX2_stop : MethodName := ⟨RX2, "stop", "(I)V"⟩
abbrev cX2_interrupt : ByteArray := prog_4_method_11_code
def yX2_interrupt : MethodName := ⟨RX2, "interrupt", "(I)V"⟩
abbrev cX2_returnToNormal : ByteArray := prog_4_method_12_code
def yX2_returnToNormal : MethodName := ⟨RX2, "returnToNormal", "()V"⟩
abbrev cX2_decode : ByteArray := prog_4_method_13_code
def yX2_decode : MethodName := ⟨RX2, "decode", "()Z"⟩
abbrev cX2_cost : ByteArray := prog_4_method_14_code
def yX2_cost : MethodName := ⟨RX2, "cost", "()I"⟩
abbrev cX2_faultAhead : ByteArray := prog_4_method_15_code
def yX2_faultAhead : MethodName := ⟨RX2, "faultAhead", "()I"⟩
abbrev cX2_faultOfField : ByteArray := prog_4_method_16_code
def yX2_faultOfField : MethodName := ⟨RX2, "faultOfField", "()I"⟩
abbrev cX2_faultOfUnit : ByteArray := prog_4_method_17_code
def yX2_faultOfUnit : MethodName := ⟨RX2, "faultOfUnit", "()I"⟩
abbrev cX2_isIndex : ByteArray := prog_4_method_18_code
def yX2_isIndex : MethodName := ⟨RX2, "isIndex", "(I)Z"⟩
abbrev cX2_entered : ByteArray := prog_4_method_19_code
def yX2_entered : MethodName := ⟨RX2, "entered", "()I"⟩
abbrev cX2_jumps : ByteArray := prog_4_method_20_code
def yX2_jumps : MethodName := ⟨RX2, "jumps", "()Z"⟩
abbrev cX2_holds : ByteArray := prog_4_method_21_code
def yX2_holds : MethodName := ⟨RX2, "holds", "(II)Z"⟩
abbrev cX2_perform : ByteArray := prog_4_method_22_code
def yX2_perform : MethodName := ⟨RX2, "perform", "(J)V"⟩
abbrev cX2_reckon : ByteArray := prog_4_method_23_code
def yX2_reckon : MethodName := ⟨RX2, "reckon", "(I)V"⟩
abbrev cX2_add : ByteArray := prog_4_method_24_code
def yX2_add : MethodName := ⟨RX2, "add", "(II)V"⟩
abbrev cX2_convert : ByteArray := prog_4_method_25_code
def yX2_convert : MethodName := ⟨RX2, "convert", "()V"⟩
abbrev cX2_spread : ByteArray := prog_4_method_26_code
def yX2_spread : MethodName := ⟨RX2, "spread", "(J)V"⟩
abbrev cX2_shift : ByteArray := prog_4_method_27_code
def yX2_shift : MethodName := ⟨RX2, "shift", "()V"⟩
abbrev cX2_move : ByteArray := prog_4_method_28_code
def yX2_move : MethodName := ⟨RX2, "move", "()V"⟩
abbrev cX2_enter : ByteArray := prog_4_method_29_code
def yX2_enter : MethodName := ⟨RX2, "enter", "(I)V"⟩
def RX3 : String := "SixBitBoard$Monitor"
def TX3 : u_T := fun k => match k with
  | 0 => ("SixBitBoard$Monitor", "deck", "LSixBitBoard$Text;", true)
  | 1 => ("SixBitBoard$Monitor", "name", "[B", true)
  | 2 => ("SixBitBoard$Monitor", "limit", "I", false)
  | 3 => ("SixBitBoard$Monitor", "options", "I", false)
  | 4 => ("SixBitBoard$Monitor", "kind", "I", false)
  | 5 => ("SixBitBoard$Monitor", "bodyFrom", "I", false)
  | 6 => ("SixBitBoard$Monitor", "bodyTo", "I", false)
  | 7 => ("SixBitBoard$Monitor", "dataFrom", "I", false)
  | 8 => ("SixBitBoard$Monitor", "dataTo", "I", false)
  | 9 => ("SixBitBoard$Monitor", "begins", "I", false)
  | 10 => ("SixBitBoard$Monitor", "place", "I", false)
  | 11 => ("SixBitBoard$Monitor", "entries", "[I", true)
  | 12 => ("SixBitBoard$Monitor", "count", "I", false)
  | 13 => ("SixBitBoard$Monitor", "image", "[I", false)
  | 14 => ("SixBitBoard$Monitor", "imageBegins", "I", false)
  | _ => ("SixBitBoard$Monitor", "hasImage", "Z", false)
def tyX3 : Nat → FieldType := fun k => match k with
  | 0 => .object "SixBitBoard$Text"
  | 1 => .array .byte
  | 2 => .int
  | 3 => .int
  | 4 => .int
  | 5 => .int
  | 6 => .int
  | 7 => .int
  | 8 => .int
  | 9 => .int
  | 10 => .int
  | 11 => .array .int
  | 12 => .int
  | 13 => .array .int
  | 14 => .int
  | _ => .boolean
abbrev wsX30 : List Cond := u_ws RX3 TX3 16
theorem nmX3 : ∀ a, a < 16 → ∀ b, b < 16 → a ≠ b → (TX3 a).2.1 ≠ (TX3 b).2.1 := by decide +kernel
theorem tyX3_ok : ∀ k, k < 16 → parseFieldDescriptor (TX3 k).2.2.1 = some (tyX3 k) := by decide +kernel
abbrev cX3_init : ByteArray := prog_5_method_1_code
def yX3_init : MethodName := ⟨RX3, "<init>", "(LSixBitBoard$Text;)V"⟩
abbrev cX3_openAccounts : ByteArray := prog_5_method_2_code
def yX3_openAccounts : MethodName := ⟨RX3, "openAccounts", "()V"⟩
abbrev cX3_wants : ByteArray := prog_5_method_3_code
def yX3_wants : MethodName := ⟨RX3, "wants", "(I)Z"⟩
abbrev cX3_seek : ByteArray := prog_5_method_4_code
def yX3_seek : MethodName := ⟨RX3, "seek", "()Z"⟩
abbrev cX3_openBody : ByteArray := prog_5_method_5_code
def yX3_openBody : MethodName := ⟨RX3, "openBody", "()I"⟩
abbrev cX3_openData : ByteArray := prog_5_method_6_code
def yX3_openData : MethodName := ⟨RX3, "openData", "()I"⟩
abbrev cX3_isCard : ByteArray := prog_5_method_7_code
def yX3_isCard : MethodName := ⟨RX3, "isCard", "(Ljava/lang/String;)Z"⟩
abbrev cX3_isJob : ByteArray := prog_5_method_8_code
def yX3_isJob : MethodName := ⟨RX3, "isJob", "()Z"⟩
abbrev cX3_optionsAt : ByteArray := prog_5_method_9_code
def yX3_optionsAt : MethodName := ⟨RX3, "optionsAt", "(I)I"⟩
abbrev cX3_wordOf : ByteArray := prog_5_method_10_code
def yX3_wordOf : MethodName := ⟨RX3, "wordOf", "(I)Ljava/lang/String;"⟩
abbrev cX3_load : ByteArray := prog_5_method_11_code
def yX3_load : MethodName := ⟨RX3, "load", "(LSixBitBoard$Text;[I)I"⟩
abbrev cX3_wordOn : ByteArray := prog_5_method_12_code
def yX3_wordOn : MethodName := ⟨RX3, "wordOn", "(LSixBitBoard$Text;I)I"⟩
abbrev cX3_keep : ByteArray := prog_5_method_13_code
def yX3_keep : MethodName := ⟨RX3, "keep", "([I)V"⟩
abbrev cX3_again : ByteArray := prog_5_method_14_code
def yX3_again : MethodName := ⟨RX3, "again", "([I)I"⟩
abbrev cX3_enter : ByteArray := prog_5_method_15_code
def yX3_enter : MethodName := ⟨RX3, "enter", "(III)V"⟩
abbrev cX3_entry : ByteArray := prog_5_method_16_code
def yX3_entry : MethodName := ⟨RX3, "entry", "(II)I"⟩
def RX4 : String := "SixBitBoard$Paper"
def TX4 : u_T := fun k => match k with
  | 0 => ("SixBitBoard$Paper", "rows", "[[B", true)
  | 1 => ("SixBitBoard$Paper", "lengths", "[I", true)
  | 2 => ("SixBitBoard$Paper", "row", "[B", true)
  | _ => ("SixBitBoard$Paper", "written", "I", false)
def tyX4 : Nat → FieldType := fun k => match k with
  | 0 => .array (.array .byte)
  | 1 => .array .int
  | 2 => .array .byte
  | _ => .int
abbrev wsX40 : List Cond := u_ws RX4 TX4 4
theorem nmX4 : ∀ a, a < 4 → ∀ b, b < 4 → a ≠ b → (TX4 a).2.1 ≠ (TX4 b).2.1 := by decide +kernel
theorem tyX4_ok : ∀ k, k < 4 → parseFieldDescriptor (TX4 k).2.2.1 = some (tyX4 k) := by decide +kernel
abbrev cX4_init : ByteArray := prog_6_method_1_code
def yX4_init : MethodName := ⟨RX4, "<init>", "()V"⟩
abbrev cX4_mark : ByteArray := prog_6_method_2_code
def yX4_mark : MethodName := ⟨RX4, "mark", "(II)V"⟩
abbrev cX4_text : ByteArray := prog_6_method_3_code
def yX4_text : MethodName := ⟨RX4, "text", "(ILjava/lang/String;)V"⟩
abbrev cX4_copy : ByteArray := prog_6_method_4_code
def yX4_copy : MethodName := ⟨RX4, "copy", "(I[B)V"⟩
abbrev cX4_digits : ByteArray := prog_6_method_5_code
def yX4_digits : MethodName := ⟨RX4, "digits", "(IIJ)V"⟩
abbrev cX4_signed : ByteArray := prog_6_method_6_code
def yX4_signed : MethodName := ⟨RX4, "signed", "(III)V"⟩
abbrev cX4_operation : ByteArray := prog_6_method_7_code
def yX4_operation : MethodName := ⟨RX4, "operation", "(II)V"⟩
abbrev cX4_name : ByteArray := prog_6_method_8_code
def yX4_name : MethodName := ⟨RX4, "name", "(IJ)V"⟩
abbrev cX4_finish : ByteArray := prog_6_method_9_code
def yX4_finish : MethodName := ⟨RX4, "finish", "(IZ)V"⟩
abbrev cX4_letterAt : ByteArray := prog_6_method_10_code
def yX4_letterAt : MethodName := ⟨RX4, "letterAt", "(II)I"⟩
def RX5 : String := "SixBitBoard$Parser"
def TX5 : u_T := fun k => match k with
  | 0 => ("SixBitBoard$Parser", "row", "[B", true)
  | 1 => ("SixBitBoard$Parser", "symbols", "LSixBitBoard$Symbols;", true)
  | 2 => ("SixBitBoard$Parser", "at", "I", false)
  | 3 => ("SixBitBoard$Parser", "stop", "I", false)
  | 4 => ("SixBitBoard$Parser", "wrong", "I", false)
  | 5 => ("SixBitBoard$Parser", "place", "I", false)
  | 6 => ("SixBitBoard$Parser", "line", "I", false)
  | 7 => ("SixBitBoard$Parser", "name", "J", false)
  | 8 => ("SixBitBoard$Parser", "digit", "I", false)
  | _ => ("SixBitBoard$Parser", "number", "J", false)
def tyX5 : Nat → FieldType := fun k => match k with
  | 0 => .array .byte
  | 1 => .object "SixBitBoard$Symbols"
  | 2 => .int
  | 3 => .int
  | 4 => .int
  | 5 => .int
  | 6 => .int
  | 7 => .long
  | 8 => .int
  | _ => .long
abbrev wsX50 : List Cond := u_ws RX5 TX5 10
theorem nmX5 : ∀ a, a < 10 → ∀ b, b < 10 → a ≠ b → (TX5 a).2.1 ≠ (TX5 b).2.1 := by decide +kernel
theorem tyX5_ok : ∀ k, k < 10 → parseFieldDescriptor (TX5 k).2.2.1 = some (tyX5 k) := by decide +kernel
abbrev cX5_init : ByteArray := prog_7_method_1_code
def yX5_init : MethodName := ⟨RX5, "<init>", "([BLSixBitBoard$Symbols;)V"⟩
abbrev cX5_open : ByteArray := prog_7_method_2_code
def yX5_open : MethodName := ⟨RX5, "open", "(II)V"⟩
abbrev cX5_letterHere : ByteArray := prog_7_method_3_code
def yX5_letterHere : MethodName := ⟨RX5, "letterHere", "()I"⟩
abbrev cX5_isAtEnd : ByteArray := prog_7_method_4_code
def yX5_isAtEnd : MethodName := ⟨RX5, "isAtEnd", "()Z"⟩
abbrev cX5_pass : ByteArray := prog_7_method_5_code
def yX5_pass : MethodName := ⟨RX5, "pass", "(I)Z"⟩
abbrev cX5_fail : ByteArray := prog_7_method_6_code
def yX5_fail : MethodName := ⟨RX5, "fail", "(I)V"⟩
abbrev cX5_sizeOf : ByteArray := prog_7_method_7_code
def yX5_sizeOf : MethodName := ⟨RX5, "sizeOf", "(II)I"⟩
abbrev cX5_labelKind : ByteArray := prog_7_method_8_code
def yX5_labelKind : MethodName := ⟨RX5, "labelKind", "(I)I"⟩
abbrev cX5_token : ByteArray := prog_7_method_9_code
def yX5_token : MethodName := ⟨RX5, "token", "()I"⟩
abbrev cX5_future : ByteArray := prog_7_method_10_code
def yX5_future : MethodName := ⟨RX5, "future", "()I"⟩
abbrev cX5_operatorSize : ByteArray := prog_7_method_11_code
def yX5_operatorSize : MethodName := ⟨RX5, "operatorSize", "()I"⟩
abbrev cX5_atom : ByteArray := prog_7_method_12_code
def yX5_atom : MethodName := ⟨RX5, "atom", "()I"⟩
abbrev cX5_expression : ByteArray := prog_7_method_13_code
def yX5_expression : MethodName := ⟨RX5, "expression", "()I"⟩
abbrev cX5_combine : ByteArray := prog_7_method_14_code
def yX5_combine : MethodName := ⟨RX5, "combine", "(JIJ)I"⟩
abbrev cX5_wValue : ByteArray := prog_7_method_15_code
def yX5_wValue : MethodName := ⟨RX5, "wValue", "()I"⟩
abbrev cX5_bounded : ByteArray := prog_7_method_16_code
def yX5_bounded : MethodName := ⟨RX5, "bounded", "(I)I"⟩
abbrev cX5_address : ByteArray := prog_7_method_17_code
def yX5_address : MethodName := ⟨RX5, "address", "()I"⟩
abbrev cX5_need : ByteArray := prog_7_method_18_code
def yX5_need : MethodName := ⟨RX5, "need", "(I)V"⟩
abbrev cX5_finish : ByteArray := prog_7_method_19_code
def yX5_finish : MethodName := ⟨RX5, "finish", "()V"⟩
def RX6 : String := "SixBitBoard$Reader"
def TX6 : u_T := fun k => match k with
  | 0 => ("SixBitBoard$Reader", "pool", "[B", false)
  | 1 => ("SixBitBoard$Reader", "head", "I", false)
  | 2 => ("SixBitBoard$Reader", "tail", "I", false)
  | _ => ("SixBitBoard$Reader", "left", "I", false)
def tyX6 : Nat → FieldType := fun k => match k with
  | 0 => .array .byte
  | 1 => .int
  | 2 => .int
  | _ => .int
abbrev wsX60 : List Cond := u_ws RX6 TX6 4
theorem nmX6 : ∀ a, a < 4 → ∀ b, b < 4 → a ≠ b → (TX6 a).2.1 ≠ (TX6 b).2.1 := by decide +kernel
theorem tyX6_ok : ∀ k, k < 4 → parseFieldDescriptor (TX6 k).2.2.1 = some (tyX6 k) := by decide +kernel
abbrev cX6_init : ByteArray := prog_8_method_1_code
def yX6_init : MethodName := ⟨RX6, "<init>", "()V"⟩
abbrev cX6_empty : ByteArray := prog_8_method_2_code
def yX6_empty : MethodName := ⟨RX6, "empty", "()V"⟩
abbrev cX6_add : ByteArray := prog_8_method_3_code
def yX6_add : MethodName := ⟨RX6, "add", "(LSixBitBoard$Text;)V"⟩
abbrev cX6_hasCard : ByteArray := prog_8_method_4_code
def yX6_hasCard : MethodName := ⟨RX6, "hasCard", "(Z)Z"⟩
abbrev cX6_take : ByteArray := prog_8_method_5_code
def yX6_take : MethodName := ⟨RX6, "take", "([II)V"⟩
def RX7 : String := "SixBitBoard$Report"
def TX7 : u_T := fun k => match k with
  | 0 => ("SixBitBoard$Report", "machine", "LSixBitBoard$Machine;", true)
  | 1 => ("SixBitBoard$Report", "assembler", "LSixBitBoard$Assembler;", true)
  | 2 => ("SixBitBoard$Report", "printer", "LSixBitBoard$Paper;", true)
  | _ => ("SixBitBoard$Report", "punch", "LSixBitBoard$Paper;", true)
def tyX7 : Nat → FieldType := fun k => match k with
  | 0 => .object "SixBitBoard$Machine"
  | 1 => .object "SixBitBoard$Assembler"
  | 2 => .object "SixBitBoard$Paper"
  | _ => .object "SixBitBoard$Paper"
abbrev wsX70 : List Cond := u_ws RX7 TX7 4
theorem nmX7 : ∀ a, a < 4 → ∀ b, b < 4 → a ≠ b → (TX7 a).2.1 ≠ (TX7 b).2.1 := by decide +kernel
theorem tyX7_ok : ∀ k, k < 4 → parseFieldDescriptor (TX7 k).2.2.1 = some (tyX7 k) := by decide +kernel
abbrev cX7_init : ByteArray := prog_9_method_1_code
def yX7_init : MethodName := ⟨RX7, "<init>", "(LSixBitBoard$Machine;LSixBitBoard$Assembler;LSixBitBoard$Units;)V"⟩
abbrev cX7_wordAt : ByteArray := prog_9_method_2_code
def yX7_wordAt : MethodName := ⟨RX7, "wordAt", "(I)I"⟩
abbrev cX7_punchCards : ByteArray := prog_9_method_3_code
def yX7_punchCards : MethodName := ⟨RX7, "punchCards", "()I"⟩
abbrev cX7_punchWord : ByteArray := prog_9_method_4_code
def yX7_punchWord : MethodName := ⟨RX7, "punchWord", "(II)V"⟩
abbrev cX7_printWords : ByteArray := prog_9_method_5_code
def yX7_printWords : MethodName := ⟨RX7, "printWords", "(IZ)I"⟩
abbrev cX7_printInstruction : ByteArray := prog_9_method_6_code
def yX7_printInstruction : MethodName := ⟨RX7, "printInstruction", "(II)V"⟩
abbrev cX7_printLines : ByteArray := prog_9_method_7_code
def yX7_printLines : MethodName := ⟨RX7, "printLines", "()I"⟩
abbrev cX7_printSymbols : ByteArray := prog_9_method_8_code
def yX7_printSymbols : MethodName := ⟨RX7, "printSymbols", "(II)I"⟩
abbrev cX7_printWrongs : ByteArray := prog_9_method_9_code
def yX7_printWrongs : MethodName := ⟨RX7, "printWrongs", "(IZ)I"⟩
abbrev cX7_printTrace : ByteArray := prog_9_method_10_code
def yX7_printTrace : MethodName := ⟨RX7, "printTrace", "()V"⟩
abbrev cX7_printJob : ByteArray := prog_9_method_11_code
def yX7_printJob : MethodName := ⟨RX7, "printJob", "(LSixBitBoard$Monitor;)V"⟩
abbrev cX7_endOf : ByteArray := prog_9_method_12_code
def yX7_endOf : MethodName := ⟨RX7, "endOf", "(I)Ljava/lang/String;"⟩
abbrev cX7_printDump : ByteArray := prog_9_method_13_code
def yX7_printDump : MethodName := ⟨RX7, "printDump", "()V"⟩
abbrev cX7_printSummary : ByteArray := prog_9_method_14_code
def yX7_printSummary : MethodName := ⟨RX7, "printSummary", "(LSixBitBoard$Monitor;)I"⟩
def RX8 : String := "SixBitBoard$Symbols"
def TX8 : u_T := fun k => match k with
  | 0 => ("SixBitBoard$Symbols", "names", "[J", true)
  | 1 => ("SixBitBoard$Symbols", "values", "[I", true)
  | 2 => ("SixBitBoard$Symbols", "standings", "[I", true)
  | 3 => ("SixBitBoard$Symbols", "count", "I", false)
  | 4 => ("SixBitBoard$Symbols", "readOf", "[I", true)
  | 5 => ("SixBitBoard$Symbols", "readIn", "[I", true)
  | 6 => ("SixBitBoard$Symbols", "reads", "I", false)
  | 7 => ("SixBitBoard$Symbols", "local", "[I", true)
  | 8 => ("SixBitBoard$Symbols", "hasLocal", "[Z", true)
  | 9 => ("SixBitBoard$Symbols", "useAt", "[I", true)
  | 10 => ("SixBitBoard$Symbols", "useOf", "[I", true)
  | 11 => ("SixBitBoard$Symbols", "useWord", "[I", true)
  | _ => ("SixBitBoard$Symbols", "uses", "I", false)
def tyX8 : Nat → FieldType := fun k => match k with
  | 0 => .array .long
  | 1 => .array .int
  | 2 => .array .int
  | 3 => .int
  | 4 => .array .int
  | 5 => .array .int
  | 6 => .int
  | 7 => .array .int
  | 8 => .array .boolean
  | 9 => .array .int
  | 10 => .array .int
  | 11 => .array .int
  | _ => .int
abbrev wsX80 : List Cond := u_ws RX8 TX8 13
theorem nmX8 : ∀ a, a < 13 → ∀ b, b < 13 → a ≠ b → (TX8 a).2.1 ≠ (TX8 b).2.1 := by decide +kernel
theorem tyX8_ok : ∀ k, k < 13 → parseFieldDescriptor (TX8 k).2.2.1 = some (tyX8 k) := by decide +kernel
abbrev cX8_init : ByteArray := prog_10_method_1_code
def yX8_init : MethodName := ⟨RX8, "<init>", "()V"⟩
abbrev cX8_clear : ByteArray := prog_10_method_2_code
def yX8_clear : MethodName := ⟨RX8, "clear", "()V"⟩
abbrev cX8_find : ByteArray := prog_10_method_3_code
def yX8_find : MethodName := ⟨RX8, "find", "(J)I"⟩
abbrev cX8_standing : ByteArray := prog_10_method_4_code
def yX8_standing : MethodName := ⟨RX8, "standing", "(I)I"⟩
abbrev cX8_stand : ByteArray := prog_10_method_5_code
def yX8_stand : MethodName := ⟨RX8, "stand", "(III)V"⟩
abbrev cX8_enter : ByteArray := prog_10_method_6_code
def yX8_enter : MethodName := ⟨RX8, "enter", "(J)I"⟩
abbrev cX8_enterLocal : ByteArray := prog_10_method_7_code
def yX8_enterLocal : MethodName := ⟨RX8, "enterLocal", "(II)V"⟩
abbrev cX8_addUse : ByteArray := prog_10_method_8_code
def yX8_addUse : MethodName := ⟨RX8, "addUse", "(III)V"⟩
abbrev cX8_noteRead : ByteArray := prog_10_method_9_code
def yX8_noteRead : MethodName := ⟨RX8, "noteRead", "(II)V"⟩
abbrev cX8_nextRead : ByteArray := prog_10_method_10_code
def yX8_nextRead : MethodName := ⟨RX8, "nextRead", "(II)I"⟩
abbrev cX8_lineOfRead : ByteArray := prog_10_method_11_code
def yX8_lineOfRead : MethodName := ⟨RX8, "lineOfRead", "(I)I"⟩
abbrev cX8_nextInOrder : ByteArray := prog_10_method_12_code
def yX8_nextInOrder : MethodName := ⟨RX8, "nextInOrder", "(J)I"⟩
def RX9 : String := "SixBitBoard$Text"
def TX9 : u_T := fun k => match k with
  | 0 => ("SixBitBoard$Text", "bytes", "[B", true)
  | 1 => ("SixBitBoard$Text", "row", "[B", true)
  | 2 => ("SixBitBoard$Text", "from", "I", false)
  | 3 => ("SixBitBoard$Text", "length", "I", false)
  | 4 => ("SixBitBoard$Text", "next", "I", false)
  | 5 => ("SixBitBoard$Text", "line", "I", false)
  | 6 => ("SixBitBoard$Text", "first", "I", false)
  | _ => ("SixBitBoard$Text", "limit", "I", false)
def tyX9 : Nat → FieldType := fun k => match k with
  | 0 => .array .byte
  | 1 => .array .byte
  | 2 => .int
  | 3 => .int
  | 4 => .int
  | 5 => .int
  | 6 => .int
  | _ => .int
abbrev wsX90 : List Cond := u_ws RX9 TX9 8
theorem nmX9 : ∀ a, a < 8 → ∀ b, b < 8 → a ≠ b → (TX9 a).2.1 ≠ (TX9 b).2.1 := by decide +kernel
theorem tyX9_ok : ∀ k, k < 8 → parseFieldDescriptor (TX9 k).2.2.1 = some (tyX9 k) := by decide +kernel
abbrev cX9_init : ByteArray := prog_11_method_1_code
def yX9_init : MethodName := ⟨RX9, "<init>", "([B)V"⟩
abbrev cX9_open : ByteArray := prog_11_method_2_code
def yX9_open : MethodName := ⟨RX9, "open", "(II)V"⟩
abbrev cX9_reopen : ByteArray := prog_11_method_3_code
def yX9_reopen : MethodName := ⟨RX9, "reopen", "()V"⟩
abbrev cX9_advance : ByteArray := prog_11_method_4_code
def yX9_advance : MethodName := ⟨RX9, "advance", "()Z"⟩
abbrev cX9_isAt : ByteArray := prog_11_method_5_code
def yX9_isAt : MethodName := ⟨RX9, "isAt", "(ILjava/lang/String;)Z"⟩
abbrev cX9_isBlankAt : ByteArray := prog_11_method_6_code
def yX9_isBlankAt : MethodName := ⟨RX9, "isBlankAt", "(I)Z"⟩
abbrev cX9_isDigitAt : ByteArray := prog_11_method_7_code
def yX9_isDigitAt : MethodName := ⟨RX9, "isDigitAt", "(I)Z"⟩
abbrev cX9_digits : ByteArray := prog_11_method_8_code
def yX9_digits : MethodName := ⟨RX9, "digits", "(II)J"⟩
def RX10 : String := "SixBitBoard$Units"
def TX10 : u_T := fun k => match k with
  | 0 => ("SixBitBoard$Units", "memory", "[I", true)
  | 1 => ("SixBitBoard$Units", "media", "[[I", true)
  | 2 => ("SixBitBoard$Units", "stands", "[I", true)
  | 3 => ("SixBitBoard$Units", "freeAt", "[J", true)
  | 4 => ("SixBitBoard$Units", "began", "[J", true)
  | 5 => ("SixBitBoard$Units", "coming", "[Z", true)
  | 6 => ("SixBitBoard$Units", "target", "[I", true)
  | 7 => ("SixBitBoard$Units", "words", "[I", true)
  | 8 => ("SixBitBoard$Units", "under", "I", false)
  | 9 => ("SixBitBoard$Units", "reader", "LSixBitBoard$Reader;", true)
  | 10 => ("SixBitBoard$Units", "punch", "LSixBitBoard$Paper;", true)
  | 11 => ("SixBitBoard$Units", "printer", "LSixBitBoard$Paper;", true)
  | _ => ("SixBitBoard$Units", "typewriter", "LSixBitBoard$Paper;", true)
def tyX10 : Nat → FieldType := fun k => match k with
  | 0 => .array .int
  | 1 => .array (.array .int)
  | 2 => .array .int
  | 3 => .array .long
  | 4 => .array .long
  | 5 => .array .boolean
  | 6 => .array .int
  | 7 => .array .int
  | 8 => .int
  | 9 => .object "SixBitBoard$Reader"
  | 10 => .object "SixBitBoard$Paper"
  | 11 => .object "SixBitBoard$Paper"
  | _ => .object "SixBitBoard$Paper"
abbrev wsX100 : List Cond := u_ws RX10 TX10 13
theorem nmX10 : ∀ a, a < 13 → ∀ b, b < 13 → a ≠ b → (TX10 a).2.1 ≠ (TX10 b).2.1 := by decide +kernel
theorem tyX10_ok : ∀ k, k < 13 → parseFieldDescriptor (TX10 k).2.2.1 = some (tyX10 k) := by decide +kernel
abbrev cX10_init : ByteArray := prog_12_method_1_code
def yX10_init : MethodName := ⟨RX10, "<init>", "([I)V"⟩
abbrev cX10_paper : ByteArray := prog_12_method_2_code
def yX10_paper : MethodName := ⟨RX10, "paper", "(I)LSixBitBoard$Paper;"⟩
abbrev cX10_free : ByteArray := prog_12_method_3_code
def yX10_free : MethodName := ⟨RX10, "free", "()V"⟩
abbrev cX10_rewind : ByteArray := prog_12_method_4_code
def yX10_rewind : MethodName := ⟨RX10, "rewind", "()V"⟩
abbrev cX10_wordsOf : ByteArray := prog_12_method_5_code
def yX10_wordsOf : MethodName := ⟨RX10, "wordsOf", "(I)I"⟩
abbrev cX10_busyFor : ByteArray := prog_12_method_6_code
def yX10_busyFor : MethodName := ⟨RX10, "busyFor", "(I)I"⟩
abbrev cX10_isBusy : ByteArray := prog_12_method_7_code
def yX10_isBusy : MethodName := ⟨RX10, "isBusy", "(IJ)Z"⟩
abbrev cX10_waiting : ByteArray := prog_12_method_8_code
def yX10_waiting : MethodName := ⟨RX10, "waiting", "(IJ)J"⟩
abbrev cX10_stored : ByteArray := prog_12_method_9_code
def yX10_stored : MethodName := ⟨RX10, "stored", "(II)I"⟩
abbrev cX10_store : ByteArray := prog_12_method_10_code
def yX10_store : MethodName := ⟨RX10, "store", "(III)V"⟩
abbrev cX10_faultOf : ByteArray := prog_12_method_11_code
def yX10_faultOf : MethodName := ⟨RX10, "faultOf", "(IIIIZ)I"⟩
abbrev cX10_begin : ByteArray := prog_12_method_12_code
def yX10_begin : MethodName := ⟨RX10, "begin", "(IIIIJ)V"⟩
abbrev cX10_turn : ByteArray := prog_12_method_13_code
def yX10_turn : MethodName := ⟨RX10, "turn", "(II)V"⟩
abbrev cX10_blockAt : ByteArray := prog_12_method_14_code
def yX10_blockAt : MethodName := ⟨RX10, "blockAt", "(II)I"⟩
abbrev cX10_read : ByteArray := prog_12_method_15_code
def yX10_read : MethodName := ⟨RX10, "read", "(III)V"⟩
abbrev cX10_writeBlock : ByteArray := prog_12_method_16_code
def yX10_writeBlock : MethodName := ⟨RX10, "writeBlock", "(III)V"⟩
abbrev cX10_writeLine : ByteArray := prog_12_method_17_code
def yX10_writeLine : MethodName := ⟨RX10, "writeLine", "(LSixBitBoard$Paper;II)V"⟩
abbrev cX10_wordAt : ByteArray := prog_12_method_18_code
def yX10_wordAt : MethodName := ⟨RX10, "wordAt", "(I)I"⟩
abbrev cX10_settle : ByteArray := prog_12_method_19_code
def yX10_settle : MethodName := ⟨RX10, "settle", "(J)V"⟩
abbrev cX10_firstDone : ByteArray := prog_12_method_20_code
def yX10_firstDone : MethodName := ⟨RX10, "firstDone", "(J)I"⟩
abbrev cX10_isAhead : ByteArray := prog_12_method_21_code
def yX10_isAhead : MethodName := ⟨RX10, "isAhead", "(II)Z"⟩
def RX11 : String := "SixBitBoard"
def TX11 : u_T := fun k => match k with
  | 0 => ("SixBitBoard", "tape", "[B", true)
  | 1 => ("SixBitBoard", "fed", "I", false)
  | 2 => ("SixBitBoard", "text", "LSixBitBoard$Text;", true)
  | 3 => ("SixBitBoard", "units", "LSixBitBoard$Units;", true)
  | 4 => ("SixBitBoard", "machine", "LSixBitBoard$Machine;", true)
  | 5 => ("SixBitBoard", "assembler", "LSixBitBoard$Assembler;", true)
  | 6 => ("SixBitBoard", "report", "LSixBitBoard$Report;", true)
  | _ => ("SixBitBoard", "monitor", "LSixBitBoard$Monitor;", true)
def tyX11 : Nat → FieldType := fun k => match k with
  | 0 => .array .byte
  | 1 => .int
  | 2 => .object "SixBitBoard$Text"
  | 3 => .object "SixBitBoard$Units"
  | 4 => .object "SixBitBoard$Machine"
  | 5 => .object "SixBitBoard$Assembler"
  | 6 => .object "SixBitBoard$Report"
  | _ => .object "SixBitBoard$Monitor"
abbrev wsX110 : List Cond := u_ws RX11 TX11 8
theorem nmX11 : ∀ a, a < 8 → ∀ b, b < 8 → a ≠ b → (TX11 a).2.1 ≠ (TX11 b).2.1 := by decide +kernel
theorem tyX11_ok : ∀ k, k < 8 → parseFieldDescriptor (TX11 k).2.2.1 = some (tyX11 k) := by decide +kernel
abbrev cX11_init : ByteArray := prog_1_method_1_code
def yX11_init : MethodName := ⟨RX11, "<init>", "()V"⟩
abbrev cX11_feed : ByteArray := prog_1_method_2_code
def yX11_feed : MethodName := ⟨RX11, "feed", "(IIIII)Z"⟩
abbrev cX11_end : ByteArray := prog_1_method_3_code
def yX11_end : MethodName := ⟨RX11, "end", "(I)Z"⟩
abbrev cX11_assemble : ByteArray := prog_1_method_4_code
def yX11_assemble : MethodName := ⟨RX11, "assemble", "()I"⟩
abbrev cX11_errors : ByteArray := prog_1_method_5_code
def yX11_errors : MethodName := ⟨RX11, "errors", "()I"⟩
abbrev cX11_error : ByteArray := prog_1_method_6_code
def yX11_error : MethodName := ⟨RX11, "error", "()I"⟩
abbrev cX11_cards : ByteArray := prog_1_method_7_code
def yX11_cards : MethodName := ⟨RX11, "cards", "()I"⟩
abbrev cX11_run : ByteArray := prog_1_method_8_code
def yX11_run : MethodName := ⟨RX11, "run", "(I)I"⟩
abbrev cX11_go : ByteArray := prog_1_method_9_code
def yX11_go : MethodName := ⟨RX11, "go", "()Z"⟩
abbrev cX11_deck : ByteArray := prog_1_method_10_code
def yX11_deck : MethodName := ⟨RX11, "deck", "()I"⟩
abbrev cX11_list : ByteArray := prog_1_method_11_code
def yX11_list : MethodName := ⟨RX11, "list", "()I"⟩
abbrev cX11_listing : ByteArray := prog_1_method_12_code
def yX11_listing : MethodName := ⟨RX11, "listing", "()I"⟩
abbrev cX11_names : ByteArray := prog_1_method_13_code
def yX11_names : MethodName := ⟨RX11, "names", "()I"⟩
abbrev cX11_trace : ByteArray := prog_1_method_14_code
def yX11_trace : MethodName := ⟨RX11, "trace", "(I)I"⟩
abbrev cX11_mount : ByteArray := prog_1_method_15_code
def yX11_mount : MethodName := ⟨RX11, "mount", "(II)I"⟩
abbrev cX11_jobs : ByteArray := prog_1_method_16_code
def yX11_jobs : MethodName := ⟨RX11, "jobs", "()I"⟩
abbrev cX11_account : ByteArray := prog_1_method_17_code
def yX11_account : MethodName := ⟨RX11, "account", "(II)I"⟩
abbrev cX11_summary : ByteArray := prog_1_method_18_code
def yX11_summary : MethodName := ⟨RX11, "summary", "()I"⟩
abbrev cX11_state : ByteArray := prog_1_method_19_code
def yX11_state : MethodName := ⟨RX11, "state", "()I"⟩
abbrev cX11_register : ByteArray := prog_1_method_20_code
def yX11_register : MethodName := ⟨RX11, "register", "(I)I"⟩
abbrev cX11_word : ByteArray := prog_1_method_21_code
def yX11_word : MethodName := ⟨RX11, "word", "(I)I"⟩
abbrev cX11_time : ByteArray := prog_1_method_22_code
def yX11_time : MethodName := ⟨RX11, "time", "()J"⟩
abbrev cX11_symbol : ByteArray := prog_1_method_23_code
def yX11_symbol : MethodName := ⟨RX11, "symbol", "()I"⟩
abbrev cX11_unit : ByteArray := prog_1_method_24_code
def yX11_unit : MethodName := ⟨RX11, "unit", "(I)I"⟩
abbrev cX11_letter : ByteArray := prog_1_method_25_code
def yX11_letter : MethodName := ⟨RX11, "letter", "(III)I"⟩
abbrev cX11_block : ByteArray := prog_1_method_26_code
def yX11_block : MethodName := ⟨RX11, "block", "(III)I"⟩
abbrev cX11_tear : ByteArray := prog_1_method_27_code
def yX11_tear : MethodName := ⟨RX11, "tear", "()V"⟩
abbrev cX11_punchTape : ByteArray := prog_1_method_28_code
def yX11_punchTape : MethodName := ⟨RX11, "punchTape", "(I)V"⟩
abbrev cX11_useUpTape : ByteArray := prog_1_method_29_code
def yX11_useUpTape : MethodName := ⟨RX11, "useUpTape", "()I"⟩
abbrev cX11_tapeWord : ByteArray := prog_1_method_30_code
def yX11_tapeWord : MethodName := ⟨RX11, "tapeWord", "(II)I"⟩
abbrev cX11_tapeName : ByteArray := prog_1_method_31_code
def yX11_tapeName : MethodName := ⟨RX11, "tapeName", "(I)J"⟩
abbrev cX11_advance : ByteArray := prog_1_method_32_code
def yX11_advance : MethodName := ⟨RX11, "advance", "(IZ)I"⟩
abbrev cX11_layJob : ByteArray := prog_1_method_33_code
def yX11_layJob : MethodName := ⟨RX11, "layJob", "()I"⟩
abbrev cX11_layData : ByteArray := prog_1_method_34_code
def yX11_layData : MethodName := ⟨RX11, "layData", "()V"⟩
abbrev cX11_printSource : ByteArray := prog_1_method_35_code
def yX11_printSource : MethodName := ⟨RX11, "printSource", "()V"⟩
abbrev cX11_runJob : ByteArray := prog_1_method_36_code
def yX11_runJob : MethodName := ⟨RX11, "runJob", "()I"⟩
abbrev cX11_closeJob : ByteArray := prog_1_method_37_code
def yX11_closeJob : MethodName := ⟨RX11, "closeJob", "(I)V"⟩
def RX12 : String := "SixBitBoardModel"
def TX12 : u_T := fun k => match k with
  | 0 => ("SixBitBoardModel", "thrown", "I", false)
  | 1 => ("SixBitBoardModel", "tape", "[B", true)
  | 2 => ("SixBitBoardModel", "tapeSize", "I", false)
  | 3 => ("SixBitBoardModel", "memory", "[I", true)
  | 4 => ("SixBitBoardModel", "registers", "[I", true)
  | 5 => ("SixBitBoardModel", "overflow", "Z", false)
  | 6 => ("SixBitBoardModel", "comparison", "I", false)
  | 7 => ("SixBitBoardModel", "counter", "I", false)
  | 8 => ("SixBitBoardModel", "time", "J", false)
  | 9 => ("SixBitBoardModel", "state", "I", false)
  | 10 => ("SixBitBoardModel", "inControl", "Z", false)
  | 11 => ("SixBitBoardModel", "watched", "Z", false)
  | 12 => ("SixBitBoardModel", "inJob", "Z", false)
  | 13 => ("SixBitBoardModel", "limit", "J", false)
  | 14 => ("SixBitBoardModel", "overLimit", "Z", false)
  | 15 => ("SixBitBoardModel", "word", "I", false)
  | 16 => ("SixBitBoardModel", "code", "I", false)
  | 17 => ("SixBitBoardModel", "part", "I", false)
  | 18 => ("SixBitBoardModel", "place", "I", false)
  | 19 => ("SixBitBoardModel", "busy", "[J", true)
  | 20 => ("SixBitBoardModel", "coming", "[Z", true)
  | 21 => ("SixBitBoardModel", "began", "[J", true)
  | 22 => ("SixBitBoardModel", "comesTo", "[I", true)
  | 23 => ("SixBitBoardModel", "comes", "[I", true)
  | 24 => ("SixBitBoardModel", "stands", "[I", true)
  | 25 => ("SixBitBoardModel", "blocks", "[I", true)
  | 26 => ("SixBitBoardModel", "written", "[B", true)
  | 27 => ("SixBitBoardModel", "lengths", "[I", true)
  | 28 => ("SixBitBoardModel", "lineCounts", "[I", true)
  | 29 => ("SixBitBoardModel", "row", "[B", true)
  | 30 => ("SixBitBoardModel", "rowSize", "I", false)
  | 31 => ("SixBitBoardModel", "cut", "Z", false)
  | 32 => ("SixBitBoardModel", "cardText", "[B", true)
  | 33 => ("SixBitBoardModel", "cardFrom", "[I", true)
  | 34 => ("SixBitBoardModel", "cardTo", "[I", true)
  | 35 => ("SixBitBoardModel", "cardFirst", "I", false)
  | 36 => ("SixBitBoardModel", "cardCount", "I", false)
  | 37 => ("SixBitBoardModel", "text", "[B", true)
  | 38 => ("SixBitBoardModel", "textSize", "I", false)
  | 39 => ("SixBitBoardModel", "lineFrom", "[I", true)
  | 40 => ("SixBitBoardModel", "lineTo", "[I", true)
  | 41 => ("SixBitBoardModel", "lines", "I", false)
  | 42 => ("SixBitBoardModel", "assembled", "Z", false)
  | 43 => ("SixBitBoardModel", "error", "I", false)
  | 44 => ("SixBitBoardModel", "errorLine", "I", false)
  | 45 => ("SixBitBoardModel", "start", "I", false)
  | 46 => ("SixBitBoardModel", "inDeck", "Z", false)
  | 47 => ("SixBitBoardModel", "location", "I", false)
  | 48 => ("SixBitBoardModel", "put", "I", false)
  | 49 => ("SixBitBoardModel", "isPut", "[Z", true)
  | 50 => ("SixBitBoardModel", "firstPut", "[I", true)
  | 51 => ("SixBitBoardModel", "endLine", "I", false)
  | 52 => ("SixBitBoardModel", "symbols", "I", false)
  | 53 => ("SixBitBoardModel", "symbolKey", "[J", true)
  | 54 => ("SixBitBoardModel", "symbolWord", "[I", true)
  | 55 => ("SixBitBoardModel", "isDefined", "[Z", true)
  | 56 => ("SixBitBoardModel", "useCount", "[I", true)
  | 57 => ("SixBitBoardModel", "uses", "[I", true)
  | 58 => ("SixBitBoardModel", "localWord", "[I", true)
  | 59 => ("SixBitBoardModel", "isLocal", "[Z", true)
  | 60 => ("SixBitBoardModel", "futures", "I", false)
  | 61 => ("SixBitBoardModel", "futureKind", "[I", true)
  | 62 => ("SixBitBoardModel", "futureOf", "[I", true)
  | 63 => ("SixBitBoardModel", "futureLine", "[I", true)
  | 64 => ("SixBitBoardModel", "futurePlace", "[I", true)
  | 65 => ("SixBitBoardModel", "futureWord", "[I", true)
  | 66 => ("SixBitBoardModel", "hasWord", "[Z", true)
  | 67 => ("SixBitBoardModel", "line", "I", false)
  | 68 => ("SixBitBoardModel", "at", "I", false)
  | 69 => ("SixBitBoardModel", "addressEnd", "I", false)
  | 70 => ("SixBitBoardModel", "wrong", "I", false)
  | 71 => ("SixBitBoardModel", "newKind", "I", false)
  | 72 => ("SixBitBoardModel", "newOf", "I", false)
  | 73 => ("SixBitBoardModel", "newWord", "I", false)
  | 74 => ("SixBitBoardModel", "deckText", "[B", true)
  | 75 => ("SixBitBoardModel", "deckFrom", "[I", true)
  | 76 => ("SixBitBoardModel", "deckTo", "[I", true)
  | 77 => ("SixBitBoardModel", "deckLines", "I", false)
  | 78 => ("SixBitBoardModel", "nameFrom", "I", false)
  | 79 => ("SixBitBoardModel", "nameTo", "I", false)
  | 80 => ("SixBitBoardModel", "options", "I", false)
  | 81 => ("SixBitBoardModel", "jobLimit", "I", false)
  | 82 => ("SixBitBoardModel", "accounts", "I", false)
  | 83 => ("SixBitBoardModel", "jobsMade", "I", false)
  | 84 => ("SixBitBoardModel", "accountEnd", "[I", true)
  | 85 => ("SixBitBoardModel", "accountKind", "[I", true)
  | 86 => ("SixBitBoardModel", "accountPlace", "[I", true)
  | 87 => ("SixBitBoardModel", "accountTime", "[I", true)
  | 88 => ("SixBitBoardModel", "hasImage", "Z", false)
  | 89 => ("SixBitBoardModel", "image", "[I", true)
  | 90 => ("SixBitBoardModel", "imageStart", "I", false)
  | 91 => ("SixBitBoardModel", "traceLeft", "I", false)
  | 92 => ("SixBitBoardModel", "isLate", "[Z", true)
  | _ => ("SixBitBoardModel", "jobLine", "I", false)
def tyX12 : Nat → FieldType := fun k => match k with
  | 0 => .int
  | 1 => .array .byte
  | 2 => .int
  | 3 => .array .int
  | 4 => .array .int
  | 5 => .boolean
  | 6 => .int
  | 7 => .int
  | 8 => .long
  | 9 => .int
  | 10 => .boolean
  | 11 => .boolean
  | 12 => .boolean
  | 13 => .long
  | 14 => .boolean
  | 15 => .int
  | 16 => .int
  | 17 => .int
  | 18 => .int
  | 19 => .array .long
  | 20 => .array .boolean
  | 21 => .array .long
  | 22 => .array .int
  | 23 => .array .int
  | 24 => .array .int
  | 25 => .array .int
  | 26 => .array .byte
  | 27 => .array .int
  | 28 => .array .int
  | 29 => .array .byte
  | 30 => .int
  | 31 => .boolean
  | 32 => .array .byte
  | 33 => .array .int
  | 34 => .array .int
  | 35 => .int
  | 36 => .int
  | 37 => .array .byte
  | 38 => .int
  | 39 => .array .int
  | 40 => .array .int
  | 41 => .int
  | 42 => .boolean
  | 43 => .int
  | 44 => .int
  | 45 => .int
  | 46 => .boolean
  | 47 => .int
  | 48 => .int
  | 49 => .array .boolean
  | 50 => .array .int
  | 51 => .int
  | 52 => .int
  | 53 => .array .long
  | 54 => .array .int
  | 55 => .array .boolean
  | 56 => .array .int
  | 57 => .array .int
  | 58 => .array .int
  | 59 => .array .boolean
  | 60 => .int
  | 61 => .array .int
  | 62 => .array .int
  | 63 => .array .int
  | 64 => .array .int
  | 65 => .array .int
  | 66 => .array .boolean
  | 67 => .int
  | 68 => .int
  | 69 => .int
  | 70 => .int
  | 71 => .int
  | 72 => .int
  | 73 => .int
  | 74 => .array .byte
  | 75 => .array .int
  | 76 => .array .int
  | 77 => .int
  | 78 => .int
  | 79 => .int
  | 80 => .int
  | 81 => .int
  | 82 => .int
  | 83 => .int
  | 84 => .array .int
  | 85 => .array .int
  | 86 => .array .int
  | 87 => .array .int
  | 88 => .boolean
  | 89 => .array .int
  | 90 => .int
  | 91 => .int
  | 92 => .array .boolean
  | _ => .int
abbrev wsX120 : List Cond := u_ws RX12 TX12 94
theorem nmX12 : ∀ a, a < 94 → ∀ b, b < 94 → a ≠ b → (TX12 a).2.1 ≠ (TX12 b).2.1 := by decide +kernel
theorem tyX12_ok : ∀ k, k < 94 → parseFieldDescriptor (TX12 k).2.2.1 = some (tyX12 k) := by decide +kernel
abbrev cX12_init : ByteArray := prog_14_method_1_code
def yX12_init : MethodName := ⟨RX12, "<init>", "()V"⟩
abbrev cX12_thrown : ByteArray := prog_14_method_2_code
def yX12_thrown : MethodName := ⟨RX12, "thrown", "()I"⟩
abbrev cX12_value : ByteArray := prog_14_method_3_code
def yX12_value : MethodName := ⟨RX12, "value", "(I)I"⟩
abbrev cX12_wordOf : ByteArray := prog_14_method_4_code
def yX12_wordOf : MethodName := ⟨RX12, "wordOf", "(J)I"⟩
abbrev cX12_told : ByteArray := prog_14_method_5_code
def yX12_told : MethodName := ⟨RX12, "told", "(I)I"⟩
abbrev cX12_isField : ByteArray := prog_14_method_6_code
def yX12_isField : MethodName := ⟨RX12, "isField", "(I)Z"⟩
abbrev cX12_fieldOf : ByteArray := prog_14_method_7_code
def yX12_fieldOf : MethodName := ⟨RX12, "fieldOf", "(II)I"⟩
abbrev cX12_stored : ByteArray := prog_14_method_8_code
def yX12_stored : MethodName := ⟨RX12, "stored", "(III)I"⟩
abbrev cX12_memoryAt : ByteArray := prog_14_method_9_code
def yX12_memoryAt : MethodName := ⟨RX12, "memoryAt", "(I)I"⟩
abbrev cX12_setMemory : ByteArray := prog_14_method_10_code
def yX12_setMemory : MethodName := ⟨RX12, "setMemory", "(II)V"⟩
abbrev cX12_isAddress : ByteArray := prog_14_method_11_code
def yX12_isAddress : MethodName := ⟨RX12, "isAddress", "(I)Z"⟩
abbrev cX12_byteOf : ByteArray := prog_14_method_12_code
def yX12_byteOf : MethodName := ⟨RX12, "byteOf", "(I)I"⟩
abbrev cX12_letterOf : ByteArray := prog_14_method_13_code
def yX12_letterOf : MethodName := ⟨RX12, "letterOf", "(I)I"⟩
abbrev cX12_isDigit : ByteArray := prog_14_method_14_code
def yX12_isDigit : MethodName := ⟨RX12, "isDigit", "(I)Z"⟩
abbrev cX12_isGreat : ByteArray := prog_14_method_15_code
def yX12_isGreat : MethodName := ⟨RX12, "isGreat", "(I)Z"⟩
abbrev cX12_lay : ByteArray := prog_14_method_16_code
def yX12_lay : MethodName := ⟨RX12, "lay", "(I)V"⟩
abbrev cX12_feed : ByteArray := prog_14_method_17_code
def yX12_feed : MethodName := ⟨RX12, "feed", "(IIIII)Z"⟩
abbrev cX12_end : ByteArray := prog_14_method_18_code
def yX12_end : MethodName := ⟨RX12, "end", "(I)Z"⟩
abbrev cX12_lineEnd : ByteArray := prog_14_method_19_code
def yX12_lineEnd : MethodName := ⟨RX12, "lineEnd", "([BII)I"⟩
abbrev cX12_letterIn : ByteArray := prog_14_method_20_code
def yX12_letterIn : MethodName := ⟨RX12, "letterIn", "([BIII)I"⟩
abbrev cX12_say : ByteArray := prog_14_method_21_code
def yX12_say : MethodName := ⟨RX12, "say", "(I)V"⟩
abbrev cX12_begin : ByteArray := prog_14_method_22_code
def yX12_begin : MethodName := ⟨RX12, "begin", "()V"⟩
abbrev cX12_toColumn : ByteArray := prog_14_method_23_code
def yX12_toColumn : MethodName := ⟨RX12, "toColumn", "(I)V"⟩
abbrev cX12_sayDigits : ByteArray := prog_14_method_24_code
def yX12_sayDigits : MethodName := ⟨RX12, "sayDigits", "(JI)V"⟩
abbrev cX12_saySign : ByteArray := prog_14_method_25_code
def yX12_saySign : MethodName := ⟨RX12, "saySign", "(I)V"⟩
abbrev cX12_sayWord : ByteArray := prog_14_method_26_code
def yX12_sayWord : MethodName := ⟨RX12, "sayWord", "(I)V"⟩
abbrev cX12_sayAll : ByteArray := prog_14_method_27_code
def yX12_sayAll : MethodName := ⟨RX12, "sayAll", "(Ljava/lang/String;)V"⟩
abbrev cX12_print : ByteArray := prog_14_method_28_code
def yX12_print : MethodName := ⟨RX12, "print", "(I)V"⟩
abbrev cX12_sizeOf : ByteArray := prog_14_method_29_code
def yX12_sizeOf : MethodName := ⟨RX12, "sizeOf", "(I)I"⟩
abbrev cX12_takes : ByteArray := prog_14_method_30_code
def yX12_takes : MethodName := ⟨RX12, "takes", "(I)I"⟩
abbrev cX12_settle : ByteArray := prog_14_method_31_code
def yX12_settle : MethodName := ⟨RX12, "settle", "(J)V"⟩
abbrev cX12_freeUnits : ByteArray := prog_14_method_32_code
def yX12_freeUnits : MethodName := ⟨RX12, "freeUnits", "()V"⟩
abbrev cX12_stop : ByteArray := prog_14_method_33_code
def yX12_stop : MethodName := ⟨RX12, "stop", "(I)V"⟩
abbrev cX12_cardsLeft : ByteArray := prog_14_method_34_code
def yX12_cardsLeft : MethodName := ⟨RX12, "cardsLeft", "()I"⟩
abbrev cX12_hasCard : ByteArray := prog_14_method_35_code
def yX12_hasCard : MethodName := ⟨RX12, "hasCard", "()Z"⟩
abbrev cX12_cardWord : ByteArray := prog_14_method_36_code
def yX12_cardWord : MethodName := ⟨RX12, "cardWord", "(I)I"⟩
abbrev cX12_blockNow : ByteArray := prog_14_method_37_code
def yX12_blockNow : MethodName := ⟨RX12, "blockNow", "(I)I"⟩
abbrev cX12_operate : ByteArray := prog_14_method_38_code
def yX12_operate : MethodName := ⟨RX12, "operate", "(II)V"⟩
abbrev cX12_control : ByteArray := prog_14_method_39_code
def yX12_control : MethodName := ⟨RX12, "control", "(I)V"⟩
abbrev cX12_begins : ByteArray := prog_14_method_40_code
def yX12_begins : MethodName := ⟨RX12, "begins", "(II)V"⟩
abbrev cX12_cost : ByteArray := prog_14_method_41_code
def yX12_cost : MethodName := ⟨RX12, "cost", "()J"⟩
abbrev cX12_isOperation : ByteArray := prog_14_method_42_code
def yX12_isOperation : MethodName := ⟨RX12, "isOperation", "()Z"⟩
abbrev cX12_isHere : ByteArray := prog_14_method_43_code
def yX12_isHere : MethodName := ⟨RX12, "isHere", "(I)Z"⟩
abbrev cX12_areHere : ByteArray := prog_14_method_44_code
def yX12_areHere : MethodName := ⟨RX12, "areHere", "(II)Z"⟩
abbrev cX12_addressFault : ByteArray := prog_14_method_46_code
def yX12_addressFault : MethodName := ⟨RX12, "addressFault", "()I"⟩
abbrev cX12_hasField : ByteArray := prog_14_method_47_code
def yX12_hasField : MethodName := ⟨RX12, "hasField", "()Z"⟩
abbrev cX12_isTooMuch : ByteArray := prog_14_method_48_code
def yX12_isTooMuch : MethodName := ⟨RX12, "isTooMuch", "()Z"⟩
abbrev cX12_unitFault : ByteArray := prog_14_method_49_code
def yX12_unitFault : MethodName := ⟨RX12, "unitFault", "()I"⟩
abbrev cX12_jumps : ByteArray := prog_14_method_50_code
def yX12_jumps : MethodName := ⟨RX12, "jumps", "()Z"⟩
abbrev cX12_isSo : ByteArray := prog_14_method_51_code
def yX12_isSo : MethodName := ⟨RX12, "isSo", "(II)Z"⟩
abbrev cX12_fault : ByteArray := prog_14_method_52_code
def yX12_fault : MethodName := ⟨RX12, "fault", "()I"⟩
abbrev cX12_addTo : ByteArray := prog_14_method_53_code
def yX12_addTo : MethodName := ⟨RX12, "addTo", "(IJ)V"⟩
abbrev cX12_multiply : ByteArray := prog_14_method_54_code
def yX12_multiply : MethodName := ⟨RX12, "multiply", "(I)V"⟩
abbrev cX12_divide : ByteArray := prog_14_method_55_code
def yX12_divide : MethodName := ⟨RX12, "divide", "(I)V"⟩
abbrev cX12_byteAt : ByteArray := prog_14_method_56_code
def yX12_byteAt : MethodName := ⟨RX12, "byteAt", "(I)I"⟩
abbrev cX12_convert : ByteArray := prog_14_method_57_code
def yX12_convert : MethodName := ⟨RX12, "convert", "()V"⟩
abbrev cX12_shift : ByteArray := prog_14_method_58_code
def yX12_shift : MethodName := ⟨RX12, "shift", "()V"⟩
abbrev cX12_moveWords : ByteArray := prog_14_method_59_code
def yX12_moveWords : MethodName := ⟨RX12, "moveWords", "()V"⟩
abbrev cX12_change : ByteArray := prog_14_method_60_code
def yX12_change : MethodName := ⟨RX12, "change", "(I)V"⟩
abbrev cX12_compare : ByteArray := prog_14_method_61_code
def yX12_compare : MethodName := ⟨RX12, "compare", "(I)V"⟩
abbrev cX12_store : ByteArray := prog_14_method_62_code
def yX12_store : MethodName := ⟨RX12, "store", "()V"⟩
abbrev cX12_work : ByteArray := prog_14_method_63_code
def yX12_work : MethodName := ⟨RX12, "work", "()V"⟩
abbrev cX12_jump : ByteArray := prog_14_method_64_code
def yX12_jump : MethodName := ⟨RX12, "jump", "()V"⟩
abbrev cX12_interrupt : ByteArray := prog_14_method_65_code
def yX12_interrupt : MethodName := ⟨RX12, "interrupt", "(I)V"⟩
abbrev cX12_resume : ByteArray := prog_14_method_66_code
def yX12_resume : MethodName := ⟨RX12, "resume", "()V"⟩
abbrev cX12_takeClock : ByteArray := prog_14_method_67_code
def yX12_takeClock : MethodName := ⟨RX12, "takeClock", "(J)V"⟩
abbrev cX12_fails : ByteArray := prog_14_method_68_code
def yX12_fails : MethodName := ⟨RX12, "fails", "(I)V"⟩
abbrev cX12_look : ByteArray := prog_14_method_69_code
def yX12_look : MethodName := ⟨RX12, "look", "()I"⟩
abbrev cX12_perform : ByteArray := prog_14_method_70_code
def yX12_perform : MethodName := ⟨RX12, "perform", "()V"⟩
abbrev cX12_goOn : ByteArray := prog_14_method_71_code
def yX12_goOn : MethodName := ⟨RX12, "goOn", "(I)I"⟩
abbrev cX12_copyText : ByteArray := prog_14_method_72_code
def yX12_copyText : MethodName := ⟨RX12, "copyText", "([BI)V"⟩
abbrev cX12_findLines : ByteArray := prog_14_method_73_code
def yX12_findLines : MethodName := ⟨RX12, "findLines", "()V"⟩
abbrev cX12_letterAt : ByteArray := prog_14_method_74_code
def yX12_letterAt : MethodName := ⟨RX12, "letterAt", "(I)I"⟩
abbrev cX12_isBlank : ByteArray := prog_14_method_75_code
def yX12_isBlank : MethodName := ⟨RX12, "isBlank", "(II)Z"⟩
abbrev cX12_endOf : ByteArray := prog_14_method_76_code
def yX12_endOf : MethodName := ⟨RX12, "endOf", "(II)I"⟩
abbrev cX12_isName : ByteArray := prog_14_method_77_code
def yX12_isName : MethodName := ⟨RX12, "isName", "(II)Z"⟩
abbrev cX12_localKind : ByteArray := prog_14_method_78_code
def yX12_localKind : MethodName := ⟨RX12, "localKind", "(II)I"⟩
abbrev cX12_signOf : ByteArray := prog_14_method_79_code
def yX12_signOf : MethodName := ⟨RX12, "signOf", "(I)I"⟩
abbrev cX12_keyOf : ByteArray := prog_14_method_80_code
def yX12_keyOf : MethodName := ⟨RX12, "keyOf", "(II)J"⟩
abbrev cX12_find : ByteArray := prog_14_method_81_code
def yX12_find : MethodName := ⟨RX12, "find", "(J)I"⟩
abbrev cX12_symbolOf : ByteArray := prog_14_method_82_code
def yX12_symbolOf : MethodName := ⟨RX12, "symbolOf", "(J)I"⟩
abbrev cX12_use : ByteArray := prog_14_method_83_code
def yX12_use : MethodName := ⟨RX12, "use", "(I)V"⟩
abbrev cX12_fail : ByteArray := prog_14_method_84_code
def yX12_fail : MethodName := ⟨RX12, "fail", "(I)V"⟩
abbrev cX12_now : ByteArray := prog_14_method_85_code
def yX12_now : MethodName := ⟨RX12, "now", "()I"⟩
abbrev cX12_nameEnd : ByteArray := prog_14_method_86_code
def yX12_nameEnd : MethodName := ⟨RX12, "nameEnd", "()I"⟩
abbrev cX12_number : ByteArray := prog_14_method_87_code
def yX12_number : MethodName := ⟨RX12, "number", "(I)I"⟩
abbrev cX12_symbolAtom : ByteArray := prog_14_method_88_code
def yX12_symbolAtom : MethodName := ⟨RX12, "symbolAtom", "(I)I"⟩
abbrev cX12_atom : ByteArray := prog_14_method_89_code
def yX12_atom : MethodName := ⟨RX12, "atom", "()I"⟩
abbrev cX12_hasLetter : ByteArray := prog_14_method_90_code
def yX12_hasLetter : MethodName := ⟨RX12, "hasLetter", "(I)Z"⟩
abbrev cX12_isSign : ByteArray := prog_14_method_91_code
def yX12_isSign : MethodName := ⟨RX12, "isSign", "(I)Z"⟩
abbrev cX12_worked : ByteArray := prog_14_method_92_code
def yX12_worked : MethodName := ⟨RX12, "worked", "(IJJ)I"⟩
abbrev cX12_expression : ByteArray := prog_14_method_93_code
def yX12_expression : MethodName := ⟨RX12, "expression", "()I"⟩
abbrev cX12_inside : ByteArray := prog_14_method_94_code
def yX12_inside : MethodName := ⟨RX12, "inside", "(II)I"⟩
abbrev cX12_must : ByteArray := prog_14_method_95_code
def yX12_must : MethodName := ⟨RX12, "must", "(I)V"⟩
abbrev cX12_wValue : ByteArray := prog_14_method_96_code
def yX12_wValue : MethodName := ⟨RX12, "wValue", "()I"⟩
abbrev cX12_wholeValue : ByteArray := prog_14_method_97_code
def yX12_wholeValue : MethodName := ⟨RX12, "wholeValue", "()I"⟩
abbrev cX12_endsPart : ByteArray := prog_14_method_98_code
def yX12_endsPart : MethodName := ⟨RX12, "endsPart", "()Z"⟩
abbrev cX12_isToCome : ByteArray := prog_14_method_99_code
def yX12_isToCome : MethodName := ⟨RX12, "isToCome", "()Z"⟩
abbrev cX12_partA : ByteArray := prog_14_method_100_code
def yX12_partA : MethodName := ⟨RX12, "partA", "()I"⟩
abbrev cX12_instruction : ByteArray := prog_14_method_101_code
def yX12_instruction : MethodName := ⟨RX12, "instruction", "(I)I"⟩
abbrev cX12_nameAt : ByteArray := prog_14_method_102_code
def yX12_nameAt : MethodName := ⟨RX12, "nameAt", "(II)I"⟩
abbrev cX12_operation : ByteArray := prog_14_method_103_code
def yX12_operation : MethodName := ⟨RX12, "operation", "(II)I"⟩
abbrev cX12_putWord : ByteArray := prog_14_method_104_code
def yX12_putWord : MethodName := ⟨RX12, "putWord", "(I)V"⟩
abbrev cX12_addFuture : ByteArray := prog_14_method_105_code
def yX12_addFuture : MethodName := ⟨RX12, "addFuture", "(I)V"⟩
abbrev cX12_define : ByteArray := prog_14_method_106_code
def yX12_define : MethodName := ⟨RX12, "define", "(I)V"⟩
abbrev cX12_bounded : ByteArray := prog_14_method_107_code
def yX12_bounded : MethodName := ⟨RX12, "bounded", "(II)I"⟩
abbrev cX12_fiveLetters : ByteArray := prog_14_method_108_code
def yX12_fiveLetters : MethodName := ⟨RX12, "fiveLetters", "()I"⟩
abbrev cX12_areColumns : ByteArray := prog_14_method_109_code
def yX12_areColumns : MethodName := ⟨RX12, "areColumns", "()Z"⟩
abbrev cX12_isThere : ByteArray := prog_14_method_110_code
def yX12_isThere : MethodName := ⟨RX12, "isThere", "()Z"⟩
abbrev cX12_workLine : ByteArray := prog_14_method_111_code
def yX12_workLine : MethodName := ⟨RX12, "workLine", "()Z"⟩
abbrev cX12_workAddress : ByteArray := prog_14_method_112_code
def yX12_workAddress : MethodName := ⟨RX12, "workAddress", "(I)Z"⟩
abbrev cX12_tellFutures : ByteArray := prog_14_method_113_code
def yX12_tellFutures : MethodName := ⟨RX12, "tellFutures", "()V"⟩
abbrev cX12_putFuture : ByteArray := prog_14_method_114_code
def yX12_putFuture : MethodName := ⟨RX12, "putFuture", "(I)V"⟩
abbrev cX12_finish : ByteArray := prog_14_method_115_code
def yX12_finish : MethodName := ⟨RX12, "finish", "()V"⟩
abbrev cX12_clearMemory : ByteArray := prog_14_method_116_code
def yX12_clearMemory : MethodName := ⟨RX12, "clearMemory", "()V"⟩
abbrev cX12_clearMachine : ByteArray := prog_14_method_117_code
def yX12_clearMachine : MethodName := ⟨RX12, "clearMachine", "()V"⟩
abbrev cX12_clearAssembling : ByteArray := prog_14_method_118_code
def yX12_clearAssembling : MethodName := ⟨RX12, "clearAssembling", "()V"⟩
abbrev cX12_assembleText : ByteArray := prog_14_method_119_code
def yX12_assembleText : MethodName := ⟨RX12, "assembleText", "()Z"⟩
abbrev cX12_startAt : ByteArray := prog_14_method_120_code
def yX12_startAt : MethodName := ⟨RX12, "startAt", "(I)V"⟩
abbrev cX12_assemble : ByteArray := prog_14_method_121_code
def yX12_assemble : MethodName := ⟨RX12, "assemble", "()I"⟩
abbrev cX12_sayError : ByteArray := prog_14_method_122_code
def yX12_sayError : MethodName := ⟨RX12, "sayError", "()V"⟩
abbrev cX12_goOver : ByteArray := prog_14_method_123_code
def yX12_goOver : MethodName := ⟨RX12, "goOver", "()I"⟩
abbrev cX12_errors : ByteArray := prog_14_method_124_code
def yX12_errors : MethodName := ⟨RX12, "errors", "()I"⟩
abbrev cX12_error : ByteArray := prog_14_method_125_code
def yX12_error : MethodName := ⟨RX12, "error", "()I"⟩
abbrev cX12_sayName : ByteArray := prog_14_method_126_code
def yX12_sayName : MethodName := ⟨RX12, "sayName", "(I)V"⟩
abbrev cX12_sayParts : ByteArray := prog_14_method_127_code
def yX12_sayParts : MethodName := ⟨RX12, "sayParts", "(I)V"⟩
abbrev cX12_sayCardWord : ByteArray := prog_14_method_128_code
def yX12_sayCardWord : MethodName := ⟨RX12, "sayCardWord", "(I)V"⟩
abbrev cX12_beginCard : ByteArray := prog_14_method_129_code
def yX12_beginCard : MethodName := ⟨RX12, "beginCard", "(II)V"⟩
abbrev cX12_hasPut : ByteArray := prog_14_method_130_code
def yX12_hasPut : MethodName := ⟨RX12, "hasPut", "(I)Z"⟩
abbrev cX12_punchCards : ByteArray := prog_14_method_131_code
def yX12_punchCards : MethodName := ⟨RX12, "punchCards", "()I"⟩
abbrev cX12_deck : ByteArray := prog_14_method_132_code
def yX12_deck : MethodName := ⟨RX12, "deck", "()I"⟩
abbrev cX12_listWords : ByteArray := prog_14_method_133_code
def yX12_listWords : MethodName := ⟨RX12, "listWords", "()I"⟩
abbrev cX12_list : ByteArray := prog_14_method_134_code
def yX12_list : MethodName := ⟨RX12, "list", "()I"⟩
abbrev cX12_listing : ByteArray := prog_14_method_135_code
def yX12_listing : MethodName := ⟨RX12, "listing", "()I"⟩
abbrev cX12_nextSymbol : ByteArray := prog_14_method_136_code
def yX12_nextSymbol : MethodName := ⟨RX12, "nextSymbol", "(J)I"⟩
abbrev cX12_sayKey : ByteArray := prog_14_method_137_code
def yX12_sayKey : MethodName := ⟨RX12, "sayKey", "(J)V"⟩
abbrev cX12_sayNames : ByteArray := prog_14_method_138_code
def yX12_sayNames : MethodName := ⟨RX12, "sayNames", "(I)I"⟩
abbrev cX12_names : ByteArray := prog_14_method_139_code
def yX12_names : MethodName := ⟨RX12, "names", "()I"⟩
abbrev cX12_sayTrace : ByteArray := prog_14_method_140_code
def yX12_sayTrace : MethodName := ⟨RX12, "sayTrace", "(II)V"⟩
abbrev cX12_run : ByteArray := prog_14_method_141_code
def yX12_run : MethodName := ⟨RX12, "run", "(I)I"⟩
abbrev cX12_trace : ByteArray := prog_14_method_142_code
def yX12_trace : MethodName := ⟨RX12, "trace", "(I)I"⟩
abbrev cX12_symbol : ByteArray := prog_14_method_143_code
def yX12_symbol : MethodName := ⟨RX12, "symbol", "()I"⟩
abbrev cX12_addCard : ByteArray := prog_14_method_144_code
def yX12_addCard : MethodName := ⟨RX12, "addCard", "([BII)V"⟩
abbrev cX12_gatherCards : ByteArray := prog_14_method_145_code
def yX12_gatherCards : MethodName := ⟨RX12, "gatherCards", "()V"⟩
abbrev cX12_cards : ByteArray := prog_14_method_146_code
def yX12_cards : MethodName := ⟨RX12, "cards", "()I"⟩
abbrev cX12_go : ByteArray := prog_14_method_147_code
def yX12_go : MethodName := ⟨RX12, "go", "()Z"⟩
abbrev cX12_mount : ByteArray := prog_14_method_148_code
def yX12_mount : MethodName := ⟨RX12, "mount", "(II)I"⟩
abbrev cX12_deckLetter : ByteArray := prog_14_method_149_code
def yX12_deckLetter : MethodName := ⟨RX12, "deckLetter", "(II)I"⟩
abbrev cX12_isWord : ByteArray := prog_14_method_150_code
def yX12_isWord : MethodName := ⟨RX12, "isWord", "(ILjava/lang/String;)Z"⟩
abbrev cX12_hasWordAt : ByteArray := prog_14_method_151_code
def yX12_hasWordAt : MethodName := ⟨RX12, "hasWordAt", "(IILjava/lang/String;)Z"⟩
abbrev cX12_isJob : ByteArray := prog_14_method_152_code
def yX12_isJob : MethodName := ⟨RX12, "isJob", "(I)Z"⟩
abbrev cX12_optionOf : ByteArray := prog_14_method_153_code
def yX12_optionOf : MethodName := ⟨RX12, "optionOf", "(I)Ljava/lang/String;"⟩
abbrev cX12_hasOption : ByteArray := prog_14_method_154_code
def yX12_hasOption : MethodName := ⟨RX12, "hasOption", "(I)Z"⟩
abbrev cX12_search : ByteArray := prog_14_method_155_code
def yX12_search : MethodName := ⟨RX12, "search", "(ILjava/lang/String;)I"⟩
abbrev cX12_jobs : ByteArray := prog_14_method_156_code
def yX12_jobs : MethodName := ⟨RX12, "jobs", "()I"⟩
abbrev cX12_doJob : ByteArray := prog_14_method_157_code
def yX12_doJob : MethodName := ⟨RX12, "doJob", "(III)V"⟩
abbrev cX12_assembleLines : ByteArray := prog_14_method_158_code
def yX12_assembleLines : MethodName := ⟨RX12, "assembleLines", "(II)Z"⟩
abbrev cX12_readCard : ByteArray := prog_14_method_159_code
def yX12_readCard : MethodName := ⟨RX12, "readCard", "(I)I"⟩
abbrev cX12_areDigits : ByteArray := prog_14_method_160_code
def yX12_areDigits : MethodName := ⟨RX12, "areDigits", "(III)Z"⟩
abbrev cX12_loadCards : ByteArray := prog_14_method_161_code
def yX12_loadCards : MethodName := ⟨RX12, "loadCards", "(II)I"⟩
abbrev cX12_takeImage : ByteArray := prog_14_method_162_code
def yX12_takeImage : MethodName := ⟨RX12, "takeImage", "()V"⟩
abbrev cX12_keepImage : ByteArray := prog_14_method_163_code
def yX12_keepImage : MethodName := ⟨RX12, "keepImage", "()V"⟩
abbrev cX12_sayLists : ByteArray := prog_14_method_164_code
def yX12_sayLists : MethodName := ⟨RX12, "sayLists", "()V"⟩
abbrev cX12_runJob : ByteArray := prog_14_method_165_code
def yX12_runJob : MethodName := ⟨RX12, "runJob", "()V"⟩
abbrev cX12_endOfJob : ByteArray := prog_14_method_166_code
def yX12_endOfJob : MethodName := ⟨RX12, "endOfJob", "(I)Ljava/lang/String;"⟩
abbrev cX12_finishJob : ByteArray := prog_14_method_167_code
def yX12_finishJob : MethodName := ⟨RX12, "finishJob", "(III)V"⟩
abbrev cX12_dump : ByteArray := prog_14_method_168_code
def yX12_dump : MethodName := ⟨RX12, "dump", "()V"⟩
abbrev cX12_account : ByteArray := prog_14_method_169_code
def yX12_account : MethodName := ⟨RX12, "account", "(II)I"⟩
abbrev cX12_summary : ByteArray := prog_14_method_170_code
def yX12_summary : MethodName := ⟨RX12, "summary", "()I"⟩
abbrev cX12_state : ByteArray := prog_14_method_171_code
def yX12_state : MethodName := ⟨RX12, "state", "()I"⟩
abbrev cX12_register : ByteArray := prog_14_method_172_code
def yX12_register : MethodName := ⟨RX12, "register", "(I)I"⟩
abbrev cX12_word : ByteArray := prog_14_method_173_code
def yX12_word : MethodName := ⟨RX12, "word", "(I)I"⟩
abbrev cX12_time : ByteArray := prog_14_method_174_code
def yX12_time : MethodName := ⟨RX12, "time", "()J"⟩
abbrev cX12_unit : ByteArray := prog_14_method_175_code
def yX12_unit : MethodName := ⟨RX12, "unit", "(I)I"⟩
abbrev cX12_letter : ByteArray := prog_14_method_176_code
def yX12_letter : MethodName := ⟨RX12, "letter", "(III)I"⟩
abbrev cX12_block : ByteArray := prog_14_method_177_code
def yX12_block : MethodName := ⟨RX12, "block", "(III)I"⟩
abbrev cX12_tear : ByteArray := prog_14_method_178_code
def yX12_tear : MethodName := ⟨RX12, "tear", "()V"⟩
def RJ11 : String := "java/lang/Character"
def TJ11 : u_T := fun k => match k with
  | _ => ("", "", "", false)
def tyJ11 : Nat → FieldType := fun k => match k with
  | _ => .int
abbrev wsJ110 : List Cond := u_ws RJ11 TJ11 0
theorem nmJ11 : ∀ a, a < 0 → ∀ b, b < 0 → a ≠ b → (TJ11 a).2.1 ≠ (TJ11 b).2.1 := by decide +kernel
theorem tyJ11_ok : ∀ k, k < 0 → parseFieldDescriptor (TJ11 k).2.2.1 = some (tyJ11 k) := by decide +kernel
abbrev cJ11_isValidCodePoint_9a6ad : ByteArray := prog_15_method_11_code
def yJ11_isValidCodePoint_9a6ad : MethodName := ⟨RJ11, "isValidCodePoint", "(I)Z"⟩
abbrev cJ11_highSurrogate_5068e : ByteArray := prog_15_method_28_code
def yJ11_highSurrogate_5068e : MethodName := ⟨RJ11, "highSurrogate", "(I)C"⟩
abbrev cJ11_lowSurrogate_5068e : ByteArray := prog_15_method_29_code
def yJ11_lowSurrogate_5068e : MethodName := ⟨RJ11, "lowSurrogate", "(I)C"⟩
def RJ6 : String := "java/lang/Integer"
def TJ6 : u_T := fun k => match k with
  | _ => ("", "", "", false)
def tyJ6 : Nat → FieldType := fun k => match k with
  | _ => .int
abbrev wsJ60 : List Cond := u_ws RJ6 TJ6 0
theorem nmJ6 : ∀ a, a < 0 → ∀ b, b < 0 → a ≠ b → (TJ6 a).2.1 ≠ (TJ6 b).2.1 := by decide +kernel
theorem tyJ6_ok : ∀ k, k < 0 → parseFieldDescriptor (TJ6 k).2.2.1 = some (tyJ6 k) := by decide +kernel
abbrev cJ6_compare_7cf53 : ByteArray := prog_17_method_40_code
def yJ6_compare_7cf53 : MethodName := ⟨RJ6, "compare", "(II)I"⟩
def RJ9 : String := "java/lang/Math"
def TJ9 : u_T := fun k => match k with
  | _ => ("", "", "", false)
def tyJ9 : Nat → FieldType := fun k => match k with
  | _ => .int
abbrev wsJ90 : List Cond := u_ws RJ9 TJ9 0
theorem nmJ9 : ∀ a, a < 0 → ∀ b, b < 0 → a ≠ b → (TJ9 a).2.1 ≠ (TJ9 b).2.1 := by decide +kernel
theorem tyJ9_ok : ∀ k, k < 0 → parseFieldDescriptor (TJ9 k).2.2.1 = some (tyJ9 k) := by decide +kernel
abbrev cJ9_abs_0f7a4 : ByteArray := prog_18_method_59_code
def yJ9_abs_0f7a4 : MethodName := ⟨RJ9, "abs", "(I)I"⟩
abbrev cJ9_abs_067f4 : ByteArray := prog_18_method_61_code
def yJ9_abs_067f4 : MethodName := ⟨RJ9, "abs", "(J)J"⟩
abbrev cJ9_max_7cf53 : ByteArray := prog_18_method_65_code
def yJ9_max_7cf53 : MethodName := ⟨RJ9, "max", "(II)I"⟩
abbrev cJ9_max_f86c9 : ByteArray := prog_18_method_66_code
def yJ9_max_f86c9 : MethodName := ⟨RJ9, "max", "(JJ)J"⟩
abbrev cJ9_min_7cf53 : ByteArray := prog_18_method_69_code
def yJ9_min_7cf53 : MethodName := ⟨RJ9, "min", "(II)I"⟩
def RJ0 : String := "java/lang/String"
def TJ0 : u_T := fun k => match k with
  | _ => ("", "", "", false)
def tyJ0 : Nat → FieldType := fun k => match k with
  | _ => .int
abbrev wsJ00 : List Cond := u_ws RJ0 TJ0 0
theorem nmJ0 : ∀ a, a < 0 → ∀ b, b < 0 → a ≠ b → (TJ0 a).2.1 ≠ (TJ0 b).2.1 := by decide +kernel
theorem tyJ0_ok : ∀ k, k < 0 → parseFieldDescriptor (TJ0 k).2.2.1 = some (tyJ0 k) := by decide +kernel
abbrev cJ0_length_8abf5 : ByteArray := prog_20_method_54_code
def yJ0_length_8abf5 : MethodName := ⟨RJ0, "length", "()I"⟩
abbrev cJ0_charAt_5068e : ByteArray := prog_20_method_56_code
def yJ0_charAt_5068e : MethodName := ⟨RJ0, "charAt", "(I)C"⟩
abbrev cJ0_indexOf_0f7a4 : ByteArray := prog_20_method_79_code
def yJ0_indexOf_0f7a4 : MethodName := ⟨RJ0, "indexOf", "(I)I"⟩
abbrev cJ0_indexOf_7cf53 : ByteArray := prog_20_method_80_code
def yJ0_indexOf_7cf53 : MethodName := ⟨RJ0, "indexOf", "(II)I"⟩
abbrev cJ0_coder_7d493 : ByteArray := prog_20_method_152_code
def yJ0_coder_7d493 : MethodName := ⟨RJ0, "coder", "()B"⟩
abbrev cJ0_isLatin1_aae02 : ByteArray := prog_20_method_154_code
def yJ0_isLatin1_aae02 : MethodName := ⟨RJ0, "isLatin1", "()Z"⟩
abbrev cJ0_checkIndex_df160 : ByteArray := prog_20_method_155_code
def yJ0_checkIndex_df160 : MethodName := ⟨RJ0, "checkIndex", "(II)V"⟩
abbrev cJ0_checkBoundsBeginEnd_23922 : ByteArray := prog_20_method_158_code
def yJ0_checkBoundsBeginEnd_23922 : MethodName := ⟨RJ0, "checkBoundsBeginEnd", "(III)V"⟩
def RJ1 : String := "java/lang/StringLatin1"
def TJ1 : u_T := fun k => match k with
  | _ => ("", "", "", false)
def tyJ1 : Nat → FieldType := fun k => match k with
  | _ => .int
abbrev wsJ10 : List Cond := u_ws RJ1 TJ1 0
theorem nmJ1 : ∀ a, a < 0 → ∀ b, b < 0 → a ≠ b → (TJ1 a).2.1 ≠ (TJ1 b).2.1 := by decide +kernel
theorem tyJ1_ok : ∀ k, k < 0 → parseFieldDescriptor (TJ1 k).2.2.1 = some (tyJ1 k) := by decide +kernel
abbrev cJ1_charAt_3b067 : ByteArray := prog_21_method_2_code
def yJ1_charAt_3b067 : MethodName := ⟨RJ1, "charAt", "([BI)C"⟩
abbrev cJ1_canEncode_9a6ad : ByteArray := prog_21_method_4_code
def yJ1_canEncode_9a6ad : MethodName := ⟨RJ1, "canEncode", "(I)Z"⟩
abbrev cJ1_indexOf_4cfef : ByteArray := prog_21_method_22_code
def yJ1_indexOf_4cfef : MethodName := ⟨RJ1, "indexOf", "([BIII)I"⟩
abbrev cJ1_indexOfChar_4cfef : ByteArray := prog_21_method_23_code
def yJ1_indexOfChar_4cfef : MethodName := ⟨RJ1, "indexOfChar", "([BIII)I"⟩
def RJ2 : String := "java/lang/StringUTF16"
def TJ2 : u_T := fun k => match k with
  | _ => ("", "", "", false)
def tyJ2 : Nat → FieldType := fun k => match k with
  | _ => .int
abbrev wsJ20 : List Cond := u_ws RJ2 TJ2 0
theorem nmJ2 : ∀ a, a < 0 → ∀ b, b < 0 → a ≠ b → (TJ2 a).2.1 ≠ (TJ2 b).2.1 := by decide +kernel
theorem tyJ2_ok : ∀ k, k < 0 → parseFieldDescriptor (TJ2 k).2.2.1 = some (tyJ2 k) := by decide +kernel
abbrev cJ2_getChar_3b067 : ByteArray := prog_22_method_5_code
def yJ2_getChar_3b067 : MethodName := ⟨RJ2, "getChar", "([BI)C"⟩
abbrev cJ2_length_9d52b : ByteArray := prog_22_method_6_code
def yJ2_length_9d52b : MethodName := ⟨RJ2, "length", "([B)I"⟩
abbrev cJ2_indexOf_4cfef : ByteArray := prog_22_method_40_code
def yJ2_indexOf_4cfef : MethodName := ⟨RJ2, "indexOf", "([BIII)I"⟩
abbrev cJ2_indexOfChar_4cfef : ByteArray := prog_22_method_47_code
def yJ2_indexOfChar_4cfef : MethodName := ⟨RJ2, "indexOfChar", "([BIII)I"⟩
abbrev cJ2_indexOfCharUnsafe_4cfef : ByteArray := prog_22_method_48_code
def yJ2_indexOfCharUnsafe_4cfef : MethodName := ⟨RJ2, "indexOfCharUnsafe", "([BIII)I"⟩
abbrev cJ2_indexOfSupplementary_4cfef : ByteArray := prog_22_method_49_code
def yJ2_indexOfSupplementary_4cfef : MethodName := ⟨RJ2, "indexOfSupplementary", "([BIII)I"⟩
abbrev cJ2_charAt_3b067 : ByteArray := prog_22_method_83_code
def yJ2_charAt_3b067 : MethodName := ⟨RJ2, "charAt", "([BI)C"⟩
abbrev cJ2_checkIndex_2214a : ByteArray := prog_22_method_91_code
def yJ2_checkIndex_2214a : MethodName := ⟨RJ2, "checkIndex", "(I[B)V"⟩
abbrev cJ2_checkBoundsBeginEnd_d044e : ByteArray := prog_22_method_93_code
def yJ2_checkBoundsBeginEnd_d044e : MethodName := ⟨RJ2, "checkBoundsBeginEnd", "(II[B)V"⟩
def RJ10 : String := "java/lang/System"
def TJ10 : u_T := fun k => match k with
  | _ => ("", "", "", false)
def tyJ10 : Nat → FieldType := fun k => match k with
  | _ => .int
abbrev wsJ100 : List Cond := u_ws RJ10 TJ10 0
theorem nmJ10 : ∀ a, a < 0 → ∀ b, b < 0 → a ≠ b → (TJ10 a).2.1 ≠ (TJ10 b).2.1 := by decide +kernel
theorem tyJ10_ok : ∀ k, k < 0 → parseFieldDescriptor (TJ10 k).2.2.1 = some (tyJ10 k) := by decide +kernel
def RJ7 : String := "java/util/Arrays"
def TJ7 : u_T := fun k => match k with
  | _ => ("", "", "", false)
def tyJ7 : Nat → FieldType := fun k => match k with
  | _ => .int
abbrev wsJ70 : List Cond := u_ws RJ7 TJ7 0
theorem nmJ7 : ∀ a, a < 0 → ∀ b, b < 0 → a ≠ b → (TJ7 a).2.1 ≠ (TJ7 b).2.1 := by decide +kernel
theorem tyJ7_ok : ∀ k, k < 0 → parseFieldDescriptor (TJ7 k).2.2.1 = some (tyJ7 k) := by decide +kernel
abbrev cJ7_fill_d0a16 : ByteArray := prog_25_method_101_code
def yJ7_fill_d0a16 : MethodName := ⟨RJ7, "fill", "([JJ)V"⟩
abbrev cJ7_fill_53178 : ByteArray := prog_25_method_103_code
def yJ7_fill_53178 : MethodName := ⟨RJ7, "fill", "([II)V"⟩
abbrev cJ7_fill_031fb : ByteArray := prog_25_method_109_code
def yJ7_fill_031fb : MethodName := ⟨RJ7, "fill", "([BB)V"⟩
def RJ3 : String := "jdk/internal/util/Preconditions"
def TJ3 : u_T := fun k => match k with
  | _ => ("", "", "", false)
def tyJ3 : Nat → FieldType := fun k => match k with
  | _ => .int
abbrev wsJ30 : List Cond := u_ws RJ3 TJ3 0
theorem nmJ3 : ∀ a, a < 0 → ∀ b, b < 0 → a ≠ b → (TJ3 a).2.1 ≠ (TJ3 b).2.1 := by decide +kernel
theorem tyJ3_ok : ∀ k, k < 0 → parseFieldDescriptor (TJ3 k).2.2.1 = some (tyJ3 k) := by decide +kernel
abbrev cJ3_checkIndex_8e157 : ByteArray := prog_27_method_11_code
def yJ3_checkIndex_8e157 : MethodName := ⟨RJ3, "checkIndex", "(IILjava/util/function/BiFunction;)I"⟩
abbrev cJ3_checkFromToIndex_8c36e : ByteArray := prog_27_method_12_code
def yJ3_checkFromToIndex_8c36e : MethodName := ⟨RJ3, "checkFromToIndex", "(IIILjava/util/function/BiFunction;)I"⟩
def RL : String := "SixBitBoardLaw"
abbrev cL_register : ByteArray := method_3_code
def yL_register : MethodName := ⟨RL, "register", "(LSixBitBoard;I[J)I"⟩
abbrev cL_word : ByteArray := method_4_code
def yL_word : MethodName := ⟨RL, "word", "(LSixBitBoard;I[J)I"⟩
abbrev cL_symbol : ByteArray := method_5_code
def yL_symbol : MethodName := ⟨RL, "symbol", "(LSixBitBoard;[J)I"⟩
abbrev cL_block : ByteArray := method_6_code
def yL_block : MethodName := ⟨RL, "block", "(LSixBitBoard;III[J)I"⟩
abbrev cL_law : ByteArray := code
def yL_law : MethodName := ⟨RL, "law", "([I)Z"⟩
end
section
def uw_0 : List Cond := [Cond.classLink RL 8 RX11, Cond.instantiable RX11 8, Cond.initialized RX11, Cond.classLink RL 27 RX12, Cond.instantiable RX12 94, Cond.initialized RX12, Cond.arrayClass .long, Cond.methodLink RL 26 yX11_init, Cond.instanceMethod yX11_init, Cond.code yX11_init cX11_init 7 none, Cond.methodLink RX11 1 objectInit, Cond.instanceMethod objectInit, Cond.code objectInit ⟨#[0xb1]⟩ 1 none, Cond.arrayClass .int, Cond.arrayClass .byte, Cond.classLink RX11 11 RX9]
def uw_1 : List Cond := [Cond.instantiable RX9 8, Cond.initialized RX9, Cond.classLink RX11 16 RX10, Cond.instantiable RX10 13, Cond.initialized RX10, Cond.classLink RX11 7 RX2, Cond.instantiable RX2 16, Cond.initialized RX2, Cond.classLink RX11 24 RX0, Cond.instantiable RX0 20, Cond.initialized RX0, Cond.classLink RX11 26 RX8, Cond.instantiable RX8 13, Cond.initialized RX8, Cond.fieldLink RX11 32 "SixBitBoard" "tape" "[B", Cond.fieldLink RX11 36 "SixBitBoard" "text" "LSixBitBoard$Text;"]
def uw_2 : List Cond := [Cond.fieldLink RX11 40 "SixBitBoard" "units" "LSixBitBoard$Units;", Cond.fieldLink RX11 44 "SixBitBoard" "machine" "LSixBitBoard$Machine;", Cond.fieldLink RX11 48 "SixBitBoard" "assembler" "LSixBitBoard$Assembler;", Cond.classLink RX11 52 RX7, Cond.instantiable RX7 4, Cond.initialized RX7, Cond.fieldLink RX11 57 "SixBitBoard" "report" "LSixBitBoard$Report;", Cond.classLink RX11 61 RX3, Cond.instantiable RX3 16, Cond.initialized RX3, Cond.fieldLink RX11 66 "SixBitBoard" "monitor" "LSixBitBoard$Monitor;", Cond.methodLink RX11 13 yX9_init, Cond.instanceMethod yX9_init, Cond.code yX9_init cX9_init 2 none, Cond.methodLink RX9 3 objectInit, Cond.fieldLink RX9 11 "SixBitBoard$Text" "row" "[B"]
def uw_3 : List Cond := [Cond.fieldLink RX9 15 "SixBitBoard$Text" "bytes" "[B", Cond.methodLink RX11 18 yX10_init, Cond.instanceMethod yX10_init, Cond.code yX10_init cX10_init 2 none, Cond.methodLink RX10 3 objectInit, Cond.classLink RX10 9 "[I", Cond.fieldLink RX10 11 "SixBitBoard$Units" "media" "[[I", Cond.fieldLink RX10 17 "SixBitBoard$Units" "stands" "[I", Cond.fieldLink RX10 20 "SixBitBoard$Units" "freeAt" "[J", Cond.fieldLink RX10 24 "SixBitBoard$Units" "began" "[J", Cond.arrayClass .boolean, Cond.fieldLink RX10 27 "SixBitBoard$Units" "coming" "[Z", Cond.fieldLink RX10 31 "SixBitBoard$Units" "target" "[I", Cond.fieldLink RX10 34 "SixBitBoard$Units" "words" "[I", Cond.classLink RX10 37 RX6, Cond.instantiable RX6 4]
def uw_4 : List Cond := [Cond.initialized RX6, Cond.fieldLink RX10 40 "SixBitBoard$Units" "reader" "LSixBitBoard$Reader;", Cond.classLink RX10 44 RX4, Cond.instantiable RX4 4, Cond.initialized RX4, Cond.fieldLink RX10 47 "SixBitBoard$Units" "punch" "LSixBitBoard$Paper;", Cond.fieldLink RX10 51 "SixBitBoard$Units" "printer" "LSixBitBoard$Paper;", Cond.fieldLink RX10 54 "SixBitBoard$Units" "typewriter" "LSixBitBoard$Paper;", Cond.fieldLink RX10 57 "SixBitBoard$Units" "memory" "[I", Cond.instanceMethod yX6_init, Cond.code yX6_init cX6_init 1 none, Cond.methodLink RX6 5 objectInit, Cond.methodLink RX10 46 yX4_init, Cond.instanceMethod yX4_init, Cond.code yX4_init cX4_init 2 none, Cond.methodLink RX4 3 objectInit]
def uw_5 : List Cond := [Cond.classLink RX4 11 "[B", Cond.fieldLink RX4 13 "SixBitBoard$Paper" "rows" "[[B", Cond.fieldLink RX4 17 "SixBitBoard$Paper" "lengths" "[I", Cond.fieldLink RX4 21 "SixBitBoard$Paper" "row" "[B", Cond.methodLink RX11 21 yX2_init, Cond.instanceMethod yX2_init, Cond.code yX2_init cX2_init 3 none, Cond.methodLink RX2 5 objectInit, Cond.fieldLink RX2 11 "SixBitBoard$Machine" "registers" "[I", Cond.fieldLink RX2 15 "SixBitBoard$Machine" "status" "I", Cond.fieldLink RX2 19 "SixBitBoard$Machine" "memory" "[I", Cond.fieldLink RX2 22 "SixBitBoard$Machine" "units" "LSixBitBoard$Units;", Cond.instanceMethod yX8_init, Cond.code yX8_init cX8_init 1 none, Cond.methodLink RX8 3 objectInit, Cond.fieldLink RX8 11 "SixBitBoard$Symbols" "names" "[J"]
def uw_6 : List Cond := [Cond.fieldLink RX8 15 "SixBitBoard$Symbols" "values" "[I", Cond.fieldLink RX8 19 "SixBitBoard$Symbols" "standings" "[I", Cond.fieldLink RX8 22 "SixBitBoard$Symbols" "readOf" "[I", Cond.fieldLink RX8 25 "SixBitBoard$Symbols" "readIn" "[I", Cond.fieldLink RX8 28 "SixBitBoard$Symbols" "local" "[I", Cond.fieldLink RX8 31 "SixBitBoard$Symbols" "hasLocal" "[Z", Cond.fieldLink RX8 35 "SixBitBoard$Symbols" "useAt" "[I", Cond.fieldLink RX8 38 "SixBitBoard$Symbols" "useOf" "[I", Cond.fieldLink RX8 41 "SixBitBoard$Symbols" "useWord" "[I", Cond.methodLink RX11 29 yX0_init, Cond.instanceMethod yX0_init, Cond.code yX0_init cX0_init 4 none, Cond.methodLink RX0 3 objectInit, Cond.fieldLink RX0 9 "SixBitBoard$Assembler" "touched" "[J", Cond.fieldLink RX0 15 "SixBitBoard$Assembler" "putIn" "[I", Cond.fieldLink RX0 19 "SixBitBoard$Assembler" "putAt" "[I"]
def uw_7 : List Cond := [Cond.fieldLink RX0 22 "SixBitBoard$Assembler" "localAt" "[I", Cond.fieldLink RX0 25 "SixBitBoard$Assembler" "text" "LSixBitBoard$Text;", Cond.fieldLink RX0 29 "SixBitBoard$Assembler" "memory" "[I", Cond.fieldLink RX0 32 "SixBitBoard$Assembler" "symbols" "LSixBitBoard$Symbols;", Cond.classLink RX0 36 RX5, Cond.instantiable RX5 10, Cond.initialized RX5, Cond.fieldLink RX0 38 "SixBitBoard$Text" "row" "[B", Cond.fieldLink RX0 47 "SixBitBoard$Assembler" "parser" "LSixBitBoard$Parser;", Cond.methodLink RX0 44 yX5_init, Cond.instanceMethod yX5_init, Cond.code yX5_init cX5_init 3 none, Cond.methodLink RX5 3 objectInit, Cond.fieldLink RX5 9 "SixBitBoard$Parser" "row" "[B", Cond.fieldLink RX5 15 "SixBitBoard$Parser" "symbols" "LSixBitBoard$Symbols;", Cond.methodLink RX11 54 yX7_init]
def uw_8 : List Cond := [Cond.instanceMethod yX7_init, Cond.code yX7_init cX7_init 4 none, Cond.methodLink RX7 3 objectInit, Cond.fieldLink RX7 9 "SixBitBoard$Report" "machine" "LSixBitBoard$Machine;", Cond.fieldLink RX7 15 "SixBitBoard$Report" "assembler" "LSixBitBoard$Assembler;", Cond.fieldLink RX7 19 "SixBitBoard$Units" "printer" "LSixBitBoard$Paper;", Cond.fieldLink RX7 25 "SixBitBoard$Report" "printer" "LSixBitBoard$Paper;", Cond.fieldLink RX7 26 "SixBitBoard$Units" "punch" "LSixBitBoard$Paper;", Cond.fieldLink RX7 29 "SixBitBoard$Report" "punch" "LSixBitBoard$Paper;", Cond.methodLink RX11 63 yX3_init, Cond.instanceMethod yX3_init, Cond.code yX3_init cX3_init 2 none, Cond.methodLink RX3 5 objectInit, Cond.fieldLink RX3 11 "SixBitBoard$Monitor" "name" "[B", Cond.fieldLink RX3 17 "SixBitBoard$Monitor" "entries" "[I", Cond.fieldLink RX3 21 "SixBitBoard$Monitor" "deck" "LSixBitBoard$Text;"]
def uw_9 : List Cond := [Cond.methodLink RL 29 yX12_init, Cond.instanceMethod yX12_init, Cond.code yX12_init cX12_init 1 none, Cond.methodLink RX12 3 objectInit, Cond.fieldLink RX12 9 "SixBitBoardModel" "tape" "[B", Cond.fieldLink RX12 13 "SixBitBoardModel" "memory" "[I", Cond.fieldLink RX12 17 "SixBitBoardModel" "registers" "[I", Cond.fieldLink RX12 20 "SixBitBoardModel" "comparison" "I", Cond.fieldLink RX12 24 "SixBitBoardModel" "state" "I", Cond.fieldLink RX12 27 "SixBitBoardModel" "busy" "[J", Cond.fieldLink RX12 31 "SixBitBoardModel" "coming" "[Z", Cond.fieldLink RX12 35 "SixBitBoardModel" "began" "[J", Cond.fieldLink RX12 38 "SixBitBoardModel" "comesTo" "[I", Cond.fieldLink RX12 41 "SixBitBoardModel" "comes" "[I", Cond.fieldLink RX12 44 "SixBitBoardModel" "stands" "[I", Cond.constant RX12 47 (102400)]
def uw_10 : List Cond := [Cond.fieldLink RX12 48 "SixBitBoardModel" "blocks" "[I", Cond.constant RX12 51 (108000), Cond.fieldLink RX12 52 "SixBitBoardModel" "written" "[B", Cond.fieldLink RX12 55 "SixBitBoardModel" "lengths" "[I", Cond.fieldLink RX12 58 "SixBitBoardModel" "lineCounts" "[I", Cond.fieldLink RX12 61 "SixBitBoardModel" "row" "[B", Cond.constant RX12 64 (49152), Cond.fieldLink RX12 65 "SixBitBoardModel" "cardText" "[B", Cond.fieldLink RX12 68 "SixBitBoardModel" "cardFrom" "[I", Cond.fieldLink RX12 71 "SixBitBoardModel" "cardTo" "[I", Cond.fieldLink RX12 74 "SixBitBoardModel" "text" "[B", Cond.fieldLink RX12 77 "SixBitBoardModel" "lineFrom" "[I", Cond.fieldLink RX12 80 "SixBitBoardModel" "lineTo" "[I", Cond.fieldLink RX12 83 "SixBitBoardModel" "isPut" "[Z", Cond.fieldLink RX12 86 "SixBitBoardModel" "firstPut" "[I", Cond.fieldLink RX12 89 "SixBitBoardModel" "symbolKey" "[J"]
def uw_11 : List Cond := [Cond.fieldLink RX12 92 "SixBitBoardModel" "symbolWord" "[I", Cond.fieldLink RX12 95 "SixBitBoardModel" "isDefined" "[Z", Cond.fieldLink RX12 98 "SixBitBoardModel" "useCount" "[I", Cond.fieldLink RX12 101 "SixBitBoardModel" "uses" "[I", Cond.fieldLink RX12 104 "SixBitBoardModel" "localWord" "[I", Cond.fieldLink RX12 107 "SixBitBoardModel" "isLocal" "[Z", Cond.fieldLink RX12 110 "SixBitBoardModel" "futureKind" "[I", Cond.fieldLink RX12 113 "SixBitBoardModel" "futureOf" "[I", Cond.fieldLink RX12 116 "SixBitBoardModel" "futureLine" "[I", Cond.fieldLink RX12 119 "SixBitBoardModel" "futurePlace" "[I", Cond.fieldLink RX12 122 "SixBitBoardModel" "futureWord" "[I", Cond.fieldLink RX12 125 "SixBitBoardModel" "hasWord" "[Z", Cond.fieldLink RX12 128 "SixBitBoardModel" "deckText" "[B", Cond.fieldLink RX12 131 "SixBitBoardModel" "deckFrom" "[I", Cond.fieldLink RX12 134 "SixBitBoardModel" "deckTo" "[I", Cond.fieldLink RX12 137 "SixBitBoardModel" "accountEnd" "[I"]
def uw_12 : List Cond := [Cond.fieldLink RX12 140 "SixBitBoardModel" "accountKind" "[I", Cond.fieldLink RX12 143 "SixBitBoardModel" "accountPlace" "[I", Cond.fieldLink RX12 146 "SixBitBoardModel" "accountTime" "[I", Cond.fieldLink RX12 149 "SixBitBoardModel" "image" "[I", Cond.fieldLink RX12 152 "SixBitBoardModel" "isLate" "[Z", Cond.methodLink RL 30 yX11_feed, Cond.instanceMethod yX11_feed, Cond.selects RX11 yX11_feed yX11_feed, Cond.code yX11_feed cX11_feed 6 (some .boolean), Cond.fieldLink RX11 70 "SixBitBoard" "fed" "I", Cond.methodLink RX11 74 yX11_punchTape, Cond.instanceMethod yX11_punchTape, Cond.selects RX11 yX11_punchTape yX11_punchTape, Cond.code yX11_punchTape cX11_punchTape 3 none, Cond.methodLink RL 34 yX12_feed, Cond.instanceMethod yX12_feed]
def uw_13 : List Cond := [Cond.selects RX12 yX12_feed yX12_feed, Cond.code yX12_feed cX12_feed 6 (some .boolean), Cond.fieldLink RX12 155 "SixBitBoardModel" "thrown" "I", Cond.fieldLink RX12 176 "SixBitBoardModel" "tapeSize" "I", Cond.methodLink RX12 179 yX12_lay, Cond.instanceMethod yX12_lay, Cond.selects RX12 yX12_lay yX12_lay, Cond.code yX12_lay cX12_lay 3 none, Cond.methodLink RL 35 yX11_end, Cond.instanceMethod yX11_end, Cond.selects RX11 yX11_end yX11_end, Cond.code yX11_end cX11_end 2 (some .boolean), Cond.methodLink RL 39 yX12_end, Cond.instanceMethod yX12_end, Cond.selects RX12 yX12_end yX12_end, Cond.code yX12_end cX12_end 2 (some .boolean)]
def uw_14 : List Cond := [Cond.methodLink RL 40 yX11_assemble, Cond.instanceMethod yX11_assemble, Cond.selects RX11 yX11_assemble yX11_assemble, Cond.code yX11_assemble cX11_assemble 3 (some .int), Cond.fieldLink RX11 82 "SixBitBoard$Text" "bytes" "[B", Cond.methodLink RX11 85 arraycopyName, Cond.native arraycopyName, Cond.static arraycopyName, Cond.initialized "java/lang/System", Cond.fieldLink RX11 104 "SixBitBoard$Text" "line" "I", Cond.methodLink RX11 78 yX11_useUpTape, Cond.instanceMethod yX11_useUpTape, Cond.selects RX11 yX11_useUpTape yX11_useUpTape, Cond.code yX11_useUpTape cX11_useUpTape 2 (some .int), Cond.methodLink RX11 91 yX2_clear, Cond.instanceMethod yX2_clear]
def uw_15 : List Cond := [Cond.selects RX2 yX2_clear yX2_clear, Cond.code yX2_clear cX2_clear 1 none, Cond.fieldLink RX2 37 "SixBitBoard$Machine" "overflow" "Z", Cond.fieldLink RX2 41 "SixBitBoard$Machine" "comparison" "I", Cond.fieldLink RX2 44 "SixBitBoard$Machine" "counter" "I", Cond.fieldLink RX2 47 "SixBitBoard$Machine" "time" "J", Cond.fieldLink RX2 51 "SixBitBoard$Machine" "watched" "Z", Cond.fieldLink RX2 54 "SixBitBoard$Machine" "control" "Z", Cond.methodLink RX2 26 yJ7_fill_53178, Cond.static yJ7_fill_53178, Cond.initialized RJ7, Cond.code yJ7_fill_53178 cJ7_fill_53178 4 none, Cond.methodLink RX2 32 yX10_free, Cond.instanceMethod yX10_free, Cond.selects RX10 yX10_free yX10_free, Cond.code yX10_free cX10_free 2 none]
def uw_16 : List Cond := [Cond.fieldLink RX10 66 "SixBitBoard$Units" "under" "I", Cond.methodLink RX10 60 yJ7_fill_d0a16, Cond.static yJ7_fill_d0a16, Cond.code yJ7_fill_d0a16 cJ7_fill_d0a16 5 none, Cond.methodLink RX11 94 yX0_open, Cond.instanceMethod yX0_open, Cond.selects RX0 yX0_open yX0_open, Cond.code yX0_open cX0_open 4 none, Cond.fieldLink RX0 66 "SixBitBoard$Assembler" "puts" "I", Cond.fieldLink RX0 70 "SixBitBoard$Assembler" "location" "I", Cond.fieldLink RX0 75 "SixBitBoard$Assembler" "lowest" "I", Cond.fieldLink RX0 78 "SixBitBoard$Assembler" "lines" "I", Cond.fieldLink RX0 81 "SixBitBoard$Assembler" "words" "I", Cond.fieldLink RX0 84 "SixBitBoard$Assembler" "start" "I", Cond.fieldLink RX0 87 "SixBitBoard$Assembler" "whole" "Z", Cond.methodLink RX0 51 yX9_open]
def uw_17 : List Cond := [Cond.instanceMethod yX9_open, Cond.selects RX9 yX9_open yX9_open, Cond.code yX9_open cX9_open 3 none, Cond.methodLink RX9 18 Lib.Math.max.name, Cond.static Lib.Math.max.name, Cond.initialized "java/lang/Math", Cond.code Lib.Math.max.name Lib.Math.max.code 2 (some .int), Cond.fieldLink RX9 24 "SixBitBoard$Text" "first" "I", Cond.methodLink RX9 28 Lib.Math.min.name, Cond.static Lib.Math.min.name, Cond.code Lib.Math.min.name Lib.Math.min.code 2 (some .int), Cond.fieldLink RX9 31 "SixBitBoard$Text" "limit" "I", Cond.methodLink RX9 34 yX9_reopen, Cond.instanceMethod yX9_reopen, Cond.selects RX9 yX9_reopen yX9_reopen, Cond.code yX9_reopen cX9_reopen 1 none]
def uw_18 : List Cond := [Cond.fieldLink RX9 37 "SixBitBoard$Text" "next" "I", Cond.fieldLink RX9 40 "SixBitBoard$Text" "line" "I", Cond.methodLink RX0 55 yX8_clear, Cond.instanceMethod yX8_clear, Cond.selects RX8 yX8_clear yX8_clear, Cond.code yX8_clear cX8_clear 2 none, Cond.fieldLink RX8 44 "SixBitBoard$Symbols" "count" "I", Cond.fieldLink RX8 48 "SixBitBoard$Symbols" "reads" "I", Cond.fieldLink RX8 51 "SixBitBoard$Symbols" "uses" "I", Cond.methodLink RX0 60 yJ7_fill_d0a16, Cond.methodLink RX11 98 yX0_nextWrong, Cond.instanceMethod yX0_nextWrong, Cond.selects RX0 yX0_nextWrong yX0_nextWrong, Cond.code yX0_nextWrong cX0_nextWrong 3 (some .int), Cond.fieldLink RX0 98 "SixBitBoard$Text" "line" "I", Cond.methodLink RX0 94 yX9_advance]
def uw_19 : List Cond := [Cond.instanceMethod yX9_advance, Cond.selects RX9 yX9_advance yX9_advance, Cond.code yX9_advance cX9_advance 3 (some .boolean), Cond.initialized RX1, Cond.initialized RJ0, Cond.initialized RJ1, Cond.initialized RJ2, Cond.initialized RJ3, Cond.initialized RJ11, Cond.constant RX1 11 (1073741824), Cond.static yX1_value, Cond.code yX1_value cX1_value 1 (some .int), Cond.constant RX1 12 (1073741823), Cond.methodLink RX11 101 yX0_close, Cond.instanceMethod yX0_close, Cond.selects RX0 yX0_close yX0_close]
def uw_20 : List Cond := [Cond.code yX0_close cX0_close 2 none, Cond.fieldLink RX0 91 "SixBitBoard$Assembler" "kind" "I", Cond.methodLink RL 43 yX12_assemble, Cond.instanceMethod yX12_assemble, Cond.selects RX12 yX12_assemble yX12_assemble, Cond.code yX12_assemble cX12_assemble 1 (some .int), Cond.fieldLink RX12 596 "SixBitBoardModel" "inDeck" "Z", Cond.fieldLink RX12 651 "SixBitBoardModel" "errorLine" "I", Cond.fieldLink RX12 602 "SixBitBoardModel" "start" "I", Cond.fieldLink RX12 569 "SixBitBoardModel" "put" "I", Cond.methodLink RX12 657 yX12_copyText, Cond.instanceMethod yX12_copyText, Cond.selects RX12 yX12_copyText yX12_copyText, Cond.code yX12_copyText cX12_copyText 4 none, Cond.fieldLink RX12 433 "SixBitBoardModel" "textSize" "I", Cond.methodLink RX12 661 yX12_assembleText]
def uw_21 : List Cond := [Cond.instanceMethod yX12_assembleText, Cond.selects RX12 yX12_assembleText yX12_assembleText, Cond.code yX12_assembleText cX12_assembleText 2 (some .boolean), Cond.fieldLink RX12 443 "SixBitBoardModel" "line" "I", Cond.fieldLink RX12 436 "SixBitBoardModel" "lines" "I", Cond.fieldLink RX12 469 "SixBitBoardModel" "wrong" "I", Cond.fieldLink RX12 648 "SixBitBoardModel" "error" "I", Cond.fieldLink RX12 654 "SixBitBoardModel" "endLine" "I", Cond.fieldLink RX12 633 "SixBitBoardModel" "assembled" "Z", Cond.methodLink RX12 639 yX12_clearMachine, Cond.instanceMethod yX12_clearMachine, Cond.selects RX12 yX12_clearMachine yX12_clearMachine, Cond.code yX12_clearMachine cX12_clearMachine 2 none, Cond.fieldLink RX12 314 "SixBitBoardModel" "overflow" "Z", Cond.fieldLink RX12 378 "SixBitBoardModel" "counter" "I", Cond.fieldLink RX12 272 "SixBitBoardModel" "time" "J"]
def uw_22 : List Cond := [Cond.fieldLink RX12 241 "SixBitBoardModel" "inControl" "Z", Cond.fieldLink RX12 238 "SixBitBoardModel" "watched" "Z", Cond.fieldLink RX12 235 "SixBitBoardModel" "inJob" "Z", Cond.fieldLink RX12 415 "SixBitBoardModel" "traceLeft" "I", Cond.methodLink RX12 627 yX12_clearMemory, Cond.instanceMethod yX12_clearMemory, Cond.selects RX12 yX12_clearMemory yX12_clearMemory, Cond.code yX12_clearMemory cX12_clearMemory 2 none, Cond.methodLink RX12 630 yX12_freeUnits, Cond.instanceMethod yX12_freeUnits, Cond.selects RX12 yX12_freeUnits yX12_freeUnits, Cond.code yX12_freeUnits cX12_freeUnits 2 none, Cond.methodLink RX12 642 yX12_clearAssembling, Cond.instanceMethod yX12_clearAssembling, Cond.selects RX12 yX12_clearAssembling yX12_clearAssembling, Cond.code yX12_clearAssembling cX12_clearAssembling 2 none]
def uw_23 : List Cond := [Cond.fieldLink RX12 494 "SixBitBoardModel" "location" "I", Cond.fieldLink RX12 463 "SixBitBoardModel" "symbols" "I", Cond.fieldLink RX12 572 "SixBitBoardModel" "futures" "I", Cond.methodLink RX12 636 yX12_findLines, Cond.instanceMethod yX12_findLines, Cond.selects RX12 yX12_findLines yX12_findLines, Cond.code yX12_findLines cX12_findLines 2 none, Cond.methodLink RX12 478 yX12_fail, Cond.instanceMethod yX12_fail, Cond.selects RX12 yX12_fail yX12_fail, Cond.code yX12_fail cX12_fail 2 none, Cond.constant RX12 158 (1073741824), Cond.constantLong RX12 192 (10), Cond.constantLong RX12 194 (48), Cond.methodLink RX12 161 yX12_value, Cond.static yX12_value]
def uw_24 : List Cond := [Cond.code yX12_value cX12_value 1 (some .int), Cond.methodLink RX12 260 yX12_memoryAt, Cond.instanceMethod yX12_memoryAt, Cond.selects RX12 yX12_memoryAt yX12_memoryAt, Cond.code yX12_memoryAt cX12_memoryAt 2 (some .int), Cond.methodLink RL 44 yX11_errors, Cond.instanceMethod yX11_errors, Cond.selects RX11 yX11_errors yX11_errors, Cond.code yX11_errors cX11_errors 3 (some .int), Cond.methodLink RX11 117 yX7_printWrongs, Cond.instanceMethod yX7_printWrongs, Cond.selects RX7 yX7_printWrongs yX7_printWrongs, Cond.code yX7_printWrongs cX7_printWrongs 7 (some .int), Cond.fieldLink RX7 90 "SixBitBoard$Assembler" "text" "LSixBitBoard$Text;", Cond.fieldLink RX7 106 "SixBitBoard$Text" "line" "I", Cond.fieldLink RX7 157 "SixBitBoard$Assembler" "kind" "I"]
def uw_25 : List Cond := [Cond.methodLink RX7 153 yX0_nextWrong, Cond.methodLink RX7 42 yX4_digits, Cond.instanceMethod yX4_digits, Cond.selects RX4 yX4_digits yX4_digits, Cond.code yX4_digits cX4_digits 8 none, Cond.constantLong RX4 38 (10), Cond.methodLink RX4 34 yX4_mark, Cond.instanceMethod yX4_mark, Cond.selects RX4 yX4_mark yX4_mark, Cond.code yX4_mark cX4_mark 3 none, Cond.methodLink RX7 56 yX4_finish, Cond.instanceMethod yX4_finish, Cond.selects RX4 yX4_finish yX4_finish, Cond.code yX4_finish cX4_finish 5 none, Cond.fieldLink RX4 64 "SixBitBoard$Paper" "written" "I", Cond.methodLink RX4 68 arraycopyName]
def uw_26 : List Cond := [Cond.methodLink RX4 74 yJ7_fill_031fb, Cond.static yJ7_fill_031fb, Cond.code yJ7_fill_031fb cJ7_fill_031fb 4 none, Cond.methodLink RL 47 yX12_errors, Cond.instanceMethod yX12_errors, Cond.selects RX12 yX12_errors yX12_errors, Cond.code yX12_errors cX12_errors 1 (some .int), Cond.methodLink RX12 673 yX12_goOver, Cond.instanceMethod yX12_goOver, Cond.selects RX12 yX12_goOver yX12_goOver, Cond.code yX12_goOver cX12_goOver 3 (some .int), Cond.methodLink RX12 670 yX12_sayError, Cond.instanceMethod yX12_sayError, Cond.selects RX12 yX12_sayError yX12_sayError, Cond.code yX12_sayError cX12_sayError 2 none, Cond.methodLink RX12 263 yX12_begin]
def uw_27 : List Cond := [Cond.instanceMethod yX12_begin, Cond.selects RX12 yX12_begin yX12_begin, Cond.code yX12_begin cX12_begin 1 none, Cond.fieldLink RX12 186 "SixBitBoardModel" "rowSize" "I", Cond.methodLink RX12 199 yX12_sayDigits, Cond.instanceMethod yX12_sayDigits, Cond.selects RX12 yX12_sayDigits yX12_sayDigits, Cond.code yX12_sayDigits cX12_sayDigits 7 none, Cond.methodLink RX12 189 yX12_say, Cond.instanceMethod yX12_say, Cond.selects RX12 yX12_say yX12_say, Cond.code yX12_say cX12_say 2 none, Cond.methodLink RX12 667 yX12_toColumn, Cond.instanceMethod yX12_toColumn, Cond.selects RX12 yX12_toColumn yX12_toColumn, Cond.code yX12_toColumn cX12_toColumn 2 none]
def uw_28 : List Cond := [Cond.methodLink RX12 269 yX12_print, Cond.instanceMethod yX12_print, Cond.selects RX12 yX12_print yX12_print, Cond.code yX12_print cX12_print 5 none, Cond.fieldLink RX12 207 "SixBitBoardModel" "cut" "Z", Cond.methodLink RL 48 yX11_error, Cond.instanceMethod yX11_error, Cond.selects RX11 yX11_error yX11_error, Cond.code yX11_error cX11_error 1 (some .int), Cond.fieldLink RX11 121 "SixBitBoard$Assembler" "kind" "I", Cond.methodLink RL 51 yX12_error, Cond.instanceMethod yX12_error, Cond.selects RX12 yX12_error yX12_error, Cond.code yX12_error cX12_error 1 (some .int), Cond.methodLink RL 52 yX11_cards, Cond.instanceMethod yX11_cards]
def uw_29 : List Cond := [Cond.selects RX11 yX11_cards yX11_cards, Cond.code yX11_cards cX11_cards 5 (some .int), Cond.fieldLink RX11 124 "SixBitBoard$Monitor" "deck" "LSixBitBoard$Text;", Cond.fieldLink RX11 127 "SixBitBoard$Units" "reader" "LSixBitBoard$Reader;", Cond.fieldLink RX11 131 "SixBitBoard$Reader" "left" "I", Cond.methodLink RX11 136 yX9_open, Cond.methodLink RX11 139 yX9_advance, Cond.fieldLink RX6 18 "SixBitBoard$Reader" "left" "I", Cond.methodLink RL 55 yX12_cards, Cond.instanceMethod yX12_cards, Cond.selects RX12 yX12_cards yX12_cards, Cond.code yX12_cards cX12_cards 4 (some .int), Cond.methodLink RX12 232 yX12_cardsLeft, Cond.instanceMethod yX12_cardsLeft, Cond.selects RX12 yX12_cardsLeft yX12_cardsLeft, Cond.code yX12_cardsLeft cX12_cardsLeft 1 (some .int)]
def uw_30 : List Cond := [Cond.fieldLink RX12 226 "SixBitBoardModel" "cardCount" "I", Cond.fieldLink RX12 229 "SixBitBoardModel" "cardFirst" "I", Cond.methodLink RX12 718 yX12_gatherCards, Cond.instanceMethod yX12_gatherCards, Cond.selects RX12 yX12_gatherCards yX12_gatherCards, Cond.code yX12_gatherCards cX12_gatherCards 7 none, Cond.methodLink RL 56 yX11_run, Cond.instanceMethod yX11_run, Cond.selects RX11 yX11_run yX11_run, Cond.code yX11_run cX11_run 2 (some .int), Cond.constant RX11 146 (100000), Cond.methodLink RX11 147 yX11_advance, Cond.instanceMethod yX11_advance, Cond.selects RX11 yX11_advance yX11_advance, Cond.code yX11_advance cX11_advance 5 (some .int), Cond.fieldLink RX11 220 "SixBitBoard$Machine" "status" "I"]
def uw_31 : List Cond := [Cond.instanceMethod yX6_hasCard, Cond.selects RX6 yX6_hasCard yX6_hasCard, Cond.code yX6_hasCard cX6_hasCard 2 (some .boolean), Cond.instanceMethod yX10_stored, Cond.selects RX10 yX10_stored yX10_stored, Cond.code yX10_stored cX10_stored 4 (some .int), Cond.instanceMethod yX10_paper, Cond.selects RX10 yX10_paper yX10_paper, Cond.code yX10_paper cX10_paper 2 (some (.object "SixBitBoard$Paper")), Cond.initialized RJ6, Cond.methodLink RL 59 yX12_run, Cond.instanceMethod yX12_run, Cond.selects RX12 yX12_run yX12_run, Cond.code yX12_run cX12_run 2 (some .int), Cond.constant RX12 711 (100000), Cond.methodLink RX12 712 yX12_goOn]
def uw_32 : List Cond := [Cond.instanceMethod yX12_goOn, Cond.selects RX12 yX12_goOn yX12_goOn, Cond.code yX12_goOn cX12_goOn 4 (some .int), Cond.methodLink RL 60 yX11_go, Cond.instanceMethod yX11_go, Cond.selects RX11 yX11_go yX11_go, Cond.code yX11_go cX11_go 1 (some .boolean), Cond.fieldLink RX11 153 "SixBitBoard$Assembler" "whole" "Z", Cond.fieldLink RX11 157 "SixBitBoard$Machine" "memory" "[I", Cond.methodLink RX11 149 yX6_hasCard, Cond.methodLink RL 64 yX12_go, Cond.instanceMethod yX12_go, Cond.selects RX12 yX12_go yX12_go, Cond.code yX12_go cX12_go 2 (some .boolean), Cond.methodLink RL 65 yX11_deck, Cond.instanceMethod yX11_deck]
def uw_33 : List Cond := [Cond.selects RX11 yX11_deck yX11_deck, Cond.code yX11_deck cX11_deck 1 (some .int), Cond.methodLink RL 68 yX12_deck, Cond.instanceMethod yX12_deck, Cond.selects RX12 yX12_deck yX12_deck, Cond.code yX12_deck cX12_deck 1 (some .int), Cond.methodLink RL 69 yX11_list, Cond.instanceMethod yX11_list, Cond.selects RX11 yX11_list yX11_list, Cond.code yX11_list cX11_list 1 (some .int), Cond.methodLink RL 72 yX12_list, Cond.instanceMethod yX12_list, Cond.selects RX12 yX12_list yX12_list, Cond.code yX12_list cX12_list 1 (some .int), Cond.methodLink RL 73 yX11_listing, Cond.instanceMethod yX11_listing]
def uw_34 : List Cond := [Cond.selects RX11 yX11_listing yX11_listing, Cond.code yX11_listing cX11_listing 1 (some .int), Cond.methodLink RL 76 yX12_listing, Cond.instanceMethod yX12_listing, Cond.selects RX12 yX12_listing yX12_listing, Cond.code yX12_listing cX12_listing 2 (some .int), Cond.methodLink RL 77 yX11_names, Cond.instanceMethod yX11_names, Cond.selects RX11 yX11_names yX11_names, Cond.code yX11_names cX11_names 1 (some .int), Cond.methodLink RL 80 yX12_names, Cond.instanceMethod yX12_names, Cond.selects RX12 yX12_names yX12_names, Cond.code yX12_names cX12_names 1 (some .int), Cond.methodLink RL 81 yX11_trace, Cond.instanceMethod yX11_trace]
def uw_35 : List Cond := [Cond.selects RX11 yX11_trace yX11_trace, Cond.code yX11_trace cX11_trace 2 (some .int), Cond.methodLink RL 84 yX12_trace, Cond.instanceMethod yX12_trace, Cond.selects RX12 yX12_trace yX12_trace, Cond.code yX12_trace cX12_trace 3 (some .int), Cond.methodLink RL 85 yX11_mount, Cond.instanceMethod yX11_mount, Cond.selects RX11 yX11_mount yX11_mount, Cond.code yX11_mount cX11_mount 7 (some .int), Cond.methodLink RL 89 yX12_mount, Cond.instanceMethod yX12_mount, Cond.selects RX12 yX12_mount yX12_mount, Cond.code yX12_mount cX12_mount 10 (some .int), Cond.methodLink RL 90 yX11_jobs, Cond.instanceMethod yX11_jobs]
def uw_36 : List Cond := [Cond.selects RX11 yX11_jobs yX11_jobs, Cond.code yX11_jobs cX11_jobs 5 (some .int), Cond.methodLink RX11 185 yX3_seek, Cond.instanceMethod yX3_seek, Cond.selects RX3 yX3_seek yX3_seek, Cond.code yX3_seek cX3_seek 3 (some .boolean), Cond.methodLink RX3 36 yX9_advance, Cond.fieldLink RX3 25 "SixBitBoard$Monitor" "count" "I", Cond.fieldLink RX11 232 "SixBitBoard$Machine" "counter" "I", Cond.fieldLink RX11 244 "SixBitBoard$Machine" "time" "J", Cond.instanceMethod yX3_entry, Cond.selects RX3 yX3_entry yX3_entry, Cond.code yX3_entry cX3_entry 3 (some .int), Cond.methodLink RL 93 yX12_jobs, Cond.instanceMethod yX12_jobs, Cond.selects RX12 yX12_jobs yX12_jobs]
def uw_37 : List Cond := [Cond.code yX12_jobs cX12_jobs 5 (some .int), Cond.fieldLink RX12 764 "SixBitBoardModel" "deckLines" "I", Cond.fieldLink RX12 770 "SixBitBoardModel" "hasImage" "Z", Cond.fieldLink RX12 773 "SixBitBoardModel" "jobsMade" "I", Cond.fieldLink RX12 849 "SixBitBoardModel" "accounts" "I", Cond.methodLink RL 94 yX11_account, Cond.instanceMethod yX11_account, Cond.selects RX11 yX11_account yX11_account, Cond.code yX11_account cX11_account 3 (some .int), Cond.methodLink RX11 210 yX3_entry, Cond.methodLink RL 97 yX12_account, Cond.instanceMethod yX12_account, Cond.selects RX12 yX12_account yX12_account, Cond.code yX12_account cX12_account 3 (some .int), Cond.methodLink RL 98 yX11_summary, Cond.instanceMethod yX11_summary]
def uw_38 : List Cond := [Cond.selects RX11 yX11_summary yX11_summary, Cond.code yX11_summary cX11_summary 1 (some .int), Cond.fieldLink RX11 213 "SixBitBoard$Monitor" "count" "I", Cond.methodLink RL 101 yX12_summary, Cond.instanceMethod yX12_summary, Cond.selects RX12 yX12_summary yX12_summary, Cond.code yX12_summary cX12_summary 5 (some .int), Cond.methodLink RL 102 yX11_state, Cond.instanceMethod yX11_state, Cond.selects RX11 yX11_state yX11_state, Cond.code yX11_state cX11_state 1 (some .int), Cond.methodLink RL 105 yX12_state, Cond.instanceMethod yX12_state, Cond.selects RX12 yX12_state yX12_state, Cond.code yX12_state cX12_state 1 (some .int), Cond.methodLink RL 106 yL_register]
def uw_39 : List Cond := [Cond.static yL_register, Cond.initialized RL, Cond.codeWith yL_register cL_register 4 (some .int) [(0, 9, 12, 13)], Cond.classLink RL 13 "java/util/NoSuchElementException", Cond.methodLink RL 7 yX11_register, Cond.instanceMethod yX11_register, Cond.selects RX11 yX11_register yX11_register, Cond.code yX11_register cX11_register 2 (some .int), Cond.classLink RX11 223 "java/util/NoSuchElementException", Cond.initialized "java/util/NoSuchElementException", Cond.fieldLink RX11 226 "SixBitBoard$Machine" "overflow" "Z", Cond.fieldLink RX11 229 "SixBitBoard$Machine" "comparison" "I", Cond.fieldLink RX11 235 "SixBitBoard$Machine" "registers" "[I", Cond.methodLink RX11 238 yX1_shown, Cond.static yX1_shown, Cond.code yX1_shown cX1_shown 1 (some .int)]
def uw_40 : List Cond := [Cond.methodLink RX1 14 yX1_value, Cond.methodLink RL 111 yX12_register, Cond.instanceMethod yX12_register, Cond.selects RX12 yX12_register yX12_register, Cond.code yX12_register cX12_register 2 (some .int), Cond.methodLink RX12 715 yX12_told, Cond.static yX12_told, Cond.code yX12_told cX12_told 1 (some .int), Cond.methodLink RL 112 yX12_thrown, Cond.instanceMethod yX12_thrown, Cond.selects RX12 yX12_thrown yX12_thrown, Cond.code yX12_thrown cX12_thrown 1 (some .int), Cond.methodLink RL 115 yL_word, Cond.static yL_word, Cond.codeWith yL_word cL_word 4 (some .int) [(0, 9, 12, 13)], Cond.methodLink RL 15 yX11_word]
def uw_41 : List Cond := [Cond.instanceMethod yX11_word, Cond.selects RX11 yX11_word yX11_word, Cond.code yX11_word cX11_word 2 (some .int), Cond.methodLink RL 117 yX12_word, Cond.instanceMethod yX12_word, Cond.selects RX12 yX12_word yX12_word, Cond.code yX12_word cX12_word 2 (some .int), Cond.methodLink RX12 854 yX12_isAddress, Cond.static yX12_isAddress, Cond.code yX12_isAddress cX12_isAddress 1 (some .boolean), Cond.methodLink RL 118 yX11_time, Cond.instanceMethod yX11_time, Cond.selects RX11 yX11_time yX11_time, Cond.code yX11_time cX11_time 1 (some .long), Cond.methodLink RL 122 yX12_time, Cond.instanceMethod yX12_time]
def uw_42 : List Cond := [Cond.selects RX12 yX12_time yX12_time, Cond.code yX12_time cX12_time 1 (some .long), Cond.methodLink RL 123 yL_symbol, Cond.static yL_symbol, Cond.codeWith yL_symbol cL_symbol 3 (some .int) [(0, 8, 11, 13)], Cond.methodLink RL 18 yX11_symbol, Cond.instanceMethod yX11_symbol, Cond.selects RX11 yX11_symbol yX11_symbol, Cond.code yX11_symbol cX11_symbol 4 (some .int), Cond.methodLink RX11 248 yX11_tapeName, Cond.instanceMethod yX11_tapeName, Cond.selects RX11 yX11_tapeName yX11_tapeName, Cond.code yX11_tapeName cX11_tapeName 6 (some .long), Cond.methodLink RL 126 yX12_symbol, Cond.instanceMethod yX12_symbol, Cond.selects RX12 yX12_symbol yX12_symbol]
def uw_43 : List Cond := [Cond.code yX12_symbol cX12_symbol 7 (some .int), Cond.methodLink RL 127 yX11_unit, Cond.instanceMethod yX11_unit, Cond.selects RX11 yX11_unit yX11_unit, Cond.code yX11_unit cX11_unit 2 (some .int), Cond.fieldLink RX11 266 "SixBitBoard$Units" "stands" "[I", Cond.fieldLink RX11 273 "SixBitBoard$Paper" "written" "I", Cond.methodLink RX11 269 yX10_paper, Cond.methodLink RL 130 yX12_unit, Cond.instanceMethod yX12_unit, Cond.selects RX12 yX12_unit yX12_unit, Cond.code yX12_unit cX12_unit 2 (some .int), Cond.methodLink RL 131 yX11_letter, Cond.instanceMethod yX11_letter, Cond.selects RX11 yX11_letter yX11_letter, Cond.code yX11_letter cX11_letter 4 (some .int)]
def uw_44 : List Cond := [Cond.methodLink RX11 276 yX4_letterAt, Cond.instanceMethod yX4_letterAt, Cond.selects RX4 yX4_letterAt yX4_letterAt, Cond.code yX4_letterAt cX4_letterAt 3 (some .int), Cond.methodLink RL 134 yX12_letter, Cond.instanceMethod yX12_letter, Cond.selects RX12 yX12_letter yX12_letter, Cond.code yX12_letter cX12_letter 5 (some .int), Cond.methodLink RL 135 yL_block, Cond.static yL_block, Cond.codeWith yL_block cL_block 6 (some .int) [(0, 12, 15, 13)], Cond.methodLink RL 22 yX11_block, Cond.instanceMethod yX11_block, Cond.selects RX11 yX11_block yX11_block, Cond.code yX11_block cX11_block 5 (some .int), Cond.methodLink RX11 279 yX10_stored]
def uw_45 : List Cond := [Cond.methodLink RL 138 yX12_block, Cond.instanceMethod yX12_block, Cond.selects RX12 yX12_block yX12_block, Cond.code yX12_block cX12_block 4 (some .int), Cond.methodLink RL 139 yX11_tear, Cond.instanceMethod yX11_tear, Cond.selects RX11 yX11_tear yX11_tear, Cond.code yX11_tear cX11_tear 1 none, Cond.fieldLink RX11 282 "SixBitBoard$Units" "punch" "LSixBitBoard$Paper;", Cond.fieldLink RX11 286 "SixBitBoard$Units" "printer" "LSixBitBoard$Paper;", Cond.fieldLink RX11 289 "SixBitBoard$Units" "typewriter" "LSixBitBoard$Paper;", Cond.methodLink RL 142 yX12_tear, Cond.instanceMethod yX12_tear, Cond.selects RX12 yX12_tear yX12_tear, Cond.code yX12_tear cX12_tear 2 none]
def wsL_law0 : List Cond := uw_0 ++ (uw_1 ++ (uw_2 ++ (uw_3 ++ (uw_4 ++ (uw_5 ++ (uw_6 ++ (uw_7 ++ (uw_8 ++ (uw_9 ++ (uw_10 ++ (uw_11 ++ (uw_12 ++ (uw_13 ++ (uw_14 ++ (uw_15 ++ (uw_16 ++ (uw_17 ++ (uw_18 ++ (uw_19 ++ (uw_20 ++ (uw_21 ++ (uw_22 ++ (uw_23 ++ (uw_24 ++ (uw_25 ++ (uw_26 ++ (uw_27 ++ (uw_28 ++ (uw_29 ++ (uw_30 ++ (uw_31 ++ (uw_32 ++ (uw_33 ++ (uw_34 ++ (uw_35 ++ (uw_36 ++ (uw_37 ++ (uw_38 ++ (uw_39 ++ (uw_40 ++ (uw_41 ++ (uw_42 ++ (uw_43 ++ (uw_44 ++ (uw_45 ++ (wsX110 ++ (wsX120 ++ (wsX90 ++ (wsX100 ++ (wsX20 ++ (wsX00 ++ (wsX80 ++ (wsX70 ++ (wsX30 ++ (wsX60 ++ (wsX40 ++ (wsX50)))))))))))))))))))))))))))))))))))))))))))))))))))))))))
def wsL_law : List Cond := wsL_law0 ++ (vx_at0 RX11 225 "java/util/NoSuchElementException" ["java/lang/RuntimeException", "java/lang/Exception"]).filter goodWord
end
section
theorem mem_p {big : List Cond} (ws : List Cond) (ps : List Nat) (hp : ws = ps.filterMap (fun i => big[i]?)) : ∀ w ∈ ws, w ∈ big := by
  intro w hw
  rw [hp] at hw
  obtain ⟨i, -, hi⟩ := List.mem_filterMap.mp hw
  first | exact List.mem_of_getElem? hi | exact List.getElem?_mem hi
set_option maxRecDepth 20000 in
theorem uw_0_in : ∀ w ∈ uw_0, w ∈ lw_tbl := mem_p uw_0 [220, 221, 194, 1823, 1824, 205, 303, 222, 223, 224, 225, 226, 227, 273, 274, 228] (by decide +kernel)
set_option maxRecDepth 20000 in
theorem uw_1_in : ∀ w ∈ uw_1, w ∈ lw_tbl := mem_p uw_1 [229, 195, 275, 276, 196, 374, 375, 199, 444, 445, 200, 446, 447, 201, 707, 709] (by decide +kernel)
set_option maxRecDepth 20000 in
theorem uw_2_in : ∀ w ∈ uw_2, w ∈ lw_tbl := mem_p uw_2 [710, 711, 712, 621, 622, 203, 713, 640, 641, 204, 714, 230, 231, 232, 233, 237] (by decide +kernel)
set_option maxRecDepth 20000 in
theorem uw_3_in : ∀ w ∈ uw_3, w ∈ lw_tbl := mem_p uw_3 [234, 277, 278, 279, 280, 281, 328, 329, 331, 332, 304, 333, 334, 335, 283, 284] (by decide +kernel)
set_option maxRecDepth 20000 in
theorem uw_4_in : ∀ w ∈ uw_4, w ∈ lw_tbl := mem_p uw_4 [197, 337, 305, 306, 198, 340, 343, 345, 327, 286, 287, 288, 307, 308, 309, 310] (by decide +kernel)
set_option maxRecDepth 20000 in
theorem uw_5_in : ∀ w ∈ uw_5, w ∈ lw_tbl := mem_p uw_5 [311, 313, 314, 315, 376, 377, 378, 379, 383, 400, 380, 386, 449, 450, 451, 452] (by decide +kernel)
set_option maxRecDepth 20000 in
theorem uw_6_in : ∀ w ∈ uw_6, w ∈ lw_tbl := mem_p uw_6 [454, 459, 463, 464, 466, 468, 470, 472, 474, 505, 506, 507, 508, 557, 558, 559] (by decide +kernel)
set_option maxRecDepth 20000 in
theorem uw_7_in : ∀ w ∈ uw_7, w ∈ lw_tbl := mem_p uw_7 [561, 550, 552, 553, 509, 510, 202, 238, 556, 511, 512, 513, 514, 515, 516, 623] (by decide +kernel)
set_option maxRecDepth 20000 in
theorem uw_8_in : ∀ w ∈ uw_8, w ∈ lw_tbl := mem_p uw_8 [624, 625, 626, 627, 628, 342, 629, 339, 630, 642, 643, 644, 645, 648, 667, 646] (by decide +kernel)
set_option maxRecDepth 20000 in
theorem uw_9_in : ∀ w ∈ uw_9, w ∈ lw_tbl := mem_p uw_9 [1825, 1826, 1827, 1828, 1833, 1835, 1836, 1838, 1841, 1851, 1852, 1853, 1854, 1855, 1856, 1829] (by decide +kernel)
set_option maxRecDepth 20000 in
theorem uw_10_in : ∀ w ∈ uw_10, w ∈ lw_tbl := mem_p uw_10 [1857, 1830, 1858, 1859, 1860, 1861, 1831, 1864, 1865, 1866, 1869, 1871, 1872, 1881, 1882, 1885] (by decide +kernel)
set_option maxRecDepth 20000 in
theorem uw_11_in : ∀ w ∈ uw_11, w ∈ lw_tbl := mem_p uw_11 [1886, 1887, 1888, 1889, 1890, 1891, 1893, 1894, 1895, 1896, 1897, 1898, 1906, 1907, 1908, 1916] (by decide +kernel)
set_option maxRecDepth 20000 in
theorem uw_12_in : ∀ w ∈ uw_12, w ∈ lw_tbl := mem_p uw_12 [1917, 1918, 1919, 1921, 1924, 732, 733, 734, 735, 708, 736, 738, 0, 739, 2119, 2120] (by decide +kernel)
set_option maxRecDepth 20000 in
theorem uw_13_in : ∀ w ∈ uw_13, w ∈ lw_tbl := mem_p uw_13 [2121, 2122, 1832, 1834, 2123, 2125, 65, 2126, 740, 741, 742, 743, 2127, 2128, 2129, 2130] (by decide +kernel)
set_option maxRecDepth 20000 in
theorem uw_14_in : ∀ w ∈ uw_14, w ∈ lw_tbl := mem_p uw_14 [744, 745, 746, 747, 236, 752, 754, 753, 206, 250, 748, 750, 1, 751, 755, 756] (by decide +kernel)
set_option maxRecDepth 20000 in
theorem uw_15_in : ∀ w ∈ uw_15, w ∈ lw_tbl := mem_p uw_15 [757, 758, 387, 390, 393, 395, 402, 403, 759, 760, 207, 761, 762, 763, 764, 765] (by decide +kernel)
set_option maxRecDepth 20000 in
theorem uw_16_in : ∀ w ∈ uw_16, w ∈ lw_tbl := mem_p uw_16 [336, 766, 767, 768, 769, 770, 771, 772, 560, 562, 563, 568, 570, 572, 578, 773] (by decide +kernel)
set_option maxRecDepth 20000 in
theorem uw_17_in : ∀ w ∈ uw_17, w ∈ lw_tbl := mem_p uw_17 [774, 775, 776, 777, 778, 208, 779, 254, 780, 781, 782, 255, 783, 784, 785, 786] (by decide +kernel)
set_option maxRecDepth 20000 in
theorem uw_18_in : ∀ w ∈ uw_18, w ∈ lw_tbl := mem_p uw_18 [247, 249, 787, 788, 789, 790, 460, 465, 476, 791, 792, 793, 794, 795, 251, 796] (by decide +kernel)
set_option maxRecDepth 20000 in
theorem uw_19_in : ∀ w ∈ uw_19, w ∈ lw_tbl := mem_p uw_19 [797, 798, 799, 209, 210, 211, 212, 213, 214, 993, 1011, 1012, 1013, 1123, 1124, 1125] (by decide +kernel)
set_option maxRecDepth 20000 in
theorem uw_20_in : ∀ w ∈ uw_20, w ∈ lw_tbl := mem_p uw_20 [1126, 575, 2131, 2132, 2133, 2134, 1878, 1876, 1877, 1880, 2135, 2137, 66, 2138, 1870, 2139] (by decide +kernel)
set_option maxRecDepth 20000 in
theorem uw_21_in : ∀ w ∈ uw_21, w ∈ lw_tbl := mem_p uw_21 [2141, 67, 2142, 1899, 1873, 1902, 1875, 1883, 1874, 2143, 2145, 68, 2146, 1837, 1839, 1840] (by decide +kernel)
set_option maxRecDepth 20000 in
theorem uw_22_in : ∀ w ∈ uw_22, w ∈ lw_tbl := mem_p uw_22 [1842, 1843, 1844, 1923, 2147, 2149, 69, 2150, 2151, 2153, 70, 2154, 2155, 2157, 71, 2158] (by decide +kernel)
set_option maxRecDepth 20000 in
theorem uw_23_in : ∀ w ∈ uw_23, w ∈ lw_tbl := mem_p uw_23 [1879, 1884, 1892, 2159, 2161, 72, 2162, 2209, 2211, 80, 2212, 2266, 2288, 2289, 2293, 2294] (by decide +kernel)
set_option maxRecDepth 20000 in
theorem uw_24_in : ∀ w ∈ uw_24, w ∈ lw_tbl := mem_p uw_24 [2295, 2350, 2352, 107, 2353, 1132, 1133, 1134, 1135, 1136, 1137, 1138, 1139, 551, 252, 577] (by decide +kernel)
set_option maxRecDepth 20000 in
theorem uw_25_in : ∀ w ∈ uw_25, w ∈ lw_tbl := mem_p uw_25 [1140, 1141, 1142, 1143, 1144, 1145, 1146, 1147, 1148, 1149, 1154, 1155, 1156, 1157, 316, 1158] (by decide +kernel)
set_option maxRecDepth 20000 in
theorem uw_26_in : ∀ w ∈ uw_26, w ∈ lw_tbl := mem_p uw_26 [1159, 1160, 1161, 2383, 2384, 2385, 2386, 2387, 2389, 115, 2390, 2391, 2393, 116, 2394, 2395] (by decide +kernel)
set_option maxRecDepth 20000 in
theorem uw_27_in : ∀ w ∈ uw_27, w ∈ lw_tbl := mem_p uw_27 [2397, 117, 2398, 1862, 2399, 2401, 118, 2402, 2403, 2405, 119, 2406, 2407, 2409, 120, 2410] (by decide +kernel)
set_option maxRecDepth 20000 in
theorem uw_28_in : ∀ w ∈ uw_28, w ∈ lw_tbl := mem_p uw_28 [2411, 2413, 121, 2414, 1863, 1162, 1163, 1164, 1165, 576, 2415, 2416, 2417, 2418, 1166, 1167] (by decide +kernel)
set_option maxRecDepth 20000 in
theorem uw_29_in : ∀ w ∈ uw_29, w ∈ lw_tbl := mem_p uw_29 [1168, 1169, 647, 338, 293, 1170, 1171, 292, 2676, 2677, 2678, 2679, 2548, 2550, 147, 2551] (by decide +kernel)
set_option maxRecDepth 20000 in
theorem uw_30_in : ∀ w ∈ uw_30, w ∈ lw_tbl := mem_p uw_30 [1868, 1867, 2680, 2682, 173, 2683, 1177, 1178, 1179, 1180, 1181, 1182, 1184, 18, 1185, 401] (by decide +kernel)
set_option maxRecDepth 20000 in
theorem uw_31_in : ∀ w ∈ uw_31, w ∈ lw_tbl := mem_p uw_31 [1285, 1286, 1287, 1367, 1368, 1369, 1383, 1384, 1385, 215, 2483, 2484, 2485, 2486, 2487, 2488] (by decide +kernel)
set_option maxRecDepth 20000 in
theorem uw_32_in : ∀ w ∈ uw_32, w ∈ lw_tbl := mem_p uw_32 [2490, 134, 2491, 1431, 1432, 1433, 1434, 579, 382, 1435, 2688, 2689, 2690, 2691, 1437, 1438] (by decide +kernel)
set_option maxRecDepth 20000 in
theorem uw_33_in : ∀ w ∈ uw_33, w ∈ lw_tbl := mem_p uw_33 [1439, 1440, 2419, 2420, 2421, 2422, 1459, 1460, 1461, 1462, 2439, 2440, 2441, 2442, 1467, 1468] (by decide +kernel)
set_option maxRecDepth 20000 in
theorem uw_34_in : ∀ w ∈ uw_34, w ∈ lw_tbl := mem_p uw_34 [1469, 1470, 2459, 2460, 2461, 2462, 1481, 1482, 1483, 1484, 2467, 2468, 2469, 2470, 1510, 1511] (by decide +kernel)
set_option maxRecDepth 20000 in
theorem uw_35_in : ∀ w ∈ uw_35, w ∈ lw_tbl := mem_p uw_35 [1512, 1513, 2664, 2665, 2666, 2667, 1514, 1515, 1516, 1517, 2692, 2693, 2694, 2695, 1524, 1525] (by decide +kernel)
set_option maxRecDepth 20000 in
theorem uw_36_in : ∀ w ∈ uw_36, w ∈ lw_tbl := mem_p uw_36 [1526, 1527, 1528, 1529, 1530, 1531, 1532, 668, 394, 397, 1659, 1660, 1661, 2696, 2697, 2698] (by decide +kernel)
set_option maxRecDepth 20000 in
theorem uw_37_in : ∀ w ∈ uw_37, w ∈ lw_tbl := mem_p uw_37 [2699, 1909, 1920, 1915, 1914, 1680, 1681, 1682, 1683, 1684, 2794, 2795, 2796, 2797, 1685, 1686] (by decide +kernel)
set_option maxRecDepth 20000 in
theorem uw_38_in : ∀ w ∈ uw_38, w ∈ lw_tbl := mem_p uw_38 [1687, 1688, 670, 2798, 2799, 2800, 2801, 1695, 1696, 1697, 1698, 2803, 2804, 2805, 2806, 1720] (by decide +kernel)
set_option maxRecDepth 20000 in
theorem uw_39_in : ∀ w ∈ uw_39, w ∈ lw_tbl := mem_p uw_39 [1721, 193, 1722, 1723, 1724, 1725, 1726, 1727, 1728, 219, 389, 392, 385, 1789, 1790, 1791] (by decide +kernel)
set_option maxRecDepth 20000 in
theorem uw_40_in : ∀ w ∈ uw_40, w ∈ lw_tbl := mem_p uw_40 [1793, 2807, 2808, 2809, 2810, 2672, 2673, 2674, 2115, 2116, 2117, 2118, 1794, 1795, 1796, 1797] (by decide +kernel)
set_option maxRecDepth 20000 in
theorem uw_41_in : ∀ w ∈ uw_41, w ∈ lw_tbl := mem_p uw_41 [1798, 1799, 1800, 2811, 2812, 2813, 2814, 2815, 2816, 2817, 1699, 1700, 1701, 1702, 2818, 2819] (by decide +kernel)
set_option maxRecDepth 20000 in
theorem uw_42_in : ∀ w ∈ uw_42, w ∈ lw_tbl := mem_p uw_42 [2820, 2821, 1801, 1802, 1803, 1804, 1805, 1806, 1807, 1808, 1810, 64, 1811, 2668, 2669, 2670] (by decide +kernel)
set_option maxRecDepth 20000 in
theorem uw_43_in : ∀ w ∈ uw_43, w ∈ lw_tbl := mem_p uw_43 [2671, 1703, 1704, 1705, 1706, 330, 317, 1707, 2822, 2823, 2824, 2825, 1708, 1709, 1710, 1711] (by decide +kernel)
set_option maxRecDepth 20000 in
theorem uw_44_in : ∀ w ∈ uw_44, w ∈ lw_tbl := mem_p uw_44 [1712, 1713, 1714, 1715, 2826, 2827, 2828, 2829, 1815, 1816, 1817, 1818, 1819, 1820, 1821, 1822] (by decide +kernel)
set_option maxRecDepth 20000 in
theorem uw_45_in : ∀ w ∈ uw_45, w ∈ lw_tbl := mem_p uw_45 [2830, 2831, 2832, 2833, 1716, 1717, 1718, 1719, 341, 344, 346, 2834, 2835, 2836, 2837] (by decide +kernel)
set_option maxRecDepth 20000 in
theorem wsX110_in : ∀ w ∈ wsX110, w ∈ lw_tbl := mem_p wsX110 [715, 717, 719, 721, 723, 725, 727, 729] (by decide +kernel)
set_option maxRecDepth 20000 in
theorem wsX120_in : ∀ w ∈ wsX120, w ∈ lw_tbl := mem_p wsX120 [1926, 1928, 1930, 1932, 1934, 1936, 1938, 1940, 1942, 1944, 1946, 1948, 1950, 1952, 1954, 1956, 1958, 1960, 1962, 1964, 1966, 1968, 1970, 1972, 1974, 1976, 1978, 1980, 1982, 1984, 1986, 1988, 1990, 1992, 1994, 1996, 1998, 2000, 2002, 2004, 2006, 2008, 2010, 2012, 2014, 2016, 2018, 2020, 2022, 2024, 2026, 2028, 2030, 2032, 2034, 2036, 2038, 2040, 2042, 2044, 2046, 2048, 2050, 2052, 2054, 2056, 2058, 2060, 2062, 2064, 2066, 2068, 2070, 2072, 2074, 2076, 2078, 2080, 2082, 2084, 2086, 2088, 2090, 2092, 2094, 2096, 2098, 2100, 2102, 2104, 2106, 2108, 2110, 2112] (by decide +kernel)
set_option maxRecDepth 20000 in
theorem wsX90_in : ∀ w ∈ wsX90, w ∈ lw_tbl := mem_p wsX90 [256, 258, 260, 262, 264, 266, 268, 270] (by decide +kernel)
set_option maxRecDepth 20000 in
theorem wsX100_in : ∀ w ∈ wsX100, w ∈ lw_tbl := mem_p wsX100 [347, 349, 351, 353, 355, 357, 359, 361, 363, 365, 367, 369, 371] (by decide +kernel)
set_option maxRecDepth 20000 in
theorem wsX20_in : ∀ w ∈ wsX20, w ∈ lw_tbl := mem_p wsX20 [411, 413, 415, 417, 419, 421, 423, 425, 427, 429, 431, 433, 435, 437, 439, 441] (by decide +kernel)
set_option maxRecDepth 20000 in
theorem wsX00_in : ∀ w ∈ wsX00, w ∈ lw_tbl := mem_p wsX00 [580, 582, 584, 586, 588, 590, 592, 594, 596, 598, 600, 602, 604, 606, 608, 610, 612, 614, 616, 618] (by decide +kernel)
set_option maxRecDepth 20000 in
theorem wsX80_in : ∀ w ∈ wsX80, w ∈ lw_tbl := mem_p wsX80 [478, 480, 482, 484, 486, 488, 490, 492, 494, 496, 498, 500, 502] (by decide +kernel)
set_option maxRecDepth 20000 in
theorem wsX70_in : ∀ w ∈ wsX70, w ∈ lw_tbl := mem_p wsX70 [631, 633, 635, 637] (by decide +kernel)
set_option maxRecDepth 20000 in
theorem wsX30_in : ∀ w ∈ wsX30, w ∈ lw_tbl := mem_p wsX30 [674, 676, 678, 680, 682, 684, 686, 688, 690, 692, 694, 696, 698, 700, 702, 704] (by decide +kernel)
set_option maxRecDepth 20000 in
theorem wsX60_in : ∀ w ∈ wsX60, w ∈ lw_tbl := mem_p wsX60 [294, 296, 298, 300] (by decide +kernel)
set_option maxRecDepth 20000 in
theorem wsX40_in : ∀ w ∈ wsX40, w ∈ lw_tbl := mem_p wsX40 [318, 320, 322, 324] (by decide +kernel)
set_option maxRecDepth 20000 in
theorem wsX50_in : ∀ w ∈ wsX50, w ∈ lw_tbl := mem_p wsX50 [529, 531, 533, 535, 537, 539, 541, 543, 545, 547] (by decide +kernel)
theorem wsL_law_in0 : ∀ w ∈ wsL_law0, w ∈ lw_tbl := fun w h => (List.mem_append.mp h).elim (fun h => uw_0_in w h) (fun h => (List.mem_append.mp h).elim (fun h => uw_1_in w h) (fun h => (List.mem_append.mp h).elim (fun h => uw_2_in w h) (fun h => (List.mem_append.mp h).elim (fun h => uw_3_in w h) (fun h => (List.mem_append.mp h).elim (fun h => uw_4_in w h) (fun h => (List.mem_append.mp h).elim (fun h => uw_5_in w h) (fun h => (List.mem_append.mp h).elim (fun h => uw_6_in w h) (fun h => (List.mem_append.mp h).elim (fun h => uw_7_in w h) (fun h => (List.mem_append.mp h).elim (fun h => uw_8_in w h) (fun h => (List.mem_append.mp h).elim (fun h => uw_9_in w h) (fun h => (List.mem_append.mp h).elim (fun h => uw_10_in w h) (fun h => (List.mem_append.mp h).elim (fun h => uw_11_in w h) (fun h => (List.mem_append.mp h).elim (fun h => uw_12_in w h) (fun h => (List.mem_append.mp h).elim (fun h => uw_13_in w h) (fun h => (List.mem_append.mp h).elim (fun h => uw_14_in w h) (fun h => (List.mem_append.mp h).elim (fun h => uw_15_in w h) (fun h => (List.mem_append.mp h).elim (fun h => uw_16_in w h) (fun h => (List.mem_append.mp h).elim (fun h => uw_17_in w h) (fun h => (List.mem_append.mp h).elim (fun h => uw_18_in w h) (fun h => (List.mem_append.mp h).elim (fun h => uw_19_in w h) (fun h => (List.mem_append.mp h).elim (fun h => uw_20_in w h) (fun h => (List.mem_append.mp h).elim (fun h => uw_21_in w h) (fun h => (List.mem_append.mp h).elim (fun h => uw_22_in w h) (fun h => (List.mem_append.mp h).elim (fun h => uw_23_in w h) (fun h => (List.mem_append.mp h).elim (fun h => uw_24_in w h) (fun h => (List.mem_append.mp h).elim (fun h => uw_25_in w h) (fun h => (List.mem_append.mp h).elim (fun h => uw_26_in w h) (fun h => (List.mem_append.mp h).elim (fun h => uw_27_in w h) (fun h => (List.mem_append.mp h).elim (fun h => uw_28_in w h) (fun h => (List.mem_append.mp h).elim (fun h => uw_29_in w h) (fun h => (List.mem_append.mp h).elim (fun h => uw_30_in w h) (fun h => (List.mem_append.mp h).elim (fun h => uw_31_in w h) (fun h => (List.mem_append.mp h).elim (fun h => uw_32_in w h) (fun h => (List.mem_append.mp h).elim (fun h => uw_33_in w h) (fun h => (List.mem_append.mp h).elim (fun h => uw_34_in w h) (fun h => (List.mem_append.mp h).elim (fun h => uw_35_in w h) (fun h => (List.mem_append.mp h).elim (fun h => uw_36_in w h) (fun h => (List.mem_append.mp h).elim (fun h => uw_37_in w h) (fun h => (List.mem_append.mp h).elim (fun h => uw_38_in w h) (fun h => (List.mem_append.mp h).elim (fun h => uw_39_in w h) (fun h => (List.mem_append.mp h).elim (fun h => uw_40_in w h) (fun h => (List.mem_append.mp h).elim (fun h => uw_41_in w h) (fun h => (List.mem_append.mp h).elim (fun h => uw_42_in w h) (fun h => (List.mem_append.mp h).elim (fun h => uw_43_in w h) (fun h => (List.mem_append.mp h).elim (fun h => uw_44_in w h) (fun h => (List.mem_append.mp h).elim (fun h => uw_45_in w h) (fun h => (List.mem_append.mp h).elim (fun h => wsX110_in w h) (fun h => (List.mem_append.mp h).elim (fun h => wsX120_in w h) (fun h => (List.mem_append.mp h).elim (fun h => wsX90_in w h) (fun h => (List.mem_append.mp h).elim (fun h => wsX100_in w h) (fun h => (List.mem_append.mp h).elim (fun h => wsX20_in w h) (fun h => (List.mem_append.mp h).elim (fun h => wsX00_in w h) (fun h => (List.mem_append.mp h).elim (fun h => wsX80_in w h) (fun h => (List.mem_append.mp h).elim (fun h => wsX70_in w h) (fun h => (List.mem_append.mp h).elim (fun h => wsX30_in w h) (fun h => (List.mem_append.mp h).elim (fun h => wsX60_in w h) (fun h => (List.mem_append.mp h).elim (fun h => wsX40_in w h) (fun h => wsX50_in w h)))))))))))))))))))))))))))))))))))))))))))))))))))))))))
end
section
theorem wsL_law_x0 : ∀ w ∈ (vx_at0 RX11 225 "java/util/NoSuchElementException" ["java/lang/RuntimeException", "java/lang/Exception"]).filter goodWord, w ∈ lw_tbl := by decide +kernel
theorem wsL_law_in : ∀ w ∈ wsL_law, w ∈ lw_tbl := fun w h => (List.mem_append.mp h).elim (fun h => wsL_law_in0 w h) (fun h => wsL_law_x0 w h)
theorem inlX0 : ∀ w ∈ wsX00, w ∈ wsL_law := fun _ h => List.mem_append_left _ (List.mem_append_right _ (List.mem_append_right _ (List.mem_append_right _ (List.mem_append_right _ (List.mem_append_right _ (List.mem_append_right _ (List.mem_append_right _ (List.mem_append_right _ (List.mem_append_right _ (List.mem_append_right _ (List.mem_append_right _ (List.mem_append_right _ (List.mem_append_right _ (List.mem_append_right _ (List.mem_append_right _ (List.mem_append_right _ (List.mem_append_right _ (List.mem_append_right _ (List.mem_append_right _ (List.mem_append_right _ (List.mem_append_right _ (List.mem_append_right _ (List.mem_append_right _ (List.mem_append_right _ (List.mem_append_right _ (List.mem_append_right _ (List.mem_append_right _ (List.mem_append_right _ (List.mem_append_right _ (List.mem_append_right _ (List.mem_append_right _ (List.mem_append_right _ (List.mem_append_right _ (List.mem_append_right _ (List.mem_append_right _ (List.mem_append_right _ (List.mem_append_right _ (List.mem_append_right _ (List.mem_append_right _ (List.mem_append_right _ (List.mem_append_right _ (List.mem_append_right _ (List.mem_append_right _ (List.mem_append_right _ (List.mem_append_right _ (List.mem_append_right _ (List.mem_append_right _ (List.mem_append_right _ (List.mem_append_right _ (List.mem_append_right _ (List.mem_append_right _ (List.mem_append_left _ h))))))))))))))))))))))))))))))))))))))))))))))))))))
theorem inX0 : ∀ w ∈ wsX00, w ∈ lw_tbl := fun w h => wsL_law_in w (inlX0 w h)
theorem inlX2 : ∀ w ∈ wsX20, w ∈ wsL_law := fun _ h => List.mem_append_left _ (List.mem_append_right _ (List.mem_append_right _ (List.mem_append_right _ (List.mem_append_right _ (List.mem_append_right _ (List.mem_append_right _ (List.mem_append_right _ (List.mem_append_right _ (List.mem_append_right _ (List.mem_append_right _ (List.mem_append_right _ (List.mem_append_right _ (List.mem_append_right _ (List.mem_append_right _ (List.mem_append_right _ (List.mem_append_right _ (List.mem_append_right _ (List.mem_append_right _ (List.mem_append_right _ (List.mem_append_right _ (List.mem_append_right _ (List.mem_append_right _ (List.mem_append_right _ (List.mem_append_right _ (List.mem_append_right _ (List.mem_append_right _ (List.mem_append_right _ (List.mem_append_right _ (List.mem_append_right _ (List.mem_append_right _ (List.mem_append_right _ (List.mem_append_right _ (List.mem_append_right _ (List.mem_append_right _ (List.mem_append_right _ (List.mem_append_right _ (List.mem_append_right _ (List.mem_append_right _ (List.mem_append_right _ (List.mem_append_right _ (List.mem_append_right _ (List.mem_append_right _ (List.mem_append_right _ (List.mem_append_right _ (List.mem_append_right _ (List.mem_append_right _ (List.mem_append_right _ (List.mem_append_right _ (List.mem_append_right _ (List.mem_append_right _ (List.mem_append_left _ h)))))))))))))))))))))))))))))))))))))))))))))))))))
theorem inX2 : ∀ w ∈ wsX20, w ∈ lw_tbl := fun w h => wsL_law_in w (inlX2 w h)
theorem inlX3 : ∀ w ∈ wsX30, w ∈ wsL_law := fun _ h => List.mem_append_left _ (List.mem_append_right _ (List.mem_append_right _ (List.mem_append_right _ (List.mem_append_right _ (List.mem_append_right _ (List.mem_append_right _ (List.mem_append_right _ (List.mem_append_right _ (List.mem_append_right _ (List.mem_append_right _ (List.mem_append_right _ (List.mem_append_right _ (List.mem_append_right _ (List.mem_append_right _ (List.mem_append_right _ (List.mem_append_right _ (List.mem_append_right _ (List.mem_append_right _ (List.mem_append_right _ (List.mem_append_right _ (List.mem_append_right _ (List.mem_append_right _ (List.mem_append_right _ (List.mem_append_right _ (List.mem_append_right _ (List.mem_append_right _ (List.mem_append_right _ (List.mem_append_right _ (List.mem_append_right _ (List.mem_append_right _ (List.mem_append_right _ (List.mem_append_right _ (List.mem_append_right _ (List.mem_append_right _ (List.mem_append_right _ (List.mem_append_right _ (List.mem_append_right _ (List.mem_append_right _ (List.mem_append_right _ (List.mem_append_right _ (List.mem_append_right _ (List.mem_append_right _ (List.mem_append_right _ (List.mem_append_right _ (List.mem_append_right _ (List.mem_append_right _ (List.mem_append_right _ (List.mem_append_right _ (List.mem_append_right _ (List.mem_append_right _ (List.mem_append_right _ (List.mem_append_right _ (List.mem_append_right _ (List.mem_append_right _ (List.mem_append_left _ h)))))))))))))))))))))))))))))))))))))))))))))))))))))))
theorem inX3 : ∀ w ∈ wsX30, w ∈ lw_tbl := fun w h => wsL_law_in w (inlX3 w h)
theorem inlX4 : ∀ w ∈ wsX40, w ∈ wsL_law := fun _ h => List.mem_append_left _ (List.mem_append_right _ (List.mem_append_right _ (List.mem_append_right _ (List.mem_append_right _ (List.mem_append_right _ (List.mem_append_right _ (List.mem_append_right _ (List.mem_append_right _ (List.mem_append_right _ (List.mem_append_right _ (List.mem_append_right _ (List.mem_append_right _ (List.mem_append_right _ (List.mem_append_right _ (List.mem_append_right _ (List.mem_append_right _ (List.mem_append_right _ (List.mem_append_right _ (List.mem_append_right _ (List.mem_append_right _ (List.mem_append_right _ (List.mem_append_right _ (List.mem_append_right _ (List.mem_append_right _ (List.mem_append_right _ (List.mem_append_right _ (List.mem_append_right _ (List.mem_append_right _ (List.mem_append_right _ (List.mem_append_right _ (List.mem_append_right _ (List.mem_append_right _ (List.mem_append_right _ (List.mem_append_right _ (List.mem_append_right _ (List.mem_append_right _ (List.mem_append_right _ (List.mem_append_right _ (List.mem_append_right _ (List.mem_append_right _ (List.mem_append_right _ (List.mem_append_right _ (List.mem_append_right _ (List.mem_append_right _ (List.mem_append_right _ (List.mem_append_right _ (List.mem_append_right _ (List.mem_append_right _ (List.mem_append_right _ (List.mem_append_right _ (List.mem_append_right _ (List.mem_append_right _ (List.mem_append_right _ (List.mem_append_right _ (List.mem_append_right _ (List.mem_append_right _ (List.mem_append_left _ h)))))))))))))))))))))))))))))))))))))))))))))))))))))))))
theorem inX4 : ∀ w ∈ wsX40, w ∈ lw_tbl := fun w h => wsL_law_in w (inlX4 w h)
theorem inlX5 : ∀ w ∈ wsX50, w ∈ wsL_law := fun _ h => List.mem_append_left _ (List.mem_append_right _ (List.mem_append_right _ (List.mem_append_right _ (List.mem_append_right _ (List.mem_append_right _ (List.mem_append_right _ (List.mem_append_right _ (List.mem_append_right _ (List.mem_append_right _ (List.mem_append_right _ (List.mem_append_right _ (List.mem_append_right _ (List.mem_append_right _ (List.mem_append_right _ (List.mem_append_right _ (List.mem_append_right _ (List.mem_append_right _ (List.mem_append_right _ (List.mem_append_right _ (List.mem_append_right _ (List.mem_append_right _ (List.mem_append_right _ (List.mem_append_right _ (List.mem_append_right _ (List.mem_append_right _ (List.mem_append_right _ (List.mem_append_right _ (List.mem_append_right _ (List.mem_append_right _ (List.mem_append_right _ (List.mem_append_right _ (List.mem_append_right _ (List.mem_append_right _ (List.mem_append_right _ (List.mem_append_right _ (List.mem_append_right _ (List.mem_append_right _ (List.mem_append_right _ (List.mem_append_right _ (List.mem_append_right _ (List.mem_append_right _ (List.mem_append_right _ (List.mem_append_right _ (List.mem_append_right _ (List.mem_append_right _ (List.mem_append_right _ (List.mem_append_right _ (List.mem_append_right _ (List.mem_append_right _ (List.mem_append_right _ (List.mem_append_right _ (List.mem_append_right _ (List.mem_append_right _ (List.mem_append_right _ (List.mem_append_right _ (List.mem_append_right _ (List.mem_append_right _ h)))))))))))))))))))))))))))))))))))))))))))))))))))))))))
theorem inX5 : ∀ w ∈ wsX50, w ∈ lw_tbl := fun w h => wsL_law_in w (inlX5 w h)
theorem inlX6 : ∀ w ∈ wsX60, w ∈ wsL_law := fun _ h => List.mem_append_left _ (List.mem_append_right _ (List.mem_append_right _ (List.mem_append_right _ (List.mem_append_right _ (List.mem_append_right _ (List.mem_append_right _ (List.mem_append_right _ (List.mem_append_right _ (List.mem_append_right _ (List.mem_append_right _ (List.mem_append_right _ (List.mem_append_right _ (List.mem_append_right _ (List.mem_append_right _ (List.mem_append_right _ (List.mem_append_right _ (List.mem_append_right _ (List.mem_append_right _ (List.mem_append_right _ (List.mem_append_right _ (List.mem_append_right _ (List.mem_append_right _ (List.mem_append_right _ (List.mem_append_right _ (List.mem_append_right _ (List.mem_append_right _ (List.mem_append_right _ (List.mem_append_right _ (List.mem_append_right _ (List.mem_append_right _ (List.mem_append_right _ (List.mem_append_right _ (List.mem_append_right _ (List.mem_append_right _ (List.mem_append_right _ (List.mem_append_right _ (List.mem_append_right _ (List.mem_append_right _ (List.mem_append_right _ (List.mem_append_right _ (List.mem_append_right _ (List.mem_append_right _ (List.mem_append_right _ (List.mem_append_right _ (List.mem_append_right _ (List.mem_append_right _ (List.mem_append_right _ (List.mem_append_right _ (List.mem_append_right _ (List.mem_append_right _ (List.mem_append_right _ (List.mem_append_right _ (List.mem_append_right _ (List.mem_append_right _ (List.mem_append_right _ (List.mem_append_left _ h))))))))))))))))))))))))))))))))))))))))))))))))))))))))
theorem inX6 : ∀ w ∈ wsX60, w ∈ lw_tbl := fun w h => wsL_law_in w (inlX6 w h)
theorem inlX7 : ∀ w ∈ wsX70, w ∈ wsL_law := fun _ h => List.mem_append_left _ (List.mem_append_right _ (List.mem_append_right _ (List.mem_append_right _ (List.mem_append_right _ (List.mem_append_right _ (List.mem_append_right _ (List.mem_append_right _ (List.mem_append_right _ (List.mem_append_right _ (List.mem_append_right _ (List.mem_append_right _ (List.mem_append_right _ (List.mem_append_right _ (List.mem_append_right _ (List.mem_append_right _ (List.mem_append_right _ (List.mem_append_right _ (List.mem_append_right _ (List.mem_append_right _ (List.mem_append_right _ (List.mem_append_right _ (List.mem_append_right _ (List.mem_append_right _ (List.mem_append_right _ (List.mem_append_right _ (List.mem_append_right _ (List.mem_append_right _ (List.mem_append_right _ (List.mem_append_right _ (List.mem_append_right _ (List.mem_append_right _ (List.mem_append_right _ (List.mem_append_right _ (List.mem_append_right _ (List.mem_append_right _ (List.mem_append_right _ (List.mem_append_right _ (List.mem_append_right _ (List.mem_append_right _ (List.mem_append_right _ (List.mem_append_right _ (List.mem_append_right _ (List.mem_append_right _ (List.mem_append_right _ (List.mem_append_right _ (List.mem_append_right _ (List.mem_append_right _ (List.mem_append_right _ (List.mem_append_right _ (List.mem_append_right _ (List.mem_append_right _ (List.mem_append_right _ (List.mem_append_right _ (List.mem_append_left _ h))))))))))))))))))))))))))))))))))))))))))))))))))))))
theorem inX7 : ∀ w ∈ wsX70, w ∈ lw_tbl := fun w h => wsL_law_in w (inlX7 w h)
theorem inlX8 : ∀ w ∈ wsX80, w ∈ wsL_law := fun _ h => List.mem_append_left _ (List.mem_append_right _ (List.mem_append_right _ (List.mem_append_right _ (List.mem_append_right _ (List.mem_append_right _ (List.mem_append_right _ (List.mem_append_right _ (List.mem_append_right _ (List.mem_append_right _ (List.mem_append_right _ (List.mem_append_right _ (List.mem_append_right _ (List.mem_append_right _ (List.mem_append_right _ (List.mem_append_right _ (List.mem_append_right _ (List.mem_append_right _ (List.mem_append_right _ (List.mem_append_right _ (List.mem_append_right _ (List.mem_append_right _ (List.mem_append_right _ (List.mem_append_right _ (List.mem_append_right _ (List.mem_append_right _ (List.mem_append_right _ (List.mem_append_right _ (List.mem_append_right _ (List.mem_append_right _ (List.mem_append_right _ (List.mem_append_right _ (List.mem_append_right _ (List.mem_append_right _ (List.mem_append_right _ (List.mem_append_right _ (List.mem_append_right _ (List.mem_append_right _ (List.mem_append_right _ (List.mem_append_right _ (List.mem_append_right _ (List.mem_append_right _ (List.mem_append_right _ (List.mem_append_right _ (List.mem_append_right _ (List.mem_append_right _ (List.mem_append_right _ (List.mem_append_right _ (List.mem_append_right _ (List.mem_append_right _ (List.mem_append_right _ (List.mem_append_right _ (List.mem_append_right _ (List.mem_append_left _ h)))))))))))))))))))))))))))))))))))))))))))))))))))))
theorem inX8 : ∀ w ∈ wsX80, w ∈ lw_tbl := fun w h => wsL_law_in w (inlX8 w h)
theorem inlX9 : ∀ w ∈ wsX90, w ∈ wsL_law := fun _ h => List.mem_append_left _ (List.mem_append_right _ (List.mem_append_right _ (List.mem_append_right _ (List.mem_append_right _ (List.mem_append_right _ (List.mem_append_right _ (List.mem_append_right _ (List.mem_append_right _ (List.mem_append_right _ (List.mem_append_right _ (List.mem_append_right _ (List.mem_append_right _ (List.mem_append_right _ (List.mem_append_right _ (List.mem_append_right _ (List.mem_append_right _ (List.mem_append_right _ (List.mem_append_right _ (List.mem_append_right _ (List.mem_append_right _ (List.mem_append_right _ (List.mem_append_right _ (List.mem_append_right _ (List.mem_append_right _ (List.mem_append_right _ (List.mem_append_right _ (List.mem_append_right _ (List.mem_append_right _ (List.mem_append_right _ (List.mem_append_right _ (List.mem_append_right _ (List.mem_append_right _ (List.mem_append_right _ (List.mem_append_right _ (List.mem_append_right _ (List.mem_append_right _ (List.mem_append_right _ (List.mem_append_right _ (List.mem_append_right _ (List.mem_append_right _ (List.mem_append_right _ (List.mem_append_right _ (List.mem_append_right _ (List.mem_append_right _ (List.mem_append_right _ (List.mem_append_right _ (List.mem_append_right _ (List.mem_append_right _ (List.mem_append_left _ h)))))))))))))))))))))))))))))))))))))))))))))))))
theorem inX9 : ∀ w ∈ wsX90, w ∈ lw_tbl := fun w h => wsL_law_in w (inlX9 w h)
theorem inlX10 : ∀ w ∈ wsX100, w ∈ wsL_law := fun _ h => List.mem_append_left _ (List.mem_append_right _ (List.mem_append_right _ (List.mem_append_right _ (List.mem_append_right _ (List.mem_append_right _ (List.mem_append_right _ (List.mem_append_right _ (List.mem_append_right _ (List.mem_append_right _ (List.mem_append_right _ (List.mem_append_right _ (List.mem_append_right _ (List.mem_append_right _ (List.mem_append_right _ (List.mem_append_right _ (List.mem_append_right _ (List.mem_append_right _ (List.mem_append_right _ (List.mem_append_right _ (List.mem_append_right _ (List.mem_append_right _ (List.mem_append_right _ (List.mem_append_right _ (List.mem_append_right _ (List.mem_append_right _ (List.mem_append_right _ (List.mem_append_right _ (List.mem_append_right _ (List.mem_append_right _ (List.mem_append_right _ (List.mem_append_right _ (List.mem_append_right _ (List.mem_append_right _ (List.mem_append_right _ (List.mem_append_right _ (List.mem_append_right _ (List.mem_append_right _ (List.mem_append_right _ (List.mem_append_right _ (List.mem_append_right _ (List.mem_append_right _ (List.mem_append_right _ (List.mem_append_right _ (List.mem_append_right _ (List.mem_append_right _ (List.mem_append_right _ (List.mem_append_right _ (List.mem_append_right _ (List.mem_append_right _ (List.mem_append_left _ h))))))))))))))))))))))))))))))))))))))))))))))))))
theorem inX10 : ∀ w ∈ wsX100, w ∈ lw_tbl := fun w h => wsL_law_in w (inlX10 w h)
theorem inlX11 : ∀ w ∈ wsX110, w ∈ wsL_law := fun _ h => List.mem_append_left _ (List.mem_append_right _ (List.mem_append_right _ (List.mem_append_right _ (List.mem_append_right _ (List.mem_append_right _ (List.mem_append_right _ (List.mem_append_right _ (List.mem_append_right _ (List.mem_append_right _ (List.mem_append_right _ (List.mem_append_right _ (List.mem_append_right _ (List.mem_append_right _ (List.mem_append_right _ (List.mem_append_right _ (List.mem_append_right _ (List.mem_append_right _ (List.mem_append_right _ (List.mem_append_right _ (List.mem_append_right _ (List.mem_append_right _ (List.mem_append_right _ (List.mem_append_right _ (List.mem_append_right _ (List.mem_append_right _ (List.mem_append_right _ (List.mem_append_right _ (List.mem_append_right _ (List.mem_append_right _ (List.mem_append_right _ (List.mem_append_right _ (List.mem_append_right _ (List.mem_append_right _ (List.mem_append_right _ (List.mem_append_right _ (List.mem_append_right _ (List.mem_append_right _ (List.mem_append_right _ (List.mem_append_right _ (List.mem_append_right _ (List.mem_append_right _ (List.mem_append_right _ (List.mem_append_right _ (List.mem_append_right _ (List.mem_append_right _ (List.mem_append_right _ (List.mem_append_left _ h)))))))))))))))))))))))))))))))))))))))))))))))
theorem inX11 : ∀ w ∈ wsX110, w ∈ lw_tbl := fun w h => wsL_law_in w (inlX11 w h)
theorem inlX12 : ∀ w ∈ wsX120, w ∈ wsL_law := fun _ h => List.mem_append_left _ (List.mem_append_right _ (List.mem_append_right _ (List.mem_append_right _ (List.mem_append_right _ (List.mem_append_right _ (List.mem_append_right _ (List.mem_append_right _ (List.mem_append_right _ (List.mem_append_right _ (List.mem_append_right _ (List.mem_append_right _ (List.mem_append_right _ (List.mem_append_right _ (List.mem_append_right _ (List.mem_append_right _ (List.mem_append_right _ (List.mem_append_right _ (List.mem_append_right _ (List.mem_append_right _ (List.mem_append_right _ (List.mem_append_right _ (List.mem_append_right _ (List.mem_append_right _ (List.mem_append_right _ (List.mem_append_right _ (List.mem_append_right _ (List.mem_append_right _ (List.mem_append_right _ (List.mem_append_right _ (List.mem_append_right _ (List.mem_append_right _ (List.mem_append_right _ (List.mem_append_right _ (List.mem_append_right _ (List.mem_append_right _ (List.mem_append_right _ (List.mem_append_right _ (List.mem_append_right _ (List.mem_append_right _ (List.mem_append_right _ (List.mem_append_right _ (List.mem_append_right _ (List.mem_append_right _ (List.mem_append_right _ (List.mem_append_right _ (List.mem_append_right _ (List.mem_append_right _ (List.mem_append_left _ h))))))))))))))))))))))))))))))))))))))))))))))))
theorem inX12 : ∀ w ∈ wsX120, w ∈ lw_tbl := fun w h => wsL_law_in w (inlX12 w h)
abbrev vwCl : List vw_C := [(RX0, TX0, 20), (RX2, TX2, 16), (RX3, TX3, 16), (RX4, TX4, 4), (RX5, TX5, 10), (RX6, TX6, 4), (RX7, TX7, 4), (RX8, TX8, 13), (RX9, TX9, 8), (RX10, TX10, 13), (RX11, TX11, 8), (RX12, TX12, 94)]
end
section
/-! ===== the rows of this claim: every contract asks the law's own good words, and tells its world as a list of cells ===== -/
def uws (y : MethodName) (c : ByteArray) (n : Nat) (r : Option FieldType) : List Cond := Cond.code y c n r :: wsL_law
theorem uU_all : wsL_law.all goodWord = true := by decide +kernel
theorem uU_good {w : Cond} (h : w ∈ wsL_law) : (w.onTables && w.keeps) = true ∨ ∃ ty, w = .arrayClass ty := good_of_word (List.all_eq_true.mp uU_all w h)
theorem uws_good {y : MethodName} {c : ByteArray} {n : Nat} {r : Option FieldType} (h : Cond.code y c n r ∈ wsL_law) : GoodIn wsL_law (uws y c n r) := fun w hw => (List.mem_cons.mp hw).elim (fun e => by rw [e]; exact ⟨h, uU_good h⟩) (fun h => ⟨h, uU_good h⟩)
theorem uwV {own C : String} {idx n : Nat} {y : MethodName} {c : ByteArray} {r : Option FieldType} (h1 : Cond.methodLink own idx y ∈ wsL_law) (h2 : Cond.instanceMethod y ∈ wsL_law) (h3 : Cond.selects C y y ∈ wsL_law) (h4 : Cond.initialized C ∈ wsL_law) (h5 : Cond.code y c n r ∈ wsL_law) : GoodIn wsL_law (wsV own idx C y (uws y c n r)) := by
  unfold wsV
  refine goodIn_app (fun w hw => ?_) (uws_good h5)
  simp only [List.mem_cons, List.not_mem_nil, or_false] at hw
  rcases hw with rfl | rfl | rfl | rfl
  · exact ⟨h1, uU_good h1⟩
  · exact ⟨h2, uU_good h2⟩
  · exact ⟨h3, uU_good h3⟩
  · exact ⟨h4, uU_good h4⟩
theorem uwS {own : String} {idx n : Nat} {y : MethodName} {c : ByteArray} {r : Option FieldType} (h1 : Cond.methodLink own idx y ∈ wsL_law) (h2 : Cond.static y ∈ wsL_law) (h4 : Cond.initialized y.cls ∈ wsL_law) (h5 : Cond.code y c n r ∈ wsL_law) : GoodIn wsL_law (va_wsS own idx y (uws y c n r)) := by
  unfold va_wsS
  refine goodIn_app (fun w hw => ?_) (uws_good h5)
  simp only [List.mem_cons, List.not_mem_nil, or_false] at hw
  rcases hw with rfl | rfl | rfl
  · exact ⟨h1, uU_good h1⟩
  · exact ⟨h2, uU_good h2⟩
  · exact ⟨h4, uU_good h4⟩
/-- the classes of the arrays: int, long, byte, boolean, byte[], int[] -/
abbrev TY (K : Nat → ClassId) : List (ClassId × FieldType) := [(K 0, .int), (K 1, .long), (K 2, .byte), (K 3, .boolean), (K 4, .array .byte), (K 5, .array .int)]
def PreW (D : va_G) (K : Nat → ClassId) (ws : va_W) (sz : Nat) (U : State) : Prop := U.heap.size = sz ∧ va_P D vwCl ws U.heap ∧ va_K D vwCl (TY K) U ∧ va_D (fun _ => True) ws
def PostW (D : va_G) (K : Nat → ClassId) (A : Nat → Prop) (ws : va_W) (t : State) : Prop := va_P D vwCl ws t.heap ∧ va_K D vwCl (TY K) t ∧ va_D A ws
/-- a room: so many frames deep, so many cells and slots -/
def rmD (d mc ms : Nat) : Room := { frames := d, cells := mc, slots := ms, locals := 40 * d }
def QI {S : Type} (D : va_G) (K : Nat → ClassId) (post : Int32 → S → Prop) (W' : S → va_W) (A : Nat → Prop) : Array Value → State → Outcome → State → Prop := va_Qi post (fun u t => PostW D K A (W' u) t) A
def QL {S : Type} (D : va_G) (K : Nat → ClassId) (post : Int64 → S → Prop) (W' : S → va_W) (A : Nat → Prop) : Array Value → State → Outcome → State → Prop := va_Ql post (fun u t => PostW D K A (W' u) t) A
def QV {S : Type} (D : va_G) (K : Nat → ClassId) (post : S → Prop) (W' : S → va_W) (A : Nat → Prop) : Array Value → State → Outcome → State → Prop := va_Qv post (fun u t => PostW D K A (W' u) t) A
def QR {S : Type} (D : va_G) (K : Nat → ClassId) (post : S → Prop) (ra : S → Nat) (W' : S → va_W) (A : Nat → Prop) : Array Value → State → Outcome → State → Prop := va_Qr post (fun u a t => a = ra u ∧ PostW D K A (W' u) t) A
/-- a method's contract: its words, its world, what Q says of its end (Q knows which cells it may change) -/
def uMet (l : Launch) (y : MethodName) (c : ByteArray) (n : Nat) (r : Option FieldType) (rm : Room) (D : va_G) (K : Nat → ClassId) (X : State → Prop) (av : List Value) (ws : va_W) (Q : (Nat → Prop) → Array Value → State → Outcome → State → Prop) (mc ms : Nat) : Prop :=
  ∀ sz, Met l y (uws y c n r) rm (va_Pc av (fun U => PreW D K ws sz U ∧ X U)) (Q (va_A ws sz)) mc ms (va_A ws sz)
abbrev X0 : State → Prop := fun _ => True
/-- what a premise of a contract must be: told by the tables, whatever was warmed -/
def Xok (X : State → Prop) : Prop := ∀ u U : State, u.WarmedH U.vm → X u → X U
theorem X0_ok : Xok X0 := fun _ _ _ _ => trivial
/-- what stays through a body: the machine, the code, the words, the classes -/
def kC (p : Program) (s : State) (m : MethodId) (args : Array Value) (c : Code) (cc : ByteArray) (own : String) (nL : Nat) (D : va_G) (K : Nat → ClassId) : Prop :=
  p.tables.exec = Jvm.exec ∧ c.code = cc ∧ c.maxLocals = nL ∧ s.vm.findClass own = some m.cls ∧ (∀ w ∈ wsL_law, w.before args s = true) ∧ va_K D vwCl (TY K) s
theorem sn {l : List Value} {i j : Nat} {x v : Value} (h : i ≠ j) (e : l[j]? = some v) : (l.set i x)[j]? = some v := by rw [List.getElem?_set_ne h]; exact e
theorem ss {l : List Value} {j : Nat} {x : Value} (e : j < l.length) : (l.set j x)[j]? = some x := by rw [List.getElem?_set_self e]
theorem sl {l : List Value} {i n : Nat} {x : Value} (e : l.length = n) : (l.set i x).length = n := by rw [List.length_set]; exact e
theorem sk {l : List Value} {i n : Nat} (e : l.length = n) (h : i < n) : i < l.length := by rw [e]; exact h
section UM
variable {l : Launch} {D : va_G} {K : Nat → ClassId}
theorem k_met {y : MethodName} {cc : ByteArray} {n : Nat} {r : Option FieldType} {rm : Room} {X : State → Prop} {av : List Value} {ws : va_W} {Q : (Nat → Prop) → Array Value → State → Outcome → State → Prop} {mc ms : Nat}
    (own : String) (hy : y.cls = own ∧ plainName y.cls = true) (hav : (lg_sl av).length ≤ n)
    (body : ∀ (p : Program) (e : Env) (s : State) (m : MethodId) (below : List Frame) (meth : Method) (c : Code) (A : Nat → Prop) (ls : Array Slot), kC p s m av.toArray c cc own n D K → X s → meth.sig.returnType = r → meth.locks = false → meth.name = y.name → (∀ q : Nat, s.heap.size ≤ q → A q) → va_P D vwCl ws s.heap → va_D A ws → va_S A s.heap s.heap [] → lv_has ls n (lv_args 0 av) →
      W p l e rm s m av.toArray below meth c s.heap [] 0 0 (MQ below (Q A) av.toArray s mc ms A) (F0 m 0 ls [])) : uMet l y cc n r rm D K X av ws Q mc ms := by
  intro sz
  refine Met.ofW (cc := cc) (maxL := n) (ret := r) hy.2 rfl ?_
  intro p e s m args below meth c s₁ B hml hv
  obtain ⟨rfl, ⟨hsz, hP, hK, hD0⟩, hX⟩ := hv
  have hts := atoms_spec (ws := uws y cc n r) B.pre
  have hown : s.vm.findClass own = some m.cls := by rw [← hy.1]; exact findClass_of_methodNamed B.named
  subst hsz
  have hl := lv_entry av (n := n) hav
  rw [lg_entry_eq]
  exact body p e s m below meth c (va_A ws s.heap.size) _ ⟨B.exec, B.bytes, hml, hown, fun w h => hts w (List.mem_cons_of_mem _ h), hK⟩ hX B.returns B.notSynchronized (name_of_methodNamed B.named B.method).1 (fun q h => Or.inr h) hP (hD0.self) va_S.rf hl
end UM
section KR
variable {p : Program} {l : Launch} {e : Env} {R : Room} {s : State} {m : MethodId} {args : Array Value} {below : List Frame} {meth : Method} {c : Code} {H : Heap} {locs : List Loc} {cells slots : Nat} {Q : State → Prop}
variable {cc : ByteArray} {pc nL : Nat} {own : String} {ls : Array Slot} {rest : List Value} {D : va_G} {K : Nat → ClassId} {A : Nat → Prop} {a : Nat} {ws ws' : va_W} {H0 : Heap}
theorem k_get (C : kC p s m args c cc own nL D K) (hP : va_P D vwCl ws H) (q0 : Nat) {ci N index : Nat} {Cn : String} {T : u_T} {fs : List Value} (he : ws[q0]? = some (a, .inr (ci, fs))) (hc : vwCl[ci]? = some (Cn, T, N)) (hin : ∀ w ∈ u_ws Cn T N, w ∈ wsL_law) (k : Nat) (hk : k < N) (hl : Cond.fieldLink own index (T k).1 (T k).2.1 (T k).2.2.1 ∈ wsL_law) {v : Value} (hv : fs[k]? = some v) (hdg : decode cc pc = .ok (.getfield index, 3))
    (kk : W p l e R s m args below meth c H locs cells slots Q (F0 m (pc + 3) ls (v :: rest))) : W p l e R s m args below meth c H locs cells slots Q (F0 m pc ls (.ref a :: rest)) :=
  va_get C.1 C.2.1 C.2.2.2.2.1 hin C.2.2.2.1 C.2.2.2.2.2 hP q0 he hc k hk (C.2.2.2.2.1 _ hl) (fun _ h => h) hv hdg kk
theorem k_put (C : kC p s m args c cc own nL D K) (hP : va_P D vwCl ws H) (hD : va_D A ws) (hS : va_S A H0 H locs) (q0 : Nat) {ci N index : Nat} {Cn : String} {T : u_T} {fs : List Value} (he : ws[q0]? = some (a, .inr (ci, fs))) (hc : vwCl[ci]? = some (Cn, T, N)) (hin : ∀ w ∈ u_ws Cn T N, w ∈ wsL_law) {ty : Nat → FieldType} (hty : ∀ k, k < N → parseFieldDescriptor (T k).2.2.1 = some (ty k)) (hnm : ∀ a, a < N → ∀ b, b < N → a ≠ b → (T a).2.1 ≠ (T b).2.1) (k : Nat) (hk : k < N) (hl : Cond.fieldLink own index (T k).1 (T k).2.1 (T k).2.2.1 ∈ wsL_law) (hfin : (T k).2.2.2 = false) {v : Value} (hn : narrow (ty k) v = v) (hfit : fits (ty k) v = true) (hlen : fs.length = N) (hw : ws.set q0 (a, .inr (ci, fs.set k v)) = ws') (hdg : decode cc pc = .ok (.putfield index, 3))
    (kk : ∀ (H1 : Heap) (locs1 : List Loc), va_P D vwCl ws' H1 → va_D A ws' → va_S A H0 H1 locs1 → W p l e R s m args below meth c H1 locs1 cells slots Q (F0 m (pc + 3) ls rest)) : W p l e R s m args below meth c H locs cells slots Q (F0 m pc ls (v :: .ref a :: rest)) := by
  subst hw
  exact va_put C.1 C.2.1 C.2.2.2.2.1 hin ty hty hnm C.2.2.2.1 C.2.2.2.2.2 hP hD hS q0 he hc k hk (C.2.2.2.2.1 _ hl) (fun _ h => h) hfin (hty k hk) hn hfit (sk hlen hk) hdg kk
theorem k_putF (C : kC p s m args c cc own nL D K) (hP : va_P D vwCl ws H) (hD : va_D A ws) (hS : va_S A H0 H locs) (q0 : Nat) {ci N index : Nat} {Cn : String} {T : u_T} {fs : List Value} (he : ws[q0]? = some (a, .inr (ci, fs))) (hc : vwCl[ci]? = some (Cn, T, N)) (hin : ∀ w ∈ u_ws Cn T N, w ∈ wsL_law) {ty : Nat → FieldType} (hty : ∀ k, k < N → parseFieldDescriptor (T k).2.2.1 = some (ty k)) (hnm : ∀ a, a < N → ∀ b, b < N → a ≠ b → (T a).2.1 ≠ (T b).2.1) (k : Nat) (hk : k < N) (hl : Cond.fieldLink own index (T k).1 (T k).2.1 (T k).2.2.1 ∈ wsL_law) (hfin : (T k).2.2.2 = true) (hini : meth.name = "<init>") (hdecl : (T k).1 = own) {v : Value} (hn : narrow (ty k) v = v) (hfit : fits (ty k) v = true) (hlen : fs.length = N) (hw : ws.set q0 (a, .inr (ci, fs.set k v)) = ws') (hdg : decode cc pc = .ok (.putfield index, 3))
    (kk : ∀ (H1 : Heap) (locs1 : List Loc), va_P D vwCl ws' H1 → va_D A ws' → va_S A H0 H1 locs1 → W p l e R s m args below meth c H1 locs1 cells slots Q (F0 m (pc + 3) ls rest)) : W p l e R s m args below meth c H locs cells slots Q (F0 m pc ls (v :: .ref a :: rest)) := by
  subst hw
  exact va_putF C.1 C.2.1 C.2.2.2.2.1 hin ty hty hnm C.2.2.2.1 C.2.2.2.2.2 hP hD hS q0 he hc k hk (C.2.2.2.2.1 _ hl) (fun _ h => h) hfin hini hdecl (hty k hk) hn hfit (sk hlen hk) hdg kk
theorem k_ild (C : kC p s m args c cc own nL D K) (hP : va_P D vwCl ws H) (q0 : Nat) {n : Nat} {f : Nat → Int32} (ha : ws[q0]? = some (a, .inl (K 0, n, .inl f))) {i v : Int32} (hin : vp_in i n) (hv : f i.toNatClampNeg = v) (hdg : decode cc pc = .ok (.iaload, 1))
    (kk : W p l e R s m args below meth c H locs cells slots Q (F0 m (pc + 1) ls (.int v :: rest))) : W p l e R s m args below meth c H locs cells slots Q (F0 m pc ls (.int i :: .ref a :: rest)) := by
  subst hv; exact va_iald C.1 C.2.1 C.2.2.2.2.2 hP q0 0 ha rfl hin hdg kk
theorem k_bld (C : kC p s m args c cc own nL D K) (hP : va_P D vwCl ws H) (q0 : Nat) {n : Nat} {f : Nat → Int32} (ha : ws[q0]? = some (a, .inl (K 2, n, .inl f))) {i v : Int32} (hin : vp_in i n) (hv : f i.toNatClampNeg = v) (hdg : decode cc pc = .ok (.baload, 1))
    (kk : W p l e R s m args below meth c H locs cells slots Q (F0 m (pc + 1) ls (.int v :: rest))) : W p l e R s m args below meth c H locs cells slots Q (F0 m pc ls (.int i :: .ref a :: rest)) := by
  subst hv; exact va_bald C.1 C.2.1 C.2.2.2.2.2 hP q0 2 ha rfl hin hdg kk
theorem k_zld (C : kC p s m args c cc own nL D K) (hP : va_P D vwCl ws H) (q0 : Nat) {n : Nat} {f : Nat → Int32} (ha : ws[q0]? = some (a, .inl (K 3, n, .inl f))) {i v : Int32} (hin : vp_in i n) (hv : f i.toNatClampNeg = v) (hdg : decode cc pc = .ok (.baload, 1))
    (kk : W p l e R s m args below meth c H locs cells slots Q (F0 m (pc + 1) ls (.int v :: rest))) : W p l e R s m args below meth c H locs cells slots Q (F0 m pc ls (.int i :: .ref a :: rest)) := by
  subst hv; exact va_zald C.1 C.2.1 C.2.2.2.2.2 hP q0 3 ha rfl hin hdg kk
theorem k_lld (C : kC p s m args c cc own nL D K) (hP : va_P D vwCl ws H) (q0 : Nat) {n : Nat} {f : Nat → Int64} (ha : ws[q0]? = some (a, .inl (K 1, n, .inr (.inl f)))) {i : Int32} {v : Int64} (hin : vp_in i n) (hv : f i.toNatClampNeg = v) (hdg : decode cc pc = .ok (.laload, 1))
    (kk : W p l e R s m args below meth c H locs cells slots Q (F0 m (pc + 1) ls (.long v :: rest))) : W p l e R s m args below meth c H locs cells slots Q (F0 m pc ls (.int i :: .ref a :: rest)) := by
  subst hv; exact va_lald C.1 C.2.1 C.2.2.2.2.2 hP q0 1 ha rfl hin hdg kk
theorem k_ist (C : kC p s m args c cc own nL D K) (hP : va_P D vwCl ws H) (hD : va_D A ws) (hS : va_S A H0 H locs) (q0 : Nat) {n : Nat} {f : Nat → Int32} (ha : ws[q0]? = some (a, .inl (K 0, n, .inl f))) {i x x' : Int32} {j : Nat} (hin : vp_in i n) (hj : i.toNatClampNeg = j) (hx' : x = x') (hw : ws.set q0 (a, .inl (K 0, n, .inl (upd f j x'))) = ws') (hdg : decode cc pc = .ok (.iastore, 1))
    (kk : ∀ (H1 : Heap) (locs1 : List Loc), va_P D vwCl ws' H1 → va_D A ws' → va_S A H0 H1 locs1 → W p l e R s m args below meth c H1 locs1 cells slots Q (F0 m (pc + 1) ls rest)) : W p l e R s m args below meth c H locs cells slots Q (F0 m pc ls (.int x :: .int i :: .ref a :: rest)) := by
  subst hw; subst hj; subst hx'; exact va_iast C.1 C.2.1 C.2.2.2.2.2 hP hD hS q0 0 ha rfl hin hdg kk
theorem k_bst (C : kC p s m args c cc own nL D K) (hP : va_P D vwCl ws H) (hD : va_D A ws) (hS : va_S A H0 H locs) (q0 : Nat) {n : Nat} {f : Nat → Int32} (ha : ws[q0]? = some (a, .inl (K 2, n, .inl f))) {i x x' : Int32} {j : Nat} (hin : vp_in i n) (hj : i.toNatClampNeg = j) (hx' : vp_nar .byte x = x') (hw : ws.set q0 (a, .inl (K 2, n, .inl (upd f j x'))) = ws') (hdg : decode cc pc = .ok (.bastore, 1))
    (kk : ∀ (H1 : Heap) (locs1 : List Loc), va_P D vwCl ws' H1 → va_D A ws' → va_S A H0 H1 locs1 → W p l e R s m args below meth c H1 locs1 cells slots Q (F0 m (pc + 1) ls rest)) : W p l e R s m args below meth c H locs cells slots Q (F0 m pc ls (.int x :: .int i :: .ref a :: rest)) := by
  subst hw; subst hj; subst hx'; exact va_bast C.1 C.2.1 C.2.2.2.2.2 hP hD hS q0 2 ha rfl hin hdg kk
theorem k_zst (C : kC p s m args c cc own nL D K) (hP : va_P D vwCl ws H) (hD : va_D A ws) (hS : va_S A H0 H locs) (q0 : Nat) {n : Nat} {f : Nat → Int32} (ha : ws[q0]? = some (a, .inl (K 3, n, .inl f))) {i x x' : Int32} {j : Nat} (hin : vp_in i n) (hj : i.toNatClampNeg = j) (hx' : vp_nar .boolean x = x') (hw : ws.set q0 (a, .inl (K 3, n, .inl (upd f j x'))) = ws') (hdg : decode cc pc = .ok (.bastore, 1))
    (kk : ∀ (H1 : Heap) (locs1 : List Loc), va_P D vwCl ws' H1 → va_D A ws' → va_S A H0 H1 locs1 → W p l e R s m args below meth c H1 locs1 cells slots Q (F0 m (pc + 1) ls rest)) : W p l e R s m args below meth c H locs cells slots Q (F0 m pc ls (.int x :: .int i :: .ref a :: rest)) := by
  subst hw; subst hj; subst hx'; exact va_zast C.1 C.2.1 C.2.2.2.2.2 hP hD hS q0 3 ha rfl hin hdg kk
theorem k_lst (C : kC p s m args c cc own nL D K) (hP : va_P D vwCl ws H) (hD : va_D A ws) (hS : va_S A H0 H locs) (q0 : Nat) {n : Nat} {f : Nat → Int64} (ha : ws[q0]? = some (a, .inl (K 1, n, .inr (.inl f)))) {i : Int32} {x x' : Int64} {j : Nat} (hin : vp_in i n) (hj : i.toNatClampNeg = j) (hx' : x = x') (hw : ws.set q0 (a, .inl (K 1, n, .inr (.inl (vp_updL f j x')))) = ws') (hdg : decode cc pc = .ok (.lastore, 1))
    (kk : ∀ (H1 : Heap) (locs1 : List Loc), va_P D vwCl ws' H1 → va_D A ws' → va_S A H0 H1 locs1 → W p l e R s m args below meth c H1 locs1 cells slots Q (F0 m (pc + 1) ls rest)) : W p l e R s m args below meth c H locs cells slots Q (F0 m pc ls (.long x :: .int i :: .ref a :: rest)) := by
  subst hw; subst hj; subst hx'; exact va_last C.1 C.2.1 C.2.2.2.2.2 hP hD hS q0 1 ha rfl hin hdg kk
theorem k_len (C : kC p s m args c cc own nL D K) (hP : va_P D vwCl ws H) (q0 t0 : Nat) {x : vp_A} (ha : ws[q0]? = some (a, .inl (K t0, x))) {ty : FieldType} (ht : (TY K)[t0]? = some (K t0, ty)) {v : Int32} (hv : Int32.ofNat x.1 = v) (hdg : decode cc pc = .ok (.arraylength, 1))
    (kk : W p l e R s m args below meth c H locs cells slots Q (F0 m (pc + 1) ls (.int v :: rest))) : W p l e R s m args below meth c H locs cells slots Q (F0 m pc ls (.ref a :: rest)) :=
  va_alen C.1 C.2.1 C.2.2.2.2.2 hP q0 t0 ha ht hv hdg kk
/-- a new array of a primitive type, of the class that the table has -/
theorem k_newa (C : kC p s m args c cc own nL D K) (hP : va_P D vwCl ws H) (hD : va_D A ws) (hS : va_S A H0 H locs) (hA : ∀ q, H0.size ≤ q → A q) (t0 : Nat) {atype : ArrayType} {ty : FieldType} (hty : newarray.typeOf atype = ty) (ht : (TY K)[t0]? = some (K t0, ty)) (hra : ∀ cA : ClassId, va_RA s cA ty = (s.vm.findClass ("[" ++ ty.toString) = some cA)) (harr : Cond.arrayClass (newarray.typeOf atype) ∈ wsL_law)
    {n : Int32} {N' : Nat} {a0 : vp_A} (ha : ∀ cA : ClassId, vp_cell cA a0 = arrV cA N' (fun _ => defaultValue ty)) (hn : ¬ n < 0) (hN : n.toNatClampNeg = N') (hbytes : N' * componentBytes ty ≤ 536870912) (hcells : cells + 1 ≤ R.cells) (hslots : slots + N' ≤ R.slots) (hdg : decode cc pc = .ok (.newarray atype, 2))
    (kk : ∀ (q : Nat) (H1 : Heap), va_P D vwCl (ws ++ [(q, .inl (K t0, a0))]) H1 → va_D A (ws ++ [(q, .inl (K t0, a0))]) → va_S A H0 H1 locs →
      W p l e R s m args below meth c H1 locs (cells + 1) (slots + N') Q (F0 m (pc + 2) ls (.ref q :: rest))) : W p l e R s m args below meth c H locs cells slots Q (F0 m pc ls (.int n :: rest)) := by
  refine va_newa C.1 C.2.1 (C.2.2.2.2.1 _ harr) hty C.2.2.2.2.2 hP hD hS hA ha hn hN hbytes hcells hslots hdg (fun q cA H1 hK1 hP1 hD1 hS1 => ?_)
  have h1 := (hK1.2 (TY K).length (cA, ty) (by simp)).2
  have h2 := (C.2.2.2.2.2.2 t0 _ ht).2
  rw [hra] at h1 h2
  have he : cA = K t0 := Option.some.inj (h1.symm.trans h2)
  subst he
  exact kk q H1 hP1 hD1 hS1
theorem k_new {N ci index : Nat} {Cn : String} {T : u_T} (C : kC p s m args c cc own nL D K) (hP : va_P D vwCl ws H) (hD : va_D A ws) (hS : va_S A H0 H locs) (hA : ∀ q, H0.size ≤ q → A q) (hc : vwCl[ci]? = some (Cn, T, N)) (hin : ∀ w ∈ u_ws Cn T N, w ∈ wsL_law) {ty : Nat → FieldType} (hty : ∀ k, k < N → parseFieldDescriptor (T k).2.2.1 = some (ty k)) (hcl : Cond.classLink own index Cn ∈ wsL_law) (hinst : Cond.instantiable Cn N ∈ wsL_law) (hini : Cond.initialized Cn ∈ wsL_law)
    {fs : List Value} (hfs : fs = (List.range N).map (fun j => defaultValue (ty j))) (hcells : cells + 1 ≤ R.cells) (hslots : slots + N ≤ R.slots) (hdg : decode cc pc = .ok (.new index, 3))
    (kk : ∀ (q : Nat) (H1 : Heap), va_P D vwCl (ws ++ [(q, .inr (ci, fs))]) H1 → va_D A (ws ++ [(q, .inr (ci, fs))]) → va_S A H0 H1 locs →
      W p l e R s m args below meth c H1 locs (cells + 1) (slots + N) Q (F0 m (pc + 3) ls (.ref q :: rest))) : W p l e R s m args below meth c H locs cells slots Q (F0 m pc ls rest) := by
  subst hfs
  refine va_new C.1 C.2.1 C.2.2.2.2.1 hin ty hty C.2.2.2.1 (C.2.2.2.2.1 _ hcl) (C.2.2.2.2.1 _ hinst) (C.2.2.2.2.1 _ hini) C.2.2.2.2.2 hP hD hS hA hc (fun j hj => ?_) hcells hslots hdg kk
  simp [vp_V, hj]
theorem k_objInit (C : kC p s m args c cc own nL D K) (hls : ls.size = nL) {idx : Nat} (hl : Cond.methodLink own idx objectInit ∈ wsL_law) (hi : Cond.instanceMethod objectInit ∈ wsL_law) (hco : Cond.code objectInit ⟨#[0xb1]⟩ 1 none ∈ wsL_law) (hd : decode cc pc = .ok (.invokespecial idx, 3)) (hframes : 1 ≤ R.frames) (hlocals : (rest.map fun v => v.category).sum + 12 ≤ R.locals)
    (kk : W p l e R s m args below meth c H locs cells slots Q (F0 m (pc + 3) ls rest)) : W p l e R s m args below meth c H locs cells slots Q (F0 m pc ls (.ref a :: rest)) :=
  W.objInit C.1 C.2.1 C.2.2.2.1 (C.2.2.2.2.1 _ hl) (C.2.2.2.2.1 _ hi) (C.2.2.2.2.1 _ hco) rfl (by rw [C.2.2.1]; exact hls) rfl hd hframes (by show 2 * 0 + _ + 12 ≤ _; omega) kk
theorem k_iadd (C : kC p s m args c cc own nL D K) {x y v : Int32} (hv : x + y = v) (hdg : decode cc pc = .ok (.iadd, 1)) (kk : W p l e R s m args below meth c H locs cells slots Q (F0 m (pc + 1) ls (.int v :: rest))) : W p l e R s m args below meth c H locs cells slots Q (F0 m pc ls (.int y :: .int x :: rest)) := by
  subst hv; exact lv_iadd C.1 C.2.1 hdg kk
theorem k_isub (C : kC p s m args c cc own nL D K) {x y v : Int32} (hv : x - y = v) (hdg : decode cc pc = .ok (.isub, 1)) (kk : W p l e R s m args below meth c H locs cells slots Q (F0 m (pc + 1) ls (.int v :: rest))) : W p l e R s m args below meth c H locs cells slots Q (F0 m pc ls (.int y :: .int x :: rest)) := by
  subst hv; exact lv_isub C.1 C.2.1 hdg kk
theorem k_imul (C : kC p s m args c cc own nL D K) {x y v : Int32} (hv : x * y = v) (hdg : decode cc pc = .ok (.imul, 1)) (kk : W p l e R s m args below meth c H locs cells slots Q (F0 m (pc + 1) ls (.int v :: rest))) : W p l e R s m args below meth c H locs cells slots Q (F0 m pc ls (.int y :: .int x :: rest)) := by
  subst hv; exact lv_imul C.1 C.2.1 hdg kk
theorem k_iand (C : kC p s m args c cc own nL D K) {x y v : Int32} (hv : x &&& y = v) (hdg : decode cc pc = .ok (.iand, 1)) (kk : W p l e R s m args below meth c H locs cells slots Q (F0 m (pc + 1) ls (.int v :: rest))) : W p l e R s m args below meth c H locs cells slots Q (F0 m pc ls (.int y :: .int x :: rest)) := by
  subst hv; exact lv_iand C.1 C.2.1 hdg kk
theorem k_ior (C : kC p s m args c cc own nL D K) {x y v : Int32} (hv : x ||| y = v) (hdg : decode cc pc = .ok (.ior, 1)) (kk : W p l e R s m args below meth c H locs cells slots Q (F0 m (pc + 1) ls (.int v :: rest))) : W p l e R s m args below meth c H locs cells slots Q (F0 m pc ls (.int y :: .int x :: rest)) := by
  subst hv; exact lv_ior C.1 C.2.1 hdg kk
theorem k_ixor (C : kC p s m args c cc own nL D K) {x y v : Int32} (hv : x ^^^ y = v) (hdg : decode cc pc = .ok (.ixor, 1)) (kk : W p l e R s m args below meth c H locs cells slots Q (F0 m (pc + 1) ls (.int v :: rest))) : W p l e R s m args below meth c H locs cells slots Q (F0 m pc ls (.int y :: .int x :: rest)) := by
  subst hv; exact lv_ixor C.1 C.2.1 hdg kk
theorem k_ishl (C : kC p s m args c cc own nL D K) {x y v : Int32} (hv : x <<< (y &&& 31) = v) (hdg : decode cc pc = .ok (.ishl, 1)) (kk : W p l e R s m args below meth c H locs cells slots Q (F0 m (pc + 1) ls (.int v :: rest))) : W p l e R s m args below meth c H locs cells slots Q (F0 m pc ls (.int y :: .int x :: rest)) := by
  subst hv; exact lv_ishl C.1 C.2.1 hdg kk
theorem k_ishr (C : kC p s m args c cc own nL D K) {x y v : Int32} (hv : x >>> (y &&& 31) = v) (hdg : decode cc pc = .ok (.ishr, 1)) (kk : W p l e R s m args below meth c H locs cells slots Q (F0 m (pc + 1) ls (.int v :: rest))) : W p l e R s m args below meth c H locs cells slots Q (F0 m pc ls (.int y :: .int x :: rest)) := by
  subst hv; exact lv_ishr C.1 C.2.1 hdg kk
theorem k_idiv (C : kC p s m args c cc own nL D K) {x y v : Int32} (hne : ¬ y = 0) (hv : x / y = v) (hdg : decode cc pc = .ok (.idiv, 1)) (kk : W p l e R s m args below meth c H locs cells slots Q (F0 m (pc + 1) ls (.int v :: rest))) : W p l e R s m args below meth c H locs cells slots Q (F0 m pc ls (.int y :: .int x :: rest)) := by
  subst hv; exact lv_idiv C.1 C.2.1 hdg hne kk
theorem k_irem (C : kC p s m args c cc own nL D K) {x y v : Int32} (hne : ¬ y = 0) (hv : x - x / y * y = v) (hdg : decode cc pc = .ok (.irem, 1)) (kk : W p l e R s m args below meth c H locs cells slots Q (F0 m (pc + 1) ls (.int v :: rest))) : W p l e R s m args below meth c H locs cells slots Q (F0 m pc ls (.int y :: .int x :: rest)) := by
  subst hv; exact lv_irem C.1 C.2.1 hdg hne kk
theorem k_ladd (C : kC p s m args c cc own nL D K) {x y v : Int64} (hv : x + y = v) (hdg : decode cc pc = .ok (.ladd, 1)) (kk : W p l e R s m args below meth c H locs cells slots Q (F0 m (pc + 1) ls (.long v :: rest))) : W p l e R s m args below meth c H locs cells slots Q (F0 m pc ls (.long y :: .long x :: rest)) := by
  subst hv; exact lv_ladd C.1 C.2.1 hdg kk
theorem k_lsub (C : kC p s m args c cc own nL D K) {x y v : Int64} (hv : x - y = v) (hdg : decode cc pc = .ok (.lsub, 1)) (kk : W p l e R s m args below meth c H locs cells slots Q (F0 m (pc + 1) ls (.long v :: rest))) : W p l e R s m args below meth c H locs cells slots Q (F0 m pc ls (.long y :: .long x :: rest)) := by
  subst hv; exact lv_lsub C.1 C.2.1 hdg kk
theorem k_lmul (C : kC p s m args c cc own nL D K) {x y v : Int64} (hv : x * y = v) (hdg : decode cc pc = .ok (.lmul, 1)) (kk : W p l e R s m args below meth c H locs cells slots Q (F0 m (pc + 1) ls (.long v :: rest))) : W p l e R s m args below meth c H locs cells slots Q (F0 m pc ls (.long y :: .long x :: rest)) := by
  subst hv; exact lv_lmul C.1 C.2.1 hdg kk
theorem k_ldiv (C : kC p s m args c cc own nL D K) {x y v : Int64} (hne : ¬ y = 0) (hv : x / y = v) (hdg : decode cc pc = .ok (.ldiv, 1)) (kk : W p l e R s m args below meth c H locs cells slots Q (F0 m (pc + 1) ls (.long v :: rest))) : W p l e R s m args below meth c H locs cells slots Q (F0 m pc ls (.long y :: .long x :: rest)) := by
  subst hv; exact lv_ldiv C.1 C.2.1 hdg hne kk
theorem k_lrem (C : kC p s m args c cc own nL D K) {x y v : Int64} (hne : ¬ y = 0) (hv : x - x / y * y = v) (hdg : decode cc pc = .ok (.lrem, 1)) (kk : W p l e R s m args below meth c H locs cells slots Q (F0 m (pc + 1) ls (.long v :: rest))) : W p l e R s m args below meth c H locs cells slots Q (F0 m pc ls (.long y :: .long x :: rest)) := by
  subst hv; exact lv_lrem C.1 C.2.1 hdg hne kk
theorem k_ineg (C : kC p s m args c cc own nL D K) {x v : Int32} (hv : -x = v) (hdg : decode cc pc = .ok (.ineg, 1)) (kk : W p l e R s m args below meth c H locs cells slots Q (F0 m (pc + 1) ls (.int v :: rest))) : W p l e R s m args below meth c H locs cells slots Q (F0 m pc ls (.int x :: rest)) := by
  subst hv; exact lv_ineg C.1 C.2.1 hdg kk
theorem k_lcmp (C : kC p s m args c cc own nL D K) {x y : Int64} {v : Int32} (hv : lg_cmp x y = v) (hdg : decode cc pc = .ok (.lcmp, 1)) (kk : W p l e R s m args below meth c H locs cells slots Q (F0 m (pc + 1) ls (.int v :: rest))) : W p l e R s m args below meth c H locs cells slots Q (F0 m pc ls (.long y :: .long x :: rest)) := by
  subst hv; exact W.lcmp C.1 C.2.1 hdg kk
theorem vin {i : Int32} {n : Nat} (h : ¬ (i < 0 ∨ n ≤ i.toNatClampNeg)) : vp_in i n := h
theorem k_mmax (C : kC p s m args c cc own nL D K) (hls : ls.size = nL) {index : Nat} (h1 : Cond.methodLink own index Lib.Math.max.name ∈ wsL_law) (h2 : Cond.static Lib.Math.max.name ∈ wsL_law) (h3 : Cond.initialized "java/lang/Math" ∈ wsL_law) (h4 : Cond.code Lib.Math.max.name Lib.Math.max.code 2 (some .int) ∈ wsL_law) (hframes : 1 ≤ R.frames) (hlocals : (rest.map fun v => v.category).sum + 13 ≤ R.locals) (hc : cells ≤ R.cells) (hs : slots ≤ R.slots) {x y v : Int32} (hv : (if x < y then y else x) = v) (hdg : decode cc pc = .ok (.invokestatic index, 3)) (kk : W p l e R s m args below meth c H locs cells slots Q (F0 m (pc + 3) ls (.int v :: rest))) : W p l e R s m args below meth c H locs cells slots Q (F0 m pc ls (.int y :: .int x :: rest)) := by
  subst hv; exact va_mmax C.1 C.2.1 (by rw [C.2.2.1, hls]) C.2.2.2.1 (C.2.2.2.2.1 _ h1) (C.2.2.2.2.1 _ h2) (C.2.2.2.2.1 _ h3) (C.2.2.2.2.1 _ h4) hframes hlocals hc hs hdg kk
theorem k_mmin (C : kC p s m args c cc own nL D K) (hls : ls.size = nL) {index : Nat} (h1 : Cond.methodLink own index Lib.Math.min.name ∈ wsL_law) (h2 : Cond.static Lib.Math.min.name ∈ wsL_law) (h3 : Cond.initialized "java/lang/Math" ∈ wsL_law) (h4 : Cond.code Lib.Math.min.name Lib.Math.min.code 2 (some .int) ∈ wsL_law) (hframes : 1 ≤ R.frames) (hlocals : (rest.map fun v => v.category).sum + 13 ≤ R.locals) (hc : cells ≤ R.cells) (hs : slots ≤ R.slots) {x y v : Int32} (hv : (if y < x then y else x) = v) (hdg : decode cc pc = .ok (.invokestatic index, 3)) (kk : W p l e R s m args below meth c H locs cells slots Q (F0 m (pc + 3) ls (.int v :: rest))) : W p l e R s m args below meth c H locs cells slots Q (F0 m pc ls (.int y :: .int x :: rest)) := by
  subst hv; exact va_mmin C.1 C.2.1 (by rw [C.2.2.1, hls]) C.2.2.2.1 (C.2.2.2.2.1 _ h1) (C.2.2.2.2.1 _ h2) (C.2.2.2.2.1 _ h3) (C.2.2.2.2.1 _ h4) hframes hlocals hc hs hdg kk
theorem k_copy (C : kC p s m args c cc own nL D K) (hls : ls.size = nL) (hP : va_P D vwCl ws H) (hD : va_D A ws) (hS : va_S A H0 H locs) (q0 q1 t0 : Nat) {a0 n0 n1 : Nat} {f g : Nat → Int32} {ty : FieldType} (ha0 : ws[q0]? = some (a0, .inl (K t0, n0, .inl f))) (ha1 : ws[q1]? = some (a, .inl (K t0, n1, .inl g))) (ht0 : (TY K)[t0]? = some (K t0, ty)) (hprim : refKind ty = false) {sp dp n : Int32} {sp' dp' n' : Nat} (h1 : ¬ sp < 0) (h2 : ¬ dp < 0) (h3 : ¬ n < 0) (e1 : sp.toNatClampNeg = sp') (e2 : dp.toNatClampNeg = dp') (e3 : n.toNatClampNeg = n') (h4 : sp' + n' ≤ n0) (h5 : dp' + n' ≤ n1) (hfit : ∀ i, i < n' → fits ty (.int (f (sp' + i))) = true) {index : Nat} (w1 : Cond.methodLink own index arraycopyName ∈ wsL_law) (w2 : Cond.native arraycopyName ∈ wsL_law) (w3 : Cond.static arraycopyName ∈ wsL_law) (w4 : Cond.initialized "java/lang/System" ∈ wsL_law) (hframes : 1 ≤ R.frames) (hlocals : (rest.map fun v => v.category).sum + (nativeFrameWords "java/lang/System" "arraycopy" 5 + 11) ≤ R.locals) (hw : ws.set q1 (a, .inl (K t0, n1, .inl (va_cpy f g sp' dp' n'))) = ws') (hdg : decode cc pc = .ok (.invokestatic index, 3)) (kk : ∀ (H1 : Heap) (locs1 : List Loc), va_P D vwCl ws' H1 → va_D A ws' → va_S A H0 H1 locs1 → W p l e R s m args below meth c H1 locs1 cells slots Q (F0 m (pc + 3) ls rest)) : W p l e R s m args below meth c H locs cells slots Q (F0 m pc ls (.int n :: .int dp :: .ref a :: .int sp :: .ref a0 :: rest)) := by
  subst hw; subst e1; subst e2; subst e3; exact va_copyi C.1 C.2.1 (by rw [C.2.2.1, hls]) C.2.2.2.1 (C.2.2.2.2.1 _ w1) (C.2.2.2.2.1 _ w2) (C.2.2.2.2.1 _ w3) (C.2.2.2.2.1 _ w4) C.2.2.2.2.2 hP hD hS q0 q1 t0 t0 ha0 ha1 ht0 ht0 hprim h1 h2 h3 h4 h5 hfit hframes hlocals hdg kk
end KR
section KE
variable {p : Program} {l : Launch} {e : Env} {R : Room} {s : State} {m : MethodId} {args : Array Value} {below : List Frame} {meth : Method} {c : Code} {H : Heap} {locs : List Loc} {cells slots mc ms : Nat}
variable {cc : ByteArray} {pc nL : Nat} {own : String} {ls : Array Slot} {D : va_G} {K : Nat → ClassId} {A : Nat → Prop} {ws : va_W} {S : Type} {W' : S → va_W}
theorem va_sub' {D : va_G} {ws ws' : va_W} {H : Heap} (h : va_P D vwCl ws H) (is : List Nat) (hs : is.map (fun i => ws[i]?) = ws'.map some) : va_P D vwCl ws' H := by
  refine h.sub is ?_
  have : ∀ (is : List Nat) (ws' : va_W), is.map (fun i => ws[i]?) = ws'.map some → is.filterMap (fun i => ws[i]?) = ws' := by
    intro is
    induction is with
    | nil => intro ws' h; cases ws' with
      | nil => rfl
      | cons a b => simp at h
    | cons i is ih => intro ws' h; cases ws' with
      | nil => simp at h
      | cons a b =>
        simp only [List.map_cons, List.cons.injEq] at h
        rw [List.filterMap_cons, h.1]
        simp only
        rw [ih b h.2]
  exact this is ws' hs
theorem k_iret (C : kC p s m args c cc own nL D K) {ty : FieldType} (hr : meth.sig.returnType = some ty) (hlocks : meth.locks = false) (hP : va_P D vwCl ws H) (hD : va_D A ws) (hS : va_S A s.heap H locs) {post : Int32 → S → Prop} {r : Int32} (hn : narrow ty (.int r) = .int r) (u : S) (is : List Nat) (hs : is.map (fun i => ws[i]?) = (W' u).map some) (hnd : va_nd is = true) (hpost : post r u) (hc : cells ≤ mc) (hsl : slots ≤ ms) (hdg : decode cc pc = .ok (.ireturn, 1)) :
    W p l e R s m args below meth c H locs cells slots (MQ below (QI D K post W' A) args s mc ms A) (F0 m pc ls [.int r]) := by
  refine W.widen hc hsl ?_
  exact W.zret C.1 C.2.1 hr hn (fun t ht hW => ⟨⟨r, u, rfl, hpost, by rw [ht]; exact va_sub' hP is hs, va_K.moved hW.alike C.2.2.2.2.2, hD.sub is hnd hs⟩, hS.F ht⟩) hS.2.2 hdg hlocks
theorem k_lret (C : kC p s m args c cc own nL D K) (hr : meth.sig.returnType = some .long) (hlocks : meth.locks = false) (hP : va_P D vwCl ws H) (hD : va_D A ws) (hS : va_S A s.heap H locs) {post : Int64 → S → Prop} {r : Int64} (u : S) (is : List Nat) (hs : is.map (fun i => ws[i]?) = (W' u).map some) (hnd : va_nd is = true) (hpost : post r u) (hc : cells ≤ mc) (hsl : slots ≤ ms) (hdg : decode cc pc = .ok (.lreturn, 1)) :
    W p l e R s m args below meth c H locs cells slots (MQ below (QL D K post W' A) args s mc ms A) (F0 m pc ls [.long r]) := by
  refine W.widen hc hsl ?_
  exact W.lret C.1 C.2.1 hr (fun t ht hW => ⟨⟨r, u, rfl, hpost, by rw [ht]; exact va_sub' hP is hs, va_K.moved hW.alike C.2.2.2.2.2, hD.sub is hnd hs⟩, hS.F ht⟩) hS.2.2 hdg hlocks
theorem k_vret (C : kC p s m args c cc own nL D K) (hr : meth.sig.returnType = none) (hlocks : meth.locks = false) (hP : va_P D vwCl ws H) (hD : va_D A ws) (hS : va_S A s.heap H locs) {post : S → Prop} (u : S) (is : List Nat) (hs : is.map (fun i => ws[i]?) = (W' u).map some) (hnd : va_nd is = true) (hpost : post u) (hc : cells ≤ mc) (hsl : slots ≤ ms) (hdg : decode cc pc = .ok (.return_, 1)) :
    W p l e R s m args below meth c H locs cells slots (MQ below (QV D K post W' A) args s mc ms A) (F0 m pc ls []) := by
  refine W.widen hc hsl ?_
  exact W.vret C.1 C.2.1 hr (fun t ht hW => ⟨⟨u, rfl, hpost, by rw [ht]; exact va_sub' hP is hs, va_K.moved hW.alike C.2.2.2.2.2, hD.sub is hnd hs⟩, hS.F ht⟩) hS.2.2 hdg hlocks
theorem k_aret (C : kC p s m args c cc own nL D K) {rt : FieldType} (hr : meth.sig.returnType = some rt) (hrt : (∃ n, rt = .object n) ∨ ∃ t, rt = .array t) (hlocks : meth.locks = false) (hP : va_P D vwCl ws H) (hD : va_D A ws) (hS : va_S A s.heap H locs) {post : S → Prop} {ra : S → Nat} {r : Nat} (u : S) (hra : r = ra u) (is : List Nat) (hs : is.map (fun i => ws[i]?) = (W' u).map some) (hnd : va_nd is = true) (hpost : post u) (hc : cells ≤ mc) (hsl : slots ≤ ms) (hdg : decode cc pc = .ok (.areturn, 1)) :
    W p l e R s m args below meth c H locs cells slots (MQ below (QR D K post ra W' A) args s mc ms A) (F0 m pc ls [.ref r]) := by
  refine W.widen hc hsl ?_
  exact W.aret C.1 C.2.1 hr hrt (Or.inr ⟨r, rfl⟩) (fun t ht hW => ⟨⟨u, r, rfl, hpost, hra, by rw [ht]; exact va_sub' hP is hs, va_K.moved hW.alike C.2.2.2.2.2, hD.sub is hnd hs⟩, hS.F ht⟩) hS.2.2 hdg hlocks
end KE
end
section
section KCALL
variable {p : Program} {l : Launch} {e : Env} {R : Room} {s : State} {m : MethodId} {args : Array Value} {below : List Frame} {meth : Method} {c : Code} {H : Heap} {locs : List Loc} {cells slots mc ms : Nat} {Q : State → Prop}
variable {cc : ByteArray} {pc nL : Nat} {own : String} {ls : Array Slot} {rest st0 As : List Value} {D : va_G} {K : Nat → ClassId} {A : Nat → Prop} {b : Nat} {ws wc wr : va_W} {H0 : Heap} {S : Type} {W' : S → va_W}
variable {y : MethodName} {bytes : ByteArray} {maxL index : Nat} {ret : Option FieldType} {rm : Room} {X : State → Prop}
theorem pre_blind {D : va_G} {K : Nat → ClassId} {X : State → Prop} {av : List Value} {ws : va_W} {sz : Nat} (hX : Xok X) : FrameBlind (va_Pc av (fun U => PreW D K ws sz U ∧ X U)) := by
  intro a U g mk q
  obtain ⟨q0, ⟨q1, qP, qK, qD⟩, qX⟩ := q
  exact ⟨q0, ⟨q1, qP, va_K.moved (u := U) (U := U.calling g mk a) (Vm.Alike.refl U.vm) qK, qD⟩, hX U _ (State.WarmedH.refl U) qX⟩
/-- the callee's cells among the caller's -/
def Part (ws wc wr : va_W) (isC isR : List Nat) : Prop := isC.map (fun i => ws[i]?) = wc.map some ∧ isR.map (fun i => ws[i]?) = wr.map some ∧ va_nd isC = true ∧ va_nd isR = true ∧ ∀ i ∈ isR, i ∉ isC
theorem k_pre {av : List Value} (hK : va_K D vwCl (TY K) s) (hPc : va_P D vwCl wc H) (hDc : va_D A wc) (hX : Xok X) (hXs : X s) : ∀ U : State, U.heap = H → s.WarmedH U.vm → va_Pc av (fun U => PreW D K wc H.size U ∧ X U) av.toArray U :=
  fun U hU hW => ⟨rfl, ⟨by rw [hU], by rw [hU]; exact hPc, va_K.moved hW.alike hK, hDc.weaken (fun _ _ _ _ => trivial)⟩, hX _ _ hW hXs⟩
theorem k_join {H1 : Heap} {wj : va_W} {isC isR : List Nat} {A1 : Nat → Prop} (hP : va_P D vwCl ws H) (hD : va_D A ws) (hp : Part ws wc wr isC isR) (hk : ∀ q : Nat, q < H.size → ¬ va_A wc H.size q → H1[q]? = H[q]?) (hF : ∀ q, va_A wc H.size q → A q) (hP1 : va_P D vwCl wj H1) (hD1 : va_D (va_A wc H.size) wj) : va_P D vwCl (wr ++ wj) H1 ∧ va_D A (wr ++ wj) :=
  va_join hP hD isC isR hp.1 hp.2.1 hp.2.2.2.1 hp.2.2.2.2 hk hF hP1 hD1
theorem k_Vi (C : kC p s m args c cc own nL D K) (hP : va_P D vwCl ws H) (hD : va_D A ws) (hS : va_S A H0 H locs) (hA : ∀ q, H0.size ≤ q → A q) {post : Int32 → S → Prop}
    (hM : uMet l y bytes maxL ret rm D K X (.ref b :: As) wc (QI D K post W') mc ms) (hX : Xok X) (hXs : X s) {Cn : String} (hg : GoodIn wsL_law (wsV own index Cn y (uws y bytes maxL ret))) (hd : y.cls = Cn ∧ y.cls ≠ "java/lang/invoke/MethodHandle" ∧ y.cls ≠ "java/lang/invoke/VarHandle" ∧ (parseMethodDescriptor y.desc).map (fun d => d.parameters.length) = some As.length) (hR : rm.frames + 1 ≤ R.frames ∧ 8 + (maxL + 11) + rm.locals ≤ R.locals) (hrc : rm.cells = mc) (hrs : rm.slots = ms) {ci : Nat} {T : u_T} {N : Nat} {fs : List Value} (hc : vwCl[ci]? = some (Cn, T, N)) (he : wc[0]? = some (b, .inr (ci, fs))) {isC isR : List Nat} (hp : Part ws wc wr isC isR)
    (hst : st0 = As.reverse ++ .ref b :: rest) (hls : ls.size = nL) (hcat : (rest.map fun v => v.category).sum ≤ 8) (hdg : decode cc pc = .ok (.invokevirtual index, 3)) (hf : cells + mc ≤ R.cells ∧ slots + ms ≤ R.slots)
    (kk : ∀ (r : Int32) (u : S) (H1 : Heap) (locs1 : List Loc), post r u → va_P D vwCl (wr ++ W' u) H1 → va_D A (wr ++ W' u) → va_S A H0 H1 locs1 → W p l e R s m args below meth c H1 locs1 (cells + mc) (slots + ms) Q (F0 m (pc + 3) ls (.int r :: rest))) : W p l e R s m args below meth c H locs cells slots Q (F0 m pc ls st0) := by
  have hPc : va_P D vwCl wc H := va_sub' hP isC hp.1
  have hDc : va_D A wc := hD.sub isC hp.2.2.1 hp.1
  have hFc := va_free hD hS hA isC hp.1
  refine va_calli (va_runV (As := As) (rest := rest) ⟨C.1, C.2.1, C.2.2.1, C.2.2.2.1, C.2.2.2.2.1⟩ (hM H.size) (cwV As.length C.2.2.2.2.1 hg rfl hrc hrs hd hR) ⟨pre_blind hX, va_recv C.2.2.2.2.2 hPc hc he, k_pre C.2.2.2.2.2 hPc hDc hX hXs⟩ rfl rfl hls hst (lv_room hcat) hdg hf) hS (fun q _ h => hFc q h) hFc (fun r u t H1 locs1 ht hvm hw hB hz1 hk1 hS1 => ?_)
  obtain ⟨hP1, hK1, hD1⟩ := hB
  rw [ht] at hP1
  have hj := k_join (A1 := A) hP hD hp hk1 hFc hP1 hD1
  exact kk r u H1 locs1 hw hj.1 hj.2 hS1
theorem k_Si (C : kC p s m args c cc own nL D K) (hP : va_P D vwCl ws H) (hD : va_D A ws) (hS : va_S A H0 H locs) (hA : ∀ q, H0.size ≤ q → A q) {post : Int32 → S → Prop}
    (hM : uMet l y bytes maxL ret rm D K X As wc (QI D K post W') mc ms) (hX : Xok X) (hXs : X s) (hg : GoodIn wsL_law (va_wsS own index y (uws y bytes maxL ret))) (hd : y.cls ≠ "java/lang/invoke/MethodHandle" ∧ y.cls ≠ "java/lang/invoke/VarHandle" ∧ (parseMethodDescriptor y.desc).map (fun d => d.parameters.length) = some As.length) (hR : rm.frames + 1 ≤ R.frames ∧ 8 + (maxL + 11) + rm.locals ≤ R.locals) (hrc : rm.cells = mc) (hrs : rm.slots = ms)  {isC isR : List Nat} (hp : Part ws wc wr isC isR)
    (hst : st0 = As.reverse ++ rest) (hls : ls.size = nL) (hcat : (rest.map fun v => v.category).sum ≤ 8) (hdg : decode cc pc = .ok (.invokestatic index, 3)) (hf : cells + mc ≤ R.cells ∧ slots + ms ≤ R.slots)
    (kk : ∀ (r : Int32) (u : S) (H1 : Heap) (locs1 : List Loc), post r u → va_P D vwCl (wr ++ W' u) H1 → va_D A (wr ++ W' u) → va_S A H0 H1 locs1 → W p l e R s m args below meth c H1 locs1 (cells + mc) (slots + ms) Q (F0 m (pc + 3) ls (.int r :: rest))) : W p l e R s m args below meth c H locs cells slots Q (F0 m pc ls st0) := by
  have hPc : va_P D vwCl wc H := va_sub' hP isC hp.1
  have hDc : va_D A wc := hD.sub isC hp.2.2.1 hp.1
  have hFc := va_free hD hS hA isC hp.1
  refine va_calli (va_runS (As := As) (rest := rest) ⟨C.1, C.2.1, C.2.2.1, C.2.2.2.1, C.2.2.2.2.1⟩ (hM H.size) (va_cwS As.length C.2.2.2.2.1 hg rfl hrc hrs hd hR) ⟨pre_blind hX, k_pre C.2.2.2.2.2 hPc hDc hX hXs⟩ rfl rfl hls hst (lv_room hcat) hdg hf) hS (fun q _ h => hFc q h) hFc (fun r u t H1 locs1 ht hvm hw hB hz1 hk1 hS1 => ?_)
  obtain ⟨hP1, hK1, hD1⟩ := hB
  rw [ht] at hP1
  have hj := k_join (A1 := A) hP hD hp hk1 hFc hP1 hD1
  exact kk r u H1 locs1 hw hj.1 hj.2 hS1
theorem k_Vl (C : kC p s m args c cc own nL D K) (hP : va_P D vwCl ws H) (hD : va_D A ws) (hS : va_S A H0 H locs) (hA : ∀ q, H0.size ≤ q → A q) {post : Int64 → S → Prop}
    (hM : uMet l y bytes maxL ret rm D K X (.ref b :: As) wc (QL D K post W') mc ms) (hX : Xok X) (hXs : X s) {Cn : String} (hg : GoodIn wsL_law (wsV own index Cn y (uws y bytes maxL ret))) (hd : y.cls = Cn ∧ y.cls ≠ "java/lang/invoke/MethodHandle" ∧ y.cls ≠ "java/lang/invoke/VarHandle" ∧ (parseMethodDescriptor y.desc).map (fun d => d.parameters.length) = some As.length) (hR : rm.frames + 1 ≤ R.frames ∧ 8 + (maxL + 11) + rm.locals ≤ R.locals) (hrc : rm.cells = mc) (hrs : rm.slots = ms) {ci : Nat} {T : u_T} {N : Nat} {fs : List Value} (hc : vwCl[ci]? = some (Cn, T, N)) (he : wc[0]? = some (b, .inr (ci, fs))) {isC isR : List Nat} (hp : Part ws wc wr isC isR)
    (hst : st0 = As.reverse ++ .ref b :: rest) (hls : ls.size = nL) (hcat : (rest.map fun v => v.category).sum ≤ 8) (hdg : decode cc pc = .ok (.invokevirtual index, 3)) (hf : cells + mc ≤ R.cells ∧ slots + ms ≤ R.slots)
    (kk : ∀ (r : Int64) (u : S) (H1 : Heap) (locs1 : List Loc), post r u → va_P D vwCl (wr ++ W' u) H1 → va_D A (wr ++ W' u) → va_S A H0 H1 locs1 → W p l e R s m args below meth c H1 locs1 (cells + mc) (slots + ms) Q (F0 m (pc + 3) ls (.long r :: rest))) : W p l e R s m args below meth c H locs cells slots Q (F0 m pc ls st0) := by
  have hPc : va_P D vwCl wc H := va_sub' hP isC hp.1
  have hDc : va_D A wc := hD.sub isC hp.2.2.1 hp.1
  have hFc := va_free hD hS hA isC hp.1
  refine va_calll (va_runV (As := As) (rest := rest) ⟨C.1, C.2.1, C.2.2.1, C.2.2.2.1, C.2.2.2.2.1⟩ (hM H.size) (cwV As.length C.2.2.2.2.1 hg rfl hrc hrs hd hR) ⟨pre_blind hX, va_recv C.2.2.2.2.2 hPc hc he, k_pre C.2.2.2.2.2 hPc hDc hX hXs⟩ rfl rfl hls hst (lv_room hcat) hdg hf) hS (fun q _ h => hFc q h) hFc (fun r u t H1 locs1 ht hvm hw hB hz1 hk1 hS1 => ?_)
  obtain ⟨hP1, hK1, hD1⟩ := hB
  rw [ht] at hP1
  have hj := k_join (A1 := A) hP hD hp hk1 hFc hP1 hD1
  exact kk r u H1 locs1 hw hj.1 hj.2 hS1
theorem k_Sl (C : kC p s m args c cc own nL D K) (hP : va_P D vwCl ws H) (hD : va_D A ws) (hS : va_S A H0 H locs) (hA : ∀ q, H0.size ≤ q → A q) {post : Int64 → S → Prop}
    (hM : uMet l y bytes maxL ret rm D K X As wc (QL D K post W') mc ms) (hX : Xok X) (hXs : X s) (hg : GoodIn wsL_law (va_wsS own index y (uws y bytes maxL ret))) (hd : y.cls ≠ "java/lang/invoke/MethodHandle" ∧ y.cls ≠ "java/lang/invoke/VarHandle" ∧ (parseMethodDescriptor y.desc).map (fun d => d.parameters.length) = some As.length) (hR : rm.frames + 1 ≤ R.frames ∧ 8 + (maxL + 11) + rm.locals ≤ R.locals) (hrc : rm.cells = mc) (hrs : rm.slots = ms)  {isC isR : List Nat} (hp : Part ws wc wr isC isR)
    (hst : st0 = As.reverse ++ rest) (hls : ls.size = nL) (hcat : (rest.map fun v => v.category).sum ≤ 8) (hdg : decode cc pc = .ok (.invokestatic index, 3)) (hf : cells + mc ≤ R.cells ∧ slots + ms ≤ R.slots)
    (kk : ∀ (r : Int64) (u : S) (H1 : Heap) (locs1 : List Loc), post r u → va_P D vwCl (wr ++ W' u) H1 → va_D A (wr ++ W' u) → va_S A H0 H1 locs1 → W p l e R s m args below meth c H1 locs1 (cells + mc) (slots + ms) Q (F0 m (pc + 3) ls (.long r :: rest))) : W p l e R s m args below meth c H locs cells slots Q (F0 m pc ls st0) := by
  have hPc : va_P D vwCl wc H := va_sub' hP isC hp.1
  have hDc : va_D A wc := hD.sub isC hp.2.2.1 hp.1
  have hFc := va_free hD hS hA isC hp.1
  refine va_calll (va_runS (As := As) (rest := rest) ⟨C.1, C.2.1, C.2.2.1, C.2.2.2.1, C.2.2.2.2.1⟩ (hM H.size) (va_cwS As.length C.2.2.2.2.1 hg rfl hrc hrs hd hR) ⟨pre_blind hX, k_pre C.2.2.2.2.2 hPc hDc hX hXs⟩ rfl rfl hls hst (lv_room hcat) hdg hf) hS (fun q _ h => hFc q h) hFc (fun r u t H1 locs1 ht hvm hw hB hz1 hk1 hS1 => ?_)
  obtain ⟨hP1, hK1, hD1⟩ := hB
  rw [ht] at hP1
  have hj := k_join (A1 := A) hP hD hp hk1 hFc hP1 hD1
  exact kk r u H1 locs1 hw hj.1 hj.2 hS1
theorem k_Vv (C : kC p s m args c cc own nL D K) (hP : va_P D vwCl ws H) (hD : va_D A ws) (hS : va_S A H0 H locs) (hA : ∀ q, H0.size ≤ q → A q) {post : S → Prop}
    (hM : uMet l y bytes maxL ret rm D K X (.ref b :: As) wc (QV D K post W') mc ms) (hX : Xok X) (hXs : X s) {Cn : String} (hg : GoodIn wsL_law (wsV own index Cn y (uws y bytes maxL ret))) (hd : y.cls = Cn ∧ y.cls ≠ "java/lang/invoke/MethodHandle" ∧ y.cls ≠ "java/lang/invoke/VarHandle" ∧ (parseMethodDescriptor y.desc).map (fun d => d.parameters.length) = some As.length) (hR : rm.frames + 1 ≤ R.frames ∧ 8 + (maxL + 11) + rm.locals ≤ R.locals) (hrc : rm.cells = mc) (hrs : rm.slots = ms) {ci : Nat} {T : u_T} {N : Nat} {fs : List Value} (hc : vwCl[ci]? = some (Cn, T, N)) (he : wc[0]? = some (b, .inr (ci, fs))) {isC isR : List Nat} (hp : Part ws wc wr isC isR)
    (hst : st0 = As.reverse ++ .ref b :: rest) (hls : ls.size = nL) (hcat : (rest.map fun v => v.category).sum ≤ 8) (hdg : decode cc pc = .ok (.invokevirtual index, 3)) (hf : cells + mc ≤ R.cells ∧ slots + ms ≤ R.slots)
    (kk : ∀ (u : S) (H1 : Heap) (locs1 : List Loc), post u → va_P D vwCl (wr ++ W' u) H1 → va_D A (wr ++ W' u) → va_S A H0 H1 locs1 → W p l e R s m args below meth c H1 locs1 (cells + mc) (slots + ms) Q (F0 m (pc + 3) ls (rest))) : W p l e R s m args below meth c H locs cells slots Q (F0 m pc ls st0) := by
  have hPc : va_P D vwCl wc H := va_sub' hP isC hp.1
  have hDc : va_D A wc := hD.sub isC hp.2.2.1 hp.1
  have hFc := va_free hD hS hA isC hp.1
  refine va_callv (va_runV (As := As) (rest := rest) ⟨C.1, C.2.1, C.2.2.1, C.2.2.2.1, C.2.2.2.2.1⟩ (hM H.size) (cwV As.length C.2.2.2.2.1 hg rfl hrc hrs hd hR) ⟨pre_blind hX, va_recv C.2.2.2.2.2 hPc hc he, k_pre C.2.2.2.2.2 hPc hDc hX hXs⟩ rfl rfl hls hst (lv_room hcat) hdg hf) hS (fun q _ h => hFc q h) hFc (fun u t H1 locs1 ht hvm hw hB hz1 hk1 hS1 => ?_)
  obtain ⟨hP1, hK1, hD1⟩ := hB
  rw [ht] at hP1
  have hj := k_join (A1 := A) hP hD hp hk1 hFc hP1 hD1
  exact kk u H1 locs1 hw hj.1 hj.2 hS1
theorem k_Sv (C : kC p s m args c cc own nL D K) (hP : va_P D vwCl ws H) (hD : va_D A ws) (hS : va_S A H0 H locs) (hA : ∀ q, H0.size ≤ q → A q) {post : S → Prop}
    (hM : uMet l y bytes maxL ret rm D K X As wc (QV D K post W') mc ms) (hX : Xok X) (hXs : X s) (hg : GoodIn wsL_law (va_wsS own index y (uws y bytes maxL ret))) (hd : y.cls ≠ "java/lang/invoke/MethodHandle" ∧ y.cls ≠ "java/lang/invoke/VarHandle" ∧ (parseMethodDescriptor y.desc).map (fun d => d.parameters.length) = some As.length) (hR : rm.frames + 1 ≤ R.frames ∧ 8 + (maxL + 11) + rm.locals ≤ R.locals) (hrc : rm.cells = mc) (hrs : rm.slots = ms)  {isC isR : List Nat} (hp : Part ws wc wr isC isR)
    (hst : st0 = As.reverse ++ rest) (hls : ls.size = nL) (hcat : (rest.map fun v => v.category).sum ≤ 8) (hdg : decode cc pc = .ok (.invokestatic index, 3)) (hf : cells + mc ≤ R.cells ∧ slots + ms ≤ R.slots)
    (kk : ∀ (u : S) (H1 : Heap) (locs1 : List Loc), post u → va_P D vwCl (wr ++ W' u) H1 → va_D A (wr ++ W' u) → va_S A H0 H1 locs1 → W p l e R s m args below meth c H1 locs1 (cells + mc) (slots + ms) Q (F0 m (pc + 3) ls (rest))) : W p l e R s m args below meth c H locs cells slots Q (F0 m pc ls st0) := by
  have hPc : va_P D vwCl wc H := va_sub' hP isC hp.1
  have hDc : va_D A wc := hD.sub isC hp.2.2.1 hp.1
  have hFc := va_free hD hS hA isC hp.1
  refine va_callv (va_runS (As := As) (rest := rest) ⟨C.1, C.2.1, C.2.2.1, C.2.2.2.1, C.2.2.2.2.1⟩ (hM H.size) (va_cwS As.length C.2.2.2.2.1 hg rfl hrc hrs hd hR) ⟨pre_blind hX, k_pre C.2.2.2.2.2 hPc hDc hX hXs⟩ rfl rfl hls hst (lv_room hcat) hdg hf) hS (fun q _ h => hFc q h) hFc (fun u t H1 locs1 ht hvm hw hB hz1 hk1 hS1 => ?_)
  obtain ⟨hP1, hK1, hD1⟩ := hB
  rw [ht] at hP1
  have hj := k_join (A1 := A) hP hD hp hk1 hFc hP1 hD1
  exact kk u H1 locs1 hw hj.1 hj.2 hS1
theorem k_Iv (C : kC p s m args c cc own nL D K) (hP : va_P D vwCl ws H) (hD : va_D A ws) (hS : va_S A H0 H locs) (hA : ∀ q, H0.size ≤ q → A q) {post : S → Prop}
    (hM : uMet l y bytes maxL none rm D K X (.ref b :: As) wc (QV D K post W') mc ms) (hX : Xok X) (hXs : X s) (hco : Cond.code y bytes maxL none ∈ wsL_law) (hini : Cond.initialized y.cls ∈ wsL_law) (hl : Cond.methodLink own index y ∈ wsL_law) (hin : Cond.instanceMethod y ∈ wsL_law) (hy1 : y.name = "<init>") (hd : y.cls ≠ "java/lang/invoke/MethodHandle" ∧ y.cls ≠ "java/lang/invoke/VarHandle" ∧ (parseMethodDescriptor y.desc).map (fun d => d.parameters.length) = some As.length) (hR : rm.frames + 1 ≤ R.frames ∧ 8 + (maxL + 11) + rm.locals ≤ R.locals) (hrc : rm.cells = mc) (hrs : rm.slots = ms)  {isC isR : List Nat} (hp : Part ws wc wr isC isR)
    (hst : st0 = As.reverse ++ .ref b :: rest) (hls : ls.size = nL) (hcat : (rest.map fun v => v.category).sum ≤ 8) (hdg : decode cc pc = .ok (.invokespecial index, 3)) (hf : cells + mc ≤ R.cells ∧ slots + ms ≤ R.slots)
    (kk : ∀ (u : S) (H1 : Heap) (locs1 : List Loc), post u → va_P D vwCl (wr ++ W' u) H1 → va_D A (wr ++ W' u) → va_S A H0 H1 locs1 → W p l e R s m args below meth c H1 locs1 (cells + mc) (slots + ms) Q (F0 m (pc + 3) ls (rest))) : W p l e R s m args below meth c H locs cells slots Q (F0 m pc ls st0) := by
  have hPc : va_P D vwCl wc H := va_sub' hP isC hp.1
  have hDc : va_D A wc := hD.sub isC hp.2.2.1 hp.1
  have hFc := va_free hD hS hA isC hp.1
  refine va_callv (va_runI (As := As) (rest := rest) ⟨C.1, C.2.1, C.2.2.1, C.2.2.2.1, C.2.2.2.2.1⟩ (hM H.size) (cwI As.length C.2.2.2.2.1 (uws_good hco) rfl hrc hrs (C.2.2.2.2.1 _ hini) (C.2.2.2.2.1 _ hl) (C.2.2.2.2.1 _ hin) hy1 hd hR) ⟨pre_blind hX, k_pre C.2.2.2.2.2 hPc hDc hX hXs⟩ rfl rfl hls hst (lv_room hcat) hdg hf) hS (fun q _ h => hFc q h) hFc (fun u t H1 locs1 ht hvm hw hB hz1 hk1 hS1 => ?_)
  obtain ⟨hP1, hK1, hD1⟩ := hB
  rw [ht] at hP1
  have hj := k_join (A1 := A) hP hD hp hk1 hFc hP1 hD1
  exact kk u H1 locs1 hw hj.1 hj.2 hS1
theorem k_INv (C : kC p s m args c cc own nL D K) (hP : va_P D vwCl ws H) (hD : va_D A ws) (hS : va_S A H0 H locs) (hA : ∀ q, H0.size ≤ q → A q) {post : S → Prop}
    (hM : uMet l y bytes maxL none rm D K X (.ref b :: As) wc (QV D K post W') mc ms) (hX : Xok X) (hXs : X s) (hco : Cond.code y bytes maxL none ∈ wsL_law) (hini : Cond.initialized y.cls ∈ wsL_law) {host : String} (hl : va_Nw (.methodLinkNest own index y host) s) (hin : Cond.instanceMethod y ∈ wsL_law) (hy1 : y.name = "<init>") (hd : y.cls ≠ "java/lang/invoke/MethodHandle" ∧ y.cls ≠ "java/lang/invoke/VarHandle" ∧ (parseMethodDescriptor y.desc).map (fun d => d.parameters.length) = some As.length) (hR : rm.frames + 1 ≤ R.frames ∧ 8 + (maxL + 11) + rm.locals ≤ R.locals) (hrc : rm.cells = mc) (hrs : rm.slots = ms)  {isC isR : List Nat} (hp : Part ws wc wr isC isR)
    (hst : st0 = As.reverse ++ .ref b :: rest) (hls : ls.size = nL) (hcat : (rest.map fun v => v.category).sum ≤ 8) (hdg : decode cc pc = .ok (.invokespecial index, 3)) (hf : cells + mc ≤ R.cells ∧ slots + ms ≤ R.slots)
    (kk : ∀ (u : S) (H1 : Heap) (locs1 : List Loc), post u → va_P D vwCl (wr ++ W' u) H1 → va_D A (wr ++ W' u) → va_S A H0 H1 locs1 → W p l e R s m args below meth c H1 locs1 (cells + mc) (slots + ms) Q (F0 m (pc + 3) ls (rest))) : W p l e R s m args below meth c H locs cells slots Q (F0 m pc ls st0) := by
  have hPc : va_P D vwCl wc H := va_sub' hP isC hp.1
  have hDc : va_D A wc := hD.sub isC hp.2.2.1 hp.1
  have hFc := va_free hD hS hA isC hp.1
  refine va_callv (va_runIN (As := As) (rest := rest) ⟨C.1, C.2.1, C.2.2.1, C.2.2.2.1, C.2.2.2.2.1⟩ (hM H.size) ⟨va_cnB As.length C.2.2.2.2.1 (uws_good hco) rfl hrc hrs hl (C.2.2.2.2.1 _ hini) hd hR, hy1, C.2.2.2.2.1 _ hin⟩ ⟨pre_blind hX, k_pre C.2.2.2.2.2 hPc hDc hX hXs⟩ rfl rfl hls hst (lv_room hcat) hdg hf) hS (fun q _ h => hFc q h) hFc (fun u t H1 locs1 ht hvm hw hB hz1 hk1 hS1 => ?_)
  obtain ⟨hP1, hK1, hD1⟩ := hB
  rw [ht] at hP1
  have hj := k_join (A1 := A) hP hD hp hk1 hFc hP1 hD1
  exact kk u H1 locs1 hw hj.1 hj.2 hS1
theorem k_Vr (C : kC p s m args c cc own nL D K) (hP : va_P D vwCl ws H) (hD : va_D A ws) (hS : va_S A H0 H locs) (hA : ∀ q, H0.size ≤ q → A q) {post : S → Prop} {ra : S → Nat}
    (hM : uMet l y bytes maxL ret rm D K X (.ref b :: As) wc (QR D K post ra W') mc ms) (hX : Xok X) (hXs : X s) {Cn : String} (hg : GoodIn wsL_law (wsV own index Cn y (uws y bytes maxL ret))) (hd : y.cls = Cn ∧ y.cls ≠ "java/lang/invoke/MethodHandle" ∧ y.cls ≠ "java/lang/invoke/VarHandle" ∧ (parseMethodDescriptor y.desc).map (fun d => d.parameters.length) = some As.length) (hR : rm.frames + 1 ≤ R.frames ∧ 8 + (maxL + 11) + rm.locals ≤ R.locals) (hrc : rm.cells = mc) (hrs : rm.slots = ms) {ci : Nat} {T : u_T} {N : Nat} {fs : List Value} (hc : vwCl[ci]? = some (Cn, T, N)) (he : wc[0]? = some (b, .inr (ci, fs))) {isC isR : List Nat} (hp : Part ws wc wr isC isR)
    (hst : st0 = As.reverse ++ .ref b :: rest) (hls : ls.size = nL) (hcat : (rest.map fun v => v.category).sum ≤ 8) (hdg : decode cc pc = .ok (.invokevirtual index, 3)) (hf : cells + mc ≤ R.cells ∧ slots + ms ≤ R.slots)
    (kk : ∀ (u : S) (H1 : Heap) (locs1 : List Loc), post u → va_P D vwCl (wr ++ W' u) H1 → va_D A (wr ++ W' u) → va_S A H0 H1 locs1 → W p l e R s m args below meth c H1 locs1 (cells + mc) (slots + ms) Q (F0 m (pc + 3) ls (.ref (ra u) :: rest))) : W p l e R s m args below meth c H locs cells slots Q (F0 m pc ls st0) := by
  have hPc : va_P D vwCl wc H := va_sub' hP isC hp.1
  have hDc : va_D A wc := hD.sub isC hp.2.2.1 hp.1
  have hFc := va_free hD hS hA isC hp.1
  refine va_callr (va_runV (As := As) (rest := rest) ⟨C.1, C.2.1, C.2.2.1, C.2.2.2.1, C.2.2.2.2.1⟩ (hM H.size) (cwV As.length C.2.2.2.2.1 hg rfl hrc hrs hd hR) ⟨pre_blind hX, va_recv C.2.2.2.2.2 hPc hc he, k_pre C.2.2.2.2.2 hPc hDc hX hXs⟩ rfl rfl hls hst (lv_room hcat) hdg hf) hS (fun q _ h => hFc q h) hFc (fun u ra1 t H1 locs1 ht hvm hw hB hz1 hk1 hS1 => ?_)
  obtain ⟨rfl, hP1, hK1, hD1⟩ := hB
  rw [ht] at hP1
  have hj := k_join (A1 := A) hP hD hp hk1 hFc hP1 hD1
  exact kk u H1 locs1 hw hj.1 hj.2 hS1
theorem k_Sr (C : kC p s m args c cc own nL D K) (hP : va_P D vwCl ws H) (hD : va_D A ws) (hS : va_S A H0 H locs) (hA : ∀ q, H0.size ≤ q → A q) {post : S → Prop} {ra : S → Nat}
    (hM : uMet l y bytes maxL ret rm D K X As wc (QR D K post ra W') mc ms) (hX : Xok X) (hXs : X s) (hg : GoodIn wsL_law (va_wsS own index y (uws y bytes maxL ret))) (hd : y.cls ≠ "java/lang/invoke/MethodHandle" ∧ y.cls ≠ "java/lang/invoke/VarHandle" ∧ (parseMethodDescriptor y.desc).map (fun d => d.parameters.length) = some As.length) (hR : rm.frames + 1 ≤ R.frames ∧ 8 + (maxL + 11) + rm.locals ≤ R.locals) (hrc : rm.cells = mc) (hrs : rm.slots = ms)  {isC isR : List Nat} (hp : Part ws wc wr isC isR)
    (hst : st0 = As.reverse ++ rest) (hls : ls.size = nL) (hcat : (rest.map fun v => v.category).sum ≤ 8) (hdg : decode cc pc = .ok (.invokestatic index, 3)) (hf : cells + mc ≤ R.cells ∧ slots + ms ≤ R.slots)
    (kk : ∀ (u : S) (H1 : Heap) (locs1 : List Loc), post u → va_P D vwCl (wr ++ W' u) H1 → va_D A (wr ++ W' u) → va_S A H0 H1 locs1 → W p l e R s m args below meth c H1 locs1 (cells + mc) (slots + ms) Q (F0 m (pc + 3) ls (.ref (ra u) :: rest))) : W p l e R s m args below meth c H locs cells slots Q (F0 m pc ls st0) := by
  have hPc : va_P D vwCl wc H := va_sub' hP isC hp.1
  have hDc : va_D A wc := hD.sub isC hp.2.2.1 hp.1
  have hFc := va_free hD hS hA isC hp.1
  refine va_callr (va_runS (As := As) (rest := rest) ⟨C.1, C.2.1, C.2.2.1, C.2.2.2.1, C.2.2.2.2.1⟩ (hM H.size) (va_cwS As.length C.2.2.2.2.1 hg rfl hrc hrs hd hR) ⟨pre_blind hX, k_pre C.2.2.2.2.2 hPc hDc hX hXs⟩ rfl rfl hls hst (lv_room hcat) hdg hf) hS (fun q _ h => hFc q h) hFc (fun u ra1 t H1 locs1 ht hvm hw hB hz1 hk1 hS1 => ?_)
  obtain ⟨rfl, hP1, hK1, hD1⟩ := hB
  rw [ht] at hP1
  have hj := k_join (A1 := A) hP hD hp hk1 hFc hP1 hD1
  exact kk u H1 locs1 hw hj.1 hj.2 hS1
end KCALL
end
section
theorem hdV {y : MethodName} {Cn : String} {As : List Value} (n : Nat) (h : y.cls = Cn ∧ y.cls ≠ "java/lang/invoke/MethodHandle" ∧ y.cls ≠ "java/lang/invoke/VarHandle" ∧ (parseMethodDescriptor y.desc).map (fun d => d.parameters.length) = some n) (hn : As.length = n) : y.cls = Cn ∧ y.cls ≠ "java/lang/invoke/MethodHandle" ∧ y.cls ≠ "java/lang/invoke/VarHandle" ∧ (parseMethodDescriptor y.desc).map (fun d => d.parameters.length) = some As.length := by
  rw [hn]; exact h
theorem hdS {y : MethodName} {As : List Value} (n : Nat) (h : y.cls ≠ "java/lang/invoke/MethodHandle" ∧ y.cls ≠ "java/lang/invoke/VarHandle" ∧ (parseMethodDescriptor y.desc).map (fun d => d.parameters.length) = some n) (hn : As.length = n) : y.cls ≠ "java/lang/invoke/MethodHandle" ∧ y.cls ≠ "java/lang/invoke/VarHandle" ∧ (parseMethodDescriptor y.desc).map (fun d => d.parameters.length) = some As.length := by
  rw [hn]; exact h
theorem asg_refl (vm : Vm) (c : ClassId) : vm.assignable c c = true := by
  show vm.assignableAux (255 + 1) c c = true
  unfold Vm.assignableAux
  rw [beq_self_eq_true, Bool.true_or]
/-- what the tables say beyond the good words: two private constructors of nest mates, two classes of arrays of arrays -/
def XX (U : State) : Prop := va_Nw (.methodLinkNest RX11 28 yX8_init "SixBitBoard") U ∧ va_Nw (.methodLinkNest RX10 39 yX6_init "SixBitBoard") U ∧ (Cond.arrayOver (.array .byte)).before #[] U = true ∧ (Cond.arrayOver (.array .int)).before #[] U = true
theorem ao_moved {t : FieldType} {u U : State} (hvm : u.vm.Alike U.vm) (h : (Cond.arrayOver (.array t)).before #[] u = true) : (Cond.arrayOver (.array t)).before #[] U = true := by
  obtain ⟨comp, c, k, h1, h2, h3, h4, h5⟩ := arrayOverA_spec h
  obtain ⟨k', hk', he⟩ := hvm.2.2 _ _ h3
  have hi : (U.vm.classes.findIdx? fun (x : Class) => match x.kind with | .array component _ => component == comp | _ => false) = some c := by
    have e1 := va_idx_bare U.vm comp
    have e2 := va_idx_bare u.vm comp
    have e3 : U.vm.bare = u.vm.bare := hvm.bare_eq
    rw [e3] at e1
    exact (e1.symm.trans e2).trans h2
  have hkind : k'.kind = .array comp (.array t) := by rw [he]; exact h4
  have f1 : U.vm.findClass (FieldType.array t).toString = some comp := by rw [hvm.findClass]; exact h1
  have f2 : U.vm.findClass ("[" ++ (FieldType.array t).toString) = some c := by rw [hvm.findClass]; exact h5
  unfold Cond.before Cond.holds
  simp only [Cond.value]
  rw [f1, Option.bind_some]
  refine (congrArg (fun o : Option Nat => (o.bind (fun c => (U.vm.classes[c]?).map fun (k : Class) => match k.kind with | .array _ ty => decide (ty = FieldType.array t) && decide (U.vm.findClass ("[" ++ (FieldType.array t).toString) = some c) | _ => false) == some true)) hi).trans ?_
  simp [hk', hkind, f2]
theorem XX_ok : Xok XX := fun _ _ hW h => ⟨va_Nw.warmM hW h.1, va_Nw.warmM hW h.2.1, ao_moved hW.alike h.2.2.1, ao_moved hW.alike h.2.2.2⟩
section KA
variable {p : Program} {l : Launch} {e : Env} {R : Room} {s : State} {m : MethodId} {args : Array Value} {below : List Frame} {meth : Method} {c : Code} {H : Heap} {locs : List Loc} {cells slots : Nat} {Q : State → Prop}
variable {cc : ByteArray} {pc nL : Nat} {own : String} {ls : Array Slot} {rest : List Value} {D : va_G} {K : Nat → ClassId} {A : Nat → Prop} {a : Nat} {ws ws' : va_W} {H0 : Heap}
theorem k_anew (C : kC p s m args c cc own nL D K) (hP : va_P D vwCl ws H) (hD : va_D A ws) (hS : va_S A H0 H locs) (hA : ∀ q, H0.size ≤ q → A q) (t0 : Nat) {t : FieldType} {nm : String} {index : Nat} (hnm : (FieldType.array t).toString = nm) (ht : (TY K)[t0]? = some (K t0, .array t)) (hcl : Cond.classLink own index nm ∈ wsL_law) (hover : (Cond.arrayOver (.array t)).before #[] s = true)
    {n : Int32} {N' : Nat} (hn : ¬ n < 0) (hN : n.toNatClampNeg = N') (hbytes : N' * 4 ≤ 536870912) (hcells : cells + 1 ≤ R.cells) (hslots : slots + N' ≤ R.slots) (hdg : decode cc pc = .ok (.anewarray index, 3))
    (kk : ∀ (q : Nat) (H1 : Heap), va_P D vwCl (ws ++ [(q, .inl (K t0, N', .inr (.inr (.inr (.inr (fun _ => none))))))]) H1 → va_D A (ws ++ [(q, .inl (K t0, N', .inr (.inr (.inr (.inr (fun _ => none))))))]) → va_S A H0 H1 locs →
      W p l e R s m args below meth c H1 locs (cells + 1) (slots + N') Q (F0 m (pc + 3) ls (.ref q :: rest))) : W p l e R s m args below meth c H locs cells slots Q (F0 m pc ls (.int n :: rest)) := by
  subst hN
  subst hnm
  refine W.anewA C.1 C.2.1 C.2.2.2.1 (C.2.2.2.2.1 _ hcl) (show (Cond.arrayOver (.array t)).before args s = true from hover) rfl hdg rfl hn hbytes hcells hslots fun cA kA comp f1 f2 f3 f4 => ?_
  have he : cA = K t0 := Option.some.inj (f1.symm.trans (C.2.2.2.2.2.2 t0 _ ht).2)
  subst he
  generalize hH1 : H.push ({ cls := K t0, slots := Array.replicate n.toNatClampNeg .null, vm := .none } : Cell) = H1
  have z1 : H1.size = H.size + 1 := by rw [← hH1, Array.size_push]
  have e1 : H1[H.size]? = some (arrV (K t0) n.toNatClampNeg (fun _ => .null)) := by rw [← hH1, Array.getElem?_push_size, ← arrV_new]
  have o1 : ∀ q : Nat, q < H.size → H1[q]? = H[q]? := fun q hq => by rw [← hH1, Array.getElem?_push, if_neg (Nat.ne_of_lt hq)]
  have hk : ∀ (k : Nat) (x : Nat × va_E), ws[k]? = some x → H1[x.1]? = H[x.1]? := fun k x hx => o1 x.1 ((hP k x hx).lt)
  refine kk H.size H1 ((hP.kept hk).app (fun k x hx => ?_)) (hD.push hP rfl (hA _ hS.1)) ⟨Nat.le_trans hS.1 (by omega), fun x h1 h2 => (o1 x (Nat.lt_of_lt_of_le h1 hS.1)).trans (hS.2.1 x h1 h2), hS.2.2⟩
  have hz : k < 1 := (List.getElem?_eq_some_iff.mp hx).1
  rw [show k = 0 by omega] at hx
  cases hx
  show H1[H.size]? = some (vp_cell _ _)
  rw [vp_cell_q]
  exact e1
theorem k_ald (C : kC p s m args c cc own nL D K) (hP : va_P D vwCl ws H) (q0 t0 : Nat) {t : FieldType} {n : Nat} {f : Nat → Option Nat} (ha : ws[q0]? = some (a, .inl (K t0, n, .inr (.inr (.inr (.inr f)))))) (ht : (TY K)[t0]? = some (K t0, .array t)) {i : Int32} (hin : vp_in i n) {w : Value} (hw : va_rf (f i.toNatClampNeg) = w) (hdg : decode cc pc = .ok (.aaload, 1))
    (kk : W p l e R s m args below meth c H locs cells slots Q (F0 m (pc + 1) ls (w :: rest))) : W p l e R s m args below meth c H locs cells slots Q (F0 m pc ls (.int i :: .ref a :: rest)) := by
  subst hw
  have hlt : i.toNatClampNeg < n := Nat.not_le.mp fun q => hin (Or.inr q)
  exact W.aald (v := va_rf (f i.toNatClampNeg)) (ty := .array t) C.1 C.2.1 (hP q0 _ ha) ((C.2.2.2.2.2.2 t0 _ ht).1 n (fun j => va_rf (f j))) rfl (fun q => by cases q) (by show ¬ (i < 0 ∨ (arrV _ _ _).slots.size ≤ _); rw [arrV_size]; exact hin) (by show (arrV _ _ _).slots[_]? = _; rw [arrV_read _ _ hlt]) rfl rfl hdg kk
/-- an array is put into an array of arrays -/
theorem k_ast (C : kC p s m args c cc own nL D K) (hP : va_P D vwCl ws H) (hD : va_D A ws) (hS : va_S A H0 H locs) (q0 t0 q1 t1 : Nat) {t : FieldType} {n v : Nat} {f : Nat → Option Nat} {x : vp_A} (ha : ws[q0]? = some (a, .inl (K t0, n, .inr (.inr (.inr (.inr f)))))) (ht : (TY K)[t0]? = some (K t0, .array t)) (hv : ws[q1]? = some (v, .inl (K t1, x))) (ht1 : (TY K)[t1]? = some (K t1, t)) (hra : va_RA s (K t1) t = (s.vm.findClass (FieldType.array t).toString = some (K t1))) (hover : (Cond.arrayOver (.array t)).before #[] s = true) {i : Int32} {j : Nat} (hin : vp_in i n) (hj : i.toNatClampNeg = j) (hw : ws.set q0 (a, .inl (K t0, n, .inr (.inr (.inr (.inr (va_up f j (some v))))))) = ws') (hdg : decode cc pc = .ok (.aastore, 1))
    (kk : ∀ (H1 : Heap) (locs1 : List Loc), va_P D vwCl ws' H1 → va_D A ws' → va_S A H0 H1 locs1 → W p l e R s m args below meth c H1 locs1 cells slots Q (F0 m (pc + 1) ls rest)) : W p l e R s m args below meth c H locs cells slots Q (F0 m pc ls (.ref v :: .int i :: .ref a :: rest)) := by
  subst hw
  subst hj
  have hlt : i.toNatClampNeg < n := Nat.not_le.mp fun q => hin (Or.inr q)
  have h0 : ¬ i < 0 := fun q => hin (Or.inl q)
  obtain ⟨comp, cA, kA, g1, -, g3, g4, g5⟩ := arrayOverA_spec hover
  have e0 : cA = K t0 := Option.some.inj (g5.symm.trans (C.2.2.2.2.2.2 t0 _ ht).2)
  subst e0
  have h1 := (C.2.2.2.2.2.2 t1 _ ht1).2
  rw [hra] at h1
  have e1 : comp = K t1 := Option.some.inj (g1.symm.trans h1)
  subst e1
  obtain ⟨kV, hkV, -⟩ := Vm.findClass_spec h1
  have hcv : ∃ cv : Cell, H[v]? = some cv ∧ cv.cls = K t1 ∧ cv.vm = .none := by
    have h9 := hP q1 _ hv
    refine ⟨_, h9, ?_, ?_⟩ <;> (rcases x with ⟨xn, xf | xf | xf | xf | xf⟩ <;> rfl)
  obtain ⟨cv, hc1, hc2, hc3⟩ := hcv
  refine W.aast C.1 C.2.1 (hP q0 _ ha) (fun q h => by cases h) (fun h => by cases h) g3 g4 rfl hkV ⟨h0, by show _ < (arrV _ _ _).slots.size; rw [arrV_size]; exact hlt⟩ hc1 (fun q h => by rw [hc3] at h; cases h) (by rw [hc2]; exact hkV) (by rw [hc2]; exact asg_refl _ _) rfl rfl hdg fun H1 e z oq => ?_
  refine kk H1 _ (hP.set hD ha ?_ oq) (hD.set ha) (hS.put z oq (hD.2 q0 _ ha))
  show H1[a]? = some (vp_cell _ _)
  rw [e]
  rw [vp_cell_q, vp_cell_q, arrV_store]
  congr 2
  funext q
  by_cases hq : q = i.toNatClampNeg
  · subst hq
    simp [updV, va_up, va_rf]
  · simp [updV, va_up, hq]
end KA
end
section

theorem ti_iadd {x y : Int32} (h1 : -2147483648 ≤ x.toInt + y.toInt) (h2 : x.toInt + y.toInt < 2147483648) : (x + y).toInt = x.toInt + y.toInt := (Int32.toInt_add x y).trans (Int.bmod_eq_of_le (by omega) (by omega))
theorem ti_isub {x y : Int32} (h1 : -2147483648 ≤ x.toInt - y.toInt) (h2 : x.toInt - y.toInt < 2147483648) : (x - y).toInt = x.toInt - y.toInt := (Int32.toInt_sub x y).trans (Int.bmod_eq_of_le (by omega) (by omega))
theorem ti_imul {x y : Int32} (h1 : -2147483648 ≤ x.toInt * y.toInt) (h2 : x.toInt * y.toInt < 2147483648) : (x * y).toInt = x.toInt * y.toInt := (Int32.toInt_mul x y).trans (Int.bmod_eq_of_le (by omega) (by omega))
/-- two contents that agree within the length are one -/
theorem arr_eq {D : va_G} {ws : va_W} {q a n : Nat} {cA : ClassId} {f g : Nat → Int32} {H : Heap} (h : va_P D vwCl (ws.set q (a, .inl (cA, n, .inl f))) H) (e : ∀ j, j < n → f j = g j) : va_P D vwCl (ws.set q (a, .inl (cA, n, .inl g))) H := by
  have hc : vp_cell cA (n, .inl f) = vp_cell cA (n, .inl g) := by
    show arrV cA n (fun j => .int (f j)) = arrV cA n (fun j => .int (g j))
    unfold arrV
    congr 1
    congr 1
    funext j
    show Value.int (f j.val) = Value.int (g j.val)
    rw [e j.val j.isLt]
  intro k x hx
  by_cases hk : k = q
  · subst hk
    by_cases hl : k < ws.length
    · rw [List.getElem?_set_self hl] at hx
      cases hx
      have h1 := h k _ (List.getElem?_set_self hl)
      show H[a]? = some (vp_cell cA (n, .inl g))
      rw [← hc]; exact h1
    · rw [List.getElem?_eq_none (by rw [List.length_set]; omega)] at hx
      cases hx
  · rw [List.getElem?_set_ne (fun e => hk e.symm)] at hx
    exact h k x (by rw [List.getElem?_set_ne (fun e => hk e.symm)]; exact hx)
theorem arr_eqL {D : va_G} {ws : va_W} {q a n : Nat} {cA : ClassId} {f g : Nat → Int64} {H : Heap} (h : va_P D vwCl (ws.set q (a, .inl (cA, n, .inr (.inl f)))) H) (e : ∀ j, j < n → f j = g j) : va_P D vwCl (ws.set q (a, .inl (cA, n, .inr (.inl g)))) H := by
  have hc : vp_cell cA (n, .inr (.inl f)) = vp_cell cA (n, .inr (.inl g)) := by
    show arrV cA n (fun j => .long (f j)) = arrV cA n (fun j => .long (g j))
    unfold arrV
    congr 1
    congr 1
    funext j
    show Value.long (f j.val) = Value.long (g j.val)
    rw [e j.val j.isLt]
  intro k x hx
  by_cases hk : k = q
  · subst hk
    by_cases hl : k < ws.length
    · rw [List.getElem?_set_self hl] at hx
      cases hx
      have h1 := h k _ (List.getElem?_set_self hl)
      show H[a]? = some (vp_cell cA (n, .inr (.inl g)))
      rw [← hc]; exact h1
    · rw [List.getElem?_eq_none (by rw [List.length_set]; omega)] at hx
      cases hx
  · rw [List.getElem?_set_ne (fun e => hk e.symm)] at hx
    exact h k x (by rw [List.getElem?_set_ne (fun e => hk e.symm)]; exact hx)
theorem ws_at {ws : va_W} {q : Nat} {a : Nat} {x y : va_E} (h : ws[q]? = some (a, x)) : (ws.set q (a, y))[q]? = some (a, y) := List.getElem?_set_self (List.getElem?_eq_some_iff.mp h).1
theorem ws_ne {ws : va_W} {q k : Nat} {x : Nat × va_E} {y : Option (Nat × va_E)} (hk : q ≠ k) (h : ws[k]? = y) : (ws.set q x)[k]? = y := by rw [List.getElem?_set_ne hk]; exact h
theorem upd_lt {f : Nat → Int32} {i : Nat} {v : Int32} (h : ∀ j, j < i → f j = v) : ∀ j, j < i + 1 → upd f i v j = v := by
  intro j hj
  by_cases e : j = i
  · subst e; exact pk_us
  · rw [pk_un e]; exact h j (by omega)
theorem updL_lt {f : Nat → Int64} {i : Nat} {v : Int64} (h : ∀ j, j < i → f j = v) : ∀ j, j < i + 1 → vp_updL f i v j = v := by
  intro j hj
  by_cases e : j = i
  · subst e; exact pk_uLs
  · rw [pk_uLn e]; exact h j (by omega)
section LOOP
variable {p : Program} {l : Launch} {e : Env} {R : Room} {s : State} {m : MethodId} {args : Array Value} {below : List Frame} {meth : Method} {c : Code} {cells slots : Nat} {Q : State → Prop}
variable {cc : ByteArray} {nL : Nat} {own : String} {rest : List Value} {D : va_G} {K : Nat → ClassId} {A : Nat → Prop} {H0 : Heap}

/-- for (k = 0; k < n; k++) this.row[k] = v -/
theorem k_loopI (C : kC p s m args c cc own nL D K) {h h2 h3 ex idx : Nat} {off off2 : Int} (n : Nat) (hn : n < 2 ^ 31) (v v' : Int32) (hv' : v = v') {ws : va_W} {q0 q1 a0 a1 ci N k : Nat} {Cn : String} {T : u_T} {fs : List Value} {f0 : Nat → Int32} (hq : q1 ≠ q0) (he : ws[q0]? = some (a0, .inr (ci, fs))) (hc : vwCl[ci]? = some (Cn, T, N)) (hin : ∀ w ∈ u_ws Cn T N, w ∈ wsL_law) (hk : k < N) (hl : Cond.fieldLink own idx (T k).1 (T k).2.1 (T k).2.2.1 ∈ wsL_law) (hv : fs[k]? = some (.ref a1)) (ha : ws[q1]? = some (a1, .inl (K 0, n, .inl f0))) (hnl : 1 < nL)
    (d0 : decode cc h = .ok (.iload_n 1, 1)) (push : ∀ (H : Heap) (locs : List Loc) (ls : Array Slot) (st : List Value), W p l e R s m args below meth c H locs cells slots Q (F0 m h2 ls (.int (nI n) :: st)) → W p l e R s m args below meth c H locs cells slots Q (F0 m (h + 1) ls st)) (d2 : decode cc h2 = .ok (.if_icmp .ge off, 3)) (t2 : (h2 : Int) + off = (ex : Int)) (d3 : decode cc (h2 + 3) = .ok (.aload_n 0, 1)) (d4 : decode cc (h2 + 4) = .ok (.getfield idx, 3)) (d5 : decode cc (h2 + 7) = .ok (.iload_n 1, 1)) (pushv : ∀ (H : Heap) (locs : List Loc) (ls : Array Slot) (st : List Value), W p l e R s m args below meth c H locs cells slots Q (F0 m h3 ls (.int v :: st)) → W p l e R s m args below meth c H locs cells slots Q (F0 m (h2 + 8) ls st)) (d7 : decode cc h3 = .ok (.iastore, 1)) (d8 : decode cc (h3 + 1) = .ok (.iinc 1 1, 3)) (d9 : decode cc (h3 + 4) = .ok (.goto off2, 3)) (t9 : (((h3 + 4 : Nat)) : Int) + off2 = (h : Int))
    (kk : ∀ (H : Heap) (locs : List Loc) (ls : Array Slot), va_P D vwCl (ws.set q1 (a1, .inl (K 0, n, .inl (fun _ => v')))) H → va_D A (ws.set q1 (a1, .inl (K 0, n, .inl (fun _ => v')))) → va_S A H0 H locs → lv_has ls nL [(1, .int (nI n)), (0, .ref a0)] → W p l e R s m args below meth c H locs cells slots Q (F0 m ex ls rest)) :
    ∀ (H : Heap) (locs : List Loc) (ls : Array Slot), va_P D vwCl ws H → va_D A ws → va_S A H0 H locs → lv_has ls nL [(1, .int 0), (0, .ref a0)] → W p l e R s m args below meth c H locs cells slots Q (F0 m h ls rest) := by
  have gen : ∀ (r i : Nat) (f : Nat → Int32), i + r = n → (∀ j, j < i → f j = v') → ∀ (H : Heap) (locs : List Loc) (ls : Array Slot), va_P D vwCl (ws.set q1 (a1, .inl (K 0, n, .inl f))) H → va_D A (ws.set q1 (a1, .inl (K 0, n, .inl f))) → va_S A H0 H locs → lv_has ls nL [(1, .int (nI i)), (0, .ref a0)] → W p l e R s m args below meth c H locs cells slots Q (F0 m h ls rest) := by
    intro r
    induction r with
    | zero =>
      intro i f hi hf H locs ls hP hD hS hls
      have hin' : i = n := by omega
      subst hin'
      refine lv_iload_n C.1 C.2.1 d0 rfl (lv_at hls 0 rfl) ?_
      refine push H locs ls _ ?_
      refine lv_icmp_ge C.1 C.2.1 d2 t2 (fun _ => ?_) (fun hh => absurd (nI_le (Nat.le_refl i) hn) hh)
      exact kk H locs ls (arr_eq hP (fun j hj => hf j hj)) (by have := hD.set (e := .inl (K 0, i, .inl (fun _ => v'))) (ws_at ha); rw [List.set_set] at this; exact this) hS hls
    | succ r ih =>
      intro i f hi hf H locs ls hP hD hS hls
      have hlt : i < n := by omega
      refine lv_iload_n C.1 C.2.1 d0 rfl (lv_at hls 0 rfl) ?_
      refine push H locs ls _ ?_
      refine lv_icmp_ge C.1 C.2.1 d2 t2 (fun hh => absurd hh (nI_ge hlt hn)) (fun _ => ?_)
      refine lv_aload_n C.1 C.2.1 d3 rfl (lv_at hls 1 rfl) ?_
      refine k_get C hP q0 (ws_ne hq he) hc hin k hk hl hv d4 ?_
      refine lv_iload_n C.1 C.2.1 d5 rfl (lv_at hls 0 rfl) ?_
      refine pushv H locs ls _ ?_
      refine k_ist (ws' := ws.set q1 (a1, .inl (K 0, n, .inl (upd f i v')))) C hP hD hS q1 (ws_at ha) (vp_in_nI hlt hn) (nI_clamp (by omega)) hv' (by rw [List.set_set]) d7 (fun H locs hP hD hS => ?_)
      refine lv_iinc (v := nI (i + 1)) (lv' := [(1, .int (nI (i + 1))), (0, .ref a0)]) C.1 C.2.1 d8 hls (k := 0) rfl (nI_1 i) hnl rfl (fun ls hls => ?_)
      refine lv_goto C.1 C.2.1 d9 t9 ?_
      exact ih (i + 1) (upd f i v') (by omega) (upd_lt hf) H locs ls hP hD hS hls
  intro H locs ls hP hD hS hls
  have e0 : ws.set q1 (a1, .inl (K 0, n, .inl f0)) = ws := by
    apply List.ext_getElem?
    intro j
    by_cases hj : j = q1
    · subst hj; rw [ws_at ha]; exact ha.symm
    · rw [List.getElem?_set_ne (fun e => hj e.symm)]
  refine gen n 0 f0 (by omega) (fun j hj => absurd hj (Nat.not_lt_zero j)) H locs ls (by rw [e0]; exact hP) (by rw [e0]; exact hD) hS ?_
  rw [nI_0]; exact hls

/-- for (k = 0; k < n; k++) this.row[k] = v -/
theorem k_loopB (C : kC p s m args c cc own nL D K) {h h2 h3 ex idx : Nat} {off off2 : Int} (n : Nat) (hn : n < 2 ^ 31) (v v' : Int32) (hv' : vp_nar .byte v = v') {ws : va_W} {q0 q1 a0 a1 ci N k : Nat} {Cn : String} {T : u_T} {fs : List Value} {f0 : Nat → Int32} (hq : q1 ≠ q0) (he : ws[q0]? = some (a0, .inr (ci, fs))) (hc : vwCl[ci]? = some (Cn, T, N)) (hin : ∀ w ∈ u_ws Cn T N, w ∈ wsL_law) (hk : k < N) (hl : Cond.fieldLink own idx (T k).1 (T k).2.1 (T k).2.2.1 ∈ wsL_law) (hv : fs[k]? = some (.ref a1)) (ha : ws[q1]? = some (a1, .inl (K 2, n, .inl f0))) (hnl : 1 < nL)
    (d0 : decode cc h = .ok (.iload_n 1, 1)) (push : ∀ (H : Heap) (locs : List Loc) (ls : Array Slot) (st : List Value), W p l e R s m args below meth c H locs cells slots Q (F0 m h2 ls (.int (nI n) :: st)) → W p l e R s m args below meth c H locs cells slots Q (F0 m (h + 1) ls st)) (d2 : decode cc h2 = .ok (.if_icmp .ge off, 3)) (t2 : (h2 : Int) + off = (ex : Int)) (d3 : decode cc (h2 + 3) = .ok (.aload_n 0, 1)) (d4 : decode cc (h2 + 4) = .ok (.getfield idx, 3)) (d5 : decode cc (h2 + 7) = .ok (.iload_n 1, 1)) (pushv : ∀ (H : Heap) (locs : List Loc) (ls : Array Slot) (st : List Value), W p l e R s m args below meth c H locs cells slots Q (F0 m h3 ls (.int v :: st)) → W p l e R s m args below meth c H locs cells slots Q (F0 m (h2 + 8) ls st)) (d7 : decode cc h3 = .ok (.bastore, 1)) (d8 : decode cc (h3 + 1) = .ok (.iinc 1 1, 3)) (d9 : decode cc (h3 + 4) = .ok (.goto off2, 3)) (t9 : (((h3 + 4 : Nat)) : Int) + off2 = (h : Int))
    (kk : ∀ (H : Heap) (locs : List Loc) (ls : Array Slot), va_P D vwCl (ws.set q1 (a1, .inl (K 2, n, .inl (fun _ => v')))) H → va_D A (ws.set q1 (a1, .inl (K 2, n, .inl (fun _ => v')))) → va_S A H0 H locs → lv_has ls nL [(1, .int (nI n)), (0, .ref a0)] → W p l e R s m args below meth c H locs cells slots Q (F0 m ex ls rest)) :
    ∀ (H : Heap) (locs : List Loc) (ls : Array Slot), va_P D vwCl ws H → va_D A ws → va_S A H0 H locs → lv_has ls nL [(1, .int 0), (0, .ref a0)] → W p l e R s m args below meth c H locs cells slots Q (F0 m h ls rest) := by
  have gen : ∀ (r i : Nat) (f : Nat → Int32), i + r = n → (∀ j, j < i → f j = v') → ∀ (H : Heap) (locs : List Loc) (ls : Array Slot), va_P D vwCl (ws.set q1 (a1, .inl (K 2, n, .inl f))) H → va_D A (ws.set q1 (a1, .inl (K 2, n, .inl f))) → va_S A H0 H locs → lv_has ls nL [(1, .int (nI i)), (0, .ref a0)] → W p l e R s m args below meth c H locs cells slots Q (F0 m h ls rest) := by
    intro r
    induction r with
    | zero =>
      intro i f hi hf H locs ls hP hD hS hls
      have hin' : i = n := by omega
      subst hin'
      refine lv_iload_n C.1 C.2.1 d0 rfl (lv_at hls 0 rfl) ?_
      refine push H locs ls _ ?_
      refine lv_icmp_ge C.1 C.2.1 d2 t2 (fun _ => ?_) (fun hh => absurd (nI_le (Nat.le_refl i) hn) hh)
      exact kk H locs ls (arr_eq hP (fun j hj => hf j hj)) (by have := hD.set (e := .inl (K 2, i, .inl (fun _ => v'))) (ws_at ha); rw [List.set_set] at this; exact this) hS hls
    | succ r ih =>
      intro i f hi hf H locs ls hP hD hS hls
      have hlt : i < n := by omega
      refine lv_iload_n C.1 C.2.1 d0 rfl (lv_at hls 0 rfl) ?_
      refine push H locs ls _ ?_
      refine lv_icmp_ge C.1 C.2.1 d2 t2 (fun hh => absurd hh (nI_ge hlt hn)) (fun _ => ?_)
      refine lv_aload_n C.1 C.2.1 d3 rfl (lv_at hls 1 rfl) ?_
      refine k_get C hP q0 (ws_ne hq he) hc hin k hk hl hv d4 ?_
      refine lv_iload_n C.1 C.2.1 d5 rfl (lv_at hls 0 rfl) ?_
      refine pushv H locs ls _ ?_
      refine k_bst (ws' := ws.set q1 (a1, .inl (K 2, n, .inl (upd f i v')))) C hP hD hS q1 (ws_at ha) (vp_in_nI hlt hn) (nI_clamp (by omega)) hv' (by rw [List.set_set]) d7 (fun H locs hP hD hS => ?_)
      refine lv_iinc (v := nI (i + 1)) (lv' := [(1, .int (nI (i + 1))), (0, .ref a0)]) C.1 C.2.1 d8 hls (k := 0) rfl (nI_1 i) hnl rfl (fun ls hls => ?_)
      refine lv_goto C.1 C.2.1 d9 t9 ?_
      exact ih (i + 1) (upd f i v') (by omega) (upd_lt hf) H locs ls hP hD hS hls
  intro H locs ls hP hD hS hls
  have e0 : ws.set q1 (a1, .inl (K 2, n, .inl f0)) = ws := by
    apply List.ext_getElem?
    intro j
    by_cases hj : j = q1
    · subst hj; rw [ws_at ha]; exact ha.symm
    · rw [List.getElem?_set_ne (fun e => hj e.symm)]
  refine gen n 0 f0 (by omega) (fun j hj => absurd hj (Nat.not_lt_zero j)) H locs ls (by rw [e0]; exact hP) (by rw [e0]; exact hD) hS ?_
  rw [nI_0]; exact hls

/-- for (k = 0; k < n; k++) this.row[k] = v -/
theorem k_loopZ (C : kC p s m args c cc own nL D K) {h h2 h3 ex idx : Nat} {off off2 : Int} (n : Nat) (hn : n < 2 ^ 31) (v v' : Int32) (hv' : vp_nar .boolean v = v') {ws : va_W} {q0 q1 a0 a1 ci N k : Nat} {Cn : String} {T : u_T} {fs : List Value} {f0 : Nat → Int32} (hq : q1 ≠ q0) (he : ws[q0]? = some (a0, .inr (ci, fs))) (hc : vwCl[ci]? = some (Cn, T, N)) (hin : ∀ w ∈ u_ws Cn T N, w ∈ wsL_law) (hk : k < N) (hl : Cond.fieldLink own idx (T k).1 (T k).2.1 (T k).2.2.1 ∈ wsL_law) (hv : fs[k]? = some (.ref a1)) (ha : ws[q1]? = some (a1, .inl (K 3, n, .inl f0))) (hnl : 1 < nL)
    (d0 : decode cc h = .ok (.iload_n 1, 1)) (push : ∀ (H : Heap) (locs : List Loc) (ls : Array Slot) (st : List Value), W p l e R s m args below meth c H locs cells slots Q (F0 m h2 ls (.int (nI n) :: st)) → W p l e R s m args below meth c H locs cells slots Q (F0 m (h + 1) ls st)) (d2 : decode cc h2 = .ok (.if_icmp .ge off, 3)) (t2 : (h2 : Int) + off = (ex : Int)) (d3 : decode cc (h2 + 3) = .ok (.aload_n 0, 1)) (d4 : decode cc (h2 + 4) = .ok (.getfield idx, 3)) (d5 : decode cc (h2 + 7) = .ok (.iload_n 1, 1)) (pushv : ∀ (H : Heap) (locs : List Loc) (ls : Array Slot) (st : List Value), W p l e R s m args below meth c H locs cells slots Q (F0 m h3 ls (.int v :: st)) → W p l e R s m args below meth c H locs cells slots Q (F0 m (h2 + 8) ls st)) (d7 : decode cc h3 = .ok (.bastore, 1)) (d8 : decode cc (h3 + 1) = .ok (.iinc 1 1, 3)) (d9 : decode cc (h3 + 4) = .ok (.goto off2, 3)) (t9 : (((h3 + 4 : Nat)) : Int) + off2 = (h : Int))
    (kk : ∀ (H : Heap) (locs : List Loc) (ls : Array Slot), va_P D vwCl (ws.set q1 (a1, .inl (K 3, n, .inl (fun _ => v')))) H → va_D A (ws.set q1 (a1, .inl (K 3, n, .inl (fun _ => v')))) → va_S A H0 H locs → lv_has ls nL [(1, .int (nI n)), (0, .ref a0)] → W p l e R s m args below meth c H locs cells slots Q (F0 m ex ls rest)) :
    ∀ (H : Heap) (locs : List Loc) (ls : Array Slot), va_P D vwCl ws H → va_D A ws → va_S A H0 H locs → lv_has ls nL [(1, .int 0), (0, .ref a0)] → W p l e R s m args below meth c H locs cells slots Q (F0 m h ls rest) := by
  have gen : ∀ (r i : Nat) (f : Nat → Int32), i + r = n → (∀ j, j < i → f j = v') → ∀ (H : Heap) (locs : List Loc) (ls : Array Slot), va_P D vwCl (ws.set q1 (a1, .inl (K 3, n, .inl f))) H → va_D A (ws.set q1 (a1, .inl (K 3, n, .inl f))) → va_S A H0 H locs → lv_has ls nL [(1, .int (nI i)), (0, .ref a0)] → W p l e R s m args below meth c H locs cells slots Q (F0 m h ls rest) := by
    intro r
    induction r with
    | zero =>
      intro i f hi hf H locs ls hP hD hS hls
      have hin' : i = n := by omega
      subst hin'
      refine lv_iload_n C.1 C.2.1 d0 rfl (lv_at hls 0 rfl) ?_
      refine push H locs ls _ ?_
      refine lv_icmp_ge C.1 C.2.1 d2 t2 (fun _ => ?_) (fun hh => absurd (nI_le (Nat.le_refl i) hn) hh)
      exact kk H locs ls (arr_eq hP (fun j hj => hf j hj)) (by have := hD.set (e := .inl (K 3, i, .inl (fun _ => v'))) (ws_at ha); rw [List.set_set] at this; exact this) hS hls
    | succ r ih =>
      intro i f hi hf H locs ls hP hD hS hls
      have hlt : i < n := by omega
      refine lv_iload_n C.1 C.2.1 d0 rfl (lv_at hls 0 rfl) ?_
      refine push H locs ls _ ?_
      refine lv_icmp_ge C.1 C.2.1 d2 t2 (fun hh => absurd hh (nI_ge hlt hn)) (fun _ => ?_)
      refine lv_aload_n C.1 C.2.1 d3 rfl (lv_at hls 1 rfl) ?_
      refine k_get C hP q0 (ws_ne hq he) hc hin k hk hl hv d4 ?_
      refine lv_iload_n C.1 C.2.1 d5 rfl (lv_at hls 0 rfl) ?_
      refine pushv H locs ls _ ?_
      refine k_zst (ws' := ws.set q1 (a1, .inl (K 3, n, .inl (upd f i v')))) C hP hD hS q1 (ws_at ha) (vp_in_nI hlt hn) (nI_clamp (by omega)) hv' (by rw [List.set_set]) d7 (fun H locs hP hD hS => ?_)
      refine lv_iinc (v := nI (i + 1)) (lv' := [(1, .int (nI (i + 1))), (0, .ref a0)]) C.1 C.2.1 d8 hls (k := 0) rfl (nI_1 i) hnl rfl (fun ls hls => ?_)
      refine lv_goto C.1 C.2.1 d9 t9 ?_
      exact ih (i + 1) (upd f i v') (by omega) (upd_lt hf) H locs ls hP hD hS hls
  intro H locs ls hP hD hS hls
  have e0 : ws.set q1 (a1, .inl (K 3, n, .inl f0)) = ws := by
    apply List.ext_getElem?
    intro j
    by_cases hj : j = q1
    · subst hj; rw [ws_at ha]; exact ha.symm
    · rw [List.getElem?_set_ne (fun e => hj e.symm)]
  refine gen n 0 f0 (by omega) (fun j hj => absurd hj (Nat.not_lt_zero j)) H locs ls (by rw [e0]; exact hP) (by rw [e0]; exact hD) hS ?_
  rw [nI_0]; exact hls
end LOOP
end
section
theorem dJ7_fill_d0a16_0 : decode cJ7_fill_d0a16 0 = .ok (.iconst 0, 1) := by decide +kernel
theorem dJ7_fill_d0a16_1 : decode cJ7_fill_d0a16 1 = .ok (.istore_n 3, 1) := by decide +kernel
theorem dJ7_fill_d0a16_2 : decode cJ7_fill_d0a16 2 = .ok (.aload_n 0, 1) := by decide +kernel
theorem dJ7_fill_d0a16_3 : decode cJ7_fill_d0a16 3 = .ok (.arraylength, 1) := by decide +kernel
theorem dJ7_fill_d0a16_4 : decode cJ7_fill_d0a16 4 = .ok (.istore 4, 2) := by decide +kernel
theorem dJ7_fill_d0a16_6 : decode cJ7_fill_d0a16 6 = .ok (.iload_n 3, 1) := by decide +kernel
theorem dJ7_fill_d0a16_7 : decode cJ7_fill_d0a16 7 = .ok (.iload 4, 2) := by decide +kernel
theorem dJ7_fill_d0a16_9 : decode cJ7_fill_d0a16 9 = .ok (.if_icmp .ge 13, 3) := by decide +kernel
theorem dJ7_fill_d0a16_12 : decode cJ7_fill_d0a16 12 = .ok (.aload_n 0, 1) := by decide +kernel
theorem dJ7_fill_d0a16_13 : decode cJ7_fill_d0a16 13 = .ok (.iload_n 3, 1) := by decide +kernel
theorem dJ7_fill_d0a16_14 : decode cJ7_fill_d0a16 14 = .ok (.lload_n 1, 1) := by decide +kernel
theorem dJ7_fill_d0a16_15 : decode cJ7_fill_d0a16 15 = .ok (.lastore, 1) := by decide +kernel
theorem dJ7_fill_d0a16_16 : decode cJ7_fill_d0a16 16 = .ok (.iinc 3 1, 3) := by decide +kernel
theorem dJ7_fill_d0a16_19 : decode cJ7_fill_d0a16 19 = .ok (.goto (-13), 3) := by decide +kernel
theorem dJ7_fill_d0a16_22 : decode cJ7_fill_d0a16 22 = .ok (.return_, 1) := by decide +kernel
theorem dJ7_fill_53178_0 : decode cJ7_fill_53178 0 = .ok (.iconst 0, 1) := by decide +kernel
theorem dJ7_fill_53178_1 : decode cJ7_fill_53178 1 = .ok (.istore_n 2, 1) := by decide +kernel
theorem dJ7_fill_53178_2 : decode cJ7_fill_53178 2 = .ok (.aload_n 0, 1) := by decide +kernel
theorem dJ7_fill_53178_3 : decode cJ7_fill_53178 3 = .ok (.arraylength, 1) := by decide +kernel
theorem dJ7_fill_53178_4 : decode cJ7_fill_53178 4 = .ok (.istore_n 3, 1) := by decide +kernel
theorem dJ7_fill_53178_5 : decode cJ7_fill_53178 5 = .ok (.iload_n 2, 1) := by decide +kernel
theorem dJ7_fill_53178_6 : decode cJ7_fill_53178 6 = .ok (.iload_n 3, 1) := by decide +kernel
theorem dJ7_fill_53178_7 : decode cJ7_fill_53178 7 = .ok (.if_icmp .ge 13, 3) := by decide +kernel
theorem dJ7_fill_53178_10 : decode cJ7_fill_53178 10 = .ok (.aload_n 0, 1) := by decide +kernel
theorem dJ7_fill_53178_11 : decode cJ7_fill_53178 11 = .ok (.iload_n 2, 1) := by decide +kernel
theorem dJ7_fill_53178_12 : decode cJ7_fill_53178 12 = .ok (.iload_n 1, 1) := by decide +kernel
theorem dJ7_fill_53178_13 : decode cJ7_fill_53178 13 = .ok (.iastore, 1) := by decide +kernel
theorem dJ7_fill_53178_14 : decode cJ7_fill_53178 14 = .ok (.iinc 2 1, 3) := by decide +kernel
theorem dJ7_fill_53178_17 : decode cJ7_fill_53178 17 = .ok (.goto (-12), 3) := by decide +kernel
theorem dJ7_fill_53178_20 : decode cJ7_fill_53178 20 = .ok (.return_, 1) := by decide +kernel
theorem dJ7_fill_031fb_0 : decode cJ7_fill_031fb 0 = .ok (.iconst 0, 1) := by decide +kernel
theorem dJ7_fill_031fb_1 : decode cJ7_fill_031fb 1 = .ok (.istore_n 2, 1) := by decide +kernel
theorem dJ7_fill_031fb_2 : decode cJ7_fill_031fb 2 = .ok (.aload_n 0, 1) := by decide +kernel
theorem dJ7_fill_031fb_3 : decode cJ7_fill_031fb 3 = .ok (.arraylength, 1) := by decide +kernel
theorem dJ7_fill_031fb_4 : decode cJ7_fill_031fb 4 = .ok (.istore_n 3, 1) := by decide +kernel
theorem dJ7_fill_031fb_5 : decode cJ7_fill_031fb 5 = .ok (.iload_n 2, 1) := by decide +kernel
theorem dJ7_fill_031fb_6 : decode cJ7_fill_031fb 6 = .ok (.iload_n 3, 1) := by decide +kernel
theorem dJ7_fill_031fb_7 : decode cJ7_fill_031fb 7 = .ok (.if_icmp .ge 13, 3) := by decide +kernel
theorem dJ7_fill_031fb_10 : decode cJ7_fill_031fb 10 = .ok (.aload_n 0, 1) := by decide +kernel
theorem dJ7_fill_031fb_11 : decode cJ7_fill_031fb 11 = .ok (.iload_n 2, 1) := by decide +kernel
theorem dJ7_fill_031fb_12 : decode cJ7_fill_031fb 12 = .ok (.iload_n 1, 1) := by decide +kernel
theorem dJ7_fill_031fb_13 : decode cJ7_fill_031fb 13 = .ok (.bastore, 1) := by decide +kernel
theorem dJ7_fill_031fb_14 : decode cJ7_fill_031fb 14 = .ok (.iinc 2 1, 3) := by decide +kernel
theorem dJ7_fill_031fb_17 : decode cJ7_fill_031fb 17 = .ok (.goto (-12), 3) := by decide +kernel
theorem dJ7_fill_031fb_20 : decode cJ7_fill_031fb 20 = .ok (.return_, 1) := by decide +kernel

set_option maxHeartbeats 4000000 in
set_option maxRecDepth 100000 in
/-- Arrays.fill -/
theorem c_fillI (l : Launch) (D : va_G) (K : Nat → ClassId) (a0 n : Nat) (hn : n < 2 ^ 31) (f0 : Nat → Int32) (v v' : Int32) (hv' : v = v') : uMet l yJ7_fill_53178 cJ7_fill_53178 4 none (rmD 0 0 0) D K X0 [.ref a0, .int v] [(a0, .inl (K 0, n, .inl f0))] (QV D K (fun (u : Nat → Nat) => True) (fun (u : Nat → Nat) => [(a0, .inl (K 0, n, .inl (fun _ => v')))])) 0 0 := by
  refine k_met RJ7 ⟨rfl, by decide +kernel⟩ (Nat.le_of_ble_eq_true rfl) ?_
  intro p e s m below meth c A ls C hX hr hlocks hin hA hP hD hS hl
  have hl : lv_has ls 4 [(0, .ref a0), (1, .int v)] := hl
  refine lv_iconst (v := 0) C.1 C.2.1 dJ7_fill_53178_0 (by decide) ?_
  refine lv_istore_n (lv' := [(2, .int 0), (0, .ref a0), (1, .int v)]) C.1 C.2.1 dJ7_fill_53178_1 rfl hl (by decide) rfl (fun ls hl => ?_)
  refine lv_aload_n C.1 C.2.1 dJ7_fill_53178_2 rfl (lv_at hl 1 rfl) ?_
  refine k_len (v := nI n) C hP 0 0 rfl rfl rfl dJ7_fill_53178_3 ?_
  refine lv_istore_n (lv' := [(3, .int (nI n)), (2, .int 0), (0, .ref a0), (1, .int v)]) C.1 C.2.1 dJ7_fill_53178_4 rfl hl (by decide) rfl (fun ls hl => ?_)
  have gen : ∀ (r i : Nat) (f : Nat → Int32), i + r = n → (∀ j, j < i → f j = v') → ∀ (H : Heap) (locs : List Loc) (ls : Array Slot), va_P D vwCl [(a0, .inl (K 0, n, .inl f))] H → va_D A [(a0, .inl (K 0, n, .inl f))] → va_S A s.heap H locs → lv_has ls 4 [(2, .int (nI i)), (3, .int (nI n)), (0, .ref a0), (1, .int v)] → W p l e (rmD 0 0 0) s m [.ref a0, .int v].toArray below meth c H locs 0 0 (MQ below (QV D K (fun (u : Nat → Nat) => True) (fun (u : Nat → Nat) => [(a0, .inl (K 0, n, .inl (fun _ => v')))]) A) [.ref a0, .int v].toArray s 0 0 A) (F0 m 5 ls []) := by
    intro r
    induction r with
    | zero =>
      intro i f hi hf H locs ls hP hD hS hl
      have hin' : i = n := by omega
      subst hin'
      refine lv_iload_n C.1 C.2.1 dJ7_fill_53178_5 rfl (lv_at hl 0 rfl) ?_
      refine lv_iload_n C.1 C.2.1 dJ7_fill_53178_6 rfl (lv_at hl 1 rfl) ?_
      refine lv_icmp_ge (tgt := 20) C.1 C.2.1 dJ7_fill_53178_7 (by decide) (fun _ => ?_) (fun hh => absurd (nI_le (Nat.le_refl i) hn) hh)
      have hP : va_P D vwCl [(a0, .inl (K 0, i, .inl (fun _ => v')))] H := arr_eq (ws := [(a0, .inl (K 0, i, .inl f))]) (q := 0) hP (fun j hj => hf j hj)
      have hD : va_D A [(a0, .inl (K 0, i, .inl (fun _ => v')))] := hD.set (p := 0) (e := .inl (K 0, i, .inl (fun _ => v'))) rfl
      exact k_vret C hr hlocks hP hD hS (fun _ => 0) [0] rfl rfl trivial (Nat.le_refl _) (Nat.le_refl _) dJ7_fill_53178_20
    | succ r ih =>
      intro i f hi hf H locs ls hP hD hS hl
      have hlt : i < n := by omega
      refine lv_iload_n C.1 C.2.1 dJ7_fill_53178_5 rfl (lv_at hl 0 rfl) ?_
      refine lv_iload_n C.1 C.2.1 dJ7_fill_53178_6 rfl (lv_at hl 1 rfl) ?_
      refine lv_icmp_ge (tgt := 20) C.1 C.2.1 dJ7_fill_53178_7 (by decide) (fun hh => absurd hh (nI_ge hlt hn)) (fun _ => ?_)
      refine lv_aload_n C.1 C.2.1 dJ7_fill_53178_10 rfl (lv_at hl 2 rfl) ?_
      refine lv_iload_n C.1 C.2.1 dJ7_fill_53178_11 rfl (lv_at hl 0 rfl) ?_
      refine lv_iload_n C.1 C.2.1 dJ7_fill_53178_12 rfl (lv_at hl 3 rfl) ?_
      refine k_ist (ws' := [(a0, .inl (K 0, n, .inl (upd f i v')))]) C hP hD hS 0 rfl (vp_in_nI hlt hn) (nI_clamp (by omega)) hv' rfl dJ7_fill_53178_13 (fun H locs hP hD hS => ?_)
      refine lv_iinc (v := nI (i + 1)) (lv' := [(2, .int (nI (i + 1))), (3, .int (nI n)), (0, .ref a0), (1, .int v)]) C.1 C.2.1 dJ7_fill_53178_14 hl (k := 0) rfl (nI_1 i) (by decide) rfl (fun ls hl => ?_)
      refine lv_goto (tgt := 5) C.1 C.2.1 dJ7_fill_53178_17 (by decide) ?_
      exact ih (i + 1) (upd f i v') (by omega) (upd_lt hf) H locs ls hP hD hS hl
  exact gen n 0 f0 (by omega) (fun j hj => absurd hj (Nat.not_lt_zero j)) _ _ _ hP hD hS (by rw [nI_0]; exact lv_sub hl [1, 0, 2, 3] rfl)

set_option maxHeartbeats 4000000 in
set_option maxRecDepth 100000 in
/-- Arrays.fill -/
theorem c_fillB (l : Launch) (D : va_G) (K : Nat → ClassId) (a0 n : Nat) (hn : n < 2 ^ 31) (f0 : Nat → Int32) (v v' : Int32) (hv' : vp_nar .byte v = v') : uMet l yJ7_fill_031fb cJ7_fill_031fb 4 none (rmD 0 0 0) D K X0 [.ref a0, .int v] [(a0, .inl (K 2, n, .inl f0))] (QV D K (fun (u : Nat → Nat) => True) (fun (u : Nat → Nat) => [(a0, .inl (K 2, n, .inl (fun _ => v')))])) 0 0 := by
  refine k_met RJ7 ⟨rfl, by decide +kernel⟩ (Nat.le_of_ble_eq_true rfl) ?_
  intro p e s m below meth c A ls C hX hr hlocks hin hA hP hD hS hl
  have hl : lv_has ls 4 [(0, .ref a0), (1, .int v)] := hl
  refine lv_iconst (v := 0) C.1 C.2.1 dJ7_fill_031fb_0 (by decide) ?_
  refine lv_istore_n (lv' := [(2, .int 0), (0, .ref a0), (1, .int v)]) C.1 C.2.1 dJ7_fill_031fb_1 rfl hl (by decide) rfl (fun ls hl => ?_)
  refine lv_aload_n C.1 C.2.1 dJ7_fill_031fb_2 rfl (lv_at hl 1 rfl) ?_
  refine k_len (v := nI n) C hP 0 2 rfl rfl rfl dJ7_fill_031fb_3 ?_
  refine lv_istore_n (lv' := [(3, .int (nI n)), (2, .int 0), (0, .ref a0), (1, .int v)]) C.1 C.2.1 dJ7_fill_031fb_4 rfl hl (by decide) rfl (fun ls hl => ?_)
  have gen : ∀ (r i : Nat) (f : Nat → Int32), i + r = n → (∀ j, j < i → f j = v') → ∀ (H : Heap) (locs : List Loc) (ls : Array Slot), va_P D vwCl [(a0, .inl (K 2, n, .inl f))] H → va_D A [(a0, .inl (K 2, n, .inl f))] → va_S A s.heap H locs → lv_has ls 4 [(2, .int (nI i)), (3, .int (nI n)), (0, .ref a0), (1, .int v)] → W p l e (rmD 0 0 0) s m [.ref a0, .int v].toArray below meth c H locs 0 0 (MQ below (QV D K (fun (u : Nat → Nat) => True) (fun (u : Nat → Nat) => [(a0, .inl (K 2, n, .inl (fun _ => v')))]) A) [.ref a0, .int v].toArray s 0 0 A) (F0 m 5 ls []) := by
    intro r
    induction r with
    | zero =>
      intro i f hi hf H locs ls hP hD hS hl
      have hin' : i = n := by omega
      subst hin'
      refine lv_iload_n C.1 C.2.1 dJ7_fill_031fb_5 rfl (lv_at hl 0 rfl) ?_
      refine lv_iload_n C.1 C.2.1 dJ7_fill_031fb_6 rfl (lv_at hl 1 rfl) ?_
      refine lv_icmp_ge (tgt := 20) C.1 C.2.1 dJ7_fill_031fb_7 (by decide) (fun _ => ?_) (fun hh => absurd (nI_le (Nat.le_refl i) hn) hh)
      have hP : va_P D vwCl [(a0, .inl (K 2, i, .inl (fun _ => v')))] H := arr_eq (ws := [(a0, .inl (K 2, i, .inl f))]) (q := 0) hP (fun j hj => hf j hj)
      have hD : va_D A [(a0, .inl (K 2, i, .inl (fun _ => v')))] := hD.set (p := 0) (e := .inl (K 2, i, .inl (fun _ => v'))) rfl
      exact k_vret C hr hlocks hP hD hS (fun _ => 0) [0] rfl rfl trivial (Nat.le_refl _) (Nat.le_refl _) dJ7_fill_031fb_20
    | succ r ih =>
      intro i f hi hf H locs ls hP hD hS hl
      have hlt : i < n := by omega
      refine lv_iload_n C.1 C.2.1 dJ7_fill_031fb_5 rfl (lv_at hl 0 rfl) ?_
      refine lv_iload_n C.1 C.2.1 dJ7_fill_031fb_6 rfl (lv_at hl 1 rfl) ?_
      refine lv_icmp_ge (tgt := 20) C.1 C.2.1 dJ7_fill_031fb_7 (by decide) (fun hh => absurd hh (nI_ge hlt hn)) (fun _ => ?_)
      refine lv_aload_n C.1 C.2.1 dJ7_fill_031fb_10 rfl (lv_at hl 2 rfl) ?_
      refine lv_iload_n C.1 C.2.1 dJ7_fill_031fb_11 rfl (lv_at hl 0 rfl) ?_
      refine lv_iload_n C.1 C.2.1 dJ7_fill_031fb_12 rfl (lv_at hl 3 rfl) ?_
      refine k_bst (ws' := [(a0, .inl (K 2, n, .inl (upd f i v')))]) C hP hD hS 0 rfl (vp_in_nI hlt hn) (nI_clamp (by omega)) hv' rfl dJ7_fill_031fb_13 (fun H locs hP hD hS => ?_)
      refine lv_iinc (v := nI (i + 1)) (lv' := [(2, .int (nI (i + 1))), (3, .int (nI n)), (0, .ref a0), (1, .int v)]) C.1 C.2.1 dJ7_fill_031fb_14 hl (k := 0) rfl (nI_1 i) (by decide) rfl (fun ls hl => ?_)
      refine lv_goto (tgt := 5) C.1 C.2.1 dJ7_fill_031fb_17 (by decide) ?_
      exact ih (i + 1) (upd f i v') (by omega) (upd_lt hf) H locs ls hP hD hS hl
  exact gen n 0 f0 (by omega) (fun j hj => absurd hj (Nat.not_lt_zero j)) _ _ _ hP hD hS (by rw [nI_0]; exact lv_sub hl [1, 0, 2, 3] rfl)

set_option maxHeartbeats 4000000 in
set_option maxRecDepth 100000 in
/-- Arrays.fill -/
theorem c_fillL (l : Launch) (D : va_G) (K : Nat → ClassId) (a0 n : Nat) (hn : n < 2 ^ 31) (f0 : Nat → Int64) (v v' : Int64) (hv' : v = v') : uMet l yJ7_fill_d0a16 cJ7_fill_d0a16 5 none (rmD 0 0 0) D K X0 [.ref a0, .long v] [(a0, .inl (K 1, n, .inr (.inl f0)))] (QV D K (fun (u : Nat → Nat) => True) (fun (u : Nat → Nat) => [(a0, .inl (K 1, n, .inr (.inl (fun _ => v'))))])) 0 0 := by
  refine k_met RJ7 ⟨rfl, by decide +kernel⟩ (Nat.le_of_ble_eq_true rfl) ?_
  intro p e s m below meth c A ls C hX hr hlocks hin hA hP hD hS hl
  have hl : lv_has ls 5 [(0, .ref a0), (1, .long v)] := hl
  refine lv_iconst (v := 0) C.1 C.2.1 dJ7_fill_d0a16_0 (by decide) ?_
  refine lv_istore_n (lv' := [(3, .int 0), (0, .ref a0), (1, .long v)]) C.1 C.2.1 dJ7_fill_d0a16_1 rfl hl (by decide) rfl (fun ls hl => ?_)
  refine lv_aload_n C.1 C.2.1 dJ7_fill_d0a16_2 rfl (lv_at hl 1 rfl) ?_
  refine k_len (v := nI n) C hP 0 1 rfl rfl rfl dJ7_fill_d0a16_3 ?_
  refine lv_istore (lv' := [(4, .int (nI n)), (3, .int 0), (0, .ref a0), (1, .long v)]) C.1 C.2.1 dJ7_fill_d0a16_4 hl (by decide) rfl (fun ls hl => ?_)
  have gen : ∀ (r i : Nat) (f : Nat → Int64), i + r = n → (∀ j, j < i → f j = v') → ∀ (H : Heap) (locs : List Loc) (ls : Array Slot), va_P D vwCl [(a0, .inl (K 1, n, .inr (.inl f)))] H → va_D A [(a0, .inl (K 1, n, .inr (.inl f)))] → va_S A s.heap H locs → lv_has ls 5 [(3, .int (nI i)), (4, .int (nI n)), (0, .ref a0), (1, .long v)] → W p l e (rmD 0 0 0) s m [.ref a0, .long v].toArray below meth c H locs 0 0 (MQ below (QV D K (fun (u : Nat → Nat) => True) (fun (u : Nat → Nat) => [(a0, .inl (K 1, n, .inr (.inl (fun _ => v'))))]) A) [.ref a0, .long v].toArray s 0 0 A) (F0 m 6 ls []) := by
    intro r
    induction r with
    | zero =>
      intro i f hi hf H locs ls hP hD hS hl
      have hin' : i = n := by omega
      subst hin'
      refine lv_iload_n C.1 C.2.1 dJ7_fill_d0a16_6 rfl (lv_at hl 0 rfl) ?_
      refine lv_iload C.1 C.2.1 dJ7_fill_d0a16_7 (lv_at hl 1 rfl) ?_
      refine lv_icmp_ge (tgt := 22) C.1 C.2.1 dJ7_fill_d0a16_9 (by decide) (fun _ => ?_) (fun hh => absurd (nI_le (Nat.le_refl i) hn) hh)
      have hP : va_P D vwCl [(a0, .inl (K 1, i, .inr (.inl (fun _ => v'))))] H := arr_eqL (ws := [(a0, .inl (K 1, i, .inr (.inl f)))]) (q := 0) hP (fun j hj => hf j hj)
      have hD : va_D A [(a0, .inl (K 1, i, .inr (.inl (fun _ => v'))))] := hD.set (p := 0) (e := .inl (K 1, i, .inr (.inl (fun _ => v')))) rfl
      exact k_vret C hr hlocks hP hD hS (fun _ => 0) [0] rfl rfl trivial (Nat.le_refl _) (Nat.le_refl _) dJ7_fill_d0a16_22
    | succ r ih =>
      intro i f hi hf H locs ls hP hD hS hl
      have hlt : i < n := by omega
      refine lv_iload_n C.1 C.2.1 dJ7_fill_d0a16_6 rfl (lv_at hl 0 rfl) ?_
      refine lv_iload C.1 C.2.1 dJ7_fill_d0a16_7 (lv_at hl 1 rfl) ?_
      refine lv_icmp_ge (tgt := 22) C.1 C.2.1 dJ7_fill_d0a16_9 (by decide) (fun hh => absurd hh (nI_ge hlt hn)) (fun _ => ?_)
      refine lv_aload_n C.1 C.2.1 dJ7_fill_d0a16_12 rfl (lv_at hl 2 rfl) ?_
      refine lv_iload_n C.1 C.2.1 dJ7_fill_d0a16_13 rfl (lv_at hl 0 rfl) ?_
      refine lv_lload_n C.1 C.2.1 dJ7_fill_d0a16_14 rfl (lv_at hl 3 rfl) ?_
      refine k_lst (ws' := [(a0, .inl (K 1, n, .inr (.inl (vp_updL f i v'))))]) C hP hD hS 0 rfl (vp_in_nI hlt hn) (nI_clamp (by omega)) hv' rfl dJ7_fill_d0a16_15 (fun H locs hP hD hS => ?_)
      refine lv_iinc (v := nI (i + 1)) (lv' := [(3, .int (nI (i + 1))), (4, .int (nI n)), (0, .ref a0), (1, .long v)]) C.1 C.2.1 dJ7_fill_d0a16_16 hl (k := 0) rfl (nI_1 i) (by decide) rfl (fun ls hl => ?_)
      refine lv_goto (tgt := 6) C.1 C.2.1 dJ7_fill_d0a16_19 (by decide) ?_
      exact ih (i + 1) (vp_updL f i v') (by omega) (updL_lt hf) H locs ls hP hD hS hl
  exact gen n 0 f0 (by omega) (fun j hj => absurd hj (Nat.not_lt_zero j)) _ _ _ hP hD hS (by rw [nI_0]; exact lv_sub hl [1, 0, 2, 3] rfl)
end
section
/-! ===== methods that throw NoSuchElementException, and the law's helpers that catch it ===== -/
abbrev NSE : String := "java/util/NoSuchElementException"
abbrev nmE : List String := ["java/lang/RuntimeException", "java/lang/Exception"]
abbrev B0 : List Cond := [Cond.castable NSE NSE, Cond.declares (Bundle.init0 "java/lang/RuntimeException"), Cond.declares (Bundle.init0 "java/lang/Exception"), Cond.declares (Bundle.init0 Bundle.tN)]
def XE (U : State) : Prop := va_Nw (Cond.castable NSE NSE) U ∧ va_Nw (Cond.declares (Bundle.init0 "java/lang/RuntimeException")) U ∧ va_Nw (Cond.declares (Bundle.init0 "java/lang/Exception")) U ∧ va_Nw (Cond.declares (Bundle.init0 Bundle.tN)) U
theorem XE_ok : Xok XE := fun _ _ hW h => ⟨va_Nw.warmC hW h.1, va_Nw.warmD hW h.2.1, va_Nw.warmD hW h.2.2.1, va_Nw.warmD hW h.2.2.2⟩
def XZ (A : Nat → Prop) (U : State) (H : Heap) : Prop := vx_Zq Bundle.tN "UNASSIGNED_STACK" Bundle.steD A U H ∧ vx_Zq Bundle.tN "SUPPRESSED_SENTINEL" Bundle.listD A U H
abbrev XC0 (px : Prop) (A : Nat → Prop) : String → State → State → Prop := vx_X (S := Unit) (fun _ => px) (fun E _ _ => E = NSE) A
def PreX (D : va_G) (K : Nat → ClassId) (ws : va_W) (sz : Nat) (U : State) : Prop := PreW D K ws sz U ∧ XE U ∧ XZ (va_A ws sz) U U.heap
def xMet (l : Launch) (y : MethodName) (c : ByteArray) (n : Nat) (r : Option FieldType) (rm : Room) (D : va_G) (K : Nat → ClassId) (av : List Value) (ws : va_W) (Q : (Nat → Prop) → Array Value → State → Outcome → State → Prop) (px : Prop) (mc ms : Nat) : Prop :=
  ∀ sz, vx_Met l y (uws y c n r) rm (va_Pc av (PreX D K ws sz)) (Q (va_A ws sz)) (XC0 px (va_A ws sz)) mc ms (va_A ws sz)
def uwsH (y : MethodName) (c : ByteArray) (n : Nat) (r : Option FieldType) (hh : List (Nat × Nat × Nat × Nat)) : List Cond := Cond.codeWith y c n r hh :: wsL_law
def hMet (l : Launch) (y : MethodName) (c : ByteArray) (n : Nat) (r : Option FieldType) (hh : List (Nat × Nat × Nat × Nat)) (rm : Room) (D : va_G) (K : Nat → ClassId) (av : List Value) (ws : va_W) (Q : (Nat → Prop) → Array Value → State → Outcome → State → Prop) (mc ms : Nat) : Prop :=
  ∀ sz, Met l y (uwsH y c n r hh) rm (va_Pc av (PreX D K ws sz)) (Q (va_A ws sz)) mc ms (va_A ws sz)
theorem preX_blind {D : va_G} {K : Nat → ClassId} {av : List Value} {ws : va_W} {sz : Nat} : FrameBlind (va_Pc av (PreX D K ws sz)) := by
  intro a U g mk q
  obtain ⟨q0, ⟨q1, qP, qK, qD⟩, qX, qZ⟩ := q
  have hA : U.vm.Alike (U.calling g mk a).vm := Vm.Alike.refl U.vm
  exact ⟨q0, ⟨q1, qP, va_K.moved (u := U) (U := U.calling g mk a) hA qK, qD⟩, XE_ok U _ (State.WarmedH.refl U) qX, vx_Zq.moved hA qZ.1, vx_Zq.moved hA qZ.2⟩
theorem preX_at {D : va_G} {K : Nat → ClassId} {av : List Value} {s : State} {wc : va_W} {A : Nat → Prop} {H : Heap} {locs : List Loc} (hK : va_K D vwCl (TY K) s) (hPc : va_P D vwCl wc H) (hDc : va_D A wc) (hE : XE s) (hZ : XZ A s s.heap) (hS : va_S A s.heap H locs) (hF : ∀ q, va_A wc H.size q → A q) :
    ∀ U : State, U.heap = H → s.WarmedH U.vm → va_Pc av (PreX D K wc H.size) av.toArray U := by
  intro U hU hW
  have z : ∀ {n d : String}, vx_Zq Bundle.tN n d A s s.heap → vx_Zq Bundle.tN n d (va_A wc H.size) U U.heap := fun h => by
    rw [hU]
    exact vx_Zq.moved hW.alike (vx_Zq.narrow (vx_Zq.kept h (fun a h1 h2 => hS.2.1 a h1 h2)) hF)
  exact ⟨rfl, ⟨by rw [hU], by rw [hU]; exact hPc, va_K.moved hW.alike hK, hDc.weaken (fun _ _ _ _ => trivial)⟩, XE_ok _ _ hW hE, z hZ.1, z hZ.2⟩
theorem va_P0 {D : va_G} {H : Heap} : va_P D vwCl [] H := fun k x h => nomatch (show (none : Option (Nat × va_E)) = some x from h)
theorem va_D0 {A : Nat → Prop} : va_D A [] := ⟨fun i j p q h => (nomatch (show (none : Option (Nat × va_E)) = some p from h)), fun k q h => (nomatch (show (none : Option (Nat × va_E)) = some q from h))⟩
section XM
variable {l : Launch} {D : va_G} {K : Nat → ClassId}
theorem x_met {y : MethodName} {cc : ByteArray} {n : Nat} {r : Option FieldType} {rm : Room} {av : List Value} {ws : va_W} {Q : (Nat → Prop) → Array Value → State → Outcome → State → Prop} {px : Prop} {mc ms : Nat}
    (own : String) (hy : y.cls = own ∧ plainName y.cls = true) (hav : (lg_sl av).length ≤ n)
    (body : ∀ (p : Program) (e : Env) (s : State) (m : MethodId) (below : List Frame) (meth : Method) (c : Code) (A : Nat → Prop) (ls : Array Slot), kC p s m av.toArray c cc own n D K → XE s → XZ A s s.heap → (∀ x ∈ c.exceptionTable.toList, False) → meth.sig.returnType = r → meth.locks = false → (∀ q : Nat, s.heap.size ≤ q → A q) → va_P D vwCl ws s.heap → va_D A ws → va_S A s.heap s.heap [] → lv_has ls n (lv_args 0 av) →
      W p l e rm s m av.toArray below meth c s.heap [] 0 0 (vx_MQ below (Q A) (XC0 px A) av.toArray s mc ms A) (F0 m 0 ls [])) : xMet l y cc n r rm D K av ws Q px mc ms := by
  intro sz
  refine vx_ofW (cc := cc) (maxL := n) (ret := r) hy.2 rfl ?_
  intro p e s m args below meth c s₁ B hml ht hv
  obtain ⟨rfl, ⟨hsz, hP, hK, hD0⟩, hX, hZ⟩ := hv
  have hts := atoms_spec (ws := uws y cc n r) B.pre
  have hown : s.vm.findClass own = some m.cls := by rw [← hy.1]; exact findClass_of_methodNamed B.named
  subst hsz
  have hl := lv_entry av (n := n) hav
  rw [lg_entry_eq]
  exact body p e s m below meth c (va_A ws s.heap.size) _ ⟨B.exec, B.bytes, hml, hown, fun w h => hts w (List.mem_cons_of_mem _ h), hK⟩ hX hZ ht B.returns B.notSynchronized (fun q h => Or.inr h) hP (hD0.self) va_S.rf hl
theorem h_met {y : MethodName} {cc : ByteArray} {n : Nat} {r : Option FieldType} {hh : List (Nat × Nat × Nat × Nat)} {rm : Room} {av : List Value} {ws : va_W} {Q : (Nat → Prop) → Array Value → State → Outcome → State → Prop} {mc ms : Nat}
    (own : String) (hy : y.cls = own ∧ plainName y.cls = true) (hav : (lg_sl av).length ≤ n)
    (body : ∀ (p : Program) (e : Env) (s : State) (m : MethodId) (below : List Frame) (meth : Method) (c : Code) (A : Nat → Prop) (ls : Array Slot), kC p s m av.toArray c cc own n D K → XE s → XZ A s s.heap → c.exceptionTable.toList = tableOf hh → meth.sig.returnType = r → meth.locks = false → (∀ q : Nat, s.heap.size ≤ q → A q) → va_P D vwCl ws s.heap → va_D A ws → va_S A s.heap s.heap [] → lv_has ls n (lv_args 0 av) →
      W p l e rm s m av.toArray below meth c s.heap [] 0 0 (MQ below (Q A) av.toArray s mc ms A) (F0 m 0 ls [])) : hMet l y cc n r hh rm D K av ws Q mc ms := by
  intro sz
  refine MetFree.of_bodyS (code := cc) (maxLocals := n) (ret := r) hy.2 ?_ ?_
  · intro args s m h hn
    obtain ⟨m9, meth, c, hn9, h1, h2, h3, h4, -, h5, h6, -⟩ := Cond.codeWith_spec (atoms_spec (ws := uwsH y cc n r hh) h _ List.mem_cons_self)
    cases hn.symm.trans hn9
    exact ⟨meth, c, h1, h2, h3, h4, h5, h6⟩
  · intro p e s m args below meth c s₁ B hml hv _
    have hh0 : s₁.heap = s.heap := by rw [B.state]; rfl
    obtain ⟨rfl, ⟨hsz, hP, hK, hD0⟩, hX, hZ⟩ := hv
    have hts := atoms_spec (ws := uwsH y cc n r hh) B.pre
    have htb : c.exceptionTable.toList = tableOf hh := vx_table (x := y) B (hts _ List.mem_cons_self)
    have hown : s.vm.findClass own = some m.cls := by rw [← hy.1]; exact findClass_of_methodNamed B.named
    subst hsz
    have hl := lv_entry av (n := n) hav
    have K0 := body p e s m below meth c (va_A ws s.heap.size) _ ⟨B.exec, B.bytes, hml, hown, fun w h => hts w (List.mem_cons_of_mem _ h), hK⟩ hX hZ htb B.returns B.notSynchronized (fun q h => Or.inr h) hP (hD0.self) va_S.rf hl
    rw [← lg_entry_eq] at K0
    obtain ⟨t, a1, o, b1, b2, b3⟩ := K0 s₁ hh0 (Stand.of_body B)
    exact ⟨t, o, a1, b1, b2, ⟨b3.1, b3.2⟩⟩
end XM
theorem nse_ot : ∀ w ∈ Cond.classLink RX11 223 NSE :: Cond.initialized NSE :: vx_at0 RX11 225 NSE nmE, vx_ot w = true := by decide +kernel
theorem nse_bad : ∀ w ∈ (vx_at0 RX11 225 NSE nmE).filter (fun w => !goodWord w), w ∈ B0 := by decide +kernel
section XT
variable {p : Program} {l : Launch} {e : Env} {R : Room} {s : State} {m : MethodId} {args : Array Value} {below : List Frame} {meth : Method} {c : Code} {H : Heap} {locs : List Loc} {cells slots mc ms : Nat} {Q : State → Prop}
variable {cc : ByteArray} {pc nL : Nat} {ls : Array Slot} {rest st0 As : List Value} {D : va_G} {K : Nat → ClassId} {A : Nat → Prop} {b : Nat} {ws wc wr : va_W} {S : Type} {W' : S → va_W}
variable {y : MethodName} {bytes : ByteArray} {maxL index : Nat} {ret : Option FieldType} {rm : Room} {px : Prop} {Qc : Array Value → State → Outcome → State → Prop}
theorem x_throw (C : kC p s m args c cc RX11 nL D K) (hl : l.stackTraces = false) (hE : XE s) (hZ : XZ A s s.heap) (ht : ∀ x ∈ c.exceptionTable.toList, False) (hlocks : meth.locks = false) (hS : va_S A s.heap H locs) (hls : ls.size = nL) (hpx : px)
    (h1 : Cond.classLink RX11 223 NSE ∈ wsL_law) (h2 : Cond.initialized NSE ∈ wsL_law)
    (d0 : decode cc pc = .ok (.new 223, 3)) (d3 : decode cc (pc + 3) = .ok (.dup, 1)) (d4 : decode cc (pc + 4) = .ok (.invokespecial 225, 3)) (d7 : decode cc (pc + 7) = .ok (.athrow, 1))
    (hRf : 5 < R.frames) (hRl : (rest.map fun v => v.category).sum + 81 ≤ R.locals) (hRc : cells + 1 ≤ R.cells) (hRs : slots + 6 ≤ R.slots) (hc : cells + 1 ≤ mc) (hs : slots + 6 ≤ ms) :
    W p l e R s m args below meth c H locs cells slots (vx_MQ below Qc (XC0 px A) args s mc ms A) (F0 m pc ls rest) := by
  refine vx_throw0 (own := RX11) (cls := NSE) (names := nmE) (ik := 223) (ic := 225) (A := A) C.1 C.2.1 hl C.2.2.2.1 (by decide +kernel) (by decide +kernel) (C.2.2.2.2.1 _ h1) (C.2.2.2.2.1 _ h2) ?_ nse_ot hZ.1 hZ.2 hS (by rw [C.2.2.1]; exact hls) d0 d3 d4 d7 (fun x hx => (ht x hx).elim) hRf hRl hRc hRs hlocks ?_ hS.2.2 hc hs
  · refine vx_hat (fun w hw => C.2.2.2.2.1 w (List.mem_append_right _ hw)) nse_bad (vx_c (va_Nw.use rfl hE.1) (vx_c (va_Nw.use rfl hE.2.1) (vx_c (va_Nw.use rfl hE.2.2.1) (vx_c (va_Nw.use rfl hE.2.2.2) vx_n))))
  · intro t _ hz hk
    exact ⟨(), hpx, rfl, Nat.le_trans hS.1 hz, fun q h1 h2 => (hk q (Nat.lt_of_lt_of_le h1 hS.1)).trans (hS.2.1 q h1 h2)⟩
theorem x_Vi {own : String} (C : kC p s m args c cc own nL D K) (hP : va_P D vwCl ws H) (hD : va_D A ws) (hS : va_S A s.heap H locs) (hA : ∀ q, s.heap.size ≤ q → A q) {post : Int32 → S → Prop} (hE : XE s) (hZ : XZ A s s.heap)
    (hM : xMet l y bytes maxL ret rm D K (.ref b :: As) wc (QI D K post W') px mc ms) {Cn : String} (hg : GoodIn wsL_law (wsV own index Cn y (uws y bytes maxL ret))) (hd : y.cls = Cn ∧ y.cls ≠ "java/lang/invoke/MethodHandle" ∧ y.cls ≠ "java/lang/invoke/VarHandle" ∧ (parseMethodDescriptor y.desc).map (fun d => d.parameters.length) = some As.length) (hR : rm.frames + 1 ≤ R.frames ∧ 8 + (maxL + 11) + rm.locals ≤ R.locals) (hrc : rm.cells = mc) (hrs : rm.slots = ms)
    {q0 ci : Nat} {Tn : u_T} {Nn : Nat} {fs : List Value} (hc : vwCl[ci]? = some (Cn, Tn, Nn)) (he : wc[q0]? = some (b, .inr (ci, fs))) {isC isR : List Nat} (hp : Part ws wc wr isC isR)
    (hst : st0 = As.reverse ++ .ref b :: rest) (hls : ls.size = nL) (hcat : (rest.map fun v => v.category).sum ≤ 8) (hdg : decode cc pc = .ok (.invokevirtual index, 3)) (hf : cells + mc ≤ R.cells ∧ slots + ms ≤ R.slots)
    (kx : ∀ (ce : Cell) (q9 : Addr) (H1 : Heap) (locs1 : List Loc), px → va_P D vwCl wr H1 → va_D A wr → va_S A s.heap H1 locs1 → H1[q9]? = some ce → ce.vm = .none → s.vm.findClass NSE = some ce.cls → vx_W p l e R s m args below meth c H1 locs1 (cells + mc) (slots + ms) Q (F0 m pc ls rest) q9)
    (kk : ∀ (r : Int32) (u : S) (H1 : Heap) (locs1 : List Loc), post r u → va_P D vwCl (wr ++ W' u) H1 → va_D A (wr ++ W' u) → va_S A s.heap H1 locs1 → W p l e R s m args below meth c H1 locs1 (cells + mc) (slots + ms) Q (F0 m (pc + 3) ls (.int r :: rest))) : W p l e R s m args below meth c H locs cells slots Q (F0 m pc ls st0) := by
  have hPc : va_P D vwCl wc H := va_sub' hP isC hp.1
  have hDc : va_D A wc := hD.sub isC hp.2.2.1 hp.1
  have hFc := va_free hD hS hA isC hp.1
  refine vx_calli (vx_runV (As := As) (rest := rest) ⟨C.1, C.2.1, C.2.2.1, C.2.2.2.1, C.2.2.2.2.1⟩ (hM H.size) (cwV As.length C.2.2.2.2.1 hg rfl hrc hrs hd hR) ⟨preX_blind, va_recv C.2.2.2.2.2 hPc hc he, preX_at C.2.2.2.2.2 hPc hDc hE hZ hS hFc⟩ rfl rfl hls hst (lv_room hcat) hdg hf) hS (fun q _ h => hFc q h) hFc (fun q _ h => hFc q h) (fun E ce q9 u t H1 locs1 ht hvm hw hB hz1 hk1 hS1 h9 hv9 hcl => ?_) (fun r u t H1 locs1 ht hvm hw hB hz1 hk1 hS1 => ?_)
  · subst hB
    have hj := k_join (A1 := A) (wj := []) hP hD hp hk1 hFc va_P0 va_D0
    rw [List.append_nil] at hj
    exact kx ce q9 H1 locs1 hw hj.1 hj.2 hS1 h9 hv9 hcl
  · obtain ⟨hP1, hK1, hD1⟩ := hB
    rw [ht] at hP1
    have hj := k_join (A1 := A) hP hD hp hk1 hFc hP1 hD1
    exact kk r u H1 locs1 hw hj.1 hj.2 hS1
/-- the law calls a helper that catches -/
theorem h_Si {own : String} (C : kC p s m args c cc own nL D K) (hP : va_P D vwCl ws H) (hD : va_D A ws) (hS : va_S A s.heap H locs) (hA : ∀ q, s.heap.size ≤ q → A q) {post : Int32 → S → Prop} (hE : XE s) (hZ : XZ A s s.heap) {hh : List (Nat × Nat × Nat × Nat)}
    (hM : hMet l y bytes maxL ret hh rm D K As wc (QI D K post W') mc ms) (w1 : Cond.methodLink own index y ∈ wsL_law) (w2 : Cond.static y ∈ wsL_law) (w3 : Cond.initialized y.cls ∈ wsL_law) (w4 : Cond.codeWith y bytes maxL ret hh ∈ wsL_law) (hd : y.cls ≠ "java/lang/invoke/MethodHandle" ∧ y.cls ≠ "java/lang/invoke/VarHandle" ∧ (parseMethodDescriptor y.desc).map (fun d => d.parameters.length) = some As.length) (hR : rm.frames + 1 ≤ R.frames ∧ 8 + (maxL + 11) + rm.locals ≤ R.locals) (hrc : rm.cells = mc) (hrs : rm.slots = ms) {isC isR : List Nat} (hp : Part ws wc wr isC isR)
    (hst : st0 = As.reverse ++ rest) (hls : ls.size = nL) (hcat : (rest.map fun v => v.category).sum ≤ 8) (hdg : decode cc pc = .ok (.invokestatic index, 3)) (hf : cells + mc ≤ R.cells ∧ slots + ms ≤ R.slots)
    (kk : ∀ (r : Int32) (u : S) (H1 : Heap) (locs1 : List Loc), post r u → va_P D vwCl (wr ++ W' u) H1 → va_D A (wr ++ W' u) → va_S A s.heap H1 locs1 → W p l e R s m args below meth c H1 locs1 (cells + mc) (slots + ms) Q (F0 m (pc + 3) ls (.int r :: rest))) : W p l e R s m args below meth c H locs cells slots Q (F0 m pc ls st0) := by
  have hPc : va_P D vwCl wc H := va_sub' hP isC hp.1
  have hDc : va_D A wc := hD.sub isC hp.2.2.1 hp.1
  have hFc := va_free hD hS hA isC hp.1
  have hg : GoodIn wsL_law (va_wsS own index y (uwsH y bytes maxL ret hh)) := by
    unfold va_wsS
    refine goodIn_app (fun w hw => ?_) (fun w hw => (List.mem_cons.mp hw).elim (fun e => by rw [e]; exact ⟨w4, uU_good w4⟩) (fun h => ⟨h, uU_good h⟩))
    simp only [List.mem_cons, List.not_mem_nil, or_false] at hw
    rcases hw with rfl | rfl | rfl
    · exact ⟨w1, uU_good w1⟩
    · exact ⟨w2, uU_good w2⟩
    · exact ⟨w3, uU_good w3⟩
  refine va_calli (vx_runSW (As := As) (rest := rest) ⟨C.1, C.2.1, C.2.2.1, C.2.2.2.1, C.2.2.2.2.1⟩ (hM H.size) (vx_cwSW As.length C.2.2.2.2.1 hg rfl hrc hrs hd hR) ⟨preX_blind, preX_at C.2.2.2.2.2 hPc hDc hE hZ hS hFc⟩ rfl rfl hls hst (lv_room hcat) hdg hf) hS (fun q _ h => hFc q h) hFc (fun r u t H1 locs1 ht hvm hw hB hz1 hk1 hS1 => ?_)
  obtain ⟨hP1, hK1, hD1⟩ := hB
  rw [ht] at hP1
  have hj := k_join (A1 := A) hP hD hp hk1 hFc hP1 hD1
  exact kk r u H1 locs1 hw hj.1 hj.2 hS1
end XT
end
section
theorem uin_0 : ∀ w ∈ uw_0, w ∈ wsL_law := fun w h => List.mem_append_left _ (List.mem_append_left _ h)
theorem m_1_0 : Cond.classLink RL 8 RX11 ∈ wsL_law := uin_0 _ (.head _)
theorem m_1_1 : Cond.instantiable RX11 8 ∈ wsL_law := uin_0 _ (.tail _ (.head _))
theorem m_1_2 : Cond.initialized RX11 ∈ wsL_law := uin_0 _ (.tail _ (.tail _ (.head _)))
theorem m_1_3 : Cond.classLink RL 27 RX12 ∈ wsL_law := uin_0 _ (.tail _ (.tail _ (.tail _ (.head _))))
theorem m_1_4 : Cond.instantiable RX12 94 ∈ wsL_law := uin_0 _ (.tail _ (.tail _ (.tail _ (.tail _ (.head _)))))
theorem m_1_5 : Cond.initialized RX12 ∈ wsL_law := uin_0 _ (.tail _ (.tail _ (.tail _ (.tail _ (.tail _ (.head _))))))
theorem m_1_6 : Cond.arrayClass .long ∈ wsL_law := uin_0 _ (.tail _ (.tail _ (.tail _ (.tail _ (.tail _ (.tail _ (.head _)))))))
theorem m_1_7 : Cond.methodLink RL 26 yX11_init ∈ wsL_law := uin_0 _ (.tail _ (.tail _ (.tail _ (.tail _ (.tail _ (.tail _ (.tail _ (.head _))))))))
theorem m_1_8 : Cond.instanceMethod yX11_init ∈ wsL_law := uin_0 _ (.tail _ (.tail _ (.tail _ (.tail _ (.tail _ (.tail _ (.tail _ (.tail _ (.head _)))))))))
theorem m_1_9 : Cond.code yX11_init cX11_init 7 none ∈ wsL_law := uin_0 _ (.tail _ (.tail _ (.tail _ (.tail _ (.tail _ (.tail _ (.tail _ (.tail _ (.tail _ (.head _))))))))))
theorem m_1_10 : Cond.methodLink RX11 1 objectInit ∈ wsL_law := uin_0 _ (.tail _ (.tail _ (.tail _ (.tail _ (.tail _ (.tail _ (.tail _ (.tail _ (.tail _ (.tail _ (.head _)))))))))))
theorem m_1_11 : Cond.instanceMethod objectInit ∈ wsL_law := uin_0 _ (.tail _ (.tail _ (.tail _ (.tail _ (.tail _ (.tail _ (.tail _ (.tail _ (.tail _ (.tail _ (.tail _ (.head _))))))))))))
theorem m_1_12 : Cond.code objectInit ⟨#[0xb1]⟩ 1 none ∈ wsL_law := uin_0 _ (.tail _ (.tail _ (.tail _ (.tail _ (.tail _ (.tail _ (.tail _ (.tail _ (.tail _ (.tail _ (.tail _ (.tail _ (.head _)))))))))))))
theorem m_1_13 : Cond.arrayClass .int ∈ wsL_law := uin_0 _ (.tail _ (.tail _ (.tail _ (.tail _ (.tail _ (.tail _ (.tail _ (.tail _ (.tail _ (.tail _ (.tail _ (.tail _ (.tail _ (.head _))))))))))))))
theorem m_1_14 : Cond.arrayClass .byte ∈ wsL_law := uin_0 _ (.tail _ (.tail _ (.tail _ (.tail _ (.tail _ (.tail _ (.tail _ (.tail _ (.tail _ (.tail _ (.tail _ (.tail _ (.tail _ (.tail _ (.head _)))))))))))))))
theorem m_1_15 : Cond.classLink RX11 11 RX9 ∈ wsL_law := uin_0 _ (.tail _ (.tail _ (.tail _ (.tail _ (.tail _ (.tail _ (.tail _ (.tail _ (.tail _ (.tail _ (.tail _ (.tail _ (.tail _ (.tail _ (.tail _ (.head _))))))))))))))))
theorem uin_1 : ∀ w ∈ uw_1, w ∈ wsL_law := fun w h => List.mem_append_left _ (List.mem_append_right _ (List.mem_append_left _ h))
theorem m_1_16 : Cond.instantiable RX9 8 ∈ wsL_law := uin_1 _ (.head _)
theorem m_1_17 : Cond.initialized RX9 ∈ wsL_law := uin_1 _ (.tail _ (.head _))
theorem m_1_18 : Cond.classLink RX11 16 RX10 ∈ wsL_law := uin_1 _ (.tail _ (.tail _ (.head _)))
theorem m_1_19 : Cond.instantiable RX10 13 ∈ wsL_law := uin_1 _ (.tail _ (.tail _ (.tail _ (.head _))))
theorem m_1_20 : Cond.initialized RX10 ∈ wsL_law := uin_1 _ (.tail _ (.tail _ (.tail _ (.tail _ (.head _)))))
theorem m_1_21 : Cond.classLink RX11 7 RX2 ∈ wsL_law := uin_1 _ (.tail _ (.tail _ (.tail _ (.tail _ (.tail _ (.head _))))))
theorem m_1_22 : Cond.instantiable RX2 16 ∈ wsL_law := uin_1 _ (.tail _ (.tail _ (.tail _ (.tail _ (.tail _ (.tail _ (.head _)))))))
theorem m_1_23 : Cond.initialized RX2 ∈ wsL_law := uin_1 _ (.tail _ (.tail _ (.tail _ (.tail _ (.tail _ (.tail _ (.tail _ (.head _))))))))
theorem m_2_0 : Cond.classLink RX11 24 RX0 ∈ wsL_law := uin_1 _ (.tail _ (.tail _ (.tail _ (.tail _ (.tail _ (.tail _ (.tail _ (.tail _ (.head _)))))))))
theorem m_2_1 : Cond.instantiable RX0 20 ∈ wsL_law := uin_1 _ (.tail _ (.tail _ (.tail _ (.tail _ (.tail _ (.tail _ (.tail _ (.tail _ (.tail _ (.head _))))))))))
theorem m_2_2 : Cond.initialized RX0 ∈ wsL_law := uin_1 _ (.tail _ (.tail _ (.tail _ (.tail _ (.tail _ (.tail _ (.tail _ (.tail _ (.tail _ (.tail _ (.head _)))))))))))
theorem m_2_3 : Cond.classLink RX11 26 RX8 ∈ wsL_law := uin_1 _ (.tail _ (.tail _ (.tail _ (.tail _ (.tail _ (.tail _ (.tail _ (.tail _ (.tail _ (.tail _ (.tail _ (.head _))))))))))))
theorem m_2_4 : Cond.instantiable RX8 13 ∈ wsL_law := uin_1 _ (.tail _ (.tail _ (.tail _ (.tail _ (.tail _ (.tail _ (.tail _ (.tail _ (.tail _ (.tail _ (.tail _ (.tail _ (.head _)))))))))))))
theorem m_2_5 : Cond.initialized RX8 ∈ wsL_law := uin_1 _ (.tail _ (.tail _ (.tail _ (.tail _ (.tail _ (.tail _ (.tail _ (.tail _ (.tail _ (.tail _ (.tail _ (.tail _ (.tail _ (.head _))))))))))))))
theorem m_2_6 : Cond.fieldLink RX11 32 "SixBitBoard" "tape" "[B" ∈ wsL_law := uin_1 _ (.tail _ (.tail _ (.tail _ (.tail _ (.tail _ (.tail _ (.tail _ (.tail _ (.tail _ (.tail _ (.tail _ (.tail _ (.tail _ (.tail _ (.head _)))))))))))))))
theorem m_2_7 : Cond.fieldLink RX11 36 "SixBitBoard" "text" "LSixBitBoard$Text;" ∈ wsL_law := uin_1 _ (.tail _ (.tail _ (.tail _ (.tail _ (.tail _ (.tail _ (.tail _ (.tail _ (.tail _ (.tail _ (.tail _ (.tail _ (.tail _ (.tail _ (.tail _ (.head _))))))))))))))))
theorem uin_2 : ∀ w ∈ uw_2, w ∈ wsL_law := fun w h => List.mem_append_left _ (List.mem_append_right _ (List.mem_append_right _ (List.mem_append_left _ h)))
theorem m_2_8 : Cond.fieldLink RX11 40 "SixBitBoard" "units" "LSixBitBoard$Units;" ∈ wsL_law := uin_2 _ (.head _)
theorem m_2_9 : Cond.fieldLink RX11 44 "SixBitBoard" "machine" "LSixBitBoard$Machine;" ∈ wsL_law := uin_2 _ (.tail _ (.head _))
theorem m_2_10 : Cond.fieldLink RX11 48 "SixBitBoard" "assembler" "LSixBitBoard$Assembler;" ∈ wsL_law := uin_2 _ (.tail _ (.tail _ (.head _)))
theorem m_2_11 : Cond.classLink RX11 52 RX7 ∈ wsL_law := uin_2 _ (.tail _ (.tail _ (.tail _ (.head _))))
theorem m_2_12 : Cond.instantiable RX7 4 ∈ wsL_law := uin_2 _ (.tail _ (.tail _ (.tail _ (.tail _ (.head _)))))
theorem m_2_13 : Cond.initialized RX7 ∈ wsL_law := uin_2 _ (.tail _ (.tail _ (.tail _ (.tail _ (.tail _ (.head _))))))
theorem m_2_14 : Cond.fieldLink RX11 57 "SixBitBoard" "report" "LSixBitBoard$Report;" ∈ wsL_law := uin_2 _ (.tail _ (.tail _ (.tail _ (.tail _ (.tail _ (.tail _ (.head _)))))))
theorem m_2_15 : Cond.classLink RX11 61 RX3 ∈ wsL_law := uin_2 _ (.tail _ (.tail _ (.tail _ (.tail _ (.tail _ (.tail _ (.tail _ (.head _))))))))
theorem m_2_16 : Cond.instantiable RX3 16 ∈ wsL_law := uin_2 _ (.tail _ (.tail _ (.tail _ (.tail _ (.tail _ (.tail _ (.tail _ (.tail _ (.head _)))))))))
theorem m_2_17 : Cond.initialized RX3 ∈ wsL_law := uin_2 _ (.tail _ (.tail _ (.tail _ (.tail _ (.tail _ (.tail _ (.tail _ (.tail _ (.tail _ (.head _))))))))))
theorem m_2_18 : Cond.fieldLink RX11 66 "SixBitBoard" "monitor" "LSixBitBoard$Monitor;" ∈ wsL_law := uin_2 _ (.tail _ (.tail _ (.tail _ (.tail _ (.tail _ (.tail _ (.tail _ (.tail _ (.tail _ (.tail _ (.head _)))))))))))
theorem m_2_19 : Cond.methodLink RX11 13 yX9_init ∈ wsL_law := uin_2 _ (.tail _ (.tail _ (.tail _ (.tail _ (.tail _ (.tail _ (.tail _ (.tail _ (.tail _ (.tail _ (.tail _ (.head _))))))))))))
theorem m_2_20 : Cond.instanceMethod yX9_init ∈ wsL_law := uin_2 _ (.tail _ (.tail _ (.tail _ (.tail _ (.tail _ (.tail _ (.tail _ (.tail _ (.tail _ (.tail _ (.tail _ (.tail _ (.head _)))))))))))))
theorem m_2_21 : Cond.code yX9_init cX9_init 2 none ∈ wsL_law := uin_2 _ (.tail _ (.tail _ (.tail _ (.tail _ (.tail _ (.tail _ (.tail _ (.tail _ (.tail _ (.tail _ (.tail _ (.tail _ (.tail _ (.head _))))))))))))))
theorem m_2_22 : Cond.methodLink RX9 3 objectInit ∈ wsL_law := uin_2 _ (.tail _ (.tail _ (.tail _ (.tail _ (.tail _ (.tail _ (.tail _ (.tail _ (.tail _ (.tail _ (.tail _ (.tail _ (.tail _ (.tail _ (.head _)))))))))))))))
theorem m_2_23 : Cond.fieldLink RX9 11 "SixBitBoard$Text" "row" "[B" ∈ wsL_law := uin_2 _ (.tail _ (.tail _ (.tail _ (.tail _ (.tail _ (.tail _ (.tail _ (.tail _ (.tail _ (.tail _ (.tail _ (.tail _ (.tail _ (.tail _ (.tail _ (.head _))))))))))))))))
theorem uin_3 : ∀ w ∈ uw_3, w ∈ wsL_law := fun w h => List.mem_append_left _ (List.mem_append_right _ (List.mem_append_right _ (List.mem_append_right _ (List.mem_append_left _ h))))
theorem m_3_0 : Cond.fieldLink RX9 15 "SixBitBoard$Text" "bytes" "[B" ∈ wsL_law := uin_3 _ (.head _)
theorem m_3_1 : Cond.methodLink RX11 18 yX10_init ∈ wsL_law := uin_3 _ (.tail _ (.head _))
theorem m_3_2 : Cond.instanceMethod yX10_init ∈ wsL_law := uin_3 _ (.tail _ (.tail _ (.head _)))
theorem m_3_3 : Cond.code yX10_init cX10_init 2 none ∈ wsL_law := uin_3 _ (.tail _ (.tail _ (.tail _ (.head _))))
theorem m_3_4 : Cond.methodLink RX10 3 objectInit ∈ wsL_law := uin_3 _ (.tail _ (.tail _ (.tail _ (.tail _ (.head _)))))
theorem m_3_5 : Cond.classLink RX10 9 "[I" ∈ wsL_law := uin_3 _ (.tail _ (.tail _ (.tail _ (.tail _ (.tail _ (.head _))))))
theorem m_3_6 : Cond.fieldLink RX10 11 "SixBitBoard$Units" "media" "[[I" ∈ wsL_law := uin_3 _ (.tail _ (.tail _ (.tail _ (.tail _ (.tail _ (.tail _ (.head _)))))))
theorem m_3_7 : Cond.fieldLink RX10 17 "SixBitBoard$Units" "stands" "[I" ∈ wsL_law := uin_3 _ (.tail _ (.tail _ (.tail _ (.tail _ (.tail _ (.tail _ (.tail _ (.head _))))))))
theorem m_3_8 : Cond.fieldLink RX10 20 "SixBitBoard$Units" "freeAt" "[J" ∈ wsL_law := uin_3 _ (.tail _ (.tail _ (.tail _ (.tail _ (.tail _ (.tail _ (.tail _ (.tail _ (.head _)))))))))
theorem m_3_9 : Cond.fieldLink RX10 24 "SixBitBoard$Units" "began" "[J" ∈ wsL_law := uin_3 _ (.tail _ (.tail _ (.tail _ (.tail _ (.tail _ (.tail _ (.tail _ (.tail _ (.tail _ (.head _))))))))))
theorem m_3_10 : Cond.arrayClass .boolean ∈ wsL_law := uin_3 _ (.tail _ (.tail _ (.tail _ (.tail _ (.tail _ (.tail _ (.tail _ (.tail _ (.tail _ (.tail _ (.head _)))))))))))
theorem m_3_11 : Cond.fieldLink RX10 27 "SixBitBoard$Units" "coming" "[Z" ∈ wsL_law := uin_3 _ (.tail _ (.tail _ (.tail _ (.tail _ (.tail _ (.tail _ (.tail _ (.tail _ (.tail _ (.tail _ (.tail _ (.head _))))))))))))
theorem m_3_12 : Cond.fieldLink RX10 31 "SixBitBoard$Units" "target" "[I" ∈ wsL_law := uin_3 _ (.tail _ (.tail _ (.tail _ (.tail _ (.tail _ (.tail _ (.tail _ (.tail _ (.tail _ (.tail _ (.tail _ (.tail _ (.head _)))))))))))))
theorem m_3_13 : Cond.fieldLink RX10 34 "SixBitBoard$Units" "words" "[I" ∈ wsL_law := uin_3 _ (.tail _ (.tail _ (.tail _ (.tail _ (.tail _ (.tail _ (.tail _ (.tail _ (.tail _ (.tail _ (.tail _ (.tail _ (.tail _ (.head _))))))))))))))
theorem m_3_14 : Cond.classLink RX10 37 RX6 ∈ wsL_law := uin_3 _ (.tail _ (.tail _ (.tail _ (.tail _ (.tail _ (.tail _ (.tail _ (.tail _ (.tail _ (.tail _ (.tail _ (.tail _ (.tail _ (.tail _ (.head _)))))))))))))))
theorem m_3_15 : Cond.instantiable RX6 4 ∈ wsL_law := uin_3 _ (.tail _ (.tail _ (.tail _ (.tail _ (.tail _ (.tail _ (.tail _ (.tail _ (.tail _ (.tail _ (.tail _ (.tail _ (.tail _ (.tail _ (.tail _ (.head _))))))))))))))))
theorem uin_4 : ∀ w ∈ uw_4, w ∈ wsL_law := fun w h => List.mem_append_left _ (List.mem_append_right _ (List.mem_append_right _ (List.mem_append_right _ (List.mem_append_right _ (List.mem_append_left _ h)))))
theorem m_3_16 : Cond.initialized RX6 ∈ wsL_law := uin_4 _ (.head _)
theorem m_3_17 : Cond.fieldLink RX10 40 "SixBitBoard$Units" "reader" "LSixBitBoard$Reader;" ∈ wsL_law := uin_4 _ (.tail _ (.head _))
theorem m_3_18 : Cond.classLink RX10 44 RX4 ∈ wsL_law := uin_4 _ (.tail _ (.tail _ (.head _)))
theorem m_3_19 : Cond.instantiable RX4 4 ∈ wsL_law := uin_4 _ (.tail _ (.tail _ (.tail _ (.head _))))
theorem m_3_20 : Cond.initialized RX4 ∈ wsL_law := uin_4 _ (.tail _ (.tail _ (.tail _ (.tail _ (.head _)))))
theorem m_3_21 : Cond.fieldLink RX10 47 "SixBitBoard$Units" "punch" "LSixBitBoard$Paper;" ∈ wsL_law := uin_4 _ (.tail _ (.tail _ (.tail _ (.tail _ (.tail _ (.head _))))))
theorem m_3_22 : Cond.fieldLink RX10 51 "SixBitBoard$Units" "printer" "LSixBitBoard$Paper;" ∈ wsL_law := uin_4 _ (.tail _ (.tail _ (.tail _ (.tail _ (.tail _ (.tail _ (.head _)))))))
theorem m_3_23 : Cond.fieldLink RX10 54 "SixBitBoard$Units" "typewriter" "LSixBitBoard$Paper;" ∈ wsL_law := uin_4 _ (.tail _ (.tail _ (.tail _ (.tail _ (.tail _ (.tail _ (.tail _ (.head _))))))))
theorem m_4_0 : Cond.fieldLink RX10 57 "SixBitBoard$Units" "memory" "[I" ∈ wsL_law := uin_4 _ (.tail _ (.tail _ (.tail _ (.tail _ (.tail _ (.tail _ (.tail _ (.tail _ (.head _)))))))))
theorem m_4_1 : Cond.instanceMethod yX6_init ∈ wsL_law := uin_4 _ (.tail _ (.tail _ (.tail _ (.tail _ (.tail _ (.tail _ (.tail _ (.tail _ (.tail _ (.head _))))))))))
theorem m_4_2 : Cond.code yX6_init cX6_init 1 none ∈ wsL_law := uin_4 _ (.tail _ (.tail _ (.tail _ (.tail _ (.tail _ (.tail _ (.tail _ (.tail _ (.tail _ (.tail _ (.head _)))))))))))
theorem m_4_3 : Cond.methodLink RX6 5 objectInit ∈ wsL_law := uin_4 _ (.tail _ (.tail _ (.tail _ (.tail _ (.tail _ (.tail _ (.tail _ (.tail _ (.tail _ (.tail _ (.tail _ (.head _))))))))))))
theorem m_4_4 : Cond.methodLink RX10 46 yX4_init ∈ wsL_law := uin_4 _ (.tail _ (.tail _ (.tail _ (.tail _ (.tail _ (.tail _ (.tail _ (.tail _ (.tail _ (.tail _ (.tail _ (.tail _ (.head _)))))))))))))
theorem m_4_5 : Cond.instanceMethod yX4_init ∈ wsL_law := uin_4 _ (.tail _ (.tail _ (.tail _ (.tail _ (.tail _ (.tail _ (.tail _ (.tail _ (.tail _ (.tail _ (.tail _ (.tail _ (.tail _ (.head _))))))))))))))
theorem m_4_6 : Cond.code yX4_init cX4_init 2 none ∈ wsL_law := uin_4 _ (.tail _ (.tail _ (.tail _ (.tail _ (.tail _ (.tail _ (.tail _ (.tail _ (.tail _ (.tail _ (.tail _ (.tail _ (.tail _ (.tail _ (.head _)))))))))))))))
theorem m_4_7 : Cond.methodLink RX4 3 objectInit ∈ wsL_law := uin_4 _ (.tail _ (.tail _ (.tail _ (.tail _ (.tail _ (.tail _ (.tail _ (.tail _ (.tail _ (.tail _ (.tail _ (.tail _ (.tail _ (.tail _ (.tail _ (.head _))))))))))))))))
theorem uin_5 : ∀ w ∈ uw_5, w ∈ wsL_law := fun w h => List.mem_append_left _ (List.mem_append_right _ (List.mem_append_right _ (List.mem_append_right _ (List.mem_append_right _ (List.mem_append_right _ (List.mem_append_left _ h))))))
theorem m_4_8 : Cond.classLink RX4 11 "[B" ∈ wsL_law := uin_5 _ (.head _)
theorem m_4_9 : Cond.fieldLink RX4 13 "SixBitBoard$Paper" "rows" "[[B" ∈ wsL_law := uin_5 _ (.tail _ (.head _))
theorem m_4_10 : Cond.fieldLink RX4 17 "SixBitBoard$Paper" "lengths" "[I" ∈ wsL_law := uin_5 _ (.tail _ (.tail _ (.head _)))
theorem m_4_11 : Cond.fieldLink RX4 21 "SixBitBoard$Paper" "row" "[B" ∈ wsL_law := uin_5 _ (.tail _ (.tail _ (.tail _ (.head _))))
theorem m_4_12 : Cond.methodLink RX11 21 yX2_init ∈ wsL_law := uin_5 _ (.tail _ (.tail _ (.tail _ (.tail _ (.head _)))))
theorem m_4_13 : Cond.instanceMethod yX2_init ∈ wsL_law := uin_5 _ (.tail _ (.tail _ (.tail _ (.tail _ (.tail _ (.head _))))))
theorem m_4_14 : Cond.code yX2_init cX2_init 3 none ∈ wsL_law := uin_5 _ (.tail _ (.tail _ (.tail _ (.tail _ (.tail _ (.tail _ (.head _)))))))
theorem m_4_15 : Cond.methodLink RX2 5 objectInit ∈ wsL_law := uin_5 _ (.tail _ (.tail _ (.tail _ (.tail _ (.tail _ (.tail _ (.tail _ (.head _))))))))
theorem m_4_16 : Cond.fieldLink RX2 11 "SixBitBoard$Machine" "registers" "[I" ∈ wsL_law := uin_5 _ (.tail _ (.tail _ (.tail _ (.tail _ (.tail _ (.tail _ (.tail _ (.tail _ (.head _)))))))))
theorem m_4_17 : Cond.fieldLink RX2 15 "SixBitBoard$Machine" "status" "I" ∈ wsL_law := uin_5 _ (.tail _ (.tail _ (.tail _ (.tail _ (.tail _ (.tail _ (.tail _ (.tail _ (.tail _ (.head _))))))))))
theorem m_4_18 : Cond.fieldLink RX2 19 "SixBitBoard$Machine" "memory" "[I" ∈ wsL_law := uin_5 _ (.tail _ (.tail _ (.tail _ (.tail _ (.tail _ (.tail _ (.tail _ (.tail _ (.tail _ (.tail _ (.head _)))))))))))
theorem m_4_19 : Cond.fieldLink RX2 22 "SixBitBoard$Machine" "units" "LSixBitBoard$Units;" ∈ wsL_law := uin_5 _ (.tail _ (.tail _ (.tail _ (.tail _ (.tail _ (.tail _ (.tail _ (.tail _ (.tail _ (.tail _ (.tail _ (.head _))))))))))))
theorem m_4_20 : Cond.instanceMethod yX8_init ∈ wsL_law := uin_5 _ (.tail _ (.tail _ (.tail _ (.tail _ (.tail _ (.tail _ (.tail _ (.tail _ (.tail _ (.tail _ (.tail _ (.tail _ (.head _)))))))))))))
theorem m_4_21 : Cond.code yX8_init cX8_init 1 none ∈ wsL_law := uin_5 _ (.tail _ (.tail _ (.tail _ (.tail _ (.tail _ (.tail _ (.tail _ (.tail _ (.tail _ (.tail _ (.tail _ (.tail _ (.tail _ (.head _))))))))))))))
theorem m_4_22 : Cond.methodLink RX8 3 objectInit ∈ wsL_law := uin_5 _ (.tail _ (.tail _ (.tail _ (.tail _ (.tail _ (.tail _ (.tail _ (.tail _ (.tail _ (.tail _ (.tail _ (.tail _ (.tail _ (.tail _ (.head _)))))))))))))))
theorem m_4_23 : Cond.fieldLink RX8 11 "SixBitBoard$Symbols" "names" "[J" ∈ wsL_law := uin_5 _ (.tail _ (.tail _ (.tail _ (.tail _ (.tail _ (.tail _ (.tail _ (.tail _ (.tail _ (.tail _ (.tail _ (.tail _ (.tail _ (.tail _ (.tail _ (.head _))))))))))))))))
theorem uin_6 : ∀ w ∈ uw_6, w ∈ wsL_law := fun w h => List.mem_append_left _ (List.mem_append_right _ (List.mem_append_right _ (List.mem_append_right _ (List.mem_append_right _ (List.mem_append_right _ (List.mem_append_right _ (List.mem_append_left _ h)))))))
theorem m_5_0 : Cond.fieldLink RX8 15 "SixBitBoard$Symbols" "values" "[I" ∈ wsL_law := uin_6 _ (.head _)
theorem m_5_1 : Cond.fieldLink RX8 19 "SixBitBoard$Symbols" "standings" "[I" ∈ wsL_law := uin_6 _ (.tail _ (.head _))
theorem m_5_2 : Cond.fieldLink RX8 22 "SixBitBoard$Symbols" "readOf" "[I" ∈ wsL_law := uin_6 _ (.tail _ (.tail _ (.head _)))
theorem m_5_3 : Cond.fieldLink RX8 25 "SixBitBoard$Symbols" "readIn" "[I" ∈ wsL_law := uin_6 _ (.tail _ (.tail _ (.tail _ (.head _))))
theorem m_5_4 : Cond.fieldLink RX8 28 "SixBitBoard$Symbols" "local" "[I" ∈ wsL_law := uin_6 _ (.tail _ (.tail _ (.tail _ (.tail _ (.head _)))))
theorem m_5_5 : Cond.fieldLink RX8 31 "SixBitBoard$Symbols" "hasLocal" "[Z" ∈ wsL_law := uin_6 _ (.tail _ (.tail _ (.tail _ (.tail _ (.tail _ (.head _))))))
theorem m_5_6 : Cond.fieldLink RX8 35 "SixBitBoard$Symbols" "useAt" "[I" ∈ wsL_law := uin_6 _ (.tail _ (.tail _ (.tail _ (.tail _ (.tail _ (.tail _ (.head _)))))))
theorem m_5_7 : Cond.fieldLink RX8 38 "SixBitBoard$Symbols" "useOf" "[I" ∈ wsL_law := uin_6 _ (.tail _ (.tail _ (.tail _ (.tail _ (.tail _ (.tail _ (.tail _ (.head _))))))))
theorem m_5_8 : Cond.fieldLink RX8 41 "SixBitBoard$Symbols" "useWord" "[I" ∈ wsL_law := uin_6 _ (.tail _ (.tail _ (.tail _ (.tail _ (.tail _ (.tail _ (.tail _ (.tail _ (.head _)))))))))
theorem m_5_9 : Cond.methodLink RX11 29 yX0_init ∈ wsL_law := uin_6 _ (.tail _ (.tail _ (.tail _ (.tail _ (.tail _ (.tail _ (.tail _ (.tail _ (.tail _ (.head _))))))))))
theorem m_5_10 : Cond.instanceMethod yX0_init ∈ wsL_law := uin_6 _ (.tail _ (.tail _ (.tail _ (.tail _ (.tail _ (.tail _ (.tail _ (.tail _ (.tail _ (.tail _ (.head _)))))))))))
theorem m_5_11 : Cond.code yX0_init cX0_init 4 none ∈ wsL_law := uin_6 _ (.tail _ (.tail _ (.tail _ (.tail _ (.tail _ (.tail _ (.tail _ (.tail _ (.tail _ (.tail _ (.tail _ (.head _))))))))))))
theorem m_5_12 : Cond.methodLink RX0 3 objectInit ∈ wsL_law := uin_6 _ (.tail _ (.tail _ (.tail _ (.tail _ (.tail _ (.tail _ (.tail _ (.tail _ (.tail _ (.tail _ (.tail _ (.tail _ (.head _)))))))))))))
theorem m_5_13 : Cond.fieldLink RX0 9 "SixBitBoard$Assembler" "touched" "[J" ∈ wsL_law := uin_6 _ (.tail _ (.tail _ (.tail _ (.tail _ (.tail _ (.tail _ (.tail _ (.tail _ (.tail _ (.tail _ (.tail _ (.tail _ (.tail _ (.head _))))))))))))))
theorem m_5_14 : Cond.fieldLink RX0 15 "SixBitBoard$Assembler" "putIn" "[I" ∈ wsL_law := uin_6 _ (.tail _ (.tail _ (.tail _ (.tail _ (.tail _ (.tail _ (.tail _ (.tail _ (.tail _ (.tail _ (.tail _ (.tail _ (.tail _ (.tail _ (.head _)))))))))))))))
theorem m_5_15 : Cond.fieldLink RX0 19 "SixBitBoard$Assembler" "putAt" "[I" ∈ wsL_law := uin_6 _ (.tail _ (.tail _ (.tail _ (.tail _ (.tail _ (.tail _ (.tail _ (.tail _ (.tail _ (.tail _ (.tail _ (.tail _ (.tail _ (.tail _ (.tail _ (.head _))))))))))))))))
theorem uin_7 : ∀ w ∈ uw_7, w ∈ wsL_law := fun w h => List.mem_append_left _ (List.mem_append_right _ (List.mem_append_right _ (List.mem_append_right _ (List.mem_append_right _ (List.mem_append_right _ (List.mem_append_right _ (List.mem_append_right _ (List.mem_append_left _ h))))))))
theorem m_5_16 : Cond.fieldLink RX0 22 "SixBitBoard$Assembler" "localAt" "[I" ∈ wsL_law := uin_7 _ (.head _)
theorem m_5_17 : Cond.fieldLink RX0 25 "SixBitBoard$Assembler" "text" "LSixBitBoard$Text;" ∈ wsL_law := uin_7 _ (.tail _ (.head _))
theorem m_5_18 : Cond.fieldLink RX0 29 "SixBitBoard$Assembler" "memory" "[I" ∈ wsL_law := uin_7 _ (.tail _ (.tail _ (.head _)))
theorem m_5_19 : Cond.fieldLink RX0 32 "SixBitBoard$Assembler" "symbols" "LSixBitBoard$Symbols;" ∈ wsL_law := uin_7 _ (.tail _ (.tail _ (.tail _ (.head _))))
theorem m_5_20 : Cond.classLink RX0 36 RX5 ∈ wsL_law := uin_7 _ (.tail _ (.tail _ (.tail _ (.tail _ (.head _)))))
theorem m_5_21 : Cond.instantiable RX5 10 ∈ wsL_law := uin_7 _ (.tail _ (.tail _ (.tail _ (.tail _ (.tail _ (.head _))))))
theorem m_5_22 : Cond.initialized RX5 ∈ wsL_law := uin_7 _ (.tail _ (.tail _ (.tail _ (.tail _ (.tail _ (.tail _ (.head _)))))))
theorem m_5_23 : Cond.fieldLink RX0 38 "SixBitBoard$Text" "row" "[B" ∈ wsL_law := uin_7 _ (.tail _ (.tail _ (.tail _ (.tail _ (.tail _ (.tail _ (.tail _ (.head _))))))))
theorem m_6_0 : Cond.fieldLink RX0 47 "SixBitBoard$Assembler" "parser" "LSixBitBoard$Parser;" ∈ wsL_law := uin_7 _ (.tail _ (.tail _ (.tail _ (.tail _ (.tail _ (.tail _ (.tail _ (.tail _ (.head _)))))))))
theorem m_6_1 : Cond.methodLink RX0 44 yX5_init ∈ wsL_law := uin_7 _ (.tail _ (.tail _ (.tail _ (.tail _ (.tail _ (.tail _ (.tail _ (.tail _ (.tail _ (.head _))))))))))
theorem m_6_2 : Cond.instanceMethod yX5_init ∈ wsL_law := uin_7 _ (.tail _ (.tail _ (.tail _ (.tail _ (.tail _ (.tail _ (.tail _ (.tail _ (.tail _ (.tail _ (.head _)))))))))))
theorem m_6_3 : Cond.code yX5_init cX5_init 3 none ∈ wsL_law := uin_7 _ (.tail _ (.tail _ (.tail _ (.tail _ (.tail _ (.tail _ (.tail _ (.tail _ (.tail _ (.tail _ (.tail _ (.head _))))))))))))
theorem m_6_4 : Cond.methodLink RX5 3 objectInit ∈ wsL_law := uin_7 _ (.tail _ (.tail _ (.tail _ (.tail _ (.tail _ (.tail _ (.tail _ (.tail _ (.tail _ (.tail _ (.tail _ (.tail _ (.head _)))))))))))))
theorem m_6_5 : Cond.fieldLink RX5 9 "SixBitBoard$Parser" "row" "[B" ∈ wsL_law := uin_7 _ (.tail _ (.tail _ (.tail _ (.tail _ (.tail _ (.tail _ (.tail _ (.tail _ (.tail _ (.tail _ (.tail _ (.tail _ (.tail _ (.head _))))))))))))))
theorem m_6_6 : Cond.fieldLink RX5 15 "SixBitBoard$Parser" "symbols" "LSixBitBoard$Symbols;" ∈ wsL_law := uin_7 _ (.tail _ (.tail _ (.tail _ (.tail _ (.tail _ (.tail _ (.tail _ (.tail _ (.tail _ (.tail _ (.tail _ (.tail _ (.tail _ (.tail _ (.head _)))))))))))))))
theorem m_6_7 : Cond.methodLink RX11 54 yX7_init ∈ wsL_law := uin_7 _ (.tail _ (.tail _ (.tail _ (.tail _ (.tail _ (.tail _ (.tail _ (.tail _ (.tail _ (.tail _ (.tail _ (.tail _ (.tail _ (.tail _ (.tail _ (.head _))))))))))))))))
theorem uin_8 : ∀ w ∈ uw_8, w ∈ wsL_law := fun w h => List.mem_append_left _ (List.mem_append_right _ (List.mem_append_right _ (List.mem_append_right _ (List.mem_append_right _ (List.mem_append_right _ (List.mem_append_right _ (List.mem_append_right _ (List.mem_append_right _ (List.mem_append_left _ h)))))))))
theorem m_6_8 : Cond.instanceMethod yX7_init ∈ wsL_law := uin_8 _ (.head _)
theorem m_6_9 : Cond.code yX7_init cX7_init 4 none ∈ wsL_law := uin_8 _ (.tail _ (.head _))
theorem m_6_10 : Cond.methodLink RX7 3 objectInit ∈ wsL_law := uin_8 _ (.tail _ (.tail _ (.head _)))
theorem m_6_11 : Cond.fieldLink RX7 9 "SixBitBoard$Report" "machine" "LSixBitBoard$Machine;" ∈ wsL_law := uin_8 _ (.tail _ (.tail _ (.tail _ (.head _))))
theorem m_6_12 : Cond.fieldLink RX7 15 "SixBitBoard$Report" "assembler" "LSixBitBoard$Assembler;" ∈ wsL_law := uin_8 _ (.tail _ (.tail _ (.tail _ (.tail _ (.head _)))))
theorem m_6_13 : Cond.fieldLink RX7 19 "SixBitBoard$Units" "printer" "LSixBitBoard$Paper;" ∈ wsL_law := uin_8 _ (.tail _ (.tail _ (.tail _ (.tail _ (.tail _ (.head _))))))
theorem m_6_14 : Cond.fieldLink RX7 25 "SixBitBoard$Report" "printer" "LSixBitBoard$Paper;" ∈ wsL_law := uin_8 _ (.tail _ (.tail _ (.tail _ (.tail _ (.tail _ (.tail _ (.head _)))))))
theorem m_6_15 : Cond.fieldLink RX7 26 "SixBitBoard$Units" "punch" "LSixBitBoard$Paper;" ∈ wsL_law := uin_8 _ (.tail _ (.tail _ (.tail _ (.tail _ (.tail _ (.tail _ (.tail _ (.head _))))))))
theorem m_6_16 : Cond.fieldLink RX7 29 "SixBitBoard$Report" "punch" "LSixBitBoard$Paper;" ∈ wsL_law := uin_8 _ (.tail _ (.tail _ (.tail _ (.tail _ (.tail _ (.tail _ (.tail _ (.tail _ (.head _)))))))))
theorem m_6_17 : Cond.methodLink RX11 63 yX3_init ∈ wsL_law := uin_8 _ (.tail _ (.tail _ (.tail _ (.tail _ (.tail _ (.tail _ (.tail _ (.tail _ (.tail _ (.head _))))))))))
theorem m_6_18 : Cond.instanceMethod yX3_init ∈ wsL_law := uin_8 _ (.tail _ (.tail _ (.tail _ (.tail _ (.tail _ (.tail _ (.tail _ (.tail _ (.tail _ (.tail _ (.head _)))))))))))
theorem m_6_19 : Cond.code yX3_init cX3_init 2 none ∈ wsL_law := uin_8 _ (.tail _ (.tail _ (.tail _ (.tail _ (.tail _ (.tail _ (.tail _ (.tail _ (.tail _ (.tail _ (.tail _ (.head _))))))))))))
theorem m_6_20 : Cond.methodLink RX3 5 objectInit ∈ wsL_law := uin_8 _ (.tail _ (.tail _ (.tail _ (.tail _ (.tail _ (.tail _ (.tail _ (.tail _ (.tail _ (.tail _ (.tail _ (.tail _ (.head _)))))))))))))
theorem m_6_21 : Cond.fieldLink RX3 11 "SixBitBoard$Monitor" "name" "[B" ∈ wsL_law := uin_8 _ (.tail _ (.tail _ (.tail _ (.tail _ (.tail _ (.tail _ (.tail _ (.tail _ (.tail _ (.tail _ (.tail _ (.tail _ (.tail _ (.head _))))))))))))))
theorem m_6_22 : Cond.fieldLink RX3 17 "SixBitBoard$Monitor" "entries" "[I" ∈ wsL_law := uin_8 _ (.tail _ (.tail _ (.tail _ (.tail _ (.tail _ (.tail _ (.tail _ (.tail _ (.tail _ (.tail _ (.tail _ (.tail _ (.tail _ (.tail _ (.head _)))))))))))))))
theorem m_6_23 : Cond.fieldLink RX3 21 "SixBitBoard$Monitor" "deck" "LSixBitBoard$Text;" ∈ wsL_law := uin_8 _ (.tail _ (.tail _ (.tail _ (.tail _ (.tail _ (.tail _ (.tail _ (.tail _ (.tail _ (.tail _ (.tail _ (.tail _ (.tail _ (.tail _ (.tail _ (.head _))))))))))))))))
theorem uin_9 : ∀ w ∈ uw_9, w ∈ wsL_law := fun w h => List.mem_append_left _ (List.mem_append_right _ (List.mem_append_right _ (List.mem_append_right _ (List.mem_append_right _ (List.mem_append_right _ (List.mem_append_right _ (List.mem_append_right _ (List.mem_append_right _ (List.mem_append_right _ (List.mem_append_left _ h))))))))))
theorem m_7_0 : Cond.methodLink RL 29 yX12_init ∈ wsL_law := uin_9 _ (.head _)
theorem m_7_1 : Cond.instanceMethod yX12_init ∈ wsL_law := uin_9 _ (.tail _ (.head _))
theorem m_7_2 : Cond.code yX12_init cX12_init 1 none ∈ wsL_law := uin_9 _ (.tail _ (.tail _ (.head _)))
theorem m_7_3 : Cond.methodLink RX12 3 objectInit ∈ wsL_law := uin_9 _ (.tail _ (.tail _ (.tail _ (.head _))))
theorem m_7_4 : Cond.fieldLink RX12 9 "SixBitBoardModel" "tape" "[B" ∈ wsL_law := uin_9 _ (.tail _ (.tail _ (.tail _ (.tail _ (.head _)))))
theorem m_7_5 : Cond.fieldLink RX12 13 "SixBitBoardModel" "memory" "[I" ∈ wsL_law := uin_9 _ (.tail _ (.tail _ (.tail _ (.tail _ (.tail _ (.head _))))))
theorem m_7_6 : Cond.fieldLink RX12 17 "SixBitBoardModel" "registers" "[I" ∈ wsL_law := uin_9 _ (.tail _ (.tail _ (.tail _ (.tail _ (.tail _ (.tail _ (.head _)))))))
theorem m_7_7 : Cond.fieldLink RX12 20 "SixBitBoardModel" "comparison" "I" ∈ wsL_law := uin_9 _ (.tail _ (.tail _ (.tail _ (.tail _ (.tail _ (.tail _ (.tail _ (.head _))))))))
theorem m_7_8 : Cond.fieldLink RX12 24 "SixBitBoardModel" "state" "I" ∈ wsL_law := uin_9 _ (.tail _ (.tail _ (.tail _ (.tail _ (.tail _ (.tail _ (.tail _ (.tail _ (.head _)))))))))
theorem m_7_9 : Cond.fieldLink RX12 27 "SixBitBoardModel" "busy" "[J" ∈ wsL_law := uin_9 _ (.tail _ (.tail _ (.tail _ (.tail _ (.tail _ (.tail _ (.tail _ (.tail _ (.tail _ (.head _))))))))))
theorem m_7_10 : Cond.fieldLink RX12 31 "SixBitBoardModel" "coming" "[Z" ∈ wsL_law := uin_9 _ (.tail _ (.tail _ (.tail _ (.tail _ (.tail _ (.tail _ (.tail _ (.tail _ (.tail _ (.tail _ (.head _)))))))))))
theorem m_7_11 : Cond.fieldLink RX12 35 "SixBitBoardModel" "began" "[J" ∈ wsL_law := uin_9 _ (.tail _ (.tail _ (.tail _ (.tail _ (.tail _ (.tail _ (.tail _ (.tail _ (.tail _ (.tail _ (.tail _ (.head _))))))))))))
theorem m_7_12 : Cond.fieldLink RX12 38 "SixBitBoardModel" "comesTo" "[I" ∈ wsL_law := uin_9 _ (.tail _ (.tail _ (.tail _ (.tail _ (.tail _ (.tail _ (.tail _ (.tail _ (.tail _ (.tail _ (.tail _ (.tail _ (.head _)))))))))))))
theorem m_7_13 : Cond.fieldLink RX12 41 "SixBitBoardModel" "comes" "[I" ∈ wsL_law := uin_9 _ (.tail _ (.tail _ (.tail _ (.tail _ (.tail _ (.tail _ (.tail _ (.tail _ (.tail _ (.tail _ (.tail _ (.tail _ (.tail _ (.head _))))))))))))))
theorem m_7_14 : Cond.fieldLink RX12 44 "SixBitBoardModel" "stands" "[I" ∈ wsL_law := uin_9 _ (.tail _ (.tail _ (.tail _ (.tail _ (.tail _ (.tail _ (.tail _ (.tail _ (.tail _ (.tail _ (.tail _ (.tail _ (.tail _ (.tail _ (.head _)))))))))))))))
theorem m_7_15 : Cond.constant RX12 47 (102400) ∈ wsL_law := uin_9 _ (.tail _ (.tail _ (.tail _ (.tail _ (.tail _ (.tail _ (.tail _ (.tail _ (.tail _ (.tail _ (.tail _ (.tail _ (.tail _ (.tail _ (.tail _ (.head _))))))))))))))))
theorem uin_10 : ∀ w ∈ uw_10, w ∈ wsL_law := fun w h => List.mem_append_left _ (List.mem_append_right _ (List.mem_append_right _ (List.mem_append_right _ (List.mem_append_right _ (List.mem_append_right _ (List.mem_append_right _ (List.mem_append_right _ (List.mem_append_right _ (List.mem_append_right _ (List.mem_append_right _ (List.mem_append_left _ h)))))))))))
theorem m_7_16 : Cond.fieldLink RX12 48 "SixBitBoardModel" "blocks" "[I" ∈ wsL_law := uin_10 _ (.head _)
theorem m_7_17 : Cond.constant RX12 51 (108000) ∈ wsL_law := uin_10 _ (.tail _ (.head _))
theorem m_7_18 : Cond.fieldLink RX12 52 "SixBitBoardModel" "written" "[B" ∈ wsL_law := uin_10 _ (.tail _ (.tail _ (.head _)))
theorem m_7_19 : Cond.fieldLink RX12 55 "SixBitBoardModel" "lengths" "[I" ∈ wsL_law := uin_10 _ (.tail _ (.tail _ (.tail _ (.head _))))
theorem m_7_20 : Cond.fieldLink RX12 58 "SixBitBoardModel" "lineCounts" "[I" ∈ wsL_law := uin_10 _ (.tail _ (.tail _ (.tail _ (.tail _ (.head _)))))
theorem m_7_21 : Cond.fieldLink RX12 61 "SixBitBoardModel" "row" "[B" ∈ wsL_law := uin_10 _ (.tail _ (.tail _ (.tail _ (.tail _ (.tail _ (.head _))))))
theorem m_7_22 : Cond.constant RX12 64 (49152) ∈ wsL_law := uin_10 _ (.tail _ (.tail _ (.tail _ (.tail _ (.tail _ (.tail _ (.head _)))))))
theorem m_7_23 : Cond.fieldLink RX12 65 "SixBitBoardModel" "cardText" "[B" ∈ wsL_law := uin_10 _ (.tail _ (.tail _ (.tail _ (.tail _ (.tail _ (.tail _ (.tail _ (.head _))))))))
theorem m_8_0 : Cond.fieldLink RX12 68 "SixBitBoardModel" "cardFrom" "[I" ∈ wsL_law := uin_10 _ (.tail _ (.tail _ (.tail _ (.tail _ (.tail _ (.tail _ (.tail _ (.tail _ (.head _)))))))))
theorem m_8_1 : Cond.fieldLink RX12 71 "SixBitBoardModel" "cardTo" "[I" ∈ wsL_law := uin_10 _ (.tail _ (.tail _ (.tail _ (.tail _ (.tail _ (.tail _ (.tail _ (.tail _ (.tail _ (.head _))))))))))
theorem m_8_2 : Cond.fieldLink RX12 74 "SixBitBoardModel" "text" "[B" ∈ wsL_law := uin_10 _ (.tail _ (.tail _ (.tail _ (.tail _ (.tail _ (.tail _ (.tail _ (.tail _ (.tail _ (.tail _ (.head _)))))))))))
theorem m_8_3 : Cond.fieldLink RX12 77 "SixBitBoardModel" "lineFrom" "[I" ∈ wsL_law := uin_10 _ (.tail _ (.tail _ (.tail _ (.tail _ (.tail _ (.tail _ (.tail _ (.tail _ (.tail _ (.tail _ (.tail _ (.head _))))))))))))
theorem m_8_4 : Cond.fieldLink RX12 80 "SixBitBoardModel" "lineTo" "[I" ∈ wsL_law := uin_10 _ (.tail _ (.tail _ (.tail _ (.tail _ (.tail _ (.tail _ (.tail _ (.tail _ (.tail _ (.tail _ (.tail _ (.tail _ (.head _)))))))))))))
theorem m_8_5 : Cond.fieldLink RX12 83 "SixBitBoardModel" "isPut" "[Z" ∈ wsL_law := uin_10 _ (.tail _ (.tail _ (.tail _ (.tail _ (.tail _ (.tail _ (.tail _ (.tail _ (.tail _ (.tail _ (.tail _ (.tail _ (.tail _ (.head _))))))))))))))
theorem m_8_6 : Cond.fieldLink RX12 86 "SixBitBoardModel" "firstPut" "[I" ∈ wsL_law := uin_10 _ (.tail _ (.tail _ (.tail _ (.tail _ (.tail _ (.tail _ (.tail _ (.tail _ (.tail _ (.tail _ (.tail _ (.tail _ (.tail _ (.tail _ (.head _)))))))))))))))
theorem m_8_7 : Cond.fieldLink RX12 89 "SixBitBoardModel" "symbolKey" "[J" ∈ wsL_law := uin_10 _ (.tail _ (.tail _ (.tail _ (.tail _ (.tail _ (.tail _ (.tail _ (.tail _ (.tail _ (.tail _ (.tail _ (.tail _ (.tail _ (.tail _ (.tail _ (.head _))))))))))))))))
theorem uin_11 : ∀ w ∈ uw_11, w ∈ wsL_law := fun w h => List.mem_append_left _ (List.mem_append_right _ (List.mem_append_right _ (List.mem_append_right _ (List.mem_append_right _ (List.mem_append_right _ (List.mem_append_right _ (List.mem_append_right _ (List.mem_append_right _ (List.mem_append_right _ (List.mem_append_right _ (List.mem_append_right _ (List.mem_append_left _ h))))))))))))
theorem m_8_8 : Cond.fieldLink RX12 92 "SixBitBoardModel" "symbolWord" "[I" ∈ wsL_law := uin_11 _ (.head _)
theorem m_8_9 : Cond.fieldLink RX12 95 "SixBitBoardModel" "isDefined" "[Z" ∈ wsL_law := uin_11 _ (.tail _ (.head _))
theorem m_8_10 : Cond.fieldLink RX12 98 "SixBitBoardModel" "useCount" "[I" ∈ wsL_law := uin_11 _ (.tail _ (.tail _ (.head _)))
theorem m_8_11 : Cond.fieldLink RX12 101 "SixBitBoardModel" "uses" "[I" ∈ wsL_law := uin_11 _ (.tail _ (.tail _ (.tail _ (.head _))))
theorem m_8_12 : Cond.fieldLink RX12 104 "SixBitBoardModel" "localWord" "[I" ∈ wsL_law := uin_11 _ (.tail _ (.tail _ (.tail _ (.tail _ (.head _)))))
theorem m_8_13 : Cond.fieldLink RX12 107 "SixBitBoardModel" "isLocal" "[Z" ∈ wsL_law := uin_11 _ (.tail _ (.tail _ (.tail _ (.tail _ (.tail _ (.head _))))))
theorem m_8_14 : Cond.fieldLink RX12 110 "SixBitBoardModel" "futureKind" "[I" ∈ wsL_law := uin_11 _ (.tail _ (.tail _ (.tail _ (.tail _ (.tail _ (.tail _ (.head _)))))))
theorem m_8_15 : Cond.fieldLink RX12 113 "SixBitBoardModel" "futureOf" "[I" ∈ wsL_law := uin_11 _ (.tail _ (.tail _ (.tail _ (.tail _ (.tail _ (.tail _ (.tail _ (.head _))))))))
theorem m_8_16 : Cond.fieldLink RX12 116 "SixBitBoardModel" "futureLine" "[I" ∈ wsL_law := uin_11 _ (.tail _ (.tail _ (.tail _ (.tail _ (.tail _ (.tail _ (.tail _ (.tail _ (.head _)))))))))
theorem m_8_17 : Cond.fieldLink RX12 119 "SixBitBoardModel" "futurePlace" "[I" ∈ wsL_law := uin_11 _ (.tail _ (.tail _ (.tail _ (.tail _ (.tail _ (.tail _ (.tail _ (.tail _ (.tail _ (.head _))))))))))
theorem m_8_18 : Cond.fieldLink RX12 122 "SixBitBoardModel" "futureWord" "[I" ∈ wsL_law := uin_11 _ (.tail _ (.tail _ (.tail _ (.tail _ (.tail _ (.tail _ (.tail _ (.tail _ (.tail _ (.tail _ (.head _)))))))))))
theorem m_8_19 : Cond.fieldLink RX12 125 "SixBitBoardModel" "hasWord" "[Z" ∈ wsL_law := uin_11 _ (.tail _ (.tail _ (.tail _ (.tail _ (.tail _ (.tail _ (.tail _ (.tail _ (.tail _ (.tail _ (.tail _ (.head _))))))))))))
theorem m_8_20 : Cond.fieldLink RX12 128 "SixBitBoardModel" "deckText" "[B" ∈ wsL_law := uin_11 _ (.tail _ (.tail _ (.tail _ (.tail _ (.tail _ (.tail _ (.tail _ (.tail _ (.tail _ (.tail _ (.tail _ (.tail _ (.head _)))))))))))))
theorem m_8_21 : Cond.fieldLink RX12 131 "SixBitBoardModel" "deckFrom" "[I" ∈ wsL_law := uin_11 _ (.tail _ (.tail _ (.tail _ (.tail _ (.tail _ (.tail _ (.tail _ (.tail _ (.tail _ (.tail _ (.tail _ (.tail _ (.tail _ (.head _))))))))))))))
theorem m_8_22 : Cond.fieldLink RX12 134 "SixBitBoardModel" "deckTo" "[I" ∈ wsL_law := uin_11 _ (.tail _ (.tail _ (.tail _ (.tail _ (.tail _ (.tail _ (.tail _ (.tail _ (.tail _ (.tail _ (.tail _ (.tail _ (.tail _ (.tail _ (.head _)))))))))))))))
theorem m_8_23 : Cond.fieldLink RX12 137 "SixBitBoardModel" "accountEnd" "[I" ∈ wsL_law := uin_11 _ (.tail _ (.tail _ (.tail _ (.tail _ (.tail _ (.tail _ (.tail _ (.tail _ (.tail _ (.tail _ (.tail _ (.tail _ (.tail _ (.tail _ (.tail _ (.head _))))))))))))))))
theorem uin_12 : ∀ w ∈ uw_12, w ∈ wsL_law := fun w h => List.mem_append_left _ (List.mem_append_right _ (List.mem_append_right _ (List.mem_append_right _ (List.mem_append_right _ (List.mem_append_right _ (List.mem_append_right _ (List.mem_append_right _ (List.mem_append_right _ (List.mem_append_right _ (List.mem_append_right _ (List.mem_append_right _ (List.mem_append_right _ (List.mem_append_left _ h)))))))))))))
theorem m_9_0 : Cond.fieldLink RX12 140 "SixBitBoardModel" "accountKind" "[I" ∈ wsL_law := uin_12 _ (.head _)
theorem m_9_1 : Cond.fieldLink RX12 143 "SixBitBoardModel" "accountPlace" "[I" ∈ wsL_law := uin_12 _ (.tail _ (.head _))
theorem m_9_2 : Cond.fieldLink RX12 146 "SixBitBoardModel" "accountTime" "[I" ∈ wsL_law := uin_12 _ (.tail _ (.tail _ (.head _)))
theorem m_9_3 : Cond.fieldLink RX12 149 "SixBitBoardModel" "image" "[I" ∈ wsL_law := uin_12 _ (.tail _ (.tail _ (.tail _ (.head _))))
theorem m_9_4 : Cond.fieldLink RX12 152 "SixBitBoardModel" "isLate" "[Z" ∈ wsL_law := uin_12 _ (.tail _ (.tail _ (.tail _ (.tail _ (.head _)))))
theorem m_9_5 : Cond.methodLink RL 30 yX11_feed ∈ wsL_law := uin_12 _ (.tail _ (.tail _ (.tail _ (.tail _ (.tail _ (.head _))))))
theorem m_9_6 : Cond.instanceMethod yX11_feed ∈ wsL_law := uin_12 _ (.tail _ (.tail _ (.tail _ (.tail _ (.tail _ (.tail _ (.head _)))))))
theorem m_9_7 : Cond.selects RX11 yX11_feed yX11_feed ∈ wsL_law := uin_12 _ (.tail _ (.tail _ (.tail _ (.tail _ (.tail _ (.tail _ (.tail _ (.head _))))))))
theorem m_9_8 : Cond.code yX11_feed cX11_feed 6 (some .boolean) ∈ wsL_law := uin_12 _ (.tail _ (.tail _ (.tail _ (.tail _ (.tail _ (.tail _ (.tail _ (.tail _ (.head _)))))))))
theorem m_9_9 : Cond.fieldLink RX11 70 "SixBitBoard" "fed" "I" ∈ wsL_law := uin_12 _ (.tail _ (.tail _ (.tail _ (.tail _ (.tail _ (.tail _ (.tail _ (.tail _ (.tail _ (.head _))))))))))
theorem m_9_10 : Cond.methodLink RX11 74 yX11_punchTape ∈ wsL_law := uin_12 _ (.tail _ (.tail _ (.tail _ (.tail _ (.tail _ (.tail _ (.tail _ (.tail _ (.tail _ (.tail _ (.head _)))))))))))
theorem m_9_11 : Cond.instanceMethod yX11_punchTape ∈ wsL_law := uin_12 _ (.tail _ (.tail _ (.tail _ (.tail _ (.tail _ (.tail _ (.tail _ (.tail _ (.tail _ (.tail _ (.tail _ (.head _))))))))))))
theorem m_9_12 : Cond.selects RX11 yX11_punchTape yX11_punchTape ∈ wsL_law := uin_12 _ (.tail _ (.tail _ (.tail _ (.tail _ (.tail _ (.tail _ (.tail _ (.tail _ (.tail _ (.tail _ (.tail _ (.tail _ (.head _)))))))))))))
theorem m_9_13 : Cond.code yX11_punchTape cX11_punchTape 3 none ∈ wsL_law := uin_12 _ (.tail _ (.tail _ (.tail _ (.tail _ (.tail _ (.tail _ (.tail _ (.tail _ (.tail _ (.tail _ (.tail _ (.tail _ (.tail _ (.head _))))))))))))))
theorem m_9_14 : Cond.methodLink RL 34 yX12_feed ∈ wsL_law := uin_12 _ (.tail _ (.tail _ (.tail _ (.tail _ (.tail _ (.tail _ (.tail _ (.tail _ (.tail _ (.tail _ (.tail _ (.tail _ (.tail _ (.tail _ (.head _)))))))))))))))
theorem m_9_15 : Cond.instanceMethod yX12_feed ∈ wsL_law := uin_12 _ (.tail _ (.tail _ (.tail _ (.tail _ (.tail _ (.tail _ (.tail _ (.tail _ (.tail _ (.tail _ (.tail _ (.tail _ (.tail _ (.tail _ (.tail _ (.head _))))))))))))))))
theorem uin_13 : ∀ w ∈ uw_13, w ∈ wsL_law := fun w h => List.mem_append_left _ (List.mem_append_right _ (List.mem_append_right _ (List.mem_append_right _ (List.mem_append_right _ (List.mem_append_right _ (List.mem_append_right _ (List.mem_append_right _ (List.mem_append_right _ (List.mem_append_right _ (List.mem_append_right _ (List.mem_append_right _ (List.mem_append_right _ (List.mem_append_right _ (List.mem_append_left _ h))))))))))))))
theorem m_9_16 : Cond.selects RX12 yX12_feed yX12_feed ∈ wsL_law := uin_13 _ (.head _)
theorem m_9_17 : Cond.code yX12_feed cX12_feed 6 (some .boolean) ∈ wsL_law := uin_13 _ (.tail _ (.head _))
theorem m_9_18 : Cond.fieldLink RX12 155 "SixBitBoardModel" "thrown" "I" ∈ wsL_law := uin_13 _ (.tail _ (.tail _ (.head _)))
theorem m_9_19 : Cond.fieldLink RX12 176 "SixBitBoardModel" "tapeSize" "I" ∈ wsL_law := uin_13 _ (.tail _ (.tail _ (.tail _ (.head _))))
theorem m_9_20 : Cond.methodLink RX12 179 yX12_lay ∈ wsL_law := uin_13 _ (.tail _ (.tail _ (.tail _ (.tail _ (.head _)))))
theorem m_9_21 : Cond.instanceMethod yX12_lay ∈ wsL_law := uin_13 _ (.tail _ (.tail _ (.tail _ (.tail _ (.tail _ (.head _))))))
theorem m_9_22 : Cond.selects RX12 yX12_lay yX12_lay ∈ wsL_law := uin_13 _ (.tail _ (.tail _ (.tail _ (.tail _ (.tail _ (.tail _ (.head _)))))))
theorem m_9_23 : Cond.code yX12_lay cX12_lay 3 none ∈ wsL_law := uin_13 _ (.tail _ (.tail _ (.tail _ (.tail _ (.tail _ (.tail _ (.tail _ (.head _))))))))
theorem m_10_0 : Cond.methodLink RL 35 yX11_end ∈ wsL_law := uin_13 _ (.tail _ (.tail _ (.tail _ (.tail _ (.tail _ (.tail _ (.tail _ (.tail _ (.head _)))))))))
theorem m_10_1 : Cond.instanceMethod yX11_end ∈ wsL_law := uin_13 _ (.tail _ (.tail _ (.tail _ (.tail _ (.tail _ (.tail _ (.tail _ (.tail _ (.tail _ (.head _))))))))))
theorem m_10_2 : Cond.selects RX11 yX11_end yX11_end ∈ wsL_law := uin_13 _ (.tail _ (.tail _ (.tail _ (.tail _ (.tail _ (.tail _ (.tail _ (.tail _ (.tail _ (.tail _ (.head _)))))))))))
theorem m_10_3 : Cond.code yX11_end cX11_end 2 (some .boolean) ∈ wsL_law := uin_13 _ (.tail _ (.tail _ (.tail _ (.tail _ (.tail _ (.tail _ (.tail _ (.tail _ (.tail _ (.tail _ (.tail _ (.head _))))))))))))
theorem m_10_4 : Cond.methodLink RL 39 yX12_end ∈ wsL_law := uin_13 _ (.tail _ (.tail _ (.tail _ (.tail _ (.tail _ (.tail _ (.tail _ (.tail _ (.tail _ (.tail _ (.tail _ (.tail _ (.head _)))))))))))))
theorem m_10_5 : Cond.instanceMethod yX12_end ∈ wsL_law := uin_13 _ (.tail _ (.tail _ (.tail _ (.tail _ (.tail _ (.tail _ (.tail _ (.tail _ (.tail _ (.tail _ (.tail _ (.tail _ (.tail _ (.head _))))))))))))))
theorem m_10_6 : Cond.selects RX12 yX12_end yX12_end ∈ wsL_law := uin_13 _ (.tail _ (.tail _ (.tail _ (.tail _ (.tail _ (.tail _ (.tail _ (.tail _ (.tail _ (.tail _ (.tail _ (.tail _ (.tail _ (.tail _ (.head _)))))))))))))))
theorem m_10_7 : Cond.code yX12_end cX12_end 2 (some .boolean) ∈ wsL_law := uin_13 _ (.tail _ (.tail _ (.tail _ (.tail _ (.tail _ (.tail _ (.tail _ (.tail _ (.tail _ (.tail _ (.tail _ (.tail _ (.tail _ (.tail _ (.tail _ (.head _))))))))))))))))
theorem uin_14 : ∀ w ∈ uw_14, w ∈ wsL_law := fun w h => List.mem_append_left _ (List.mem_append_right _ (List.mem_append_right _ (List.mem_append_right _ (List.mem_append_right _ (List.mem_append_right _ (List.mem_append_right _ (List.mem_append_right _ (List.mem_append_right _ (List.mem_append_right _ (List.mem_append_right _ (List.mem_append_right _ (List.mem_append_right _ (List.mem_append_right _ (List.mem_append_right _ (List.mem_append_left _ h)))))))))))))))
theorem m_10_8 : Cond.methodLink RL 40 yX11_assemble ∈ wsL_law := uin_14 _ (.head _)
theorem m_10_9 : Cond.instanceMethod yX11_assemble ∈ wsL_law := uin_14 _ (.tail _ (.head _))
theorem m_10_10 : Cond.selects RX11 yX11_assemble yX11_assemble ∈ wsL_law := uin_14 _ (.tail _ (.tail _ (.head _)))
theorem m_10_11 : Cond.code yX11_assemble cX11_assemble 3 (some .int) ∈ wsL_law := uin_14 _ (.tail _ (.tail _ (.tail _ (.head _))))
theorem m_10_12 : Cond.fieldLink RX11 82 "SixBitBoard$Text" "bytes" "[B" ∈ wsL_law := uin_14 _ (.tail _ (.tail _ (.tail _ (.tail _ (.head _)))))
theorem m_10_13 : Cond.methodLink RX11 85 arraycopyName ∈ wsL_law := uin_14 _ (.tail _ (.tail _ (.tail _ (.tail _ (.tail _ (.head _))))))
theorem m_10_14 : Cond.native arraycopyName ∈ wsL_law := uin_14 _ (.tail _ (.tail _ (.tail _ (.tail _ (.tail _ (.tail _ (.head _)))))))
theorem m_10_15 : Cond.static arraycopyName ∈ wsL_law := uin_14 _ (.tail _ (.tail _ (.tail _ (.tail _ (.tail _ (.tail _ (.tail _ (.head _))))))))
theorem m_10_16 : Cond.initialized "java/lang/System" ∈ wsL_law := uin_14 _ (.tail _ (.tail _ (.tail _ (.tail _ (.tail _ (.tail _ (.tail _ (.tail _ (.head _)))))))))
theorem m_10_17 : Cond.fieldLink RX11 104 "SixBitBoard$Text" "line" "I" ∈ wsL_law := uin_14 _ (.tail _ (.tail _ (.tail _ (.tail _ (.tail _ (.tail _ (.tail _ (.tail _ (.tail _ (.head _))))))))))
theorem m_10_20 : Cond.methodLink RX11 78 yX11_useUpTape ∈ wsL_law := uin_14 _ (.tail _ (.tail _ (.tail _ (.tail _ (.tail _ (.tail _ (.tail _ (.tail _ (.tail _ (.tail _ (.head _)))))))))))
theorem m_10_21 : Cond.instanceMethod yX11_useUpTape ∈ wsL_law := uin_14 _ (.tail _ (.tail _ (.tail _ (.tail _ (.tail _ (.tail _ (.tail _ (.tail _ (.tail _ (.tail _ (.tail _ (.head _))))))))))))
theorem m_10_22 : Cond.selects RX11 yX11_useUpTape yX11_useUpTape ∈ wsL_law := uin_14 _ (.tail _ (.tail _ (.tail _ (.tail _ (.tail _ (.tail _ (.tail _ (.tail _ (.tail _ (.tail _ (.tail _ (.tail _ (.head _)))))))))))))
theorem m_10_23 : Cond.code yX11_useUpTape cX11_useUpTape 2 (some .int) ∈ wsL_law := uin_14 _ (.tail _ (.tail _ (.tail _ (.tail _ (.tail _ (.tail _ (.tail _ (.tail _ (.tail _ (.tail _ (.tail _ (.tail _ (.tail _ (.head _))))))))))))))
theorem m_11_0 : Cond.methodLink RX11 91 yX2_clear ∈ wsL_law := uin_14 _ (.tail _ (.tail _ (.tail _ (.tail _ (.tail _ (.tail _ (.tail _ (.tail _ (.tail _ (.tail _ (.tail _ (.tail _ (.tail _ (.tail _ (.head _)))))))))))))))
theorem m_11_1 : Cond.instanceMethod yX2_clear ∈ wsL_law := uin_14 _ (.tail _ (.tail _ (.tail _ (.tail _ (.tail _ (.tail _ (.tail _ (.tail _ (.tail _ (.tail _ (.tail _ (.tail _ (.tail _ (.tail _ (.tail _ (.head _))))))))))))))))
theorem uin_15 : ∀ w ∈ uw_15, w ∈ wsL_law := fun w h => List.mem_append_left _ (List.mem_append_right _ (List.mem_append_right _ (List.mem_append_right _ (List.mem_append_right _ (List.mem_append_right _ (List.mem_append_right _ (List.mem_append_right _ (List.mem_append_right _ (List.mem_append_right _ (List.mem_append_right _ (List.mem_append_right _ (List.mem_append_right _ (List.mem_append_right _ (List.mem_append_right _ (List.mem_append_right _ (List.mem_append_left _ h))))))))))))))))
theorem m_11_2 : Cond.selects RX2 yX2_clear yX2_clear ∈ wsL_law := uin_15 _ (.head _)
theorem m_11_3 : Cond.code yX2_clear cX2_clear 1 none ∈ wsL_law := uin_15 _ (.tail _ (.head _))
theorem m_11_4 : Cond.fieldLink RX2 37 "SixBitBoard$Machine" "overflow" "Z" ∈ wsL_law := uin_15 _ (.tail _ (.tail _ (.head _)))
theorem m_11_5 : Cond.fieldLink RX2 41 "SixBitBoard$Machine" "comparison" "I" ∈ wsL_law := uin_15 _ (.tail _ (.tail _ (.tail _ (.head _))))
theorem m_11_6 : Cond.fieldLink RX2 44 "SixBitBoard$Machine" "counter" "I" ∈ wsL_law := uin_15 _ (.tail _ (.tail _ (.tail _ (.tail _ (.head _)))))
theorem m_11_7 : Cond.fieldLink RX2 47 "SixBitBoard$Machine" "time" "J" ∈ wsL_law := uin_15 _ (.tail _ (.tail _ (.tail _ (.tail _ (.tail _ (.head _))))))
theorem m_11_8 : Cond.fieldLink RX2 51 "SixBitBoard$Machine" "watched" "Z" ∈ wsL_law := uin_15 _ (.tail _ (.tail _ (.tail _ (.tail _ (.tail _ (.tail _ (.head _)))))))
theorem m_11_9 : Cond.fieldLink RX2 54 "SixBitBoard$Machine" "control" "Z" ∈ wsL_law := uin_15 _ (.tail _ (.tail _ (.tail _ (.tail _ (.tail _ (.tail _ (.tail _ (.head _))))))))
theorem m_11_10 : Cond.methodLink RX2 26 yJ7_fill_53178 ∈ wsL_law := uin_15 _ (.tail _ (.tail _ (.tail _ (.tail _ (.tail _ (.tail _ (.tail _ (.tail _ (.head _)))))))))
theorem m_11_11 : Cond.static yJ7_fill_53178 ∈ wsL_law := uin_15 _ (.tail _ (.tail _ (.tail _ (.tail _ (.tail _ (.tail _ (.tail _ (.tail _ (.tail _ (.head _))))))))))
theorem m_11_12 : Cond.initialized RJ7 ∈ wsL_law := uin_15 _ (.tail _ (.tail _ (.tail _ (.tail _ (.tail _ (.tail _ (.tail _ (.tail _ (.tail _ (.tail _ (.head _)))))))))))
theorem m_11_13 : Cond.code yJ7_fill_53178 cJ7_fill_53178 4 none ∈ wsL_law := uin_15 _ (.tail _ (.tail _ (.tail _ (.tail _ (.tail _ (.tail _ (.tail _ (.tail _ (.tail _ (.tail _ (.tail _ (.head _))))))))))))
theorem m_11_14 : Cond.methodLink RX2 32 yX10_free ∈ wsL_law := uin_15 _ (.tail _ (.tail _ (.tail _ (.tail _ (.tail _ (.tail _ (.tail _ (.tail _ (.tail _ (.tail _ (.tail _ (.tail _ (.head _)))))))))))))
theorem m_11_15 : Cond.instanceMethod yX10_free ∈ wsL_law := uin_15 _ (.tail _ (.tail _ (.tail _ (.tail _ (.tail _ (.tail _ (.tail _ (.tail _ (.tail _ (.tail _ (.tail _ (.tail _ (.tail _ (.head _))))))))))))))
theorem m_11_16 : Cond.selects RX10 yX10_free yX10_free ∈ wsL_law := uin_15 _ (.tail _ (.tail _ (.tail _ (.tail _ (.tail _ (.tail _ (.tail _ (.tail _ (.tail _ (.tail _ (.tail _ (.tail _ (.tail _ (.tail _ (.head _)))))))))))))))
theorem m_11_17 : Cond.code yX10_free cX10_free 2 none ∈ wsL_law := uin_15 _ (.tail _ (.tail _ (.tail _ (.tail _ (.tail _ (.tail _ (.tail _ (.tail _ (.tail _ (.tail _ (.tail _ (.tail _ (.tail _ (.tail _ (.tail _ (.head _))))))))))))))))
theorem uin_16 : ∀ w ∈ uw_16, w ∈ wsL_law := fun w h => List.mem_append_left _ (List.mem_append_right _ (List.mem_append_right _ (List.mem_append_right _ (List.mem_append_right _ (List.mem_append_right _ (List.mem_append_right _ (List.mem_append_right _ (List.mem_append_right _ (List.mem_append_right _ (List.mem_append_right _ (List.mem_append_right _ (List.mem_append_right _ (List.mem_append_right _ (List.mem_append_right _ (List.mem_append_right _ (List.mem_append_right _ (List.mem_append_left _ h)))))))))))))))))
theorem m_11_18 : Cond.fieldLink RX10 66 "SixBitBoard$Units" "under" "I" ∈ wsL_law := uin_16 _ (.head _)
theorem m_11_19 : Cond.methodLink RX10 60 yJ7_fill_d0a16 ∈ wsL_law := uin_16 _ (.tail _ (.head _))
theorem m_11_20 : Cond.static yJ7_fill_d0a16 ∈ wsL_law := uin_16 _ (.tail _ (.tail _ (.head _)))
theorem m_11_21 : Cond.code yJ7_fill_d0a16 cJ7_fill_d0a16 5 none ∈ wsL_law := uin_16 _ (.tail _ (.tail _ (.tail _ (.head _))))
theorem m_11_22 : Cond.methodLink RX11 94 yX0_open ∈ wsL_law := uin_16 _ (.tail _ (.tail _ (.tail _ (.tail _ (.head _)))))
theorem m_11_23 : Cond.instanceMethod yX0_open ∈ wsL_law := uin_16 _ (.tail _ (.tail _ (.tail _ (.tail _ (.tail _ (.head _))))))
theorem m_12_0 : Cond.selects RX0 yX0_open yX0_open ∈ wsL_law := uin_16 _ (.tail _ (.tail _ (.tail _ (.tail _ (.tail _ (.tail _ (.head _)))))))
theorem m_12_1 : Cond.code yX0_open cX0_open 4 none ∈ wsL_law := uin_16 _ (.tail _ (.tail _ (.tail _ (.tail _ (.tail _ (.tail _ (.tail _ (.head _))))))))
theorem m_12_2 : Cond.fieldLink RX0 66 "SixBitBoard$Assembler" "puts" "I" ∈ wsL_law := uin_16 _ (.tail _ (.tail _ (.tail _ (.tail _ (.tail _ (.tail _ (.tail _ (.tail _ (.head _)))))))))
theorem m_12_3 : Cond.fieldLink RX0 70 "SixBitBoard$Assembler" "location" "I" ∈ wsL_law := uin_16 _ (.tail _ (.tail _ (.tail _ (.tail _ (.tail _ (.tail _ (.tail _ (.tail _ (.tail _ (.head _))))))))))
theorem m_12_4 : Cond.fieldLink RX0 75 "SixBitBoard$Assembler" "lowest" "I" ∈ wsL_law := uin_16 _ (.tail _ (.tail _ (.tail _ (.tail _ (.tail _ (.tail _ (.tail _ (.tail _ (.tail _ (.tail _ (.head _)))))))))))
theorem m_12_5 : Cond.fieldLink RX0 78 "SixBitBoard$Assembler" "lines" "I" ∈ wsL_law := uin_16 _ (.tail _ (.tail _ (.tail _ (.tail _ (.tail _ (.tail _ (.tail _ (.tail _ (.tail _ (.tail _ (.tail _ (.head _))))))))))))
theorem m_12_6 : Cond.fieldLink RX0 81 "SixBitBoard$Assembler" "words" "I" ∈ wsL_law := uin_16 _ (.tail _ (.tail _ (.tail _ (.tail _ (.tail _ (.tail _ (.tail _ (.tail _ (.tail _ (.tail _ (.tail _ (.tail _ (.head _)))))))))))))
theorem m_12_7 : Cond.fieldLink RX0 84 "SixBitBoard$Assembler" "start" "I" ∈ wsL_law := uin_16 _ (.tail _ (.tail _ (.tail _ (.tail _ (.tail _ (.tail _ (.tail _ (.tail _ (.tail _ (.tail _ (.tail _ (.tail _ (.tail _ (.head _))))))))))))))
theorem m_12_8 : Cond.fieldLink RX0 87 "SixBitBoard$Assembler" "whole" "Z" ∈ wsL_law := uin_16 _ (.tail _ (.tail _ (.tail _ (.tail _ (.tail _ (.tail _ (.tail _ (.tail _ (.tail _ (.tail _ (.tail _ (.tail _ (.tail _ (.tail _ (.head _)))))))))))))))
theorem m_12_9 : Cond.methodLink RX0 51 yX9_open ∈ wsL_law := uin_16 _ (.tail _ (.tail _ (.tail _ (.tail _ (.tail _ (.tail _ (.tail _ (.tail _ (.tail _ (.tail _ (.tail _ (.tail _ (.tail _ (.tail _ (.tail _ (.head _))))))))))))))))
theorem uin_17 : ∀ w ∈ uw_17, w ∈ wsL_law := fun w h => List.mem_append_left _ (List.mem_append_right _ (List.mem_append_right _ (List.mem_append_right _ (List.mem_append_right _ (List.mem_append_right _ (List.mem_append_right _ (List.mem_append_right _ (List.mem_append_right _ (List.mem_append_right _ (List.mem_append_right _ (List.mem_append_right _ (List.mem_append_right _ (List.mem_append_right _ (List.mem_append_right _ (List.mem_append_right _ (List.mem_append_right _ (List.mem_append_right _ (List.mem_append_left _ h))))))))))))))))))
theorem m_12_10 : Cond.instanceMethod yX9_open ∈ wsL_law := uin_17 _ (.head _)
theorem m_12_11 : Cond.selects RX9 yX9_open yX9_open ∈ wsL_law := uin_17 _ (.tail _ (.head _))
theorem m_12_12 : Cond.code yX9_open cX9_open 3 none ∈ wsL_law := uin_17 _ (.tail _ (.tail _ (.head _)))
theorem m_12_13 : Cond.methodLink RX9 18 Lib.Math.max.name ∈ wsL_law := uin_17 _ (.tail _ (.tail _ (.tail _ (.head _))))
theorem m_12_14 : Cond.static Lib.Math.max.name ∈ wsL_law := uin_17 _ (.tail _ (.tail _ (.tail _ (.tail _ (.head _)))))
theorem m_12_15 : Cond.initialized "java/lang/Math" ∈ wsL_law := uin_17 _ (.tail _ (.tail _ (.tail _ (.tail _ (.tail _ (.head _))))))
theorem m_12_16 : Cond.code Lib.Math.max.name Lib.Math.max.code 2 (some .int) ∈ wsL_law := uin_17 _ (.tail _ (.tail _ (.tail _ (.tail _ (.tail _ (.tail _ (.head _)))))))
theorem m_12_17 : Cond.fieldLink RX9 24 "SixBitBoard$Text" "first" "I" ∈ wsL_law := uin_17 _ (.tail _ (.tail _ (.tail _ (.tail _ (.tail _ (.tail _ (.tail _ (.head _))))))))
theorem m_12_18 : Cond.methodLink RX9 28 Lib.Math.min.name ∈ wsL_law := uin_17 _ (.tail _ (.tail _ (.tail _ (.tail _ (.tail _ (.tail _ (.tail _ (.tail _ (.head _)))))))))
theorem m_12_19 : Cond.static Lib.Math.min.name ∈ wsL_law := uin_17 _ (.tail _ (.tail _ (.tail _ (.tail _ (.tail _ (.tail _ (.tail _ (.tail _ (.tail _ (.head _))))))))))
theorem m_12_20 : Cond.code Lib.Math.min.name Lib.Math.min.code 2 (some .int) ∈ wsL_law := uin_17 _ (.tail _ (.tail _ (.tail _ (.tail _ (.tail _ (.tail _ (.tail _ (.tail _ (.tail _ (.tail _ (.head _)))))))))))
theorem m_12_21 : Cond.fieldLink RX9 31 "SixBitBoard$Text" "limit" "I" ∈ wsL_law := uin_17 _ (.tail _ (.tail _ (.tail _ (.tail _ (.tail _ (.tail _ (.tail _ (.tail _ (.tail _ (.tail _ (.tail _ (.head _))))))))))))
theorem m_12_22 : Cond.methodLink RX9 34 yX9_reopen ∈ wsL_law := uin_17 _ (.tail _ (.tail _ (.tail _ (.tail _ (.tail _ (.tail _ (.tail _ (.tail _ (.tail _ (.tail _ (.tail _ (.tail _ (.head _)))))))))))))
theorem m_12_23 : Cond.instanceMethod yX9_reopen ∈ wsL_law := uin_17 _ (.tail _ (.tail _ (.tail _ (.tail _ (.tail _ (.tail _ (.tail _ (.tail _ (.tail _ (.tail _ (.tail _ (.tail _ (.tail _ (.head _))))))))))))))
theorem m_13_0 : Cond.selects RX9 yX9_reopen yX9_reopen ∈ wsL_law := uin_17 _ (.tail _ (.tail _ (.tail _ (.tail _ (.tail _ (.tail _ (.tail _ (.tail _ (.tail _ (.tail _ (.tail _ (.tail _ (.tail _ (.tail _ (.head _)))))))))))))))
theorem m_13_1 : Cond.code yX9_reopen cX9_reopen 1 none ∈ wsL_law := uin_17 _ (.tail _ (.tail _ (.tail _ (.tail _ (.tail _ (.tail _ (.tail _ (.tail _ (.tail _ (.tail _ (.tail _ (.tail _ (.tail _ (.tail _ (.tail _ (.head _))))))))))))))))
theorem uin_18 : ∀ w ∈ uw_18, w ∈ wsL_law := fun w h => List.mem_append_left _ (List.mem_append_right _ (List.mem_append_right _ (List.mem_append_right _ (List.mem_append_right _ (List.mem_append_right _ (List.mem_append_right _ (List.mem_append_right _ (List.mem_append_right _ (List.mem_append_right _ (List.mem_append_right _ (List.mem_append_right _ (List.mem_append_right _ (List.mem_append_right _ (List.mem_append_right _ (List.mem_append_right _ (List.mem_append_right _ (List.mem_append_right _ (List.mem_append_right _ (List.mem_append_left _ h)))))))))))))))))))
theorem m_13_2 : Cond.fieldLink RX9 37 "SixBitBoard$Text" "next" "I" ∈ wsL_law := uin_18 _ (.head _)
theorem m_13_3 : Cond.fieldLink RX9 40 "SixBitBoard$Text" "line" "I" ∈ wsL_law := uin_18 _ (.tail _ (.head _))
theorem m_13_4 : Cond.methodLink RX0 55 yX8_clear ∈ wsL_law := uin_18 _ (.tail _ (.tail _ (.head _)))
theorem m_13_5 : Cond.instanceMethod yX8_clear ∈ wsL_law := uin_18 _ (.tail _ (.tail _ (.tail _ (.head _))))
theorem m_13_6 : Cond.selects RX8 yX8_clear yX8_clear ∈ wsL_law := uin_18 _ (.tail _ (.tail _ (.tail _ (.tail _ (.head _)))))
theorem m_13_7 : Cond.code yX8_clear cX8_clear 2 none ∈ wsL_law := uin_18 _ (.tail _ (.tail _ (.tail _ (.tail _ (.tail _ (.head _))))))
theorem m_13_8 : Cond.fieldLink RX8 44 "SixBitBoard$Symbols" "count" "I" ∈ wsL_law := uin_18 _ (.tail _ (.tail _ (.tail _ (.tail _ (.tail _ (.tail _ (.head _)))))))
theorem m_13_9 : Cond.fieldLink RX8 48 "SixBitBoard$Symbols" "reads" "I" ∈ wsL_law := uin_18 _ (.tail _ (.tail _ (.tail _ (.tail _ (.tail _ (.tail _ (.tail _ (.head _))))))))
theorem m_13_10 : Cond.fieldLink RX8 51 "SixBitBoard$Symbols" "uses" "I" ∈ wsL_law := uin_18 _ (.tail _ (.tail _ (.tail _ (.tail _ (.tail _ (.tail _ (.tail _ (.tail _ (.head _)))))))))
theorem m_13_11 : Cond.methodLink RX0 60 yJ7_fill_d0a16 ∈ wsL_law := uin_18 _ (.tail _ (.tail _ (.tail _ (.tail _ (.tail _ (.tail _ (.tail _ (.tail _ (.tail _ (.head _))))))))))
theorem m_13_12 : Cond.methodLink RX11 98 yX0_nextWrong ∈ wsL_law := uin_18 _ (.tail _ (.tail _ (.tail _ (.tail _ (.tail _ (.tail _ (.tail _ (.tail _ (.tail _ (.tail _ (.head _)))))))))))
theorem m_13_13 : Cond.instanceMethod yX0_nextWrong ∈ wsL_law := uin_18 _ (.tail _ (.tail _ (.tail _ (.tail _ (.tail _ (.tail _ (.tail _ (.tail _ (.tail _ (.tail _ (.tail _ (.head _))))))))))))
theorem m_13_14 : Cond.selects RX0 yX0_nextWrong yX0_nextWrong ∈ wsL_law := uin_18 _ (.tail _ (.tail _ (.tail _ (.tail _ (.tail _ (.tail _ (.tail _ (.tail _ (.tail _ (.tail _ (.tail _ (.tail _ (.head _)))))))))))))
theorem m_13_15 : Cond.code yX0_nextWrong cX0_nextWrong 3 (some .int) ∈ wsL_law := uin_18 _ (.tail _ (.tail _ (.tail _ (.tail _ (.tail _ (.tail _ (.tail _ (.tail _ (.tail _ (.tail _ (.tail _ (.tail _ (.tail _ (.head _))))))))))))))
theorem m_13_16 : Cond.fieldLink RX0 98 "SixBitBoard$Text" "line" "I" ∈ wsL_law := uin_18 _ (.tail _ (.tail _ (.tail _ (.tail _ (.tail _ (.tail _ (.tail _ (.tail _ (.tail _ (.tail _ (.tail _ (.tail _ (.tail _ (.tail _ (.head _)))))))))))))))
theorem m_13_18 : Cond.methodLink RX0 94 yX9_advance ∈ wsL_law := uin_18 _ (.tail _ (.tail _ (.tail _ (.tail _ (.tail _ (.tail _ (.tail _ (.tail _ (.tail _ (.tail _ (.tail _ (.tail _ (.tail _ (.tail _ (.tail _ (.head _))))))))))))))))
theorem uin_19 : ∀ w ∈ uw_19, w ∈ wsL_law := fun w h => List.mem_append_left _ (List.mem_append_right _ (List.mem_append_right _ (List.mem_append_right _ (List.mem_append_right _ (List.mem_append_right _ (List.mem_append_right _ (List.mem_append_right _ (List.mem_append_right _ (List.mem_append_right _ (List.mem_append_right _ (List.mem_append_right _ (List.mem_append_right _ (List.mem_append_right _ (List.mem_append_right _ (List.mem_append_right _ (List.mem_append_right _ (List.mem_append_right _ (List.mem_append_right _ (List.mem_append_right _ (List.mem_append_left _ h))))))))))))))))))))
theorem m_13_19 : Cond.instanceMethod yX9_advance ∈ wsL_law := uin_19 _ (.head _)
theorem m_13_20 : Cond.selects RX9 yX9_advance yX9_advance ∈ wsL_law := uin_19 _ (.tail _ (.head _))
theorem m_13_21 : Cond.code yX9_advance cX9_advance 3 (some .boolean) ∈ wsL_law := uin_19 _ (.tail _ (.tail _ (.head _)))
theorem m_14_2 : Cond.initialized RX1 ∈ wsL_law := uin_19 _ (.tail _ (.tail _ (.tail _ (.head _))))
theorem m_14_8 : Cond.initialized RJ0 ∈ wsL_law := uin_19 _ (.tail _ (.tail _ (.tail _ (.tail _ (.head _)))))
theorem m_15_7 : Cond.initialized RJ1 ∈ wsL_law := uin_19 _ (.tail _ (.tail _ (.tail _ (.tail _ (.tail _ (.head _))))))
theorem m_15_19 : Cond.initialized RJ2 ∈ wsL_law := uin_19 _ (.tail _ (.tail _ (.tail _ (.tail _ (.tail _ (.tail _ (.head _)))))))
theorem m_16_15 : Cond.initialized RJ3 ∈ wsL_law := uin_19 _ (.tail _ (.tail _ (.tail _ (.tail _ (.tail _ (.tail _ (.tail _ (.head _))))))))
theorem m_17_7 : Cond.initialized RJ11 ∈ wsL_law := uin_19 _ (.tail _ (.tail _ (.tail _ (.tail _ (.tail _ (.tail _ (.tail _ (.tail _ (.head _)))))))))
theorem m_22_17 : Cond.constant RX1 11 (1073741824) ∈ wsL_law := uin_19 _ (.tail _ (.tail _ (.tail _ (.tail _ (.tail _ (.tail _ (.tail _ (.tail _ (.tail _ (.head _))))))))))
theorem m_23_9 : Cond.static yX1_value ∈ wsL_law := uin_19 _ (.tail _ (.tail _ (.tail _ (.tail _ (.tail _ (.tail _ (.tail _ (.tail _ (.tail _ (.tail _ (.head _)))))))))))
theorem m_23_10 : Cond.code yX1_value cX1_value 1 (some .int) ∈ wsL_law := uin_19 _ (.tail _ (.tail _ (.tail _ (.tail _ (.tail _ (.tail _ (.tail _ (.tail _ (.tail _ (.tail _ (.tail _ (.head _))))))))))))
theorem m_23_11 : Cond.constant RX1 12 (1073741823) ∈ wsL_law := uin_19 _ (.tail _ (.tail _ (.tail _ (.tail _ (.tail _ (.tail _ (.tail _ (.tail _ (.tail _ (.tail _ (.tail _ (.tail _ (.head _)))))))))))))
theorem m_28_7 : Cond.methodLink RX11 101 yX0_close ∈ wsL_law := uin_19 _ (.tail _ (.tail _ (.tail _ (.tail _ (.tail _ (.tail _ (.tail _ (.tail _ (.tail _ (.tail _ (.tail _ (.tail _ (.tail _ (.head _))))))))))))))
theorem m_28_8 : Cond.instanceMethod yX0_close ∈ wsL_law := uin_19 _ (.tail _ (.tail _ (.tail _ (.tail _ (.tail _ (.tail _ (.tail _ (.tail _ (.tail _ (.tail _ (.tail _ (.tail _ (.tail _ (.tail _ (.head _)))))))))))))))
theorem m_28_9 : Cond.selects RX0 yX0_close yX0_close ∈ wsL_law := uin_19 _ (.tail _ (.tail _ (.tail _ (.tail _ (.tail _ (.tail _ (.tail _ (.tail _ (.tail _ (.tail _ (.tail _ (.tail _ (.tail _ (.tail _ (.tail _ (.head _))))))))))))))))
theorem uin_20 : ∀ w ∈ uw_20, w ∈ wsL_law := fun w h => List.mem_append_left _ (List.mem_append_right _ (List.mem_append_right _ (List.mem_append_right _ (List.mem_append_right _ (List.mem_append_right _ (List.mem_append_right _ (List.mem_append_right _ (List.mem_append_right _ (List.mem_append_right _ (List.mem_append_right _ (List.mem_append_right _ (List.mem_append_right _ (List.mem_append_right _ (List.mem_append_right _ (List.mem_append_right _ (List.mem_append_right _ (List.mem_append_right _ (List.mem_append_right _ (List.mem_append_right _ (List.mem_append_right _ (List.mem_append_left _ h)))))))))))))))))))))
theorem m_28_10 : Cond.code yX0_close cX0_close 2 none ∈ wsL_law := uin_20 _ (.head _)
theorem m_28_11 : Cond.fieldLink RX0 91 "SixBitBoard$Assembler" "kind" "I" ∈ wsL_law := uin_20 _ (.tail _ (.head _))
theorem m_28_18 : Cond.methodLink RL 43 yX12_assemble ∈ wsL_law := uin_20 _ (.tail _ (.tail _ (.head _)))
theorem m_28_19 : Cond.instanceMethod yX12_assemble ∈ wsL_law := uin_20 _ (.tail _ (.tail _ (.tail _ (.head _))))
theorem m_28_20 : Cond.selects RX12 yX12_assemble yX12_assemble ∈ wsL_law := uin_20 _ (.tail _ (.tail _ (.tail _ (.tail _ (.head _)))))
theorem m_28_21 : Cond.code yX12_assemble cX12_assemble 1 (some .int) ∈ wsL_law := uin_20 _ (.tail _ (.tail _ (.tail _ (.tail _ (.tail _ (.head _))))))
theorem m_28_22 : Cond.fieldLink RX12 596 "SixBitBoardModel" "inDeck" "Z" ∈ wsL_law := uin_20 _ (.tail _ (.tail _ (.tail _ (.tail _ (.tail _ (.tail _ (.head _)))))))
theorem m_28_23 : Cond.fieldLink RX12 651 "SixBitBoardModel" "errorLine" "I" ∈ wsL_law := uin_20 _ (.tail _ (.tail _ (.tail _ (.tail _ (.tail _ (.tail _ (.tail _ (.head _))))))))
theorem m_29_0 : Cond.fieldLink RX12 602 "SixBitBoardModel" "start" "I" ∈ wsL_law := uin_20 _ (.tail _ (.tail _ (.tail _ (.tail _ (.tail _ (.tail _ (.tail _ (.tail _ (.head _)))))))))
theorem m_29_1 : Cond.fieldLink RX12 569 "SixBitBoardModel" "put" "I" ∈ wsL_law := uin_20 _ (.tail _ (.tail _ (.tail _ (.tail _ (.tail _ (.tail _ (.tail _ (.tail _ (.tail _ (.head _))))))))))
theorem m_29_2 : Cond.methodLink RX12 657 yX12_copyText ∈ wsL_law := uin_20 _ (.tail _ (.tail _ (.tail _ (.tail _ (.tail _ (.tail _ (.tail _ (.tail _ (.tail _ (.tail _ (.head _)))))))))))
theorem m_29_3 : Cond.instanceMethod yX12_copyText ∈ wsL_law := uin_20 _ (.tail _ (.tail _ (.tail _ (.tail _ (.tail _ (.tail _ (.tail _ (.tail _ (.tail _ (.tail _ (.tail _ (.head _))))))))))))
theorem m_29_4 : Cond.selects RX12 yX12_copyText yX12_copyText ∈ wsL_law := uin_20 _ (.tail _ (.tail _ (.tail _ (.tail _ (.tail _ (.tail _ (.tail _ (.tail _ (.tail _ (.tail _ (.tail _ (.tail _ (.head _)))))))))))))
theorem m_29_5 : Cond.code yX12_copyText cX12_copyText 4 none ∈ wsL_law := uin_20 _ (.tail _ (.tail _ (.tail _ (.tail _ (.tail _ (.tail _ (.tail _ (.tail _ (.tail _ (.tail _ (.tail _ (.tail _ (.tail _ (.head _))))))))))))))
theorem m_29_6 : Cond.fieldLink RX12 433 "SixBitBoardModel" "textSize" "I" ∈ wsL_law := uin_20 _ (.tail _ (.tail _ (.tail _ (.tail _ (.tail _ (.tail _ (.tail _ (.tail _ (.tail _ (.tail _ (.tail _ (.tail _ (.tail _ (.tail _ (.head _)))))))))))))))
theorem m_29_7 : Cond.methodLink RX12 661 yX12_assembleText ∈ wsL_law := uin_20 _ (.tail _ (.tail _ (.tail _ (.tail _ (.tail _ (.tail _ (.tail _ (.tail _ (.tail _ (.tail _ (.tail _ (.tail _ (.tail _ (.tail _ (.tail _ (.head _))))))))))))))))
theorem uin_21 : ∀ w ∈ uw_21, w ∈ wsL_law := fun w h => List.mem_append_left _ (List.mem_append_right _ (List.mem_append_right _ (List.mem_append_right _ (List.mem_append_right _ (List.mem_append_right _ (List.mem_append_right _ (List.mem_append_right _ (List.mem_append_right _ (List.mem_append_right _ (List.mem_append_right _ (List.mem_append_right _ (List.mem_append_right _ (List.mem_append_right _ (List.mem_append_right _ (List.mem_append_right _ (List.mem_append_right _ (List.mem_append_right _ (List.mem_append_right _ (List.mem_append_right _ (List.mem_append_right _ (List.mem_append_right _ (List.mem_append_left _ h))))))))))))))))))))))
theorem m_29_8 : Cond.instanceMethod yX12_assembleText ∈ wsL_law := uin_21 _ (.head _)
theorem m_29_9 : Cond.selects RX12 yX12_assembleText yX12_assembleText ∈ wsL_law := uin_21 _ (.tail _ (.head _))
theorem m_29_10 : Cond.code yX12_assembleText cX12_assembleText 2 (some .boolean) ∈ wsL_law := uin_21 _ (.tail _ (.tail _ (.head _)))
theorem m_29_11 : Cond.fieldLink RX12 443 "SixBitBoardModel" "line" "I" ∈ wsL_law := uin_21 _ (.tail _ (.tail _ (.tail _ (.head _))))
theorem m_29_12 : Cond.fieldLink RX12 436 "SixBitBoardModel" "lines" "I" ∈ wsL_law := uin_21 _ (.tail _ (.tail _ (.tail _ (.tail _ (.head _)))))
theorem m_29_13 : Cond.fieldLink RX12 469 "SixBitBoardModel" "wrong" "I" ∈ wsL_law := uin_21 _ (.tail _ (.tail _ (.tail _ (.tail _ (.tail _ (.head _))))))
theorem m_29_14 : Cond.fieldLink RX12 648 "SixBitBoardModel" "error" "I" ∈ wsL_law := uin_21 _ (.tail _ (.tail _ (.tail _ (.tail _ (.tail _ (.tail _ (.head _)))))))
theorem m_29_15 : Cond.fieldLink RX12 654 "SixBitBoardModel" "endLine" "I" ∈ wsL_law := uin_21 _ (.tail _ (.tail _ (.tail _ (.tail _ (.tail _ (.tail _ (.tail _ (.head _))))))))
theorem m_29_16 : Cond.fieldLink RX12 633 "SixBitBoardModel" "assembled" "Z" ∈ wsL_law := uin_21 _ (.tail _ (.tail _ (.tail _ (.tail _ (.tail _ (.tail _ (.tail _ (.tail _ (.head _)))))))))
theorem m_29_17 : Cond.methodLink RX12 639 yX12_clearMachine ∈ wsL_law := uin_21 _ (.tail _ (.tail _ (.tail _ (.tail _ (.tail _ (.tail _ (.tail _ (.tail _ (.tail _ (.head _))))))))))
theorem m_29_18 : Cond.instanceMethod yX12_clearMachine ∈ wsL_law := uin_21 _ (.tail _ (.tail _ (.tail _ (.tail _ (.tail _ (.tail _ (.tail _ (.tail _ (.tail _ (.tail _ (.head _)))))))))))
theorem m_29_19 : Cond.selects RX12 yX12_clearMachine yX12_clearMachine ∈ wsL_law := uin_21 _ (.tail _ (.tail _ (.tail _ (.tail _ (.tail _ (.tail _ (.tail _ (.tail _ (.tail _ (.tail _ (.tail _ (.head _))))))))))))
theorem m_29_20 : Cond.code yX12_clearMachine cX12_clearMachine 2 none ∈ wsL_law := uin_21 _ (.tail _ (.tail _ (.tail _ (.tail _ (.tail _ (.tail _ (.tail _ (.tail _ (.tail _ (.tail _ (.tail _ (.tail _ (.head _)))))))))))))
theorem m_29_21 : Cond.fieldLink RX12 314 "SixBitBoardModel" "overflow" "Z" ∈ wsL_law := uin_21 _ (.tail _ (.tail _ (.tail _ (.tail _ (.tail _ (.tail _ (.tail _ (.tail _ (.tail _ (.tail _ (.tail _ (.tail _ (.tail _ (.head _))))))))))))))
theorem m_29_22 : Cond.fieldLink RX12 378 "SixBitBoardModel" "counter" "I" ∈ wsL_law := uin_21 _ (.tail _ (.tail _ (.tail _ (.tail _ (.tail _ (.tail _ (.tail _ (.tail _ (.tail _ (.tail _ (.tail _ (.tail _ (.tail _ (.tail _ (.head _)))))))))))))))
theorem m_29_23 : Cond.fieldLink RX12 272 "SixBitBoardModel" "time" "J" ∈ wsL_law := uin_21 _ (.tail _ (.tail _ (.tail _ (.tail _ (.tail _ (.tail _ (.tail _ (.tail _ (.tail _ (.tail _ (.tail _ (.tail _ (.tail _ (.tail _ (.tail _ (.head _))))))))))))))))
theorem uin_22 : ∀ w ∈ uw_22, w ∈ wsL_law := fun w h => List.mem_append_left _ (List.mem_append_right _ (List.mem_append_right _ (List.mem_append_right _ (List.mem_append_right _ (List.mem_append_right _ (List.mem_append_right _ (List.mem_append_right _ (List.mem_append_right _ (List.mem_append_right _ (List.mem_append_right _ (List.mem_append_right _ (List.mem_append_right _ (List.mem_append_right _ (List.mem_append_right _ (List.mem_append_right _ (List.mem_append_right _ (List.mem_append_right _ (List.mem_append_right _ (List.mem_append_right _ (List.mem_append_right _ (List.mem_append_right _ (List.mem_append_right _ (List.mem_append_left _ h)))))))))))))))))))))))
theorem m_30_0 : Cond.fieldLink RX12 241 "SixBitBoardModel" "inControl" "Z" ∈ wsL_law := uin_22 _ (.head _)
theorem m_30_1 : Cond.fieldLink RX12 238 "SixBitBoardModel" "watched" "Z" ∈ wsL_law := uin_22 _ (.tail _ (.head _))
theorem m_30_2 : Cond.fieldLink RX12 235 "SixBitBoardModel" "inJob" "Z" ∈ wsL_law := uin_22 _ (.tail _ (.tail _ (.head _)))
theorem m_30_3 : Cond.fieldLink RX12 415 "SixBitBoardModel" "traceLeft" "I" ∈ wsL_law := uin_22 _ (.tail _ (.tail _ (.tail _ (.head _))))
theorem m_30_4 : Cond.methodLink RX12 627 yX12_clearMemory ∈ wsL_law := uin_22 _ (.tail _ (.tail _ (.tail _ (.tail _ (.head _)))))
theorem m_30_5 : Cond.instanceMethod yX12_clearMemory ∈ wsL_law := uin_22 _ (.tail _ (.tail _ (.tail _ (.tail _ (.tail _ (.head _))))))
theorem m_30_6 : Cond.selects RX12 yX12_clearMemory yX12_clearMemory ∈ wsL_law := uin_22 _ (.tail _ (.tail _ (.tail _ (.tail _ (.tail _ (.tail _ (.head _)))))))
theorem m_30_7 : Cond.code yX12_clearMemory cX12_clearMemory 2 none ∈ wsL_law := uin_22 _ (.tail _ (.tail _ (.tail _ (.tail _ (.tail _ (.tail _ (.tail _ (.head _))))))))
theorem m_30_8 : Cond.methodLink RX12 630 yX12_freeUnits ∈ wsL_law := uin_22 _ (.tail _ (.tail _ (.tail _ (.tail _ (.tail _ (.tail _ (.tail _ (.tail _ (.head _)))))))))
theorem m_30_9 : Cond.instanceMethod yX12_freeUnits ∈ wsL_law := uin_22 _ (.tail _ (.tail _ (.tail _ (.tail _ (.tail _ (.tail _ (.tail _ (.tail _ (.tail _ (.head _))))))))))
theorem m_30_10 : Cond.selects RX12 yX12_freeUnits yX12_freeUnits ∈ wsL_law := uin_22 _ (.tail _ (.tail _ (.tail _ (.tail _ (.tail _ (.tail _ (.tail _ (.tail _ (.tail _ (.tail _ (.head _)))))))))))
theorem m_30_11 : Cond.code yX12_freeUnits cX12_freeUnits 2 none ∈ wsL_law := uin_22 _ (.tail _ (.tail _ (.tail _ (.tail _ (.tail _ (.tail _ (.tail _ (.tail _ (.tail _ (.tail _ (.tail _ (.head _))))))))))))
theorem m_30_12 : Cond.methodLink RX12 642 yX12_clearAssembling ∈ wsL_law := uin_22 _ (.tail _ (.tail _ (.tail _ (.tail _ (.tail _ (.tail _ (.tail _ (.tail _ (.tail _ (.tail _ (.tail _ (.tail _ (.head _)))))))))))))
theorem m_30_13 : Cond.instanceMethod yX12_clearAssembling ∈ wsL_law := uin_22 _ (.tail _ (.tail _ (.tail _ (.tail _ (.tail _ (.tail _ (.tail _ (.tail _ (.tail _ (.tail _ (.tail _ (.tail _ (.tail _ (.head _))))))))))))))
theorem m_30_14 : Cond.selects RX12 yX12_clearAssembling yX12_clearAssembling ∈ wsL_law := uin_22 _ (.tail _ (.tail _ (.tail _ (.tail _ (.tail _ (.tail _ (.tail _ (.tail _ (.tail _ (.tail _ (.tail _ (.tail _ (.tail _ (.tail _ (.head _)))))))))))))))
theorem m_30_15 : Cond.code yX12_clearAssembling cX12_clearAssembling 2 none ∈ wsL_law := uin_22 _ (.tail _ (.tail _ (.tail _ (.tail _ (.tail _ (.tail _ (.tail _ (.tail _ (.tail _ (.tail _ (.tail _ (.tail _ (.tail _ (.tail _ (.tail _ (.head _))))))))))))))))
theorem uin_23 : ∀ w ∈ uw_23, w ∈ wsL_law := fun w h => List.mem_append_left _ (List.mem_append_right _ (List.mem_append_right _ (List.mem_append_right _ (List.mem_append_right _ (List.mem_append_right _ (List.mem_append_right _ (List.mem_append_right _ (List.mem_append_right _ (List.mem_append_right _ (List.mem_append_right _ (List.mem_append_right _ (List.mem_append_right _ (List.mem_append_right _ (List.mem_append_right _ (List.mem_append_right _ (List.mem_append_right _ (List.mem_append_right _ (List.mem_append_right _ (List.mem_append_right _ (List.mem_append_right _ (List.mem_append_right _ (List.mem_append_right _ (List.mem_append_right _ (List.mem_append_left _ h))))))))))))))))))))))))
theorem m_30_16 : Cond.fieldLink RX12 494 "SixBitBoardModel" "location" "I" ∈ wsL_law := uin_23 _ (.head _)
theorem m_30_17 : Cond.fieldLink RX12 463 "SixBitBoardModel" "symbols" "I" ∈ wsL_law := uin_23 _ (.tail _ (.head _))
theorem m_30_18 : Cond.fieldLink RX12 572 "SixBitBoardModel" "futures" "I" ∈ wsL_law := uin_23 _ (.tail _ (.tail _ (.head _)))
theorem m_30_19 : Cond.methodLink RX12 636 yX12_findLines ∈ wsL_law := uin_23 _ (.tail _ (.tail _ (.tail _ (.head _))))
theorem m_30_20 : Cond.instanceMethod yX12_findLines ∈ wsL_law := uin_23 _ (.tail _ (.tail _ (.tail _ (.tail _ (.head _)))))
theorem m_30_21 : Cond.selects RX12 yX12_findLines yX12_findLines ∈ wsL_law := uin_23 _ (.tail _ (.tail _ (.tail _ (.tail _ (.tail _ (.head _))))))
theorem m_30_22 : Cond.code yX12_findLines cX12_findLines 2 none ∈ wsL_law := uin_23 _ (.tail _ (.tail _ (.tail _ (.tail _ (.tail _ (.tail _ (.head _)))))))
theorem m_32_22 : Cond.methodLink RX12 478 yX12_fail ∈ wsL_law := uin_23 _ (.tail _ (.tail _ (.tail _ (.tail _ (.tail _ (.tail _ (.tail _ (.head _))))))))
theorem m_32_23 : Cond.instanceMethod yX12_fail ∈ wsL_law := uin_23 _ (.tail _ (.tail _ (.tail _ (.tail _ (.tail _ (.tail _ (.tail _ (.tail _ (.head _)))))))))
theorem m_33_0 : Cond.selects RX12 yX12_fail yX12_fail ∈ wsL_law := uin_23 _ (.tail _ (.tail _ (.tail _ (.tail _ (.tail _ (.tail _ (.tail _ (.tail _ (.tail _ (.head _))))))))))
theorem m_33_1 : Cond.code yX12_fail cX12_fail 2 none ∈ wsL_law := uin_23 _ (.tail _ (.tail _ (.tail _ (.tail _ (.tail _ (.tail _ (.tail _ (.tail _ (.tail _ (.tail _ (.head _)))))))))))
theorem m_34_19 : Cond.constant RX12 158 (1073741824) ∈ wsL_law := uin_23 _ (.tail _ (.tail _ (.tail _ (.tail _ (.tail _ (.tail _ (.tail _ (.tail _ (.tail _ (.tail _ (.tail _ (.head _))))))))))))
theorem m_36_4 : Cond.constantLong RX12 192 (10) ∈ wsL_law := uin_23 _ (.tail _ (.tail _ (.tail _ (.tail _ (.tail _ (.tail _ (.tail _ (.tail _ (.tail _ (.tail _ (.tail _ (.tail _ (.head _)))))))))))))
theorem m_36_5 : Cond.constantLong RX12 194 (48) ∈ wsL_law := uin_23 _ (.tail _ (.tail _ (.tail _ (.tail _ (.tail _ (.tail _ (.tail _ (.tail _ (.tail _ (.tail _ (.tail _ (.tail _ (.tail _ (.head _))))))))))))))
theorem m_36_9 : Cond.methodLink RX12 161 yX12_value ∈ wsL_law := uin_23 _ (.tail _ (.tail _ (.tail _ (.tail _ (.tail _ (.tail _ (.tail _ (.tail _ (.tail _ (.tail _ (.tail _ (.tail _ (.tail _ (.tail _ (.head _)))))))))))))))
theorem m_36_10 : Cond.static yX12_value ∈ wsL_law := uin_23 _ (.tail _ (.tail _ (.tail _ (.tail _ (.tail _ (.tail _ (.tail _ (.tail _ (.tail _ (.tail _ (.tail _ (.tail _ (.tail _ (.tail _ (.tail _ (.head _))))))))))))))))
theorem uin_24 : ∀ w ∈ uw_24, w ∈ wsL_law := fun w h => List.mem_append_left _ (List.mem_append_right _ (List.mem_append_right _ (List.mem_append_right _ (List.mem_append_right _ (List.mem_append_right _ (List.mem_append_right _ (List.mem_append_right _ (List.mem_append_right _ (List.mem_append_right _ (List.mem_append_right _ (List.mem_append_right _ (List.mem_append_right _ (List.mem_append_right _ (List.mem_append_right _ (List.mem_append_right _ (List.mem_append_right _ (List.mem_append_right _ (List.mem_append_right _ (List.mem_append_right _ (List.mem_append_right _ (List.mem_append_right _ (List.mem_append_right _ (List.mem_append_right _ (List.mem_append_right _ (List.mem_append_left _ h)))))))))))))))))))))))))
theorem m_36_11 : Cond.code yX12_value cX12_value 1 (some .int) ∈ wsL_law := uin_24 _ (.head _)
theorem m_38_19 : Cond.methodLink RX12 260 yX12_memoryAt ∈ wsL_law := uin_24 _ (.tail _ (.head _))
theorem m_38_20 : Cond.instanceMethod yX12_memoryAt ∈ wsL_law := uin_24 _ (.tail _ (.tail _ (.head _)))
theorem m_38_21 : Cond.selects RX12 yX12_memoryAt yX12_memoryAt ∈ wsL_law := uin_24 _ (.tail _ (.tail _ (.tail _ (.head _))))
theorem m_38_22 : Cond.code yX12_memoryAt cX12_memoryAt 2 (some .int) ∈ wsL_law := uin_24 _ (.tail _ (.tail _ (.tail _ (.tail _ (.head _)))))
theorem m_40_5 : Cond.methodLink RL 44 yX11_errors ∈ wsL_law := uin_24 _ (.tail _ (.tail _ (.tail _ (.tail _ (.tail _ (.head _))))))
theorem m_40_6 : Cond.instanceMethod yX11_errors ∈ wsL_law := uin_24 _ (.tail _ (.tail _ (.tail _ (.tail _ (.tail _ (.tail _ (.head _)))))))
theorem m_40_7 : Cond.selects RX11 yX11_errors yX11_errors ∈ wsL_law := uin_24 _ (.tail _ (.tail _ (.tail _ (.tail _ (.tail _ (.tail _ (.tail _ (.head _))))))))
theorem m_40_8 : Cond.code yX11_errors cX11_errors 3 (some .int) ∈ wsL_law := uin_24 _ (.tail _ (.tail _ (.tail _ (.tail _ (.tail _ (.tail _ (.tail _ (.tail _ (.head _)))))))))
theorem m_40_9 : Cond.methodLink RX11 117 yX7_printWrongs ∈ wsL_law := uin_24 _ (.tail _ (.tail _ (.tail _ (.tail _ (.tail _ (.tail _ (.tail _ (.tail _ (.tail _ (.head _))))))))))
theorem m_40_10 : Cond.instanceMethod yX7_printWrongs ∈ wsL_law := uin_24 _ (.tail _ (.tail _ (.tail _ (.tail _ (.tail _ (.tail _ (.tail _ (.tail _ (.tail _ (.tail _ (.head _)))))))))))
theorem m_40_11 : Cond.selects RX7 yX7_printWrongs yX7_printWrongs ∈ wsL_law := uin_24 _ (.tail _ (.tail _ (.tail _ (.tail _ (.tail _ (.tail _ (.tail _ (.tail _ (.tail _ (.tail _ (.tail _ (.head _))))))))))))
theorem m_40_12 : Cond.code yX7_printWrongs cX7_printWrongs 7 (some .int) ∈ wsL_law := uin_24 _ (.tail _ (.tail _ (.tail _ (.tail _ (.tail _ (.tail _ (.tail _ (.tail _ (.tail _ (.tail _ (.tail _ (.tail _ (.head _)))))))))))))
theorem m_40_13 : Cond.fieldLink RX7 90 "SixBitBoard$Assembler" "text" "LSixBitBoard$Text;" ∈ wsL_law := uin_24 _ (.tail _ (.tail _ (.tail _ (.tail _ (.tail _ (.tail _ (.tail _ (.tail _ (.tail _ (.tail _ (.tail _ (.tail _ (.tail _ (.head _))))))))))))))
theorem m_40_14 : Cond.fieldLink RX7 106 "SixBitBoard$Text" "line" "I" ∈ wsL_law := uin_24 _ (.tail _ (.tail _ (.tail _ (.tail _ (.tail _ (.tail _ (.tail _ (.tail _ (.tail _ (.tail _ (.tail _ (.tail _ (.tail _ (.tail _ (.head _)))))))))))))))
theorem m_40_16 : Cond.fieldLink RX7 157 "SixBitBoard$Assembler" "kind" "I" ∈ wsL_law := uin_24 _ (.tail _ (.tail _ (.tail _ (.tail _ (.tail _ (.tail _ (.tail _ (.tail _ (.tail _ (.tail _ (.tail _ (.tail _ (.tail _ (.tail _ (.tail _ (.head _))))))))))))))))
theorem uin_25 : ∀ w ∈ uw_25, w ∈ wsL_law := fun w h => List.mem_append_left _ (List.mem_append_right _ (List.mem_append_right _ (List.mem_append_right _ (List.mem_append_right _ (List.mem_append_right _ (List.mem_append_right _ (List.mem_append_right _ (List.mem_append_right _ (List.mem_append_right _ (List.mem_append_right _ (List.mem_append_right _ (List.mem_append_right _ (List.mem_append_right _ (List.mem_append_right _ (List.mem_append_right _ (List.mem_append_right _ (List.mem_append_right _ (List.mem_append_right _ (List.mem_append_right _ (List.mem_append_right _ (List.mem_append_right _ (List.mem_append_right _ (List.mem_append_right _ (List.mem_append_right _ (List.mem_append_right _ (List.mem_append_left _ h))))))))))))))))))))))))))
theorem m_40_17 : Cond.methodLink RX7 153 yX0_nextWrong ∈ wsL_law := uin_25 _ (.head _)
theorem m_40_18 : Cond.methodLink RX7 42 yX4_digits ∈ wsL_law := uin_25 _ (.tail _ (.head _))
theorem m_40_19 : Cond.instanceMethod yX4_digits ∈ wsL_law := uin_25 _ (.tail _ (.tail _ (.head _)))
theorem m_40_20 : Cond.selects RX4 yX4_digits yX4_digits ∈ wsL_law := uin_25 _ (.tail _ (.tail _ (.tail _ (.head _))))
theorem m_40_21 : Cond.code yX4_digits cX4_digits 8 none ∈ wsL_law := uin_25 _ (.tail _ (.tail _ (.tail _ (.tail _ (.head _)))))
theorem m_40_22 : Cond.constantLong RX4 38 (10) ∈ wsL_law := uin_25 _ (.tail _ (.tail _ (.tail _ (.tail _ (.tail _ (.head _))))))
theorem m_40_23 : Cond.methodLink RX4 34 yX4_mark ∈ wsL_law := uin_25 _ (.tail _ (.tail _ (.tail _ (.tail _ (.tail _ (.tail _ (.head _)))))))
theorem m_41_0 : Cond.instanceMethod yX4_mark ∈ wsL_law := uin_25 _ (.tail _ (.tail _ (.tail _ (.tail _ (.tail _ (.tail _ (.tail _ (.head _))))))))
theorem m_41_1 : Cond.selects RX4 yX4_mark yX4_mark ∈ wsL_law := uin_25 _ (.tail _ (.tail _ (.tail _ (.tail _ (.tail _ (.tail _ (.tail _ (.tail _ (.head _)))))))))
theorem m_41_2 : Cond.code yX4_mark cX4_mark 3 none ∈ wsL_law := uin_25 _ (.tail _ (.tail _ (.tail _ (.tail _ (.tail _ (.tail _ (.tail _ (.tail _ (.tail _ (.head _))))))))))
theorem m_41_7 : Cond.methodLink RX7 56 yX4_finish ∈ wsL_law := uin_25 _ (.tail _ (.tail _ (.tail _ (.tail _ (.tail _ (.tail _ (.tail _ (.tail _ (.tail _ (.tail _ (.head _)))))))))))
theorem m_41_8 : Cond.instanceMethod yX4_finish ∈ wsL_law := uin_25 _ (.tail _ (.tail _ (.tail _ (.tail _ (.tail _ (.tail _ (.tail _ (.tail _ (.tail _ (.tail _ (.tail _ (.head _))))))))))))
theorem m_41_9 : Cond.selects RX4 yX4_finish yX4_finish ∈ wsL_law := uin_25 _ (.tail _ (.tail _ (.tail _ (.tail _ (.tail _ (.tail _ (.tail _ (.tail _ (.tail _ (.tail _ (.tail _ (.tail _ (.head _)))))))))))))
theorem m_41_10 : Cond.code yX4_finish cX4_finish 5 none ∈ wsL_law := uin_25 _ (.tail _ (.tail _ (.tail _ (.tail _ (.tail _ (.tail _ (.tail _ (.tail _ (.tail _ (.tail _ (.tail _ (.tail _ (.tail _ (.head _))))))))))))))
theorem m_41_11 : Cond.fieldLink RX4 64 "SixBitBoard$Paper" "written" "I" ∈ wsL_law := uin_25 _ (.tail _ (.tail _ (.tail _ (.tail _ (.tail _ (.tail _ (.tail _ (.tail _ (.tail _ (.tail _ (.tail _ (.tail _ (.tail _ (.tail _ (.head _)))))))))))))))
theorem m_41_12 : Cond.methodLink RX4 68 arraycopyName ∈ wsL_law := uin_25 _ (.tail _ (.tail _ (.tail _ (.tail _ (.tail _ (.tail _ (.tail _ (.tail _ (.tail _ (.tail _ (.tail _ (.tail _ (.tail _ (.tail _ (.tail _ (.head _))))))))))))))))
theorem uin_26 : ∀ w ∈ uw_26, w ∈ wsL_law := fun w h => List.mem_append_left _ (List.mem_append_right _ (List.mem_append_right _ (List.mem_append_right _ (List.mem_append_right _ (List.mem_append_right _ (List.mem_append_right _ (List.mem_append_right _ (List.mem_append_right _ (List.mem_append_right _ (List.mem_append_right _ (List.mem_append_right _ (List.mem_append_right _ (List.mem_append_right _ (List.mem_append_right _ (List.mem_append_right _ (List.mem_append_right _ (List.mem_append_right _ (List.mem_append_right _ (List.mem_append_right _ (List.mem_append_right _ (List.mem_append_right _ (List.mem_append_right _ (List.mem_append_right _ (List.mem_append_right _ (List.mem_append_right _ (List.mem_append_right _ (List.mem_append_left _ h)))))))))))))))))))))))))))
theorem m_41_13 : Cond.methodLink RX4 74 yJ7_fill_031fb ∈ wsL_law := uin_26 _ (.head _)
theorem m_41_14 : Cond.static yJ7_fill_031fb ∈ wsL_law := uin_26 _ (.tail _ (.head _))
theorem m_41_15 : Cond.code yJ7_fill_031fb cJ7_fill_031fb 4 none ∈ wsL_law := uin_26 _ (.tail _ (.tail _ (.head _)))
theorem m_41_16 : Cond.methodLink RL 47 yX12_errors ∈ wsL_law := uin_26 _ (.tail _ (.tail _ (.tail _ (.head _))))
theorem m_41_17 : Cond.instanceMethod yX12_errors ∈ wsL_law := uin_26 _ (.tail _ (.tail _ (.tail _ (.tail _ (.head _)))))
theorem m_41_18 : Cond.selects RX12 yX12_errors yX12_errors ∈ wsL_law := uin_26 _ (.tail _ (.tail _ (.tail _ (.tail _ (.tail _ (.head _))))))
theorem m_41_19 : Cond.code yX12_errors cX12_errors 1 (some .int) ∈ wsL_law := uin_26 _ (.tail _ (.tail _ (.tail _ (.tail _ (.tail _ (.tail _ (.head _)))))))
theorem m_41_20 : Cond.methodLink RX12 673 yX12_goOver ∈ wsL_law := uin_26 _ (.tail _ (.tail _ (.tail _ (.tail _ (.tail _ (.tail _ (.tail _ (.head _))))))))
theorem m_41_21 : Cond.instanceMethod yX12_goOver ∈ wsL_law := uin_26 _ (.tail _ (.tail _ (.tail _ (.tail _ (.tail _ (.tail _ (.tail _ (.tail _ (.head _)))))))))
theorem m_41_22 : Cond.selects RX12 yX12_goOver yX12_goOver ∈ wsL_law := uin_26 _ (.tail _ (.tail _ (.tail _ (.tail _ (.tail _ (.tail _ (.tail _ (.tail _ (.tail _ (.head _))))))))))
theorem m_41_23 : Cond.code yX12_goOver cX12_goOver 3 (some .int) ∈ wsL_law := uin_26 _ (.tail _ (.tail _ (.tail _ (.tail _ (.tail _ (.tail _ (.tail _ (.tail _ (.tail _ (.tail _ (.head _)))))))))))
theorem m_42_0 : Cond.methodLink RX12 670 yX12_sayError ∈ wsL_law := uin_26 _ (.tail _ (.tail _ (.tail _ (.tail _ (.tail _ (.tail _ (.tail _ (.tail _ (.tail _ (.tail _ (.tail _ (.head _))))))))))))
theorem m_42_1 : Cond.instanceMethod yX12_sayError ∈ wsL_law := uin_26 _ (.tail _ (.tail _ (.tail _ (.tail _ (.tail _ (.tail _ (.tail _ (.tail _ (.tail _ (.tail _ (.tail _ (.tail _ (.head _)))))))))))))
theorem m_42_2 : Cond.selects RX12 yX12_sayError yX12_sayError ∈ wsL_law := uin_26 _ (.tail _ (.tail _ (.tail _ (.tail _ (.tail _ (.tail _ (.tail _ (.tail _ (.tail _ (.tail _ (.tail _ (.tail _ (.tail _ (.head _))))))))))))))
theorem m_42_3 : Cond.code yX12_sayError cX12_sayError 2 none ∈ wsL_law := uin_26 _ (.tail _ (.tail _ (.tail _ (.tail _ (.tail _ (.tail _ (.tail _ (.tail _ (.tail _ (.tail _ (.tail _ (.tail _ (.tail _ (.tail _ (.head _)))))))))))))))
theorem m_42_4 : Cond.methodLink RX12 263 yX12_begin ∈ wsL_law := uin_26 _ (.tail _ (.tail _ (.tail _ (.tail _ (.tail _ (.tail _ (.tail _ (.tail _ (.tail _ (.tail _ (.tail _ (.tail _ (.tail _ (.tail _ (.tail _ (.head _))))))))))))))))
theorem uin_27 : ∀ w ∈ uw_27, w ∈ wsL_law := fun w h => List.mem_append_left _ (List.mem_append_right _ (List.mem_append_right _ (List.mem_append_right _ (List.mem_append_right _ (List.mem_append_right _ (List.mem_append_right _ (List.mem_append_right _ (List.mem_append_right _ (List.mem_append_right _ (List.mem_append_right _ (List.mem_append_right _ (List.mem_append_right _ (List.mem_append_right _ (List.mem_append_right _ (List.mem_append_right _ (List.mem_append_right _ (List.mem_append_right _ (List.mem_append_right _ (List.mem_append_right _ (List.mem_append_right _ (List.mem_append_right _ (List.mem_append_right _ (List.mem_append_right _ (List.mem_append_right _ (List.mem_append_right _ (List.mem_append_right _ (List.mem_append_right _ (List.mem_append_left _ h))))))))))))))))))))))))))))
theorem m_42_5 : Cond.instanceMethod yX12_begin ∈ wsL_law := uin_27 _ (.head _)
theorem m_42_6 : Cond.selects RX12 yX12_begin yX12_begin ∈ wsL_law := uin_27 _ (.tail _ (.head _))
theorem m_42_7 : Cond.code yX12_begin cX12_begin 1 none ∈ wsL_law := uin_27 _ (.tail _ (.tail _ (.head _)))
theorem m_42_8 : Cond.fieldLink RX12 186 "SixBitBoardModel" "rowSize" "I" ∈ wsL_law := uin_27 _ (.tail _ (.tail _ (.tail _ (.head _))))
theorem m_42_9 : Cond.methodLink RX12 199 yX12_sayDigits ∈ wsL_law := uin_27 _ (.tail _ (.tail _ (.tail _ (.tail _ (.head _)))))
theorem m_42_10 : Cond.instanceMethod yX12_sayDigits ∈ wsL_law := uin_27 _ (.tail _ (.tail _ (.tail _ (.tail _ (.tail _ (.head _))))))
theorem m_42_11 : Cond.selects RX12 yX12_sayDigits yX12_sayDigits ∈ wsL_law := uin_27 _ (.tail _ (.tail _ (.tail _ (.tail _ (.tail _ (.tail _ (.head _)))))))
theorem m_42_12 : Cond.code yX12_sayDigits cX12_sayDigits 7 none ∈ wsL_law := uin_27 _ (.tail _ (.tail _ (.tail _ (.tail _ (.tail _ (.tail _ (.tail _ (.head _))))))))
theorem m_42_13 : Cond.methodLink RX12 189 yX12_say ∈ wsL_law := uin_27 _ (.tail _ (.tail _ (.tail _ (.tail _ (.tail _ (.tail _ (.tail _ (.tail _ (.head _)))))))))
theorem m_42_14 : Cond.instanceMethod yX12_say ∈ wsL_law := uin_27 _ (.tail _ (.tail _ (.tail _ (.tail _ (.tail _ (.tail _ (.tail _ (.tail _ (.tail _ (.head _))))))))))
theorem m_42_15 : Cond.selects RX12 yX12_say yX12_say ∈ wsL_law := uin_27 _ (.tail _ (.tail _ (.tail _ (.tail _ (.tail _ (.tail _ (.tail _ (.tail _ (.tail _ (.tail _ (.head _)))))))))))
theorem m_42_16 : Cond.code yX12_say cX12_say 2 none ∈ wsL_law := uin_27 _ (.tail _ (.tail _ (.tail _ (.tail _ (.tail _ (.tail _ (.tail _ (.tail _ (.tail _ (.tail _ (.tail _ (.head _))))))))))))
theorem m_42_17 : Cond.methodLink RX12 667 yX12_toColumn ∈ wsL_law := uin_27 _ (.tail _ (.tail _ (.tail _ (.tail _ (.tail _ (.tail _ (.tail _ (.tail _ (.tail _ (.tail _ (.tail _ (.tail _ (.head _)))))))))))))
theorem m_42_18 : Cond.instanceMethod yX12_toColumn ∈ wsL_law := uin_27 _ (.tail _ (.tail _ (.tail _ (.tail _ (.tail _ (.tail _ (.tail _ (.tail _ (.tail _ (.tail _ (.tail _ (.tail _ (.tail _ (.head _))))))))))))))
theorem m_42_19 : Cond.selects RX12 yX12_toColumn yX12_toColumn ∈ wsL_law := uin_27 _ (.tail _ (.tail _ (.tail _ (.tail _ (.tail _ (.tail _ (.tail _ (.tail _ (.tail _ (.tail _ (.tail _ (.tail _ (.tail _ (.tail _ (.head _)))))))))))))))
theorem m_42_20 : Cond.code yX12_toColumn cX12_toColumn 2 none ∈ wsL_law := uin_27 _ (.tail _ (.tail _ (.tail _ (.tail _ (.tail _ (.tail _ (.tail _ (.tail _ (.tail _ (.tail _ (.tail _ (.tail _ (.tail _ (.tail _ (.tail _ (.head _))))))))))))))))
theorem uin_28 : ∀ w ∈ uw_28, w ∈ wsL_law := fun w h => List.mem_append_left _ (List.mem_append_right _ (List.mem_append_right _ (List.mem_append_right _ (List.mem_append_right _ (List.mem_append_right _ (List.mem_append_right _ (List.mem_append_right _ (List.mem_append_right _ (List.mem_append_right _ (List.mem_append_right _ (List.mem_append_right _ (List.mem_append_right _ (List.mem_append_right _ (List.mem_append_right _ (List.mem_append_right _ (List.mem_append_right _ (List.mem_append_right _ (List.mem_append_right _ (List.mem_append_right _ (List.mem_append_right _ (List.mem_append_right _ (List.mem_append_right _ (List.mem_append_right _ (List.mem_append_right _ (List.mem_append_right _ (List.mem_append_right _ (List.mem_append_right _ (List.mem_append_right _ (List.mem_append_left _ h)))))))))))))))))))))))))))))
theorem m_42_21 : Cond.methodLink RX12 269 yX12_print ∈ wsL_law := uin_28 _ (.head _)
theorem m_42_22 : Cond.instanceMethod yX12_print ∈ wsL_law := uin_28 _ (.tail _ (.head _))
theorem m_42_23 : Cond.selects RX12 yX12_print yX12_print ∈ wsL_law := uin_28 _ (.tail _ (.tail _ (.head _)))
theorem m_43_0 : Cond.code yX12_print cX12_print 5 none ∈ wsL_law := uin_28 _ (.tail _ (.tail _ (.tail _ (.head _))))
theorem m_43_1 : Cond.fieldLink RX12 207 "SixBitBoardModel" "cut" "Z" ∈ wsL_law := uin_28 _ (.tail _ (.tail _ (.tail _ (.tail _ (.head _)))))
theorem m_43_2 : Cond.methodLink RL 48 yX11_error ∈ wsL_law := uin_28 _ (.tail _ (.tail _ (.tail _ (.tail _ (.tail _ (.head _))))))
theorem m_43_3 : Cond.instanceMethod yX11_error ∈ wsL_law := uin_28 _ (.tail _ (.tail _ (.tail _ (.tail _ (.tail _ (.tail _ (.head _)))))))
theorem m_43_4 : Cond.selects RX11 yX11_error yX11_error ∈ wsL_law := uin_28 _ (.tail _ (.tail _ (.tail _ (.tail _ (.tail _ (.tail _ (.tail _ (.head _))))))))
theorem m_43_5 : Cond.code yX11_error cX11_error 1 (some .int) ∈ wsL_law := uin_28 _ (.tail _ (.tail _ (.tail _ (.tail _ (.tail _ (.tail _ (.tail _ (.tail _ (.head _)))))))))
theorem m_43_6 : Cond.fieldLink RX11 121 "SixBitBoard$Assembler" "kind" "I" ∈ wsL_law := uin_28 _ (.tail _ (.tail _ (.tail _ (.tail _ (.tail _ (.tail _ (.tail _ (.tail _ (.tail _ (.head _))))))))))
theorem m_43_7 : Cond.methodLink RL 51 yX12_error ∈ wsL_law := uin_28 _ (.tail _ (.tail _ (.tail _ (.tail _ (.tail _ (.tail _ (.tail _ (.tail _ (.tail _ (.tail _ (.head _)))))))))))
theorem m_43_8 : Cond.instanceMethod yX12_error ∈ wsL_law := uin_28 _ (.tail _ (.tail _ (.tail _ (.tail _ (.tail _ (.tail _ (.tail _ (.tail _ (.tail _ (.tail _ (.tail _ (.head _))))))))))))
theorem m_43_9 : Cond.selects RX12 yX12_error yX12_error ∈ wsL_law := uin_28 _ (.tail _ (.tail _ (.tail _ (.tail _ (.tail _ (.tail _ (.tail _ (.tail _ (.tail _ (.tail _ (.tail _ (.tail _ (.head _)))))))))))))
theorem m_43_10 : Cond.code yX12_error cX12_error 1 (some .int) ∈ wsL_law := uin_28 _ (.tail _ (.tail _ (.tail _ (.tail _ (.tail _ (.tail _ (.tail _ (.tail _ (.tail _ (.tail _ (.tail _ (.tail _ (.tail _ (.head _))))))))))))))
theorem m_43_11 : Cond.methodLink RL 52 yX11_cards ∈ wsL_law := uin_28 _ (.tail _ (.tail _ (.tail _ (.tail _ (.tail _ (.tail _ (.tail _ (.tail _ (.tail _ (.tail _ (.tail _ (.tail _ (.tail _ (.tail _ (.head _)))))))))))))))
theorem m_43_12 : Cond.instanceMethod yX11_cards ∈ wsL_law := uin_28 _ (.tail _ (.tail _ (.tail _ (.tail _ (.tail _ (.tail _ (.tail _ (.tail _ (.tail _ (.tail _ (.tail _ (.tail _ (.tail _ (.tail _ (.tail _ (.head _))))))))))))))))
theorem uin_29 : ∀ w ∈ uw_29, w ∈ wsL_law := fun w h => List.mem_append_left _ (List.mem_append_right _ (List.mem_append_right _ (List.mem_append_right _ (List.mem_append_right _ (List.mem_append_right _ (List.mem_append_right _ (List.mem_append_right _ (List.mem_append_right _ (List.mem_append_right _ (List.mem_append_right _ (List.mem_append_right _ (List.mem_append_right _ (List.mem_append_right _ (List.mem_append_right _ (List.mem_append_right _ (List.mem_append_right _ (List.mem_append_right _ (List.mem_append_right _ (List.mem_append_right _ (List.mem_append_right _ (List.mem_append_right _ (List.mem_append_right _ (List.mem_append_right _ (List.mem_append_right _ (List.mem_append_right _ (List.mem_append_right _ (List.mem_append_right _ (List.mem_append_right _ (List.mem_append_right _ (List.mem_append_left _ h))))))))))))))))))))))))))))))
theorem m_43_13 : Cond.selects RX11 yX11_cards yX11_cards ∈ wsL_law := uin_29 _ (.head _)
theorem m_43_14 : Cond.code yX11_cards cX11_cards 5 (some .int) ∈ wsL_law := uin_29 _ (.tail _ (.head _))
theorem m_43_15 : Cond.fieldLink RX11 124 "SixBitBoard$Monitor" "deck" "LSixBitBoard$Text;" ∈ wsL_law := uin_29 _ (.tail _ (.tail _ (.head _)))
theorem m_43_16 : Cond.fieldLink RX11 127 "SixBitBoard$Units" "reader" "LSixBitBoard$Reader;" ∈ wsL_law := uin_29 _ (.tail _ (.tail _ (.tail _ (.head _))))
theorem m_43_17 : Cond.fieldLink RX11 131 "SixBitBoard$Reader" "left" "I" ∈ wsL_law := uin_29 _ (.tail _ (.tail _ (.tail _ (.tail _ (.head _)))))
theorem m_43_18 : Cond.methodLink RX11 136 yX9_open ∈ wsL_law := uin_29 _ (.tail _ (.tail _ (.tail _ (.tail _ (.tail _ (.head _))))))
theorem m_43_19 : Cond.methodLink RX11 139 yX9_advance ∈ wsL_law := uin_29 _ (.tail _ (.tail _ (.tail _ (.tail _ (.tail _ (.tail _ (.head _)))))))
theorem m_44_7 : Cond.fieldLink RX6 18 "SixBitBoard$Reader" "left" "I" ∈ wsL_law := uin_29 _ (.tail _ (.tail _ (.tail _ (.tail _ (.tail _ (.tail _ (.tail _ (.head _))))))))
theorem m_44_8 : Cond.methodLink RL 55 yX12_cards ∈ wsL_law := uin_29 _ (.tail _ (.tail _ (.tail _ (.tail _ (.tail _ (.tail _ (.tail _ (.tail _ (.head _)))))))))
theorem m_44_9 : Cond.instanceMethod yX12_cards ∈ wsL_law := uin_29 _ (.tail _ (.tail _ (.tail _ (.tail _ (.tail _ (.tail _ (.tail _ (.tail _ (.tail _ (.head _))))))))))
theorem m_44_10 : Cond.selects RX12 yX12_cards yX12_cards ∈ wsL_law := uin_29 _ (.tail _ (.tail _ (.tail _ (.tail _ (.tail _ (.tail _ (.tail _ (.tail _ (.tail _ (.tail _ (.head _)))))))))))
theorem m_44_11 : Cond.code yX12_cards cX12_cards 4 (some .int) ∈ wsL_law := uin_29 _ (.tail _ (.tail _ (.tail _ (.tail _ (.tail _ (.tail _ (.tail _ (.tail _ (.tail _ (.tail _ (.tail _ (.head _))))))))))))
theorem m_44_12 : Cond.methodLink RX12 232 yX12_cardsLeft ∈ wsL_law := uin_29 _ (.tail _ (.tail _ (.tail _ (.tail _ (.tail _ (.tail _ (.tail _ (.tail _ (.tail _ (.tail _ (.tail _ (.tail _ (.head _)))))))))))))
theorem m_44_13 : Cond.instanceMethod yX12_cardsLeft ∈ wsL_law := uin_29 _ (.tail _ (.tail _ (.tail _ (.tail _ (.tail _ (.tail _ (.tail _ (.tail _ (.tail _ (.tail _ (.tail _ (.tail _ (.tail _ (.head _))))))))))))))
theorem m_44_14 : Cond.selects RX12 yX12_cardsLeft yX12_cardsLeft ∈ wsL_law := uin_29 _ (.tail _ (.tail _ (.tail _ (.tail _ (.tail _ (.tail _ (.tail _ (.tail _ (.tail _ (.tail _ (.tail _ (.tail _ (.tail _ (.tail _ (.head _)))))))))))))))
theorem m_44_15 : Cond.code yX12_cardsLeft cX12_cardsLeft 1 (some .int) ∈ wsL_law := uin_29 _ (.tail _ (.tail _ (.tail _ (.tail _ (.tail _ (.tail _ (.tail _ (.tail _ (.tail _ (.tail _ (.tail _ (.tail _ (.tail _ (.tail _ (.tail _ (.head _))))))))))))))))
theorem uin_30 : ∀ w ∈ uw_30, w ∈ wsL_law := fun w h => List.mem_append_left _ (List.mem_append_right _ (List.mem_append_right _ (List.mem_append_right _ (List.mem_append_right _ (List.mem_append_right _ (List.mem_append_right _ (List.mem_append_right _ (List.mem_append_right _ (List.mem_append_right _ (List.mem_append_right _ (List.mem_append_right _ (List.mem_append_right _ (List.mem_append_right _ (List.mem_append_right _ (List.mem_append_right _ (List.mem_append_right _ (List.mem_append_right _ (List.mem_append_right _ (List.mem_append_right _ (List.mem_append_right _ (List.mem_append_right _ (List.mem_append_right _ (List.mem_append_right _ (List.mem_append_right _ (List.mem_append_right _ (List.mem_append_right _ (List.mem_append_right _ (List.mem_append_right _ (List.mem_append_right _ (List.mem_append_right _ (List.mem_append_left _ h)))))))))))))))))))))))))))))))
theorem m_44_16 : Cond.fieldLink RX12 226 "SixBitBoardModel" "cardCount" "I" ∈ wsL_law := uin_30 _ (.head _)
theorem m_44_17 : Cond.fieldLink RX12 229 "SixBitBoardModel" "cardFirst" "I" ∈ wsL_law := uin_30 _ (.tail _ (.head _))
theorem m_44_18 : Cond.methodLink RX12 718 yX12_gatherCards ∈ wsL_law := uin_30 _ (.tail _ (.tail _ (.head _)))
theorem m_44_19 : Cond.instanceMethod yX12_gatherCards ∈ wsL_law := uin_30 _ (.tail _ (.tail _ (.tail _ (.head _))))
theorem m_44_20 : Cond.selects RX12 yX12_gatherCards yX12_gatherCards ∈ wsL_law := uin_30 _ (.tail _ (.tail _ (.tail _ (.tail _ (.head _)))))
theorem m_44_21 : Cond.code yX12_gatherCards cX12_gatherCards 7 none ∈ wsL_law := uin_30 _ (.tail _ (.tail _ (.tail _ (.tail _ (.tail _ (.head _))))))
theorem m_45_2 : Cond.methodLink RL 56 yX11_run ∈ wsL_law := uin_30 _ (.tail _ (.tail _ (.tail _ (.tail _ (.tail _ (.tail _ (.head _)))))))
theorem m_45_3 : Cond.instanceMethod yX11_run ∈ wsL_law := uin_30 _ (.tail _ (.tail _ (.tail _ (.tail _ (.tail _ (.tail _ (.tail _ (.head _))))))))
theorem m_45_4 : Cond.selects RX11 yX11_run yX11_run ∈ wsL_law := uin_30 _ (.tail _ (.tail _ (.tail _ (.tail _ (.tail _ (.tail _ (.tail _ (.tail _ (.head _)))))))))
theorem m_45_5 : Cond.code yX11_run cX11_run 2 (some .int) ∈ wsL_law := uin_30 _ (.tail _ (.tail _ (.tail _ (.tail _ (.tail _ (.tail _ (.tail _ (.tail _ (.tail _ (.head _))))))))))
theorem m_45_6 : Cond.constant RX11 146 (100000) ∈ wsL_law := uin_30 _ (.tail _ (.tail _ (.tail _ (.tail _ (.tail _ (.tail _ (.tail _ (.tail _ (.tail _ (.tail _ (.head _)))))))))))
theorem m_45_7 : Cond.methodLink RX11 147 yX11_advance ∈ wsL_law := uin_30 _ (.tail _ (.tail _ (.tail _ (.tail _ (.tail _ (.tail _ (.tail _ (.tail _ (.tail _ (.tail _ (.tail _ (.head _))))))))))))
theorem m_45_8 : Cond.instanceMethod yX11_advance ∈ wsL_law := uin_30 _ (.tail _ (.tail _ (.tail _ (.tail _ (.tail _ (.tail _ (.tail _ (.tail _ (.tail _ (.tail _ (.tail _ (.tail _ (.head _)))))))))))))
theorem m_45_9 : Cond.selects RX11 yX11_advance yX11_advance ∈ wsL_law := uin_30 _ (.tail _ (.tail _ (.tail _ (.tail _ (.tail _ (.tail _ (.tail _ (.tail _ (.tail _ (.tail _ (.tail _ (.tail _ (.tail _ (.head _))))))))))))))
theorem m_45_10 : Cond.code yX11_advance cX11_advance 5 (some .int) ∈ wsL_law := uin_30 _ (.tail _ (.tail _ (.tail _ (.tail _ (.tail _ (.tail _ (.tail _ (.tail _ (.tail _ (.tail _ (.tail _ (.tail _ (.tail _ (.tail _ (.head _)))))))))))))))
theorem m_45_11 : Cond.fieldLink RX11 220 "SixBitBoard$Machine" "status" "I" ∈ wsL_law := uin_30 _ (.tail _ (.tail _ (.tail _ (.tail _ (.tail _ (.tail _ (.tail _ (.tail _ (.tail _ (.tail _ (.tail _ (.tail _ (.tail _ (.tail _ (.tail _ (.head _))))))))))))))))
theorem uin_31 : ∀ w ∈ uw_31, w ∈ wsL_law := fun w h => List.mem_append_left _ (List.mem_append_right _ (List.mem_append_right _ (List.mem_append_right _ (List.mem_append_right _ (List.mem_append_right _ (List.mem_append_right _ (List.mem_append_right _ (List.mem_append_right _ (List.mem_append_right _ (List.mem_append_right _ (List.mem_append_right _ (List.mem_append_right _ (List.mem_append_right _ (List.mem_append_right _ (List.mem_append_right _ (List.mem_append_right _ (List.mem_append_right _ (List.mem_append_right _ (List.mem_append_right _ (List.mem_append_right _ (List.mem_append_right _ (List.mem_append_right _ (List.mem_append_right _ (List.mem_append_right _ (List.mem_append_right _ (List.mem_append_right _ (List.mem_append_right _ (List.mem_append_right _ (List.mem_append_right _ (List.mem_append_right _ (List.mem_append_right _ (List.mem_append_left _ h))))))))))))))))))))))))))))))))
theorem m_49_20 : Cond.instanceMethod yX6_hasCard ∈ wsL_law := uin_31 _ (.head _)
theorem m_49_21 : Cond.selects RX6 yX6_hasCard yX6_hasCard ∈ wsL_law := uin_31 _ (.tail _ (.head _))
theorem m_49_22 : Cond.code yX6_hasCard cX6_hasCard 2 (some .boolean) ∈ wsL_law := uin_31 _ (.tail _ (.tail _ (.head _)))
theorem m_53_6 : Cond.instanceMethod yX10_stored ∈ wsL_law := uin_31 _ (.tail _ (.tail _ (.tail _ (.head _))))
theorem m_53_7 : Cond.selects RX10 yX10_stored yX10_stored ∈ wsL_law := uin_31 _ (.tail _ (.tail _ (.tail _ (.tail _ (.head _)))))
theorem m_53_8 : Cond.code yX10_stored cX10_stored 4 (some .int) ∈ wsL_law := uin_31 _ (.tail _ (.tail _ (.tail _ (.tail _ (.tail _ (.head _))))))
theorem m_53_22 : Cond.instanceMethod yX10_paper ∈ wsL_law := uin_31 _ (.tail _ (.tail _ (.tail _ (.tail _ (.tail _ (.tail _ (.head _)))))))
theorem m_53_23 : Cond.selects RX10 yX10_paper yX10_paper ∈ wsL_law := uin_31 _ (.tail _ (.tail _ (.tail _ (.tail _ (.tail _ (.tail _ (.tail _ (.head _))))))))
theorem m_54_0 : Cond.code yX10_paper cX10_paper 2 (some (.object "SixBitBoard$Paper")) ∈ wsL_law := uin_31 _ (.tail _ (.tail _ (.tail _ (.tail _ (.tail _ (.tail _ (.tail _ (.tail _ (.head _)))))))))
theorem m_54_16 : Cond.initialized RJ6 ∈ wsL_law := uin_31 _ (.tail _ (.tail _ (.tail _ (.tail _ (.tail _ (.tail _ (.tail _ (.tail _ (.tail _ (.head _))))))))))
theorem m_56_5 : Cond.methodLink RL 59 yX12_run ∈ wsL_law := uin_31 _ (.tail _ (.tail _ (.tail _ (.tail _ (.tail _ (.tail _ (.tail _ (.tail _ (.tail _ (.tail _ (.head _)))))))))))
theorem m_56_6 : Cond.instanceMethod yX12_run ∈ wsL_law := uin_31 _ (.tail _ (.tail _ (.tail _ (.tail _ (.tail _ (.tail _ (.tail _ (.tail _ (.tail _ (.tail _ (.tail _ (.head _))))))))))))
theorem m_56_7 : Cond.selects RX12 yX12_run yX12_run ∈ wsL_law := uin_31 _ (.tail _ (.tail _ (.tail _ (.tail _ (.tail _ (.tail _ (.tail _ (.tail _ (.tail _ (.tail _ (.tail _ (.tail _ (.head _)))))))))))))
theorem m_56_8 : Cond.code yX12_run cX12_run 2 (some .int) ∈ wsL_law := uin_31 _ (.tail _ (.tail _ (.tail _ (.tail _ (.tail _ (.tail _ (.tail _ (.tail _ (.tail _ (.tail _ (.tail _ (.tail _ (.tail _ (.head _))))))))))))))
theorem m_56_9 : Cond.constant RX12 711 (100000) ∈ wsL_law := uin_31 _ (.tail _ (.tail _ (.tail _ (.tail _ (.tail _ (.tail _ (.tail _ (.tail _ (.tail _ (.tail _ (.tail _ (.tail _ (.tail _ (.tail _ (.head _)))))))))))))))
theorem m_56_10 : Cond.methodLink RX12 712 yX12_goOn ∈ wsL_law := uin_31 _ (.tail _ (.tail _ (.tail _ (.tail _ (.tail _ (.tail _ (.tail _ (.tail _ (.tail _ (.tail _ (.tail _ (.tail _ (.tail _ (.tail _ (.tail _ (.head _))))))))))))))))
theorem uin_32 : ∀ w ∈ uw_32, w ∈ wsL_law := fun w h => List.mem_append_left _ (List.mem_append_right _ (List.mem_append_right _ (List.mem_append_right _ (List.mem_append_right _ (List.mem_append_right _ (List.mem_append_right _ (List.mem_append_right _ (List.mem_append_right _ (List.mem_append_right _ (List.mem_append_right _ (List.mem_append_right _ (List.mem_append_right _ (List.mem_append_right _ (List.mem_append_right _ (List.mem_append_right _ (List.mem_append_right _ (List.mem_append_right _ (List.mem_append_right _ (List.mem_append_right _ (List.mem_append_right _ (List.mem_append_right _ (List.mem_append_right _ (List.mem_append_right _ (List.mem_append_right _ (List.mem_append_right _ (List.mem_append_right _ (List.mem_append_right _ (List.mem_append_right _ (List.mem_append_right _ (List.mem_append_right _ (List.mem_append_right _ (List.mem_append_right _ (List.mem_append_left _ h)))))))))))))))))))))))))))))))))
theorem m_56_11 : Cond.instanceMethod yX12_goOn ∈ wsL_law := uin_32 _ (.head _)
theorem m_56_12 : Cond.selects RX12 yX12_goOn yX12_goOn ∈ wsL_law := uin_32 _ (.tail _ (.head _))
theorem m_56_13 : Cond.code yX12_goOn cX12_goOn 4 (some .int) ∈ wsL_law := uin_32 _ (.tail _ (.tail _ (.head _)))
theorem m_64_12 : Cond.methodLink RL 60 yX11_go ∈ wsL_law := uin_32 _ (.tail _ (.tail _ (.tail _ (.head _))))
theorem m_64_13 : Cond.instanceMethod yX11_go ∈ wsL_law := uin_32 _ (.tail _ (.tail _ (.tail _ (.tail _ (.head _)))))
theorem m_64_14 : Cond.selects RX11 yX11_go yX11_go ∈ wsL_law := uin_32 _ (.tail _ (.tail _ (.tail _ (.tail _ (.tail _ (.head _))))))
theorem m_64_15 : Cond.code yX11_go cX11_go 1 (some .boolean) ∈ wsL_law := uin_32 _ (.tail _ (.tail _ (.tail _ (.tail _ (.tail _ (.tail _ (.head _)))))))
theorem m_64_16 : Cond.fieldLink RX11 153 "SixBitBoard$Assembler" "whole" "Z" ∈ wsL_law := uin_32 _ (.tail _ (.tail _ (.tail _ (.tail _ (.tail _ (.tail _ (.tail _ (.head _))))))))
theorem m_64_17 : Cond.fieldLink RX11 157 "SixBitBoard$Machine" "memory" "[I" ∈ wsL_law := uin_32 _ (.tail _ (.tail _ (.tail _ (.tail _ (.tail _ (.tail _ (.tail _ (.tail _ (.head _)))))))))
theorem m_64_18 : Cond.methodLink RX11 149 yX6_hasCard ∈ wsL_law := uin_32 _ (.tail _ (.tail _ (.tail _ (.tail _ (.tail _ (.tail _ (.tail _ (.tail _ (.tail _ (.head _))))))))))
theorem m_64_20 : Cond.methodLink RL 64 yX12_go ∈ wsL_law := uin_32 _ (.tail _ (.tail _ (.tail _ (.tail _ (.tail _ (.tail _ (.tail _ (.tail _ (.tail _ (.tail _ (.head _)))))))))))
theorem m_64_21 : Cond.instanceMethod yX12_go ∈ wsL_law := uin_32 _ (.tail _ (.tail _ (.tail _ (.tail _ (.tail _ (.tail _ (.tail _ (.tail _ (.tail _ (.tail _ (.tail _ (.head _))))))))))))
theorem m_64_22 : Cond.selects RX12 yX12_go yX12_go ∈ wsL_law := uin_32 _ (.tail _ (.tail _ (.tail _ (.tail _ (.tail _ (.tail _ (.tail _ (.tail _ (.tail _ (.tail _ (.tail _ (.tail _ (.head _)))))))))))))
theorem m_64_23 : Cond.code yX12_go cX12_go 2 (some .boolean) ∈ wsL_law := uin_32 _ (.tail _ (.tail _ (.tail _ (.tail _ (.tail _ (.tail _ (.tail _ (.tail _ (.tail _ (.tail _ (.tail _ (.tail _ (.tail _ (.head _))))))))))))))
theorem m_65_0 : Cond.methodLink RL 65 yX11_deck ∈ wsL_law := uin_32 _ (.tail _ (.tail _ (.tail _ (.tail _ (.tail _ (.tail _ (.tail _ (.tail _ (.tail _ (.tail _ (.tail _ (.tail _ (.tail _ (.tail _ (.head _)))))))))))))))
theorem m_65_1 : Cond.instanceMethod yX11_deck ∈ wsL_law := uin_32 _ (.tail _ (.tail _ (.tail _ (.tail _ (.tail _ (.tail _ (.tail _ (.tail _ (.tail _ (.tail _ (.tail _ (.tail _ (.tail _ (.tail _ (.tail _ (.head _))))))))))))))))
theorem uin_33 : ∀ w ∈ uw_33, w ∈ wsL_law := fun w h => List.mem_append_left _ (List.mem_append_right _ (List.mem_append_right _ (List.mem_append_right _ (List.mem_append_right _ (List.mem_append_right _ (List.mem_append_right _ (List.mem_append_right _ (List.mem_append_right _ (List.mem_append_right _ (List.mem_append_right _ (List.mem_append_right _ (List.mem_append_right _ (List.mem_append_right _ (List.mem_append_right _ (List.mem_append_right _ (List.mem_append_right _ (List.mem_append_right _ (List.mem_append_right _ (List.mem_append_right _ (List.mem_append_right _ (List.mem_append_right _ (List.mem_append_right _ (List.mem_append_right _ (List.mem_append_right _ (List.mem_append_right _ (List.mem_append_right _ (List.mem_append_right _ (List.mem_append_right _ (List.mem_append_right _ (List.mem_append_right _ (List.mem_append_right _ (List.mem_append_right _ (List.mem_append_right _ (List.mem_append_left _ h))))))))))))))))))))))))))))))))))
theorem m_65_2 : Cond.selects RX11 yX11_deck yX11_deck ∈ wsL_law := uin_33 _ (.head _)
theorem m_65_3 : Cond.code yX11_deck cX11_deck 1 (some .int) ∈ wsL_law := uin_33 _ (.tail _ (.head _))
theorem m_66_0 : Cond.methodLink RL 68 yX12_deck ∈ wsL_law := uin_33 _ (.tail _ (.tail _ (.head _)))
theorem m_66_1 : Cond.instanceMethod yX12_deck ∈ wsL_law := uin_33 _ (.tail _ (.tail _ (.tail _ (.head _))))
theorem m_66_2 : Cond.selects RX12 yX12_deck yX12_deck ∈ wsL_law := uin_33 _ (.tail _ (.tail _ (.tail _ (.tail _ (.head _)))))
theorem m_66_3 : Cond.code yX12_deck cX12_deck 1 (some .int) ∈ wsL_law := uin_33 _ (.tail _ (.tail _ (.tail _ (.tail _ (.tail _ (.head _))))))
theorem m_66_20 : Cond.methodLink RL 69 yX11_list ∈ wsL_law := uin_33 _ (.tail _ (.tail _ (.tail _ (.tail _ (.tail _ (.tail _ (.head _)))))))
theorem m_66_21 : Cond.instanceMethod yX11_list ∈ wsL_law := uin_33 _ (.tail _ (.tail _ (.tail _ (.tail _ (.tail _ (.tail _ (.tail _ (.head _))))))))
theorem m_66_22 : Cond.selects RX11 yX11_list yX11_list ∈ wsL_law := uin_33 _ (.tail _ (.tail _ (.tail _ (.tail _ (.tail _ (.tail _ (.tail _ (.tail _ (.head _)))))))))
theorem m_66_23 : Cond.code yX11_list cX11_list 1 (some .int) ∈ wsL_law := uin_33 _ (.tail _ (.tail _ (.tail _ (.tail _ (.tail _ (.tail _ (.tail _ (.tail _ (.tail _ (.head _))))))))))
theorem m_67_4 : Cond.methodLink RL 72 yX12_list ∈ wsL_law := uin_33 _ (.tail _ (.tail _ (.tail _ (.tail _ (.tail _ (.tail _ (.tail _ (.tail _ (.tail _ (.tail _ (.head _)))))))))))
theorem m_67_5 : Cond.instanceMethod yX12_list ∈ wsL_law := uin_33 _ (.tail _ (.tail _ (.tail _ (.tail _ (.tail _ (.tail _ (.tail _ (.tail _ (.tail _ (.tail _ (.tail _ (.head _))))))))))))
theorem m_67_6 : Cond.selects RX12 yX12_list yX12_list ∈ wsL_law := uin_33 _ (.tail _ (.tail _ (.tail _ (.tail _ (.tail _ (.tail _ (.tail _ (.tail _ (.tail _ (.tail _ (.tail _ (.tail _ (.head _)))))))))))))
theorem m_67_7 : Cond.code yX12_list cX12_list 1 (some .int) ∈ wsL_law := uin_33 _ (.tail _ (.tail _ (.tail _ (.tail _ (.tail _ (.tail _ (.tail _ (.tail _ (.tail _ (.tail _ (.tail _ (.tail _ (.tail _ (.head _))))))))))))))
theorem m_67_12 : Cond.methodLink RL 73 yX11_listing ∈ wsL_law := uin_33 _ (.tail _ (.tail _ (.tail _ (.tail _ (.tail _ (.tail _ (.tail _ (.tail _ (.tail _ (.tail _ (.tail _ (.tail _ (.tail _ (.tail _ (.head _)))))))))))))))
theorem m_67_13 : Cond.instanceMethod yX11_listing ∈ wsL_law := uin_33 _ (.tail _ (.tail _ (.tail _ (.tail _ (.tail _ (.tail _ (.tail _ (.tail _ (.tail _ (.tail _ (.tail _ (.tail _ (.tail _ (.tail _ (.tail _ (.head _))))))))))))))))
theorem uin_34 : ∀ w ∈ uw_34, w ∈ wsL_law := fun w h => List.mem_append_left _ (List.mem_append_right _ (List.mem_append_right _ (List.mem_append_right _ (List.mem_append_right _ (List.mem_append_right _ (List.mem_append_right _ (List.mem_append_right _ (List.mem_append_right _ (List.mem_append_right _ (List.mem_append_right _ (List.mem_append_right _ (List.mem_append_right _ (List.mem_append_right _ (List.mem_append_right _ (List.mem_append_right _ (List.mem_append_right _ (List.mem_append_right _ (List.mem_append_right _ (List.mem_append_right _ (List.mem_append_right _ (List.mem_append_right _ (List.mem_append_right _ (List.mem_append_right _ (List.mem_append_right _ (List.mem_append_right _ (List.mem_append_right _ (List.mem_append_right _ (List.mem_append_right _ (List.mem_append_right _ (List.mem_append_right _ (List.mem_append_right _ (List.mem_append_right _ (List.mem_append_right _ (List.mem_append_right _ (List.mem_append_left _ h)))))))))))))))))))))))))))))))))))
theorem m_67_14 : Cond.selects RX11 yX11_listing yX11_listing ∈ wsL_law := uin_34 _ (.head _)
theorem m_67_15 : Cond.code yX11_listing cX11_listing 1 (some .int) ∈ wsL_law := uin_34 _ (.tail _ (.head _))
theorem m_68_3 : Cond.methodLink RL 76 yX12_listing ∈ wsL_law := uin_34 _ (.tail _ (.tail _ (.head _)))
theorem m_68_4 : Cond.instanceMethod yX12_listing ∈ wsL_law := uin_34 _ (.tail _ (.tail _ (.tail _ (.head _))))
theorem m_68_5 : Cond.selects RX12 yX12_listing yX12_listing ∈ wsL_law := uin_34 _ (.tail _ (.tail _ (.tail _ (.tail _ (.head _)))))
theorem m_68_6 : Cond.code yX12_listing cX12_listing 2 (some .int) ∈ wsL_law := uin_34 _ (.tail _ (.tail _ (.tail _ (.tail _ (.tail _ (.head _))))))
theorem m_68_7 : Cond.methodLink RL 77 yX11_names ∈ wsL_law := uin_34 _ (.tail _ (.tail _ (.tail _ (.tail _ (.tail _ (.tail _ (.head _)))))))
theorem m_68_8 : Cond.instanceMethod yX11_names ∈ wsL_law := uin_34 _ (.tail _ (.tail _ (.tail _ (.tail _ (.tail _ (.tail _ (.tail _ (.head _))))))))
theorem m_68_9 : Cond.selects RX11 yX11_names yX11_names ∈ wsL_law := uin_34 _ (.tail _ (.tail _ (.tail _ (.tail _ (.tail _ (.tail _ (.tail _ (.tail _ (.head _)))))))))
theorem m_68_10 : Cond.code yX11_names cX11_names 1 (some .int) ∈ wsL_law := uin_34 _ (.tail _ (.tail _ (.tail _ (.tail _ (.tail _ (.tail _ (.tail _ (.tail _ (.tail _ (.head _))))))))))
theorem m_69_16 : Cond.methodLink RL 80 yX12_names ∈ wsL_law := uin_34 _ (.tail _ (.tail _ (.tail _ (.tail _ (.tail _ (.tail _ (.tail _ (.tail _ (.tail _ (.tail _ (.head _)))))))))))
theorem m_69_17 : Cond.instanceMethod yX12_names ∈ wsL_law := uin_34 _ (.tail _ (.tail _ (.tail _ (.tail _ (.tail _ (.tail _ (.tail _ (.tail _ (.tail _ (.tail _ (.tail _ (.head _))))))))))))
theorem m_69_18 : Cond.selects RX12 yX12_names yX12_names ∈ wsL_law := uin_34 _ (.tail _ (.tail _ (.tail _ (.tail _ (.tail _ (.tail _ (.tail _ (.tail _ (.tail _ (.tail _ (.tail _ (.tail _ (.head _)))))))))))))
theorem m_69_19 : Cond.code yX12_names cX12_names 1 (some .int) ∈ wsL_law := uin_34 _ (.tail _ (.tail _ (.tail _ (.tail _ (.tail _ (.tail _ (.tail _ (.tail _ (.tail _ (.tail _ (.tail _ (.tail _ (.tail _ (.head _))))))))))))))
theorem m_70_8 : Cond.methodLink RL 81 yX11_trace ∈ wsL_law := uin_34 _ (.tail _ (.tail _ (.tail _ (.tail _ (.tail _ (.tail _ (.tail _ (.tail _ (.tail _ (.tail _ (.tail _ (.tail _ (.tail _ (.tail _ (.head _)))))))))))))))
theorem m_70_9 : Cond.instanceMethod yX11_trace ∈ wsL_law := uin_34 _ (.tail _ (.tail _ (.tail _ (.tail _ (.tail _ (.tail _ (.tail _ (.tail _ (.tail _ (.tail _ (.tail _ (.tail _ (.tail _ (.tail _ (.tail _ (.head _))))))))))))))))
theorem uin_35 : ∀ w ∈ uw_35, w ∈ wsL_law := fun w h => List.mem_append_left _ (List.mem_append_right _ (List.mem_append_right _ (List.mem_append_right _ (List.mem_append_right _ (List.mem_append_right _ (List.mem_append_right _ (List.mem_append_right _ (List.mem_append_right _ (List.mem_append_right _ (List.mem_append_right _ (List.mem_append_right _ (List.mem_append_right _ (List.mem_append_right _ (List.mem_append_right _ (List.mem_append_right _ (List.mem_append_right _ (List.mem_append_right _ (List.mem_append_right _ (List.mem_append_right _ (List.mem_append_right _ (List.mem_append_right _ (List.mem_append_right _ (List.mem_append_right _ (List.mem_append_right _ (List.mem_append_right _ (List.mem_append_right _ (List.mem_append_right _ (List.mem_append_right _ (List.mem_append_right _ (List.mem_append_right _ (List.mem_append_right _ (List.mem_append_right _ (List.mem_append_right _ (List.mem_append_right _ (List.mem_append_right _ (List.mem_append_left _ h))))))))))))))))))))))))))))))))))))
theorem m_70_10 : Cond.selects RX11 yX11_trace yX11_trace ∈ wsL_law := uin_35 _ (.head _)
theorem m_70_11 : Cond.code yX11_trace cX11_trace 2 (some .int) ∈ wsL_law := uin_35 _ (.tail _ (.head _))
theorem m_70_12 : Cond.methodLink RL 84 yX12_trace ∈ wsL_law := uin_35 _ (.tail _ (.tail _ (.head _)))
theorem m_70_13 : Cond.instanceMethod yX12_trace ∈ wsL_law := uin_35 _ (.tail _ (.tail _ (.tail _ (.head _))))
theorem m_70_14 : Cond.selects RX12 yX12_trace yX12_trace ∈ wsL_law := uin_35 _ (.tail _ (.tail _ (.tail _ (.tail _ (.head _)))))
theorem m_70_15 : Cond.code yX12_trace cX12_trace 3 (some .int) ∈ wsL_law := uin_35 _ (.tail _ (.tail _ (.tail _ (.tail _ (.tail _ (.head _))))))
theorem m_70_16 : Cond.methodLink RL 85 yX11_mount ∈ wsL_law := uin_35 _ (.tail _ (.tail _ (.tail _ (.tail _ (.tail _ (.tail _ (.head _)))))))
theorem m_70_17 : Cond.instanceMethod yX11_mount ∈ wsL_law := uin_35 _ (.tail _ (.tail _ (.tail _ (.tail _ (.tail _ (.tail _ (.tail _ (.head _))))))))
theorem m_70_18 : Cond.selects RX11 yX11_mount yX11_mount ∈ wsL_law := uin_35 _ (.tail _ (.tail _ (.tail _ (.tail _ (.tail _ (.tail _ (.tail _ (.tail _ (.head _)))))))))
theorem m_70_19 : Cond.code yX11_mount cX11_mount 7 (some .int) ∈ wsL_law := uin_35 _ (.tail _ (.tail _ (.tail _ (.tail _ (.tail _ (.tail _ (.tail _ (.tail _ (.tail _ (.head _))))))))))
theorem m_71_2 : Cond.methodLink RL 89 yX12_mount ∈ wsL_law := uin_35 _ (.tail _ (.tail _ (.tail _ (.tail _ (.tail _ (.tail _ (.tail _ (.tail _ (.tail _ (.tail _ (.head _)))))))))))
theorem m_71_3 : Cond.instanceMethod yX12_mount ∈ wsL_law := uin_35 _ (.tail _ (.tail _ (.tail _ (.tail _ (.tail _ (.tail _ (.tail _ (.tail _ (.tail _ (.tail _ (.tail _ (.head _))))))))))))
theorem m_71_4 : Cond.selects RX12 yX12_mount yX12_mount ∈ wsL_law := uin_35 _ (.tail _ (.tail _ (.tail _ (.tail _ (.tail _ (.tail _ (.tail _ (.tail _ (.tail _ (.tail _ (.tail _ (.tail _ (.head _)))))))))))))
theorem m_71_5 : Cond.code yX12_mount cX12_mount 10 (some .int) ∈ wsL_law := uin_35 _ (.tail _ (.tail _ (.tail _ (.tail _ (.tail _ (.tail _ (.tail _ (.tail _ (.tail _ (.tail _ (.tail _ (.tail _ (.tail _ (.head _))))))))))))))
theorem m_71_6 : Cond.methodLink RL 90 yX11_jobs ∈ wsL_law := uin_35 _ (.tail _ (.tail _ (.tail _ (.tail _ (.tail _ (.tail _ (.tail _ (.tail _ (.tail _ (.tail _ (.tail _ (.tail _ (.tail _ (.tail _ (.head _)))))))))))))))
theorem m_71_7 : Cond.instanceMethod yX11_jobs ∈ wsL_law := uin_35 _ (.tail _ (.tail _ (.tail _ (.tail _ (.tail _ (.tail _ (.tail _ (.tail _ (.tail _ (.tail _ (.tail _ (.tail _ (.tail _ (.tail _ (.tail _ (.head _))))))))))))))))
theorem uin_36 : ∀ w ∈ uw_36, w ∈ wsL_law := fun w h => List.mem_append_left _ (List.mem_append_right _ (List.mem_append_right _ (List.mem_append_right _ (List.mem_append_right _ (List.mem_append_right _ (List.mem_append_right _ (List.mem_append_right _ (List.mem_append_right _ (List.mem_append_right _ (List.mem_append_right _ (List.mem_append_right _ (List.mem_append_right _ (List.mem_append_right _ (List.mem_append_right _ (List.mem_append_right _ (List.mem_append_right _ (List.mem_append_right _ (List.mem_append_right _ (List.mem_append_right _ (List.mem_append_right _ (List.mem_append_right _ (List.mem_append_right _ (List.mem_append_right _ (List.mem_append_right _ (List.mem_append_right _ (List.mem_append_right _ (List.mem_append_right _ (List.mem_append_right _ (List.mem_append_right _ (List.mem_append_right _ (List.mem_append_right _ (List.mem_append_right _ (List.mem_append_right _ (List.mem_append_right _ (List.mem_append_right _ (List.mem_append_right _ (List.mem_append_left _ h)))))))))))))))))))))))))))))))))))))
theorem m_71_8 : Cond.selects RX11 yX11_jobs yX11_jobs ∈ wsL_law := uin_36 _ (.head _)
theorem m_71_9 : Cond.code yX11_jobs cX11_jobs 5 (some .int) ∈ wsL_law := uin_36 _ (.tail _ (.head _))
theorem m_71_12 : Cond.methodLink RX11 185 yX3_seek ∈ wsL_law := uin_36 _ (.tail _ (.tail _ (.head _)))
theorem m_71_13 : Cond.instanceMethod yX3_seek ∈ wsL_law := uin_36 _ (.tail _ (.tail _ (.tail _ (.head _))))
theorem m_71_14 : Cond.selects RX3 yX3_seek yX3_seek ∈ wsL_law := uin_36 _ (.tail _ (.tail _ (.tail _ (.tail _ (.head _)))))
theorem m_71_15 : Cond.code yX3_seek cX3_seek 3 (some .boolean) ∈ wsL_law := uin_36 _ (.tail _ (.tail _ (.tail _ (.tail _ (.tail _ (.head _))))))
theorem m_71_18 : Cond.methodLink RX3 36 yX9_advance ∈ wsL_law := uin_36 _ (.tail _ (.tail _ (.tail _ (.tail _ (.tail _ (.tail _ (.head _)))))))
theorem m_74_8 : Cond.fieldLink RX3 25 "SixBitBoard$Monitor" "count" "I" ∈ wsL_law := uin_36 _ (.tail _ (.tail _ (.tail _ (.tail _ (.tail _ (.tail _ (.tail _ (.head _))))))))
theorem m_76_20 : Cond.fieldLink RX11 232 "SixBitBoard$Machine" "counter" "I" ∈ wsL_law := uin_36 _ (.tail _ (.tail _ (.tail _ (.tail _ (.tail _ (.tail _ (.tail _ (.tail _ (.head _)))))))))
theorem m_77_5 : Cond.fieldLink RX11 244 "SixBitBoard$Machine" "time" "J" ∈ wsL_law := uin_36 _ (.tail _ (.tail _ (.tail _ (.tail _ (.tail _ (.tail _ (.tail _ (.tail _ (.tail _ (.head _))))))))))
theorem m_77_18 : Cond.instanceMethod yX3_entry ∈ wsL_law := uin_36 _ (.tail _ (.tail _ (.tail _ (.tail _ (.tail _ (.tail _ (.tail _ (.tail _ (.tail _ (.tail _ (.head _)))))))))))
theorem m_77_19 : Cond.selects RX3 yX3_entry yX3_entry ∈ wsL_law := uin_36 _ (.tail _ (.tail _ (.tail _ (.tail _ (.tail _ (.tail _ (.tail _ (.tail _ (.tail _ (.tail _ (.tail _ (.head _))))))))))))
theorem m_77_20 : Cond.code yX3_entry cX3_entry 3 (some .int) ∈ wsL_law := uin_36 _ (.tail _ (.tail _ (.tail _ (.tail _ (.tail _ (.tail _ (.tail _ (.tail _ (.tail _ (.tail _ (.tail _ (.tail _ (.head _)))))))))))))
theorem m_78_10 : Cond.methodLink RL 93 yX12_jobs ∈ wsL_law := uin_36 _ (.tail _ (.tail _ (.tail _ (.tail _ (.tail _ (.tail _ (.tail _ (.tail _ (.tail _ (.tail _ (.tail _ (.tail _ (.tail _ (.head _))))))))))))))
theorem m_78_11 : Cond.instanceMethod yX12_jobs ∈ wsL_law := uin_36 _ (.tail _ (.tail _ (.tail _ (.tail _ (.tail _ (.tail _ (.tail _ (.tail _ (.tail _ (.tail _ (.tail _ (.tail _ (.tail _ (.tail _ (.head _)))))))))))))))
theorem m_78_12 : Cond.selects RX12 yX12_jobs yX12_jobs ∈ wsL_law := uin_36 _ (.tail _ (.tail _ (.tail _ (.tail _ (.tail _ (.tail _ (.tail _ (.tail _ (.tail _ (.tail _ (.tail _ (.tail _ (.tail _ (.tail _ (.tail _ (.head _))))))))))))))))
theorem uin_37 : ∀ w ∈ uw_37, w ∈ wsL_law := fun w h => List.mem_append_left _ (List.mem_append_right _ (List.mem_append_right _ (List.mem_append_right _ (List.mem_append_right _ (List.mem_append_right _ (List.mem_append_right _ (List.mem_append_right _ (List.mem_append_right _ (List.mem_append_right _ (List.mem_append_right _ (List.mem_append_right _ (List.mem_append_right _ (List.mem_append_right _ (List.mem_append_right _ (List.mem_append_right _ (List.mem_append_right _ (List.mem_append_right _ (List.mem_append_right _ (List.mem_append_right _ (List.mem_append_right _ (List.mem_append_right _ (List.mem_append_right _ (List.mem_append_right _ (List.mem_append_right _ (List.mem_append_right _ (List.mem_append_right _ (List.mem_append_right _ (List.mem_append_right _ (List.mem_append_right _ (List.mem_append_right _ (List.mem_append_right _ (List.mem_append_right _ (List.mem_append_right _ (List.mem_append_right _ (List.mem_append_right _ (List.mem_append_right _ (List.mem_append_right _ (List.mem_append_left _ h))))))))))))))))))))))))))))))))))))))
theorem m_78_13 : Cond.code yX12_jobs cX12_jobs 5 (some .int) ∈ wsL_law := uin_37 _ (.head _)
theorem m_78_14 : Cond.fieldLink RX12 764 "SixBitBoardModel" "deckLines" "I" ∈ wsL_law := uin_37 _ (.tail _ (.head _))
theorem m_78_15 : Cond.fieldLink RX12 770 "SixBitBoardModel" "hasImage" "Z" ∈ wsL_law := uin_37 _ (.tail _ (.tail _ (.head _)))
theorem m_78_16 : Cond.fieldLink RX12 773 "SixBitBoardModel" "jobsMade" "I" ∈ wsL_law := uin_37 _ (.tail _ (.tail _ (.tail _ (.head _))))
theorem m_81_19 : Cond.fieldLink RX12 849 "SixBitBoardModel" "accounts" "I" ∈ wsL_law := uin_37 _ (.tail _ (.tail _ (.tail _ (.tail _ (.head _)))))
theorem m_82_7 : Cond.methodLink RL 94 yX11_account ∈ wsL_law := uin_37 _ (.tail _ (.tail _ (.tail _ (.tail _ (.tail _ (.head _))))))
theorem m_82_8 : Cond.instanceMethod yX11_account ∈ wsL_law := uin_37 _ (.tail _ (.tail _ (.tail _ (.tail _ (.tail _ (.tail _ (.head _)))))))
theorem m_82_9 : Cond.selects RX11 yX11_account yX11_account ∈ wsL_law := uin_37 _ (.tail _ (.tail _ (.tail _ (.tail _ (.tail _ (.tail _ (.tail _ (.head _))))))))
theorem m_82_10 : Cond.code yX11_account cX11_account 3 (some .int) ∈ wsL_law := uin_37 _ (.tail _ (.tail _ (.tail _ (.tail _ (.tail _ (.tail _ (.tail _ (.tail _ (.head _)))))))))
theorem m_82_11 : Cond.methodLink RX11 210 yX3_entry ∈ wsL_law := uin_37 _ (.tail _ (.tail _ (.tail _ (.tail _ (.tail _ (.tail _ (.tail _ (.tail _ (.tail _ (.head _))))))))))
theorem m_82_12 : Cond.methodLink RL 97 yX12_account ∈ wsL_law := uin_37 _ (.tail _ (.tail _ (.tail _ (.tail _ (.tail _ (.tail _ (.tail _ (.tail _ (.tail _ (.tail _ (.head _)))))))))))
theorem m_82_13 : Cond.instanceMethod yX12_account ∈ wsL_law := uin_37 _ (.tail _ (.tail _ (.tail _ (.tail _ (.tail _ (.tail _ (.tail _ (.tail _ (.tail _ (.tail _ (.tail _ (.head _))))))))))))
theorem m_82_14 : Cond.selects RX12 yX12_account yX12_account ∈ wsL_law := uin_37 _ (.tail _ (.tail _ (.tail _ (.tail _ (.tail _ (.tail _ (.tail _ (.tail _ (.tail _ (.tail _ (.tail _ (.tail _ (.head _)))))))))))))
theorem m_82_15 : Cond.code yX12_account cX12_account 3 (some .int) ∈ wsL_law := uin_37 _ (.tail _ (.tail _ (.tail _ (.tail _ (.tail _ (.tail _ (.tail _ (.tail _ (.tail _ (.tail _ (.tail _ (.tail _ (.tail _ (.head _))))))))))))))
theorem m_82_16 : Cond.methodLink RL 98 yX11_summary ∈ wsL_law := uin_37 _ (.tail _ (.tail _ (.tail _ (.tail _ (.tail _ (.tail _ (.tail _ (.tail _ (.tail _ (.tail _ (.tail _ (.tail _ (.tail _ (.tail _ (.head _)))))))))))))))
theorem m_82_17 : Cond.instanceMethod yX11_summary ∈ wsL_law := uin_37 _ (.tail _ (.tail _ (.tail _ (.tail _ (.tail _ (.tail _ (.tail _ (.tail _ (.tail _ (.tail _ (.tail _ (.tail _ (.tail _ (.tail _ (.tail _ (.head _))))))))))))))))
theorem uin_38 : ∀ w ∈ uw_38, w ∈ wsL_law := fun w h => List.mem_append_left _ (List.mem_append_right _ (List.mem_append_right _ (List.mem_append_right _ (List.mem_append_right _ (List.mem_append_right _ (List.mem_append_right _ (List.mem_append_right _ (List.mem_append_right _ (List.mem_append_right _ (List.mem_append_right _ (List.mem_append_right _ (List.mem_append_right _ (List.mem_append_right _ (List.mem_append_right _ (List.mem_append_right _ (List.mem_append_right _ (List.mem_append_right _ (List.mem_append_right _ (List.mem_append_right _ (List.mem_append_right _ (List.mem_append_right _ (List.mem_append_right _ (List.mem_append_right _ (List.mem_append_right _ (List.mem_append_right _ (List.mem_append_right _ (List.mem_append_right _ (List.mem_append_right _ (List.mem_append_right _ (List.mem_append_right _ (List.mem_append_right _ (List.mem_append_right _ (List.mem_append_right _ (List.mem_append_right _ (List.mem_append_right _ (List.mem_append_right _ (List.mem_append_right _ (List.mem_append_right _ (List.mem_append_left _ h)))))))))))))))))))))))))))))))))))))))
theorem m_82_18 : Cond.selects RX11 yX11_summary yX11_summary ∈ wsL_law := uin_38 _ (.head _)
theorem m_82_19 : Cond.code yX11_summary cX11_summary 1 (some .int) ∈ wsL_law := uin_38 _ (.tail _ (.head _))
theorem m_82_20 : Cond.fieldLink RX11 213 "SixBitBoard$Monitor" "count" "I" ∈ wsL_law := uin_38 _ (.tail _ (.tail _ (.head _)))
theorem m_83_2 : Cond.methodLink RL 101 yX12_summary ∈ wsL_law := uin_38 _ (.tail _ (.tail _ (.tail _ (.head _))))
theorem m_83_3 : Cond.instanceMethod yX12_summary ∈ wsL_law := uin_38 _ (.tail _ (.tail _ (.tail _ (.tail _ (.head _)))))
theorem m_83_4 : Cond.selects RX12 yX12_summary yX12_summary ∈ wsL_law := uin_38 _ (.tail _ (.tail _ (.tail _ (.tail _ (.tail _ (.head _))))))
theorem m_83_5 : Cond.code yX12_summary cX12_summary 5 (some .int) ∈ wsL_law := uin_38 _ (.tail _ (.tail _ (.tail _ (.tail _ (.tail _ (.tail _ (.head _)))))))
theorem m_83_6 : Cond.methodLink RL 102 yX11_state ∈ wsL_law := uin_38 _ (.tail _ (.tail _ (.tail _ (.tail _ (.tail _ (.tail _ (.tail _ (.head _))))))))
theorem m_83_7 : Cond.instanceMethod yX11_state ∈ wsL_law := uin_38 _ (.tail _ (.tail _ (.tail _ (.tail _ (.tail _ (.tail _ (.tail _ (.tail _ (.head _)))))))))
theorem m_83_8 : Cond.selects RX11 yX11_state yX11_state ∈ wsL_law := uin_38 _ (.tail _ (.tail _ (.tail _ (.tail _ (.tail _ (.tail _ (.tail _ (.tail _ (.tail _ (.head _))))))))))
theorem m_83_9 : Cond.code yX11_state cX11_state 1 (some .int) ∈ wsL_law := uin_38 _ (.tail _ (.tail _ (.tail _ (.tail _ (.tail _ (.tail _ (.tail _ (.tail _ (.tail _ (.tail _ (.head _)))))))))))
theorem m_83_10 : Cond.methodLink RL 105 yX12_state ∈ wsL_law := uin_38 _ (.tail _ (.tail _ (.tail _ (.tail _ (.tail _ (.tail _ (.tail _ (.tail _ (.tail _ (.tail _ (.tail _ (.head _))))))))))))
theorem m_83_11 : Cond.instanceMethod yX12_state ∈ wsL_law := uin_38 _ (.tail _ (.tail _ (.tail _ (.tail _ (.tail _ (.tail _ (.tail _ (.tail _ (.tail _ (.tail _ (.tail _ (.tail _ (.head _)))))))))))))
theorem m_83_12 : Cond.selects RX12 yX12_state yX12_state ∈ wsL_law := uin_38 _ (.tail _ (.tail _ (.tail _ (.tail _ (.tail _ (.tail _ (.tail _ (.tail _ (.tail _ (.tail _ (.tail _ (.tail _ (.tail _ (.head _))))))))))))))
theorem m_83_13 : Cond.code yX12_state cX12_state 1 (some .int) ∈ wsL_law := uin_38 _ (.tail _ (.tail _ (.tail _ (.tail _ (.tail _ (.tail _ (.tail _ (.tail _ (.tail _ (.tail _ (.tail _ (.tail _ (.tail _ (.tail _ (.head _)))))))))))))))
theorem m_83_14 : Cond.methodLink RL 106 yL_register ∈ wsL_law := uin_38 _ (.tail _ (.tail _ (.tail _ (.tail _ (.tail _ (.tail _ (.tail _ (.tail _ (.tail _ (.tail _ (.tail _ (.tail _ (.tail _ (.tail _ (.tail _ (.head _))))))))))))))))
theorem uin_39 : ∀ w ∈ uw_39, w ∈ wsL_law := fun w h => List.mem_append_left _ (List.mem_append_right _ (List.mem_append_right _ (List.mem_append_right _ (List.mem_append_right _ (List.mem_append_right _ (List.mem_append_right _ (List.mem_append_right _ (List.mem_append_right _ (List.mem_append_right _ (List.mem_append_right _ (List.mem_append_right _ (List.mem_append_right _ (List.mem_append_right _ (List.mem_append_right _ (List.mem_append_right _ (List.mem_append_right _ (List.mem_append_right _ (List.mem_append_right _ (List.mem_append_right _ (List.mem_append_right _ (List.mem_append_right _ (List.mem_append_right _ (List.mem_append_right _ (List.mem_append_right _ (List.mem_append_right _ (List.mem_append_right _ (List.mem_append_right _ (List.mem_append_right _ (List.mem_append_right _ (List.mem_append_right _ (List.mem_append_right _ (List.mem_append_right _ (List.mem_append_right _ (List.mem_append_right _ (List.mem_append_right _ (List.mem_append_right _ (List.mem_append_right _ (List.mem_append_right _ (List.mem_append_right _ (List.mem_append_left _ h))))))))))))))))))))))))))))))))))))))))
theorem m_83_15 : Cond.static yL_register ∈ wsL_law := uin_39 _ (.head _)
theorem m_83_16 : Cond.initialized RL ∈ wsL_law := uin_39 _ (.tail _ (.head _))
theorem m_83_17 : Cond.codeWith yL_register cL_register 4 (some .int) [(0, 9, 12, 13)] ∈ wsL_law := uin_39 _ (.tail _ (.tail _ (.head _)))
theorem m_83_18 : Cond.classLink RL 13 "java/util/NoSuchElementException" ∈ wsL_law := uin_39 _ (.tail _ (.tail _ (.tail _ (.head _))))
theorem m_83_19 : Cond.methodLink RL 7 yX11_register ∈ wsL_law := uin_39 _ (.tail _ (.tail _ (.tail _ (.tail _ (.head _)))))
theorem m_83_20 : Cond.instanceMethod yX11_register ∈ wsL_law := uin_39 _ (.tail _ (.tail _ (.tail _ (.tail _ (.tail _ (.head _))))))
theorem m_83_21 : Cond.selects RX11 yX11_register yX11_register ∈ wsL_law := uin_39 _ (.tail _ (.tail _ (.tail _ (.tail _ (.tail _ (.tail _ (.head _)))))))
theorem m_83_22 : Cond.code yX11_register cX11_register 2 (some .int) ∈ wsL_law := uin_39 _ (.tail _ (.tail _ (.tail _ (.tail _ (.tail _ (.tail _ (.tail _ (.head _))))))))
theorem m_83_23 : Cond.classLink RX11 223 "java/util/NoSuchElementException" ∈ wsL_law := uin_39 _ (.tail _ (.tail _ (.tail _ (.tail _ (.tail _ (.tail _ (.tail _ (.tail _ (.head _)))))))))
theorem m_84_0 : Cond.initialized "java/util/NoSuchElementException" ∈ wsL_law := uin_39 _ (.tail _ (.tail _ (.tail _ (.tail _ (.tail _ (.tail _ (.tail _ (.tail _ (.tail _ (.head _))))))))))
theorem m_84_1 : Cond.fieldLink RX11 226 "SixBitBoard$Machine" "overflow" "Z" ∈ wsL_law := uin_39 _ (.tail _ (.tail _ (.tail _ (.tail _ (.tail _ (.tail _ (.tail _ (.tail _ (.tail _ (.tail _ (.head _)))))))))))
theorem m_84_2 : Cond.fieldLink RX11 229 "SixBitBoard$Machine" "comparison" "I" ∈ wsL_law := uin_39 _ (.tail _ (.tail _ (.tail _ (.tail _ (.tail _ (.tail _ (.tail _ (.tail _ (.tail _ (.tail _ (.tail _ (.head _))))))))))))
theorem m_84_3 : Cond.fieldLink RX11 235 "SixBitBoard$Machine" "registers" "[I" ∈ wsL_law := uin_39 _ (.tail _ (.tail _ (.tail _ (.tail _ (.tail _ (.tail _ (.tail _ (.tail _ (.tail _ (.tail _ (.tail _ (.tail _ (.head _)))))))))))))
theorem m_84_4 : Cond.methodLink RX11 238 yX1_shown ∈ wsL_law := uin_39 _ (.tail _ (.tail _ (.tail _ (.tail _ (.tail _ (.tail _ (.tail _ (.tail _ (.tail _ (.tail _ (.tail _ (.tail _ (.tail _ (.head _))))))))))))))
theorem m_84_5 : Cond.static yX1_shown ∈ wsL_law := uin_39 _ (.tail _ (.tail _ (.tail _ (.tail _ (.tail _ (.tail _ (.tail _ (.tail _ (.tail _ (.tail _ (.tail _ (.tail _ (.tail _ (.tail _ (.head _)))))))))))))))
theorem m_84_6 : Cond.code yX1_shown cX1_shown 1 (some .int) ∈ wsL_law := uin_39 _ (.tail _ (.tail _ (.tail _ (.tail _ (.tail _ (.tail _ (.tail _ (.tail _ (.tail _ (.tail _ (.tail _ (.tail _ (.tail _ (.tail _ (.tail _ (.head _))))))))))))))))
theorem uin_40 : ∀ w ∈ uw_40, w ∈ wsL_law := fun w h => List.mem_append_left _ (List.mem_append_right _ (List.mem_append_right _ (List.mem_append_right _ (List.mem_append_right _ (List.mem_append_right _ (List.mem_append_right _ (List.mem_append_right _ (List.mem_append_right _ (List.mem_append_right _ (List.mem_append_right _ (List.mem_append_right _ (List.mem_append_right _ (List.mem_append_right _ (List.mem_append_right _ (List.mem_append_right _ (List.mem_append_right _ (List.mem_append_right _ (List.mem_append_right _ (List.mem_append_right _ (List.mem_append_right _ (List.mem_append_right _ (List.mem_append_right _ (List.mem_append_right _ (List.mem_append_right _ (List.mem_append_right _ (List.mem_append_right _ (List.mem_append_right _ (List.mem_append_right _ (List.mem_append_right _ (List.mem_append_right _ (List.mem_append_right _ (List.mem_append_right _ (List.mem_append_right _ (List.mem_append_right _ (List.mem_append_right _ (List.mem_append_right _ (List.mem_append_right _ (List.mem_append_right _ (List.mem_append_right _ (List.mem_append_right _ (List.mem_append_left _ h)))))))))))))))))))))))))))))))))))))))))
theorem m_84_8 : Cond.methodLink RX1 14 yX1_value ∈ wsL_law := uin_40 _ (.head _)
theorem m_84_9 : Cond.methodLink RL 111 yX12_register ∈ wsL_law := uin_40 _ (.tail _ (.head _))
theorem m_84_10 : Cond.instanceMethod yX12_register ∈ wsL_law := uin_40 _ (.tail _ (.tail _ (.head _)))
theorem m_84_11 : Cond.selects RX12 yX12_register yX12_register ∈ wsL_law := uin_40 _ (.tail _ (.tail _ (.tail _ (.head _))))
theorem m_84_12 : Cond.code yX12_register cX12_register 2 (some .int) ∈ wsL_law := uin_40 _ (.tail _ (.tail _ (.tail _ (.tail _ (.head _)))))
theorem m_84_13 : Cond.methodLink RX12 715 yX12_told ∈ wsL_law := uin_40 _ (.tail _ (.tail _ (.tail _ (.tail _ (.tail _ (.head _))))))
theorem m_84_14 : Cond.static yX12_told ∈ wsL_law := uin_40 _ (.tail _ (.tail _ (.tail _ (.tail _ (.tail _ (.tail _ (.head _)))))))
theorem m_84_15 : Cond.code yX12_told cX12_told 1 (some .int) ∈ wsL_law := uin_40 _ (.tail _ (.tail _ (.tail _ (.tail _ (.tail _ (.tail _ (.tail _ (.head _))))))))
theorem m_84_17 : Cond.methodLink RL 112 yX12_thrown ∈ wsL_law := uin_40 _ (.tail _ (.tail _ (.tail _ (.tail _ (.tail _ (.tail _ (.tail _ (.tail _ (.head _)))))))))
theorem m_84_18 : Cond.instanceMethod yX12_thrown ∈ wsL_law := uin_40 _ (.tail _ (.tail _ (.tail _ (.tail _ (.tail _ (.tail _ (.tail _ (.tail _ (.tail _ (.head _))))))))))
theorem m_84_19 : Cond.selects RX12 yX12_thrown yX12_thrown ∈ wsL_law := uin_40 _ (.tail _ (.tail _ (.tail _ (.tail _ (.tail _ (.tail _ (.tail _ (.tail _ (.tail _ (.tail _ (.head _)))))))))))
theorem m_84_20 : Cond.code yX12_thrown cX12_thrown 1 (some .int) ∈ wsL_law := uin_40 _ (.tail _ (.tail _ (.tail _ (.tail _ (.tail _ (.tail _ (.tail _ (.tail _ (.tail _ (.tail _ (.tail _ (.head _))))))))))))
theorem m_84_21 : Cond.methodLink RL 115 yL_word ∈ wsL_law := uin_40 _ (.tail _ (.tail _ (.tail _ (.tail _ (.tail _ (.tail _ (.tail _ (.tail _ (.tail _ (.tail _ (.tail _ (.tail _ (.head _)))))))))))))
theorem m_84_22 : Cond.static yL_word ∈ wsL_law := uin_40 _ (.tail _ (.tail _ (.tail _ (.tail _ (.tail _ (.tail _ (.tail _ (.tail _ (.tail _ (.tail _ (.tail _ (.tail _ (.tail _ (.head _))))))))))))))
theorem m_84_23 : Cond.codeWith yL_word cL_word 4 (some .int) [(0, 9, 12, 13)] ∈ wsL_law := uin_40 _ (.tail _ (.tail _ (.tail _ (.tail _ (.tail _ (.tail _ (.tail _ (.tail _ (.tail _ (.tail _ (.tail _ (.tail _ (.tail _ (.tail _ (.head _)))))))))))))))
theorem m_85_0 : Cond.methodLink RL 15 yX11_word ∈ wsL_law := uin_40 _ (.tail _ (.tail _ (.tail _ (.tail _ (.tail _ (.tail _ (.tail _ (.tail _ (.tail _ (.tail _ (.tail _ (.tail _ (.tail _ (.tail _ (.tail _ (.head _))))))))))))))))
theorem uin_41 : ∀ w ∈ uw_41, w ∈ wsL_law := fun w h => List.mem_append_left _ (List.mem_append_right _ (List.mem_append_right _ (List.mem_append_right _ (List.mem_append_right _ (List.mem_append_right _ (List.mem_append_right _ (List.mem_append_right _ (List.mem_append_right _ (List.mem_append_right _ (List.mem_append_right _ (List.mem_append_right _ (List.mem_append_right _ (List.mem_append_right _ (List.mem_append_right _ (List.mem_append_right _ (List.mem_append_right _ (List.mem_append_right _ (List.mem_append_right _ (List.mem_append_right _ (List.mem_append_right _ (List.mem_append_right _ (List.mem_append_right _ (List.mem_append_right _ (List.mem_append_right _ (List.mem_append_right _ (List.mem_append_right _ (List.mem_append_right _ (List.mem_append_right _ (List.mem_append_right _ (List.mem_append_right _ (List.mem_append_right _ (List.mem_append_right _ (List.mem_append_right _ (List.mem_append_right _ (List.mem_append_right _ (List.mem_append_right _ (List.mem_append_right _ (List.mem_append_right _ (List.mem_append_right _ (List.mem_append_right _ (List.mem_append_right _ (List.mem_append_left _ h))))))))))))))))))))))))))))))))))))))))))
theorem m_85_1 : Cond.instanceMethod yX11_word ∈ wsL_law := uin_41 _ (.head _)
theorem m_85_2 : Cond.selects RX11 yX11_word yX11_word ∈ wsL_law := uin_41 _ (.tail _ (.head _))
theorem m_85_3 : Cond.code yX11_word cX11_word 2 (some .int) ∈ wsL_law := uin_41 _ (.tail _ (.tail _ (.head _)))
theorem m_85_4 : Cond.methodLink RL 117 yX12_word ∈ wsL_law := uin_41 _ (.tail _ (.tail _ (.tail _ (.head _))))
theorem m_85_5 : Cond.instanceMethod yX12_word ∈ wsL_law := uin_41 _ (.tail _ (.tail _ (.tail _ (.tail _ (.head _)))))
theorem m_85_6 : Cond.selects RX12 yX12_word yX12_word ∈ wsL_law := uin_41 _ (.tail _ (.tail _ (.tail _ (.tail _ (.tail _ (.head _))))))
theorem m_85_7 : Cond.code yX12_word cX12_word 2 (some .int) ∈ wsL_law := uin_41 _ (.tail _ (.tail _ (.tail _ (.tail _ (.tail _ (.tail _ (.head _)))))))
theorem m_85_8 : Cond.methodLink RX12 854 yX12_isAddress ∈ wsL_law := uin_41 _ (.tail _ (.tail _ (.tail _ (.tail _ (.tail _ (.tail _ (.tail _ (.head _))))))))
theorem m_85_9 : Cond.static yX12_isAddress ∈ wsL_law := uin_41 _ (.tail _ (.tail _ (.tail _ (.tail _ (.tail _ (.tail _ (.tail _ (.tail _ (.head _)))))))))
theorem m_85_10 : Cond.code yX12_isAddress cX12_isAddress 1 (some .boolean) ∈ wsL_law := uin_41 _ (.tail _ (.tail _ (.tail _ (.tail _ (.tail _ (.tail _ (.tail _ (.tail _ (.tail _ (.head _))))))))))
theorem m_85_11 : Cond.methodLink RL 118 yX11_time ∈ wsL_law := uin_41 _ (.tail _ (.tail _ (.tail _ (.tail _ (.tail _ (.tail _ (.tail _ (.tail _ (.tail _ (.tail _ (.head _)))))))))))
theorem m_85_12 : Cond.instanceMethod yX11_time ∈ wsL_law := uin_41 _ (.tail _ (.tail _ (.tail _ (.tail _ (.tail _ (.tail _ (.tail _ (.tail _ (.tail _ (.tail _ (.tail _ (.head _))))))))))))
theorem m_85_13 : Cond.selects RX11 yX11_time yX11_time ∈ wsL_law := uin_41 _ (.tail _ (.tail _ (.tail _ (.tail _ (.tail _ (.tail _ (.tail _ (.tail _ (.tail _ (.tail _ (.tail _ (.tail _ (.head _)))))))))))))
theorem m_85_14 : Cond.code yX11_time cX11_time 1 (some .long) ∈ wsL_law := uin_41 _ (.tail _ (.tail _ (.tail _ (.tail _ (.tail _ (.tail _ (.tail _ (.tail _ (.tail _ (.tail _ (.tail _ (.tail _ (.tail _ (.head _))))))))))))))
theorem m_85_15 : Cond.methodLink RL 122 yX12_time ∈ wsL_law := uin_41 _ (.tail _ (.tail _ (.tail _ (.tail _ (.tail _ (.tail _ (.tail _ (.tail _ (.tail _ (.tail _ (.tail _ (.tail _ (.tail _ (.tail _ (.head _)))))))))))))))
theorem m_85_16 : Cond.instanceMethod yX12_time ∈ wsL_law := uin_41 _ (.tail _ (.tail _ (.tail _ (.tail _ (.tail _ (.tail _ (.tail _ (.tail _ (.tail _ (.tail _ (.tail _ (.tail _ (.tail _ (.tail _ (.tail _ (.head _))))))))))))))))
theorem uin_42 : ∀ w ∈ uw_42, w ∈ wsL_law := fun w h => List.mem_append_left _ (List.mem_append_right _ (List.mem_append_right _ (List.mem_append_right _ (List.mem_append_right _ (List.mem_append_right _ (List.mem_append_right _ (List.mem_append_right _ (List.mem_append_right _ (List.mem_append_right _ (List.mem_append_right _ (List.mem_append_right _ (List.mem_append_right _ (List.mem_append_right _ (List.mem_append_right _ (List.mem_append_right _ (List.mem_append_right _ (List.mem_append_right _ (List.mem_append_right _ (List.mem_append_right _ (List.mem_append_right _ (List.mem_append_right _ (List.mem_append_right _ (List.mem_append_right _ (List.mem_append_right _ (List.mem_append_right _ (List.mem_append_right _ (List.mem_append_right _ (List.mem_append_right _ (List.mem_append_right _ (List.mem_append_right _ (List.mem_append_right _ (List.mem_append_right _ (List.mem_append_right _ (List.mem_append_right _ (List.mem_append_right _ (List.mem_append_right _ (List.mem_append_right _ (List.mem_append_right _ (List.mem_append_right _ (List.mem_append_right _ (List.mem_append_right _ (List.mem_append_right _ (List.mem_append_left _ h)))))))))))))))))))))))))))))))))))))))))))
theorem m_85_17 : Cond.selects RX12 yX12_time yX12_time ∈ wsL_law := uin_42 _ (.head _)
theorem m_85_18 : Cond.code yX12_time cX12_time 1 (some .long) ∈ wsL_law := uin_42 _ (.tail _ (.head _))
theorem m_85_19 : Cond.methodLink RL 123 yL_symbol ∈ wsL_law := uin_42 _ (.tail _ (.tail _ (.head _)))
theorem m_85_20 : Cond.static yL_symbol ∈ wsL_law := uin_42 _ (.tail _ (.tail _ (.tail _ (.head _))))
theorem m_85_21 : Cond.codeWith yL_symbol cL_symbol 3 (some .int) [(0, 8, 11, 13)] ∈ wsL_law := uin_42 _ (.tail _ (.tail _ (.tail _ (.tail _ (.head _)))))
theorem m_85_22 : Cond.methodLink RL 18 yX11_symbol ∈ wsL_law := uin_42 _ (.tail _ (.tail _ (.tail _ (.tail _ (.tail _ (.head _))))))
theorem m_85_23 : Cond.instanceMethod yX11_symbol ∈ wsL_law := uin_42 _ (.tail _ (.tail _ (.tail _ (.tail _ (.tail _ (.tail _ (.head _)))))))
theorem m_86_0 : Cond.selects RX11 yX11_symbol yX11_symbol ∈ wsL_law := uin_42 _ (.tail _ (.tail _ (.tail _ (.tail _ (.tail _ (.tail _ (.tail _ (.head _))))))))
theorem m_86_1 : Cond.code yX11_symbol cX11_symbol 4 (some .int) ∈ wsL_law := uin_42 _ (.tail _ (.tail _ (.tail _ (.tail _ (.tail _ (.tail _ (.tail _ (.tail _ (.head _)))))))))
theorem m_86_4 : Cond.methodLink RX11 248 yX11_tapeName ∈ wsL_law := uin_42 _ (.tail _ (.tail _ (.tail _ (.tail _ (.tail _ (.tail _ (.tail _ (.tail _ (.tail _ (.head _))))))))))
theorem m_86_5 : Cond.instanceMethod yX11_tapeName ∈ wsL_law := uin_42 _ (.tail _ (.tail _ (.tail _ (.tail _ (.tail _ (.tail _ (.tail _ (.tail _ (.tail _ (.tail _ (.head _)))))))))))
theorem m_86_6 : Cond.selects RX11 yX11_tapeName yX11_tapeName ∈ wsL_law := uin_42 _ (.tail _ (.tail _ (.tail _ (.tail _ (.tail _ (.tail _ (.tail _ (.tail _ (.tail _ (.tail _ (.tail _ (.head _))))))))))))
theorem m_86_7 : Cond.code yX11_tapeName cX11_tapeName 6 (some .long) ∈ wsL_law := uin_42 _ (.tail _ (.tail _ (.tail _ (.tail _ (.tail _ (.tail _ (.tail _ (.tail _ (.tail _ (.tail _ (.tail _ (.tail _ (.head _)))))))))))))
theorem m_86_11 : Cond.methodLink RL 126 yX12_symbol ∈ wsL_law := uin_42 _ (.tail _ (.tail _ (.tail _ (.tail _ (.tail _ (.tail _ (.tail _ (.tail _ (.tail _ (.tail _ (.tail _ (.tail _ (.tail _ (.head _))))))))))))))
theorem m_86_12 : Cond.instanceMethod yX12_symbol ∈ wsL_law := uin_42 _ (.tail _ (.tail _ (.tail _ (.tail _ (.tail _ (.tail _ (.tail _ (.tail _ (.tail _ (.tail _ (.tail _ (.tail _ (.tail _ (.tail _ (.head _)))))))))))))))
theorem m_86_13 : Cond.selects RX12 yX12_symbol yX12_symbol ∈ wsL_law := uin_42 _ (.tail _ (.tail _ (.tail _ (.tail _ (.tail _ (.tail _ (.tail _ (.tail _ (.tail _ (.tail _ (.tail _ (.tail _ (.tail _ (.tail _ (.tail _ (.head _))))))))))))))))
theorem uin_43 : ∀ w ∈ uw_43, w ∈ wsL_law := fun w h => List.mem_append_left _ (List.mem_append_right _ (List.mem_append_right _ (List.mem_append_right _ (List.mem_append_right _ (List.mem_append_right _ (List.mem_append_right _ (List.mem_append_right _ (List.mem_append_right _ (List.mem_append_right _ (List.mem_append_right _ (List.mem_append_right _ (List.mem_append_right _ (List.mem_append_right _ (List.mem_append_right _ (List.mem_append_right _ (List.mem_append_right _ (List.mem_append_right _ (List.mem_append_right _ (List.mem_append_right _ (List.mem_append_right _ (List.mem_append_right _ (List.mem_append_right _ (List.mem_append_right _ (List.mem_append_right _ (List.mem_append_right _ (List.mem_append_right _ (List.mem_append_right _ (List.mem_append_right _ (List.mem_append_right _ (List.mem_append_right _ (List.mem_append_right _ (List.mem_append_right _ (List.mem_append_right _ (List.mem_append_right _ (List.mem_append_right _ (List.mem_append_right _ (List.mem_append_right _ (List.mem_append_right _ (List.mem_append_right _ (List.mem_append_right _ (List.mem_append_right _ (List.mem_append_right _ (List.mem_append_right _ (List.mem_append_left _ h))))))))))))))))))))))))))))))))))))))))))))
theorem m_86_14 : Cond.code yX12_symbol cX12_symbol 7 (some .int) ∈ wsL_law := uin_43 _ (.head _)
theorem m_86_15 : Cond.methodLink RL 127 yX11_unit ∈ wsL_law := uin_43 _ (.tail _ (.head _))
theorem m_86_16 : Cond.instanceMethod yX11_unit ∈ wsL_law := uin_43 _ (.tail _ (.tail _ (.head _)))
theorem m_86_17 : Cond.selects RX11 yX11_unit yX11_unit ∈ wsL_law := uin_43 _ (.tail _ (.tail _ (.tail _ (.head _))))
theorem m_86_18 : Cond.code yX11_unit cX11_unit 2 (some .int) ∈ wsL_law := uin_43 _ (.tail _ (.tail _ (.tail _ (.tail _ (.head _)))))
theorem m_86_19 : Cond.fieldLink RX11 266 "SixBitBoard$Units" "stands" "[I" ∈ wsL_law := uin_43 _ (.tail _ (.tail _ (.tail _ (.tail _ (.tail _ (.head _))))))
theorem m_86_20 : Cond.fieldLink RX11 273 "SixBitBoard$Paper" "written" "I" ∈ wsL_law := uin_43 _ (.tail _ (.tail _ (.tail _ (.tail _ (.tail _ (.tail _ (.head _)))))))
theorem m_86_21 : Cond.methodLink RX11 269 yX10_paper ∈ wsL_law := uin_43 _ (.tail _ (.tail _ (.tail _ (.tail _ (.tail _ (.tail _ (.tail _ (.head _))))))))
theorem m_86_22 : Cond.methodLink RL 130 yX12_unit ∈ wsL_law := uin_43 _ (.tail _ (.tail _ (.tail _ (.tail _ (.tail _ (.tail _ (.tail _ (.tail _ (.head _)))))))))
theorem m_86_23 : Cond.instanceMethod yX12_unit ∈ wsL_law := uin_43 _ (.tail _ (.tail _ (.tail _ (.tail _ (.tail _ (.tail _ (.tail _ (.tail _ (.tail _ (.head _))))))))))
theorem m_87_0 : Cond.selects RX12 yX12_unit yX12_unit ∈ wsL_law := uin_43 _ (.tail _ (.tail _ (.tail _ (.tail _ (.tail _ (.tail _ (.tail _ (.tail _ (.tail _ (.tail _ (.head _)))))))))))
theorem m_87_1 : Cond.code yX12_unit cX12_unit 2 (some .int) ∈ wsL_law := uin_43 _ (.tail _ (.tail _ (.tail _ (.tail _ (.tail _ (.tail _ (.tail _ (.tail _ (.tail _ (.tail _ (.tail _ (.head _))))))))))))
theorem m_87_2 : Cond.methodLink RL 131 yX11_letter ∈ wsL_law := uin_43 _ (.tail _ (.tail _ (.tail _ (.tail _ (.tail _ (.tail _ (.tail _ (.tail _ (.tail _ (.tail _ (.tail _ (.tail _ (.head _)))))))))))))
theorem m_87_3 : Cond.instanceMethod yX11_letter ∈ wsL_law := uin_43 _ (.tail _ (.tail _ (.tail _ (.tail _ (.tail _ (.tail _ (.tail _ (.tail _ (.tail _ (.tail _ (.tail _ (.tail _ (.tail _ (.head _))))))))))))))
theorem m_87_4 : Cond.selects RX11 yX11_letter yX11_letter ∈ wsL_law := uin_43 _ (.tail _ (.tail _ (.tail _ (.tail _ (.tail _ (.tail _ (.tail _ (.tail _ (.tail _ (.tail _ (.tail _ (.tail _ (.tail _ (.tail _ (.head _)))))))))))))))
theorem m_87_5 : Cond.code yX11_letter cX11_letter 4 (some .int) ∈ wsL_law := uin_43 _ (.tail _ (.tail _ (.tail _ (.tail _ (.tail _ (.tail _ (.tail _ (.tail _ (.tail _ (.tail _ (.tail _ (.tail _ (.tail _ (.tail _ (.tail _ (.head _))))))))))))))))
theorem uin_44 : ∀ w ∈ uw_44, w ∈ wsL_law := fun w h => List.mem_append_left _ (List.mem_append_right _ (List.mem_append_right _ (List.mem_append_right _ (List.mem_append_right _ (List.mem_append_right _ (List.mem_append_right _ (List.mem_append_right _ (List.mem_append_right _ (List.mem_append_right _ (List.mem_append_right _ (List.mem_append_right _ (List.mem_append_right _ (List.mem_append_right _ (List.mem_append_right _ (List.mem_append_right _ (List.mem_append_right _ (List.mem_append_right _ (List.mem_append_right _ (List.mem_append_right _ (List.mem_append_right _ (List.mem_append_right _ (List.mem_append_right _ (List.mem_append_right _ (List.mem_append_right _ (List.mem_append_right _ (List.mem_append_right _ (List.mem_append_right _ (List.mem_append_right _ (List.mem_append_right _ (List.mem_append_right _ (List.mem_append_right _ (List.mem_append_right _ (List.mem_append_right _ (List.mem_append_right _ (List.mem_append_right _ (List.mem_append_right _ (List.mem_append_right _ (List.mem_append_right _ (List.mem_append_right _ (List.mem_append_right _ (List.mem_append_right _ (List.mem_append_right _ (List.mem_append_right _ (List.mem_append_right _ (List.mem_append_left _ h)))))))))))))))))))))))))))))))))))))))))))))
theorem m_87_6 : Cond.methodLink RX11 276 yX4_letterAt ∈ wsL_law := uin_44 _ (.head _)
theorem m_87_7 : Cond.instanceMethod yX4_letterAt ∈ wsL_law := uin_44 _ (.tail _ (.head _))
theorem m_87_8 : Cond.selects RX4 yX4_letterAt yX4_letterAt ∈ wsL_law := uin_44 _ (.tail _ (.tail _ (.head _)))
theorem m_87_9 : Cond.code yX4_letterAt cX4_letterAt 3 (some .int) ∈ wsL_law := uin_44 _ (.tail _ (.tail _ (.tail _ (.head _))))
theorem m_87_10 : Cond.methodLink RL 134 yX12_letter ∈ wsL_law := uin_44 _ (.tail _ (.tail _ (.tail _ (.tail _ (.head _)))))
theorem m_87_11 : Cond.instanceMethod yX12_letter ∈ wsL_law := uin_44 _ (.tail _ (.tail _ (.tail _ (.tail _ (.tail _ (.head _))))))
theorem m_87_12 : Cond.selects RX12 yX12_letter yX12_letter ∈ wsL_law := uin_44 _ (.tail _ (.tail _ (.tail _ (.tail _ (.tail _ (.tail _ (.head _)))))))
theorem m_87_13 : Cond.code yX12_letter cX12_letter 5 (some .int) ∈ wsL_law := uin_44 _ (.tail _ (.tail _ (.tail _ (.tail _ (.tail _ (.tail _ (.tail _ (.head _))))))))
theorem m_87_14 : Cond.methodLink RL 135 yL_block ∈ wsL_law := uin_44 _ (.tail _ (.tail _ (.tail _ (.tail _ (.tail _ (.tail _ (.tail _ (.tail _ (.head _)))))))))
theorem m_87_15 : Cond.static yL_block ∈ wsL_law := uin_44 _ (.tail _ (.tail _ (.tail _ (.tail _ (.tail _ (.tail _ (.tail _ (.tail _ (.tail _ (.head _))))))))))
theorem m_87_16 : Cond.codeWith yL_block cL_block 6 (some .int) [(0, 12, 15, 13)] ∈ wsL_law := uin_44 _ (.tail _ (.tail _ (.tail _ (.tail _ (.tail _ (.tail _ (.tail _ (.tail _ (.tail _ (.tail _ (.head _)))))))))))
theorem m_87_17 : Cond.methodLink RL 22 yX11_block ∈ wsL_law := uin_44 _ (.tail _ (.tail _ (.tail _ (.tail _ (.tail _ (.tail _ (.tail _ (.tail _ (.tail _ (.tail _ (.tail _ (.head _))))))))))))
theorem m_87_18 : Cond.instanceMethod yX11_block ∈ wsL_law := uin_44 _ (.tail _ (.tail _ (.tail _ (.tail _ (.tail _ (.tail _ (.tail _ (.tail _ (.tail _ (.tail _ (.tail _ (.tail _ (.head _)))))))))))))
theorem m_87_19 : Cond.selects RX11 yX11_block yX11_block ∈ wsL_law := uin_44 _ (.tail _ (.tail _ (.tail _ (.tail _ (.tail _ (.tail _ (.tail _ (.tail _ (.tail _ (.tail _ (.tail _ (.tail _ (.tail _ (.head _))))))))))))))
theorem m_87_20 : Cond.code yX11_block cX11_block 5 (some .int) ∈ wsL_law := uin_44 _ (.tail _ (.tail _ (.tail _ (.tail _ (.tail _ (.tail _ (.tail _ (.tail _ (.tail _ (.tail _ (.tail _ (.tail _ (.tail _ (.tail _ (.head _)))))))))))))))
theorem m_87_21 : Cond.methodLink RX11 279 yX10_stored ∈ wsL_law := uin_44 _ (.tail _ (.tail _ (.tail _ (.tail _ (.tail _ (.tail _ (.tail _ (.tail _ (.tail _ (.tail _ (.tail _ (.tail _ (.tail _ (.tail _ (.tail _ (.head _))))))))))))))))
theorem uin_45 : ∀ w ∈ uw_45, w ∈ wsL_law := fun w h => List.mem_append_left _ (List.mem_append_right _ (List.mem_append_right _ (List.mem_append_right _ (List.mem_append_right _ (List.mem_append_right _ (List.mem_append_right _ (List.mem_append_right _ (List.mem_append_right _ (List.mem_append_right _ (List.mem_append_right _ (List.mem_append_right _ (List.mem_append_right _ (List.mem_append_right _ (List.mem_append_right _ (List.mem_append_right _ (List.mem_append_right _ (List.mem_append_right _ (List.mem_append_right _ (List.mem_append_right _ (List.mem_append_right _ (List.mem_append_right _ (List.mem_append_right _ (List.mem_append_right _ (List.mem_append_right _ (List.mem_append_right _ (List.mem_append_right _ (List.mem_append_right _ (List.mem_append_right _ (List.mem_append_right _ (List.mem_append_right _ (List.mem_append_right _ (List.mem_append_right _ (List.mem_append_right _ (List.mem_append_right _ (List.mem_append_right _ (List.mem_append_right _ (List.mem_append_right _ (List.mem_append_right _ (List.mem_append_right _ (List.mem_append_right _ (List.mem_append_right _ (List.mem_append_right _ (List.mem_append_right _ (List.mem_append_right _ (List.mem_append_right _ (List.mem_append_left _ h))))))))))))))))))))))))))))))))))))))))))))))
theorem m_87_22 : Cond.methodLink RL 138 yX12_block ∈ wsL_law := uin_45 _ (.head _)
theorem m_87_23 : Cond.instanceMethod yX12_block ∈ wsL_law := uin_45 _ (.tail _ (.head _))
theorem m_88_0 : Cond.selects RX12 yX12_block yX12_block ∈ wsL_law := uin_45 _ (.tail _ (.tail _ (.head _)))
theorem m_88_1 : Cond.code yX12_block cX12_block 4 (some .int) ∈ wsL_law := uin_45 _ (.tail _ (.tail _ (.tail _ (.head _))))
theorem m_88_2 : Cond.methodLink RL 139 yX11_tear ∈ wsL_law := uin_45 _ (.tail _ (.tail _ (.tail _ (.tail _ (.head _)))))
theorem m_88_3 : Cond.instanceMethod yX11_tear ∈ wsL_law := uin_45 _ (.tail _ (.tail _ (.tail _ (.tail _ (.tail _ (.head _))))))
theorem m_88_4 : Cond.selects RX11 yX11_tear yX11_tear ∈ wsL_law := uin_45 _ (.tail _ (.tail _ (.tail _ (.tail _ (.tail _ (.tail _ (.head _)))))))
theorem m_88_5 : Cond.code yX11_tear cX11_tear 1 none ∈ wsL_law := uin_45 _ (.tail _ (.tail _ (.tail _ (.tail _ (.tail _ (.tail _ (.tail _ (.head _))))))))
theorem m_88_6 : Cond.fieldLink RX11 282 "SixBitBoard$Units" "punch" "LSixBitBoard$Paper;" ∈ wsL_law := uin_45 _ (.tail _ (.tail _ (.tail _ (.tail _ (.tail _ (.tail _ (.tail _ (.tail _ (.head _)))))))))
theorem m_88_7 : Cond.fieldLink RX11 286 "SixBitBoard$Units" "printer" "LSixBitBoard$Paper;" ∈ wsL_law := uin_45 _ (.tail _ (.tail _ (.tail _ (.tail _ (.tail _ (.tail _ (.tail _ (.tail _ (.tail _ (.head _))))))))))
theorem m_88_8 : Cond.fieldLink RX11 289 "SixBitBoard$Units" "typewriter" "LSixBitBoard$Paper;" ∈ wsL_law := uin_45 _ (.tail _ (.tail _ (.tail _ (.tail _ (.tail _ (.tail _ (.tail _ (.tail _ (.tail _ (.tail _ (.head _)))))))))))
theorem m_88_9 : Cond.methodLink RL 142 yX12_tear ∈ wsL_law := uin_45 _ (.tail _ (.tail _ (.tail _ (.tail _ (.tail _ (.tail _ (.tail _ (.tail _ (.tail _ (.tail _ (.tail _ (.head _))))))))))))
theorem m_88_10 : Cond.instanceMethod yX12_tear ∈ wsL_law := uin_45 _ (.tail _ (.tail _ (.tail _ (.tail _ (.tail _ (.tail _ (.tail _ (.tail _ (.tail _ (.tail _ (.tail _ (.tail _ (.head _)))))))))))))
theorem m_88_11 : Cond.selects RX12 yX12_tear yX12_tear ∈ wsL_law := uin_45 _ (.tail _ (.tail _ (.tail _ (.tail _ (.tail _ (.tail _ (.tail _ (.tail _ (.tail _ (.tail _ (.tail _ (.tail _ (.tail _ (.head _))))))))))))))
theorem m_88_12 : Cond.code yX12_tear cX12_tear 2 none ∈ wsL_law := uin_45 _ (.tail _ (.tail _ (.tail _ (.tail _ (.tail _ (.tail _ (.tail _ (.tail _ (.tail _ (.tail _ (.tail _ (.tail _ (.tail _ (.tail _ (.head _)))))))))))))))
end
section
theorem dX11_end_0 : decode cX11_end 0 = .ok (.iload_n 1, 1) := by decide +kernel
theorem dX11_end_1 : decode cX11_end 1 = .ok (.ifCond .lt 11, 3) := by decide +kernel
theorem dX11_end_12 : decode cX11_end 12 = .ok (.iconst 0, 1) := by decide +kernel
theorem dX11_end_13 : decode cX11_end 13 = .ok (.ireturn, 1) := by decide +kernel
theorem dX11_end_14 : decode cX11_end 14 = .ok (.aload_n 0, 1) := by decide +kernel
theorem dX11_end_15 : decode cX11_end 15 = .ok (.iload_n 1, 1) := by decide +kernel
theorem dX11_end_16 : decode cX11_end 16 = .ok (.putfield 70, 3) := by decide +kernel
theorem dX11_end_19 : decode cX11_end 19 = .ok (.iconst 1, 1) := by decide +kernel
theorem dX11_end_20 : decode cX11_end 20 = .ok (.ireturn, 1) := by decide +kernel
theorem dX11_end_4 : decode cX11_end 4 = .ok (.iload_n 1, 1) := by decide +kernel
theorem dX11_end_5 : decode cX11_end 5 = .ok (.aload_n 0, 1) := by decide +kernel
theorem dX11_end_6 : decode cX11_end 6 = .ok (.getfield 70, 3) := by decide +kernel
theorem dX11_end_9 : decode cX11_end 9 = .ok (.if_icmp .le 5, 3) := by decide +kernel
theorem dX12_end_0 : decode cX12_end 0 = .ok (.aload_n 0, 1) := by decide +kernel
theorem dX12_end_1 : decode cX12_end 1 = .ok (.iconst 0, 1) := by decide +kernel
theorem dX12_end_10 : decode cX12_end 10 = .ok (.aload_n 0, 1) := by decide +kernel
theorem dX12_end_11 : decode cX12_end 11 = .ok (.getfield 176, 3) := by decide +kernel
theorem dX12_end_14 : decode cX12_end 14 = .ok (.if_icmp .le 5, 3) := by decide +kernel
theorem dX12_end_17 : decode cX12_end 17 = .ok (.iconst 0, 1) := by decide +kernel
theorem dX12_end_18 : decode cX12_end 18 = .ok (.ireturn, 1) := by decide +kernel
theorem dX12_end_19 : decode cX12_end 19 = .ok (.aload_n 0, 1) := by decide +kernel
theorem dX12_end_2 : decode cX12_end 2 = .ok (.putfield 155, 3) := by decide +kernel
theorem dX12_end_20 : decode cX12_end 20 = .ok (.iload_n 1, 1) := by decide +kernel
theorem dX12_end_21 : decode cX12_end 21 = .ok (.putfield 176, 3) := by decide +kernel
theorem dX12_end_24 : decode cX12_end 24 = .ok (.iconst 1, 1) := by decide +kernel
theorem dX12_end_25 : decode cX12_end 25 = .ok (.ireturn, 1) := by decide +kernel
theorem dX12_end_5 : decode cX12_end 5 = .ok (.iload_n 1, 1) := by decide +kernel
theorem dX12_end_6 : decode cX12_end 6 = .ok (.ifCond .lt 11, 3) := by decide +kernel
theorem dX12_end_9 : decode cX12_end 9 = .ok (.iload_n 1, 1) := by decide +kernel
theorem dX11_error_0 : decode cX11_error 0 = .ok (.aload_n 0, 1) := by decide +kernel
theorem dX11_error_1 : decode cX11_error 1 = .ok (.getfield 48, 3) := by decide +kernel
theorem dX11_error_4 : decode cX11_error 4 = .ok (.getfield 121, 3) := by decide +kernel
theorem dX11_error_7 : decode cX11_error 7 = .ok (.ireturn, 1) := by decide +kernel
theorem dX12_error_0 : decode cX12_error 0 = .ok (.aload_n 0, 1) := by decide +kernel
theorem dX12_error_1 : decode cX12_error 1 = .ok (.iconst 0, 1) := by decide +kernel
theorem dX12_error_2 : decode cX12_error 2 = .ok (.putfield 155, 3) := by decide +kernel
theorem dX12_error_5 : decode cX12_error 5 = .ok (.aload_n 0, 1) := by decide +kernel
theorem dX12_error_6 : decode cX12_error 6 = .ok (.getfield 648, 3) := by decide +kernel
theorem dX12_error_9 : decode cX12_error 9 = .ok (.ireturn, 1) := by decide +kernel
theorem dX11_useUpTape_0 : decode cX11_useUpTape 0 = .ok (.aload_n 0, 1) := by decide +kernel
theorem dX11_useUpTape_1 : decode cX11_useUpTape 1 = .ok (.getfield 70, 3) := by decide +kernel
theorem dX11_useUpTape_10 : decode cX11_useUpTape 10 = .ok (.iload_n 1, 1) := by decide +kernel
theorem dX11_useUpTape_11 : decode cX11_useUpTape 11 = .ok (.ireturn, 1) := by decide +kernel
theorem dX11_useUpTape_4 : decode cX11_useUpTape 4 = .ok (.istore_n 1, 1) := by decide +kernel
theorem dX11_useUpTape_5 : decode cX11_useUpTape 5 = .ok (.aload_n 0, 1) := by decide +kernel
theorem dX11_useUpTape_6 : decode cX11_useUpTape 6 = .ok (.iconst 0, 1) := by decide +kernel
theorem dX11_useUpTape_7 : decode cX11_useUpTape 7 = .ok (.putfield 70, 3) := by decide +kernel
theorem dX9_reopen_0 : decode cX9_reopen 0 = .ok (.aload_n 0, 1) := by decide +kernel
theorem dX9_reopen_1 : decode cX9_reopen 1 = .ok (.aload_n 0, 1) := by decide +kernel
theorem dX9_reopen_10 : decode cX9_reopen 10 = .ok (.putfield 40, 3) := by decide +kernel
theorem dX9_reopen_13 : decode cX9_reopen 13 = .ok (.return_, 1) := by decide +kernel
theorem dX9_reopen_2 : decode cX9_reopen 2 = .ok (.getfield 24, 3) := by decide +kernel
theorem dX9_reopen_5 : decode cX9_reopen 5 = .ok (.putfield 37, 3) := by decide +kernel
theorem dX9_reopen_8 : decode cX9_reopen 8 = .ok (.aload_n 0, 1) := by decide +kernel
theorem dX9_reopen_9 : decode cX9_reopen 9 = .ok (.iconst 0, 1) := by decide +kernel
theorem dX9_open_0 : decode cX9_open 0 = .ok (.aload_n 0, 1) := by decide +kernel
theorem dX9_open_1 : decode cX9_open 1 = .ok (.iload_n 1, 1) := by decide +kernel
theorem dX9_open_10 : decode cX9_open 10 = .ok (.iload_n 2, 1) := by decide +kernel
theorem dX9_open_11 : decode cX9_open 11 = .ok (.aload_n 0, 1) := by decide +kernel
theorem dX9_open_12 : decode cX9_open 12 = .ok (.getfield 15, 3) := by decide +kernel
theorem dX9_open_15 : decode cX9_open 15 = .ok (.arraylength, 1) := by decide +kernel
theorem dX9_open_16 : decode cX9_open 16 = .ok (.invokestatic 28, 3) := by decide +kernel
theorem dX9_open_19 : decode cX9_open 19 = .ok (.putfield 31, 3) := by decide +kernel
theorem dX9_open_2 : decode cX9_open 2 = .ok (.iconst 0, 1) := by decide +kernel
theorem dX9_open_22 : decode cX9_open 22 = .ok (.aload_n 0, 1) := by decide +kernel
theorem dX9_open_23 : decode cX9_open 23 = .ok (.invokevirtual 34, 3) := by decide +kernel
theorem dX9_open_26 : decode cX9_open 26 = .ok (.return_, 1) := by decide +kernel
theorem dX9_open_3 : decode cX9_open 3 = .ok (.invokestatic 18, 3) := by decide +kernel
theorem dX9_open_6 : decode cX9_open 6 = .ok (.putfield 24, 3) := by decide +kernel
theorem dX9_open_9 : decode cX9_open 9 = .ok (.aload_n 0, 1) := by decide +kernel
theorem dX9_advance_0 : decode cX9_advance 0 = .ok (.aload_n 0, 1) := by decide +kernel
theorem dX9_advance_1 : decode cX9_advance 1 = .ok (.dup, 1) := by decide +kernel
theorem dX9_advance_10 : decode cX9_advance 10 = .ok (.aload_n 0, 1) := by decide +kernel
theorem dX9_advance_11 : decode cX9_advance 11 = .ok (.getfield 37, 3) := by decide +kernel
theorem dX9_advance_14 : decode cX9_advance 14 = .ok (.aload_n 0, 1) := by decide +kernel
theorem dX9_advance_15 : decode cX9_advance 15 = .ok (.getfield 31, 3) := by decide +kernel
theorem dX9_advance_18 : decode cX9_advance 18 = .ok (.if_icmp .lt 5, 3) := by decide +kernel
theorem dX9_advance_2 : decode cX9_advance 2 = .ok (.getfield 40, 3) := by decide +kernel
theorem dX9_advance_21 : decode cX9_advance 21 = .ok (.iconst 0, 1) := by decide +kernel
theorem dX9_advance_22 : decode cX9_advance 22 = .ok (.ireturn, 1) := by decide +kernel
theorem dX9_advance_5 : decode cX9_advance 5 = .ok (.iconst 1, 1) := by decide +kernel
theorem dX9_advance_6 : decode cX9_advance 6 = .ok (.iadd, 1) := by decide +kernel
theorem dX9_advance_7 : decode cX9_advance 7 = .ok (.putfield 40, 3) := by decide +kernel
theorem dX11_cards_0 : decode cX11_cards 0 = .ok (.aload_n 0, 1) := by decide +kernel
theorem dX11_cards_1 : decode cX11_cards 1 = .ok (.invokevirtual 78, 3) := by decide +kernel
theorem dX11_cards_107 : decode cX11_cards 107 = .ok (.iload_n 3, 1) := by decide +kernel
theorem dX11_cards_108 : decode cX11_cards 108 = .ok (.ireturn, 1) := by decide +kernel
theorem dX11_cards_12 : decode cX11_cards 12 = .ok (.astore_n 2, 1) := by decide +kernel
theorem dX11_cards_13 : decode cX11_cards 13 = .ok (.aload_n 0, 1) := by decide +kernel
theorem dX11_cards_14 : decode cX11_cards 14 = .ok (.getfield 40, 3) := by decide +kernel
theorem dX11_cards_17 : decode cX11_cards 17 = .ok (.getfield 127, 3) := by decide +kernel
theorem dX11_cards_20 : decode cX11_cards 20 = .ok (.getfield 131, 3) := by decide +kernel
theorem dX11_cards_23 : decode cX11_cards 23 = .ok (.istore_n 3, 1) := by decide +kernel
theorem dX11_cards_24 : decode cX11_cards 24 = .ok (.aload_n 2, 1) := by decide +kernel
theorem dX11_cards_25 : decode cX11_cards 25 = .ok (.iconst 0, 1) := by decide +kernel
theorem dX11_cards_26 : decode cX11_cards 26 = .ok (.iload_n 1, 1) := by decide +kernel
theorem dX11_cards_27 : decode cX11_cards 27 = .ok (.invokevirtual 136, 3) := by decide +kernel
theorem dX11_cards_30 : decode cX11_cards 30 = .ok (.iconst 0, 1) := by decide +kernel
theorem dX11_cards_31 : decode cX11_cards 31 = .ok (.istore 4, 2) := by decide +kernel
theorem dX11_cards_33 : decode cX11_cards 33 = .ok (.iload 4, 2) := by decide +kernel
theorem dX11_cards_35 : decode cX11_cards 35 = .ok (.sipush 8192, 3) := by decide +kernel
theorem dX11_cards_38 : decode cX11_cards 38 = .ok (.if_icmp .ge 19, 3) := by decide +kernel
theorem dX11_cards_4 : decode cX11_cards 4 = .ok (.istore_n 1, 1) := by decide +kernel
theorem dX11_cards_41 : decode cX11_cards 41 = .ok (.aload_n 2, 1) := by decide +kernel
theorem dX11_cards_42 : decode cX11_cards 42 = .ok (.invokevirtual 139, 3) := by decide +kernel
theorem dX11_cards_45 : decode cX11_cards 45 = .ok (.ifCond .eq 12, 3) := by decide +kernel
theorem dX11_cards_5 : decode cX11_cards 5 = .ok (.aload_n 0, 1) := by decide +kernel
theorem dX11_cards_57 : decode cX11_cards 57 = .ok (.iload_n 3, 1) := by decide +kernel
theorem dX11_cards_58 : decode cX11_cards 58 = .ok (.sipush 400, 3) := by decide +kernel
theorem dX11_cards_6 : decode cX11_cards 6 = .ok (.getfield 66, 3) := by decide +kernel
theorem dX11_cards_61 : decode cX11_cards 61 = .ok (.if_icmp .le 5, 3) := by decide +kernel
theorem dX11_cards_66 : decode cX11_cards 66 = .ok (.aload_n 2, 1) := by decide +kernel
theorem dX11_cards_67 : decode cX11_cards 67 = .ok (.iconst 0, 1) := by decide +kernel
theorem dX11_cards_68 : decode cX11_cards 68 = .ok (.iload_n 1, 1) := by decide +kernel
theorem dX11_cards_69 : decode cX11_cards 69 = .ok (.invokevirtual 136, 3) := by decide +kernel
theorem dX11_cards_72 : decode cX11_cards 72 = .ok (.iconst 0, 1) := by decide +kernel
theorem dX11_cards_73 : decode cX11_cards 73 = .ok (.istore 4, 2) := by decide +kernel
theorem dX11_cards_75 : decode cX11_cards 75 = .ok (.iload 4, 2) := by decide +kernel
theorem dX11_cards_77 : decode cX11_cards 77 = .ok (.sipush 8192, 3) := by decide +kernel
theorem dX11_cards_80 : decode cX11_cards 80 = .ok (.if_icmp .ge 27, 3) := by decide +kernel
theorem dX11_cards_83 : decode cX11_cards 83 = .ok (.aload_n 2, 1) := by decide +kernel
theorem dX11_cards_84 : decode cX11_cards 84 = .ok (.invokevirtual 139, 3) := by decide +kernel
theorem dX11_cards_87 : decode cX11_cards 87 = .ok (.ifCond .eq 20, 3) := by decide +kernel
theorem dX11_cards_9 : decode cX11_cards 9 = .ok (.getfield 124, 3) := by decide +kernel
theorem dX12_cardsLeft_0 : decode cX12_cardsLeft 0 = .ok (.aload_n 0, 1) := by decide +kernel
theorem dX12_cardsLeft_1 : decode cX12_cardsLeft 1 = .ok (.getfield 226, 3) := by decide +kernel
theorem dX12_cardsLeft_4 : decode cX12_cardsLeft 4 = .ok (.aload_n 0, 1) := by decide +kernel
theorem dX12_cardsLeft_5 : decode cX12_cardsLeft 5 = .ok (.getfield 229, 3) := by decide +kernel
theorem dX12_cardsLeft_8 : decode cX12_cardsLeft 8 = .ok (.isub, 1) := by decide +kernel
theorem dX12_cardsLeft_9 : decode cX12_cardsLeft 9 = .ok (.ireturn, 1) := by decide +kernel
theorem dX12_gatherCards_0 : decode cX12_gatherCards 0 = .ok (.iconst 0, 1) := by decide +kernel
theorem dX12_gatherCards_1 : decode cX12_gatherCards 1 = .ok (.istore_n 1, 1) := by decide +kernel
theorem dX12_gatherCards_10 : decode cX12_gatherCards 10 = .ok (.iload_n 2, 1) := by decide +kernel
theorem dX12_gatherCards_106 : decode cX12_gatherCards 106 = .ok (.aload_n 0, 1) := by decide +kernel
theorem dX12_gatherCards_107 : decode cX12_gatherCards 107 = .ok (.iconst 0, 1) := by decide +kernel
theorem dX12_gatherCards_108 : decode cX12_gatherCards 108 = .ok (.putfield 229, 3) := by decide +kernel
theorem dX12_gatherCards_11 : decode cX12_gatherCards 11 = .ok (.if_icmp .ge 95, 3) := by decide +kernel
theorem dX12_gatherCards_111 : decode cX12_gatherCards 111 = .ok (.aload_n 0, 1) := by decide +kernel
theorem dX12_gatherCards_112 : decode cX12_gatherCards 112 = .ok (.iload_n 2, 1) := by decide +kernel
theorem dX12_gatherCards_113 : decode cX12_gatherCards 113 = .ok (.putfield 226, 3) := by decide +kernel
theorem dX12_gatherCards_116 : decode cX12_gatherCards 116 = .ok (.return_, 1) := by decide +kernel
theorem dX12_gatherCards_2 : decode cX12_gatherCards 2 = .ok (.aload_n 0, 1) := by decide +kernel
theorem dX12_gatherCards_3 : decode cX12_gatherCards 3 = .ok (.invokevirtual 232, 3) := by decide +kernel
theorem dX12_gatherCards_6 : decode cX12_gatherCards 6 = .ok (.istore_n 2, 1) := by decide +kernel
theorem dX12_gatherCards_7 : decode cX12_gatherCards 7 = .ok (.iconst 0, 1) := by decide +kernel
theorem dX12_gatherCards_8 : decode cX12_gatherCards 8 = .ok (.istore_n 3, 1) := by decide +kernel
theorem dX12_gatherCards_9 : decode cX12_gatherCards 9 = .ok (.iload_n 3, 1) := by decide +kernel
theorem dX12_cards_0 : decode cX12_cards 0 = .ok (.aload_n 0, 1) := by decide +kernel
theorem dX12_cards_1 : decode cX12_cards 1 = .ok (.iconst 0, 1) := by decide +kernel
theorem dX12_cards_10 : decode cX12_cards 10 = .ok (.aload_n 0, 1) := by decide +kernel
theorem dX12_cards_100 : decode cX12_cards 100 = .ok (.aload_n 0, 1) := by decide +kernel
theorem dX12_cards_101 : decode cX12_cards 101 = .ok (.invokevirtual 232, 3) := by decide +kernel
theorem dX12_cards_104 : decode cX12_cards 104 = .ok (.ireturn, 1) := by decide +kernel
theorem dX12_cards_11 : decode cX12_cards 11 = .ok (.iconst 0, 1) := by decide +kernel
theorem dX12_cards_12 : decode cX12_cards 12 = .ok (.putfield 176, 3) := by decide +kernel
theorem dX12_cards_15 : decode cX12_cards 15 = .ok (.iconst 0, 1) := by decide +kernel
theorem dX12_cards_16 : decode cX12_cards 16 = .ok (.istore_n 2, 1) := by decide +kernel
theorem dX12_cards_17 : decode cX12_cards 17 = .ok (.iconst 0, 1) := by decide +kernel
theorem dX12_cards_18 : decode cX12_cards 18 = .ok (.istore_n 3, 1) := by decide +kernel
theorem dX12_cards_19 : decode cX12_cards 19 = .ok (.iload_n 3, 1) := by decide +kernel
theorem dX12_cards_2 : decode cX12_cards 2 = .ok (.putfield 155, 3) := by decide +kernel
theorem dX12_cards_20 : decode cX12_cards 20 = .ok (.iload_n 1, 1) := by decide +kernel
theorem dX12_cards_21 : decode cX12_cards 21 = .ok (.if_icmp .ge 21, 3) := by decide +kernel
theorem dX12_cards_42 : decode cX12_cards 42 = .ok (.aload_n 0, 1) := by decide +kernel
theorem dX12_cards_43 : decode cX12_cards 43 = .ok (.invokevirtual 232, 3) := by decide +kernel
theorem dX12_cards_46 : decode cX12_cards 46 = .ok (.iload_n 2, 1) := by decide +kernel
theorem dX12_cards_47 : decode cX12_cards 47 = .ok (.iadd, 1) := by decide +kernel
theorem dX12_cards_48 : decode cX12_cards 48 = .ok (.sipush 400, 3) := by decide +kernel
theorem dX12_cards_5 : decode cX12_cards 5 = .ok (.aload_n 0, 1) := by decide +kernel
theorem dX12_cards_51 : decode cX12_cards 51 = .ok (.if_icmp .le 5, 3) := by decide +kernel
theorem dX12_cards_56 : decode cX12_cards 56 = .ok (.aload_n 0, 1) := by decide +kernel
theorem dX12_cards_57 : decode cX12_cards 57 = .ok (.invokevirtual 718, 3) := by decide +kernel
theorem dX12_cards_6 : decode cX12_cards 6 = .ok (.getfield 176, 3) := by decide +kernel
theorem dX12_cards_60 : decode cX12_cards 60 = .ok (.iconst 0, 1) := by decide +kernel
theorem dX12_cards_61 : decode cX12_cards 61 = .ok (.istore_n 3, 1) := by decide +kernel
theorem dX12_cards_62 : decode cX12_cards 62 = .ok (.iload_n 3, 1) := by decide +kernel
theorem dX12_cards_63 : decode cX12_cards 63 = .ok (.iload_n 1, 1) := by decide +kernel
theorem dX12_cards_64 : decode cX12_cards 64 = .ok (.if_icmp .ge 36, 3) := by decide +kernel
theorem dX12_cards_9 : decode cX12_cards 9 = .ok (.istore_n 1, 1) := by decide +kernel
theorem dX11_advance_0 : decode cX11_advance 0 = .ok (.iconst 0, 1) := by decide +kernel
theorem dX11_advance_1 : decode cX11_advance 1 = .ok (.istore_n 3, 1) := by decide +kernel
theorem dX11_advance_10 : decode cX11_advance 10 = .ok (.if_icmp .ge 48, 3) := by decide +kernel
theorem dX11_advance_13 : decode cX11_advance 13 = .ok (.iload_n 3, 1) := by decide +kernel
theorem dX11_advance_14 : decode cX11_advance 14 = .ok (.iload_n 1, 1) := by decide +kernel
theorem dX11_advance_15 : decode cX11_advance 15 = .ok (.if_icmp .ge 43, 3) := by decide +kernel
theorem dX11_advance_18 : decode cX11_advance 18 = .ok (.aload_n 0, 1) := by decide +kernel
theorem dX11_advance_19 : decode cX11_advance 19 = .ok (.getfield 44, 3) := by decide +kernel
theorem dX11_advance_2 : decode cX11_advance 2 = .ok (.iconst 0, 1) := by decide +kernel
theorem dX11_advance_22 : decode cX11_advance 22 = .ok (.getfield 220, 3) := by decide +kernel
theorem dX11_advance_25 : decode cX11_advance 25 = .ok (.ifCond .ne 33, 3) := by decide +kernel
theorem dX11_advance_3 : decode cX11_advance 3 = .ok (.istore 4, 2) := by decide +kernel
theorem dX11_advance_5 : decode cX11_advance 5 = .ok (.iload 4, 2) := by decide +kernel
theorem dX11_advance_58 : decode cX11_advance 58 = .ok (.iload_n 3, 1) := by decide +kernel
theorem dX11_advance_59 : decode cX11_advance 59 = .ok (.ireturn, 1) := by decide +kernel
theorem dX11_advance_7 : decode cX11_advance 7 = .ok (.iconst 2, 1) := by decide +kernel
theorem dX11_advance_8 : decode cX11_advance 8 = .ok (.iload_n 1, 1) := by decide +kernel
theorem dX11_advance_9 : decode cX11_advance 9 = .ok (.imul, 1) := by decide +kernel
theorem dX11_run_0 : decode cX11_run 0 = .ok (.iload_n 1, 1) := by decide +kernel
theorem dX11_run_1 : decode cX11_run 1 = .ok (.ifCond .lt 9, 3) := by decide +kernel
theorem dX11_run_10 : decode cX11_run 10 = .ok (.iconst 0, 1) := by decide +kernel
theorem dX11_run_11 : decode cX11_run 11 = .ok (.goto 9, 3) := by decide +kernel
theorem dX11_run_14 : decode cX11_run 14 = .ok (.aload_n 0, 1) := by decide +kernel
theorem dX11_run_15 : decode cX11_run 15 = .ok (.iload_n 1, 1) := by decide +kernel
theorem dX11_run_16 : decode cX11_run 16 = .ok (.iconst 0, 1) := by decide +kernel
theorem dX11_run_17 : decode cX11_run 17 = .ok (.invokevirtual 147, 3) := by decide +kernel
theorem dX11_run_20 : decode cX11_run 20 = .ok (.ireturn, 1) := by decide +kernel
theorem dX11_run_4 : decode cX11_run 4 = .ok (.iload_n 1, 1) := by decide +kernel
theorem dX11_run_5 : decode cX11_run 5 = .ok (.ldc 146, 2) := by decide +kernel
theorem dX11_run_7 : decode cX11_run 7 = .ok (.if_icmp .le 7, 3) := by decide +kernel
theorem dX12_goOn_0 : decode cX12_goOn 0 = .ok (.iconst 0, 1) := by decide +kernel
theorem dX12_goOn_1 : decode cX12_goOn 1 = .ok (.istore_n 2, 1) := by decide +kernel
theorem dX12_goOn_11 : decode cX12_goOn 11 = .ok (.ifCond .ne 58, 3) := by decide +kernel
theorem dX12_goOn_2 : decode cX12_goOn 2 = .ok (.iload_n 2, 1) := by decide +kernel
theorem dX12_goOn_3 : decode cX12_goOn 3 = .ok (.iload_n 1, 1) := by decide +kernel
theorem dX12_goOn_4 : decode cX12_goOn 4 = .ok (.if_icmp .ge 65, 3) := by decide +kernel
theorem dX12_goOn_69 : decode cX12_goOn 69 = .ok (.iload_n 2, 1) := by decide +kernel
theorem dX12_goOn_7 : decode cX12_goOn 7 = .ok (.aload_n 0, 1) := by decide +kernel
theorem dX12_goOn_70 : decode cX12_goOn 70 = .ok (.ireturn, 1) := by decide +kernel
theorem dX12_goOn_8 : decode cX12_goOn 8 = .ok (.getfield 24, 3) := by decide +kernel
theorem dX12_run_0 : decode cX12_run 0 = .ok (.aload_n 0, 1) := by decide +kernel
theorem dX12_run_1 : decode cX12_run 1 = .ok (.iconst 0, 1) := by decide +kernel
theorem dX12_run_10 : decode cX12_run 10 = .ok (.ldc_w 711, 3) := by decide +kernel
theorem dX12_run_13 : decode cX12_run 13 = .ok (.if_icmp .le 7, 3) := by decide +kernel
theorem dX12_run_16 : decode cX12_run 16 = .ok (.iconst 0, 1) := by decide +kernel
theorem dX12_run_17 : decode cX12_run 17 = .ok (.goto 8, 3) := by decide +kernel
theorem dX12_run_2 : decode cX12_run 2 = .ok (.putfield 155, 3) := by decide +kernel
theorem dX12_run_20 : decode cX12_run 20 = .ok (.aload_n 0, 1) := by decide +kernel
theorem dX12_run_21 : decode cX12_run 21 = .ok (.iload_n 1, 1) := by decide +kernel
theorem dX12_run_22 : decode cX12_run 22 = .ok (.invokevirtual 712, 3) := by decide +kernel
theorem dX12_run_25 : decode cX12_run 25 = .ok (.ireturn, 1) := by decide +kernel
theorem dX12_run_5 : decode cX12_run 5 = .ok (.iload_n 1, 1) := by decide +kernel
theorem dX12_run_6 : decode cX12_run 6 = .ok (.ifCond .lt 10, 3) := by decide +kernel
theorem dX12_run_9 : decode cX12_run 9 = .ok (.iload_n 1, 1) := by decide +kernel
theorem dX6_hasCard_0 : decode cX6_hasCard 0 = .ok (.aload_n 0, 1) := by decide +kernel
theorem dX6_hasCard_1 : decode cX6_hasCard 1 = .ok (.getfield 18, 3) := by decide +kernel
theorem dX6_hasCard_4 : decode cX6_hasCard 4 = .ok (.ifCond .le 43, 3) := by decide +kernel
theorem dX6_hasCard_47 : decode cX6_hasCard 47 = .ok (.iconst 0, 1) := by decide +kernel
theorem dX6_hasCard_48 : decode cX6_hasCard 48 = .ok (.ireturn, 1) := by decide +kernel
theorem dX11_go_0 : decode cX11_go 0 = .ok (.aload_n 0, 1) := by decide +kernel
theorem dX11_go_1 : decode cX11_go 1 = .ok (.getfield 40, 3) := by decide +kernel
theorem dX11_go_11 : decode cX11_go 11 = .ok (.ifCond .ne 5, 3) := by decide +kernel
theorem dX11_go_14 : decode cX11_go 14 = .ok (.iconst 0, 1) := by decide +kernel
theorem dX11_go_15 : decode cX11_go 15 = .ok (.ireturn, 1) := by decide +kernel
theorem dX11_go_4 : decode cX11_go 4 = .ok (.getfield 127, 3) := by decide +kernel
theorem dX11_go_7 : decode cX11_go 7 = .ok (.iconst 0, 1) := by decide +kernel
theorem dX11_go_8 : decode cX11_go 8 = .ok (.invokevirtual 149, 3) := by decide +kernel
theorem dX12_go_0 : decode cX12_go 0 = .ok (.aload_n 0, 1) := by decide +kernel
theorem dX12_go_1 : decode cX12_go 1 = .ok (.iconst 0, 1) := by decide +kernel
theorem dX12_go_12 : decode cX12_go 12 = .ok (.iconst 0, 1) := by decide +kernel
theorem dX12_go_13 : decode cX12_go 13 = .ok (.ireturn, 1) := by decide +kernel
theorem dX12_go_2 : decode cX12_go 2 = .ok (.putfield 155, 3) := by decide +kernel
theorem dX12_go_5 : decode cX12_go 5 = .ok (.aload_n 0, 1) := by decide +kernel
theorem dX12_go_6 : decode cX12_go 6 = .ok (.invokevirtual 232, 3) := by decide +kernel
theorem dX12_go_9 : decode cX12_go 9 = .ok (.ifCond .ne 5, 3) := by decide +kernel
theorem dX11_deck_0 : decode cX11_deck 0 = .ok (.aload_n 0, 1) := by decide +kernel
theorem dX11_deck_1 : decode cX11_deck 1 = .ok (.getfield 48, 3) := by decide +kernel
theorem dX11_deck_20 : decode cX11_deck 20 = .ok (.iconst (-1), 1) := by decide +kernel
theorem dX11_deck_21 : decode cX11_deck 21 = .ok (.ireturn, 1) := by decide +kernel
theorem dX11_deck_4 : decode cX11_deck 4 = .ok (.getfield 153, 3) := by decide +kernel
theorem dX11_deck_7 : decode cX11_deck 7 = .ok (.ifCond .eq 13, 3) := by decide +kernel
theorem dX12_deck_0 : decode cX12_deck 0 = .ok (.aload_n 0, 1) := by decide +kernel
theorem dX12_deck_1 : decode cX12_deck 1 = .ok (.iconst 0, 1) := by decide +kernel
theorem dX12_deck_19 : decode cX12_deck 19 = .ok (.iconst (-1), 1) := by decide +kernel
theorem dX12_deck_2 : decode cX12_deck 2 = .ok (.putfield 155, 3) := by decide +kernel
theorem dX12_deck_20 : decode cX12_deck 20 = .ok (.ireturn, 1) := by decide +kernel
theorem dX12_deck_5 : decode cX12_deck 5 = .ok (.aload_n 0, 1) := by decide +kernel
theorem dX12_deck_6 : decode cX12_deck 6 = .ok (.getfield 633, 3) := by decide +kernel
theorem dX12_deck_9 : decode cX12_deck 9 = .ok (.ifCond .eq 10, 3) := by decide +kernel
theorem dX11_list_0 : decode cX11_list 0 = .ok (.aload_n 0, 1) := by decide +kernel
theorem dX11_list_1 : decode cX11_list 1 = .ok (.getfield 48, 3) := by decide +kernel
theorem dX11_list_23 : decode cX11_list 23 = .ok (.iconst (-1), 1) := by decide +kernel
theorem dX11_list_24 : decode cX11_list 24 = .ok (.ireturn, 1) := by decide +kernel
theorem dX11_list_4 : decode cX11_list 4 = .ok (.getfield 153, 3) := by decide +kernel
theorem dX11_list_7 : decode cX11_list 7 = .ok (.ifCond .eq 16, 3) := by decide +kernel
theorem dX12_list_0 : decode cX12_list 0 = .ok (.aload_n 0, 1) := by decide +kernel
theorem dX12_list_1 : decode cX12_list 1 = .ok (.iconst 0, 1) := by decide +kernel
theorem dX12_list_19 : decode cX12_list 19 = .ok (.iconst (-1), 1) := by decide +kernel
theorem dX12_list_2 : decode cX12_list 2 = .ok (.putfield 155, 3) := by decide +kernel
theorem dX12_list_20 : decode cX12_list 20 = .ok (.ireturn, 1) := by decide +kernel
theorem dX12_list_5 : decode cX12_list 5 = .ok (.aload_n 0, 1) := by decide +kernel
theorem dX12_list_6 : decode cX12_list 6 = .ok (.getfield 633, 3) := by decide +kernel
theorem dX12_list_9 : decode cX12_list 9 = .ok (.ifCond .eq 10, 3) := by decide +kernel
theorem dX11_listing_0 : decode cX11_listing 0 = .ok (.aload_n 0, 1) := by decide +kernel
theorem dX11_listing_1 : decode cX11_listing 1 = .ok (.getfield 48, 3) := by decide +kernel
theorem dX11_listing_20 : decode cX11_listing 20 = .ok (.iconst (-1), 1) := by decide +kernel
theorem dX11_listing_21 : decode cX11_listing 21 = .ok (.ireturn, 1) := by decide +kernel
theorem dX11_listing_4 : decode cX11_listing 4 = .ok (.getfield 153, 3) := by decide +kernel
theorem dX11_listing_7 : decode cX11_listing 7 = .ok (.ifCond .eq 13, 3) := by decide +kernel
theorem dX12_listing_0 : decode cX12_listing 0 = .ok (.aload_n 0, 1) := by decide +kernel
theorem dX12_listing_1 : decode cX12_listing 1 = .ok (.iconst 0, 1) := by decide +kernel
theorem dX12_listing_12 : decode cX12_listing 12 = .ok (.iconst (-1), 1) := by decide +kernel
theorem dX12_listing_13 : decode cX12_listing 13 = .ok (.ireturn, 1) := by decide +kernel
theorem dX12_listing_2 : decode cX12_listing 2 = .ok (.putfield 155, 3) := by decide +kernel
theorem dX12_listing_5 : decode cX12_listing 5 = .ok (.aload_n 0, 1) := by decide +kernel
theorem dX12_listing_6 : decode cX12_listing 6 = .ok (.getfield 633, 3) := by decide +kernel
theorem dX12_listing_9 : decode cX12_listing 9 = .ok (.ifCond .ne 5, 3) := by decide +kernel
theorem dX11_names_0 : decode cX11_names 0 = .ok (.aload_n 0, 1) := by decide +kernel
theorem dX11_names_1 : decode cX11_names 1 = .ok (.getfield 48, 3) := by decide +kernel
theorem dX11_names_24 : decode cX11_names 24 = .ok (.iconst (-1), 1) := by decide +kernel
theorem dX11_names_25 : decode cX11_names 25 = .ok (.ireturn, 1) := by decide +kernel
theorem dX11_names_4 : decode cX11_names 4 = .ok (.getfield 153, 3) := by decide +kernel
theorem dX11_names_7 : decode cX11_names 7 = .ok (.ifCond .eq 17, 3) := by decide +kernel
theorem dX12_names_0 : decode cX12_names 0 = .ok (.aload_n 0, 1) := by decide +kernel
theorem dX12_names_1 : decode cX12_names 1 = .ok (.iconst 0, 1) := by decide +kernel
theorem dX12_names_2 : decode cX12_names 2 = .ok (.putfield 155, 3) := by decide +kernel
theorem dX12_names_21 : decode cX12_names 21 = .ok (.iconst (-1), 1) := by decide +kernel
theorem dX12_names_22 : decode cX12_names 22 = .ok (.ireturn, 1) := by decide +kernel
theorem dX12_names_5 : decode cX12_names 5 = .ok (.aload_n 0, 1) := by decide +kernel
theorem dX12_names_6 : decode cX12_names 6 = .ok (.getfield 633, 3) := by decide +kernel
theorem dX12_names_9 : decode cX12_names 9 = .ok (.ifCond .eq 12, 3) := by decide +kernel
theorem dX11_trace_0 : decode cX11_trace 0 = .ok (.iload_n 1, 1) := by decide +kernel
theorem dX11_trace_1 : decode cX11_trace 1 = .ok (.ifCond .lt 10, 3) := by decide +kernel
theorem dX11_trace_11 : decode cX11_trace 11 = .ok (.iconst 0, 1) := by decide +kernel
theorem dX11_trace_12 : decode cX11_trace 12 = .ok (.goto 9, 3) := by decide +kernel
theorem dX11_trace_15 : decode cX11_trace 15 = .ok (.aload_n 0, 1) := by decide +kernel
theorem dX11_trace_16 : decode cX11_trace 16 = .ok (.iload_n 1, 1) := by decide +kernel
theorem dX11_trace_17 : decode cX11_trace 17 = .ok (.iconst 1, 1) := by decide +kernel
theorem dX11_trace_18 : decode cX11_trace 18 = .ok (.invokevirtual 147, 3) := by decide +kernel
theorem dX11_trace_21 : decode cX11_trace 21 = .ok (.ireturn, 1) := by decide +kernel
theorem dX11_trace_4 : decode cX11_trace 4 = .ok (.iload_n 1, 1) := by decide +kernel
theorem dX11_trace_5 : decode cX11_trace 5 = .ok (.sipush 300, 3) := by decide +kernel
theorem dX11_trace_8 : decode cX11_trace 8 = .ok (.if_icmp .le 7, 3) := by decide +kernel
theorem dX12_trace_0 : decode cX12_trace 0 = .ok (.aload_n 0, 1) := by decide +kernel
theorem dX12_trace_1 : decode cX12_trace 1 = .ok (.iconst 0, 1) := by decide +kernel
theorem dX12_trace_10 : decode cX12_trace 10 = .ok (.sipush 300, 3) := by decide +kernel
theorem dX12_trace_13 : decode cX12_trace 13 = .ok (.if_icmp .le 5, 3) := by decide +kernel
theorem dX12_trace_16 : decode cX12_trace 16 = .ok (.iconst 0, 1) := by decide +kernel
theorem dX12_trace_17 : decode cX12_trace 17 = .ok (.ireturn, 1) := by decide +kernel
theorem dX12_trace_18 : decode cX12_trace 18 = .ok (.aload_n 0, 1) := by decide +kernel
theorem dX12_trace_19 : decode cX12_trace 19 = .ok (.iload_n 1, 1) := by decide +kernel
theorem dX12_trace_2 : decode cX12_trace 2 = .ok (.putfield 155, 3) := by decide +kernel
theorem dX12_trace_20 : decode cX12_trace 20 = .ok (.putfield 415, 3) := by decide +kernel
theorem dX12_trace_23 : decode cX12_trace 23 = .ok (.aload_n 0, 1) := by decide +kernel
theorem dX12_trace_24 : decode cX12_trace 24 = .ok (.iload_n 1, 1) := by decide +kernel
theorem dX12_trace_25 : decode cX12_trace 25 = .ok (.invokevirtual 712, 3) := by decide +kernel
theorem dX12_trace_28 : decode cX12_trace 28 = .ok (.istore_n 2, 1) := by decide +kernel
theorem dX12_trace_29 : decode cX12_trace 29 = .ok (.aload_n 0, 1) := by decide +kernel
theorem dX12_trace_30 : decode cX12_trace 30 = .ok (.iconst 0, 1) := by decide +kernel
theorem dX12_trace_31 : decode cX12_trace 31 = .ok (.putfield 415, 3) := by decide +kernel
theorem dX12_trace_34 : decode cX12_trace 34 = .ok (.iload_n 2, 1) := by decide +kernel
theorem dX12_trace_35 : decode cX12_trace 35 = .ok (.ireturn, 1) := by decide +kernel
theorem dX12_trace_5 : decode cX12_trace 5 = .ok (.iload_n 1, 1) := by decide +kernel
theorem dX12_trace_6 : decode cX12_trace 6 = .ok (.ifCond .lt 10, 3) := by decide +kernel
theorem dX12_trace_9 : decode cX12_trace 9 = .ok (.iload_n 1, 1) := by decide +kernel
theorem dX11_mount_0 : decode cX11_mount 0 = .ok (.aload_n 0, 1) := by decide +kernel
theorem dX11_mount_1 : decode cX11_mount 1 = .ok (.invokevirtual 78, 3) := by decide +kernel
theorem dX11_mount_10 : decode cX11_mount 10 = .ok (.istore 4, 2) := by decide +kernel
theorem dX11_mount_100 : decode cX11_mount 100 = .ok (.ireturn, 1) := by decide +kernel
theorem dX11_mount_12 : decode cX11_mount 12 = .ok (.iload 4, 2) := by decide +kernel
theorem dX11_mount_14 : decode cX11_mount 14 = .ok (.bipush 100, 2) := by decide +kernel
theorem dX11_mount_16 : decode cX11_mount 16 = .ok (.iadd, 1) := by decide +kernel
theorem dX11_mount_17 : decode cX11_mount 17 = .ok (.iconst 1, 1) := by decide +kernel
theorem dX11_mount_18 : decode cX11_mount 18 = .ok (.isub, 1) := by decide +kernel
theorem dX11_mount_19 : decode cX11_mount 19 = .ok (.bipush 100, 2) := by decide +kernel
theorem dX11_mount_21 : decode cX11_mount 21 = .ok (.idiv, 1) := by decide +kernel
theorem dX11_mount_22 : decode cX11_mount 22 = .ok (.istore 5, 2) := by decide +kernel
theorem dX11_mount_24 : decode cX11_mount 24 = .ok (.iload_n 1, 1) := by decide +kernel
theorem dX11_mount_25 : decode cX11_mount 25 = .ok (.ifCond .lt 28, 3) := by decide +kernel
theorem dX11_mount_28 : decode cX11_mount 28 = .ok (.iload_n 1, 1) := by decide +kernel
theorem dX11_mount_29 : decode cX11_mount 29 = .ok (.bipush 16, 2) := by decide +kernel
theorem dX11_mount_31 : decode cX11_mount 31 = .ok (.if_icmp .ge 22, 3) := by decide +kernel
theorem dX11_mount_34 : decode cX11_mount 34 = .ok (.iload_n 2, 1) := by decide +kernel
theorem dX11_mount_35 : decode cX11_mount 35 = .ok (.ifCond .lt 18, 3) := by decide +kernel
theorem dX11_mount_38 : decode cX11_mount 38 = .ok (.iload_n 2, 1) := by decide +kernel
theorem dX11_mount_39 : decode cX11_mount 39 = .ok (.bipush 64, 2) := by decide +kernel
theorem dX11_mount_4 : decode cX11_mount 4 = .ok (.istore_n 3, 1) := by decide +kernel
theorem dX11_mount_41 : decode cX11_mount 41 = .ok (.if_icmp .ge 12, 3) := by decide +kernel
theorem dX11_mount_44 : decode cX11_mount 44 = .ok (.iload_n 2, 1) := by decide +kernel
theorem dX11_mount_45 : decode cX11_mount 45 = .ok (.iload 5, 2) := by decide +kernel
theorem dX11_mount_47 : decode cX11_mount 47 = .ok (.iadd, 1) := by decide +kernel
theorem dX11_mount_48 : decode cX11_mount 48 = .ok (.bipush 64, 2) := by decide +kernel
theorem dX11_mount_5 : decode cX11_mount 5 = .ok (.iload_n 3, 1) := by decide +kernel
theorem dX11_mount_50 : decode cX11_mount 50 = .ok (.if_icmp .le 5, 3) := by decide +kernel
theorem dX11_mount_53 : decode cX11_mount 53 = .ok (.iconst (-1), 1) := by decide +kernel
theorem dX11_mount_54 : decode cX11_mount 54 = .ok (.ireturn, 1) := by decide +kernel
theorem dX11_mount_55 : decode cX11_mount 55 = .ok (.iconst 0, 1) := by decide +kernel
theorem dX11_mount_56 : decode cX11_mount 56 = .ok (.istore 6, 2) := by decide +kernel
theorem dX11_mount_58 : decode cX11_mount 58 = .ok (.iload 6, 2) := by decide +kernel
theorem dX11_mount_6 : decode cX11_mount 6 = .ok (.iconst 4, 1) := by decide +kernel
theorem dX11_mount_60 : decode cX11_mount 60 = .ok (.iload 5, 2) := by decide +kernel
theorem dX11_mount_62 : decode cX11_mount 62 = .ok (.bipush 100, 2) := by decide +kernel
theorem dX11_mount_64 : decode cX11_mount 64 = .ok (.imul, 1) := by decide +kernel
theorem dX11_mount_65 : decode cX11_mount 65 = .ok (.if_icmp .ge 33, 3) := by decide +kernel
theorem dX11_mount_7 : decode cX11_mount 7 = .ok (.iadd, 1) := by decide +kernel
theorem dX11_mount_8 : decode cX11_mount 8 = .ok (.iconst 5, 1) := by decide +kernel
theorem dX11_mount_9 : decode cX11_mount 9 = .ok (.idiv, 1) := by decide +kernel
theorem dX11_mount_98 : decode cX11_mount 98 = .ok (.iload 5, 2) := by decide +kernel
theorem dX12_mount_0 : decode cX12_mount 0 = .ok (.aload_n 0, 1) := by decide +kernel
theorem dX12_mount_1 : decode cX12_mount 1 = .ok (.iconst 0, 1) := by decide +kernel
theorem dX12_mount_10 : decode cX12_mount 10 = .ok (.iadd, 1) := by decide +kernel
theorem dX12_mount_11 : decode cX12_mount 11 = .ok (.iconst 5, 1) := by decide +kernel
theorem dX12_mount_12 : decode cX12_mount 12 = .ok (.idiv, 1) := by decide +kernel
theorem dX12_mount_13 : decode cX12_mount 13 = .ok (.istore_n 3, 1) := by decide +kernel
theorem dX12_mount_14 : decode cX12_mount 14 = .ok (.iload_n 3, 1) := by decide +kernel
theorem dX12_mount_15 : decode cX12_mount 15 = .ok (.bipush 99, 2) := by decide +kernel
theorem dX12_mount_17 : decode cX12_mount 17 = .ok (.iadd, 1) := by decide +kernel
theorem dX12_mount_177 : decode cX12_mount 177 = .ok (.iload 4, 2) := by decide +kernel
theorem dX12_mount_179 : decode cX12_mount 179 = .ok (.ireturn, 1) := by decide +kernel
theorem dX12_mount_18 : decode cX12_mount 18 = .ok (.bipush 100, 2) := by decide +kernel
theorem dX12_mount_2 : decode cX12_mount 2 = .ok (.putfield 155, 3) := by decide +kernel
theorem dX12_mount_20 : decode cX12_mount 20 = .ok (.idiv, 1) := by decide +kernel
theorem dX12_mount_21 : decode cX12_mount 21 = .ok (.istore 4, 2) := by decide +kernel
theorem dX12_mount_23 : decode cX12_mount 23 = .ok (.iload_n 1, 1) := by decide +kernel
theorem dX12_mount_24 : decode cX12_mount 24 = .ok (.ifCond .lt 23, 3) := by decide +kernel
theorem dX12_mount_27 : decode cX12_mount 27 = .ok (.iload_n 1, 1) := by decide +kernel
theorem dX12_mount_28 : decode cX12_mount 28 = .ok (.bipush 16, 2) := by decide +kernel
theorem dX12_mount_30 : decode cX12_mount 30 = .ok (.if_icmp .ge 17, 3) := by decide +kernel
theorem dX12_mount_33 : decode cX12_mount 33 = .ok (.iload_n 2, 1) := by decide +kernel
theorem dX12_mount_34 : decode cX12_mount 34 = .ok (.ifCond .lt 13, 3) := by decide +kernel
theorem dX12_mount_37 : decode cX12_mount 37 = .ok (.iload_n 2, 1) := by decide +kernel
theorem dX12_mount_38 : decode cX12_mount 38 = .ok (.bipush 64, 2) := by decide +kernel
theorem dX12_mount_40 : decode cX12_mount 40 = .ok (.if_icmp .ge 7, 3) := by decide +kernel
theorem dX12_mount_43 : decode cX12_mount 43 = .ok (.iconst 1, 1) := by decide +kernel
theorem dX12_mount_44 : decode cX12_mount 44 = .ok (.goto 4, 3) := by decide +kernel
theorem dX12_mount_47 : decode cX12_mount 47 = .ok (.iconst 0, 1) := by decide +kernel
theorem dX12_mount_48 : decode cX12_mount 48 = .ok (.istore 5, 2) := by decide +kernel
theorem dX12_mount_5 : decode cX12_mount 5 = .ok (.aload_n 0, 1) := by decide +kernel
theorem dX12_mount_50 : decode cX12_mount 50 = .ok (.aload_n 0, 1) := by decide +kernel
theorem dX12_mount_51 : decode cX12_mount 51 = .ok (.getfield 176, 3) := by decide +kernel
theorem dX12_mount_54 : decode cX12_mount 54 = .ok (.istore 6, 2) := by decide +kernel
theorem dX12_mount_56 : decode cX12_mount 56 = .ok (.aload_n 0, 1) := by decide +kernel
theorem dX12_mount_57 : decode cX12_mount 57 = .ok (.iconst 0, 1) := by decide +kernel
theorem dX12_mount_58 : decode cX12_mount 58 = .ok (.putfield 176, 3) := by decide +kernel
theorem dX12_mount_6 : decode cX12_mount 6 = .ok (.getfield 176, 3) := by decide +kernel
theorem dX12_mount_61 : decode cX12_mount 61 = .ok (.iload 5, 2) := by decide +kernel
theorem dX12_mount_63 : decode cX12_mount 63 = .ok (.ifCond .eq 12, 3) := by decide +kernel
theorem dX12_mount_66 : decode cX12_mount 66 = .ok (.iload_n 2, 1) := by decide +kernel
theorem dX12_mount_67 : decode cX12_mount 67 = .ok (.iload 4, 2) := by decide +kernel
theorem dX12_mount_69 : decode cX12_mount 69 = .ok (.iadd, 1) := by decide +kernel
theorem dX12_mount_70 : decode cX12_mount 70 = .ok (.bipush 64, 2) := by decide +kernel
theorem dX12_mount_72 : decode cX12_mount 72 = .ok (.if_icmp .le 5, 3) := by decide +kernel
theorem dX12_mount_75 : decode cX12_mount 75 = .ok (.iconst (-1), 1) := by decide +kernel
theorem dX12_mount_76 : decode cX12_mount 76 = .ok (.ireturn, 1) := by decide +kernel
theorem dX12_mount_77 : decode cX12_mount 77 = .ok (.iconst 0, 1) := by decide +kernel
theorem dX12_mount_78 : decode cX12_mount 78 = .ok (.istore 7, 2) := by decide +kernel
theorem dX12_mount_80 : decode cX12_mount 80 = .ok (.iload 7, 2) := by decide +kernel
theorem dX12_mount_82 : decode cX12_mount 82 = .ok (.bipush 100, 2) := by decide +kernel
theorem dX12_mount_84 : decode cX12_mount 84 = .ok (.iload 4, 2) := by decide +kernel
theorem dX12_mount_86 : decode cX12_mount 86 = .ok (.imul, 1) := by decide +kernel
theorem dX12_mount_87 : decode cX12_mount 87 = .ok (.if_icmp .ge 90, 3) := by decide +kernel
theorem dX12_mount_9 : decode cX12_mount 9 = .ok (.iconst 4, 1) := by decide +kernel
theorem dX3_seek_0 : decode cX3_seek 0 = .ok (.iconst 0, 1) := by decide +kernel
theorem dX3_seek_1 : decode cX3_seek 1 = .ok (.istore_n 1, 1) := by decide +kernel
theorem dX3_seek_101 : decode cX3_seek 101 = .ok (.iconst 0, 1) := by decide +kernel
theorem dX3_seek_102 : decode cX3_seek 102 = .ok (.ireturn, 1) := by decide +kernel
theorem dX3_seek_11 : decode cX3_seek 11 = .ok (.aload_n 0, 1) := by decide +kernel
theorem dX3_seek_12 : decode cX3_seek 12 = .ok (.getfield 21, 3) := by decide +kernel
theorem dX3_seek_15 : decode cX3_seek 15 = .ok (.invokevirtual 36, 3) := by decide +kernel
theorem dX3_seek_18 : decode cX3_seek 18 = .ok (.ifCond .eq 83, 3) := by decide +kernel
theorem dX3_seek_2 : decode cX3_seek 2 = .ok (.iconst 0, 1) := by decide +kernel
theorem dX3_seek_3 : decode cX3_seek 3 = .ok (.istore_n 2, 1) := by decide +kernel
theorem dX3_seek_4 : decode cX3_seek 4 = .ok (.iload_n 2, 1) := by decide +kernel
theorem dX3_seek_5 : decode cX3_seek 5 = .ok (.sipush 8192, 3) := by decide +kernel
theorem dX3_seek_8 : decode cX3_seek 8 = .ok (.if_icmp .gt 93, 3) := by decide +kernel
theorem dX11_jobs_0 : decode cX11_jobs 0 = .ok (.aload_n 0, 1) := by decide +kernel
theorem dX11_jobs_1 : decode cX11_jobs 1 = .ok (.invokevirtual 78, 3) := by decide +kernel
theorem dX11_jobs_12 : decode cX11_jobs 12 = .ok (.iconst 0, 1) := by decide +kernel
theorem dX11_jobs_13 : decode cX11_jobs 13 = .ok (.iload_n 1, 1) := by decide +kernel
theorem dX11_jobs_14 : decode cX11_jobs 14 = .ok (.invokevirtual 136, 3) := by decide +kernel
theorem dX11_jobs_159 : decode cX11_jobs 159 = .ok (.iload_n 2, 1) := by decide +kernel
theorem dX11_jobs_160 : decode cX11_jobs 160 = .ok (.ireturn, 1) := by decide +kernel
theorem dX11_jobs_17 : decode cX11_jobs 17 = .ok (.iconst 0, 1) := by decide +kernel
theorem dX11_jobs_18 : decode cX11_jobs 18 = .ok (.istore_n 2, 1) := by decide +kernel
theorem dX11_jobs_19 : decode cX11_jobs 19 = .ok (.iconst 0, 1) := by decide +kernel
theorem dX11_jobs_20 : decode cX11_jobs 20 = .ok (.istore_n 3, 1) := by decide +kernel
theorem dX11_jobs_21 : decode cX11_jobs 21 = .ok (.iload_n 3, 1) := by decide +kernel
theorem dX11_jobs_22 : decode cX11_jobs 22 = .ok (.sipush 512, 3) := by decide +kernel
theorem dX11_jobs_25 : decode cX11_jobs 25 = .ok (.if_icmp .ge 134, 3) := by decide +kernel
theorem dX11_jobs_28 : decode cX11_jobs 28 = .ok (.aload_n 0, 1) := by decide +kernel
theorem dX11_jobs_29 : decode cX11_jobs 29 = .ok (.getfield 66, 3) := by decide +kernel
theorem dX11_jobs_32 : decode cX11_jobs 32 = .ok (.invokevirtual 185, 3) := by decide +kernel
theorem dX11_jobs_35 : decode cX11_jobs 35 = .ok (.ifCond .eq 124, 3) := by decide +kernel
theorem dX11_jobs_4 : decode cX11_jobs 4 = .ok (.istore_n 1, 1) := by decide +kernel
theorem dX11_jobs_5 : decode cX11_jobs 5 = .ok (.aload_n 0, 1) := by decide +kernel
theorem dX11_jobs_6 : decode cX11_jobs 6 = .ok (.getfield 66, 3) := by decide +kernel
theorem dX11_jobs_9 : decode cX11_jobs 9 = .ok (.getfield 124, 3) := by decide +kernel
theorem dX12_jobs_0 : decode cX12_jobs 0 = .ok (.aload_n 0, 1) := by decide +kernel
theorem dX12_jobs_1 : decode cX12_jobs 1 = .ok (.iconst 0, 1) := by decide +kernel
theorem dX12_jobs_10 : decode cX12_jobs 10 = .ok (.iconst 0, 1) := by decide +kernel
theorem dX12_jobs_106 : decode cX12_jobs 106 = .ok (.aload_n 0, 1) := by decide +kernel
theorem dX12_jobs_107 : decode cX12_jobs 107 = .ok (.iconst 0, 1) := by decide +kernel
theorem dX12_jobs_108 : decode cX12_jobs 108 = .ok (.putfield 176, 3) := by decide +kernel
theorem dX12_jobs_11 : decode cX12_jobs 11 = .ok (.istore_n 1, 1) := by decide +kernel
theorem dX12_jobs_111 : decode cX12_jobs 111 = .ok (.aload_n 0, 1) := by decide +kernel
theorem dX12_jobs_112 : decode cX12_jobs 112 = .ok (.iconst 0, 1) := by decide +kernel
theorem dX12_jobs_113 : decode cX12_jobs 113 = .ok (.putfield 770, 3) := by decide +kernel
theorem dX12_jobs_116 : decode cX12_jobs 116 = .ok (.aload_n 0, 1) := by decide +kernel
theorem dX12_jobs_117 : decode cX12_jobs 117 = .ok (.iconst 0, 1) := by decide +kernel
theorem dX12_jobs_118 : decode cX12_jobs 118 = .ok (.putfield 773, 3) := by decide +kernel
theorem dX12_jobs_12 : decode cX12_jobs 12 = .ok (.iload_n 1, 1) := by decide +kernel
theorem dX12_jobs_121 : decode cX12_jobs 121 = .ok (.iconst 0, 1) := by decide +kernel
theorem dX12_jobs_122 : decode cX12_jobs 122 = .ok (.istore_n 1, 1) := by decide +kernel
theorem dX12_jobs_123 : decode cX12_jobs 123 = .ok (.iload_n 1, 1) := by decide +kernel
theorem dX12_jobs_124 : decode cX12_jobs 124 = .ok (.aload_n 0, 1) := by decide +kernel
theorem dX12_jobs_125 : decode cX12_jobs 125 = .ok (.getfield 764, 3) := by decide +kernel
theorem dX12_jobs_128 : decode cX12_jobs 128 = .ok (.if_icmp .ge 121, 3) := by decide +kernel
theorem dX12_jobs_13 : decode cX12_jobs 13 = .ok (.aload_n 0, 1) := by decide +kernel
theorem dX12_jobs_14 : decode cX12_jobs 14 = .ok (.getfield 176, 3) := by decide +kernel
theorem dX12_jobs_17 : decode cX12_jobs 17 = .ok (.if_icmp .ge 61, 3) := by decide +kernel
theorem dX12_jobs_2 : decode cX12_jobs 2 = .ok (.putfield 155, 3) := by decide +kernel
theorem dX12_jobs_249 : decode cX12_jobs 249 = .ok (.aload_n 0, 1) := by decide +kernel
theorem dX12_jobs_250 : decode cX12_jobs 250 = .ok (.getfield 773, 3) := by decide +kernel
theorem dX12_jobs_253 : decode cX12_jobs 253 = .ok (.ireturn, 1) := by decide +kernel
theorem dX12_jobs_5 : decode cX12_jobs 5 = .ok (.aload_n 0, 1) := by decide +kernel
theorem dX12_jobs_6 : decode cX12_jobs 6 = .ok (.iconst 0, 1) := by decide +kernel
theorem dX12_jobs_7 : decode cX12_jobs 7 = .ok (.putfield 764, 3) := by decide +kernel
theorem dX12_jobs_78 : decode cX12_jobs 78 = .ok (.iconst 0, 1) := by decide +kernel
theorem dX12_jobs_79 : decode cX12_jobs 79 = .ok (.istore_n 1, 1) := by decide +kernel
theorem dX12_jobs_80 : decode cX12_jobs 80 = .ok (.iload_n 1, 1) := by decide +kernel
theorem dX12_jobs_81 : decode cX12_jobs 81 = .ok (.aload_n 0, 1) := by decide +kernel
theorem dX12_jobs_82 : decode cX12_jobs 82 = .ok (.getfield 176, 3) := by decide +kernel
theorem dX12_jobs_85 : decode cX12_jobs 85 = .ok (.if_icmp .ge 21, 3) := by decide +kernel
theorem dX3_entry_0 : decode cX3_entry 0 = .ok (.iload_n 1, 1) := by decide +kernel
theorem dX3_entry_1 : decode cX3_entry 1 = .ok (.ifCond .lt 33, 3) := by decide +kernel
theorem dX3_entry_34 : decode cX3_entry 34 = .ok (.iconst (-1), 1) := by decide +kernel
theorem dX3_entry_35 : decode cX3_entry 35 = .ok (.ireturn, 1) := by decide +kernel
theorem dX3_entry_4 : decode cX3_entry 4 = .ok (.iload_n 1, 1) := by decide +kernel
theorem dX3_entry_5 : decode cX3_entry 5 = .ok (.aload_n 0, 1) := by decide +kernel
theorem dX3_entry_6 : decode cX3_entry 6 = .ok (.getfield 25, 3) := by decide +kernel
theorem dX3_entry_9 : decode cX3_entry 9 = .ok (.if_icmp .ge 25, 3) := by decide +kernel
theorem dX11_account_0 : decode cX11_account 0 = .ok (.aload_n 0, 1) := by decide +kernel
theorem dX11_account_1 : decode cX11_account 1 = .ok (.getfield 66, 3) := by decide +kernel
theorem dX11_account_4 : decode cX11_account 4 = .ok (.iload_n 1, 1) := by decide +kernel
theorem dX11_account_5 : decode cX11_account 5 = .ok (.iload_n 2, 1) := by decide +kernel
theorem dX11_account_6 : decode cX11_account 6 = .ok (.invokevirtual 210, 3) := by decide +kernel
theorem dX11_account_9 : decode cX11_account 9 = .ok (.ireturn, 1) := by decide +kernel
theorem dX12_account_0 : decode cX12_account 0 = .ok (.aload_n 0, 1) := by decide +kernel
theorem dX12_account_1 : decode cX12_account 1 = .ok (.iconst 0, 1) := by decide +kernel
theorem dX12_account_10 : decode cX12_account 10 = .ok (.aload_n 0, 1) := by decide +kernel
theorem dX12_account_11 : decode cX12_account 11 = .ok (.getfield 849, 3) := by decide +kernel
theorem dX12_account_14 : decode cX12_account 14 = .ok (.if_icmp .ge 12, 3) := by decide +kernel
theorem dX12_account_2 : decode cX12_account 2 = .ok (.putfield 155, 3) := by decide +kernel
theorem dX12_account_26 : decode cX12_account 26 = .ok (.iconst (-1), 1) := by decide +kernel
theorem dX12_account_27 : decode cX12_account 27 = .ok (.ireturn, 1) := by decide +kernel
theorem dX12_account_5 : decode cX12_account 5 = .ok (.iload_n 1, 1) := by decide +kernel
theorem dX12_account_6 : decode cX12_account 6 = .ok (.ifCond .lt 20, 3) := by decide +kernel
theorem dX12_account_9 : decode cX12_account 9 = .ok (.iload_n 1, 1) := by decide +kernel
theorem dX11_summary_0 : decode cX11_summary 0 = .ok (.aload_n 0, 1) := by decide +kernel
theorem dX11_summary_1 : decode cX11_summary 1 = .ok (.getfield 66, 3) := by decide +kernel
theorem dX11_summary_10 : decode cX11_summary 10 = .ok (.iconst (-1), 1) := by decide +kernel
theorem dX11_summary_11 : decode cX11_summary 11 = .ok (.goto 14, 3) := by decide +kernel
theorem dX11_summary_25 : decode cX11_summary 25 = .ok (.ireturn, 1) := by decide +kernel
theorem dX11_summary_4 : decode cX11_summary 4 = .ok (.getfield 213, 3) := by decide +kernel
theorem dX11_summary_7 : decode cX11_summary 7 = .ok (.ifCond .ne 7, 3) := by decide +kernel
theorem dX12_summary_0 : decode cX12_summary 0 = .ok (.aload_n 0, 1) := by decide +kernel
theorem dX12_summary_1 : decode cX12_summary 1 = .ok (.iconst 0, 1) := by decide +kernel
theorem dX12_summary_12 : decode cX12_summary 12 = .ok (.iconst (-1), 1) := by decide +kernel
theorem dX12_summary_13 : decode cX12_summary 13 = .ok (.ireturn, 1) := by decide +kernel
theorem dX12_summary_2 : decode cX12_summary 2 = .ok (.putfield 155, 3) := by decide +kernel
theorem dX12_summary_5 : decode cX12_summary 5 = .ok (.aload_n 0, 1) := by decide +kernel
theorem dX12_summary_6 : decode cX12_summary 6 = .ok (.getfield 849, 3) := by decide +kernel
theorem dX12_summary_9 : decode cX12_summary 9 = .ok (.ifCond .ne 5, 3) := by decide +kernel
theorem dX11_state_0 : decode cX11_state 0 = .ok (.aload_n 0, 1) := by decide +kernel
theorem dX11_state_1 : decode cX11_state 1 = .ok (.getfield 44, 3) := by decide +kernel
theorem dX11_state_4 : decode cX11_state 4 = .ok (.getfield 220, 3) := by decide +kernel
theorem dX11_state_7 : decode cX11_state 7 = .ok (.ireturn, 1) := by decide +kernel
theorem dX12_state_0 : decode cX12_state 0 = .ok (.aload_n 0, 1) := by decide +kernel
theorem dX12_state_1 : decode cX12_state 1 = .ok (.iconst 0, 1) := by decide +kernel
theorem dX12_state_2 : decode cX12_state 2 = .ok (.putfield 155, 3) := by decide +kernel
theorem dX12_state_5 : decode cX12_state 5 = .ok (.aload_n 0, 1) := by decide +kernel
theorem dX12_state_6 : decode cX12_state 6 = .ok (.getfield 24, 3) := by decide +kernel
theorem dX12_state_9 : decode cX12_state 9 = .ok (.ireturn, 1) := by decide +kernel
theorem dX11_time_0 : decode cX11_time 0 = .ok (.aload_n 0, 1) := by decide +kernel
theorem dX11_time_1 : decode cX11_time 1 = .ok (.getfield 44, 3) := by decide +kernel
theorem dX11_time_4 : decode cX11_time 4 = .ok (.getfield 244, 3) := by decide +kernel
theorem dX11_time_7 : decode cX11_time 7 = .ok (.lreturn, 1) := by decide +kernel
theorem dX12_time_0 : decode cX12_time 0 = .ok (.aload_n 0, 1) := by decide +kernel
theorem dX12_time_1 : decode cX12_time 1 = .ok (.iconst 0, 1) := by decide +kernel
theorem dX12_time_2 : decode cX12_time 2 = .ok (.putfield 155, 3) := by decide +kernel
theorem dX12_time_5 : decode cX12_time 5 = .ok (.aload_n 0, 1) := by decide +kernel
theorem dX12_time_6 : decode cX12_time 6 = .ok (.getfield 272, 3) := by decide +kernel
theorem dX12_time_9 : decode cX12_time 9 = .ok (.lreturn, 1) := by decide +kernel
theorem dX10_paper_0 : decode cX10_paper 0 = .ok (.iload_n 1, 1) := by decide +kernel
theorem dX10_paper_1 : decode cX10_paper 1 = .ok (.bipush 17, 2) := by decide +kernel
theorem dX10_paper_10 : decode cX10_paper 10 = .ok (.areturn, 1) := by decide +kernel
theorem dX10_paper_11 : decode cX10_paper 11 = .ok (.iload_n 1, 1) := by decide +kernel
theorem dX10_paper_12 : decode cX10_paper 12 = .ok (.bipush 18, 2) := by decide +kernel
theorem dX10_paper_14 : decode cX10_paper 14 = .ok (.if_icmp .ne 10, 3) := by decide +kernel
theorem dX10_paper_17 : decode cX10_paper 17 = .ok (.aload_n 0, 1) := by decide +kernel
theorem dX10_paper_18 : decode cX10_paper 18 = .ok (.getfield 51, 3) := by decide +kernel
theorem dX10_paper_21 : decode cX10_paper 21 = .ok (.goto 7, 3) := by decide +kernel
theorem dX10_paper_24 : decode cX10_paper 24 = .ok (.aload_n 0, 1) := by decide +kernel
theorem dX10_paper_25 : decode cX10_paper 25 = .ok (.getfield 54, 3) := by decide +kernel
theorem dX10_paper_28 : decode cX10_paper 28 = .ok (.areturn, 1) := by decide +kernel
theorem dX10_paper_3 : decode cX10_paper 3 = .ok (.if_icmp .ne 8, 3) := by decide +kernel
theorem dX10_paper_6 : decode cX10_paper 6 = .ok (.aload_n 0, 1) := by decide +kernel
theorem dX10_paper_7 : decode cX10_paper 7 = .ok (.getfield 47, 3) := by decide +kernel
theorem dX11_unit_0 : decode cX11_unit 0 = .ok (.iload_n 1, 1) := by decide +kernel
theorem dX11_unit_1 : decode cX11_unit 1 = .ok (.ifCond .lt 19, 3) := by decide +kernel
theorem dX11_unit_10 : decode cX11_unit 10 = .ok (.aload_n 0, 1) := by decide +kernel
theorem dX11_unit_11 : decode cX11_unit 11 = .ok (.getfield 40, 3) := by decide +kernel
theorem dX11_unit_14 : decode cX11_unit 14 = .ok (.getfield 266, 3) := by decide +kernel
theorem dX11_unit_17 : decode cX11_unit 17 = .ok (.iload_n 1, 1) := by decide +kernel
theorem dX11_unit_18 : decode cX11_unit 18 = .ok (.iaload, 1) := by decide +kernel
theorem dX11_unit_19 : decode cX11_unit 19 = .ok (.ireturn, 1) := by decide +kernel
theorem dX11_unit_20 : decode cX11_unit 20 = .ok (.iload_n 1, 1) := by decide +kernel
theorem dX11_unit_21 : decode cX11_unit 21 = .ok (.bipush 16, 2) := by decide +kernel
theorem dX11_unit_23 : decode cX11_unit 23 = .ok (.if_icmp .ne 14, 3) := by decide +kernel
theorem dX11_unit_26 : decode cX11_unit 26 = .ok (.aload_n 0, 1) := by decide +kernel
theorem dX11_unit_27 : decode cX11_unit 27 = .ok (.getfield 40, 3) := by decide +kernel
theorem dX11_unit_30 : decode cX11_unit 30 = .ok (.getfield 127, 3) := by decide +kernel
theorem dX11_unit_33 : decode cX11_unit 33 = .ok (.getfield 131, 3) := by decide +kernel
theorem dX11_unit_36 : decode cX11_unit 36 = .ok (.ireturn, 1) := by decide +kernel
theorem dX11_unit_37 : decode cX11_unit 37 = .ok (.iload_n 1, 1) := by decide +kernel
theorem dX11_unit_38 : decode cX11_unit 38 = .ok (.bipush 17, 2) := by decide +kernel
theorem dX11_unit_4 : decode cX11_unit 4 = .ok (.iload_n 1, 1) := by decide +kernel
theorem dX11_unit_40 : decode cX11_unit 40 = .ok (.if_icmp .lt 23, 3) := by decide +kernel
theorem dX11_unit_43 : decode cX11_unit 43 = .ok (.iload_n 1, 1) := by decide +kernel
theorem dX11_unit_44 : decode cX11_unit 44 = .ok (.bipush 19, 2) := by decide +kernel
theorem dX11_unit_46 : decode cX11_unit 46 = .ok (.if_icmp .gt 17, 3) := by decide +kernel
theorem dX11_unit_49 : decode cX11_unit 49 = .ok (.aload_n 0, 1) := by decide +kernel
theorem dX11_unit_5 : decode cX11_unit 5 = .ok (.bipush 8, 2) := by decide +kernel
theorem dX11_unit_50 : decode cX11_unit 50 = .ok (.getfield 40, 3) := by decide +kernel
theorem dX11_unit_53 : decode cX11_unit 53 = .ok (.iload_n 1, 1) := by decide +kernel
theorem dX11_unit_54 : decode cX11_unit 54 = .ok (.invokevirtual 269, 3) := by decide +kernel
theorem dX11_unit_57 : decode cX11_unit 57 = .ok (.getfield 273, 3) := by decide +kernel
theorem dX11_unit_60 : decode cX11_unit 60 = .ok (.goto 4, 3) := by decide +kernel
theorem dX11_unit_63 : decode cX11_unit 63 = .ok (.iconst (-1), 1) := by decide +kernel
theorem dX11_unit_64 : decode cX11_unit 64 = .ok (.ireturn, 1) := by decide +kernel
theorem dX11_unit_7 : decode cX11_unit 7 = .ok (.if_icmp .ge 13, 3) := by decide +kernel
theorem dX12_unit_0 : decode cX12_unit 0 = .ok (.aload_n 0, 1) := by decide +kernel
theorem dX12_unit_1 : decode cX12_unit 1 = .ok (.iconst 0, 1) := by decide +kernel
theorem dX12_unit_11 : decode cX12_unit 11 = .ok (.iload_n 1, 1) := by decide +kernel
theorem dX12_unit_12 : decode cX12_unit 12 = .ok (.bipush 19, 2) := by decide +kernel
theorem dX12_unit_14 : decode cX12_unit 14 = .ok (.if_icmp .gt 13, 3) := by decide +kernel
theorem dX12_unit_17 : decode cX12_unit 17 = .ok (.aload_n 0, 1) := by decide +kernel
theorem dX12_unit_18 : decode cX12_unit 18 = .ok (.getfield 58, 3) := by decide +kernel
theorem dX12_unit_2 : decode cX12_unit 2 = .ok (.putfield 155, 3) := by decide +kernel
theorem dX12_unit_21 : decode cX12_unit 21 = .ok (.iload_n 1, 1) := by decide +kernel
theorem dX12_unit_22 : decode cX12_unit 22 = .ok (.bipush 17, 2) := by decide +kernel
theorem dX12_unit_24 : decode cX12_unit 24 = .ok (.isub, 1) := by decide +kernel
theorem dX12_unit_25 : decode cX12_unit 25 = .ok (.iaload, 1) := by decide +kernel
theorem dX12_unit_26 : decode cX12_unit 26 = .ok (.ireturn, 1) := by decide +kernel
theorem dX12_unit_27 : decode cX12_unit 27 = .ok (.iload_n 1, 1) := by decide +kernel
theorem dX12_unit_28 : decode cX12_unit 28 = .ok (.bipush 16, 2) := by decide +kernel
theorem dX12_unit_30 : decode cX12_unit 30 = .ok (.if_icmp .ne 8, 3) := by decide +kernel
theorem dX12_unit_33 : decode cX12_unit 33 = .ok (.aload_n 0, 1) := by decide +kernel
theorem dX12_unit_34 : decode cX12_unit 34 = .ok (.invokevirtual 232, 3) := by decide +kernel
theorem dX12_unit_37 : decode cX12_unit 37 = .ok (.ireturn, 1) := by decide +kernel
theorem dX12_unit_38 : decode cX12_unit 38 = .ok (.iload_n 1, 1) := by decide +kernel
theorem dX12_unit_39 : decode cX12_unit 39 = .ok (.ifCond .lt 18, 3) := by decide +kernel
theorem dX12_unit_42 : decode cX12_unit 42 = .ok (.iload_n 1, 1) := by decide +kernel
theorem dX12_unit_43 : decode cX12_unit 43 = .ok (.bipush 8, 2) := by decide +kernel
theorem dX12_unit_45 : decode cX12_unit 45 = .ok (.if_icmp .ge 12, 3) := by decide +kernel
theorem dX12_unit_48 : decode cX12_unit 48 = .ok (.aload_n 0, 1) := by decide +kernel
theorem dX12_unit_49 : decode cX12_unit 49 = .ok (.getfield 44, 3) := by decide +kernel
theorem dX12_unit_5 : decode cX12_unit 5 = .ok (.iload_n 1, 1) := by decide +kernel
theorem dX12_unit_52 : decode cX12_unit 52 = .ok (.iload_n 1, 1) := by decide +kernel
theorem dX12_unit_53 : decode cX12_unit 53 = .ok (.iaload, 1) := by decide +kernel
theorem dX12_unit_54 : decode cX12_unit 54 = .ok (.goto 4, 3) := by decide +kernel
theorem dX12_unit_57 : decode cX12_unit 57 = .ok (.iconst (-1), 1) := by decide +kernel
theorem dX12_unit_58 : decode cX12_unit 58 = .ok (.ireturn, 1) := by decide +kernel
theorem dX12_unit_6 : decode cX12_unit 6 = .ok (.bipush 17, 2) := by decide +kernel
theorem dX12_unit_8 : decode cX12_unit 8 = .ok (.if_icmp .lt 19, 3) := by decide +kernel
theorem dX4_letterAt_0 : decode cX4_letterAt 0 = .ok (.iload_n 1, 1) := by decide +kernel
theorem dX4_letterAt_1 : decode cX4_letterAt 1 = .ok (.ifCond .lt 34, 3) := by decide +kernel
theorem dX4_letterAt_35 : decode cX4_letterAt 35 = .ok (.iconst (-1), 1) := by decide +kernel
theorem dX4_letterAt_36 : decode cX4_letterAt 36 = .ok (.ireturn, 1) := by decide +kernel
theorem dX4_letterAt_4 : decode cX4_letterAt 4 = .ok (.iload_n 1, 1) := by decide +kernel
theorem dX4_letterAt_5 : decode cX4_letterAt 5 = .ok (.aload_n 0, 1) := by decide +kernel
theorem dX4_letterAt_6 : decode cX4_letterAt 6 = .ok (.getfield 64, 3) := by decide +kernel
theorem dX4_letterAt_9 : decode cX4_letterAt 9 = .ok (.if_icmp .ge 26, 3) := by decide +kernel
theorem dX11_letter_0 : decode cX11_letter 0 = .ok (.iload_n 1, 1) := by decide +kernel
theorem dX11_letter_1 : decode cX11_letter 1 = .ok (.bipush 17, 2) := by decide +kernel
theorem dX11_letter_12 : decode cX11_letter 12 = .ok (.aload_n 0, 1) := by decide +kernel
theorem dX11_letter_13 : decode cX11_letter 13 = .ok (.getfield 40, 3) := by decide +kernel
theorem dX11_letter_16 : decode cX11_letter 16 = .ok (.iload_n 1, 1) := by decide +kernel
theorem dX11_letter_17 : decode cX11_letter 17 = .ok (.invokevirtual 269, 3) := by decide +kernel
theorem dX11_letter_20 : decode cX11_letter 20 = .ok (.iload_n 2, 1) := by decide +kernel
theorem dX11_letter_21 : decode cX11_letter 21 = .ok (.iload_n 3, 1) := by decide +kernel
theorem dX11_letter_22 : decode cX11_letter 22 = .ok (.invokevirtual 276, 3) := by decide +kernel
theorem dX11_letter_25 : decode cX11_letter 25 = .ok (.goto 4, 3) := by decide +kernel
theorem dX11_letter_28 : decode cX11_letter 28 = .ok (.iconst (-1), 1) := by decide +kernel
theorem dX11_letter_29 : decode cX11_letter 29 = .ok (.ireturn, 1) := by decide +kernel
theorem dX11_letter_3 : decode cX11_letter 3 = .ok (.if_icmp .lt 25, 3) := by decide +kernel
theorem dX11_letter_6 : decode cX11_letter 6 = .ok (.iload_n 1, 1) := by decide +kernel
theorem dX11_letter_7 : decode cX11_letter 7 = .ok (.bipush 19, 2) := by decide +kernel
theorem dX11_letter_9 : decode cX11_letter 9 = .ok (.if_icmp .gt 19, 3) := by decide +kernel
theorem dX12_letter_0 : decode cX12_letter 0 = .ok (.aload_n 0, 1) := by decide +kernel
theorem dX12_letter_1 : decode cX12_letter 1 = .ok (.iconst 0, 1) := by decide +kernel
theorem dX12_letter_11 : decode cX12_letter 11 = .ok (.iload_n 1, 1) := by decide +kernel
theorem dX12_letter_12 : decode cX12_letter 12 = .ok (.bipush 19, 2) := by decide +kernel
theorem dX12_letter_14 : decode cX12_letter 14 = .ok (.if_icmp .gt 11, 3) := by decide +kernel
theorem dX12_letter_17 : decode cX12_letter 17 = .ok (.iload_n 2, 1) := by decide +kernel
theorem dX12_letter_18 : decode cX12_letter 18 = .ok (.ifCond .lt 7, 3) := by decide +kernel
theorem dX12_letter_2 : decode cX12_letter 2 = .ok (.putfield 155, 3) := by decide +kernel
theorem dX12_letter_21 : decode cX12_letter 21 = .ok (.iload_n 3, 1) := by decide +kernel
theorem dX12_letter_22 : decode cX12_letter 22 = .ok (.ifCond .ge 5, 3) := by decide +kernel
theorem dX12_letter_25 : decode cX12_letter 25 = .ok (.iconst (-1), 1) := by decide +kernel
theorem dX12_letter_26 : decode cX12_letter 26 = .ok (.ireturn, 1) := by decide +kernel
theorem dX12_letter_27 : decode cX12_letter 27 = .ok (.iload_n 2, 1) := by decide +kernel
theorem dX12_letter_28 : decode cX12_letter 28 = .ok (.aload_n 0, 1) := by decide +kernel
theorem dX12_letter_29 : decode cX12_letter 29 = .ok (.getfield 58, 3) := by decide +kernel
theorem dX12_letter_32 : decode cX12_letter 32 = .ok (.iload_n 1, 1) := by decide +kernel
theorem dX12_letter_33 : decode cX12_letter 33 = .ok (.bipush 17, 2) := by decide +kernel
theorem dX12_letter_35 : decode cX12_letter 35 = .ok (.isub, 1) := by decide +kernel
theorem dX12_letter_36 : decode cX12_letter 36 = .ok (.iaload, 1) := by decide +kernel
theorem dX12_letter_37 : decode cX12_letter 37 = .ok (.if_icmp .lt 5, 3) := by decide +kernel
theorem dX12_letter_40 : decode cX12_letter 40 = .ok (.iconst (-1), 1) := by decide +kernel
theorem dX12_letter_41 : decode cX12_letter 41 = .ok (.ireturn, 1) := by decide +kernel
theorem dX12_letter_5 : decode cX12_letter 5 = .ok (.iload_n 1, 1) := by decide +kernel
theorem dX12_letter_6 : decode cX12_letter 6 = .ok (.bipush 17, 2) := by decide +kernel
theorem dX12_letter_8 : decode cX12_letter 8 = .ok (.if_icmp .lt 17, 3) := by decide +kernel
theorem dX11_tear_0 : decode cX11_tear 0 = .ok (.aload_n 0, 1) := by decide +kernel
theorem dX11_tear_1 : decode cX11_tear 1 = .ok (.getfield 40, 3) := by decide +kernel
theorem dX11_tear_11 : decode cX11_tear 11 = .ok (.aload_n 0, 1) := by decide +kernel
theorem dX11_tear_12 : decode cX11_tear 12 = .ok (.getfield 40, 3) := by decide +kernel
theorem dX11_tear_15 : decode cX11_tear 15 = .ok (.getfield 286, 3) := by decide +kernel
theorem dX11_tear_18 : decode cX11_tear 18 = .ok (.iconst 0, 1) := by decide +kernel
theorem dX11_tear_19 : decode cX11_tear 19 = .ok (.putfield 273, 3) := by decide +kernel
theorem dX11_tear_22 : decode cX11_tear 22 = .ok (.aload_n 0, 1) := by decide +kernel
theorem dX11_tear_23 : decode cX11_tear 23 = .ok (.getfield 40, 3) := by decide +kernel
theorem dX11_tear_26 : decode cX11_tear 26 = .ok (.getfield 289, 3) := by decide +kernel
theorem dX11_tear_29 : decode cX11_tear 29 = .ok (.iconst 0, 1) := by decide +kernel
theorem dX11_tear_30 : decode cX11_tear 30 = .ok (.putfield 273, 3) := by decide +kernel
theorem dX11_tear_33 : decode cX11_tear 33 = .ok (.return_, 1) := by decide +kernel
theorem dX11_tear_4 : decode cX11_tear 4 = .ok (.getfield 282, 3) := by decide +kernel
theorem dX11_tear_7 : decode cX11_tear 7 = .ok (.iconst 0, 1) := by decide +kernel
theorem dX11_tear_8 : decode cX11_tear 8 = .ok (.putfield 273, 3) := by decide +kernel
theorem dX12_tear_0 : decode cX12_tear 0 = .ok (.aload_n 0, 1) := by decide +kernel
theorem dX12_tear_1 : decode cX12_tear 1 = .ok (.iconst 0, 1) := by decide +kernel
theorem dX12_tear_12 : decode cX12_tear 12 = .ok (.aload_n 0, 1) := by decide +kernel
theorem dX12_tear_13 : decode cX12_tear 13 = .ok (.getfield 58, 3) := by decide +kernel
theorem dX12_tear_16 : decode cX12_tear 16 = .ok (.iload_n 1, 1) := by decide +kernel
theorem dX12_tear_17 : decode cX12_tear 17 = .ok (.iconst 0, 1) := by decide +kernel
theorem dX12_tear_18 : decode cX12_tear 18 = .ok (.iastore, 1) := by decide +kernel
theorem dX12_tear_19 : decode cX12_tear 19 = .ok (.iinc 1 1, 3) := by decide +kernel
theorem dX12_tear_2 : decode cX12_tear 2 = .ok (.putfield 155, 3) := by decide +kernel
theorem dX12_tear_22 : decode cX12_tear 22 = .ok (.goto (-15), 3) := by decide +kernel
theorem dX12_tear_25 : decode cX12_tear 25 = .ok (.return_, 1) := by decide +kernel
theorem dX12_tear_5 : decode cX12_tear 5 = .ok (.iconst 0, 1) := by decide +kernel
theorem dX12_tear_6 : decode cX12_tear 6 = .ok (.istore_n 1, 1) := by decide +kernel
theorem dX12_tear_7 : decode cX12_tear 7 = .ok (.iload_n 1, 1) := by decide +kernel
theorem dX12_tear_8 : decode cX12_tear 8 = .ok (.iconst 3, 1) := by decide +kernel
theorem dX12_tear_9 : decode cX12_tear 9 = .ok (.if_icmp .ge 16, 3) := by decide +kernel
set_option maxHeartbeats 4000000 in
set_option maxRecDepth 100000 in
theorem t_X11_end (l : Launch) (D : va_G) (K : Nat → ClassId) (a0 : Nat) (s0 : List Value) (n0 : s0.length = 8) (x1 : Int32) (e0_1 : s0[1]? = some (.int 0)) : uMet l yX11_end cX11_end 2 (some .boolean) (rmD 0 0 0) D K X0 [.ref a0, .int x1] [(a0, .inr (10, s0))] (QI D K (fun (r : Int32) (u : Nat → Nat) => ((x1 < 0) ∧ r = 0) ∨ ((¬ x1 < 0) ∧ (x1 ≤ 0) ∧ r = 1) ∨ ((¬ x1 < 0) ∧ (¬ x1 ≤ 0) ∧ r = 0)) (fun (u : Nat → Nat) => [])) 0 0 := by
  refine k_met RX11 ⟨rfl, by decide +kernel⟩ (Nat.le_of_ble_eq_true rfl) ?_
  intro p e s m below meth c A ls C hX hr hlocks hin hA hP hD hS hl
  have hl : lv_has ls 2 [(0, .ref a0), (1, .int x1)] := hl
  refine lv_iload_n C.1 C.2.1 dX11_end_0 rfl (lv_at hl 1 rfl) ?_
  refine lv_if_lt (tgt := 12) C.1 C.2.1 dX11_end_1 (by decide) (fun c_1 => ?_) (fun c_1 => ?_)
  · refine lv_iconst (v := 0) C.1 C.2.1 dX11_end_12 (by decide) ?_
    exact k_iret C hr hlocks hP hD hS (by decide) (fun _ => 0) [] rfl rfl (Or.inl ⟨c_1, rfl⟩) (Nat.le_of_ble_eq_true rfl) (Nat.le_of_ble_eq_true rfl) dX11_end_13
  · refine lv_iload_n C.1 C.2.1 dX11_end_4 rfl (lv_at hl 1 rfl) ?_
    refine lv_aload_n C.1 C.2.1 dX11_end_5 rfl (lv_at hl 0 rfl) ?_
    refine k_get (v := .int 0) C hP 0 rfl rfl inlX11 1 (by decide) m_9_9 e0_1 dX11_end_6 ?_
    refine lv_icmp_le (tgt := 14) C.1 C.2.1 dX11_end_9 (by decide) (fun c_2 => ?_) (fun c_2 => ?_)
    · refine lv_aload_n C.1 C.2.1 dX11_end_14 rfl (lv_at hl 0 rfl) ?_
      refine lv_iload_n C.1 C.2.1 dX11_end_15 rfl (lv_at hl 1 rfl) ?_
      refine k_put (ws' := [(a0, .inr (10, (s0.set 1 (.int x1))))]) (v := .int x1) C hP hD hS 0 rfl rfl inlX11 tyX11_ok nmX11 1 (by decide) m_9_9 rfl rfl rfl n0 rfl dX11_end_16 (fun H locs hP hD hS => ?_)
      refine lv_iconst (v := 1) C.1 C.2.1 dX11_end_19 (by decide) ?_
      exact k_iret C hr hlocks hP hD hS (by decide) (fun _ => 0) [] rfl rfl (Or.inr (Or.inl ⟨c_1, c_2, rfl⟩)) (Nat.le_of_ble_eq_true rfl) (Nat.le_of_ble_eq_true rfl) dX11_end_20
    · refine lv_iconst (v := 0) C.1 C.2.1 dX11_end_12 (by decide) ?_
      exact k_iret C hr hlocks hP hD hS (by decide) (fun _ => 0) [] rfl rfl (Or.inr (Or.inr ⟨c_1, c_2, rfl⟩)) (Nat.le_of_ble_eq_true rfl) (Nat.le_of_ble_eq_true rfl) dX11_end_13
set_option maxHeartbeats 4000000 in
set_option maxRecDepth 100000 in
theorem t_X12_end (l : Launch) (D : va_G) (K : Nat → ClassId) (a0 : Nat) (s0 : List Value) (n0 : s0.length = 94) (x1 : Int32) (e0_2 : s0[2]? = some (.int 0)) : uMet l yX12_end cX12_end 2 (some .boolean) (rmD 0 0 0) D K X0 [.ref a0, .int x1] [(a0, .inr (11, s0))] (QI D K (fun (r : Int32) (u : Nat → Nat) => ((x1 < 0) ∧ r = 0) ∨ ((¬ x1 < 0) ∧ (x1 ≤ 0) ∧ r = 1) ∨ ((¬ x1 < 0) ∧ (¬ x1 ≤ 0) ∧ r = 0)) (fun (u : Nat → Nat) => [])) 0 0 := by
  refine k_met RX12 ⟨rfl, by decide +kernel⟩ (Nat.le_of_ble_eq_true rfl) ?_
  intro p e s m below meth c A ls C hX hr hlocks hin hA hP hD hS hl
  have hl : lv_has ls 2 [(0, .ref a0), (1, .int x1)] := hl
  refine lv_aload_n C.1 C.2.1 dX12_end_0 rfl (lv_at hl 0 rfl) ?_
  refine lv_iconst (v := 0) C.1 C.2.1 dX12_end_1 (by decide) ?_
  refine k_put (ws' := [(a0, .inr (11, (s0.set 0 (.int 0))))]) (v := .int 0) C hP hD hS 0 rfl rfl inlX12 tyX12_ok nmX12 0 (by decide) m_9_18 rfl rfl rfl n0 rfl dX12_end_2 (fun H locs hP hD hS => ?_)
  refine lv_iload_n C.1 C.2.1 dX12_end_5 rfl (lv_at hl 1 rfl) ?_
  refine lv_if_lt (tgt := 17) C.1 C.2.1 dX12_end_6 (by decide) (fun c_1 => ?_) (fun c_1 => ?_)
  · refine lv_iconst (v := 0) C.1 C.2.1 dX12_end_17 (by decide) ?_
    exact k_iret C hr hlocks hP hD hS (by decide) (fun _ => 0) [] rfl rfl (Or.inl ⟨c_1, rfl⟩) (Nat.le_of_ble_eq_true rfl) (Nat.le_of_ble_eq_true rfl) dX12_end_18
  · refine lv_iload_n C.1 C.2.1 dX12_end_9 rfl (lv_at hl 1 rfl) ?_
    refine lv_aload_n C.1 C.2.1 dX12_end_10 rfl (lv_at hl 0 rfl) ?_
    refine k_get (v := .int 0) C hP 0 rfl rfl inlX12 2 (by decide) m_9_19 (sn (by decide) e0_2) dX12_end_11 ?_
    refine lv_icmp_le (tgt := 19) C.1 C.2.1 dX12_end_14 (by decide) (fun c_2 => ?_) (fun c_2 => ?_)
    · refine lv_aload_n C.1 C.2.1 dX12_end_19 rfl (lv_at hl 0 rfl) ?_
      refine lv_iload_n C.1 C.2.1 dX12_end_20 rfl (lv_at hl 1 rfl) ?_
      refine k_put (ws' := [(a0, .inr (11, ((s0.set 0 (.int 0)).set 2 (.int x1))))]) (v := .int x1) C hP hD hS 0 rfl rfl inlX12 tyX12_ok nmX12 2 (by decide) m_9_19 rfl rfl rfl (sl n0) rfl dX12_end_21 (fun H locs hP hD hS => ?_)
      refine lv_iconst (v := 1) C.1 C.2.1 dX12_end_24 (by decide) ?_
      exact k_iret C hr hlocks hP hD hS (by decide) (fun _ => 0) [] rfl rfl (Or.inr (Or.inl ⟨c_1, c_2, rfl⟩)) (Nat.le_of_ble_eq_true rfl) (Nat.le_of_ble_eq_true rfl) dX12_end_25
    · refine lv_iconst (v := 0) C.1 C.2.1 dX12_end_17 (by decide) ?_
      exact k_iret C hr hlocks hP hD hS (by decide) (fun _ => 0) [] rfl rfl (Or.inr (Or.inr ⟨c_1, c_2, rfl⟩)) (Nat.le_of_ble_eq_true rfl) (Nat.le_of_ble_eq_true rfl) dX12_end_18
set_option maxHeartbeats 4000000 in
set_option maxRecDepth 100000 in
theorem t_X11_error (l : Launch) (D : va_G) (K : Nat → ClassId) (a0 : Nat) (a1 : Nat) (s0 : List Value) (n0 : s0.length = 8) (s1 : List Value) (n1 : s1.length = 20) (e0_5 : s0[5]? = some (.ref a1)) (e1_18 : s1[18]? = some (.int 0)) : uMet l yX11_error cX11_error 1 (some .int) (rmD 0 0 0) D K X0 [.ref a0] [(a0, .inr (10, s0)), (a1, .inr (0, s1))] (QI D K (fun (r : Int32) (u : Nat → Nat) => r = 0) (fun (u : Nat → Nat) => [])) 0 0 := by
  refine k_met RX11 ⟨rfl, by decide +kernel⟩ (Nat.le_of_ble_eq_true rfl) ?_
  intro p e s m below meth c A ls C hX hr hlocks hin hA hP hD hS hl
  have hl : lv_has ls 1 [(0, .ref a0)] := hl
  refine lv_aload_n C.1 C.2.1 dX11_error_0 rfl (lv_at hl 0 rfl) ?_
  refine k_get (v := .ref a1) C hP 0 rfl rfl inlX11 5 (by decide) m_2_10 e0_5 dX11_error_1 ?_
  refine k_get (v := .int 0) C hP 1 rfl rfl inlX0 18 (by decide) m_43_6 e1_18 dX11_error_4 ?_
  exact k_iret C hr hlocks hP hD hS rfl (fun _ => 0) [] rfl rfl rfl (Nat.le_of_ble_eq_true rfl) (Nat.le_of_ble_eq_true rfl) dX11_error_7
set_option maxHeartbeats 4000000 in
set_option maxRecDepth 100000 in
theorem t_X12_error (l : Launch) (D : va_G) (K : Nat → ClassId) (a0 : Nat) (s0 : List Value) (n0 : s0.length = 94) (e0_43 : s0[43]? = some (.int 0)) : uMet l yX12_error cX12_error 1 (some .int) (rmD 0 0 0) D K X0 [.ref a0] [(a0, .inr (11, s0))] (QI D K (fun (r : Int32) (u : Nat → Nat) => r = 0) (fun (u : Nat → Nat) => [])) 0 0 := by
  refine k_met RX12 ⟨rfl, by decide +kernel⟩ (Nat.le_of_ble_eq_true rfl) ?_
  intro p e s m below meth c A ls C hX hr hlocks hin hA hP hD hS hl
  have hl : lv_has ls 1 [(0, .ref a0)] := hl
  refine lv_aload_n C.1 C.2.1 dX12_error_0 rfl (lv_at hl 0 rfl) ?_
  refine lv_iconst (v := 0) C.1 C.2.1 dX12_error_1 (by decide) ?_
  refine k_put (ws' := [(a0, .inr (11, (s0.set 0 (.int 0))))]) (v := .int 0) C hP hD hS 0 rfl rfl inlX12 tyX12_ok nmX12 0 (by decide) m_9_18 rfl rfl rfl n0 rfl dX12_error_2 (fun H locs hP hD hS => ?_)
  refine lv_aload_n C.1 C.2.1 dX12_error_5 rfl (lv_at hl 0 rfl) ?_
  refine k_get (v := .int 0) C hP 0 rfl rfl inlX12 43 (by decide) m_29_14 (sn (by decide) e0_43) dX12_error_6 ?_
  exact k_iret C hr hlocks hP hD hS rfl (fun _ => 0) [] rfl rfl rfl (Nat.le_of_ble_eq_true rfl) (Nat.le_of_ble_eq_true rfl) dX12_error_9
set_option maxHeartbeats 4000000 in
set_option maxRecDepth 100000 in
theorem c_X11_useUpTape (l : Launch) (D : va_G) (K : Nat → ClassId) (a0 : Nat) (s0 : List Value) (n0 : s0.length = 8) (e0_1 : s0[1]? = some (.int 0)) : uMet l yX11_useUpTape cX11_useUpTape 2 (some .int) (rmD 0 0 0) D K X0 [.ref a0] [(a0, .inr (10, s0))] (QI D K (fun (r : Int32) (u : Nat → Nat) => r = 0) (fun (u : Nat → Nat) => [(a0, .inr (10, (s0.set 1 (.int 0))))])) 0 0 := by
  refine k_met RX11 ⟨rfl, by decide +kernel⟩ (Nat.le_of_ble_eq_true rfl) ?_
  intro p e s m below meth c A ls C hX hr hlocks hin hA hP hD hS hl
  have hl : lv_has ls 2 [(0, .ref a0)] := hl
  refine lv_aload_n C.1 C.2.1 dX11_useUpTape_0 rfl (lv_at hl 0 rfl) ?_
  refine k_get (v := .int 0) C hP 0 rfl rfl inlX11 1 (by decide) m_9_9 e0_1 dX11_useUpTape_1 ?_
  refine lv_istore_n (lv' := [(1, .int 0), (0, .ref a0)]) C.1 C.2.1 dX11_useUpTape_4 rfl hl (by decide) rfl (fun ls hl => ?_)
  refine lv_aload_n C.1 C.2.1 dX11_useUpTape_5 rfl (lv_at hl 1 rfl) ?_
  refine lv_iconst (v := 0) C.1 C.2.1 dX11_useUpTape_6 (by decide) ?_
  refine k_put (ws' := [(a0, .inr (10, (s0.set 1 (.int 0))))]) (v := .int 0) C hP hD hS 0 rfl rfl inlX11 tyX11_ok nmX11 1 (by decide) m_9_9 rfl rfl rfl n0 rfl dX11_useUpTape_7 (fun H locs hP hD hS => ?_)
  refine lv_iload_n C.1 C.2.1 dX11_useUpTape_10 rfl (lv_at hl 0 rfl) ?_
  exact k_iret C hr hlocks hP hD hS rfl (fun _ => 0) [0] rfl rfl rfl (Nat.le_of_ble_eq_true rfl) (Nat.le_of_ble_eq_true rfl) dX11_useUpTape_11
set_option maxHeartbeats 4000000 in
set_option maxRecDepth 100000 in
theorem c_X9_reopen (l : Launch) (D : va_G) (K : Nat → ClassId) (a0 : Nat) (s0 : List Value) (n0 : s0.length = 8) (e0_6 : s0[6]? = some (.int 0)) : uMet l yX9_reopen cX9_reopen 1 none (rmD 0 0 0) D K X0 [.ref a0] [(a0, .inr (8, s0))] (QV D K (fun (u : Nat → Nat) => True) (fun (u : Nat → Nat) => [(a0, .inr (8, ((s0.set 4 (.int 0)).set 5 (.int 0))))])) 0 0 := by
  refine k_met RX9 ⟨rfl, by decide +kernel⟩ (Nat.le_of_ble_eq_true rfl) ?_
  intro p e s m below meth c A ls C hX hr hlocks hin hA hP hD hS hl
  have hl : lv_has ls 1 [(0, .ref a0)] := hl
  refine lv_aload_n C.1 C.2.1 dX9_reopen_0 rfl (lv_at hl 0 rfl) ?_
  refine lv_aload_n C.1 C.2.1 dX9_reopen_1 rfl (lv_at hl 0 rfl) ?_
  refine k_get (v := .int 0) C hP 0 rfl rfl inlX9 6 (by decide) m_12_17 e0_6 dX9_reopen_2 ?_
  refine k_put (ws' := [(a0, .inr (8, (s0.set 4 (.int 0))))]) (v := .int 0) C hP hD hS 0 rfl rfl inlX9 tyX9_ok nmX9 4 (by decide) m_13_2 rfl rfl rfl n0 rfl dX9_reopen_5 (fun H locs hP hD hS => ?_)
  refine lv_aload_n C.1 C.2.1 dX9_reopen_8 rfl (lv_at hl 0 rfl) ?_
  refine lv_iconst (v := 0) C.1 C.2.1 dX9_reopen_9 (by decide) ?_
  refine k_put (ws' := [(a0, .inr (8, ((s0.set 4 (.int 0)).set 5 (.int 0))))]) (v := .int 0) C hP hD hS 0 rfl rfl inlX9 tyX9_ok nmX9 5 (by decide) m_13_3 rfl rfl rfl (sl n0) rfl dX9_reopen_10 (fun H locs hP hD hS => ?_)
  exact k_vret C hr hlocks hP hD hS (fun _ => 0) [0] rfl rfl trivial (Nat.le_of_ble_eq_true rfl) (Nat.le_of_ble_eq_true rfl) dX9_reopen_13
set_option maxHeartbeats 4000000 in
set_option maxRecDepth 100000 in
theorem c_X9_open (l : Launch) (D : va_G) (K : Nat → ClassId) (a0 : Nat) (a1 : Nat) (s0 : List Value) (n0 : s0.length = 8) (f1 : Nat → Int32) (e0_0 : s0[0]? = some (.ref a1)) : uMet l yX9_open cX9_open 3 none (rmD 1 0 0) D K X0 [.ref a0, .int 0, .int 0] [(a0, .inr (8, s0)), (a1, .inl (K 2, 8192, .inl f1))] (QV D K (fun (u : Nat → Nat) => True) (fun (u : Nat → Nat) => [(a0, .inr (8, ((((s0.set 6 (.int 0)).set 7 (.int 0)).set 4 (.int 0)).set 5 (.int 0)))), (a1, .inl (K 2, 8192, .inl f1))])) 0 0 := by
  refine k_met RX9 ⟨rfl, by decide +kernel⟩ (Nat.le_of_ble_eq_true rfl) ?_
  intro p e s m below meth c A ls C hX hr hlocks hin hA hP hD hS hl
  have hl : lv_has ls 3 [(0, .ref a0), (1, .int 0), (2, .int 0)] := hl
  refine lv_aload_n C.1 C.2.1 dX9_open_0 rfl (lv_at hl 0 rfl) ?_
  refine lv_iload_n C.1 C.2.1 dX9_open_1 rfl (lv_at hl 1 rfl) ?_
  refine lv_iconst (v := 0) C.1 C.2.1 dX9_open_2 (by decide) ?_
  refine k_mmax (v := 0) C hl.1 m_12_13 m_12_14 m_12_15 m_12_16 (Nat.le_of_ble_eq_true rfl) (Nat.le_of_ble_eq_true rfl) (Nat.le_of_ble_eq_true rfl) (Nat.le_of_ble_eq_true rfl) (by decide) dX9_open_3 ?_
  refine k_put (ws' := [(a0, .inr (8, (s0.set 6 (.int 0)))), (a1, .inl (K 2, 8192, .inl f1))]) (v := .int 0) C hP hD hS 0 rfl rfl inlX9 tyX9_ok nmX9 6 (by decide) m_12_17 rfl rfl rfl n0 rfl dX9_open_6 (fun H locs hP hD hS => ?_)
  refine lv_aload_n C.1 C.2.1 dX9_open_9 rfl (lv_at hl 0 rfl) ?_
  refine lv_iload_n C.1 C.2.1 dX9_open_10 rfl (lv_at hl 2 rfl) ?_
  refine lv_aload_n C.1 C.2.1 dX9_open_11 rfl (lv_at hl 0 rfl) ?_
  refine k_get (v := .ref a1) C hP 0 rfl rfl inlX9 0 (by decide) m_3_0 (sn (by decide) e0_0) dX9_open_12 ?_
  refine k_len (v := 8192) C hP 1 2 rfl rfl rfl dX9_open_15 ?_
  refine k_mmin (v := 0) C hl.1 m_12_18 m_12_19 m_12_15 m_12_20 (Nat.le_of_ble_eq_true rfl) (Nat.le_of_ble_eq_true rfl) (Nat.le_of_ble_eq_true rfl) (Nat.le_of_ble_eq_true rfl) (by decide) dX9_open_16 ?_
  refine k_put (ws' := [(a0, .inr (8, ((s0.set 6 (.int 0)).set 7 (.int 0)))), (a1, .inl (K 2, 8192, .inl f1))]) (v := .int 0) C hP hD hS 0 rfl rfl inlX9 tyX9_ok nmX9 7 (by decide) m_12_21 rfl rfl rfl (sl n0) rfl dX9_open_19 (fun H locs hP hD hS => ?_)
  refine lv_aload_n C.1 C.2.1 dX9_open_22 rfl (lv_at hl 0 rfl) ?_
  refine k_Vv (As := []) (rest := []) C hP hD hS hA (c_X9_reopen l D K a0 (((s0.set 6 (.int 0)).set 7 (.int 0))) (sl (sl n0)) (sn (by decide) (ss (sk n0 (by decide))))) X0_ok trivial (uwV m_12_22 m_12_23 m_13_0 m_1_17 m_13_1) (hdV 0 (by decide +kernel) rfl) ⟨Nat.le_of_ble_eq_true rfl, Nat.le_of_ble_eq_true rfl⟩ rfl rfl (ci := 8) rfl rfl (isC := [0]) (isR := [1]) (wr := [(a1, .inl (K 2, 8192, .inl f1))]) ⟨rfl, rfl, rfl, rfl, by decide⟩ rfl hl.1 (Nat.le_of_ble_eq_true rfl) dX9_open_23 ⟨Nat.le_of_ble_eq_true rfl, Nat.le_of_ble_eq_true rfl⟩ (fun u_1 H locs hw hP hD hS => ?_)
  have hP : va_P D vwCl [(a1, .inl (K 2, 8192, .inl f1)), (a0, .inr (8, ((((s0.set 6 (.int 0)).set 7 (.int 0)).set 4 (.int 0)).set 5 (.int 0))))] H := hP
  have hD : va_D A [(a1, .inl (K 2, 8192, .inl f1)), (a0, .inr (8, ((((s0.set 6 (.int 0)).set 7 (.int 0)).set 4 (.int 0)).set 5 (.int 0))))] := hD
  exact k_vret C hr hlocks hP hD hS (fun _ => 0) [1, 0] rfl rfl trivial (Nat.le_of_ble_eq_true rfl) (Nat.le_of_ble_eq_true rfl) dX9_open_26
set_option maxHeartbeats 4000000 in
set_option maxRecDepth 100000 in
theorem c_X9_advance (l : Launch) (D : va_G) (K : Nat → ClassId) (a0 : Nat) (s0 : List Value) (n0 : s0.length = 8) (e0_5 : s0[5]? = some (.int 0)) (e0_4 : s0[4]? = some (.int 0)) (e0_7 : s0[7]? = some (.int 0)) : uMet l yX9_advance cX9_advance 3 (some .boolean) (rmD 0 0 0) D K X0 [.ref a0] [(a0, .inr (8, s0))] (QI D K (fun (r : Int32) (u : Nat → Nat) => r = 0) (fun (u : Nat → Nat) => [(a0, .inr (8, (s0.set 5 (.int 1))))])) 0 0 := by
  refine k_met RX9 ⟨rfl, by decide +kernel⟩ (Nat.le_of_ble_eq_true rfl) ?_
  intro p e s m below meth c A ls C hX hr hlocks hin hA hP hD hS hl
  have hl : lv_has ls 3 [(0, .ref a0)] := hl
  refine lv_aload_n C.1 C.2.1 dX9_advance_0 rfl (lv_at hl 0 rfl) ?_
  refine lv_dup C.1 C.2.1 dX9_advance_1 rfl ?_
  refine k_get (v := .int 0) C hP 0 rfl rfl inlX9 5 (by decide) m_13_3 e0_5 dX9_advance_2 ?_
  refine lv_iconst (v := 1) C.1 C.2.1 dX9_advance_5 (by decide) ?_
  refine k_iadd (v := 1) C (by decide) dX9_advance_6 ?_
  refine k_put (ws' := [(a0, .inr (8, (s0.set 5 (.int 1))))]) (v := .int 1) C hP hD hS 0 rfl rfl inlX9 tyX9_ok nmX9 5 (by decide) m_13_3 rfl rfl rfl n0 rfl dX9_advance_7 (fun H locs hP hD hS => ?_)
  refine lv_aload_n C.1 C.2.1 dX9_advance_10 rfl (lv_at hl 0 rfl) ?_
  refine k_get (v := .int 0) C hP 0 rfl rfl inlX9 4 (by decide) m_13_2 (sn (by decide) e0_4) dX9_advance_11 ?_
  refine lv_aload_n C.1 C.2.1 dX9_advance_14 rfl (lv_at hl 0 rfl) ?_
  refine k_get (v := .int 0) C hP 0 rfl rfl inlX9 7 (by decide) m_12_21 (sn (by decide) e0_7) dX9_advance_15 ?_
  refine lv_icmp_lt (tgt := 23) C.1 C.2.1 dX9_advance_18 (by decide) (fun h => absurd h (by decide)) (fun _ => ?_)
  refine lv_iconst (v := 0) C.1 C.2.1 dX9_advance_21 (by decide) ?_
  exact k_iret C hr hlocks hP hD hS (by decide) (fun _ => 0) [0] rfl rfl rfl (Nat.le_of_ble_eq_true rfl) (Nat.le_of_ble_eq_true rfl) dX9_advance_22
set_option maxHeartbeats 4000000 in
set_option maxRecDepth 100000 in
theorem t_X11_cards (l : Launch) (D : va_G) (K : Nat → ClassId) (a0 : Nat) (a1 : Nat) (a2 : Nat) (a3 : Nat) (a4 : Nat) (a5 : Nat) (s0 : List Value) (n0 : s0.length = 8) (s1 : List Value) (n1 : s1.length = 16) (s2 : List Value) (n2 : s2.length = 13) (s3 : List Value) (n3 : s3.length = 4) (s4 : List Value) (n4 : s4.length = 8) (f5 : Nat → Int32) (e0_1 : s0[1]? = some (.int 0)) (e0_7 : s0[7]? = some (.ref a1)) (e1_0 : s1[0]? = some (.ref a2)) (e0_3 : s0[3]? = some (.ref a3)) (e2_9 : s2[9]? = some (.ref a4)) (e3_3 : s3[3]? = some (.int 0)) (e4_0 : s4[0]? = some (.ref a5)) : uMet l yX11_cards cX11_cards 5 (some .int) (rmD 2 0 0) D K X0 [.ref a0] [(a0, .inr (10, s0)), (a1, .inr (2, s1)), (a3, .inr (9, s2)), (a4, .inr (5, s3)), (a2, .inr (8, s4)), (a5, .inl (K 2, 8192, .inl f5))] (QI D K (fun (r : Int32) (u : Nat → Nat) => r = 0) (fun (u : Nat → Nat) => [])) 0 0 := by
  refine k_met RX11 ⟨rfl, by decide +kernel⟩ (Nat.le_of_ble_eq_true rfl) ?_
  intro p e s m below meth c A ls C hX hr hlocks hin hA hP hD hS hl
  have hl : lv_has ls 5 [(0, .ref a0)] := hl
  refine lv_aload_n C.1 C.2.1 dX11_cards_0 rfl (lv_at hl 0 rfl) ?_
  refine k_Vi (As := []) (rest := []) C hP hD hS hA (c_X11_useUpTape l D K a0 s0 n0 e0_1) X0_ok trivial (uwV m_10_20 m_10_21 m_10_22 m_1_2 m_10_23) (hdV 0 (by decide +kernel) rfl) ⟨Nat.le_of_ble_eq_true rfl, Nat.le_of_ble_eq_true rfl⟩ rfl rfl (ci := 10) rfl rfl (isC := [0]) (isR := [1, 2, 3, 4, 5]) (wr := [(a1, .inr (2, s1)), (a3, .inr (9, s2)), (a4, .inr (5, s3)), (a2, .inr (8, s4)), (a5, .inl (K 2, 8192, .inl f5))]) ⟨rfl, rfl, rfl, rfl, by decide⟩ rfl hl.1 (Nat.le_of_ble_eq_true rfl) dX11_cards_1 ⟨Nat.le_of_ble_eq_true rfl, Nat.le_of_ble_eq_true rfl⟩ (fun r_2 u_1 H locs hw hP hD hS => ?_)
  obtain rfl := hw
  have hP : va_P D vwCl [(a1, .inr (2, s1)), (a3, .inr (9, s2)), (a4, .inr (5, s3)), (a2, .inr (8, s4)), (a5, .inl (K 2, 8192, .inl f5)), (a0, .inr (10, (s0.set 1 (.int 0))))] H := hP
  have hD : va_D A [(a1, .inr (2, s1)), (a3, .inr (9, s2)), (a4, .inr (5, s3)), (a2, .inr (8, s4)), (a5, .inl (K 2, 8192, .inl f5)), (a0, .inr (10, (s0.set 1 (.int 0))))] := hD
  refine lv_istore_n (lv' := [(1, .int 0), (0, .ref a0)]) C.1 C.2.1 dX11_cards_4 rfl hl (by decide) rfl (fun ls hl => ?_)
  refine lv_aload_n C.1 C.2.1 dX11_cards_5 rfl (lv_at hl 1 rfl) ?_
  refine k_get (v := .ref a1) C hP 5 rfl rfl inlX11 7 (by decide) m_2_18 (sn (by decide) e0_7) dX11_cards_6 ?_
  refine k_get (v := .ref a2) C hP 0 rfl rfl inlX3 0 (by decide) m_43_15 e1_0 dX11_cards_9 ?_
  refine lv_astore_n (lv' := [(2, .ref a2), (1, .int 0), (0, .ref a0)]) C.1 C.2.1 dX11_cards_12 rfl hl (by decide) rfl (fun ls hl => ?_)
  refine lv_aload_n C.1 C.2.1 dX11_cards_13 rfl (lv_at hl 2 rfl) ?_
  refine k_get (v := .ref a3) C hP 5 rfl rfl inlX11 3 (by decide) m_2_8 (sn (by decide) e0_3) dX11_cards_14 ?_
  refine k_get (v := .ref a4) C hP 1 rfl rfl inlX10 9 (by decide) m_43_16 e2_9 dX11_cards_17 ?_
  refine k_get (v := .int 0) C hP 2 rfl rfl inlX6 3 (by decide) m_43_17 e3_3 dX11_cards_20 ?_
  refine lv_istore_n (lv' := [(3, .int 0), (2, .ref a2), (1, .int 0), (0, .ref a0)]) C.1 C.2.1 dX11_cards_23 rfl hl (by decide) rfl (fun ls hl => ?_)
  refine lv_aload_n C.1 C.2.1 dX11_cards_24 rfl (lv_at hl 1 rfl) ?_
  refine lv_iconst (v := 0) C.1 C.2.1 dX11_cards_25 (by decide) ?_
  refine lv_iload_n C.1 C.2.1 dX11_cards_26 rfl (lv_at hl 2 rfl) ?_
  refine k_Vv (As := [.int 0, .int 0]) (rest := []) C hP hD hS hA (c_X9_open l D K a2 a5 s4 n4 f5 e4_0) X0_ok trivial (uwV m_43_18 m_12_10 m_12_11 m_1_17 m_12_12) (hdV 2 (by decide +kernel) rfl) ⟨Nat.le_of_ble_eq_true rfl, Nat.le_of_ble_eq_true rfl⟩ rfl rfl (ci := 8) rfl rfl (isC := [3, 4]) (isR := [0, 1, 2, 5]) (wr := [(a1, .inr (2, s1)), (a3, .inr (9, s2)), (a4, .inr (5, s3)), (a0, .inr (10, (s0.set 1 (.int 0))))]) ⟨rfl, rfl, rfl, rfl, by decide⟩ rfl hl.1 (Nat.le_of_ble_eq_true rfl) dX11_cards_27 ⟨Nat.le_of_ble_eq_true rfl, Nat.le_of_ble_eq_true rfl⟩ (fun u_3 H locs hw hP hD hS => ?_)
  have hP : va_P D vwCl [(a1, .inr (2, s1)), (a3, .inr (9, s2)), (a4, .inr (5, s3)), (a0, .inr (10, (s0.set 1 (.int 0)))), (a2, .inr (8, ((((s4.set 6 (.int 0)).set 7 (.int 0)).set 4 (.int 0)).set 5 (.int 0)))), (a5, .inl (K 2, 8192, .inl f5))] H := hP
  have hD : va_D A [(a1, .inr (2, s1)), (a3, .inr (9, s2)), (a4, .inr (5, s3)), (a0, .inr (10, (s0.set 1 (.int 0)))), (a2, .inr (8, ((((s4.set 6 (.int 0)).set 7 (.int 0)).set 4 (.int 0)).set 5 (.int 0)))), (a5, .inl (K 2, 8192, .inl f5))] := hD
  refine lv_iconst (v := 0) C.1 C.2.1 dX11_cards_30 (by decide) ?_
  refine lv_istore (lv' := [(4, .int 0), (3, .int 0), (2, .ref a2), (1, .int 0), (0, .ref a0)]) C.1 C.2.1 dX11_cards_31 hl (by decide) rfl (fun ls hl => ?_)
  refine lv_iload C.1 C.2.1 dX11_cards_33 (lv_at hl 0 rfl) ?_
  refine lv_sipush (v := 8192) C.1 C.2.1 dX11_cards_35 (by decide) ?_
  refine lv_icmp_ge (tgt := 57) C.1 C.2.1 dX11_cards_38 (by decide) (fun h => absurd h (by decide)) (fun _ => ?_)
  refine lv_aload_n C.1 C.2.1 dX11_cards_41 rfl (lv_at hl 2 rfl) ?_
  refine k_Vi (As := []) (rest := []) C hP hD hS hA (c_X9_advance l D K a2 (((((s4.set 6 (.int 0)).set 7 (.int 0)).set 4 (.int 0)).set 5 (.int 0))) (sl (sl (sl (sl n4)))) (ss (sk (sl (sl (sl n4))) (by decide))) (sn (by decide) (ss (sk (sl (sl n4)) (by decide)))) (sn (by decide) (sn (by decide) (ss (sk (sl n4) (by decide)))))) X0_ok trivial (uwV m_43_19 m_13_19 m_13_20 m_1_17 m_13_21) (hdV 0 (by decide +kernel) rfl) ⟨Nat.le_of_ble_eq_true rfl, Nat.le_of_ble_eq_true rfl⟩ rfl rfl (ci := 8) rfl rfl (isC := [4]) (isR := [0, 1, 2, 3, 5]) (wr := [(a1, .inr (2, s1)), (a3, .inr (9, s2)), (a4, .inr (5, s3)), (a0, .inr (10, (s0.set 1 (.int 0)))), (a5, .inl (K 2, 8192, .inl f5))]) ⟨rfl, rfl, rfl, rfl, by decide⟩ rfl hl.1 (Nat.le_of_ble_eq_true rfl) dX11_cards_42 ⟨Nat.le_of_ble_eq_true rfl, Nat.le_of_ble_eq_true rfl⟩ (fun r_6 u_5 H locs hw hP hD hS => ?_)
  obtain rfl := hw
  have hP : va_P D vwCl [(a1, .inr (2, s1)), (a3, .inr (9, s2)), (a4, .inr (5, s3)), (a0, .inr (10, (s0.set 1 (.int 0)))), (a5, .inl (K 2, 8192, .inl f5)), (a2, .inr (8, (((((s4.set 6 (.int 0)).set 7 (.int 0)).set 4 (.int 0)).set 5 (.int 0)).set 5 (.int 1))))] H := hP
  have hD : va_D A [(a1, .inr (2, s1)), (a3, .inr (9, s2)), (a4, .inr (5, s3)), (a0, .inr (10, (s0.set 1 (.int 0)))), (a5, .inl (K 2, 8192, .inl f5)), (a2, .inr (8, (((((s4.set 6 (.int 0)).set 7 (.int 0)).set 4 (.int 0)).set 5 (.int 0)).set 5 (.int 1))))] := hD
  refine lv_if_eq (tgt := 57) C.1 C.2.1 dX11_cards_45 (by decide) (fun _ => ?_) (fun h => absurd (by decide) h)
  refine lv_iload_n C.1 C.2.1 dX11_cards_57 rfl (lv_at hl 1 rfl) ?_
  refine lv_sipush (v := 400) C.1 C.2.1 dX11_cards_58 (by decide) ?_
  refine lv_icmp_le (tgt := 66) C.1 C.2.1 dX11_cards_61 (by decide) (fun _ => ?_) (fun h => absurd (by decide) h)
  refine lv_aload_n C.1 C.2.1 dX11_cards_66 rfl (lv_at hl 2 rfl) ?_
  refine lv_iconst (v := 0) C.1 C.2.1 dX11_cards_67 (by decide) ?_
  refine lv_iload_n C.1 C.2.1 dX11_cards_68 rfl (lv_at hl 3 rfl) ?_
  refine k_Vv (As := [.int 0, .int 0]) (rest := []) C hP hD hS hA (c_X9_open l D K a2 a5 ((((((s4.set 6 (.int 0)).set 7 (.int 0)).set 4 (.int 0)).set 5 (.int 0)).set 5 (.int 1))) (sl (sl (sl (sl (sl n4))))) f5 (sn (by decide) (sn (by decide) (sn (by decide) (sn (by decide) (sn (by decide) e4_0)))))) X0_ok trivial (uwV m_43_18 m_12_10 m_12_11 m_1_17 m_12_12) (hdV 2 (by decide +kernel) rfl) ⟨Nat.le_of_ble_eq_true rfl, Nat.le_of_ble_eq_true rfl⟩ rfl rfl (ci := 8) rfl rfl (isC := [5, 4]) (isR := [0, 1, 2, 3]) (wr := [(a1, .inr (2, s1)), (a3, .inr (9, s2)), (a4, .inr (5, s3)), (a0, .inr (10, (s0.set 1 (.int 0))))]) ⟨rfl, rfl, rfl, rfl, by decide⟩ rfl hl.1 (Nat.le_of_ble_eq_true rfl) dX11_cards_69 ⟨Nat.le_of_ble_eq_true rfl, Nat.le_of_ble_eq_true rfl⟩ (fun u_7 H locs hw hP hD hS => ?_)
  have hP : va_P D vwCl [(a1, .inr (2, s1)), (a3, .inr (9, s2)), (a4, .inr (5, s3)), (a0, .inr (10, (s0.set 1 (.int 0)))), (a2, .inr (8, (((((((((s4.set 6 (.int 0)).set 7 (.int 0)).set 4 (.int 0)).set 5 (.int 0)).set 5 (.int 1)).set 6 (.int 0)).set 7 (.int 0)).set 4 (.int 0)).set 5 (.int 0)))), (a5, .inl (K 2, 8192, .inl f5))] H := hP
  have hD : va_D A [(a1, .inr (2, s1)), (a3, .inr (9, s2)), (a4, .inr (5, s3)), (a0, .inr (10, (s0.set 1 (.int 0)))), (a2, .inr (8, (((((((((s4.set 6 (.int 0)).set 7 (.int 0)).set 4 (.int 0)).set 5 (.int 0)).set 5 (.int 1)).set 6 (.int 0)).set 7 (.int 0)).set 4 (.int 0)).set 5 (.int 0)))), (a5, .inl (K 2, 8192, .inl f5))] := hD
  refine lv_iconst (v := 0) C.1 C.2.1 dX11_cards_72 (by decide) ?_
  refine lv_istore (lv' := [(4, .int 0), (3, .int 0), (2, .ref a2), (1, .int 0), (0, .ref a0)]) C.1 C.2.1 dX11_cards_73 hl (by decide) rfl (fun ls hl => ?_)
  refine lv_iload C.1 C.2.1 dX11_cards_75 (lv_at hl 0 rfl) ?_
  refine lv_sipush (v := 8192) C.1 C.2.1 dX11_cards_77 (by decide) ?_
  refine lv_icmp_ge (tgt := 107) C.1 C.2.1 dX11_cards_80 (by decide) (fun h => absurd h (by decide)) (fun _ => ?_)
  refine lv_aload_n C.1 C.2.1 dX11_cards_83 rfl (lv_at hl 2 rfl) ?_
  refine k_Vi (As := []) (rest := []) C hP hD hS hA (c_X9_advance l D K a2 ((((((((((s4.set 6 (.int 0)).set 7 (.int 0)).set 4 (.int 0)).set 5 (.int 0)).set 5 (.int 1)).set 6 (.int 0)).set 7 (.int 0)).set 4 (.int 0)).set 5 (.int 0))) (sl (sl (sl (sl (sl (sl (sl (sl (sl n4))))))))) (ss (sk (sl (sl (sl (sl (sl (sl (sl (sl n4)))))))) (by decide))) (sn (by decide) (ss (sk (sl (sl (sl (sl (sl (sl (sl n4))))))) (by decide)))) (sn (by decide) (sn (by decide) (ss (sk (sl (sl (sl (sl (sl (sl n4)))))) (by decide)))))) X0_ok trivial (uwV m_43_19 m_13_19 m_13_20 m_1_17 m_13_21) (hdV 0 (by decide +kernel) rfl) ⟨Nat.le_of_ble_eq_true rfl, Nat.le_of_ble_eq_true rfl⟩ rfl rfl (ci := 8) rfl rfl (isC := [4]) (isR := [0, 1, 2, 3, 5]) (wr := [(a1, .inr (2, s1)), (a3, .inr (9, s2)), (a4, .inr (5, s3)), (a0, .inr (10, (s0.set 1 (.int 0)))), (a5, .inl (K 2, 8192, .inl f5))]) ⟨rfl, rfl, rfl, rfl, by decide⟩ rfl hl.1 (Nat.le_of_ble_eq_true rfl) dX11_cards_84 ⟨Nat.le_of_ble_eq_true rfl, Nat.le_of_ble_eq_true rfl⟩ (fun r_10 u_9 H locs hw hP hD hS => ?_)
  obtain rfl := hw
  have hP : va_P D vwCl [(a1, .inr (2, s1)), (a3, .inr (9, s2)), (a4, .inr (5, s3)), (a0, .inr (10, (s0.set 1 (.int 0)))), (a5, .inl (K 2, 8192, .inl f5)), (a2, .inr (8, ((((((((((s4.set 6 (.int 0)).set 7 (.int 0)).set 4 (.int 0)).set 5 (.int 0)).set 5 (.int 1)).set 6 (.int 0)).set 7 (.int 0)).set 4 (.int 0)).set 5 (.int 0)).set 5 (.int 1))))] H := hP
  have hD : va_D A [(a1, .inr (2, s1)), (a3, .inr (9, s2)), (a4, .inr (5, s3)), (a0, .inr (10, (s0.set 1 (.int 0)))), (a5, .inl (K 2, 8192, .inl f5)), (a2, .inr (8, ((((((((((s4.set 6 (.int 0)).set 7 (.int 0)).set 4 (.int 0)).set 5 (.int 0)).set 5 (.int 1)).set 6 (.int 0)).set 7 (.int 0)).set 4 (.int 0)).set 5 (.int 0)).set 5 (.int 1))))] := hD
  refine lv_if_eq (tgt := 107) C.1 C.2.1 dX11_cards_87 (by decide) (fun _ => ?_) (fun h => absurd (by decide) h)
  refine lv_iload_n C.1 C.2.1 dX11_cards_107 rfl (lv_at hl 1 rfl) ?_
  exact k_iret C hr hlocks hP hD hS rfl (fun _ => 0) [] rfl rfl rfl (Nat.le_of_ble_eq_true rfl) (Nat.le_of_ble_eq_true rfl) dX11_cards_108
set_option maxHeartbeats 4000000 in
set_option maxRecDepth 100000 in
theorem c_X12_cardsLeft (l : Launch) (D : va_G) (K : Nat → ClassId) (a0 : Nat) (s0 : List Value) (n0 : s0.length = 94) (e0_36 : s0[36]? = some (.int 0)) (e0_35 : s0[35]? = some (.int 0)) : uMet l yX12_cardsLeft cX12_cardsLeft 1 (some .int) (rmD 0 0 0) D K X0 [.ref a0] [(a0, .inr (11, s0))] (QI D K (fun (r : Int32) (u : Nat → Nat) => r = 0) (fun (u : Nat → Nat) => [(a0, .inr (11, s0))])) 0 0 := by
  refine k_met RX12 ⟨rfl, by decide +kernel⟩ (Nat.le_of_ble_eq_true rfl) ?_
  intro p e s m below meth c A ls C hX hr hlocks hin hA hP hD hS hl
  have hl : lv_has ls 1 [(0, .ref a0)] := hl
  refine lv_aload_n C.1 C.2.1 dX12_cardsLeft_0 rfl (lv_at hl 0 rfl) ?_
  refine k_get (v := .int 0) C hP 0 rfl rfl inlX12 36 (by decide) m_44_16 e0_36 dX12_cardsLeft_1 ?_
  refine lv_aload_n C.1 C.2.1 dX12_cardsLeft_4 rfl (lv_at hl 0 rfl) ?_
  refine k_get (v := .int 0) C hP 0 rfl rfl inlX12 35 (by decide) m_44_17 e0_35 dX12_cardsLeft_5 ?_
  refine k_isub (v := 0) C (by decide) dX12_cardsLeft_8 ?_
  exact k_iret C hr hlocks hP hD hS rfl (fun _ => 0) [0] rfl rfl rfl (Nat.le_of_ble_eq_true rfl) (Nat.le_of_ble_eq_true rfl) dX12_cardsLeft_9
set_option maxHeartbeats 4000000 in
set_option maxRecDepth 100000 in
theorem c_X12_gatherCards (l : Launch) (D : va_G) (K : Nat → ClassId) (a0 : Nat) (s0 : List Value) (n0 : s0.length = 94) (e0_36 : s0[36]? = some (.int 0)) (e0_35 : s0[35]? = some (.int 0)) : uMet l yX12_gatherCards cX12_gatherCards 7 none (rmD 1 0 0) D K X0 [.ref a0] [(a0, .inr (11, s0))] (QV D K (fun (u : Nat → Nat) => True) (fun (u : Nat → Nat) => [(a0, .inr (11, ((s0.set 35 (.int 0)).set 36 (.int 0))))])) 0 0 := by
  refine k_met RX12 ⟨rfl, by decide +kernel⟩ (Nat.le_of_ble_eq_true rfl) ?_
  intro p e s m below meth c A ls C hX hr hlocks hin hA hP hD hS hl
  have hl : lv_has ls 7 [(0, .ref a0)] := hl
  refine lv_iconst (v := 0) C.1 C.2.1 dX12_gatherCards_0 (by decide) ?_
  refine lv_istore_n (lv' := [(1, .int 0), (0, .ref a0)]) C.1 C.2.1 dX12_gatherCards_1 rfl hl (by decide) rfl (fun ls hl => ?_)
  refine lv_aload_n C.1 C.2.1 dX12_gatherCards_2 rfl (lv_at hl 1 rfl) ?_
  refine k_Vi (As := []) (rest := []) C hP hD hS hA (c_X12_cardsLeft l D K a0 s0 n0 e0_36 e0_35) X0_ok trivial (uwV m_44_12 m_44_13 m_44_14 m_1_5 m_44_15) (hdV 0 (by decide +kernel) rfl) ⟨Nat.le_of_ble_eq_true rfl, Nat.le_of_ble_eq_true rfl⟩ rfl rfl (ci := 11) rfl rfl (isC := [0]) (isR := []) (wr := []) ⟨rfl, rfl, rfl, rfl, by decide⟩ rfl hl.1 (Nat.le_of_ble_eq_true rfl) dX12_gatherCards_3 ⟨Nat.le_of_ble_eq_true rfl, Nat.le_of_ble_eq_true rfl⟩ (fun r_2 u_1 H locs hw hP hD hS => ?_)
  obtain rfl := hw
  have hP : va_P D vwCl [(a0, .inr (11, s0))] H := hP
  have hD : va_D A [(a0, .inr (11, s0))] := hD
  refine lv_istore_n (lv' := [(2, .int 0), (1, .int 0), (0, .ref a0)]) C.1 C.2.1 dX12_gatherCards_6 rfl hl (by decide) rfl (fun ls hl => ?_)
  refine lv_iconst (v := 0) C.1 C.2.1 dX12_gatherCards_7 (by decide) ?_
  refine lv_istore_n (lv' := [(3, .int 0), (2, .int 0), (1, .int 0), (0, .ref a0)]) C.1 C.2.1 dX12_gatherCards_8 rfl hl (by decide) rfl (fun ls hl => ?_)
  refine lv_iload_n C.1 C.2.1 dX12_gatherCards_9 rfl (lv_at hl 0 rfl) ?_
  refine lv_iload_n C.1 C.2.1 dX12_gatherCards_10 rfl (lv_at hl 1 rfl) ?_
  refine lv_icmp_ge (tgt := 106) C.1 C.2.1 dX12_gatherCards_11 (by decide) (fun _ => ?_) (fun h => absurd (by decide) h)
  refine lv_aload_n C.1 C.2.1 dX12_gatherCards_106 rfl (lv_at hl 3 rfl) ?_
  refine lv_iconst (v := 0) C.1 C.2.1 dX12_gatherCards_107 (by decide) ?_
  refine k_put (ws' := [(a0, .inr (11, (s0.set 35 (.int 0))))]) (v := .int 0) C hP hD hS 0 rfl rfl inlX12 tyX12_ok nmX12 35 (by decide) m_44_17 rfl rfl rfl n0 rfl dX12_gatherCards_108 (fun H locs hP hD hS => ?_)
  refine lv_aload_n C.1 C.2.1 dX12_gatherCards_111 rfl (lv_at hl 3 rfl) ?_
  refine lv_iload_n C.1 C.2.1 dX12_gatherCards_112 rfl (lv_at hl 1 rfl) ?_
  refine k_put (ws' := [(a0, .inr (11, ((s0.set 35 (.int 0)).set 36 (.int 0))))]) (v := .int 0) C hP hD hS 0 rfl rfl inlX12 tyX12_ok nmX12 36 (by decide) m_44_16 rfl rfl rfl (sl n0) rfl dX12_gatherCards_113 (fun H locs hP hD hS => ?_)
  exact k_vret C hr hlocks hP hD hS (fun _ => 0) [0] rfl rfl trivial (Nat.le_of_ble_eq_true rfl) (Nat.le_of_ble_eq_true rfl) dX12_gatherCards_116
set_option maxHeartbeats 4000000 in
set_option maxRecDepth 100000 in
theorem t_X12_cards (l : Launch) (D : va_G) (K : Nat → ClassId) (a0 : Nat) (s0 : List Value) (n0 : s0.length = 94) (e0_2 : s0[2]? = some (.int 0)) (e0_36 : s0[36]? = some (.int 0)) (e0_35 : s0[35]? = some (.int 0)) : uMet l yX12_cards cX12_cards 4 (some .int) (rmD 2 0 0) D K X0 [.ref a0] [(a0, .inr (11, s0))] (QI D K (fun (r : Int32) (u : Nat → Nat) => r = 0) (fun (u : Nat → Nat) => [])) 0 0 := by
  refine k_met RX12 ⟨rfl, by decide +kernel⟩ (Nat.le_of_ble_eq_true rfl) ?_
  intro p e s m below meth c A ls C hX hr hlocks hin hA hP hD hS hl
  have hl : lv_has ls 4 [(0, .ref a0)] := hl
  refine lv_aload_n C.1 C.2.1 dX12_cards_0 rfl (lv_at hl 0 rfl) ?_
  refine lv_iconst (v := 0) C.1 C.2.1 dX12_cards_1 (by decide) ?_
  refine k_put (ws' := [(a0, .inr (11, (s0.set 0 (.int 0))))]) (v := .int 0) C hP hD hS 0 rfl rfl inlX12 tyX12_ok nmX12 0 (by decide) m_9_18 rfl rfl rfl n0 rfl dX12_cards_2 (fun H locs hP hD hS => ?_)
  refine lv_aload_n C.1 C.2.1 dX12_cards_5 rfl (lv_at hl 0 rfl) ?_
  refine k_get (v := .int 0) C hP 0 rfl rfl inlX12 2 (by decide) m_9_19 (sn (by decide) e0_2) dX12_cards_6 ?_
  refine lv_istore_n (lv' := [(1, .int 0), (0, .ref a0)]) C.1 C.2.1 dX12_cards_9 rfl hl (by decide) rfl (fun ls hl => ?_)
  refine lv_aload_n C.1 C.2.1 dX12_cards_10 rfl (lv_at hl 1 rfl) ?_
  refine lv_iconst (v := 0) C.1 C.2.1 dX12_cards_11 (by decide) ?_
  refine k_put (ws' := [(a0, .inr (11, ((s0.set 0 (.int 0)).set 2 (.int 0))))]) (v := .int 0) C hP hD hS 0 rfl rfl inlX12 tyX12_ok nmX12 2 (by decide) m_9_19 rfl rfl rfl (sl n0) rfl dX12_cards_12 (fun H locs hP hD hS => ?_)
  refine lv_iconst (v := 0) C.1 C.2.1 dX12_cards_15 (by decide) ?_
  refine lv_istore_n (lv' := [(2, .int 0), (1, .int 0), (0, .ref a0)]) C.1 C.2.1 dX12_cards_16 rfl hl (by decide) rfl (fun ls hl => ?_)
  refine lv_iconst (v := 0) C.1 C.2.1 dX12_cards_17 (by decide) ?_
  refine lv_istore_n (lv' := [(3, .int 0), (2, .int 0), (1, .int 0), (0, .ref a0)]) C.1 C.2.1 dX12_cards_18 rfl hl (by decide) rfl (fun ls hl => ?_)
  refine lv_iload_n C.1 C.2.1 dX12_cards_19 rfl (lv_at hl 0 rfl) ?_
  refine lv_iload_n C.1 C.2.1 dX12_cards_20 rfl (lv_at hl 2 rfl) ?_
  refine lv_icmp_ge (tgt := 42) C.1 C.2.1 dX12_cards_21 (by decide) (fun _ => ?_) (fun h => absurd (by decide) h)
  refine lv_aload_n C.1 C.2.1 dX12_cards_42 rfl (lv_at hl 3 rfl) ?_
  refine k_Vi (As := []) (rest := []) C hP hD hS hA (c_X12_cardsLeft l D K a0 (((s0.set 0 (.int 0)).set 2 (.int 0))) (sl (sl n0)) (sn (by decide) (sn (by decide) e0_36)) (sn (by decide) (sn (by decide) e0_35))) X0_ok trivial (uwV m_44_12 m_44_13 m_44_14 m_1_5 m_44_15) (hdV 0 (by decide +kernel) rfl) ⟨Nat.le_of_ble_eq_true rfl, Nat.le_of_ble_eq_true rfl⟩ rfl rfl (ci := 11) rfl rfl (isC := [0]) (isR := []) (wr := []) ⟨rfl, rfl, rfl, rfl, by decide⟩ rfl hl.1 (Nat.le_of_ble_eq_true rfl) dX12_cards_43 ⟨Nat.le_of_ble_eq_true rfl, Nat.le_of_ble_eq_true rfl⟩ (fun r_2 u_1 H locs hw hP hD hS => ?_)
  obtain rfl := hw
  have hP : va_P D vwCl [(a0, .inr (11, ((s0.set 0 (.int 0)).set 2 (.int 0))))] H := hP
  have hD : va_D A [(a0, .inr (11, ((s0.set 0 (.int 0)).set 2 (.int 0))))] := hD
  refine lv_iload_n C.1 C.2.1 dX12_cards_46 rfl (lv_at hl 1 rfl) ?_
  refine k_iadd (v := 0) C (by decide) dX12_cards_47 ?_
  refine lv_sipush (v := 400) C.1 C.2.1 dX12_cards_48 (by decide) ?_
  refine lv_icmp_le (tgt := 56) C.1 C.2.1 dX12_cards_51 (by decide) (fun _ => ?_) (fun h => absurd (by decide) h)
  refine lv_aload_n C.1 C.2.1 dX12_cards_56 rfl (lv_at hl 3 rfl) ?_
  refine k_Vv (As := []) (rest := []) C hP hD hS hA (c_X12_gatherCards l D K a0 (((s0.set 0 (.int 0)).set 2 (.int 0))) (sl (sl n0)) (sn (by decide) (sn (by decide) e0_36)) (sn (by decide) (sn (by decide) e0_35))) X0_ok trivial (uwV m_44_18 m_44_19 m_44_20 m_1_5 m_44_21) (hdV 0 (by decide +kernel) rfl) ⟨Nat.le_of_ble_eq_true rfl, Nat.le_of_ble_eq_true rfl⟩ rfl rfl (ci := 11) rfl rfl (isC := [0]) (isR := []) (wr := []) ⟨rfl, rfl, rfl, rfl, by decide⟩ rfl hl.1 (Nat.le_of_ble_eq_true rfl) dX12_cards_57 ⟨Nat.le_of_ble_eq_true rfl, Nat.le_of_ble_eq_true rfl⟩ (fun u_3 H locs hw hP hD hS => ?_)
  have hP : va_P D vwCl [(a0, .inr (11, ((((s0.set 0 (.int 0)).set 2 (.int 0)).set 35 (.int 0)).set 36 (.int 0))))] H := hP
  have hD : va_D A [(a0, .inr (11, ((((s0.set 0 (.int 0)).set 2 (.int 0)).set 35 (.int 0)).set 36 (.int 0))))] := hD
  refine lv_iconst (v := 0) C.1 C.2.1 dX12_cards_60 (by decide) ?_
  refine lv_istore_n (lv' := [(3, .int 0), (2, .int 0), (1, .int 0), (0, .ref a0)]) C.1 C.2.1 dX12_cards_61 rfl hl (by decide) rfl (fun ls hl => ?_)
  refine lv_iload_n C.1 C.2.1 dX12_cards_62 rfl (lv_at hl 0 rfl) ?_
  refine lv_iload_n C.1 C.2.1 dX12_cards_63 rfl (lv_at hl 2 rfl) ?_
  refine lv_icmp_ge (tgt := 100) C.1 C.2.1 dX12_cards_64 (by decide) (fun _ => ?_) (fun h => absurd (by decide) h)
  refine lv_aload_n C.1 C.2.1 dX12_cards_100 rfl (lv_at hl 3 rfl) ?_
  refine k_Vi (As := []) (rest := []) C hP hD hS hA (c_X12_cardsLeft l D K a0 (((((s0.set 0 (.int 0)).set 2 (.int 0)).set 35 (.int 0)).set 36 (.int 0))) (sl (sl (sl (sl n0)))) (ss (sk (sl (sl (sl n0))) (by decide))) (sn (by decide) (ss (sk (sl (sl n0)) (by decide))))) X0_ok trivial (uwV m_44_12 m_44_13 m_44_14 m_1_5 m_44_15) (hdV 0 (by decide +kernel) rfl) ⟨Nat.le_of_ble_eq_true rfl, Nat.le_of_ble_eq_true rfl⟩ rfl rfl (ci := 11) rfl rfl (isC := [0]) (isR := []) (wr := []) ⟨rfl, rfl, rfl, rfl, by decide⟩ rfl hl.1 (Nat.le_of_ble_eq_true rfl) dX12_cards_101 ⟨Nat.le_of_ble_eq_true rfl, Nat.le_of_ble_eq_true rfl⟩ (fun r_6 u_5 H locs hw hP hD hS => ?_)
  obtain rfl := hw
  have hP : va_P D vwCl [(a0, .inr (11, ((((s0.set 0 (.int 0)).set 2 (.int 0)).set 35 (.int 0)).set 36 (.int 0))))] H := hP
  have hD : va_D A [(a0, .inr (11, ((((s0.set 0 (.int 0)).set 2 (.int 0)).set 35 (.int 0)).set 36 (.int 0))))] := hD
  exact k_iret C hr hlocks hP hD hS rfl (fun _ => 0) [] rfl rfl rfl (Nat.le_of_ble_eq_true rfl) (Nat.le_of_ble_eq_true rfl) dX12_cards_104
set_option maxHeartbeats 4000000 in
set_option maxRecDepth 100000 in
theorem c_X11_advance (l : Launch) (D : va_G) (K : Nat → ClassId) (a0 : Nat) (a1 : Nat) (s0 : List Value) (n0 : s0.length = 8) (s1 : List Value) (n1 : s1.length = 16) (x1 : Int32) (e0_4 : s0[4]? = some (.ref a1)) (e1_8 : s1[8]? = some (.int 9)) : uMet l yX11_advance cX11_advance 5 (some .int) (rmD 0 0 0) D K X0 [.ref a0, .int x1, .int 0] [(a0, .inr (10, s0)), (a1, .inr (1, s1))] (QI D K (fun (r : Int32) (u : Nat → Nat) => r = 0) (fun (u : Nat → Nat) => [(a0, .inr (10, s0)), (a1, .inr (1, s1))])) 0 0 := by
  refine k_met RX11 ⟨rfl, by decide +kernel⟩ (Nat.le_of_ble_eq_true rfl) ?_
  intro p e s m below meth c A ls C hX hr hlocks hin hA hP hD hS hl
  have hl : lv_has ls 5 [(0, .ref a0), (1, .int x1), (2, .int 0)] := hl
  refine lv_iconst (v := 0) C.1 C.2.1 dX11_advance_0 (by decide) ?_
  refine lv_istore_n (lv' := [(3, .int 0), (0, .ref a0), (1, .int x1), (2, .int 0)]) C.1 C.2.1 dX11_advance_1 rfl hl (by decide) rfl (fun ls hl => ?_)
  refine lv_iconst (v := 0) C.1 C.2.1 dX11_advance_2 (by decide) ?_
  refine lv_istore (lv' := [(4, .int 0), (3, .int 0), (0, .ref a0), (1, .int x1), (2, .int 0)]) C.1 C.2.1 dX11_advance_3 hl (by decide) rfl (fun ls hl => ?_)
  refine lv_iload C.1 C.2.1 dX11_advance_5 (lv_at hl 0 rfl) ?_
  refine lv_iconst (v := 2) C.1 C.2.1 dX11_advance_7 (by decide) ?_
  refine lv_iload_n C.1 C.2.1 dX11_advance_8 rfl (lv_at hl 3 rfl) ?_
  refine k_imul (v := (2 * x1)) C rfl dX11_advance_9 ?_
  refine lv_icmp_ge (tgt := 58) C.1 C.2.1 dX11_advance_10 (by decide) (fun c_1 => ?_) (fun c_1 => ?_)
  · refine lv_iload_n C.1 C.2.1 dX11_advance_58 rfl (lv_at hl 1 rfl) ?_
    exact k_iret C hr hlocks hP hD hS rfl (fun _ => 0) [0, 1] rfl rfl rfl (Nat.le_of_ble_eq_true rfl) (Nat.le_of_ble_eq_true rfl) dX11_advance_59
  · refine lv_iload_n C.1 C.2.1 dX11_advance_13 rfl (lv_at hl 1 rfl) ?_
    refine lv_iload_n C.1 C.2.1 dX11_advance_14 rfl (lv_at hl 3 rfl) ?_
    refine lv_icmp_ge (tgt := 58) C.1 C.2.1 dX11_advance_15 (by decide) (fun c_2 => ?_) (fun c_2 => ?_)
    · refine lv_iload_n C.1 C.2.1 dX11_advance_58 rfl (lv_at hl 1 rfl) ?_
      exact k_iret C hr hlocks hP hD hS rfl (fun _ => 0) [0, 1] rfl rfl rfl (Nat.le_of_ble_eq_true rfl) (Nat.le_of_ble_eq_true rfl) dX11_advance_59
    · refine lv_aload_n C.1 C.2.1 dX11_advance_18 rfl (lv_at hl 2 rfl) ?_
      refine k_get (v := .ref a1) C hP 0 rfl rfl inlX11 4 (by decide) m_2_9 e0_4 dX11_advance_19 ?_
      refine k_get (v := .int 9) C hP 1 rfl rfl inlX2 8 (by decide) m_45_11 e1_8 dX11_advance_22 ?_
      refine lv_if_ne (tgt := 58) C.1 C.2.1 dX11_advance_25 (by decide) (fun _ => ?_) (fun h => absurd h (by decide))
      refine lv_iload_n C.1 C.2.1 dX11_advance_58 rfl (lv_at hl 1 rfl) ?_
      exact k_iret C hr hlocks hP hD hS rfl (fun _ => 0) [0, 1] rfl rfl rfl (Nat.le_of_ble_eq_true rfl) (Nat.le_of_ble_eq_true rfl) dX11_advance_59
set_option maxHeartbeats 4000000 in
set_option maxRecDepth 100000 in
theorem t_X11_run (l : Launch) (D : va_G) (K : Nat → ClassId) (a0 : Nat) (a1 : Nat) (s0 : List Value) (n0 : s0.length = 8) (s1 : List Value) (n1 : s1.length = 16) (x1 : Int32) (e0_4 : s0[4]? = some (.ref a1)) (e1_8 : s1[8]? = some (.int 9)) : uMet l yX11_run cX11_run 2 (some .int) (rmD 1 0 0) D K X0 [.ref a0, .int x1] [(a0, .inr (10, s0)), (a1, .inr (1, s1))] (QI D K (fun (r : Int32) (u : Nat → Nat) => r = 0) (fun (u : Nat → Nat) => [])) 0 0 := by
  refine k_met RX11 ⟨rfl, by decide +kernel⟩ (Nat.le_of_ble_eq_true rfl) ?_
  intro p e s m below meth c A ls C hX hr hlocks hin hA hP hD hS hl
  have hl : lv_has ls 2 [(0, .ref a0), (1, .int x1)] := hl
  refine lv_iload_n C.1 C.2.1 dX11_run_0 rfl (lv_at hl 1 rfl) ?_
  refine lv_if_lt (tgt := 10) C.1 C.2.1 dX11_run_1 (by decide) (fun c_1 => ?_) (fun c_1 => ?_)
  · refine lv_iconst (v := 0) C.1 C.2.1 dX11_run_10 (by decide) ?_
    refine lv_goto (tgt := 20) C.1 C.2.1 dX11_run_11 (by decide) ?_
    exact k_iret C hr hlocks hP hD hS rfl (fun _ => 0) [] rfl rfl rfl (Nat.le_of_ble_eq_true rfl) (Nat.le_of_ble_eq_true rfl) dX11_run_20
  · refine lv_iload_n C.1 C.2.1 dX11_run_4 rfl (lv_at hl 1 rfl) ?_
    refine lv_ldc (v := 100000) C.1 C.2.1 C.2.2.2.1 (C.2.2.2.2.1 _ m_45_6) dX11_run_5 ?_
    refine lv_icmp_le (tgt := 14) C.1 C.2.1 dX11_run_7 (by decide) (fun c_2 => ?_) (fun c_2 => ?_)
    · refine lv_aload_n C.1 C.2.1 dX11_run_14 rfl (lv_at hl 0 rfl) ?_
      refine lv_iload_n C.1 C.2.1 dX11_run_15 rfl (lv_at hl 1 rfl) ?_
      refine lv_iconst (v := 0) C.1 C.2.1 dX11_run_16 (by decide) ?_
      refine k_Vi (As := [.int x1, .int 0]) (rest := []) C hP hD hS hA (c_X11_advance l D K a0 a1 s0 n0 s1 n1 x1 e0_4 e1_8) X0_ok trivial (uwV m_45_7 m_45_8 m_45_9 m_1_2 m_45_10) (hdV 2 (by decide +kernel) rfl) ⟨Nat.le_of_ble_eq_true rfl, Nat.le_of_ble_eq_true rfl⟩ rfl rfl (ci := 10) rfl rfl (isC := [0, 1]) (isR := []) (wr := []) ⟨rfl, rfl, rfl, rfl, by decide⟩ rfl hl.1 (Nat.le_of_ble_eq_true rfl) dX11_run_17 ⟨Nat.le_of_ble_eq_true rfl, Nat.le_of_ble_eq_true rfl⟩ (fun r_4 u_3 H locs hw hP hD hS => ?_)
      obtain rfl := hw
      have hP : va_P D vwCl [(a0, .inr (10, s0)), (a1, .inr (1, s1))] H := hP
      have hD : va_D A [(a0, .inr (10, s0)), (a1, .inr (1, s1))] := hD
      exact k_iret C hr hlocks hP hD hS rfl (fun _ => 0) [] rfl rfl rfl (Nat.le_of_ble_eq_true rfl) (Nat.le_of_ble_eq_true rfl) dX11_run_20
    · refine lv_iconst (v := 0) C.1 C.2.1 dX11_run_10 (by decide) ?_
      refine lv_goto (tgt := 20) C.1 C.2.1 dX11_run_11 (by decide) ?_
      exact k_iret C hr hlocks hP hD hS rfl (fun _ => 0) [] rfl rfl rfl (Nat.le_of_ble_eq_true rfl) (Nat.le_of_ble_eq_true rfl) dX11_run_20
set_option maxHeartbeats 4000000 in
set_option maxRecDepth 100000 in
theorem c_X12_goOn (l : Launch) (D : va_G) (K : Nat → ClassId) (a0 : Nat) (s0 : List Value) (n0 : s0.length = 94) (x1 : Int32) (e0_9 : s0[9]? = some (.int 9)) : uMet l yX12_goOn cX12_goOn 4 (some .int) (rmD 0 0 0) D K X0 [.ref a0, .int x1] [(a0, .inr (11, s0))] (QI D K (fun (r : Int32) (u : Nat → Nat) => r = 0) (fun (u : Nat → Nat) => [(a0, .inr (11, s0))])) 0 0 := by
  refine k_met RX12 ⟨rfl, by decide +kernel⟩ (Nat.le_of_ble_eq_true rfl) ?_
  intro p e s m below meth c A ls C hX hr hlocks hin hA hP hD hS hl
  have hl : lv_has ls 4 [(0, .ref a0), (1, .int x1)] := hl
  refine lv_iconst (v := 0) C.1 C.2.1 dX12_goOn_0 (by decide) ?_
  refine lv_istore_n (lv' := [(2, .int 0), (0, .ref a0), (1, .int x1)]) C.1 C.2.1 dX12_goOn_1 rfl hl (by decide) rfl (fun ls hl => ?_)
  refine lv_iload_n C.1 C.2.1 dX12_goOn_2 rfl (lv_at hl 0 rfl) ?_
  refine lv_iload_n C.1 C.2.1 dX12_goOn_3 rfl (lv_at hl 2 rfl) ?_
  refine lv_icmp_ge (tgt := 69) C.1 C.2.1 dX12_goOn_4 (by decide) (fun c_1 => ?_) (fun c_1 => ?_)
  · refine lv_iload_n C.1 C.2.1 dX12_goOn_69 rfl (lv_at hl 0 rfl) ?_
    exact k_iret C hr hlocks hP hD hS rfl (fun _ => 0) [0] rfl rfl rfl (Nat.le_of_ble_eq_true rfl) (Nat.le_of_ble_eq_true rfl) dX12_goOn_70
  · refine lv_aload_n C.1 C.2.1 dX12_goOn_7 rfl (lv_at hl 1 rfl) ?_
    refine k_get (v := .int 9) C hP 0 rfl rfl inlX12 9 (by decide) m_7_8 e0_9 dX12_goOn_8 ?_
    refine lv_if_ne (tgt := 69) C.1 C.2.1 dX12_goOn_11 (by decide) (fun _ => ?_) (fun h => absurd h (by decide))
    refine lv_iload_n C.1 C.2.1 dX12_goOn_69 rfl (lv_at hl 0 rfl) ?_
    exact k_iret C hr hlocks hP hD hS rfl (fun _ => 0) [0] rfl rfl rfl (Nat.le_of_ble_eq_true rfl) (Nat.le_of_ble_eq_true rfl) dX12_goOn_70
set_option maxHeartbeats 4000000 in
set_option maxRecDepth 100000 in
theorem t_X12_run (l : Launch) (D : va_G) (K : Nat → ClassId) (a0 : Nat) (s0 : List Value) (n0 : s0.length = 94) (x1 : Int32) (e0_9 : s0[9]? = some (.int 9)) : uMet l yX12_run cX12_run 2 (some .int) (rmD 1 0 0) D K X0 [.ref a0, .int x1] [(a0, .inr (11, s0))] (QI D K (fun (r : Int32) (u : Nat → Nat) => r = 0) (fun (u : Nat → Nat) => [])) 0 0 := by
  refine k_met RX12 ⟨rfl, by decide +kernel⟩ (Nat.le_of_ble_eq_true rfl) ?_
  intro p e s m below meth c A ls C hX hr hlocks hin hA hP hD hS hl
  have hl : lv_has ls 2 [(0, .ref a0), (1, .int x1)] := hl
  refine lv_aload_n C.1 C.2.1 dX12_run_0 rfl (lv_at hl 0 rfl) ?_
  refine lv_iconst (v := 0) C.1 C.2.1 dX12_run_1 (by decide) ?_
  refine k_put (ws' := [(a0, .inr (11, (s0.set 0 (.int 0))))]) (v := .int 0) C hP hD hS 0 rfl rfl inlX12 tyX12_ok nmX12 0 (by decide) m_9_18 rfl rfl rfl n0 rfl dX12_run_2 (fun H locs hP hD hS => ?_)
  refine lv_iload_n C.1 C.2.1 dX12_run_5 rfl (lv_at hl 1 rfl) ?_
  refine lv_if_lt (tgt := 16) C.1 C.2.1 dX12_run_6 (by decide) (fun c_1 => ?_) (fun c_1 => ?_)
  · refine lv_iconst (v := 0) C.1 C.2.1 dX12_run_16 (by decide) ?_
    refine lv_goto (tgt := 25) C.1 C.2.1 dX12_run_17 (by decide) ?_
    exact k_iret C hr hlocks hP hD hS rfl (fun _ => 0) [] rfl rfl rfl (Nat.le_of_ble_eq_true rfl) (Nat.le_of_ble_eq_true rfl) dX12_run_25
  · refine lv_iload_n C.1 C.2.1 dX12_run_9 rfl (lv_at hl 1 rfl) ?_
    refine lv_ldcw (v := 100000) C.1 C.2.1 C.2.2.2.1 (C.2.2.2.2.1 _ m_56_9) dX12_run_10 ?_
    refine lv_icmp_le (tgt := 20) C.1 C.2.1 dX12_run_13 (by decide) (fun c_2 => ?_) (fun c_2 => ?_)
    · refine lv_aload_n C.1 C.2.1 dX12_run_20 rfl (lv_at hl 0 rfl) ?_
      refine lv_iload_n C.1 C.2.1 dX12_run_21 rfl (lv_at hl 1 rfl) ?_
      refine k_Vi (As := [.int x1]) (rest := []) C hP hD hS hA (c_X12_goOn l D K a0 ((s0.set 0 (.int 0))) (sl n0) x1 (sn (by decide) e0_9)) X0_ok trivial (uwV m_56_10 m_56_11 m_56_12 m_1_5 m_56_13) (hdV 1 (by decide +kernel) rfl) ⟨Nat.le_of_ble_eq_true rfl, Nat.le_of_ble_eq_true rfl⟩ rfl rfl (ci := 11) rfl rfl (isC := [0]) (isR := []) (wr := []) ⟨rfl, rfl, rfl, rfl, by decide⟩ rfl hl.1 (Nat.le_of_ble_eq_true rfl) dX12_run_22 ⟨Nat.le_of_ble_eq_true rfl, Nat.le_of_ble_eq_true rfl⟩ (fun r_4 u_3 H locs hw hP hD hS => ?_)
      obtain rfl := hw
      have hP : va_P D vwCl [(a0, .inr (11, (s0.set 0 (.int 0))))] H := hP
      have hD : va_D A [(a0, .inr (11, (s0.set 0 (.int 0))))] := hD
      exact k_iret C hr hlocks hP hD hS rfl (fun _ => 0) [] rfl rfl rfl (Nat.le_of_ble_eq_true rfl) (Nat.le_of_ble_eq_true rfl) dX12_run_25
    · refine lv_iconst (v := 0) C.1 C.2.1 dX12_run_16 (by decide) ?_
      refine lv_goto (tgt := 25) C.1 C.2.1 dX12_run_17 (by decide) ?_
      exact k_iret C hr hlocks hP hD hS rfl (fun _ => 0) [] rfl rfl rfl (Nat.le_of_ble_eq_true rfl) (Nat.le_of_ble_eq_true rfl) dX12_run_25
set_option maxHeartbeats 4000000 in
set_option maxRecDepth 100000 in
theorem c_X6_hasCard (l : Launch) (D : va_G) (K : Nat → ClassId) (a0 : Nat) (s0 : List Value) (n0 : s0.length = 4) (e0_3 : s0[3]? = some (.int 0)) : uMet l yX6_hasCard cX6_hasCard 2 (some .boolean) (rmD 0 0 0) D K X0 [.ref a0, .int 0] [(a0, .inr (5, s0))] (QI D K (fun (r : Int32) (u : Nat → Nat) => r = 0) (fun (u : Nat → Nat) => [(a0, .inr (5, s0))])) 0 0 := by
  refine k_met RX6 ⟨rfl, by decide +kernel⟩ (Nat.le_of_ble_eq_true rfl) ?_
  intro p e s m below meth c A ls C hX hr hlocks hin hA hP hD hS hl
  have hl : lv_has ls 2 [(0, .ref a0), (1, .int 0)] := hl
  refine lv_aload_n C.1 C.2.1 dX6_hasCard_0 rfl (lv_at hl 0 rfl) ?_
  refine k_get (v := .int 0) C hP 0 rfl rfl inlX6 3 (by decide) m_44_7 e0_3 dX6_hasCard_1 ?_
  refine lv_if_le (tgt := 47) C.1 C.2.1 dX6_hasCard_4 (by decide) (fun _ => ?_) (fun h => absurd (by decide) h)
  refine lv_iconst (v := 0) C.1 C.2.1 dX6_hasCard_47 (by decide) ?_
  exact k_iret C hr hlocks hP hD hS (by decide) (fun _ => 0) [0] rfl rfl rfl (Nat.le_of_ble_eq_true rfl) (Nat.le_of_ble_eq_true rfl) dX6_hasCard_48
set_option maxHeartbeats 4000000 in
set_option maxRecDepth 100000 in
theorem t_X11_go (l : Launch) (D : va_G) (K : Nat → ClassId) (a0 : Nat) (a1 : Nat) (a2 : Nat) (s0 : List Value) (n0 : s0.length = 8) (s1 : List Value) (n1 : s1.length = 13) (s2 : List Value) (n2 : s2.length = 4) (e0_3 : s0[3]? = some (.ref a1)) (e1_9 : s1[9]? = some (.ref a2)) (e2_3 : s2[3]? = some (.int 0)) : uMet l yX11_go cX11_go 1 (some .boolean) (rmD 1 0 0) D K X0 [.ref a0] [(a0, .inr (10, s0)), (a1, .inr (9, s1)), (a2, .inr (5, s2))] (QI D K (fun (r : Int32) (u : Nat → Nat) => r = 0) (fun (u : Nat → Nat) => [])) 0 0 := by
  refine k_met RX11 ⟨rfl, by decide +kernel⟩ (Nat.le_of_ble_eq_true rfl) ?_
  intro p e s m below meth c A ls C hX hr hlocks hin hA hP hD hS hl
  have hl : lv_has ls 1 [(0, .ref a0)] := hl
  refine lv_aload_n C.1 C.2.1 dX11_go_0 rfl (lv_at hl 0 rfl) ?_
  refine k_get (v := .ref a1) C hP 0 rfl rfl inlX11 3 (by decide) m_2_8 e0_3 dX11_go_1 ?_
  refine k_get (v := .ref a2) C hP 1 rfl rfl inlX10 9 (by decide) m_43_16 e1_9 dX11_go_4 ?_
  refine lv_iconst (v := 0) C.1 C.2.1 dX11_go_7 (by decide) ?_
  refine k_Vi (As := [.int 0]) (rest := []) C hP hD hS hA (c_X6_hasCard l D K a2 s2 n2 e2_3) X0_ok trivial (uwV m_64_18 m_49_20 m_49_21 m_3_16 m_49_22) (hdV 1 (by decide +kernel) rfl) ⟨Nat.le_of_ble_eq_true rfl, Nat.le_of_ble_eq_true rfl⟩ rfl rfl (ci := 5) rfl rfl (isC := [2]) (isR := [0, 1]) (wr := [(a0, .inr (10, s0)), (a1, .inr (9, s1))]) ⟨rfl, rfl, rfl, rfl, by decide⟩ rfl hl.1 (Nat.le_of_ble_eq_true rfl) dX11_go_8 ⟨Nat.le_of_ble_eq_true rfl, Nat.le_of_ble_eq_true rfl⟩ (fun r_2 u_1 H locs hw hP hD hS => ?_)
  obtain rfl := hw
  have hP : va_P D vwCl [(a0, .inr (10, s0)), (a1, .inr (9, s1)), (a2, .inr (5, s2))] H := hP
  have hD : va_D A [(a0, .inr (10, s0)), (a1, .inr (9, s1)), (a2, .inr (5, s2))] := hD
  refine lv_if_ne (tgt := 16) C.1 C.2.1 dX11_go_11 (by decide) (fun h => absurd h (by decide)) (fun _ => ?_)
  refine lv_iconst (v := 0) C.1 C.2.1 dX11_go_14 (by decide) ?_
  exact k_iret C hr hlocks hP hD hS (by decide) (fun _ => 0) [] rfl rfl rfl (Nat.le_of_ble_eq_true rfl) (Nat.le_of_ble_eq_true rfl) dX11_go_15
set_option maxHeartbeats 4000000 in
set_option maxRecDepth 100000 in
theorem t_X12_go (l : Launch) (D : va_G) (K : Nat → ClassId) (a0 : Nat) (s0 : List Value) (n0 : s0.length = 94) (e0_36 : s0[36]? = some (.int 0)) (e0_35 : s0[35]? = some (.int 0)) : uMet l yX12_go cX12_go 2 (some .boolean) (rmD 1 0 0) D K X0 [.ref a0] [(a0, .inr (11, s0))] (QI D K (fun (r : Int32) (u : Nat → Nat) => r = 0) (fun (u : Nat → Nat) => [])) 0 0 := by
  refine k_met RX12 ⟨rfl, by decide +kernel⟩ (Nat.le_of_ble_eq_true rfl) ?_
  intro p e s m below meth c A ls C hX hr hlocks hin hA hP hD hS hl
  have hl : lv_has ls 2 [(0, .ref a0)] := hl
  refine lv_aload_n C.1 C.2.1 dX12_go_0 rfl (lv_at hl 0 rfl) ?_
  refine lv_iconst (v := 0) C.1 C.2.1 dX12_go_1 (by decide) ?_
  refine k_put (ws' := [(a0, .inr (11, (s0.set 0 (.int 0))))]) (v := .int 0) C hP hD hS 0 rfl rfl inlX12 tyX12_ok nmX12 0 (by decide) m_9_18 rfl rfl rfl n0 rfl dX12_go_2 (fun H locs hP hD hS => ?_)
  refine lv_aload_n C.1 C.2.1 dX12_go_5 rfl (lv_at hl 0 rfl) ?_
  refine k_Vi (As := []) (rest := []) C hP hD hS hA (c_X12_cardsLeft l D K a0 ((s0.set 0 (.int 0))) (sl n0) (sn (by decide) e0_36) (sn (by decide) e0_35)) X0_ok trivial (uwV m_44_12 m_44_13 m_44_14 m_1_5 m_44_15) (hdV 0 (by decide +kernel) rfl) ⟨Nat.le_of_ble_eq_true rfl, Nat.le_of_ble_eq_true rfl⟩ rfl rfl (ci := 11) rfl rfl (isC := [0]) (isR := []) (wr := []) ⟨rfl, rfl, rfl, rfl, by decide⟩ rfl hl.1 (Nat.le_of_ble_eq_true rfl) dX12_go_6 ⟨Nat.le_of_ble_eq_true rfl, Nat.le_of_ble_eq_true rfl⟩ (fun r_2 u_1 H locs hw hP hD hS => ?_)
  obtain rfl := hw
  have hP : va_P D vwCl [(a0, .inr (11, (s0.set 0 (.int 0))))] H := hP
  have hD : va_D A [(a0, .inr (11, (s0.set 0 (.int 0))))] := hD
  refine lv_if_ne (tgt := 14) C.1 C.2.1 dX12_go_9 (by decide) (fun h => absurd h (by decide)) (fun _ => ?_)
  refine lv_iconst (v := 0) C.1 C.2.1 dX12_go_12 (by decide) ?_
  exact k_iret C hr hlocks hP hD hS (by decide) (fun _ => 0) [] rfl rfl rfl (Nat.le_of_ble_eq_true rfl) (Nat.le_of_ble_eq_true rfl) dX12_go_13
set_option maxHeartbeats 4000000 in
set_option maxRecDepth 100000 in
theorem t_X11_deck (l : Launch) (D : va_G) (K : Nat → ClassId) (a0 : Nat) (a1 : Nat) (s0 : List Value) (n0 : s0.length = 8) (s1 : List Value) (n1 : s1.length = 20) (e0_5 : s0[5]? = some (.ref a1)) (e1_19 : s1[19]? = some (.int 0)) : uMet l yX11_deck cX11_deck 1 (some .int) (rmD 0 0 0) D K X0 [.ref a0] [(a0, .inr (10, s0)), (a1, .inr (0, s1))] (QI D K (fun (r : Int32) (u : Nat → Nat) => r = (-1)) (fun (u : Nat → Nat) => [])) 0 0 := by
  refine k_met RX11 ⟨rfl, by decide +kernel⟩ (Nat.le_of_ble_eq_true rfl) ?_
  intro p e s m below meth c A ls C hX hr hlocks hin hA hP hD hS hl
  have hl : lv_has ls 1 [(0, .ref a0)] := hl
  refine lv_aload_n C.1 C.2.1 dX11_deck_0 rfl (lv_at hl 0 rfl) ?_
  refine k_get (v := .ref a1) C hP 0 rfl rfl inlX11 5 (by decide) m_2_10 e0_5 dX11_deck_1 ?_
  refine k_get (v := .int 0) C hP 1 rfl rfl inlX0 19 (by decide) m_64_16 e1_19 dX11_deck_4 ?_
  refine lv_if_eq (tgt := 20) C.1 C.2.1 dX11_deck_7 (by decide) (fun _ => ?_) (fun h => absurd (by decide) h)
  refine lv_iconst (v := (-1)) C.1 C.2.1 dX11_deck_20 (by decide) ?_
  exact k_iret C hr hlocks hP hD hS rfl (fun _ => 0) [] rfl rfl rfl (Nat.le_of_ble_eq_true rfl) (Nat.le_of_ble_eq_true rfl) dX11_deck_21
set_option maxHeartbeats 4000000 in
set_option maxRecDepth 100000 in
theorem t_X12_deck (l : Launch) (D : va_G) (K : Nat → ClassId) (a0 : Nat) (s0 : List Value) (n0 : s0.length = 94) (e0_42 : s0[42]? = some (.int 0)) : uMet l yX12_deck cX12_deck 1 (some .int) (rmD 0 0 0) D K X0 [.ref a0] [(a0, .inr (11, s0))] (QI D K (fun (r : Int32) (u : Nat → Nat) => r = (-1)) (fun (u : Nat → Nat) => [])) 0 0 := by
  refine k_met RX12 ⟨rfl, by decide +kernel⟩ (Nat.le_of_ble_eq_true rfl) ?_
  intro p e s m below meth c A ls C hX hr hlocks hin hA hP hD hS hl
  have hl : lv_has ls 1 [(0, .ref a0)] := hl
  refine lv_aload_n C.1 C.2.1 dX12_deck_0 rfl (lv_at hl 0 rfl) ?_
  refine lv_iconst (v := 0) C.1 C.2.1 dX12_deck_1 (by decide) ?_
  refine k_put (ws' := [(a0, .inr (11, (s0.set 0 (.int 0))))]) (v := .int 0) C hP hD hS 0 rfl rfl inlX12 tyX12_ok nmX12 0 (by decide) m_9_18 rfl rfl rfl n0 rfl dX12_deck_2 (fun H locs hP hD hS => ?_)
  refine lv_aload_n C.1 C.2.1 dX12_deck_5 rfl (lv_at hl 0 rfl) ?_
  refine k_get (v := .int 0) C hP 0 rfl rfl inlX12 42 (by decide) m_29_16 (sn (by decide) e0_42) dX12_deck_6 ?_
  refine lv_if_eq (tgt := 19) C.1 C.2.1 dX12_deck_9 (by decide) (fun _ => ?_) (fun h => absurd (by decide) h)
  refine lv_iconst (v := (-1)) C.1 C.2.1 dX12_deck_19 (by decide) ?_
  exact k_iret C hr hlocks hP hD hS rfl (fun _ => 0) [] rfl rfl rfl (Nat.le_of_ble_eq_true rfl) (Nat.le_of_ble_eq_true rfl) dX12_deck_20
set_option maxHeartbeats 4000000 in
set_option maxRecDepth 100000 in
theorem t_X11_list (l : Launch) (D : va_G) (K : Nat → ClassId) (a0 : Nat) (a1 : Nat) (s0 : List Value) (n0 : s0.length = 8) (s1 : List Value) (n1 : s1.length = 20) (e0_5 : s0[5]? = some (.ref a1)) (e1_19 : s1[19]? = some (.int 0)) : uMet l yX11_list cX11_list 1 (some .int) (rmD 0 0 0) D K X0 [.ref a0] [(a0, .inr (10, s0)), (a1, .inr (0, s1))] (QI D K (fun (r : Int32) (u : Nat → Nat) => r = (-1)) (fun (u : Nat → Nat) => [])) 0 0 := by
  refine k_met RX11 ⟨rfl, by decide +kernel⟩ (Nat.le_of_ble_eq_true rfl) ?_
  intro p e s m below meth c A ls C hX hr hlocks hin hA hP hD hS hl
  have hl : lv_has ls 1 [(0, .ref a0)] := hl
  refine lv_aload_n C.1 C.2.1 dX11_list_0 rfl (lv_at hl 0 rfl) ?_
  refine k_get (v := .ref a1) C hP 0 rfl rfl inlX11 5 (by decide) m_2_10 e0_5 dX11_list_1 ?_
  refine k_get (v := .int 0) C hP 1 rfl rfl inlX0 19 (by decide) m_64_16 e1_19 dX11_list_4 ?_
  refine lv_if_eq (tgt := 23) C.1 C.2.1 dX11_list_7 (by decide) (fun _ => ?_) (fun h => absurd (by decide) h)
  refine lv_iconst (v := (-1)) C.1 C.2.1 dX11_list_23 (by decide) ?_
  exact k_iret C hr hlocks hP hD hS rfl (fun _ => 0) [] rfl rfl rfl (Nat.le_of_ble_eq_true rfl) (Nat.le_of_ble_eq_true rfl) dX11_list_24
set_option maxHeartbeats 4000000 in
set_option maxRecDepth 100000 in
theorem t_X12_list (l : Launch) (D : va_G) (K : Nat → ClassId) (a0 : Nat) (s0 : List Value) (n0 : s0.length = 94) (e0_42 : s0[42]? = some (.int 0)) : uMet l yX12_list cX12_list 1 (some .int) (rmD 0 0 0) D K X0 [.ref a0] [(a0, .inr (11, s0))] (QI D K (fun (r : Int32) (u : Nat → Nat) => r = (-1)) (fun (u : Nat → Nat) => [])) 0 0 := by
  refine k_met RX12 ⟨rfl, by decide +kernel⟩ (Nat.le_of_ble_eq_true rfl) ?_
  intro p e s m below meth c A ls C hX hr hlocks hin hA hP hD hS hl
  have hl : lv_has ls 1 [(0, .ref a0)] := hl
  refine lv_aload_n C.1 C.2.1 dX12_list_0 rfl (lv_at hl 0 rfl) ?_
  refine lv_iconst (v := 0) C.1 C.2.1 dX12_list_1 (by decide) ?_
  refine k_put (ws' := [(a0, .inr (11, (s0.set 0 (.int 0))))]) (v := .int 0) C hP hD hS 0 rfl rfl inlX12 tyX12_ok nmX12 0 (by decide) m_9_18 rfl rfl rfl n0 rfl dX12_list_2 (fun H locs hP hD hS => ?_)
  refine lv_aload_n C.1 C.2.1 dX12_list_5 rfl (lv_at hl 0 rfl) ?_
  refine k_get (v := .int 0) C hP 0 rfl rfl inlX12 42 (by decide) m_29_16 (sn (by decide) e0_42) dX12_list_6 ?_
  refine lv_if_eq (tgt := 19) C.1 C.2.1 dX12_list_9 (by decide) (fun _ => ?_) (fun h => absurd (by decide) h)
  refine lv_iconst (v := (-1)) C.1 C.2.1 dX12_list_19 (by decide) ?_
  exact k_iret C hr hlocks hP hD hS rfl (fun _ => 0) [] rfl rfl rfl (Nat.le_of_ble_eq_true rfl) (Nat.le_of_ble_eq_true rfl) dX12_list_20
set_option maxHeartbeats 4000000 in
set_option maxRecDepth 100000 in
theorem t_X11_listing (l : Launch) (D : va_G) (K : Nat → ClassId) (a0 : Nat) (a1 : Nat) (s0 : List Value) (n0 : s0.length = 8) (s1 : List Value) (n1 : s1.length = 20) (e0_5 : s0[5]? = some (.ref a1)) (e1_19 : s1[19]? = some (.int 0)) : uMet l yX11_listing cX11_listing 1 (some .int) (rmD 0 0 0) D K X0 [.ref a0] [(a0, .inr (10, s0)), (a1, .inr (0, s1))] (QI D K (fun (r : Int32) (u : Nat → Nat) => r = (-1)) (fun (u : Nat → Nat) => [])) 0 0 := by
  refine k_met RX11 ⟨rfl, by decide +kernel⟩ (Nat.le_of_ble_eq_true rfl) ?_
  intro p e s m below meth c A ls C hX hr hlocks hin hA hP hD hS hl
  have hl : lv_has ls 1 [(0, .ref a0)] := hl
  refine lv_aload_n C.1 C.2.1 dX11_listing_0 rfl (lv_at hl 0 rfl) ?_
  refine k_get (v := .ref a1) C hP 0 rfl rfl inlX11 5 (by decide) m_2_10 e0_5 dX11_listing_1 ?_
  refine k_get (v := .int 0) C hP 1 rfl rfl inlX0 19 (by decide) m_64_16 e1_19 dX11_listing_4 ?_
  refine lv_if_eq (tgt := 20) C.1 C.2.1 dX11_listing_7 (by decide) (fun _ => ?_) (fun h => absurd (by decide) h)
  refine lv_iconst (v := (-1)) C.1 C.2.1 dX11_listing_20 (by decide) ?_
  exact k_iret C hr hlocks hP hD hS rfl (fun _ => 0) [] rfl rfl rfl (Nat.le_of_ble_eq_true rfl) (Nat.le_of_ble_eq_true rfl) dX11_listing_21
set_option maxHeartbeats 4000000 in
set_option maxRecDepth 100000 in
theorem t_X12_listing (l : Launch) (D : va_G) (K : Nat → ClassId) (a0 : Nat) (s0 : List Value) (n0 : s0.length = 94) (e0_42 : s0[42]? = some (.int 0)) : uMet l yX12_listing cX12_listing 2 (some .int) (rmD 0 0 0) D K X0 [.ref a0] [(a0, .inr (11, s0))] (QI D K (fun (r : Int32) (u : Nat → Nat) => r = (-1)) (fun (u : Nat → Nat) => [])) 0 0 := by
  refine k_met RX12 ⟨rfl, by decide +kernel⟩ (Nat.le_of_ble_eq_true rfl) ?_
  intro p e s m below meth c A ls C hX hr hlocks hin hA hP hD hS hl
  have hl : lv_has ls 2 [(0, .ref a0)] := hl
  refine lv_aload_n C.1 C.2.1 dX12_listing_0 rfl (lv_at hl 0 rfl) ?_
  refine lv_iconst (v := 0) C.1 C.2.1 dX12_listing_1 (by decide) ?_
  refine k_put (ws' := [(a0, .inr (11, (s0.set 0 (.int 0))))]) (v := .int 0) C hP hD hS 0 rfl rfl inlX12 tyX12_ok nmX12 0 (by decide) m_9_18 rfl rfl rfl n0 rfl dX12_listing_2 (fun H locs hP hD hS => ?_)
  refine lv_aload_n C.1 C.2.1 dX12_listing_5 rfl (lv_at hl 0 rfl) ?_
  refine k_get (v := .int 0) C hP 0 rfl rfl inlX12 42 (by decide) m_29_16 (sn (by decide) e0_42) dX12_listing_6 ?_
  refine lv_if_ne (tgt := 14) C.1 C.2.1 dX12_listing_9 (by decide) (fun h => absurd h (by decide)) (fun _ => ?_)
  refine lv_iconst (v := (-1)) C.1 C.2.1 dX12_listing_12 (by decide) ?_
  exact k_iret C hr hlocks hP hD hS rfl (fun _ => 0) [] rfl rfl rfl (Nat.le_of_ble_eq_true rfl) (Nat.le_of_ble_eq_true rfl) dX12_listing_13
set_option maxHeartbeats 4000000 in
set_option maxRecDepth 100000 in
theorem t_X11_names (l : Launch) (D : va_G) (K : Nat → ClassId) (a0 : Nat) (a1 : Nat) (s0 : List Value) (n0 : s0.length = 8) (s1 : List Value) (n1 : s1.length = 20) (e0_5 : s0[5]? = some (.ref a1)) (e1_19 : s1[19]? = some (.int 0)) : uMet l yX11_names cX11_names 1 (some .int) (rmD 0 0 0) D K X0 [.ref a0] [(a0, .inr (10, s0)), (a1, .inr (0, s1))] (QI D K (fun (r : Int32) (u : Nat → Nat) => r = (-1)) (fun (u : Nat → Nat) => [])) 0 0 := by
  refine k_met RX11 ⟨rfl, by decide +kernel⟩ (Nat.le_of_ble_eq_true rfl) ?_
  intro p e s m below meth c A ls C hX hr hlocks hin hA hP hD hS hl
  have hl : lv_has ls 1 [(0, .ref a0)] := hl
  refine lv_aload_n C.1 C.2.1 dX11_names_0 rfl (lv_at hl 0 rfl) ?_
  refine k_get (v := .ref a1) C hP 0 rfl rfl inlX11 5 (by decide) m_2_10 e0_5 dX11_names_1 ?_
  refine k_get (v := .int 0) C hP 1 rfl rfl inlX0 19 (by decide) m_64_16 e1_19 dX11_names_4 ?_
  refine lv_if_eq (tgt := 24) C.1 C.2.1 dX11_names_7 (by decide) (fun _ => ?_) (fun h => absurd (by decide) h)
  refine lv_iconst (v := (-1)) C.1 C.2.1 dX11_names_24 (by decide) ?_
  exact k_iret C hr hlocks hP hD hS rfl (fun _ => 0) [] rfl rfl rfl (Nat.le_of_ble_eq_true rfl) (Nat.le_of_ble_eq_true rfl) dX11_names_25
set_option maxHeartbeats 4000000 in
set_option maxRecDepth 100000 in
theorem t_X12_names (l : Launch) (D : va_G) (K : Nat → ClassId) (a0 : Nat) (s0 : List Value) (n0 : s0.length = 94) (e0_42 : s0[42]? = some (.int 0)) : uMet l yX12_names cX12_names 1 (some .int) (rmD 0 0 0) D K X0 [.ref a0] [(a0, .inr (11, s0))] (QI D K (fun (r : Int32) (u : Nat → Nat) => r = (-1)) (fun (u : Nat → Nat) => [])) 0 0 := by
  refine k_met RX12 ⟨rfl, by decide +kernel⟩ (Nat.le_of_ble_eq_true rfl) ?_
  intro p e s m below meth c A ls C hX hr hlocks hin hA hP hD hS hl
  have hl : lv_has ls 1 [(0, .ref a0)] := hl
  refine lv_aload_n C.1 C.2.1 dX12_names_0 rfl (lv_at hl 0 rfl) ?_
  refine lv_iconst (v := 0) C.1 C.2.1 dX12_names_1 (by decide) ?_
  refine k_put (ws' := [(a0, .inr (11, (s0.set 0 (.int 0))))]) (v := .int 0) C hP hD hS 0 rfl rfl inlX12 tyX12_ok nmX12 0 (by decide) m_9_18 rfl rfl rfl n0 rfl dX12_names_2 (fun H locs hP hD hS => ?_)
  refine lv_aload_n C.1 C.2.1 dX12_names_5 rfl (lv_at hl 0 rfl) ?_
  refine k_get (v := .int 0) C hP 0 rfl rfl inlX12 42 (by decide) m_29_16 (sn (by decide) e0_42) dX12_names_6 ?_
  refine lv_if_eq (tgt := 21) C.1 C.2.1 dX12_names_9 (by decide) (fun _ => ?_) (fun h => absurd (by decide) h)
  refine lv_iconst (v := (-1)) C.1 C.2.1 dX12_names_21 (by decide) ?_
  exact k_iret C hr hlocks hP hD hS rfl (fun _ => 0) [] rfl rfl rfl (Nat.le_of_ble_eq_true rfl) (Nat.le_of_ble_eq_true rfl) dX12_names_22
set_option maxHeartbeats 4000000 in
set_option maxRecDepth 100000 in
theorem c_X11_advance_2 (l : Launch) (D : va_G) (K : Nat → ClassId) (a0 : Nat) (a1 : Nat) (s0 : List Value) (n0 : s0.length = 8) (s1 : List Value) (n1 : s1.length = 16) (x1 : Int32) (e0_4 : s0[4]? = some (.ref a1)) (e1_8 : s1[8]? = some (.int 9)) : uMet l yX11_advance cX11_advance 5 (some .int) (rmD 0 0 0) D K X0 [.ref a0, .int x1, .int 1] [(a0, .inr (10, s0)), (a1, .inr (1, s1))] (QI D K (fun (r : Int32) (u : Nat → Nat) => r = 0) (fun (u : Nat → Nat) => [(a0, .inr (10, s0)), (a1, .inr (1, s1))])) 0 0 := by
  refine k_met RX11 ⟨rfl, by decide +kernel⟩ (Nat.le_of_ble_eq_true rfl) ?_
  intro p e s m below meth c A ls C hX hr hlocks hin hA hP hD hS hl
  have hl : lv_has ls 5 [(0, .ref a0), (1, .int x1), (2, .int 1)] := hl
  refine lv_iconst (v := 0) C.1 C.2.1 dX11_advance_0 (by decide) ?_
  refine lv_istore_n (lv' := [(3, .int 0), (0, .ref a0), (1, .int x1), (2, .int 1)]) C.1 C.2.1 dX11_advance_1 rfl hl (by decide) rfl (fun ls hl => ?_)
  refine lv_iconst (v := 0) C.1 C.2.1 dX11_advance_2 (by decide) ?_
  refine lv_istore (lv' := [(4, .int 0), (3, .int 0), (0, .ref a0), (1, .int x1), (2, .int 1)]) C.1 C.2.1 dX11_advance_3 hl (by decide) rfl (fun ls hl => ?_)
  refine lv_iload C.1 C.2.1 dX11_advance_5 (lv_at hl 0 rfl) ?_
  refine lv_iconst (v := 2) C.1 C.2.1 dX11_advance_7 (by decide) ?_
  refine lv_iload_n C.1 C.2.1 dX11_advance_8 rfl (lv_at hl 3 rfl) ?_
  refine k_imul (v := (2 * x1)) C rfl dX11_advance_9 ?_
  refine lv_icmp_ge (tgt := 58) C.1 C.2.1 dX11_advance_10 (by decide) (fun c_1 => ?_) (fun c_1 => ?_)
  · refine lv_iload_n C.1 C.2.1 dX11_advance_58 rfl (lv_at hl 1 rfl) ?_
    exact k_iret C hr hlocks hP hD hS rfl (fun _ => 0) [0, 1] rfl rfl rfl (Nat.le_of_ble_eq_true rfl) (Nat.le_of_ble_eq_true rfl) dX11_advance_59
  · refine lv_iload_n C.1 C.2.1 dX11_advance_13 rfl (lv_at hl 1 rfl) ?_
    refine lv_iload_n C.1 C.2.1 dX11_advance_14 rfl (lv_at hl 3 rfl) ?_
    refine lv_icmp_ge (tgt := 58) C.1 C.2.1 dX11_advance_15 (by decide) (fun c_2 => ?_) (fun c_2 => ?_)
    · refine lv_iload_n C.1 C.2.1 dX11_advance_58 rfl (lv_at hl 1 rfl) ?_
      exact k_iret C hr hlocks hP hD hS rfl (fun _ => 0) [0, 1] rfl rfl rfl (Nat.le_of_ble_eq_true rfl) (Nat.le_of_ble_eq_true rfl) dX11_advance_59
    · refine lv_aload_n C.1 C.2.1 dX11_advance_18 rfl (lv_at hl 2 rfl) ?_
      refine k_get (v := .ref a1) C hP 0 rfl rfl inlX11 4 (by decide) m_2_9 e0_4 dX11_advance_19 ?_
      refine k_get (v := .int 9) C hP 1 rfl rfl inlX2 8 (by decide) m_45_11 e1_8 dX11_advance_22 ?_
      refine lv_if_ne (tgt := 58) C.1 C.2.1 dX11_advance_25 (by decide) (fun _ => ?_) (fun h => absurd h (by decide))
      refine lv_iload_n C.1 C.2.1 dX11_advance_58 rfl (lv_at hl 1 rfl) ?_
      exact k_iret C hr hlocks hP hD hS rfl (fun _ => 0) [0, 1] rfl rfl rfl (Nat.le_of_ble_eq_true rfl) (Nat.le_of_ble_eq_true rfl) dX11_advance_59
set_option maxHeartbeats 4000000 in
set_option maxRecDepth 100000 in
theorem t_X11_trace (l : Launch) (D : va_G) (K : Nat → ClassId) (a0 : Nat) (a1 : Nat) (s0 : List Value) (n0 : s0.length = 8) (s1 : List Value) (n1 : s1.length = 16) (x1 : Int32) (e0_4 : s0[4]? = some (.ref a1)) (e1_8 : s1[8]? = some (.int 9)) : uMet l yX11_trace cX11_trace 2 (some .int) (rmD 1 0 0) D K X0 [.ref a0, .int x1] [(a0, .inr (10, s0)), (a1, .inr (1, s1))] (QI D K (fun (r : Int32) (u : Nat → Nat) => r = 0) (fun (u : Nat → Nat) => [])) 0 0 := by
  refine k_met RX11 ⟨rfl, by decide +kernel⟩ (Nat.le_of_ble_eq_true rfl) ?_
  intro p e s m below meth c A ls C hX hr hlocks hin hA hP hD hS hl
  have hl : lv_has ls 2 [(0, .ref a0), (1, .int x1)] := hl
  refine lv_iload_n C.1 C.2.1 dX11_trace_0 rfl (lv_at hl 1 rfl) ?_
  refine lv_if_lt (tgt := 11) C.1 C.2.1 dX11_trace_1 (by decide) (fun c_1 => ?_) (fun c_1 => ?_)
  · refine lv_iconst (v := 0) C.1 C.2.1 dX11_trace_11 (by decide) ?_
    refine lv_goto (tgt := 21) C.1 C.2.1 dX11_trace_12 (by decide) ?_
    exact k_iret C hr hlocks hP hD hS rfl (fun _ => 0) [] rfl rfl rfl (Nat.le_of_ble_eq_true rfl) (Nat.le_of_ble_eq_true rfl) dX11_trace_21
  · refine lv_iload_n C.1 C.2.1 dX11_trace_4 rfl (lv_at hl 1 rfl) ?_
    refine lv_sipush (v := 300) C.1 C.2.1 dX11_trace_5 (by decide) ?_
    refine lv_icmp_le (tgt := 15) C.1 C.2.1 dX11_trace_8 (by decide) (fun c_2 => ?_) (fun c_2 => ?_)
    · refine lv_aload_n C.1 C.2.1 dX11_trace_15 rfl (lv_at hl 0 rfl) ?_
      refine lv_iload_n C.1 C.2.1 dX11_trace_16 rfl (lv_at hl 1 rfl) ?_
      refine lv_iconst (v := 1) C.1 C.2.1 dX11_trace_17 (by decide) ?_
      refine k_Vi (As := [.int x1, .int 1]) (rest := []) C hP hD hS hA (c_X11_advance_2 l D K a0 a1 s0 n0 s1 n1 x1 e0_4 e1_8) X0_ok trivial (uwV m_45_7 m_45_8 m_45_9 m_1_2 m_45_10) (hdV 2 (by decide +kernel) rfl) ⟨Nat.le_of_ble_eq_true rfl, Nat.le_of_ble_eq_true rfl⟩ rfl rfl (ci := 10) rfl rfl (isC := [0, 1]) (isR := []) (wr := []) ⟨rfl, rfl, rfl, rfl, by decide⟩ rfl hl.1 (Nat.le_of_ble_eq_true rfl) dX11_trace_18 ⟨Nat.le_of_ble_eq_true rfl, Nat.le_of_ble_eq_true rfl⟩ (fun r_4 u_3 H locs hw hP hD hS => ?_)
      obtain rfl := hw
      have hP : va_P D vwCl [(a0, .inr (10, s0)), (a1, .inr (1, s1))] H := hP
      have hD : va_D A [(a0, .inr (10, s0)), (a1, .inr (1, s1))] := hD
      exact k_iret C hr hlocks hP hD hS rfl (fun _ => 0) [] rfl rfl rfl (Nat.le_of_ble_eq_true rfl) (Nat.le_of_ble_eq_true rfl) dX11_trace_21
    · refine lv_iconst (v := 0) C.1 C.2.1 dX11_trace_11 (by decide) ?_
      refine lv_goto (tgt := 21) C.1 C.2.1 dX11_trace_12 (by decide) ?_
      exact k_iret C hr hlocks hP hD hS rfl (fun _ => 0) [] rfl rfl rfl (Nat.le_of_ble_eq_true rfl) (Nat.le_of_ble_eq_true rfl) dX11_trace_21
set_option maxHeartbeats 4000000 in
set_option maxRecDepth 100000 in
theorem t_X12_trace (l : Launch) (D : va_G) (K : Nat → ClassId) (a0 : Nat) (s0 : List Value) (n0 : s0.length = 94) (x1 : Int32) (e0_9 : s0[9]? = some (.int 9)) : uMet l yX12_trace cX12_trace 3 (some .int) (rmD 1 0 0) D K X0 [.ref a0, .int x1] [(a0, .inr (11, s0))] (QI D K (fun (r : Int32) (u : Nat → Nat) => r = 0) (fun (u : Nat → Nat) => [])) 0 0 := by
  refine k_met RX12 ⟨rfl, by decide +kernel⟩ (Nat.le_of_ble_eq_true rfl) ?_
  intro p e s m below meth c A ls C hX hr hlocks hin hA hP hD hS hl
  have hl : lv_has ls 3 [(0, .ref a0), (1, .int x1)] := hl
  refine lv_aload_n C.1 C.2.1 dX12_trace_0 rfl (lv_at hl 0 rfl) ?_
  refine lv_iconst (v := 0) C.1 C.2.1 dX12_trace_1 (by decide) ?_
  refine k_put (ws' := [(a0, .inr (11, (s0.set 0 (.int 0))))]) (v := .int 0) C hP hD hS 0 rfl rfl inlX12 tyX12_ok nmX12 0 (by decide) m_9_18 rfl rfl rfl n0 rfl dX12_trace_2 (fun H locs hP hD hS => ?_)
  refine lv_iload_n C.1 C.2.1 dX12_trace_5 rfl (lv_at hl 1 rfl) ?_
  refine lv_if_lt (tgt := 16) C.1 C.2.1 dX12_trace_6 (by decide) (fun c_1 => ?_) (fun c_1 => ?_)
  · refine lv_iconst (v := 0) C.1 C.2.1 dX12_trace_16 (by decide) ?_
    exact k_iret C hr hlocks hP hD hS rfl (fun _ => 0) [] rfl rfl rfl (Nat.le_of_ble_eq_true rfl) (Nat.le_of_ble_eq_true rfl) dX12_trace_17
  · refine lv_iload_n C.1 C.2.1 dX12_trace_9 rfl (lv_at hl 1 rfl) ?_
    refine lv_sipush (v := 300) C.1 C.2.1 dX12_trace_10 (by decide) ?_
    refine lv_icmp_le (tgt := 18) C.1 C.2.1 dX12_trace_13 (by decide) (fun c_2 => ?_) (fun c_2 => ?_)
    · refine lv_aload_n C.1 C.2.1 dX12_trace_18 rfl (lv_at hl 0 rfl) ?_
      refine lv_iload_n C.1 C.2.1 dX12_trace_19 rfl (lv_at hl 1 rfl) ?_
      refine k_put (ws' := [(a0, .inr (11, ((s0.set 0 (.int 0)).set 91 (.int x1))))]) (v := .int x1) C hP hD hS 0 rfl rfl inlX12 tyX12_ok nmX12 91 (by decide) m_30_3 rfl rfl rfl (sl n0) rfl dX12_trace_20 (fun H locs hP hD hS => ?_)
      refine lv_aload_n C.1 C.2.1 dX12_trace_23 rfl (lv_at hl 0 rfl) ?_
      refine lv_iload_n C.1 C.2.1 dX12_trace_24 rfl (lv_at hl 1 rfl) ?_
      refine k_Vi (As := [.int x1]) (rest := []) C hP hD hS hA (c_X12_goOn l D K a0 (((s0.set 0 (.int 0)).set 91 (.int x1))) (sl (sl n0)) x1 (sn (by decide) (sn (by decide) e0_9))) X0_ok trivial (uwV m_56_10 m_56_11 m_56_12 m_1_5 m_56_13) (hdV 1 (by decide +kernel) rfl) ⟨Nat.le_of_ble_eq_true rfl, Nat.le_of_ble_eq_true rfl⟩ rfl rfl (ci := 11) rfl rfl (isC := [0]) (isR := []) (wr := []) ⟨rfl, rfl, rfl, rfl, by decide⟩ rfl hl.1 (Nat.le_of_ble_eq_true rfl) dX12_trace_25 ⟨Nat.le_of_ble_eq_true rfl, Nat.le_of_ble_eq_true rfl⟩ (fun r_4 u_3 H locs hw hP hD hS => ?_)
      obtain rfl := hw
      have hP : va_P D vwCl [(a0, .inr (11, ((s0.set 0 (.int 0)).set 91 (.int x1))))] H := hP
      have hD : va_D A [(a0, .inr (11, ((s0.set 0 (.int 0)).set 91 (.int x1))))] := hD
      refine lv_istore_n (lv' := [(2, .int 0), (0, .ref a0), (1, .int x1)]) C.1 C.2.1 dX12_trace_28 rfl hl (by decide) rfl (fun ls hl => ?_)
      refine lv_aload_n C.1 C.2.1 dX12_trace_29 rfl (lv_at hl 1 rfl) ?_
      refine lv_iconst (v := 0) C.1 C.2.1 dX12_trace_30 (by decide) ?_
      refine k_put (ws' := [(a0, .inr (11, (((s0.set 0 (.int 0)).set 91 (.int x1)).set 91 (.int 0))))]) (v := .int 0) C hP hD hS 0 rfl rfl inlX12 tyX12_ok nmX12 91 (by decide) m_30_3 rfl rfl rfl (sl (sl n0)) rfl dX12_trace_31 (fun H locs hP hD hS => ?_)
      refine lv_iload_n C.1 C.2.1 dX12_trace_34 rfl (lv_at hl 0 rfl) ?_
      exact k_iret C hr hlocks hP hD hS rfl (fun _ => 0) [] rfl rfl rfl (Nat.le_of_ble_eq_true rfl) (Nat.le_of_ble_eq_true rfl) dX12_trace_35
    · refine lv_iconst (v := 0) C.1 C.2.1 dX12_trace_16 (by decide) ?_
      exact k_iret C hr hlocks hP hD hS rfl (fun _ => 0) [] rfl rfl rfl (Nat.le_of_ble_eq_true rfl) (Nat.le_of_ble_eq_true rfl) dX12_trace_17
set_option maxHeartbeats 4000000 in
set_option maxRecDepth 100000 in
theorem t_X11_mount (l : Launch) (D : va_G) (K : Nat → ClassId) (a0 : Nat) (s0 : List Value) (n0 : s0.length = 8) (x1 : Int32) (x2 : Int32) (e0_1 : s0[1]? = some (.int 0)) : uMet l yX11_mount cX11_mount 7 (some .int) (rmD 1 0 0) D K X0 [.ref a0, .int x1, .int x2] [(a0, .inr (10, s0))] (QI D K (fun (r : Int32) (u : Nat → Nat) => ((x1 < 0) ∧ r = (-1)) ∨ ((¬ x1 < 0) ∧ (16 ≤ x1) ∧ r = (-1)) ∨ ((¬ x1 < 0) ∧ (¬ 16 ≤ x1) ∧ (x2 < 0) ∧ r = (-1)) ∨ ((¬ x1 < 0) ∧ (¬ 16 ≤ x1) ∧ (¬ x2 < 0) ∧ (64 ≤ x2) ∧ r = (-1)) ∨ ((¬ x1 < 0) ∧ (¬ 16 ≤ x1) ∧ (¬ x2 < 0) ∧ (¬ 64 ≤ x2) ∧ r = 0)) (fun (u : Nat → Nat) => [])) 0 0 := by
  refine k_met RX11 ⟨rfl, by decide +kernel⟩ (Nat.le_of_ble_eq_true rfl) ?_
  intro p e s m below meth c A ls C hX hr hlocks hin hA hP hD hS hl
  have hl : lv_has ls 7 [(0, .ref a0), (1, .int x1), (2, .int x2)] := hl
  refine lv_aload_n C.1 C.2.1 dX11_mount_0 rfl (lv_at hl 0 rfl) ?_
  refine k_Vi (As := []) (rest := []) C hP hD hS hA (c_X11_useUpTape l D K a0 s0 n0 e0_1) X0_ok trivial (uwV m_10_20 m_10_21 m_10_22 m_1_2 m_10_23) (hdV 0 (by decide +kernel) rfl) ⟨Nat.le_of_ble_eq_true rfl, Nat.le_of_ble_eq_true rfl⟩ rfl rfl (ci := 10) rfl rfl (isC := [0]) (isR := []) (wr := []) ⟨rfl, rfl, rfl, rfl, by decide⟩ rfl hl.1 (Nat.le_of_ble_eq_true rfl) dX11_mount_1 ⟨Nat.le_of_ble_eq_true rfl, Nat.le_of_ble_eq_true rfl⟩ (fun r_2 u_1 H locs hw hP hD hS => ?_)
  obtain rfl := hw
  have hP : va_P D vwCl [(a0, .inr (10, (s0.set 1 (.int 0))))] H := hP
  have hD : va_D A [(a0, .inr (10, (s0.set 1 (.int 0))))] := hD
  refine lv_istore_n (lv' := [(3, .int 0), (0, .ref a0), (1, .int x1), (2, .int x2)]) C.1 C.2.1 dX11_mount_4 rfl hl (by decide) rfl (fun ls hl => ?_)
  refine lv_iload_n C.1 C.2.1 dX11_mount_5 rfl (lv_at hl 0 rfl) ?_
  refine lv_iconst (v := 4) C.1 C.2.1 dX11_mount_6 (by decide) ?_
  refine k_iadd (v := 4) C (by decide) dX11_mount_7 ?_
  refine lv_iconst (v := 5) C.1 C.2.1 dX11_mount_8 (by decide) ?_
  refine k_idiv (v := 0) C (by decide) (by decide) dX11_mount_9 ?_
  refine lv_istore (lv' := [(4, .int 0), (3, .int 0), (0, .ref a0), (1, .int x1), (2, .int x2)]) C.1 C.2.1 dX11_mount_10 hl (by decide) rfl (fun ls hl => ?_)
  refine lv_iload C.1 C.2.1 dX11_mount_12 (lv_at hl 0 rfl) ?_
  refine lv_bipush (v := 100) C.1 C.2.1 dX11_mount_14 (by decide) ?_
  refine k_iadd (v := 100) C (by decide) dX11_mount_16 ?_
  refine lv_iconst (v := 1) C.1 C.2.1 dX11_mount_17 (by decide) ?_
  refine k_isub (v := 99) C (by decide) dX11_mount_18 ?_
  refine lv_bipush (v := 100) C.1 C.2.1 dX11_mount_19 (by decide) ?_
  refine k_idiv (v := 0) C (by decide) (by decide) dX11_mount_21 ?_
  refine lv_istore (lv' := [(5, .int 0), (4, .int 0), (3, .int 0), (0, .ref a0), (1, .int x1), (2, .int x2)]) C.1 C.2.1 dX11_mount_22 hl (by decide) rfl (fun ls hl => ?_)
  refine lv_iload_n C.1 C.2.1 dX11_mount_24 rfl (lv_at hl 4 rfl) ?_
  refine lv_if_lt (tgt := 53) C.1 C.2.1 dX11_mount_25 (by decide) (fun c_3 => ?_) (fun c_3 => ?_)
  · refine lv_iconst (v := (-1)) C.1 C.2.1 dX11_mount_53 (by decide) ?_
    exact k_iret C hr hlocks hP hD hS rfl (fun _ => 0) [] rfl rfl (Or.inl ⟨c_3, rfl⟩) (Nat.le_of_ble_eq_true rfl) (Nat.le_of_ble_eq_true rfl) dX11_mount_54
  · refine lv_iload_n C.1 C.2.1 dX11_mount_28 rfl (lv_at hl 4 rfl) ?_
    refine lv_bipush (v := 16) C.1 C.2.1 dX11_mount_29 (by decide) ?_
    refine lv_icmp_ge (tgt := 53) C.1 C.2.1 dX11_mount_31 (by decide) (fun c_4 => ?_) (fun c_4 => ?_)
    · refine lv_iconst (v := (-1)) C.1 C.2.1 dX11_mount_53 (by decide) ?_
      exact k_iret C hr hlocks hP hD hS rfl (fun _ => 0) [] rfl rfl (Or.inr (Or.inl ⟨c_3, c_4, rfl⟩)) (Nat.le_of_ble_eq_true rfl) (Nat.le_of_ble_eq_true rfl) dX11_mount_54
    · refine lv_iload_n C.1 C.2.1 dX11_mount_34 rfl (lv_at hl 5 rfl) ?_
      refine lv_if_lt (tgt := 53) C.1 C.2.1 dX11_mount_35 (by decide) (fun c_5 => ?_) (fun c_5 => ?_)
      · refine lv_iconst (v := (-1)) C.1 C.2.1 dX11_mount_53 (by decide) ?_
        exact k_iret C hr hlocks hP hD hS rfl (fun _ => 0) [] rfl rfl (Or.inr (Or.inr (Or.inl ⟨c_3, c_4, c_5, rfl⟩))) (Nat.le_of_ble_eq_true rfl) (Nat.le_of_ble_eq_true rfl) dX11_mount_54
      · refine lv_iload_n C.1 C.2.1 dX11_mount_38 rfl (lv_at hl 5 rfl) ?_
        refine lv_bipush (v := 64) C.1 C.2.1 dX11_mount_39 (by decide) ?_
        refine lv_icmp_ge (tgt := 53) C.1 C.2.1 dX11_mount_41 (by decide) (fun c_6 => ?_) (fun c_6 => ?_)
        · refine lv_iconst (v := (-1)) C.1 C.2.1 dX11_mount_53 (by decide) ?_
          exact k_iret C hr hlocks hP hD hS rfl (fun _ => 0) [] rfl rfl (Or.inr (Or.inr (Or.inr (Or.inl ⟨c_3, c_4, c_5, c_6, rfl⟩)))) (Nat.le_of_ble_eq_true rfl) (Nat.le_of_ble_eq_true rfl) dX11_mount_54
        · refine lv_iload_n C.1 C.2.1 dX11_mount_44 rfl (lv_at hl 5 rfl) ?_
          refine lv_iload C.1 C.2.1 dX11_mount_45 (lv_at hl 0 rfl) ?_
          refine k_iadd (v := (x2 + 0)) C rfl dX11_mount_47 ?_
          refine lv_bipush (v := 64) C.1 C.2.1 dX11_mount_48 (by decide) ?_
          refine lv_icmp_le (tgt := 55) C.1 C.2.1 dX11_mount_50 (by decide) (fun _ => ?_) (fun h => absurd (by simp only [Int32.lt_iff_toInt_lt, Int32.le_iff_toInt_le, ← Int32.toInt_inj] at c_3 c_4 c_5 c_6 ⊢; have k0 : (0 : Int32).toInt = 0 := (by decide); have k1 : (16 : Int32).toInt = 16 := (by decide); have k2 : (64 : Int32).toInt = 64 := (by decide); have k3 := ti_iadd (x := x2) (y := 0) (by omega) (by omega); omega) h)
          refine lv_iconst (v := 0) C.1 C.2.1 dX11_mount_55 (by decide) ?_
          refine lv_istore (lv' := [(6, .int 0), (5, .int 0), (4, .int 0), (3, .int 0), (0, .ref a0), (1, .int x1), (2, .int x2)]) C.1 C.2.1 dX11_mount_56 hl (by decide) rfl (fun ls hl => ?_)
          refine lv_iload C.1 C.2.1 dX11_mount_58 (lv_at hl 0 rfl) ?_
          refine lv_iload C.1 C.2.1 dX11_mount_60 (lv_at hl 1 rfl) ?_
          refine lv_bipush (v := 100) C.1 C.2.1 dX11_mount_62 (by decide) ?_
          refine k_imul (v := 0) C (by decide) dX11_mount_64 ?_
          refine lv_icmp_ge (tgt := 98) C.1 C.2.1 dX11_mount_65 (by decide) (fun _ => ?_) (fun h => absurd (by decide) h)
          refine lv_iload C.1 C.2.1 dX11_mount_98 (lv_at hl 1 rfl) ?_
          exact k_iret C hr hlocks hP hD hS rfl (fun _ => 0) [] rfl rfl (Or.inr (Or.inr (Or.inr (Or.inr ⟨c_3, c_4, c_5, c_6, rfl⟩)))) (Nat.le_of_ble_eq_true rfl) (Nat.le_of_ble_eq_true rfl) dX11_mount_100
set_option maxHeartbeats 4000000 in
set_option maxRecDepth 100000 in
theorem t_X12_mount (l : Launch) (D : va_G) (K : Nat → ClassId) (a0 : Nat) (s0 : List Value) (n0 : s0.length = 94) (x1 : Int32) (x2 : Int32) (e0_2 : s0[2]? = some (.int 0)) : uMet l yX12_mount cX12_mount 10 (some .int) (rmD 0 0 0) D K X0 [.ref a0, .int x1, .int x2] [(a0, .inr (11, s0))] (QI D K (fun (r : Int32) (u : Nat → Nat) => ((x1 < 0) ∧ r = (-1)) ∨ ((¬ x1 < 0) ∧ (16 ≤ x1) ∧ r = (-1)) ∨ ((¬ x1 < 0) ∧ (¬ 16 ≤ x1) ∧ (x2 < 0) ∧ r = (-1)) ∨ ((¬ x1 < 0) ∧ (¬ 16 ≤ x1) ∧ (¬ x2 < 0) ∧ (64 ≤ x2) ∧ r = (-1)) ∨ ((¬ x1 < 0) ∧ (¬ 16 ≤ x1) ∧ (¬ x2 < 0) ∧ (¬ 64 ≤ x2) ∧ r = 0)) (fun (u : Nat → Nat) => [])) 0 0 := by
  refine k_met RX12 ⟨rfl, by decide +kernel⟩ (Nat.le_of_ble_eq_true rfl) ?_
  intro p e s m below meth c A ls C hX hr hlocks hin hA hP hD hS hl
  have hl : lv_has ls 10 [(0, .ref a0), (1, .int x1), (2, .int x2)] := hl
  refine lv_aload_n C.1 C.2.1 dX12_mount_0 rfl (lv_at hl 0 rfl) ?_
  refine lv_iconst (v := 0) C.1 C.2.1 dX12_mount_1 (by decide) ?_
  refine k_put (ws' := [(a0, .inr (11, (s0.set 0 (.int 0))))]) (v := .int 0) C hP hD hS 0 rfl rfl inlX12 tyX12_ok nmX12 0 (by decide) m_9_18 rfl rfl rfl n0 rfl dX12_mount_2 (fun H locs hP hD hS => ?_)
  refine lv_aload_n C.1 C.2.1 dX12_mount_5 rfl (lv_at hl 0 rfl) ?_
  refine k_get (v := .int 0) C hP 0 rfl rfl inlX12 2 (by decide) m_9_19 (sn (by decide) e0_2) dX12_mount_6 ?_
  refine lv_iconst (v := 4) C.1 C.2.1 dX12_mount_9 (by decide) ?_
  refine k_iadd (v := 4) C (by decide) dX12_mount_10 ?_
  refine lv_iconst (v := 5) C.1 C.2.1 dX12_mount_11 (by decide) ?_
  refine k_idiv (v := 0) C (by decide) (by decide) dX12_mount_12 ?_
  refine lv_istore_n (lv' := [(3, .int 0), (0, .ref a0), (1, .int x1), (2, .int x2)]) C.1 C.2.1 dX12_mount_13 rfl hl (by decide) rfl (fun ls hl => ?_)
  refine lv_iload_n C.1 C.2.1 dX12_mount_14 rfl (lv_at hl 0 rfl) ?_
  refine lv_bipush (v := 99) C.1 C.2.1 dX12_mount_15 (by decide) ?_
  refine k_iadd (v := 99) C (by decide) dX12_mount_17 ?_
  refine lv_bipush (v := 100) C.1 C.2.1 dX12_mount_18 (by decide) ?_
  refine k_idiv (v := 0) C (by decide) (by decide) dX12_mount_20 ?_
  refine lv_istore (lv' := [(4, .int 0), (3, .int 0), (0, .ref a0), (1, .int x1), (2, .int x2)]) C.1 C.2.1 dX12_mount_21 hl (by decide) rfl (fun ls hl => ?_)
  refine lv_iload_n C.1 C.2.1 dX12_mount_23 rfl (lv_at hl 3 rfl) ?_
  refine lv_if_lt (tgt := 47) C.1 C.2.1 dX12_mount_24 (by decide) (fun c_1 => ?_) (fun c_1 => ?_)
  · refine lv_iconst (v := 0) C.1 C.2.1 dX12_mount_47 (by decide) ?_
    refine lv_istore (lv' := [(5, .int 0), (4, .int 0), (3, .int 0), (0, .ref a0), (1, .int x1), (2, .int x2)]) C.1 C.2.1 dX12_mount_48 hl (by decide) rfl (fun ls hl => ?_)
    refine lv_aload_n C.1 C.2.1 dX12_mount_50 rfl (lv_at hl 3 rfl) ?_
    refine k_get (v := .int 0) C hP 0 rfl rfl inlX12 2 (by decide) m_9_19 (sn (by decide) e0_2) dX12_mount_51 ?_
    refine lv_istore (lv' := [(6, .int 0), (5, .int 0), (4, .int 0), (3, .int 0), (0, .ref a0), (1, .int x1), (2, .int x2)]) C.1 C.2.1 dX12_mount_54 hl (by decide) rfl (fun ls hl => ?_)
    refine lv_aload_n C.1 C.2.1 dX12_mount_56 rfl (lv_at hl 4 rfl) ?_
    refine lv_iconst (v := 0) C.1 C.2.1 dX12_mount_57 (by decide) ?_
    refine k_put (ws' := [(a0, .inr (11, ((s0.set 0 (.int 0)).set 2 (.int 0))))]) (v := .int 0) C hP hD hS 0 rfl rfl inlX12 tyX12_ok nmX12 2 (by decide) m_9_19 rfl rfl rfl (sl n0) rfl dX12_mount_58 (fun H locs hP hD hS => ?_)
    refine lv_iload C.1 C.2.1 dX12_mount_61 (lv_at hl 1 rfl) ?_
    refine lv_if_eq (tgt := 75) C.1 C.2.1 dX12_mount_63 (by decide) (fun _ => ?_) (fun h => absurd (by decide) h)
    refine lv_iconst (v := (-1)) C.1 C.2.1 dX12_mount_75 (by decide) ?_
    exact k_iret C hr hlocks hP hD hS rfl (fun _ => 0) [] rfl rfl (Or.inl ⟨c_1, rfl⟩) (Nat.le_of_ble_eq_true rfl) (Nat.le_of_ble_eq_true rfl) dX12_mount_76
  · refine lv_iload_n C.1 C.2.1 dX12_mount_27 rfl (lv_at hl 3 rfl) ?_
    refine lv_bipush (v := 16) C.1 C.2.1 dX12_mount_28 (by decide) ?_
    refine lv_icmp_ge (tgt := 47) C.1 C.2.1 dX12_mount_30 (by decide) (fun c_2 => ?_) (fun c_2 => ?_)
    · refine lv_iconst (v := 0) C.1 C.2.1 dX12_mount_47 (by decide) ?_
      refine lv_istore (lv' := [(5, .int 0), (4, .int 0), (3, .int 0), (0, .ref a0), (1, .int x1), (2, .int x2)]) C.1 C.2.1 dX12_mount_48 hl (by decide) rfl (fun ls hl => ?_)
      refine lv_aload_n C.1 C.2.1 dX12_mount_50 rfl (lv_at hl 3 rfl) ?_
      refine k_get (v := .int 0) C hP 0 rfl rfl inlX12 2 (by decide) m_9_19 (sn (by decide) e0_2) dX12_mount_51 ?_
      refine lv_istore (lv' := [(6, .int 0), (5, .int 0), (4, .int 0), (3, .int 0), (0, .ref a0), (1, .int x1), (2, .int x2)]) C.1 C.2.1 dX12_mount_54 hl (by decide) rfl (fun ls hl => ?_)
      refine lv_aload_n C.1 C.2.1 dX12_mount_56 rfl (lv_at hl 4 rfl) ?_
      refine lv_iconst (v := 0) C.1 C.2.1 dX12_mount_57 (by decide) ?_
      refine k_put (ws' := [(a0, .inr (11, ((s0.set 0 (.int 0)).set 2 (.int 0))))]) (v := .int 0) C hP hD hS 0 rfl rfl inlX12 tyX12_ok nmX12 2 (by decide) m_9_19 rfl rfl rfl (sl n0) rfl dX12_mount_58 (fun H locs hP hD hS => ?_)
      refine lv_iload C.1 C.2.1 dX12_mount_61 (lv_at hl 1 rfl) ?_
      refine lv_if_eq (tgt := 75) C.1 C.2.1 dX12_mount_63 (by decide) (fun _ => ?_) (fun h => absurd (by decide) h)
      refine lv_iconst (v := (-1)) C.1 C.2.1 dX12_mount_75 (by decide) ?_
      exact k_iret C hr hlocks hP hD hS rfl (fun _ => 0) [] rfl rfl (Or.inr (Or.inl ⟨c_1, c_2, rfl⟩)) (Nat.le_of_ble_eq_true rfl) (Nat.le_of_ble_eq_true rfl) dX12_mount_76
    · refine lv_iload_n C.1 C.2.1 dX12_mount_33 rfl (lv_at hl 4 rfl) ?_
      refine lv_if_lt (tgt := 47) C.1 C.2.1 dX12_mount_34 (by decide) (fun c_3 => ?_) (fun c_3 => ?_)
      · refine lv_iconst (v := 0) C.1 C.2.1 dX12_mount_47 (by decide) ?_
        refine lv_istore (lv' := [(5, .int 0), (4, .int 0), (3, .int 0), (0, .ref a0), (1, .int x1), (2, .int x2)]) C.1 C.2.1 dX12_mount_48 hl (by decide) rfl (fun ls hl => ?_)
        refine lv_aload_n C.1 C.2.1 dX12_mount_50 rfl (lv_at hl 3 rfl) ?_
        refine k_get (v := .int 0) C hP 0 rfl rfl inlX12 2 (by decide) m_9_19 (sn (by decide) e0_2) dX12_mount_51 ?_
        refine lv_istore (lv' := [(6, .int 0), (5, .int 0), (4, .int 0), (3, .int 0), (0, .ref a0), (1, .int x1), (2, .int x2)]) C.1 C.2.1 dX12_mount_54 hl (by decide) rfl (fun ls hl => ?_)
        refine lv_aload_n C.1 C.2.1 dX12_mount_56 rfl (lv_at hl 4 rfl) ?_
        refine lv_iconst (v := 0) C.1 C.2.1 dX12_mount_57 (by decide) ?_
        refine k_put (ws' := [(a0, .inr (11, ((s0.set 0 (.int 0)).set 2 (.int 0))))]) (v := .int 0) C hP hD hS 0 rfl rfl inlX12 tyX12_ok nmX12 2 (by decide) m_9_19 rfl rfl rfl (sl n0) rfl dX12_mount_58 (fun H locs hP hD hS => ?_)
        refine lv_iload C.1 C.2.1 dX12_mount_61 (lv_at hl 1 rfl) ?_
        refine lv_if_eq (tgt := 75) C.1 C.2.1 dX12_mount_63 (by decide) (fun _ => ?_) (fun h => absurd (by decide) h)
        refine lv_iconst (v := (-1)) C.1 C.2.1 dX12_mount_75 (by decide) ?_
        exact k_iret C hr hlocks hP hD hS rfl (fun _ => 0) [] rfl rfl (Or.inr (Or.inr (Or.inl ⟨c_1, c_2, c_3, rfl⟩))) (Nat.le_of_ble_eq_true rfl) (Nat.le_of_ble_eq_true rfl) dX12_mount_76
      · refine lv_iload_n C.1 C.2.1 dX12_mount_37 rfl (lv_at hl 4 rfl) ?_
        refine lv_bipush (v := 64) C.1 C.2.1 dX12_mount_38 (by decide) ?_
        refine lv_icmp_ge (tgt := 47) C.1 C.2.1 dX12_mount_40 (by decide) (fun c_4 => ?_) (fun c_4 => ?_)
        · refine lv_iconst (v := 0) C.1 C.2.1 dX12_mount_47 (by decide) ?_
          refine lv_istore (lv' := [(5, .int 0), (4, .int 0), (3, .int 0), (0, .ref a0), (1, .int x1), (2, .int x2)]) C.1 C.2.1 dX12_mount_48 hl (by decide) rfl (fun ls hl => ?_)
          refine lv_aload_n C.1 C.2.1 dX12_mount_50 rfl (lv_at hl 3 rfl) ?_
          refine k_get (v := .int 0) C hP 0 rfl rfl inlX12 2 (by decide) m_9_19 (sn (by decide) e0_2) dX12_mount_51 ?_
          refine lv_istore (lv' := [(6, .int 0), (5, .int 0), (4, .int 0), (3, .int 0), (0, .ref a0), (1, .int x1), (2, .int x2)]) C.1 C.2.1 dX12_mount_54 hl (by decide) rfl (fun ls hl => ?_)
          refine lv_aload_n C.1 C.2.1 dX12_mount_56 rfl (lv_at hl 4 rfl) ?_
          refine lv_iconst (v := 0) C.1 C.2.1 dX12_mount_57 (by decide) ?_
          refine k_put (ws' := [(a0, .inr (11, ((s0.set 0 (.int 0)).set 2 (.int 0))))]) (v := .int 0) C hP hD hS 0 rfl rfl inlX12 tyX12_ok nmX12 2 (by decide) m_9_19 rfl rfl rfl (sl n0) rfl dX12_mount_58 (fun H locs hP hD hS => ?_)
          refine lv_iload C.1 C.2.1 dX12_mount_61 (lv_at hl 1 rfl) ?_
          refine lv_if_eq (tgt := 75) C.1 C.2.1 dX12_mount_63 (by decide) (fun _ => ?_) (fun h => absurd (by decide) h)
          refine lv_iconst (v := (-1)) C.1 C.2.1 dX12_mount_75 (by decide) ?_
          exact k_iret C hr hlocks hP hD hS rfl (fun _ => 0) [] rfl rfl (Or.inr (Or.inr (Or.inr (Or.inl ⟨c_1, c_2, c_3, c_4, rfl⟩)))) (Nat.le_of_ble_eq_true rfl) (Nat.le_of_ble_eq_true rfl) dX12_mount_76
        · refine lv_iconst (v := 1) C.1 C.2.1 dX12_mount_43 (by decide) ?_
          refine lv_goto (tgt := 48) C.1 C.2.1 dX12_mount_44 (by decide) ?_
          refine lv_istore (lv' := [(5, .int 1), (4, .int 0), (3, .int 0), (0, .ref a0), (1, .int x1), (2, .int x2)]) C.1 C.2.1 dX12_mount_48 hl (by decide) rfl (fun ls hl => ?_)
          refine lv_aload_n C.1 C.2.1 dX12_mount_50 rfl (lv_at hl 3 rfl) ?_
          refine k_get (v := .int 0) C hP 0 rfl rfl inlX12 2 (by decide) m_9_19 (sn (by decide) e0_2) dX12_mount_51 ?_
          refine lv_istore (lv' := [(6, .int 0), (5, .int 1), (4, .int 0), (3, .int 0), (0, .ref a0), (1, .int x1), (2, .int x2)]) C.1 C.2.1 dX12_mount_54 hl (by decide) rfl (fun ls hl => ?_)
          refine lv_aload_n C.1 C.2.1 dX12_mount_56 rfl (lv_at hl 4 rfl) ?_
          refine lv_iconst (v := 0) C.1 C.2.1 dX12_mount_57 (by decide) ?_
          refine k_put (ws' := [(a0, .inr (11, ((s0.set 0 (.int 0)).set 2 (.int 0))))]) (v := .int 0) C hP hD hS 0 rfl rfl inlX12 tyX12_ok nmX12 2 (by decide) m_9_19 rfl rfl rfl (sl n0) rfl dX12_mount_58 (fun H locs hP hD hS => ?_)
          refine lv_iload C.1 C.2.1 dX12_mount_61 (lv_at hl 1 rfl) ?_
          refine lv_if_eq (tgt := 75) C.1 C.2.1 dX12_mount_63 (by decide) (fun h => absurd h (by decide)) (fun _ => ?_)
          refine lv_iload_n C.1 C.2.1 dX12_mount_66 rfl (lv_at hl 6 rfl) ?_
          refine lv_iload C.1 C.2.1 dX12_mount_67 (lv_at hl 2 rfl) ?_
          refine k_iadd (v := (x2 + 0)) C rfl dX12_mount_69 ?_
          refine lv_bipush (v := 64) C.1 C.2.1 dX12_mount_70 (by decide) ?_
          refine lv_icmp_le (tgt := 77) C.1 C.2.1 dX12_mount_72 (by decide) (fun _ => ?_) (fun h => absurd (by simp only [Int32.lt_iff_toInt_lt, Int32.le_iff_toInt_le, ← Int32.toInt_inj] at c_1 c_2 c_3 c_4 ⊢; have k0 : (0 : Int32).toInt = 0 := (by decide); have k1 : (16 : Int32).toInt = 16 := (by decide); have k2 : (64 : Int32).toInt = 64 := (by decide); have k3 := ti_iadd (x := x2) (y := 0) (by omega) (by omega); omega) h)
          refine lv_iconst (v := 0) C.1 C.2.1 dX12_mount_77 (by decide) ?_
          refine lv_istore (lv' := [(7, .int 0), (6, .int 0), (5, .int 1), (4, .int 0), (3, .int 0), (0, .ref a0), (1, .int x1), (2, .int x2)]) C.1 C.2.1 dX12_mount_78 hl (by decide) rfl (fun ls hl => ?_)
          refine lv_iload C.1 C.2.1 dX12_mount_80 (lv_at hl 0 rfl) ?_
          refine lv_bipush (v := 100) C.1 C.2.1 dX12_mount_82 (by decide) ?_
          refine lv_iload C.1 C.2.1 dX12_mount_84 (lv_at hl 3 rfl) ?_
          refine k_imul (v := 0) C (by decide) dX12_mount_86 ?_
          refine lv_icmp_ge (tgt := 177) C.1 C.2.1 dX12_mount_87 (by decide) (fun _ => ?_) (fun h => absurd (by decide) h)
          refine lv_iload C.1 C.2.1 dX12_mount_177 (lv_at hl 3 rfl) ?_
          exact k_iret C hr hlocks hP hD hS rfl (fun _ => 0) [] rfl rfl (Or.inr (Or.inr (Or.inr (Or.inr ⟨c_1, c_2, c_3, c_4, rfl⟩)))) (Nat.le_of_ble_eq_true rfl) (Nat.le_of_ble_eq_true rfl) dX12_mount_179
set_option maxHeartbeats 4000000 in
set_option maxRecDepth 100000 in
theorem c_X3_seek (l : Launch) (D : va_G) (K : Nat → ClassId) (a0 : Nat) (a1 : Nat) (s0 : List Value) (n0 : s0.length = 16) (s1 : List Value) (n1 : s1.length = 8) (e0_0 : s0[0]? = some (.ref a1)) (e1_5 : s1[5]? = some (.int 0)) (e1_4 : s1[4]? = some (.int 0)) (e1_7 : s1[7]? = some (.int 0)) : uMet l yX3_seek cX3_seek 3 (some .boolean) (rmD 1 0 0) D K X0 [.ref a0] [(a0, .inr (2, s0)), (a1, .inr (8, s1))] (QI D K (fun (r : Int32) (u : Nat → Nat) => r = 0) (fun (u : Nat → Nat) => [(a0, .inr (2, s0)), (a1, .inr (8, (s1.set 5 (.int 1))))])) 0 0 := by
  refine k_met RX3 ⟨rfl, by decide +kernel⟩ (Nat.le_of_ble_eq_true rfl) ?_
  intro p e s m below meth c A ls C hX hr hlocks hin hA hP hD hS hl
  have hl : lv_has ls 3 [(0, .ref a0)] := hl
  refine lv_iconst (v := 0) C.1 C.2.1 dX3_seek_0 (by decide) ?_
  refine lv_istore_n (lv' := [(1, .int 0), (0, .ref a0)]) C.1 C.2.1 dX3_seek_1 rfl hl (by decide) rfl (fun ls hl => ?_)
  refine lv_iconst (v := 0) C.1 C.2.1 dX3_seek_2 (by decide) ?_
  refine lv_istore_n (lv' := [(2, .int 0), (1, .int 0), (0, .ref a0)]) C.1 C.2.1 dX3_seek_3 rfl hl (by decide) rfl (fun ls hl => ?_)
  refine lv_iload_n C.1 C.2.1 dX3_seek_4 rfl (lv_at hl 0 rfl) ?_
  refine lv_sipush (v := 8192) C.1 C.2.1 dX3_seek_5 (by decide) ?_
  refine lv_icmp_gt (tgt := 101) C.1 C.2.1 dX3_seek_8 (by decide) (fun h => absurd h (by decide)) (fun _ => ?_)
  refine lv_aload_n C.1 C.2.1 dX3_seek_11 rfl (lv_at hl 2 rfl) ?_
  refine k_get (v := .ref a1) C hP 0 rfl rfl inlX3 0 (by decide) m_6_23 e0_0 dX3_seek_12 ?_
  refine k_Vi (As := []) (rest := []) C hP hD hS hA (c_X9_advance l D K a1 s1 n1 e1_5 e1_4 e1_7) X0_ok trivial (uwV m_71_18 m_13_19 m_13_20 m_1_17 m_13_21) (hdV 0 (by decide +kernel) rfl) ⟨Nat.le_of_ble_eq_true rfl, Nat.le_of_ble_eq_true rfl⟩ rfl rfl (ci := 8) rfl rfl (isC := [1]) (isR := [0]) (wr := [(a0, .inr (2, s0))]) ⟨rfl, rfl, rfl, rfl, by decide⟩ rfl hl.1 (Nat.le_of_ble_eq_true rfl) dX3_seek_15 ⟨Nat.le_of_ble_eq_true rfl, Nat.le_of_ble_eq_true rfl⟩ (fun r_2 u_1 H locs hw hP hD hS => ?_)
  obtain rfl := hw
  have hP : va_P D vwCl [(a0, .inr (2, s0)), (a1, .inr (8, (s1.set 5 (.int 1))))] H := hP
  have hD : va_D A [(a0, .inr (2, s0)), (a1, .inr (8, (s1.set 5 (.int 1))))] := hD
  refine lv_if_eq (tgt := 101) C.1 C.2.1 dX3_seek_18 (by decide) (fun _ => ?_) (fun h => absurd (by decide) h)
  refine lv_iconst (v := 0) C.1 C.2.1 dX3_seek_101 (by decide) ?_
  exact k_iret C hr hlocks hP hD hS (by decide) (fun _ => 0) [0, 1] rfl rfl rfl (Nat.le_of_ble_eq_true rfl) (Nat.le_of_ble_eq_true rfl) dX3_seek_102
set_option maxHeartbeats 4000000 in
set_option maxRecDepth 100000 in
theorem t_X11_jobs (l : Launch) (D : va_G) (K : Nat → ClassId) (a0 : Nat) (a1 : Nat) (a2 : Nat) (a3 : Nat) (s0 : List Value) (n0 : s0.length = 8) (s1 : List Value) (n1 : s1.length = 16) (s2 : List Value) (n2 : s2.length = 8) (f3 : Nat → Int32) (e0_1 : s0[1]? = some (.int 0)) (e0_7 : s0[7]? = some (.ref a1)) (e1_0 : s1[0]? = some (.ref a2)) (e2_0 : s2[0]? = some (.ref a3)) : uMet l yX11_jobs cX11_jobs 5 (some .int) (rmD 2 0 0) D K X0 [.ref a0] [(a0, .inr (10, s0)), (a1, .inr (2, s1)), (a2, .inr (8, s2)), (a3, .inl (K 2, 8192, .inl f3))] (QI D K (fun (r : Int32) (u : Nat → Nat) => r = 0) (fun (u : Nat → Nat) => [])) 0 0 := by
  refine k_met RX11 ⟨rfl, by decide +kernel⟩ (Nat.le_of_ble_eq_true rfl) ?_
  intro p e s m below meth c A ls C hX hr hlocks hin hA hP hD hS hl
  have hl : lv_has ls 5 [(0, .ref a0)] := hl
  refine lv_aload_n C.1 C.2.1 dX11_jobs_0 rfl (lv_at hl 0 rfl) ?_
  refine k_Vi (As := []) (rest := []) C hP hD hS hA (c_X11_useUpTape l D K a0 s0 n0 e0_1) X0_ok trivial (uwV m_10_20 m_10_21 m_10_22 m_1_2 m_10_23) (hdV 0 (by decide +kernel) rfl) ⟨Nat.le_of_ble_eq_true rfl, Nat.le_of_ble_eq_true rfl⟩ rfl rfl (ci := 10) rfl rfl (isC := [0]) (isR := [1, 2, 3]) (wr := [(a1, .inr (2, s1)), (a2, .inr (8, s2)), (a3, .inl (K 2, 8192, .inl f3))]) ⟨rfl, rfl, rfl, rfl, by decide⟩ rfl hl.1 (Nat.le_of_ble_eq_true rfl) dX11_jobs_1 ⟨Nat.le_of_ble_eq_true rfl, Nat.le_of_ble_eq_true rfl⟩ (fun r_2 u_1 H locs hw hP hD hS => ?_)
  obtain rfl := hw
  have hP : va_P D vwCl [(a1, .inr (2, s1)), (a2, .inr (8, s2)), (a3, .inl (K 2, 8192, .inl f3)), (a0, .inr (10, (s0.set 1 (.int 0))))] H := hP
  have hD : va_D A [(a1, .inr (2, s1)), (a2, .inr (8, s2)), (a3, .inl (K 2, 8192, .inl f3)), (a0, .inr (10, (s0.set 1 (.int 0))))] := hD
  refine lv_istore_n (lv' := [(1, .int 0), (0, .ref a0)]) C.1 C.2.1 dX11_jobs_4 rfl hl (by decide) rfl (fun ls hl => ?_)
  refine lv_aload_n C.1 C.2.1 dX11_jobs_5 rfl (lv_at hl 1 rfl) ?_
  refine k_get (v := .ref a1) C hP 3 rfl rfl inlX11 7 (by decide) m_2_18 (sn (by decide) e0_7) dX11_jobs_6 ?_
  refine k_get (v := .ref a2) C hP 0 rfl rfl inlX3 0 (by decide) m_43_15 e1_0 dX11_jobs_9 ?_
  refine lv_iconst (v := 0) C.1 C.2.1 dX11_jobs_12 (by decide) ?_
  refine lv_iload_n C.1 C.2.1 dX11_jobs_13 rfl (lv_at hl 0 rfl) ?_
  refine k_Vv (As := [.int 0, .int 0]) (rest := []) C hP hD hS hA (c_X9_open l D K a2 a3 s2 n2 f3 e2_0) X0_ok trivial (uwV m_43_18 m_12_10 m_12_11 m_1_17 m_12_12) (hdV 2 (by decide +kernel) rfl) ⟨Nat.le_of_ble_eq_true rfl, Nat.le_of_ble_eq_true rfl⟩ rfl rfl (ci := 8) rfl rfl (isC := [1, 2]) (isR := [0, 3]) (wr := [(a1, .inr (2, s1)), (a0, .inr (10, (s0.set 1 (.int 0))))]) ⟨rfl, rfl, rfl, rfl, by decide⟩ rfl hl.1 (Nat.le_of_ble_eq_true rfl) dX11_jobs_14 ⟨Nat.le_of_ble_eq_true rfl, Nat.le_of_ble_eq_true rfl⟩ (fun u_3 H locs hw hP hD hS => ?_)
  have hP : va_P D vwCl [(a1, .inr (2, s1)), (a0, .inr (10, (s0.set 1 (.int 0)))), (a2, .inr (8, ((((s2.set 6 (.int 0)).set 7 (.int 0)).set 4 (.int 0)).set 5 (.int 0)))), (a3, .inl (K 2, 8192, .inl f3))] H := hP
  have hD : va_D A [(a1, .inr (2, s1)), (a0, .inr (10, (s0.set 1 (.int 0)))), (a2, .inr (8, ((((s2.set 6 (.int 0)).set 7 (.int 0)).set 4 (.int 0)).set 5 (.int 0)))), (a3, .inl (K 2, 8192, .inl f3))] := hD
  refine lv_iconst (v := 0) C.1 C.2.1 dX11_jobs_17 (by decide) ?_
  refine lv_istore_n (lv' := [(2, .int 0), (1, .int 0), (0, .ref a0)]) C.1 C.2.1 dX11_jobs_18 rfl hl (by decide) rfl (fun ls hl => ?_)
  refine lv_iconst (v := 0) C.1 C.2.1 dX11_jobs_19 (by decide) ?_
  refine lv_istore_n (lv' := [(3, .int 0), (2, .int 0), (1, .int 0), (0, .ref a0)]) C.1 C.2.1 dX11_jobs_20 rfl hl (by decide) rfl (fun ls hl => ?_)
  refine lv_iload_n C.1 C.2.1 dX11_jobs_21 rfl (lv_at hl 0 rfl) ?_
  refine lv_sipush (v := 512) C.1 C.2.1 dX11_jobs_22 (by decide) ?_
  refine lv_icmp_ge (tgt := 159) C.1 C.2.1 dX11_jobs_25 (by decide) (fun h => absurd h (by decide)) (fun _ => ?_)
  refine lv_aload_n C.1 C.2.1 dX11_jobs_28 rfl (lv_at hl 3 rfl) ?_
  refine k_get (v := .ref a1) C hP 1 rfl rfl inlX11 7 (by decide) m_2_18 (sn (by decide) e0_7) dX11_jobs_29 ?_
  refine k_Vi (As := []) (rest := []) C hP hD hS hA (c_X3_seek l D K a1 a2 s1 n1 (((((s2.set 6 (.int 0)).set 7 (.int 0)).set 4 (.int 0)).set 5 (.int 0))) (sl (sl (sl (sl n2)))) e1_0 (ss (sk (sl (sl (sl n2))) (by decide))) (sn (by decide) (ss (sk (sl (sl n2)) (by decide)))) (sn (by decide) (sn (by decide) (ss (sk (sl n2) (by decide)))))) X0_ok trivial (uwV m_71_12 m_71_13 m_71_14 m_2_17 m_71_15) (hdV 0 (by decide +kernel) rfl) ⟨Nat.le_of_ble_eq_true rfl, Nat.le_of_ble_eq_true rfl⟩ rfl rfl (ci := 2) rfl rfl (isC := [0, 2]) (isR := [1, 3]) (wr := [(a0, .inr (10, (s0.set 1 (.int 0)))), (a3, .inl (K 2, 8192, .inl f3))]) ⟨rfl, rfl, rfl, rfl, by decide⟩ rfl hl.1 (Nat.le_of_ble_eq_true rfl) dX11_jobs_32 ⟨Nat.le_of_ble_eq_true rfl, Nat.le_of_ble_eq_true rfl⟩ (fun r_6 u_5 H locs hw hP hD hS => ?_)
  obtain rfl := hw
  have hP : va_P D vwCl [(a0, .inr (10, (s0.set 1 (.int 0)))), (a3, .inl (K 2, 8192, .inl f3)), (a1, .inr (2, s1)), (a2, .inr (8, (((((s2.set 6 (.int 0)).set 7 (.int 0)).set 4 (.int 0)).set 5 (.int 0)).set 5 (.int 1))))] H := hP
  have hD : va_D A [(a0, .inr (10, (s0.set 1 (.int 0)))), (a3, .inl (K 2, 8192, .inl f3)), (a1, .inr (2, s1)), (a2, .inr (8, (((((s2.set 6 (.int 0)).set 7 (.int 0)).set 4 (.int 0)).set 5 (.int 0)).set 5 (.int 1))))] := hD
  refine lv_if_eq (tgt := 159) C.1 C.2.1 dX11_jobs_35 (by decide) (fun _ => ?_) (fun h => absurd (by decide) h)
  refine lv_iload_n C.1 C.2.1 dX11_jobs_159 rfl (lv_at hl 1 rfl) ?_
  exact k_iret C hr hlocks hP hD hS rfl (fun _ => 0) [] rfl rfl rfl (Nat.le_of_ble_eq_true rfl) (Nat.le_of_ble_eq_true rfl) dX11_jobs_160
set_option maxHeartbeats 4000000 in
set_option maxRecDepth 100000 in
theorem t_X12_jobs (l : Launch) (D : va_G) (K : Nat → ClassId) (a0 : Nat) (s0 : List Value) (n0 : s0.length = 94) (e0_2 : s0[2]? = some (.int 0)) : uMet l yX12_jobs cX12_jobs 5 (some .int) (rmD 0 0 0) D K X0 [.ref a0] [(a0, .inr (11, s0))] (QI D K (fun (r : Int32) (u : Nat → Nat) => r = 0) (fun (u : Nat → Nat) => [])) 0 0 := by
  refine k_met RX12 ⟨rfl, by decide +kernel⟩ (Nat.le_of_ble_eq_true rfl) ?_
  intro p e s m below meth c A ls C hX hr hlocks hin hA hP hD hS hl
  have hl : lv_has ls 5 [(0, .ref a0)] := hl
  refine lv_aload_n C.1 C.2.1 dX12_jobs_0 rfl (lv_at hl 0 rfl) ?_
  refine lv_iconst (v := 0) C.1 C.2.1 dX12_jobs_1 (by decide) ?_
  refine k_put (ws' := [(a0, .inr (11, (s0.set 0 (.int 0))))]) (v := .int 0) C hP hD hS 0 rfl rfl inlX12 tyX12_ok nmX12 0 (by decide) m_9_18 rfl rfl rfl n0 rfl dX12_jobs_2 (fun H locs hP hD hS => ?_)
  refine lv_aload_n C.1 C.2.1 dX12_jobs_5 rfl (lv_at hl 0 rfl) ?_
  refine lv_iconst (v := 0) C.1 C.2.1 dX12_jobs_6 (by decide) ?_
  refine k_put (ws' := [(a0, .inr (11, ((s0.set 0 (.int 0)).set 77 (.int 0))))]) (v := .int 0) C hP hD hS 0 rfl rfl inlX12 tyX12_ok nmX12 77 (by decide) m_78_14 rfl rfl rfl (sl n0) rfl dX12_jobs_7 (fun H locs hP hD hS => ?_)
  refine lv_iconst (v := 0) C.1 C.2.1 dX12_jobs_10 (by decide) ?_
  refine lv_istore_n (lv' := [(1, .int 0), (0, .ref a0)]) C.1 C.2.1 dX12_jobs_11 rfl hl (by decide) rfl (fun ls hl => ?_)
  refine lv_iload_n C.1 C.2.1 dX12_jobs_12 rfl (lv_at hl 0 rfl) ?_
  refine lv_aload_n C.1 C.2.1 dX12_jobs_13 rfl (lv_at hl 1 rfl) ?_
  refine k_get (v := .int 0) C hP 0 rfl rfl inlX12 2 (by decide) m_9_19 (sn (by decide) (sn (by decide) e0_2)) dX12_jobs_14 ?_
  refine lv_icmp_ge (tgt := 78) C.1 C.2.1 dX12_jobs_17 (by decide) (fun _ => ?_) (fun h => absurd (by decide) h)
  refine lv_iconst (v := 0) C.1 C.2.1 dX12_jobs_78 (by decide) ?_
  refine lv_istore_n (lv' := [(1, .int 0), (0, .ref a0)]) C.1 C.2.1 dX12_jobs_79 rfl hl (by decide) rfl (fun ls hl => ?_)
  refine lv_iload_n C.1 C.2.1 dX12_jobs_80 rfl (lv_at hl 0 rfl) ?_
  refine lv_aload_n C.1 C.2.1 dX12_jobs_81 rfl (lv_at hl 1 rfl) ?_
  refine k_get (v := .int 0) C hP 0 rfl rfl inlX12 2 (by decide) m_9_19 (sn (by decide) (sn (by decide) e0_2)) dX12_jobs_82 ?_
  refine lv_icmp_ge (tgt := 106) C.1 C.2.1 dX12_jobs_85 (by decide) (fun _ => ?_) (fun h => absurd (by decide) h)
  refine lv_aload_n C.1 C.2.1 dX12_jobs_106 rfl (lv_at hl 1 rfl) ?_
  refine lv_iconst (v := 0) C.1 C.2.1 dX12_jobs_107 (by decide) ?_
  refine k_put (ws' := [(a0, .inr (11, (((s0.set 0 (.int 0)).set 77 (.int 0)).set 2 (.int 0))))]) (v := .int 0) C hP hD hS 0 rfl rfl inlX12 tyX12_ok nmX12 2 (by decide) m_9_19 rfl rfl rfl (sl (sl n0)) rfl dX12_jobs_108 (fun H locs hP hD hS => ?_)
  refine lv_aload_n C.1 C.2.1 dX12_jobs_111 rfl (lv_at hl 1 rfl) ?_
  refine lv_iconst (v := 0) C.1 C.2.1 dX12_jobs_112 (by decide) ?_
  refine k_put (ws' := [(a0, .inr (11, ((((s0.set 0 (.int 0)).set 77 (.int 0)).set 2 (.int 0)).set 88 (.int 0))))]) (v := .int 0) C hP hD hS 0 rfl rfl inlX12 tyX12_ok nmX12 88 (by decide) m_78_15 rfl (by decide) (by decide) (sl (sl (sl n0))) rfl dX12_jobs_113 (fun H locs hP hD hS => ?_)
  refine lv_aload_n C.1 C.2.1 dX12_jobs_116 rfl (lv_at hl 1 rfl) ?_
  refine lv_iconst (v := 0) C.1 C.2.1 dX12_jobs_117 (by decide) ?_
  refine k_put (ws' := [(a0, .inr (11, (((((s0.set 0 (.int 0)).set 77 (.int 0)).set 2 (.int 0)).set 88 (.int 0)).set 83 (.int 0))))]) (v := .int 0) C hP hD hS 0 rfl rfl inlX12 tyX12_ok nmX12 83 (by decide) m_78_16 rfl rfl rfl (sl (sl (sl (sl n0)))) rfl dX12_jobs_118 (fun H locs hP hD hS => ?_)
  refine lv_iconst (v := 0) C.1 C.2.1 dX12_jobs_121 (by decide) ?_
  refine lv_istore_n (lv' := [(1, .int 0), (0, .ref a0)]) C.1 C.2.1 dX12_jobs_122 rfl hl (by decide) rfl (fun ls hl => ?_)
  refine lv_iload_n C.1 C.2.1 dX12_jobs_123 rfl (lv_at hl 0 rfl) ?_
  refine lv_aload_n C.1 C.2.1 dX12_jobs_124 rfl (lv_at hl 1 rfl) ?_
  refine k_get (v := .int 0) C hP 0 rfl rfl inlX12 77 (by decide) m_78_14 (sn (by decide) (sn (by decide) (sn (by decide) (ss (sk (sl n0) (by decide)))))) dX12_jobs_125 ?_
  refine lv_icmp_ge (tgt := 249) C.1 C.2.1 dX12_jobs_128 (by decide) (fun _ => ?_) (fun h => absurd (by decide) h)
  refine lv_aload_n C.1 C.2.1 dX12_jobs_249 rfl (lv_at hl 1 rfl) ?_
  refine k_get (v := .int 0) C hP 0 rfl rfl inlX12 83 (by decide) m_78_16 (ss (sk (sl (sl (sl (sl n0)))) (by decide))) dX12_jobs_250 ?_
  exact k_iret C hr hlocks hP hD hS rfl (fun _ => 0) [] rfl rfl rfl (Nat.le_of_ble_eq_true rfl) (Nat.le_of_ble_eq_true rfl) dX12_jobs_253
set_option maxHeartbeats 4000000 in
set_option maxRecDepth 100000 in
theorem c_X3_entry (l : Launch) (D : va_G) (K : Nat → ClassId) (a0 : Nat) (s0 : List Value) (n0 : s0.length = 16) (x1 : Int32) (x2 : Int32) (e0_12 : s0[12]? = some (.int 0)) : uMet l yX3_entry cX3_entry 3 (some .int) (rmD 0 0 0) D K X0 [.ref a0, .int x1, .int x2] [(a0, .inr (2, s0))] (QI D K (fun (r : Int32) (u : Nat → Nat) => r = (-1)) (fun (u : Nat → Nat) => [(a0, .inr (2, s0))])) 0 0 := by
  refine k_met RX3 ⟨rfl, by decide +kernel⟩ (Nat.le_of_ble_eq_true rfl) ?_
  intro p e s m below meth c A ls C hX hr hlocks hin hA hP hD hS hl
  have hl : lv_has ls 3 [(0, .ref a0), (1, .int x1), (2, .int x2)] := hl
  refine lv_iload_n C.1 C.2.1 dX3_entry_0 rfl (lv_at hl 1 rfl) ?_
  refine lv_if_lt (tgt := 34) C.1 C.2.1 dX3_entry_1 (by decide) (fun c_1 => ?_) (fun c_1 => ?_)
  · refine lv_iconst (v := (-1)) C.1 C.2.1 dX3_entry_34 (by decide) ?_
    exact k_iret C hr hlocks hP hD hS rfl (fun _ => 0) [0] rfl rfl rfl (Nat.le_of_ble_eq_true rfl) (Nat.le_of_ble_eq_true rfl) dX3_entry_35
  · refine lv_iload_n C.1 C.2.1 dX3_entry_4 rfl (lv_at hl 1 rfl) ?_
    refine lv_aload_n C.1 C.2.1 dX3_entry_5 rfl (lv_at hl 0 rfl) ?_
    refine k_get (v := .int 0) C hP 0 rfl rfl inlX3 12 (by decide) m_74_8 e0_12 dX3_entry_6 ?_
    refine lv_icmp_ge (tgt := 34) C.1 C.2.1 dX3_entry_9 (by decide) (fun _ => ?_) (fun h => absurd (by simp only [Int32.lt_iff_toInt_lt, Int32.le_iff_toInt_le, ← Int32.toInt_inj] at c_1 ⊢; have k0 : (0 : Int32).toInt = 0 := (by decide); omega) h)
    refine lv_iconst (v := (-1)) C.1 C.2.1 dX3_entry_34 (by decide) ?_
    exact k_iret C hr hlocks hP hD hS rfl (fun _ => 0) [0] rfl rfl rfl (Nat.le_of_ble_eq_true rfl) (Nat.le_of_ble_eq_true rfl) dX3_entry_35
set_option maxHeartbeats 4000000 in
set_option maxRecDepth 100000 in
theorem t_X11_account (l : Launch) (D : va_G) (K : Nat → ClassId) (a0 : Nat) (a1 : Nat) (s0 : List Value) (n0 : s0.length = 8) (s1 : List Value) (n1 : s1.length = 16) (x1 : Int32) (x2 : Int32) (e0_7 : s0[7]? = some (.ref a1)) (e1_12 : s1[12]? = some (.int 0)) : uMet l yX11_account cX11_account 3 (some .int) (rmD 1 0 0) D K X0 [.ref a0, .int x1, .int x2] [(a0, .inr (10, s0)), (a1, .inr (2, s1))] (QI D K (fun (r : Int32) (u : Nat → Nat) => r = (-1)) (fun (u : Nat → Nat) => [])) 0 0 := by
  refine k_met RX11 ⟨rfl, by decide +kernel⟩ (Nat.le_of_ble_eq_true rfl) ?_
  intro p e s m below meth c A ls C hX hr hlocks hin hA hP hD hS hl
  have hl : lv_has ls 3 [(0, .ref a0), (1, .int x1), (2, .int x2)] := hl
  refine lv_aload_n C.1 C.2.1 dX11_account_0 rfl (lv_at hl 0 rfl) ?_
  refine k_get (v := .ref a1) C hP 0 rfl rfl inlX11 7 (by decide) m_2_18 e0_7 dX11_account_1 ?_
  refine lv_iload_n C.1 C.2.1 dX11_account_4 rfl (lv_at hl 1 rfl) ?_
  refine lv_iload_n C.1 C.2.1 dX11_account_5 rfl (lv_at hl 2 rfl) ?_
  refine k_Vi (As := [.int x1, .int x2]) (rest := []) C hP hD hS hA (c_X3_entry l D K a1 s1 n1 x1 x2 e1_12) X0_ok trivial (uwV m_82_11 m_77_18 m_77_19 m_2_17 m_77_20) (hdV 2 (by decide +kernel) rfl) ⟨Nat.le_of_ble_eq_true rfl, Nat.le_of_ble_eq_true rfl⟩ rfl rfl (ci := 2) rfl rfl (isC := [1]) (isR := [0]) (wr := [(a0, .inr (10, s0))]) ⟨rfl, rfl, rfl, rfl, by decide⟩ rfl hl.1 (Nat.le_of_ble_eq_true rfl) dX11_account_6 ⟨Nat.le_of_ble_eq_true rfl, Nat.le_of_ble_eq_true rfl⟩ (fun r_2 u_1 H locs hw hP hD hS => ?_)
  obtain rfl := hw
  have hP : va_P D vwCl [(a0, .inr (10, s0)), (a1, .inr (2, s1))] H := hP
  have hD : va_D A [(a0, .inr (10, s0)), (a1, .inr (2, s1))] := hD
  exact k_iret C hr hlocks hP hD hS rfl (fun _ => 0) [] rfl rfl rfl (Nat.le_of_ble_eq_true rfl) (Nat.le_of_ble_eq_true rfl) dX11_account_9
set_option maxHeartbeats 4000000 in
set_option maxRecDepth 100000 in
theorem t_X12_account (l : Launch) (D : va_G) (K : Nat → ClassId) (a0 : Nat) (s0 : List Value) (n0 : s0.length = 94) (x1 : Int32) (x2 : Int32) (e0_82 : s0[82]? = some (.int 0)) : uMet l yX12_account cX12_account 3 (some .int) (rmD 0 0 0) D K X0 [.ref a0, .int x1, .int x2] [(a0, .inr (11, s0))] (QI D K (fun (r : Int32) (u : Nat → Nat) => r = (-1)) (fun (u : Nat → Nat) => [])) 0 0 := by
  refine k_met RX12 ⟨rfl, by decide +kernel⟩ (Nat.le_of_ble_eq_true rfl) ?_
  intro p e s m below meth c A ls C hX hr hlocks hin hA hP hD hS hl
  have hl : lv_has ls 3 [(0, .ref a0), (1, .int x1), (2, .int x2)] := hl
  refine lv_aload_n C.1 C.2.1 dX12_account_0 rfl (lv_at hl 0 rfl) ?_
  refine lv_iconst (v := 0) C.1 C.2.1 dX12_account_1 (by decide) ?_
  refine k_put (ws' := [(a0, .inr (11, (s0.set 0 (.int 0))))]) (v := .int 0) C hP hD hS 0 rfl rfl inlX12 tyX12_ok nmX12 0 (by decide) m_9_18 rfl rfl rfl n0 rfl dX12_account_2 (fun H locs hP hD hS => ?_)
  refine lv_iload_n C.1 C.2.1 dX12_account_5 rfl (lv_at hl 1 rfl) ?_
  refine lv_if_lt (tgt := 26) C.1 C.2.1 dX12_account_6 (by decide) (fun c_1 => ?_) (fun c_1 => ?_)
  · refine lv_iconst (v := (-1)) C.1 C.2.1 dX12_account_26 (by decide) ?_
    exact k_iret C hr hlocks hP hD hS rfl (fun _ => 0) [] rfl rfl rfl (Nat.le_of_ble_eq_true rfl) (Nat.le_of_ble_eq_true rfl) dX12_account_27
  · refine lv_iload_n C.1 C.2.1 dX12_account_9 rfl (lv_at hl 1 rfl) ?_
    refine lv_aload_n C.1 C.2.1 dX12_account_10 rfl (lv_at hl 0 rfl) ?_
    refine k_get (v := .int 0) C hP 0 rfl rfl inlX12 82 (by decide) m_81_19 (sn (by decide) e0_82) dX12_account_11 ?_
    refine lv_icmp_ge (tgt := 26) C.1 C.2.1 dX12_account_14 (by decide) (fun _ => ?_) (fun h => absurd (by simp only [Int32.lt_iff_toInt_lt, Int32.le_iff_toInt_le, ← Int32.toInt_inj] at c_1 ⊢; have k0 : (0 : Int32).toInt = 0 := (by decide); omega) h)
    refine lv_iconst (v := (-1)) C.1 C.2.1 dX12_account_26 (by decide) ?_
    exact k_iret C hr hlocks hP hD hS rfl (fun _ => 0) [] rfl rfl rfl (Nat.le_of_ble_eq_true rfl) (Nat.le_of_ble_eq_true rfl) dX12_account_27
set_option maxHeartbeats 4000000 in
set_option maxRecDepth 100000 in
theorem t_X11_summary (l : Launch) (D : va_G) (K : Nat → ClassId) (a0 : Nat) (a1 : Nat) (s0 : List Value) (n0 : s0.length = 8) (s1 : List Value) (n1 : s1.length = 16) (e0_7 : s0[7]? = some (.ref a1)) (e1_12 : s1[12]? = some (.int 0)) : uMet l yX11_summary cX11_summary 1 (some .int) (rmD 0 0 0) D K X0 [.ref a0] [(a0, .inr (10, s0)), (a1, .inr (2, s1))] (QI D K (fun (r : Int32) (u : Nat → Nat) => r = (-1)) (fun (u : Nat → Nat) => [])) 0 0 := by
  refine k_met RX11 ⟨rfl, by decide +kernel⟩ (Nat.le_of_ble_eq_true rfl) ?_
  intro p e s m below meth c A ls C hX hr hlocks hin hA hP hD hS hl
  have hl : lv_has ls 1 [(0, .ref a0)] := hl
  refine lv_aload_n C.1 C.2.1 dX11_summary_0 rfl (lv_at hl 0 rfl) ?_
  refine k_get (v := .ref a1) C hP 0 rfl rfl inlX11 7 (by decide) m_2_18 e0_7 dX11_summary_1 ?_
  refine k_get (v := .int 0) C hP 1 rfl rfl inlX3 12 (by decide) m_82_20 e1_12 dX11_summary_4 ?_
  refine lv_if_ne (tgt := 14) C.1 C.2.1 dX11_summary_7 (by decide) (fun h => absurd h (by decide)) (fun _ => ?_)
  refine lv_iconst (v := (-1)) C.1 C.2.1 dX11_summary_10 (by decide) ?_
  refine lv_goto (tgt := 25) C.1 C.2.1 dX11_summary_11 (by decide) ?_
  exact k_iret C hr hlocks hP hD hS rfl (fun _ => 0) [] rfl rfl rfl (Nat.le_of_ble_eq_true rfl) (Nat.le_of_ble_eq_true rfl) dX11_summary_25
set_option maxHeartbeats 4000000 in
set_option maxRecDepth 100000 in
theorem t_X12_summary (l : Launch) (D : va_G) (K : Nat → ClassId) (a0 : Nat) (s0 : List Value) (n0 : s0.length = 94) (e0_82 : s0[82]? = some (.int 0)) : uMet l yX12_summary cX12_summary 5 (some .int) (rmD 0 0 0) D K X0 [.ref a0] [(a0, .inr (11, s0))] (QI D K (fun (r : Int32) (u : Nat → Nat) => r = (-1)) (fun (u : Nat → Nat) => [])) 0 0 := by
  refine k_met RX12 ⟨rfl, by decide +kernel⟩ (Nat.le_of_ble_eq_true rfl) ?_
  intro p e s m below meth c A ls C hX hr hlocks hin hA hP hD hS hl
  have hl : lv_has ls 5 [(0, .ref a0)] := hl
  refine lv_aload_n C.1 C.2.1 dX12_summary_0 rfl (lv_at hl 0 rfl) ?_
  refine lv_iconst (v := 0) C.1 C.2.1 dX12_summary_1 (by decide) ?_
  refine k_put (ws' := [(a0, .inr (11, (s0.set 0 (.int 0))))]) (v := .int 0) C hP hD hS 0 rfl rfl inlX12 tyX12_ok nmX12 0 (by decide) m_9_18 rfl rfl rfl n0 rfl dX12_summary_2 (fun H locs hP hD hS => ?_)
  refine lv_aload_n C.1 C.2.1 dX12_summary_5 rfl (lv_at hl 0 rfl) ?_
  refine k_get (v := .int 0) C hP 0 rfl rfl inlX12 82 (by decide) m_81_19 (sn (by decide) e0_82) dX12_summary_6 ?_
  refine lv_if_ne (tgt := 14) C.1 C.2.1 dX12_summary_9 (by decide) (fun h => absurd h (by decide)) (fun _ => ?_)
  refine lv_iconst (v := (-1)) C.1 C.2.1 dX12_summary_12 (by decide) ?_
  exact k_iret C hr hlocks hP hD hS rfl (fun _ => 0) [] rfl rfl rfl (Nat.le_of_ble_eq_true rfl) (Nat.le_of_ble_eq_true rfl) dX12_summary_13
set_option maxHeartbeats 4000000 in
set_option maxRecDepth 100000 in
theorem t_X11_state (l : Launch) (D : va_G) (K : Nat → ClassId) (a0 : Nat) (a1 : Nat) (s0 : List Value) (n0 : s0.length = 8) (s1 : List Value) (n1 : s1.length = 16) (e0_4 : s0[4]? = some (.ref a1)) (e1_8 : s1[8]? = some (.int 9)) : uMet l yX11_state cX11_state 1 (some .int) (rmD 0 0 0) D K X0 [.ref a0] [(a0, .inr (10, s0)), (a1, .inr (1, s1))] (QI D K (fun (r : Int32) (u : Nat → Nat) => r = 9) (fun (u : Nat → Nat) => [])) 0 0 := by
  refine k_met RX11 ⟨rfl, by decide +kernel⟩ (Nat.le_of_ble_eq_true rfl) ?_
  intro p e s m below meth c A ls C hX hr hlocks hin hA hP hD hS hl
  have hl : lv_has ls 1 [(0, .ref a0)] := hl
  refine lv_aload_n C.1 C.2.1 dX11_state_0 rfl (lv_at hl 0 rfl) ?_
  refine k_get (v := .ref a1) C hP 0 rfl rfl inlX11 4 (by decide) m_2_9 e0_4 dX11_state_1 ?_
  refine k_get (v := .int 9) C hP 1 rfl rfl inlX2 8 (by decide) m_45_11 e1_8 dX11_state_4 ?_
  exact k_iret C hr hlocks hP hD hS rfl (fun _ => 0) [] rfl rfl rfl (Nat.le_of_ble_eq_true rfl) (Nat.le_of_ble_eq_true rfl) dX11_state_7
set_option maxHeartbeats 4000000 in
set_option maxRecDepth 100000 in
theorem t_X12_state (l : Launch) (D : va_G) (K : Nat → ClassId) (a0 : Nat) (s0 : List Value) (n0 : s0.length = 94) (e0_9 : s0[9]? = some (.int 9)) : uMet l yX12_state cX12_state 1 (some .int) (rmD 0 0 0) D K X0 [.ref a0] [(a0, .inr (11, s0))] (QI D K (fun (r : Int32) (u : Nat → Nat) => r = 9) (fun (u : Nat → Nat) => [])) 0 0 := by
  refine k_met RX12 ⟨rfl, by decide +kernel⟩ (Nat.le_of_ble_eq_true rfl) ?_
  intro p e s m below meth c A ls C hX hr hlocks hin hA hP hD hS hl
  have hl : lv_has ls 1 [(0, .ref a0)] := hl
  refine lv_aload_n C.1 C.2.1 dX12_state_0 rfl (lv_at hl 0 rfl) ?_
  refine lv_iconst (v := 0) C.1 C.2.1 dX12_state_1 (by decide) ?_
  refine k_put (ws' := [(a0, .inr (11, (s0.set 0 (.int 0))))]) (v := .int 0) C hP hD hS 0 rfl rfl inlX12 tyX12_ok nmX12 0 (by decide) m_9_18 rfl rfl rfl n0 rfl dX12_state_2 (fun H locs hP hD hS => ?_)
  refine lv_aload_n C.1 C.2.1 dX12_state_5 rfl (lv_at hl 0 rfl) ?_
  refine k_get (v := .int 9) C hP 0 rfl rfl inlX12 9 (by decide) m_7_8 (sn (by decide) e0_9) dX12_state_6 ?_
  exact k_iret C hr hlocks hP hD hS rfl (fun _ => 0) [] rfl rfl rfl (Nat.le_of_ble_eq_true rfl) (Nat.le_of_ble_eq_true rfl) dX12_state_9
set_option maxHeartbeats 4000000 in
set_option maxRecDepth 100000 in
theorem t_X11_time (l : Launch) (D : va_G) (K : Nat → ClassId) (a0 : Nat) (a1 : Nat) (s0 : List Value) (n0 : s0.length = 8) (s1 : List Value) (n1 : s1.length = 16) (e0_4 : s0[4]? = some (.ref a1)) (e1_6 : s1[6]? = some (.long 0)) : uMet l yX11_time cX11_time 1 (some .long) (rmD 0 0 0) D K X0 [.ref a0] [(a0, .inr (10, s0)), (a1, .inr (1, s1))] (QL D K (fun (r : Int64) (u : Nat → Nat) => r = 0) (fun (u : Nat → Nat) => [])) 0 0 := by
  refine k_met RX11 ⟨rfl, by decide +kernel⟩ (Nat.le_of_ble_eq_true rfl) ?_
  intro p e s m below meth c A ls C hX hr hlocks hin hA hP hD hS hl
  have hl : lv_has ls 1 [(0, .ref a0)] := hl
  refine lv_aload_n C.1 C.2.1 dX11_time_0 rfl (lv_at hl 0 rfl) ?_
  refine k_get (v := .ref a1) C hP 0 rfl rfl inlX11 4 (by decide) m_2_9 e0_4 dX11_time_1 ?_
  refine k_get (v := .long 0) C hP 1 rfl rfl inlX2 6 (by decide) m_77_5 e1_6 dX11_time_4 ?_
  exact k_lret C hr hlocks hP hD hS (fun _ => 0) [] rfl rfl rfl (Nat.le_of_ble_eq_true rfl) (Nat.le_of_ble_eq_true rfl) dX11_time_7
set_option maxHeartbeats 4000000 in
set_option maxRecDepth 100000 in
theorem t_X12_time (l : Launch) (D : va_G) (K : Nat → ClassId) (a0 : Nat) (s0 : List Value) (n0 : s0.length = 94) (e0_8 : s0[8]? = some (.long 0)) : uMet l yX12_time cX12_time 1 (some .long) (rmD 0 0 0) D K X0 [.ref a0] [(a0, .inr (11, s0))] (QL D K (fun (r : Int64) (u : Nat → Nat) => r = 0) (fun (u : Nat → Nat) => [])) 0 0 := by
  refine k_met RX12 ⟨rfl, by decide +kernel⟩ (Nat.le_of_ble_eq_true rfl) ?_
  intro p e s m below meth c A ls C hX hr hlocks hin hA hP hD hS hl
  have hl : lv_has ls 1 [(0, .ref a0)] := hl
  refine lv_aload_n C.1 C.2.1 dX12_time_0 rfl (lv_at hl 0 rfl) ?_
  refine lv_iconst (v := 0) C.1 C.2.1 dX12_time_1 (by decide) ?_
  refine k_put (ws' := [(a0, .inr (11, (s0.set 0 (.int 0))))]) (v := .int 0) C hP hD hS 0 rfl rfl inlX12 tyX12_ok nmX12 0 (by decide) m_9_18 rfl rfl rfl n0 rfl dX12_time_2 (fun H locs hP hD hS => ?_)
  refine lv_aload_n C.1 C.2.1 dX12_time_5 rfl (lv_at hl 0 rfl) ?_
  refine k_get (v := .long 0) C hP 0 rfl rfl inlX12 8 (by decide) m_29_23 (sn (by decide) e0_8) dX12_time_6 ?_
  exact k_lret C hr hlocks hP hD hS (fun _ => 0) [] rfl rfl rfl (Nat.le_of_ble_eq_true rfl) (Nat.le_of_ble_eq_true rfl) dX12_time_9
set_option maxHeartbeats 4000000 in
set_option maxRecDepth 100000 in
theorem c_X10_paper (l : Launch) (D : va_G) (K : Nat → ClassId) (a0 : Nat) (a1 : Nat) (a2 : Nat) (a3 : Nat) (s0 : List Value) (n0 : s0.length = 13) (x1 : Int32) (e0_12 : s0[12]? = some (.ref a1)) (e0_11 : s0[11]? = some (.ref a2)) (e0_10 : s0[10]? = some (.ref a3)) : uMet l yX10_paper cX10_paper 2 (some (.object "SixBitBoard$Paper")) (rmD 0 0 0) D K X0 [.ref a0, .int x1] [(a0, .inr (9, s0))] (QR D K (fun (u : Nat → Nat) => ((¬ x1 = 17) ∧ (¬ x1 = 18) ∧ u 0 = a1) ∨ ((¬ x1 = 17) ∧ (x1 = 18) ∧ u 0 = a2) ∨ ((x1 = 17) ∧ u 0 = a3)) (fun (u : Nat → Nat) => u 0) (fun (u : Nat → Nat) => [(a0, .inr (9, s0))])) 0 0 := by
  refine k_met RX10 ⟨rfl, by decide +kernel⟩ (Nat.le_of_ble_eq_true rfl) ?_
  intro p e s m below meth c A ls C hX hr hlocks hin hA hP hD hS hl
  have hl : lv_has ls 2 [(0, .ref a0), (1, .int x1)] := hl
  refine lv_iload_n C.1 C.2.1 dX10_paper_0 rfl (lv_at hl 1 rfl) ?_
  refine lv_bipush (v := 17) C.1 C.2.1 dX10_paper_1 (by decide) ?_
  refine lv_icmp_ne (tgt := 11) C.1 C.2.1 dX10_paper_3 (by decide) (fun c_1 => ?_) (fun c_1 => ?_)
  · refine lv_iload_n C.1 C.2.1 dX10_paper_11 rfl (lv_at hl 1 rfl) ?_
    refine lv_bipush (v := 18) C.1 C.2.1 dX10_paper_12 (by decide) ?_
    refine lv_icmp_ne (tgt := 24) C.1 C.2.1 dX10_paper_14 (by decide) (fun c_2 => ?_) (fun c_2 => ?_)
    · refine lv_aload_n C.1 C.2.1 dX10_paper_24 rfl (lv_at hl 0 rfl) ?_
      refine k_get (v := .ref a1) C hP 0 rfl rfl inlX10 12 (by decide) m_3_23 e0_12 dX10_paper_25 ?_
      exact k_aret C hr (Or.inl ⟨_, rfl⟩) hlocks hP hD hS (fun _ => a1) rfl [0] rfl rfl (Or.inl ⟨c_1, c_2, rfl⟩) (Nat.le_of_ble_eq_true rfl) (Nat.le_of_ble_eq_true rfl) dX10_paper_28
    · refine lv_aload_n C.1 C.2.1 dX10_paper_17 rfl (lv_at hl 0 rfl) ?_
      refine k_get (v := .ref a2) C hP 0 rfl rfl inlX10 11 (by decide) m_3_22 e0_11 dX10_paper_18 ?_
      refine lv_goto (tgt := 28) C.1 C.2.1 dX10_paper_21 (by decide) ?_
      exact k_aret C hr (Or.inl ⟨_, rfl⟩) hlocks hP hD hS (fun _ => a2) rfl [0] rfl rfl (Or.inr (Or.inl ⟨c_1, c_2, rfl⟩)) (Nat.le_of_ble_eq_true rfl) (Nat.le_of_ble_eq_true rfl) dX10_paper_28
  · refine lv_aload_n C.1 C.2.1 dX10_paper_6 rfl (lv_at hl 0 rfl) ?_
    refine k_get (v := .ref a3) C hP 0 rfl rfl inlX10 10 (by decide) m_3_21 e0_10 dX10_paper_7 ?_
    exact k_aret C hr (Or.inl ⟨_, rfl⟩) hlocks hP hD hS (fun _ => a3) rfl [0] rfl rfl (Or.inr (Or.inr ⟨c_1, rfl⟩)) (Nat.le_of_ble_eq_true rfl) (Nat.le_of_ble_eq_true rfl) dX10_paper_10
set_option maxHeartbeats 4000000 in
set_option maxRecDepth 100000 in
theorem t_X11_unit (l : Launch) (D : va_G) (K : Nat → ClassId) (a0 : Nat) (a1 : Nat) (a2 : Nat) (a3 : Nat) (a4 : Nat) (a5 : Nat) (a6 : Nat) (s0 : List Value) (n0 : s0.length = 8) (s1 : List Value) (n1 : s1.length = 13) (s2 : List Value) (n2 : s2.length = 4) (s3 : List Value) (n3 : s3.length = 4) (s4 : List Value) (n4 : s4.length = 4) (s5 : List Value) (n5 : s5.length = 4) (x1 : Int32) (e0_3 : s0[3]? = some (.ref a1)) (e1_12 : s1[12]? = some (.ref a2)) (e1_11 : s1[11]? = some (.ref a3)) (e1_10 : s1[10]? = some (.ref a4)) (e2_3 : s2[3]? = some (.int 0)) (e3_3 : s3[3]? = some (.int 0)) (e4_3 : s4[3]? = some (.int 0)) (e1_9 : s1[9]? = some (.ref a5)) (e5_3 : s5[3]? = some (.int 0)) (e1_2 : s1[2]? = some (.ref a6)) : uMet l yX11_unit cX11_unit 2 (some .int) (rmD 1 0 0) D K X0 [.ref a0, .int x1] [(a0, .inr (10, s0)), (a1, .inr (9, s1)), (a2, .inr (3, s2)), (a3, .inr (3, s3)), (a4, .inr (3, s4)), (a5, .inr (5, s5)), (a6, .inl (K 0, 8, .inl (fun _ => 0)))] (QI D K (fun (r : Int32) (u : Nat → Nat) => ((x1 < 0) ∧ r = (-1)) ∨ ((¬ x1 < 0) ∧ (8 ≤ x1) ∧ (¬ x1 = 16) ∧ (x1 < 17) ∧ r = (-1)) ∨ ((¬ x1 < 0) ∧ (8 ≤ x1) ∧ (¬ x1 = 16) ∧ (¬ x1 < 17) ∧ (19 < x1) ∧ r = (-1)) ∨ ((¬ x1 < 0) ∧ (8 ≤ x1) ∧ (¬ x1 = 16) ∧ (¬ x1 < 17) ∧ (¬ 19 < x1) ∧ (¬ x1 = 17) ∧ (¬ x1 = 18) ∧ r = 0) ∨ ((¬ x1 < 0) ∧ (8 ≤ x1) ∧ (¬ x1 = 16) ∧ (¬ x1 < 17) ∧ (¬ 19 < x1) ∧ (¬ x1 = 17) ∧ (x1 = 18) ∧ r = 0) ∨ ((¬ x1 < 0) ∧ (8 ≤ x1) ∧ (¬ x1 = 16) ∧ (¬ x1 < 17) ∧ (¬ 19 < x1) ∧ (x1 = 17) ∧ r = 0) ∨ ((¬ x1 < 0) ∧ (8 ≤ x1) ∧ (x1 = 16) ∧ r = 0) ∨ ((¬ x1 < 0) ∧ (¬ 8 ≤ x1) ∧ r = 0)) (fun (u : Nat → Nat) => [])) 0 0 := by
  refine k_met RX11 ⟨rfl, by decide +kernel⟩ (Nat.le_of_ble_eq_true rfl) ?_
  intro p e s m below meth c A ls C hX hr hlocks hin hA hP hD hS hl
  have hl : lv_has ls 2 [(0, .ref a0), (1, .int x1)] := hl
  refine lv_iload_n C.1 C.2.1 dX11_unit_0 rfl (lv_at hl 1 rfl) ?_
  refine lv_if_lt (tgt := 20) C.1 C.2.1 dX11_unit_1 (by decide) (fun c_1 => ?_) (fun c_1 => ?_)
  · refine lv_iload_n C.1 C.2.1 dX11_unit_20 rfl (lv_at hl 1 rfl) ?_
    refine lv_bipush (v := 16) C.1 C.2.1 dX11_unit_21 (by decide) ?_
    refine lv_icmp_ne (tgt := 37) C.1 C.2.1 dX11_unit_23 (by decide) (fun _ => ?_) (fun h => absurd h (by simp only [Int32.lt_iff_toInt_lt, Int32.le_iff_toInt_le, ← Int32.toInt_inj] at c_1 ⊢; have k0 : (0 : Int32).toInt = 0 := (by decide); have k1 : (16 : Int32).toInt = 16 := (by decide); omega))
    refine lv_iload_n C.1 C.2.1 dX11_unit_37 rfl (lv_at hl 1 rfl) ?_
    refine lv_bipush (v := 17) C.1 C.2.1 dX11_unit_38 (by decide) ?_
    refine lv_icmp_lt (tgt := 63) C.1 C.2.1 dX11_unit_40 (by decide) (fun _ => ?_) (fun h => absurd (by simp only [Int32.lt_iff_toInt_lt, Int32.le_iff_toInt_le, ← Int32.toInt_inj] at c_1 ⊢; have k0 : (0 : Int32).toInt = 0 := (by decide); have k1 : (17 : Int32).toInt = 17 := (by decide); omega) h)
    refine lv_iconst (v := (-1)) C.1 C.2.1 dX11_unit_63 (by decide) ?_
    exact k_iret C hr hlocks hP hD hS rfl (fun _ => 0) [] rfl rfl (Or.inl ⟨c_1, rfl⟩) (Nat.le_of_ble_eq_true rfl) (Nat.le_of_ble_eq_true rfl) dX11_unit_64
  · refine lv_iload_n C.1 C.2.1 dX11_unit_4 rfl (lv_at hl 1 rfl) ?_
    refine lv_bipush (v := 8) C.1 C.2.1 dX11_unit_5 (by decide) ?_
    refine lv_icmp_ge (tgt := 20) C.1 C.2.1 dX11_unit_7 (by decide) (fun c_4 => ?_) (fun c_4 => ?_)
    · refine lv_iload_n C.1 C.2.1 dX11_unit_20 rfl (lv_at hl 1 rfl) ?_
      refine lv_bipush (v := 16) C.1 C.2.1 dX11_unit_21 (by decide) ?_
      refine lv_icmp_ne (tgt := 37) C.1 C.2.1 dX11_unit_23 (by decide) (fun c_5 => ?_) (fun c_5 => ?_)
      · refine lv_iload_n C.1 C.2.1 dX11_unit_37 rfl (lv_at hl 1 rfl) ?_
        refine lv_bipush (v := 17) C.1 C.2.1 dX11_unit_38 (by decide) ?_
        refine lv_icmp_lt (tgt := 63) C.1 C.2.1 dX11_unit_40 (by decide) (fun c_6 => ?_) (fun c_6 => ?_)
        · refine lv_iconst (v := (-1)) C.1 C.2.1 dX11_unit_63 (by decide) ?_
          exact k_iret C hr hlocks hP hD hS rfl (fun _ => 0) [] rfl rfl (Or.inr (Or.inl ⟨c_1, c_4, c_5, c_6, rfl⟩)) (Nat.le_of_ble_eq_true rfl) (Nat.le_of_ble_eq_true rfl) dX11_unit_64
        · refine lv_iload_n C.1 C.2.1 dX11_unit_43 rfl (lv_at hl 1 rfl) ?_
          refine lv_bipush (v := 19) C.1 C.2.1 dX11_unit_44 (by decide) ?_
          refine lv_icmp_gt (tgt := 63) C.1 C.2.1 dX11_unit_46 (by decide) (fun c_7 => ?_) (fun c_7 => ?_)
          · refine lv_iconst (v := (-1)) C.1 C.2.1 dX11_unit_63 (by decide) ?_
            exact k_iret C hr hlocks hP hD hS rfl (fun _ => 0) [] rfl rfl (Or.inr (Or.inr (Or.inl ⟨c_1, c_4, c_5, c_6, c_7, rfl⟩))) (Nat.le_of_ble_eq_true rfl) (Nat.le_of_ble_eq_true rfl) dX11_unit_64
          · refine lv_aload_n C.1 C.2.1 dX11_unit_49 rfl (lv_at hl 0 rfl) ?_
            refine k_get (v := .ref a1) C hP 0 rfl rfl inlX11 3 (by decide) m_2_8 e0_3 dX11_unit_50 ?_
            refine lv_iload_n C.1 C.2.1 dX11_unit_53 rfl (lv_at hl 1 rfl) ?_
            refine k_Vr (As := [.int x1]) (rest := []) C hP hD hS hA (c_X10_paper l D K a1 a2 a3 a4 s1 n1 x1 e1_12 e1_11 e1_10) X0_ok trivial (uwV m_86_21 m_53_22 m_53_23 m_1_20 m_54_0) (hdV 1 (by decide +kernel) rfl) ⟨Nat.le_of_ble_eq_true rfl, Nat.le_of_ble_eq_true rfl⟩ rfl rfl (ci := 9) rfl rfl (isC := [1]) (isR := [0, 2, 3, 4, 5, 6]) (wr := [(a0, .inr (10, s0)), (a2, .inr (3, s2)), (a3, .inr (3, s3)), (a4, .inr (3, s4)), (a5, .inr (5, s5)), (a6, .inl (K 0, 8, .inl (fun _ => 0)))]) ⟨rfl, rfl, rfl, rfl, by decide⟩ rfl hl.1 (Nat.le_of_ble_eq_true rfl) dX11_unit_54 ⟨Nat.le_of_ble_eq_true rfl, Nat.le_of_ble_eq_true rfl⟩ (fun u_8 H locs hw hP hD hS => ?_)
            rcases hw with ⟨c_10, c_11, he_12⟩ | ⟨c_13, c_14, he_15⟩ | ⟨c_16, he_17⟩
            · rw [he_12]
              have hP : va_P D vwCl [(a0, .inr (10, s0)), (a2, .inr (3, s2)), (a3, .inr (3, s3)), (a4, .inr (3, s4)), (a5, .inr (5, s5)), (a6, .inl (K 0, 8, .inl (fun _ => 0))), (a1, .inr (9, s1))] H := hP
              have hD : va_D A [(a0, .inr (10, s0)), (a2, .inr (3, s2)), (a3, .inr (3, s3)), (a4, .inr (3, s4)), (a5, .inr (5, s5)), (a6, .inl (K 0, 8, .inl (fun _ => 0))), (a1, .inr (9, s1))] := hD
              refine k_get (v := .int 0) C hP 1 rfl rfl inlX4 3 (by decide) m_86_20 e2_3 dX11_unit_57 ?_
              refine lv_goto (tgt := 64) C.1 C.2.1 dX11_unit_60 (by decide) ?_
              exact k_iret C hr hlocks hP hD hS rfl (fun _ => 0) [] rfl rfl (Or.inr (Or.inr (Or.inr (Or.inl ⟨c_1, c_4, c_5, c_6, c_7, c_10, c_11, rfl⟩)))) (Nat.le_of_ble_eq_true rfl) (Nat.le_of_ble_eq_true rfl) dX11_unit_64
            · rw [he_15]
              have hP : va_P D vwCl [(a0, .inr (10, s0)), (a2, .inr (3, s2)), (a3, .inr (3, s3)), (a4, .inr (3, s4)), (a5, .inr (5, s5)), (a6, .inl (K 0, 8, .inl (fun _ => 0))), (a1, .inr (9, s1))] H := hP
              have hD : va_D A [(a0, .inr (10, s0)), (a2, .inr (3, s2)), (a3, .inr (3, s3)), (a4, .inr (3, s4)), (a5, .inr (5, s5)), (a6, .inl (K 0, 8, .inl (fun _ => 0))), (a1, .inr (9, s1))] := hD
              refine k_get (v := .int 0) C hP 2 rfl rfl inlX4 3 (by decide) m_86_20 e3_3 dX11_unit_57 ?_
              refine lv_goto (tgt := 64) C.1 C.2.1 dX11_unit_60 (by decide) ?_
              exact k_iret C hr hlocks hP hD hS rfl (fun _ => 0) [] rfl rfl (Or.inr (Or.inr (Or.inr (Or.inr (Or.inl ⟨c_1, c_4, c_5, c_6, c_7, c_13, c_14, rfl⟩))))) (Nat.le_of_ble_eq_true rfl) (Nat.le_of_ble_eq_true rfl) dX11_unit_64
            · rw [he_17]
              have hP : va_P D vwCl [(a0, .inr (10, s0)), (a2, .inr (3, s2)), (a3, .inr (3, s3)), (a4, .inr (3, s4)), (a5, .inr (5, s5)), (a6, .inl (K 0, 8, .inl (fun _ => 0))), (a1, .inr (9, s1))] H := hP
              have hD : va_D A [(a0, .inr (10, s0)), (a2, .inr (3, s2)), (a3, .inr (3, s3)), (a4, .inr (3, s4)), (a5, .inr (5, s5)), (a6, .inl (K 0, 8, .inl (fun _ => 0))), (a1, .inr (9, s1))] := hD
              refine k_get (v := .int 0) C hP 3 rfl rfl inlX4 3 (by decide) m_86_20 e4_3 dX11_unit_57 ?_
              refine lv_goto (tgt := 64) C.1 C.2.1 dX11_unit_60 (by decide) ?_
              exact k_iret C hr hlocks hP hD hS rfl (fun _ => 0) [] rfl rfl (Or.inr (Or.inr (Or.inr (Or.inr (Or.inr (Or.inl ⟨c_1, c_4, c_5, c_6, c_7, c_16, rfl⟩)))))) (Nat.le_of_ble_eq_true rfl) (Nat.le_of_ble_eq_true rfl) dX11_unit_64
      · refine lv_aload_n C.1 C.2.1 dX11_unit_26 rfl (lv_at hl 0 rfl) ?_
        refine k_get (v := .ref a1) C hP 0 rfl rfl inlX11 3 (by decide) m_2_8 e0_3 dX11_unit_27 ?_
        refine k_get (v := .ref a5) C hP 1 rfl rfl inlX10 9 (by decide) m_43_16 e1_9 dX11_unit_30 ?_
        refine k_get (v := .int 0) C hP 5 rfl rfl inlX6 3 (by decide) m_43_17 e5_3 dX11_unit_33 ?_
        exact k_iret C hr hlocks hP hD hS rfl (fun _ => 0) [] rfl rfl (Or.inr (Or.inr (Or.inr (Or.inr (Or.inr (Or.inr (Or.inl ⟨c_1, c_4, c_5, rfl⟩))))))) (Nat.le_of_ble_eq_true rfl) (Nat.le_of_ble_eq_true rfl) dX11_unit_36
    · refine lv_aload_n C.1 C.2.1 dX11_unit_10 rfl (lv_at hl 0 rfl) ?_
      refine k_get (v := .ref a1) C hP 0 rfl rfl inlX11 3 (by decide) m_2_8 e0_3 dX11_unit_11 ?_
      refine k_get (v := .ref a6) C hP 1 rfl rfl inlX10 2 (by decide) m_86_19 e1_2 dX11_unit_14 ?_
      refine lv_iload_n C.1 C.2.1 dX11_unit_17 rfl (lv_at hl 1 rfl) ?_
      refine k_ild (v := 0) C hP 6 rfl (vp_in_iff.mpr (by simp only [Int32.lt_iff_toInt_lt, Int32.le_iff_toInt_le, ← Int32.toInt_inj] at c_1 c_4 ⊢; have k0 : (0 : Int32).toInt = 0 := (by decide); have k1 : (8 : Int32).toInt = 8 := (by decide); exact ⟨by omega, by omega⟩)) rfl dX11_unit_18 ?_
      exact k_iret C hr hlocks hP hD hS rfl (fun _ => 0) [] rfl rfl (Or.inr (Or.inr (Or.inr (Or.inr (Or.inr (Or.inr (Or.inr ⟨c_1, c_4, rfl⟩))))))) (Nat.le_of_ble_eq_true rfl) (Nat.le_of_ble_eq_true rfl) dX11_unit_19
set_option maxHeartbeats 4000000 in
set_option maxRecDepth 100000 in
theorem t_X12_unit (l : Launch) (D : va_G) (K : Nat → ClassId) (a0 : Nat) (a1 : Nat) (a2 : Nat) (s0 : List Value) (n0 : s0.length = 94) (x1 : Int32) (e0_24 : s0[24]? = some (.ref a1)) (e0_36 : s0[36]? = some (.int 0)) (e0_35 : s0[35]? = some (.int 0)) (e0_28 : s0[28]? = some (.ref a2)) : uMet l yX12_unit cX12_unit 2 (some .int) (rmD 1 0 0) D K X0 [.ref a0, .int x1] [(a0, .inr (11, s0)), (a1, .inl (K 0, 8, .inl (fun _ => 0))), (a2, .inl (K 0, 3, .inl (fun _ => 0)))] (QI D K (fun (r : Int32) (u : Nat → Nat) => ((x1 < 17) ∧ (¬ x1 = 16) ∧ (x1 < 0) ∧ r = (-1)) ∨ ((x1 < 17) ∧ (¬ x1 = 16) ∧ (¬ x1 < 0) ∧ (8 ≤ x1) ∧ r = (-1)) ∨ ((x1 < 17) ∧ (¬ x1 = 16) ∧ (¬ x1 < 0) ∧ (¬ 8 ≤ x1) ∧ r = 0) ∨ ((x1 < 17) ∧ (x1 = 16) ∧ r = 0) ∨ ((¬ x1 < 17) ∧ (19 < x1) ∧ r = (-1)) ∨ ((¬ x1 < 17) ∧ (¬ 19 < x1) ∧ r = 0)) (fun (u : Nat → Nat) => [])) 0 0 := by
  refine k_met RX12 ⟨rfl, by decide +kernel⟩ (Nat.le_of_ble_eq_true rfl) ?_
  intro p e s m below meth c A ls C hX hr hlocks hin hA hP hD hS hl
  have hl : lv_has ls 2 [(0, .ref a0), (1, .int x1)] := hl
  refine lv_aload_n C.1 C.2.1 dX12_unit_0 rfl (lv_at hl 0 rfl) ?_
  refine lv_iconst (v := 0) C.1 C.2.1 dX12_unit_1 (by decide) ?_
  refine k_put (ws' := [(a0, .inr (11, (s0.set 0 (.int 0)))), (a1, .inl (K 0, 8, .inl (fun _ => 0))), (a2, .inl (K 0, 3, .inl (fun _ => 0)))]) (v := .int 0) C hP hD hS 0 rfl rfl inlX12 tyX12_ok nmX12 0 (by decide) m_9_18 rfl rfl rfl n0 rfl dX12_unit_2 (fun H locs hP hD hS => ?_)
  refine lv_iload_n C.1 C.2.1 dX12_unit_5 rfl (lv_at hl 1 rfl) ?_
  refine lv_bipush (v := 17) C.1 C.2.1 dX12_unit_6 (by decide) ?_
  refine lv_icmp_lt (tgt := 27) C.1 C.2.1 dX12_unit_8 (by decide) (fun c_1 => ?_) (fun c_1 => ?_)
  · refine lv_iload_n C.1 C.2.1 dX12_unit_27 rfl (lv_at hl 1 rfl) ?_
    refine lv_bipush (v := 16) C.1 C.2.1 dX12_unit_28 (by decide) ?_
    refine lv_icmp_ne (tgt := 38) C.1 C.2.1 dX12_unit_30 (by decide) (fun c_2 => ?_) (fun c_2 => ?_)
    · refine lv_iload_n C.1 C.2.1 dX12_unit_38 rfl (lv_at hl 1 rfl) ?_
      refine lv_if_lt (tgt := 57) C.1 C.2.1 dX12_unit_39 (by decide) (fun c_3 => ?_) (fun c_3 => ?_)
      · refine lv_iconst (v := (-1)) C.1 C.2.1 dX12_unit_57 (by decide) ?_
        exact k_iret C hr hlocks hP hD hS rfl (fun _ => 0) [] rfl rfl (Or.inl ⟨c_1, c_2, c_3, rfl⟩) (Nat.le_of_ble_eq_true rfl) (Nat.le_of_ble_eq_true rfl) dX12_unit_58
      · refine lv_iload_n C.1 C.2.1 dX12_unit_42 rfl (lv_at hl 1 rfl) ?_
        refine lv_bipush (v := 8) C.1 C.2.1 dX12_unit_43 (by decide) ?_
        refine lv_icmp_ge (tgt := 57) C.1 C.2.1 dX12_unit_45 (by decide) (fun c_4 => ?_) (fun c_4 => ?_)
        · refine lv_iconst (v := (-1)) C.1 C.2.1 dX12_unit_57 (by decide) ?_
          exact k_iret C hr hlocks hP hD hS rfl (fun _ => 0) [] rfl rfl (Or.inr (Or.inl ⟨c_1, c_2, c_3, c_4, rfl⟩)) (Nat.le_of_ble_eq_true rfl) (Nat.le_of_ble_eq_true rfl) dX12_unit_58
        · refine lv_aload_n C.1 C.2.1 dX12_unit_48 rfl (lv_at hl 0 rfl) ?_
          refine k_get (v := .ref a1) C hP 0 rfl rfl inlX12 24 (by decide) m_7_14 (sn (by decide) e0_24) dX12_unit_49 ?_
          refine lv_iload_n C.1 C.2.1 dX12_unit_52 rfl (lv_at hl 1 rfl) ?_
          refine k_ild (v := 0) C hP 1 rfl (vp_in_iff.mpr (by simp only [Int32.lt_iff_toInt_lt, Int32.le_iff_toInt_le, ← Int32.toInt_inj] at c_1 c_2 c_3 c_4 ⊢; have k0 : (17 : Int32).toInt = 17 := (by decide); have k1 : (16 : Int32).toInt = 16 := (by decide); have k2 : (0 : Int32).toInt = 0 := (by decide); have k3 : (8 : Int32).toInt = 8 := (by decide); exact ⟨by omega, by omega⟩)) rfl dX12_unit_53 ?_
          refine lv_goto (tgt := 58) C.1 C.2.1 dX12_unit_54 (by decide) ?_
          exact k_iret C hr hlocks hP hD hS rfl (fun _ => 0) [] rfl rfl (Or.inr (Or.inr (Or.inl ⟨c_1, c_2, c_3, c_4, rfl⟩))) (Nat.le_of_ble_eq_true rfl) (Nat.le_of_ble_eq_true rfl) dX12_unit_58
    · refine lv_aload_n C.1 C.2.1 dX12_unit_33 rfl (lv_at hl 0 rfl) ?_
      refine k_Vi (As := []) (rest := []) C hP hD hS hA (c_X12_cardsLeft l D K a0 ((s0.set 0 (.int 0))) (sl n0) (sn (by decide) e0_36) (sn (by decide) e0_35)) X0_ok trivial (uwV m_44_12 m_44_13 m_44_14 m_1_5 m_44_15) (hdV 0 (by decide +kernel) rfl) ⟨Nat.le_of_ble_eq_true rfl, Nat.le_of_ble_eq_true rfl⟩ rfl rfl (ci := 11) rfl rfl (isC := [0]) (isR := [1, 2]) (wr := [(a1, .inl (K 0, 8, .inl (fun _ => 0))), (a2, .inl (K 0, 3, .inl (fun _ => 0)))]) ⟨rfl, rfl, rfl, rfl, by decide⟩ rfl hl.1 (Nat.le_of_ble_eq_true rfl) dX12_unit_34 ⟨Nat.le_of_ble_eq_true rfl, Nat.le_of_ble_eq_true rfl⟩ (fun r_6 u_5 H locs hw hP hD hS => ?_)
      obtain rfl := hw
      have hP : va_P D vwCl [(a1, .inl (K 0, 8, .inl (fun _ => 0))), (a2, .inl (K 0, 3, .inl (fun _ => 0))), (a0, .inr (11, (s0.set 0 (.int 0))))] H := hP
      have hD : va_D A [(a1, .inl (K 0, 8, .inl (fun _ => 0))), (a2, .inl (K 0, 3, .inl (fun _ => 0))), (a0, .inr (11, (s0.set 0 (.int 0))))] := hD
      exact k_iret C hr hlocks hP hD hS rfl (fun _ => 0) [] rfl rfl (Or.inr (Or.inr (Or.inr (Or.inl ⟨c_1, c_2, rfl⟩)))) (Nat.le_of_ble_eq_true rfl) (Nat.le_of_ble_eq_true rfl) dX12_unit_37
  · refine lv_iload_n C.1 C.2.1 dX12_unit_11 rfl (lv_at hl 1 rfl) ?_
    refine lv_bipush (v := 19) C.1 C.2.1 dX12_unit_12 (by decide) ?_
    refine lv_icmp_gt (tgt := 27) C.1 C.2.1 dX12_unit_14 (by decide) (fun c_7 => ?_) (fun c_7 => ?_)
    · refine lv_iload_n C.1 C.2.1 dX12_unit_27 rfl (lv_at hl 1 rfl) ?_
      refine lv_bipush (v := 16) C.1 C.2.1 dX12_unit_28 (by decide) ?_
      refine lv_icmp_ne (tgt := 38) C.1 C.2.1 dX12_unit_30 (by decide) (fun _ => ?_) (fun h => absurd h (by simp only [Int32.lt_iff_toInt_lt, Int32.le_iff_toInt_le, ← Int32.toInt_inj] at c_1 c_7 ⊢; have k0 : (17 : Int32).toInt = 17 := (by decide); have k1 : (19 : Int32).toInt = 19 := (by decide); have k2 : (16 : Int32).toInt = 16 := (by decide); omega))
      refine lv_iload_n C.1 C.2.1 dX12_unit_38 rfl (lv_at hl 1 rfl) ?_
      refine lv_if_lt (tgt := 57) C.1 C.2.1 dX12_unit_39 (by decide) (fun h => absurd h (by simp only [Int32.lt_iff_toInt_lt, Int32.le_iff_toInt_le, ← Int32.toInt_inj] at c_1 c_7 ⊢; have k0 : (17 : Int32).toInt = 17 := (by decide); have k1 : (19 : Int32).toInt = 19 := (by decide); have k2 : (0 : Int32).toInt = 0 := (by decide); omega)) (fun _ => ?_)
      refine lv_iload_n C.1 C.2.1 dX12_unit_42 rfl (lv_at hl 1 rfl) ?_
      refine lv_bipush (v := 8) C.1 C.2.1 dX12_unit_43 (by decide) ?_
      refine lv_icmp_ge (tgt := 57) C.1 C.2.1 dX12_unit_45 (by decide) (fun _ => ?_) (fun h => absurd (by simp only [Int32.lt_iff_toInt_lt, Int32.le_iff_toInt_le, ← Int32.toInt_inj] at c_1 c_7 ⊢; have k0 : (17 : Int32).toInt = 17 := (by decide); have k1 : (19 : Int32).toInt = 19 := (by decide); have k2 : (8 : Int32).toInt = 8 := (by decide); omega) h)
      refine lv_iconst (v := (-1)) C.1 C.2.1 dX12_unit_57 (by decide) ?_
      exact k_iret C hr hlocks hP hD hS rfl (fun _ => 0) [] rfl rfl (Or.inr (Or.inr (Or.inr (Or.inr (Or.inl ⟨c_1, c_7, rfl⟩))))) (Nat.le_of_ble_eq_true rfl) (Nat.le_of_ble_eq_true rfl) dX12_unit_58
    · refine lv_aload_n C.1 C.2.1 dX12_unit_17 rfl (lv_at hl 0 rfl) ?_
      refine k_get (v := .ref a2) C hP 0 rfl rfl inlX12 28 (by decide) m_7_20 (sn (by decide) e0_28) dX12_unit_18 ?_
      refine lv_iload_n C.1 C.2.1 dX12_unit_21 rfl (lv_at hl 1 rfl) ?_
      refine lv_bipush (v := 17) C.1 C.2.1 dX12_unit_22 (by decide) ?_
      refine k_isub (v := (x1 - 17)) C rfl dX12_unit_24 ?_
      refine k_ild (v := 0) C hP 2 rfl (vp_in_iff.mpr (by simp only [Int32.lt_iff_toInt_lt, Int32.le_iff_toInt_le, ← Int32.toInt_inj] at c_1 c_7 ⊢; have k0 : (17 : Int32).toInt = 17 := (by decide); have k1 : (19 : Int32).toInt = 19 := (by decide); have k2 := ti_isub (x := x1) (y := 17) (by omega) (by omega); exact ⟨by omega, by omega⟩)) rfl dX12_unit_25 ?_
      exact k_iret C hr hlocks hP hD hS rfl (fun _ => 0) [] rfl rfl (Or.inr (Or.inr (Or.inr (Or.inr (Or.inr ⟨c_1, c_7, rfl⟩))))) (Nat.le_of_ble_eq_true rfl) (Nat.le_of_ble_eq_true rfl) dX12_unit_26
set_option maxHeartbeats 4000000 in
set_option maxRecDepth 100000 in
theorem c_X4_letterAt (l : Launch) (D : va_G) (K : Nat → ClassId) (a0 : Nat) (s0 : List Value) (n0 : s0.length = 4) (x1 : Int32) (x2 : Int32) (e0_3 : s0[3]? = some (.int 0)) : uMet l yX4_letterAt cX4_letterAt 3 (some .int) (rmD 0 0 0) D K X0 [.ref a0, .int x1, .int x2] [(a0, .inr (3, s0))] (QI D K (fun (r : Int32) (u : Nat → Nat) => r = (-1)) (fun (u : Nat → Nat) => [(a0, .inr (3, s0))])) 0 0 := by
  refine k_met RX4 ⟨rfl, by decide +kernel⟩ (Nat.le_of_ble_eq_true rfl) ?_
  intro p e s m below meth c A ls C hX hr hlocks hin hA hP hD hS hl
  have hl : lv_has ls 3 [(0, .ref a0), (1, .int x1), (2, .int x2)] := hl
  refine lv_iload_n C.1 C.2.1 dX4_letterAt_0 rfl (lv_at hl 1 rfl) ?_
  refine lv_if_lt (tgt := 35) C.1 C.2.1 dX4_letterAt_1 (by decide) (fun c_1 => ?_) (fun c_1 => ?_)
  · refine lv_iconst (v := (-1)) C.1 C.2.1 dX4_letterAt_35 (by decide) ?_
    exact k_iret C hr hlocks hP hD hS rfl (fun _ => 0) [0] rfl rfl rfl (Nat.le_of_ble_eq_true rfl) (Nat.le_of_ble_eq_true rfl) dX4_letterAt_36
  · refine lv_iload_n C.1 C.2.1 dX4_letterAt_4 rfl (lv_at hl 1 rfl) ?_
    refine lv_aload_n C.1 C.2.1 dX4_letterAt_5 rfl (lv_at hl 0 rfl) ?_
    refine k_get (v := .int 0) C hP 0 rfl rfl inlX4 3 (by decide) m_41_11 e0_3 dX4_letterAt_6 ?_
    refine lv_icmp_ge (tgt := 35) C.1 C.2.1 dX4_letterAt_9 (by decide) (fun _ => ?_) (fun h => absurd (by simp only [Int32.lt_iff_toInt_lt, Int32.le_iff_toInt_le, ← Int32.toInt_inj] at c_1 ⊢; have k0 : (0 : Int32).toInt = 0 := (by decide); omega) h)
    refine lv_iconst (v := (-1)) C.1 C.2.1 dX4_letterAt_35 (by decide) ?_
    exact k_iret C hr hlocks hP hD hS rfl (fun _ => 0) [0] rfl rfl rfl (Nat.le_of_ble_eq_true rfl) (Nat.le_of_ble_eq_true rfl) dX4_letterAt_36
set_option maxHeartbeats 4000000 in
set_option maxRecDepth 100000 in
theorem t_X11_letter (l : Launch) (D : va_G) (K : Nat → ClassId) (a0 : Nat) (a1 : Nat) (a2 : Nat) (a3 : Nat) (a4 : Nat) (s0 : List Value) (n0 : s0.length = 8) (s1 : List Value) (n1 : s1.length = 13) (s2 : List Value) (n2 : s2.length = 4) (s3 : List Value) (n3 : s3.length = 4) (s4 : List Value) (n4 : s4.length = 4) (x1 : Int32) (x2 : Int32) (x3 : Int32) (e0_3 : s0[3]? = some (.ref a1)) (e1_12 : s1[12]? = some (.ref a2)) (e1_11 : s1[11]? = some (.ref a3)) (e1_10 : s1[10]? = some (.ref a4)) (e2_3 : s2[3]? = some (.int 0)) (e3_3 : s3[3]? = some (.int 0)) (e4_3 : s4[3]? = some (.int 0)) : uMet l yX11_letter cX11_letter 4 (some .int) (rmD 1 0 0) D K X0 [.ref a0, .int x1, .int x2, .int x3] [(a0, .inr (10, s0)), (a1, .inr (9, s1)), (a2, .inr (3, s2)), (a3, .inr (3, s3)), (a4, .inr (3, s4))] (QI D K (fun (r : Int32) (u : Nat → Nat) => r = (-1)) (fun (u : Nat → Nat) => [])) 0 0 := by
  refine k_met RX11 ⟨rfl, by decide +kernel⟩ (Nat.le_of_ble_eq_true rfl) ?_
  intro p e s m below meth c A ls C hX hr hlocks hin hA hP hD hS hl
  have hl : lv_has ls 4 [(0, .ref a0), (1, .int x1), (2, .int x2), (3, .int x3)] := hl
  refine lv_iload_n C.1 C.2.1 dX11_letter_0 rfl (lv_at hl 1 rfl) ?_
  refine lv_bipush (v := 17) C.1 C.2.1 dX11_letter_1 (by decide) ?_
  refine lv_icmp_lt (tgt := 28) C.1 C.2.1 dX11_letter_3 (by decide) (fun c_1 => ?_) (fun c_1 => ?_)
  · refine lv_iconst (v := (-1)) C.1 C.2.1 dX11_letter_28 (by decide) ?_
    exact k_iret C hr hlocks hP hD hS rfl (fun _ => 0) [] rfl rfl rfl (Nat.le_of_ble_eq_true rfl) (Nat.le_of_ble_eq_true rfl) dX11_letter_29
  · refine lv_iload_n C.1 C.2.1 dX11_letter_6 rfl (lv_at hl 1 rfl) ?_
    refine lv_bipush (v := 19) C.1 C.2.1 dX11_letter_7 (by decide) ?_
    refine lv_icmp_gt (tgt := 28) C.1 C.2.1 dX11_letter_9 (by decide) (fun c_2 => ?_) (fun c_2 => ?_)
    · refine lv_iconst (v := (-1)) C.1 C.2.1 dX11_letter_28 (by decide) ?_
      exact k_iret C hr hlocks hP hD hS rfl (fun _ => 0) [] rfl rfl rfl (Nat.le_of_ble_eq_true rfl) (Nat.le_of_ble_eq_true rfl) dX11_letter_29
    · refine lv_aload_n C.1 C.2.1 dX11_letter_12 rfl (lv_at hl 0 rfl) ?_
      refine k_get (v := .ref a1) C hP 0 rfl rfl inlX11 3 (by decide) m_2_8 e0_3 dX11_letter_13 ?_
      refine lv_iload_n C.1 C.2.1 dX11_letter_16 rfl (lv_at hl 1 rfl) ?_
      refine k_Vr (As := [.int x1]) (rest := []) C hP hD hS hA (c_X10_paper l D K a1 a2 a3 a4 s1 n1 x1 e1_12 e1_11 e1_10) X0_ok trivial (uwV m_86_21 m_53_22 m_53_23 m_1_20 m_54_0) (hdV 1 (by decide +kernel) rfl) ⟨Nat.le_of_ble_eq_true rfl, Nat.le_of_ble_eq_true rfl⟩ rfl rfl (ci := 9) rfl rfl (isC := [1]) (isR := [0, 2, 3, 4]) (wr := [(a0, .inr (10, s0)), (a2, .inr (3, s2)), (a3, .inr (3, s3)), (a4, .inr (3, s4))]) ⟨rfl, rfl, rfl, rfl, by decide⟩ rfl hl.1 (Nat.le_of_ble_eq_true rfl) dX11_letter_17 ⟨Nat.le_of_ble_eq_true rfl, Nat.le_of_ble_eq_true rfl⟩ (fun u_3 H locs hw hP hD hS => ?_)
      rcases hw with ⟨c_5, c_6, he_7⟩ | ⟨c_8, c_9, he_10⟩ | ⟨c_11, he_12⟩
      · rw [he_7]
        have hP : va_P D vwCl [(a0, .inr (10, s0)), (a2, .inr (3, s2)), (a3, .inr (3, s3)), (a4, .inr (3, s4)), (a1, .inr (9, s1))] H := hP
        have hD : va_D A [(a0, .inr (10, s0)), (a2, .inr (3, s2)), (a3, .inr (3, s3)), (a4, .inr (3, s4)), (a1, .inr (9, s1))] := hD
        refine lv_iload_n C.1 C.2.1 dX11_letter_20 rfl (lv_at hl 2 rfl) ?_
        refine lv_iload_n C.1 C.2.1 dX11_letter_21 rfl (lv_at hl 3 rfl) ?_
        refine k_Vi (As := [.int x2, .int x3]) (rest := []) C hP hD hS hA (c_X4_letterAt l D K a2 s2 n2 x2 x3 e2_3) X0_ok trivial (uwV m_87_6 m_87_7 m_87_8 m_3_20 m_87_9) (hdV 2 (by decide +kernel) rfl) ⟨Nat.le_of_ble_eq_true rfl, Nat.le_of_ble_eq_true rfl⟩ rfl rfl (ci := 3) rfl rfl (isC := [1]) (isR := [0, 2, 3, 4]) (wr := [(a0, .inr (10, s0)), (a3, .inr (3, s3)), (a4, .inr (3, s4)), (a1, .inr (9, s1))]) ⟨rfl, rfl, rfl, rfl, by decide⟩ rfl hl.1 (Nat.le_of_ble_eq_true rfl) dX11_letter_22 ⟨Nat.le_of_ble_eq_true rfl, Nat.le_of_ble_eq_true rfl⟩ (fun r_14 u_13 H locs hw hP hD hS => ?_)
        obtain rfl := hw
        have hP : va_P D vwCl [(a0, .inr (10, s0)), (a3, .inr (3, s3)), (a4, .inr (3, s4)), (a1, .inr (9, s1)), (a2, .inr (3, s2))] H := hP
        have hD : va_D A [(a0, .inr (10, s0)), (a3, .inr (3, s3)), (a4, .inr (3, s4)), (a1, .inr (9, s1)), (a2, .inr (3, s2))] := hD
        refine lv_goto (tgt := 29) C.1 C.2.1 dX11_letter_25 (by decide) ?_
        exact k_iret C hr hlocks hP hD hS rfl (fun _ => 0) [] rfl rfl rfl (Nat.le_of_ble_eq_true rfl) (Nat.le_of_ble_eq_true rfl) dX11_letter_29
      · rw [he_10]
        have hP : va_P D vwCl [(a0, .inr (10, s0)), (a2, .inr (3, s2)), (a3, .inr (3, s3)), (a4, .inr (3, s4)), (a1, .inr (9, s1))] H := hP
        have hD : va_D A [(a0, .inr (10, s0)), (a2, .inr (3, s2)), (a3, .inr (3, s3)), (a4, .inr (3, s4)), (a1, .inr (9, s1))] := hD
        refine lv_iload_n C.1 C.2.1 dX11_letter_20 rfl (lv_at hl 2 rfl) ?_
        refine lv_iload_n C.1 C.2.1 dX11_letter_21 rfl (lv_at hl 3 rfl) ?_
        refine k_Vi (As := [.int x2, .int x3]) (rest := []) C hP hD hS hA (c_X4_letterAt l D K a3 s3 n3 x2 x3 e3_3) X0_ok trivial (uwV m_87_6 m_87_7 m_87_8 m_3_20 m_87_9) (hdV 2 (by decide +kernel) rfl) ⟨Nat.le_of_ble_eq_true rfl, Nat.le_of_ble_eq_true rfl⟩ rfl rfl (ci := 3) rfl rfl (isC := [2]) (isR := [0, 1, 3, 4]) (wr := [(a0, .inr (10, s0)), (a2, .inr (3, s2)), (a4, .inr (3, s4)), (a1, .inr (9, s1))]) ⟨rfl, rfl, rfl, rfl, by decide⟩ rfl hl.1 (Nat.le_of_ble_eq_true rfl) dX11_letter_22 ⟨Nat.le_of_ble_eq_true rfl, Nat.le_of_ble_eq_true rfl⟩ (fun r_16 u_15 H locs hw hP hD hS => ?_)
        obtain rfl := hw
        have hP : va_P D vwCl [(a0, .inr (10, s0)), (a2, .inr (3, s2)), (a4, .inr (3, s4)), (a1, .inr (9, s1)), (a3, .inr (3, s3))] H := hP
        have hD : va_D A [(a0, .inr (10, s0)), (a2, .inr (3, s2)), (a4, .inr (3, s4)), (a1, .inr (9, s1)), (a3, .inr (3, s3))] := hD
        refine lv_goto (tgt := 29) C.1 C.2.1 dX11_letter_25 (by decide) ?_
        exact k_iret C hr hlocks hP hD hS rfl (fun _ => 0) [] rfl rfl rfl (Nat.le_of_ble_eq_true rfl) (Nat.le_of_ble_eq_true rfl) dX11_letter_29
      · rw [he_12]
        have hP : va_P D vwCl [(a0, .inr (10, s0)), (a2, .inr (3, s2)), (a3, .inr (3, s3)), (a4, .inr (3, s4)), (a1, .inr (9, s1))] H := hP
        have hD : va_D A [(a0, .inr (10, s0)), (a2, .inr (3, s2)), (a3, .inr (3, s3)), (a4, .inr (3, s4)), (a1, .inr (9, s1))] := hD
        refine lv_iload_n C.1 C.2.1 dX11_letter_20 rfl (lv_at hl 2 rfl) ?_
        refine lv_iload_n C.1 C.2.1 dX11_letter_21 rfl (lv_at hl 3 rfl) ?_
        refine k_Vi (As := [.int x2, .int x3]) (rest := []) C hP hD hS hA (c_X4_letterAt l D K a4 s4 n4 x2 x3 e4_3) X0_ok trivial (uwV m_87_6 m_87_7 m_87_8 m_3_20 m_87_9) (hdV 2 (by decide +kernel) rfl) ⟨Nat.le_of_ble_eq_true rfl, Nat.le_of_ble_eq_true rfl⟩ rfl rfl (ci := 3) rfl rfl (isC := [3]) (isR := [0, 1, 2, 4]) (wr := [(a0, .inr (10, s0)), (a2, .inr (3, s2)), (a3, .inr (3, s3)), (a1, .inr (9, s1))]) ⟨rfl, rfl, rfl, rfl, by decide⟩ rfl hl.1 (Nat.le_of_ble_eq_true rfl) dX11_letter_22 ⟨Nat.le_of_ble_eq_true rfl, Nat.le_of_ble_eq_true rfl⟩ (fun r_18 u_17 H locs hw hP hD hS => ?_)
        obtain rfl := hw
        have hP : va_P D vwCl [(a0, .inr (10, s0)), (a2, .inr (3, s2)), (a3, .inr (3, s3)), (a1, .inr (9, s1)), (a4, .inr (3, s4))] H := hP
        have hD : va_D A [(a0, .inr (10, s0)), (a2, .inr (3, s2)), (a3, .inr (3, s3)), (a1, .inr (9, s1)), (a4, .inr (3, s4))] := hD
        refine lv_goto (tgt := 29) C.1 C.2.1 dX11_letter_25 (by decide) ?_
        exact k_iret C hr hlocks hP hD hS rfl (fun _ => 0) [] rfl rfl rfl (Nat.le_of_ble_eq_true rfl) (Nat.le_of_ble_eq_true rfl) dX11_letter_29
set_option maxHeartbeats 4000000 in
set_option maxRecDepth 100000 in
theorem t_X12_letter (l : Launch) (D : va_G) (K : Nat → ClassId) (a0 : Nat) (a1 : Nat) (s0 : List Value) (n0 : s0.length = 94) (x1 : Int32) (x2 : Int32) (x3 : Int32) (e0_28 : s0[28]? = some (.ref a1)) : uMet l yX12_letter cX12_letter 5 (some .int) (rmD 0 0 0) D K X0 [.ref a0, .int x1, .int x2, .int x3] [(a0, .inr (11, s0)), (a1, .inl (K 0, 3, .inl (fun _ => 0)))] (QI D K (fun (r : Int32) (u : Nat → Nat) => r = (-1)) (fun (u : Nat → Nat) => [])) 0 0 := by
  refine k_met RX12 ⟨rfl, by decide +kernel⟩ (Nat.le_of_ble_eq_true rfl) ?_
  intro p e s m below meth c A ls C hX hr hlocks hin hA hP hD hS hl
  have hl : lv_has ls 5 [(0, .ref a0), (1, .int x1), (2, .int x2), (3, .int x3)] := hl
  refine lv_aload_n C.1 C.2.1 dX12_letter_0 rfl (lv_at hl 0 rfl) ?_
  refine lv_iconst (v := 0) C.1 C.2.1 dX12_letter_1 (by decide) ?_
  refine k_put (ws' := [(a0, .inr (11, (s0.set 0 (.int 0)))), (a1, .inl (K 0, 3, .inl (fun _ => 0)))]) (v := .int 0) C hP hD hS 0 rfl rfl inlX12 tyX12_ok nmX12 0 (by decide) m_9_18 rfl rfl rfl n0 rfl dX12_letter_2 (fun H locs hP hD hS => ?_)
  refine lv_iload_n C.1 C.2.1 dX12_letter_5 rfl (lv_at hl 1 rfl) ?_
  refine lv_bipush (v := 17) C.1 C.2.1 dX12_letter_6 (by decide) ?_
  refine lv_icmp_lt (tgt := 25) C.1 C.2.1 dX12_letter_8 (by decide) (fun c_1 => ?_) (fun c_1 => ?_)
  · refine lv_iconst (v := (-1)) C.1 C.2.1 dX12_letter_25 (by decide) ?_
    exact k_iret C hr hlocks hP hD hS rfl (fun _ => 0) [] rfl rfl rfl (Nat.le_of_ble_eq_true rfl) (Nat.le_of_ble_eq_true rfl) dX12_letter_26
  · refine lv_iload_n C.1 C.2.1 dX12_letter_11 rfl (lv_at hl 1 rfl) ?_
    refine lv_bipush (v := 19) C.1 C.2.1 dX12_letter_12 (by decide) ?_
    refine lv_icmp_gt (tgt := 25) C.1 C.2.1 dX12_letter_14 (by decide) (fun c_2 => ?_) (fun c_2 => ?_)
    · refine lv_iconst (v := (-1)) C.1 C.2.1 dX12_letter_25 (by decide) ?_
      exact k_iret C hr hlocks hP hD hS rfl (fun _ => 0) [] rfl rfl rfl (Nat.le_of_ble_eq_true rfl) (Nat.le_of_ble_eq_true rfl) dX12_letter_26
    · refine lv_iload_n C.1 C.2.1 dX12_letter_17 rfl (lv_at hl 2 rfl) ?_
      refine lv_if_lt (tgt := 25) C.1 C.2.1 dX12_letter_18 (by decide) (fun c_3 => ?_) (fun c_3 => ?_)
      · refine lv_iconst (v := (-1)) C.1 C.2.1 dX12_letter_25 (by decide) ?_
        exact k_iret C hr hlocks hP hD hS rfl (fun _ => 0) [] rfl rfl rfl (Nat.le_of_ble_eq_true rfl) (Nat.le_of_ble_eq_true rfl) dX12_letter_26
      · refine lv_iload_n C.1 C.2.1 dX12_letter_21 rfl (lv_at hl 3 rfl) ?_
        refine lv_if_ge (tgt := 27) C.1 C.2.1 dX12_letter_22 (by decide) (fun c_4 => ?_) (fun c_4 => ?_)
        · refine lv_iload_n C.1 C.2.1 dX12_letter_27 rfl (lv_at hl 2 rfl) ?_
          refine lv_aload_n C.1 C.2.1 dX12_letter_28 rfl (lv_at hl 0 rfl) ?_
          refine k_get (v := .ref a1) C hP 0 rfl rfl inlX12 28 (by decide) m_7_20 (sn (by decide) e0_28) dX12_letter_29 ?_
          refine lv_iload_n C.1 C.2.1 dX12_letter_32 rfl (lv_at hl 1 rfl) ?_
          refine lv_bipush (v := 17) C.1 C.2.1 dX12_letter_33 (by decide) ?_
          refine k_isub (v := (x1 - 17)) C rfl dX12_letter_35 ?_
          refine k_ild (v := 0) C hP 1 rfl (vp_in_iff.mpr (by simp only [Int32.lt_iff_toInt_lt, Int32.le_iff_toInt_le, ← Int32.toInt_inj] at c_1 c_2 c_3 c_4 ⊢; have k0 : (17 : Int32).toInt = 17 := (by decide); have k1 : (19 : Int32).toInt = 19 := (by decide); have k2 : (0 : Int32).toInt = 0 := (by decide); have k3 := ti_isub (x := x1) (y := 17) (by omega) (by omega); exact ⟨by omega, by omega⟩)) rfl dX12_letter_36 ?_
          refine lv_icmp_lt (tgt := 42) C.1 C.2.1 dX12_letter_37 (by decide) (fun h => absurd h c_3) (fun _ => ?_)
          refine lv_iconst (v := (-1)) C.1 C.2.1 dX12_letter_40 (by decide) ?_
          exact k_iret C hr hlocks hP hD hS rfl (fun _ => 0) [] rfl rfl rfl (Nat.le_of_ble_eq_true rfl) (Nat.le_of_ble_eq_true rfl) dX12_letter_41
        · refine lv_iconst (v := (-1)) C.1 C.2.1 dX12_letter_25 (by decide) ?_
          exact k_iret C hr hlocks hP hD hS rfl (fun _ => 0) [] rfl rfl rfl (Nat.le_of_ble_eq_true rfl) (Nat.le_of_ble_eq_true rfl) dX12_letter_26
set_option maxHeartbeats 4000000 in
set_option maxRecDepth 100000 in
theorem t_X11_tear (l : Launch) (D : va_G) (K : Nat → ClassId) (a0 : Nat) (a1 : Nat) (a2 : Nat) (a3 : Nat) (a4 : Nat) (s0 : List Value) (n0 : s0.length = 8) (s1 : List Value) (n1 : s1.length = 13) (s2 : List Value) (n2 : s2.length = 4) (s3 : List Value) (n3 : s3.length = 4) (s4 : List Value) (n4 : s4.length = 4) (e0_3 : s0[3]? = some (.ref a1)) (e1_10 : s1[10]? = some (.ref a2)) (e1_11 : s1[11]? = some (.ref a3)) (e1_12 : s1[12]? = some (.ref a4)) : uMet l yX11_tear cX11_tear 1 none (rmD 0 0 0) D K X0 [.ref a0] [(a0, .inr (10, s0)), (a1, .inr (9, s1)), (a2, .inr (3, s2)), (a3, .inr (3, s3)), (a4, .inr (3, s4))] (QV D K (fun (u : Nat → Nat) => True) (fun (u : Nat → Nat) => [])) 0 0 := by
  refine k_met RX11 ⟨rfl, by decide +kernel⟩ (Nat.le_of_ble_eq_true rfl) ?_
  intro p e s m below meth c A ls C hX hr hlocks hin hA hP hD hS hl
  have hl : lv_has ls 1 [(0, .ref a0)] := hl
  refine lv_aload_n C.1 C.2.1 dX11_tear_0 rfl (lv_at hl 0 rfl) ?_
  refine k_get (v := .ref a1) C hP 0 rfl rfl inlX11 3 (by decide) m_2_8 e0_3 dX11_tear_1 ?_
  refine k_get (v := .ref a2) C hP 1 rfl rfl inlX10 10 (by decide) m_88_6 e1_10 dX11_tear_4 ?_
  refine lv_iconst (v := 0) C.1 C.2.1 dX11_tear_7 (by decide) ?_
  refine k_put (ws' := [(a0, .inr (10, s0)), (a1, .inr (9, s1)), (a2, .inr (3, (s2.set 3 (.int 0)))), (a3, .inr (3, s3)), (a4, .inr (3, s4))]) (v := .int 0) C hP hD hS 2 rfl rfl inlX4 tyX4_ok nmX4 3 (by decide) m_86_20 rfl rfl rfl n2 rfl dX11_tear_8 (fun H locs hP hD hS => ?_)
  refine lv_aload_n C.1 C.2.1 dX11_tear_11 rfl (lv_at hl 0 rfl) ?_
  refine k_get (v := .ref a1) C hP 0 rfl rfl inlX11 3 (by decide) m_2_8 e0_3 dX11_tear_12 ?_
  refine k_get (v := .ref a3) C hP 1 rfl rfl inlX10 11 (by decide) m_88_7 e1_11 dX11_tear_15 ?_
  refine lv_iconst (v := 0) C.1 C.2.1 dX11_tear_18 (by decide) ?_
  refine k_put (ws' := [(a0, .inr (10, s0)), (a1, .inr (9, s1)), (a2, .inr (3, (s2.set 3 (.int 0)))), (a3, .inr (3, (s3.set 3 (.int 0)))), (a4, .inr (3, s4))]) (v := .int 0) C hP hD hS 3 rfl rfl inlX4 tyX4_ok nmX4 3 (by decide) m_86_20 rfl rfl rfl n3 rfl dX11_tear_19 (fun H locs hP hD hS => ?_)
  refine lv_aload_n C.1 C.2.1 dX11_tear_22 rfl (lv_at hl 0 rfl) ?_
  refine k_get (v := .ref a1) C hP 0 rfl rfl inlX11 3 (by decide) m_2_8 e0_3 dX11_tear_23 ?_
  refine k_get (v := .ref a4) C hP 1 rfl rfl inlX10 12 (by decide) m_88_8 e1_12 dX11_tear_26 ?_
  refine lv_iconst (v := 0) C.1 C.2.1 dX11_tear_29 (by decide) ?_
  refine k_put (ws' := [(a0, .inr (10, s0)), (a1, .inr (9, s1)), (a2, .inr (3, (s2.set 3 (.int 0)))), (a3, .inr (3, (s3.set 3 (.int 0)))), (a4, .inr (3, (s4.set 3 (.int 0))))]) (v := .int 0) C hP hD hS 4 rfl rfl inlX4 tyX4_ok nmX4 3 (by decide) m_86_20 rfl rfl rfl n4 rfl dX11_tear_30 (fun H locs hP hD hS => ?_)
  exact k_vret C hr hlocks hP hD hS (fun _ => 0) [] rfl rfl trivial (Nat.le_of_ble_eq_true rfl) (Nat.le_of_ble_eq_true rfl) dX11_tear_33
set_option maxHeartbeats 4000000 in
set_option maxRecDepth 100000 in
theorem t_X12_tear (l : Launch) (D : va_G) (K : Nat → ClassId) (a0 : Nat) (a1 : Nat) (s0 : List Value) (n0 : s0.length = 94) (f1 : Nat → Int32) (e0_28 : s0[28]? = some (.ref a1)) : uMet l yX12_tear cX12_tear 2 none (rmD 0 0 0) D K X0 [.ref a0] [(a0, .inr (11, s0)), (a1, .inl (K 0, 3, .inl f1))] (QV D K (fun (u : Nat → Nat) => True) (fun (u : Nat → Nat) => [])) 0 0 := by
  refine k_met RX12 ⟨rfl, by decide +kernel⟩ (Nat.le_of_ble_eq_true rfl) ?_
  intro p e s m below meth c A ls C hX hr hlocks hin hA hP hD hS hl
  have hl : lv_has ls 2 [(0, .ref a0)] := hl
  refine lv_aload_n C.1 C.2.1 dX12_tear_0 rfl (lv_at hl 0 rfl) ?_
  refine lv_iconst (v := 0) C.1 C.2.1 dX12_tear_1 (by decide) ?_
  refine k_put (ws' := [(a0, .inr (11, (s0.set 0 (.int 0)))), (a1, .inl (K 0, 3, .inl f1))]) (v := .int 0) C hP hD hS 0 rfl rfl inlX12 tyX12_ok nmX12 0 (by decide) m_9_18 rfl rfl rfl n0 rfl dX12_tear_2 (fun H locs hP hD hS => ?_)
  refine lv_iconst (v := 0) C.1 C.2.1 dX12_tear_5 (by decide) ?_
  refine lv_istore_n (lv' := [(1, .int 0), (0, .ref a0)]) C.1 C.2.1 dX12_tear_6 rfl hl (by decide) rfl (fun ls hl => ?_)
  refine lv_iload_n C.1 C.2.1 dX12_tear_7 rfl (lv_at hl 0 rfl) ?_
  refine lv_iconst (v := 3) C.1 C.2.1 dX12_tear_8 (by decide) ?_
  refine lv_icmp_ge (tgt := 25) C.1 C.2.1 dX12_tear_9 (by decide) (fun h => absurd h (by decide)) (fun _ => ?_)
  refine lv_aload_n C.1 C.2.1 dX12_tear_12 rfl (lv_at hl 1 rfl) ?_
  refine k_get (v := .ref a1) C hP 0 rfl rfl inlX12 28 (by decide) m_7_20 (sn (by decide) e0_28) dX12_tear_13 ?_
  refine lv_iload_n C.1 C.2.1 dX12_tear_16 rfl (lv_at hl 0 rfl) ?_
  refine lv_iconst (v := 0) C.1 C.2.1 dX12_tear_17 (by decide) ?_
  refine k_ist (ws' := [(a0, .inr (11, (s0.set 0 (.int 0)))), (a1, .inl (K 0, 3, .inl (upd f1 0 0)))]) (j := 0) (x' := 0) C hP hD hS 1 rfl (vin (by decide)) (by decide) rfl rfl dX12_tear_18 (fun H locs hP hD hS => ?_)
  refine lv_iinc (v := 1) (lv' := [(1, .int 1), (0, .ref a0)]) C.1 C.2.1 dX12_tear_19 hl (k := 0) rfl (by decide) (by decide) rfl (fun ls hl => ?_)
  refine lv_goto (tgt := 7) C.1 C.2.1 dX12_tear_22 (by decide) ?_
  refine lv_iload_n C.1 C.2.1 dX12_tear_7 rfl (lv_at hl 0 rfl) ?_
  refine lv_iconst (v := 3) C.1 C.2.1 dX12_tear_8 (by decide) ?_
  refine lv_icmp_ge (tgt := 25) C.1 C.2.1 dX12_tear_9 (by decide) (fun h => absurd h (by decide)) (fun _ => ?_)
  refine lv_aload_n C.1 C.2.1 dX12_tear_12 rfl (lv_at hl 1 rfl) ?_
  refine k_get (v := .ref a1) C hP 0 rfl rfl inlX12 28 (by decide) m_7_20 (sn (by decide) e0_28) dX12_tear_13 ?_
  refine lv_iload_n C.1 C.2.1 dX12_tear_16 rfl (lv_at hl 0 rfl) ?_
  refine lv_iconst (v := 0) C.1 C.2.1 dX12_tear_17 (by decide) ?_
  refine k_ist (ws' := [(a0, .inr (11, (s0.set 0 (.int 0)))), (a1, .inl (K 0, 3, .inl (upd (upd f1 0 0) 1 0)))]) (j := 1) (x' := 0) C hP hD hS 1 rfl (vin (by decide)) (by decide) rfl rfl dX12_tear_18 (fun H locs hP hD hS => ?_)
  refine lv_iinc (v := 2) (lv' := [(1, .int 2), (0, .ref a0)]) C.1 C.2.1 dX12_tear_19 hl (k := 0) rfl (by decide) (by decide) rfl (fun ls hl => ?_)
  refine lv_goto (tgt := 7) C.1 C.2.1 dX12_tear_22 (by decide) ?_
  refine lv_iload_n C.1 C.2.1 dX12_tear_7 rfl (lv_at hl 0 rfl) ?_
  refine lv_iconst (v := 3) C.1 C.2.1 dX12_tear_8 (by decide) ?_
  refine lv_icmp_ge (tgt := 25) C.1 C.2.1 dX12_tear_9 (by decide) (fun h => absurd h (by decide)) (fun _ => ?_)
  refine lv_aload_n C.1 C.2.1 dX12_tear_12 rfl (lv_at hl 1 rfl) ?_
  refine k_get (v := .ref a1) C hP 0 rfl rfl inlX12 28 (by decide) m_7_20 (sn (by decide) e0_28) dX12_tear_13 ?_
  refine lv_iload_n C.1 C.2.1 dX12_tear_16 rfl (lv_at hl 0 rfl) ?_
  refine lv_iconst (v := 0) C.1 C.2.1 dX12_tear_17 (by decide) ?_
  refine k_ist (ws' := [(a0, .inr (11, (s0.set 0 (.int 0)))), (a1, .inl (K 0, 3, .inl (upd (upd (upd f1 0 0) 1 0) 2 0)))]) (j := 2) (x' := 0) C hP hD hS 1 rfl (vin (by decide)) (by decide) rfl rfl dX12_tear_18 (fun H locs hP hD hS => ?_)
  refine lv_iinc (v := 3) (lv' := [(1, .int 3), (0, .ref a0)]) C.1 C.2.1 dX12_tear_19 hl (k := 0) rfl (by decide) (by decide) rfl (fun ls hl => ?_)
  refine lv_goto (tgt := 7) C.1 C.2.1 dX12_tear_22 (by decide) ?_
  refine lv_iload_n C.1 C.2.1 dX12_tear_7 rfl (lv_at hl 0 rfl) ?_
  refine lv_iconst (v := 3) C.1 C.2.1 dX12_tear_8 (by decide) ?_
  refine lv_icmp_ge (tgt := 25) C.1 C.2.1 dX12_tear_9 (by decide) (fun _ => ?_) (fun h => absurd (by decide) h)
  exact k_vret C hr hlocks hP hD hS (fun _ => 0) [] rfl rfl trivial (Nat.le_of_ble_eq_true rfl) (Nat.le_of_ble_eq_true rfl) dX12_tear_25
end
section
theorem dX12_value_0 : decode cX12_value 0 = .ok (.iload_n 0, 1) := by decide +kernel
theorem dX12_value_1 : decode cX12_value 1 = .ok (.ldc 158, 2) := by decide +kernel
theorem dX12_value_16 : decode cX12_value 16 = .ok (.ireturn, 1) := by decide +kernel
theorem dX12_value_3 : decode cX12_value 3 = .ok (.iand, 1) := by decide +kernel
theorem dX12_value_4 : decode cX12_value 4 = .ok (.ifCond .ne 7, 3) := by decide +kernel
theorem dX12_value_7 : decode cX12_value 7 = .ok (.iload_n 0, 1) := by decide +kernel
theorem dX12_value_8 : decode cX12_value 8 = .ok (.goto 8, 3) := by decide +kernel
theorem dX12_told_0 : decode cX12_told 0 = .ok (.iload_n 0, 1) := by decide +kernel
theorem dX12_told_1 : decode cX12_told 1 = .ok (.ldc 158, 2) := by decide +kernel
theorem dX12_told_11 : decode cX12_told 11 = .ok (.iload_n 0, 1) := by decide +kernel
theorem dX12_told_12 : decode cX12_told 12 = .ok (.invokestatic 161, 3) := by decide +kernel
theorem dX12_told_15 : decode cX12_told 15 = .ok (.ireturn, 1) := by decide +kernel
theorem dX12_told_3 : decode cX12_told 3 = .ok (.if_icmp .ne 8, 3) := by decide +kernel
theorem dX12_register_0 : decode cX12_register 0 = .ok (.aload_n 0, 1) := by decide +kernel
theorem dX12_register_1 : decode cX12_register 1 = .ok (.iload_n 1, 1) := by decide +kernel
theorem dX12_register_11 : decode cX12_register 11 = .ok (.iconst 1, 1) := by decide +kernel
theorem dX12_register_12 : decode cX12_register 12 = .ok (.goto 4, 3) := by decide +kernel
theorem dX12_register_15 : decode cX12_register 15 = .ok (.iconst 0, 1) := by decide +kernel
theorem dX12_register_16 : decode cX12_register 16 = .ok (.putfield 155, 3) := by decide +kernel
theorem dX12_register_19 : decode cX12_register 19 = .ok (.aload_n 0, 1) := by decide +kernel
theorem dX12_register_2 : decode cX12_register 2 = .ok (.ifCond .lt 9, 3) := by decide +kernel
theorem dX12_register_20 : decode cX12_register 20 = .ok (.getfield 155, 3) := by decide +kernel
theorem dX12_register_23 : decode cX12_register 23 = .ok (.ifCond .eq 5, 3) := by decide +kernel
theorem dX12_register_26 : decode cX12_register 26 = .ok (.iconst 0, 1) := by decide +kernel
theorem dX12_register_27 : decode cX12_register 27 = .ok (.ireturn, 1) := by decide +kernel
theorem dX12_register_28 : decode cX12_register 28 = .ok (.iload_n 1, 1) := by decide +kernel
theorem dX12_register_29 : decode cX12_register 29 = .ok (.bipush 9, 2) := by decide +kernel
theorem dX12_register_31 : decode cX12_register 31 = .ok (.if_icmp .ge 13, 3) := by decide +kernel
theorem dX12_register_34 : decode cX12_register 34 = .ok (.aload_n 0, 1) := by decide +kernel
theorem dX12_register_35 : decode cX12_register 35 = .ok (.getfield 17, 3) := by decide +kernel
theorem dX12_register_38 : decode cX12_register 38 = .ok (.iload_n 1, 1) := by decide +kernel
theorem dX12_register_39 : decode cX12_register 39 = .ok (.iaload, 1) := by decide +kernel
theorem dX12_register_40 : decode cX12_register 40 = .ok (.invokestatic 715, 3) := by decide +kernel
theorem dX12_register_43 : decode cX12_register 43 = .ok (.ireturn, 1) := by decide +kernel
theorem dX12_register_44 : decode cX12_register 44 = .ok (.iload_n 1, 1) := by decide +kernel
theorem dX12_register_45 : decode cX12_register 45 = .ok (.bipush 9, 2) := by decide +kernel
theorem dX12_register_47 : decode cX12_register 47 = .ok (.if_icmp .ne 18, 3) := by decide +kernel
theorem dX12_register_5 : decode cX12_register 5 = .ok (.iload_n 1, 1) := by decide +kernel
theorem dX12_register_50 : decode cX12_register 50 = .ok (.aload_n 0, 1) := by decide +kernel
theorem dX12_register_51 : decode cX12_register 51 = .ok (.getfield 314, 3) := by decide +kernel
theorem dX12_register_54 : decode cX12_register 54 = .ok (.ifCond .eq 7, 3) := by decide +kernel
theorem dX12_register_6 : decode cX12_register 6 = .ok (.bipush 11, 2) := by decide +kernel
theorem dX12_register_61 : decode cX12_register 61 = .ok (.iconst 0, 1) := by decide +kernel
theorem dX12_register_62 : decode cX12_register 62 = .ok (.goto 22, 3) := by decide +kernel
theorem dX12_register_65 : decode cX12_register 65 = .ok (.iload_n 1, 1) := by decide +kernel
theorem dX12_register_66 : decode cX12_register 66 = .ok (.bipush 10, 2) := by decide +kernel
theorem dX12_register_68 : decode cX12_register 68 = .ok (.if_icmp .ne 12, 3) := by decide +kernel
theorem dX12_register_71 : decode cX12_register 71 = .ok (.aload_n 0, 1) := by decide +kernel
theorem dX12_register_72 : decode cX12_register 72 = .ok (.getfield 20, 3) := by decide +kernel
theorem dX12_register_75 : decode cX12_register 75 = .ok (.iconst 1, 1) := by decide +kernel
theorem dX12_register_76 : decode cX12_register 76 = .ok (.isub, 1) := by decide +kernel
theorem dX12_register_77 : decode cX12_register 77 = .ok (.goto 7, 3) := by decide +kernel
theorem dX12_register_8 : decode cX12_register 8 = .ok (.if_icmp .le 7, 3) := by decide +kernel
theorem dX12_register_80 : decode cX12_register 80 = .ok (.aload_n 0, 1) := by decide +kernel
theorem dX12_register_81 : decode cX12_register 81 = .ok (.getfield 378, 3) := by decide +kernel
theorem dX12_register_84 : decode cX12_register 84 = .ok (.ireturn, 1) := by decide +kernel
theorem dX12_isAddress_0 : decode cX12_isAddress 0 = .ok (.iload_n 0, 1) := by decide +kernel
theorem dX12_isAddress_1 : decode cX12_isAddress 1 = .ok (.sipush (-3999), 3) := by decide +kernel
theorem dX12_isAddress_11 : decode cX12_isAddress 11 = .ok (.if_icmp .gt 7, 3) := by decide +kernel
theorem dX12_isAddress_14 : decode cX12_isAddress 14 = .ok (.iconst 1, 1) := by decide +kernel
theorem dX12_isAddress_15 : decode cX12_isAddress 15 = .ok (.goto 4, 3) := by decide +kernel
theorem dX12_isAddress_18 : decode cX12_isAddress 18 = .ok (.iconst 0, 1) := by decide +kernel
theorem dX12_isAddress_19 : decode cX12_isAddress 19 = .ok (.ireturn, 1) := by decide +kernel
theorem dX12_isAddress_4 : decode cX12_isAddress 4 = .ok (.if_icmp .lt 14, 3) := by decide +kernel
theorem dX12_isAddress_7 : decode cX12_isAddress 7 = .ok (.iload_n 0, 1) := by decide +kernel
theorem dX12_isAddress_8 : decode cX12_isAddress 8 = .ok (.sipush 3999, 3) := by decide +kernel
theorem dX12_memoryAt_0 : decode cX12_memoryAt 0 = .ok (.aload_n 0, 1) := by decide +kernel
theorem dX12_memoryAt_1 : decode cX12_memoryAt 1 = .ok (.getfield 13, 3) := by decide +kernel
theorem dX12_memoryAt_10 : decode cX12_memoryAt 10 = .ok (.ireturn, 1) := by decide +kernel
theorem dX12_memoryAt_4 : decode cX12_memoryAt 4 = .ok (.iload_n 1, 1) := by decide +kernel
theorem dX12_memoryAt_5 : decode cX12_memoryAt 5 = .ok (.sipush (-3999), 3) := by decide +kernel
theorem dX12_memoryAt_8 : decode cX12_memoryAt 8 = .ok (.isub, 1) := by decide +kernel
theorem dX12_memoryAt_9 : decode cX12_memoryAt 9 = .ok (.iaload, 1) := by decide +kernel
theorem dX12_word_0 : decode cX12_word 0 = .ok (.aload_n 0, 1) := by decide +kernel
theorem dX12_word_1 : decode cX12_word 1 = .ok (.iload_n 1, 1) := by decide +kernel
theorem dX12_word_12 : decode cX12_word 12 = .ok (.iconst 1, 1) := by decide +kernel
theorem dX12_word_13 : decode cX12_word 13 = .ok (.putfield 155, 3) := by decide +kernel
theorem dX12_word_16 : decode cX12_word 16 = .ok (.aload_n 0, 1) := by decide +kernel
theorem dX12_word_17 : decode cX12_word 17 = .ok (.getfield 155, 3) := by decide +kernel
theorem dX12_word_2 : decode cX12_word 2 = .ok (.invokestatic 854, 3) := by decide +kernel
theorem dX12_word_20 : decode cX12_word 20 = .ok (.ifCond .ne 14, 3) := by decide +kernel
theorem dX12_word_23 : decode cX12_word 23 = .ok (.aload_n 0, 1) := by decide +kernel
theorem dX12_word_24 : decode cX12_word 24 = .ok (.iload_n 1, 1) := by decide +kernel
theorem dX12_word_25 : decode cX12_word 25 = .ok (.invokevirtual 260, 3) := by decide +kernel
theorem dX12_word_28 : decode cX12_word 28 = .ok (.invokestatic 715, 3) := by decide +kernel
theorem dX12_word_31 : decode cX12_word 31 = .ok (.goto 4, 3) := by decide +kernel
theorem dX12_word_34 : decode cX12_word 34 = .ok (.iconst 0, 1) := by decide +kernel
theorem dX12_word_35 : decode cX12_word 35 = .ok (.ireturn, 1) := by decide +kernel
theorem dX12_word_5 : decode cX12_word 5 = .ok (.ifCond .eq 7, 3) := by decide +kernel
theorem dX12_word_8 : decode cX12_word 8 = .ok (.iconst 0, 1) := by decide +kernel
theorem dX12_word_9 : decode cX12_word 9 = .ok (.goto 4, 3) := by decide +kernel
theorem dX12_symbol_0 : decode cX12_symbol 0 = .ok (.aload_n 0, 1) := by decide +kernel
theorem dX12_symbol_1 : decode cX12_symbol 1 = .ok (.getfield 176, 3) := by decide +kernel
theorem dX12_symbol_152 : decode cX12_symbol 152 = .ok (.aload_n 0, 1) := by decide +kernel
theorem dX12_symbol_153 : decode cX12_symbol 153 = .ok (.iconst 0, 1) := by decide +kernel
theorem dX12_symbol_154 : decode cX12_symbol 154 = .ok (.putfield 176, 3) := by decide +kernel
theorem dX12_symbol_157 : decode cX12_symbol 157 = .ok (.aload_n 0, 1) := by decide +kernel
theorem dX12_symbol_158 : decode cX12_symbol 158 = .ok (.getfield 633, 3) := by decide +kernel
theorem dX12_symbol_161 : decode cX12_symbol 161 = .ok (.ifCond .eq 19, 3) := by decide +kernel
theorem dX12_symbol_180 : decode cX12_symbol 180 = .ok (.iconst (-1), 1) := by decide +kernel
theorem dX12_symbol_181 : decode cX12_symbol 181 = .ok (.istore 5, 2) := by decide +kernel
theorem dX12_symbol_183 : decode cX12_symbol 183 = .ok (.aload_n 0, 1) := by decide +kernel
theorem dX12_symbol_184 : decode cX12_symbol 184 = .ok (.iload 5, 2) := by decide +kernel
theorem dX12_symbol_186 : decode cX12_symbol 186 = .ok (.iconst (-1), 1) := by decide +kernel
theorem dX12_symbol_187 : decode cX12_symbol 187 = .ok (.if_icmp .eq 17, 3) := by decide +kernel
theorem dX12_symbol_20 : decode cX12_symbol 20 = .ok (.iconst 0, 1) := by decide +kernel
theorem dX12_symbol_204 : decode cX12_symbol 204 = .ok (.iconst 1, 1) := by decide +kernel
theorem dX12_symbol_205 : decode cX12_symbol 205 = .ok (.putfield 155, 3) := by decide +kernel
theorem dX12_symbol_208 : decode cX12_symbol 208 = .ok (.aload_n 0, 1) := by decide +kernel
theorem dX12_symbol_209 : decode cX12_symbol 209 = .ok (.getfield 155, 3) := by decide +kernel
theorem dX12_symbol_21 : decode cX12_symbol 21 = .ok (.istore_n 1, 1) := by decide +kernel
theorem dX12_symbol_212 : decode cX12_symbol 212 = .ok (.ifCond .ne 16, 3) := by decide +kernel
theorem dX12_symbol_22 : decode cX12_symbol 22 = .ok (.iconst 0, 1) := by decide +kernel
theorem dX12_symbol_228 : decode cX12_symbol 228 = .ok (.iconst 0, 1) := by decide +kernel
theorem dX12_symbol_229 : decode cX12_symbol 229 = .ok (.ireturn, 1) := by decide +kernel
theorem dX12_symbol_23 : decode cX12_symbol 23 = .ok (.istore_n 2, 1) := by decide +kernel
theorem dX12_symbol_24 : decode cX12_symbol 24 = .ok (.lconst 0, 1) := by decide +kernel
theorem dX12_symbol_25 : decode cX12_symbol 25 = .ok (.lstore_n 3, 1) := by decide +kernel
theorem dX12_symbol_26 : decode cX12_symbol 26 = .ok (.iconst 0, 1) := by decide +kernel
theorem dX12_symbol_27 : decode cX12_symbol 27 = .ok (.istore 5, 2) := by decide +kernel
theorem dX12_symbol_29 : decode cX12_symbol 29 = .ok (.iload 5, 2) := by decide +kernel
theorem dX12_symbol_31 : decode cX12_symbol 31 = .ok (.bipush 10, 2) := by decide +kernel
theorem dX12_symbol_33 : decode cX12_symbol 33 = .ok (.if_icmp .ge 119, 3) := by decide +kernel
theorem dX12_symbol_36 : decode cX12_symbol 36 = .ok (.iload_n 1, 1) := by decide +kernel
theorem dX12_symbol_37 : decode cX12_symbol 37 = .ok (.ifCond .eq 115, 3) := by decide +kernel
theorem dX12_symbol_4 : decode cX12_symbol 4 = .ok (.ifCond .le 16, 3) := by decide +kernel
theorem dX12_block_0 : decode cX12_block 0 = .ok (.aload_n 0, 1) := by decide +kernel
theorem dX12_block_1 : decode cX12_block 1 = .ok (.iload_n 1, 1) := by decide +kernel
theorem dX12_block_11 : decode cX12_block 11 = .ok (.iload_n 2, 1) := by decide +kernel
theorem dX12_block_12 : decode cX12_block 12 = .ok (.ifCond .lt 19, 3) := by decide +kernel
theorem dX12_block_15 : decode cX12_block 15 = .ok (.iload_n 2, 1) := by decide +kernel
theorem dX12_block_16 : decode cX12_block 16 = .ok (.bipush 63, 2) := by decide +kernel
theorem dX12_block_18 : decode cX12_block 18 = .ok (.if_icmp .gt 13, 3) := by decide +kernel
theorem dX12_block_2 : decode cX12_block 2 = .ok (.ifCond .lt 29, 3) := by decide +kernel
theorem dX12_block_21 : decode cX12_block 21 = .ok (.iload_n 3, 1) := by decide +kernel
theorem dX12_block_22 : decode cX12_block 22 = .ok (.ifCond .lt 9, 3) := by decide +kernel
theorem dX12_block_25 : decode cX12_block 25 = .ok (.iload_n 3, 1) := by decide +kernel
theorem dX12_block_26 : decode cX12_block 26 = .ok (.bipush 99, 2) := by decide +kernel
theorem dX12_block_28 : decode cX12_block 28 = .ok (.if_icmp .le 7, 3) := by decide +kernel
theorem dX12_block_31 : decode cX12_block 31 = .ok (.iconst 1, 1) := by decide +kernel
theorem dX12_block_32 : decode cX12_block 32 = .ok (.goto 4, 3) := by decide +kernel
theorem dX12_block_35 : decode cX12_block 35 = .ok (.iconst 0, 1) := by decide +kernel
theorem dX12_block_36 : decode cX12_block 36 = .ok (.putfield 155, 3) := by decide +kernel
theorem dX12_block_39 : decode cX12_block 39 = .ok (.aload_n 0, 1) := by decide +kernel
theorem dX12_block_40 : decode cX12_block 40 = .ok (.getfield 155, 3) := by decide +kernel
theorem dX12_block_43 : decode cX12_block 43 = .ok (.ifCond .ne 26, 3) := by decide +kernel
theorem dX12_block_46 : decode cX12_block 46 = .ok (.aload_n 0, 1) := by decide +kernel
theorem dX12_block_47 : decode cX12_block 47 = .ok (.getfield 48, 3) := by decide +kernel
theorem dX12_block_5 : decode cX12_block 5 = .ok (.iload_n 1, 1) := by decide +kernel
theorem dX12_block_50 : decode cX12_block 50 = .ok (.sipush 6400, 3) := by decide +kernel
theorem dX12_block_53 : decode cX12_block 53 = .ok (.iload_n 1, 1) := by decide +kernel
theorem dX12_block_54 : decode cX12_block 54 = .ok (.imul, 1) := by decide +kernel
theorem dX12_block_55 : decode cX12_block 55 = .ok (.bipush 100, 2) := by decide +kernel
theorem dX12_block_57 : decode cX12_block 57 = .ok (.iload_n 2, 1) := by decide +kernel
theorem dX12_block_58 : decode cX12_block 58 = .ok (.imul, 1) := by decide +kernel
theorem dX12_block_59 : decode cX12_block 59 = .ok (.iadd, 1) := by decide +kernel
theorem dX12_block_6 : decode cX12_block 6 = .ok (.bipush 15, 2) := by decide +kernel
theorem dX12_block_60 : decode cX12_block 60 = .ok (.iload_n 3, 1) := by decide +kernel
theorem dX12_block_61 : decode cX12_block 61 = .ok (.iadd, 1) := by decide +kernel
theorem dX12_block_62 : decode cX12_block 62 = .ok (.iaload, 1) := by decide +kernel
theorem dX12_block_63 : decode cX12_block 63 = .ok (.invokestatic 715, 3) := by decide +kernel
theorem dX12_block_66 : decode cX12_block 66 = .ok (.goto 4, 3) := by decide +kernel
theorem dX12_block_69 : decode cX12_block 69 = .ok (.iconst 0, 1) := by decide +kernel
theorem dX12_block_70 : decode cX12_block 70 = .ok (.ireturn, 1) := by decide +kernel
theorem dX12_block_8 : decode cX12_block 8 = .ok (.if_icmp .gt 23, 3) := by decide +kernel
set_option maxHeartbeats 4000000 in
set_option maxRecDepth 100000 in
theorem c_X12_value (l : Launch) (D : va_G) (K : Nat → ClassId)  : uMet l yX12_value cX12_value 1 (some .int) (rmD 0 0 0) D K X0 [.int 0] [] (QI D K (fun (r : Int32) (u : Nat → Nat) => r = 0) (fun (u : Nat → Nat) => [])) 0 0 := by
  refine k_met RX12 ⟨rfl, by decide +kernel⟩ (Nat.le_of_ble_eq_true rfl) ?_
  intro p e s m below meth c A ls C hX hr hlocks hin hA hP hD hS hl
  have hl : lv_has ls 1 [(0, .int 0)] := hl
  refine lv_iload_n C.1 C.2.1 dX12_value_0 rfl (lv_at hl 0 rfl) ?_
  refine lv_ldc (v := 1073741824) C.1 C.2.1 C.2.2.2.1 (C.2.2.2.2.1 _ m_34_19) dX12_value_1 ?_
  refine k_iand (v := 0) C (by decide) dX12_value_3 ?_
  refine lv_if_ne (tgt := 11) C.1 C.2.1 dX12_value_4 (by decide) (fun h => absurd h (by decide)) (fun _ => ?_)
  refine lv_iload_n C.1 C.2.1 dX12_value_7 rfl (lv_at hl 0 rfl) ?_
  refine lv_goto (tgt := 16) C.1 C.2.1 dX12_value_8 (by decide) ?_
  exact k_iret C hr hlocks hP hD hS rfl (fun _ => 0) [] rfl rfl rfl (Nat.le_of_ble_eq_true rfl) (Nat.le_of_ble_eq_true rfl) dX12_value_16
set_option maxHeartbeats 4000000 in
set_option maxRecDepth 100000 in
theorem c_X12_told (l : Launch) (D : va_G) (K : Nat → ClassId)  : uMet l yX12_told cX12_told 1 (some .int) (rmD 1 0 0) D K X0 [.int 0] [] (QI D K (fun (r : Int32) (u : Nat → Nat) => r = 0) (fun (u : Nat → Nat) => [])) 0 0 := by
  refine k_met RX12 ⟨rfl, by decide +kernel⟩ (Nat.le_of_ble_eq_true rfl) ?_
  intro p e s m below meth c A ls C hX hr hlocks hin hA hP hD hS hl
  have hl : lv_has ls 1 [(0, .int 0)] := hl
  refine lv_iload_n C.1 C.2.1 dX12_told_0 rfl (lv_at hl 0 rfl) ?_
  refine lv_ldc (v := 1073741824) C.1 C.2.1 C.2.2.2.1 (C.2.2.2.2.1 _ m_34_19) dX12_told_1 ?_
  refine lv_icmp_ne (tgt := 11) C.1 C.2.1 dX12_told_3 (by decide) (fun _ => ?_) (fun h => absurd h (by decide))
  refine lv_iload_n C.1 C.2.1 dX12_told_11 rfl (lv_at hl 0 rfl) ?_
  refine k_Si (As := [.int 0]) (rest := []) C hP hD hS hA (c_X12_value l D K ) X0_ok trivial (uwS m_36_9 m_36_10 m_1_5 m_36_11) (hdS 1 (by decide +kernel) rfl) ⟨Nat.le_of_ble_eq_true rfl, Nat.le_of_ble_eq_true rfl⟩ rfl rfl (isC := []) (isR := []) (wr := []) ⟨rfl, rfl, rfl, rfl, by decide⟩ rfl hl.1 (Nat.le_of_ble_eq_true rfl) dX12_told_12 ⟨Nat.le_of_ble_eq_true rfl, Nat.le_of_ble_eq_true rfl⟩ (fun r_2 u_1 H locs hw hP hD hS => ?_)
  obtain rfl := hw
  have hP : va_P D vwCl [] H := hP
  have hD : va_D A [] := hD
  exact k_iret C hr hlocks hP hD hS rfl (fun _ => 0) [] rfl rfl rfl (Nat.le_of_ble_eq_true rfl) (Nat.le_of_ble_eq_true rfl) dX12_told_15
set_option maxHeartbeats 4000000 in
set_option maxRecDepth 100000 in
theorem t_X12_register (l : Launch) (D : va_G) (K : Nat → ClassId) (a0 : Nat) (a1 : Nat) (s0 : List Value) (n0 : s0.length = 94) (x1 : Int32) (e0_7 : s0[7]? = some (.int 0)) (e0_6 : s0[6]? = some (.int 1)) (e0_5 : s0[5]? = some (.int 0)) (e0_4 : s0[4]? = some (.ref a1)) : uMet l yX12_register cX12_register 2 (some .int) (rmD 2 0 0) D K X0 [.ref a0, .int x1] [(a0, .inr (11, s0)), (a1, .inl (K 0, 9, .inl (fun _ => 0)))] (QI D K (fun (r : Int32) (u : List Value) => ((x1 < 0) ∧ r = 0 ∧ u[0]? = some (.int 1)) ∨ ((¬ x1 < 0) ∧ (x1 ≤ 11) ∧ (9 ≤ x1) ∧ (¬ x1 = 9) ∧ (¬ x1 = 10) ∧ r = 0 ∧ u[0]? = some (.int 0)) ∨ ((¬ x1 < 0) ∧ (x1 ≤ 11) ∧ (9 ≤ x1) ∧ (¬ x1 = 9) ∧ (x1 = 10) ∧ r = 0 ∧ u[0]? = some (.int 0)) ∨ ((¬ x1 < 0) ∧ (x1 ≤ 11) ∧ (9 ≤ x1) ∧ (x1 = 9) ∧ r = 0 ∧ u[0]? = some (.int 0)) ∨ ((¬ x1 < 0) ∧ (x1 ≤ 11) ∧ (¬ 9 ≤ x1) ∧ r = 0 ∧ u[0]? = some (.int 0)) ∨ ((¬ x1 < 0) ∧ (¬ x1 ≤ 11) ∧ r = 0 ∧ u[0]? = some (.int 1))) (fun (u : List Value) => [(a0, .inr (11, u))])) 0 0 := by
  refine k_met RX12 ⟨rfl, by decide +kernel⟩ (Nat.le_of_ble_eq_true rfl) ?_
  intro p e s m below meth c A ls C hX hr hlocks hin hA hP hD hS hl
  have hl : lv_has ls 2 [(0, .ref a0), (1, .int x1)] := hl
  refine lv_aload_n C.1 C.2.1 dX12_register_0 rfl (lv_at hl 0 rfl) ?_
  refine lv_iload_n C.1 C.2.1 dX12_register_1 rfl (lv_at hl 1 rfl) ?_
  refine lv_if_lt (tgt := 11) C.1 C.2.1 dX12_register_2 (by decide) (fun c_1 => ?_) (fun c_1 => ?_)
  · refine lv_iconst (v := 1) C.1 C.2.1 dX12_register_11 (by decide) ?_
    refine lv_goto (tgt := 16) C.1 C.2.1 dX12_register_12 (by decide) ?_
    refine k_put (ws' := [(a0, .inr (11, (s0.set 0 (.int 1)))), (a1, .inl (K 0, 9, .inl (fun _ => 0)))]) (v := .int 1) C hP hD hS 0 rfl rfl inlX12 tyX12_ok nmX12 0 (by decide) m_9_18 rfl rfl rfl n0 rfl dX12_register_16 (fun H locs hP hD hS => ?_)
    refine lv_aload_n C.1 C.2.1 dX12_register_19 rfl (lv_at hl 0 rfl) ?_
    refine k_get (v := .int 1) C hP 0 rfl rfl inlX12 0 (by decide) m_9_18 (ss (sk n0 (by decide))) dX12_register_20 ?_
    refine lv_if_eq (tgt := 28) C.1 C.2.1 dX12_register_23 (by decide) (fun h => absurd h (by decide)) (fun _ => ?_)
    refine lv_iconst (v := 0) C.1 C.2.1 dX12_register_26 (by decide) ?_
    exact k_iret C hr hlocks hP hD hS rfl (s0.set 0 (.int 1)) [0] rfl rfl (Or.inl ⟨c_1, rfl, (ss (sk n0 (by decide)))⟩) (Nat.le_of_ble_eq_true rfl) (Nat.le_of_ble_eq_true rfl) dX12_register_27
  · refine lv_iload_n C.1 C.2.1 dX12_register_5 rfl (lv_at hl 1 rfl) ?_
    refine lv_bipush (v := 11) C.1 C.2.1 dX12_register_6 (by decide) ?_
    refine lv_icmp_le (tgt := 15) C.1 C.2.1 dX12_register_8 (by decide) (fun c_2 => ?_) (fun c_2 => ?_)
    · refine lv_iconst (v := 0) C.1 C.2.1 dX12_register_15 (by decide) ?_
      refine k_put (ws' := [(a0, .inr (11, (s0.set 0 (.int 0)))), (a1, .inl (K 0, 9, .inl (fun _ => 0)))]) (v := .int 0) C hP hD hS 0 rfl rfl inlX12 tyX12_ok nmX12 0 (by decide) m_9_18 rfl rfl rfl n0 rfl dX12_register_16 (fun H locs hP hD hS => ?_)
      refine lv_aload_n C.1 C.2.1 dX12_register_19 rfl (lv_at hl 0 rfl) ?_
      refine k_get (v := .int 0) C hP 0 rfl rfl inlX12 0 (by decide) m_9_18 (ss (sk n0 (by decide))) dX12_register_20 ?_
      refine lv_if_eq (tgt := 28) C.1 C.2.1 dX12_register_23 (by decide) (fun _ => ?_) (fun h => absurd (by decide) h)
      refine lv_iload_n C.1 C.2.1 dX12_register_28 rfl (lv_at hl 1 rfl) ?_
      refine lv_bipush (v := 9) C.1 C.2.1 dX12_register_29 (by decide) ?_
      refine lv_icmp_ge (tgt := 44) C.1 C.2.1 dX12_register_31 (by decide) (fun c_3 => ?_) (fun c_3 => ?_)
      · refine lv_iload_n C.1 C.2.1 dX12_register_44 rfl (lv_at hl 1 rfl) ?_
        refine lv_bipush (v := 9) C.1 C.2.1 dX12_register_45 (by decide) ?_
        refine lv_icmp_ne (tgt := 65) C.1 C.2.1 dX12_register_47 (by decide) (fun c_4 => ?_) (fun c_4 => ?_)
        · refine lv_iload_n C.1 C.2.1 dX12_register_65 rfl (lv_at hl 1 rfl) ?_
          refine lv_bipush (v := 10) C.1 C.2.1 dX12_register_66 (by decide) ?_
          refine lv_icmp_ne (tgt := 80) C.1 C.2.1 dX12_register_68 (by decide) (fun c_5 => ?_) (fun c_5 => ?_)
          · refine lv_aload_n C.1 C.2.1 dX12_register_80 rfl (lv_at hl 0 rfl) ?_
            refine k_get (v := .int 0) C hP 0 rfl rfl inlX12 7 (by decide) m_29_22 (sn (by decide) e0_7) dX12_register_81 ?_
            exact k_iret C hr hlocks hP hD hS rfl (s0.set 0 (.int 0)) [0] rfl rfl (Or.inr (Or.inl ⟨c_1, c_2, c_3, c_4, c_5, rfl, (ss (sk n0 (by decide)))⟩)) (Nat.le_of_ble_eq_true rfl) (Nat.le_of_ble_eq_true rfl) dX12_register_84
          · refine lv_aload_n C.1 C.2.1 dX12_register_71 rfl (lv_at hl 0 rfl) ?_
            refine k_get (v := .int 1) C hP 0 rfl rfl inlX12 6 (by decide) m_7_7 (sn (by decide) e0_6) dX12_register_72 ?_
            refine lv_iconst (v := 1) C.1 C.2.1 dX12_register_75 (by decide) ?_
            refine k_isub (v := 0) C (by decide) dX12_register_76 ?_
            refine lv_goto (tgt := 84) C.1 C.2.1 dX12_register_77 (by decide) ?_
            exact k_iret C hr hlocks hP hD hS rfl (s0.set 0 (.int 0)) [0] rfl rfl (Or.inr (Or.inr (Or.inl ⟨c_1, c_2, c_3, c_4, c_5, rfl, (ss (sk n0 (by decide)))⟩))) (Nat.le_of_ble_eq_true rfl) (Nat.le_of_ble_eq_true rfl) dX12_register_84
        · refine lv_aload_n C.1 C.2.1 dX12_register_50 rfl (lv_at hl 0 rfl) ?_
          refine k_get (v := .int 0) C hP 0 rfl rfl inlX12 5 (by decide) m_29_21 (sn (by decide) e0_5) dX12_register_51 ?_
          refine lv_if_eq (tgt := 61) C.1 C.2.1 dX12_register_54 (by decide) (fun _ => ?_) (fun h => absurd (by decide) h)
          refine lv_iconst (v := 0) C.1 C.2.1 dX12_register_61 (by decide) ?_
          refine lv_goto (tgt := 84) C.1 C.2.1 dX12_register_62 (by decide) ?_
          exact k_iret C hr hlocks hP hD hS rfl (s0.set 0 (.int 0)) [0] rfl rfl (Or.inr (Or.inr (Or.inr (Or.inl ⟨c_1, c_2, c_3, c_4, rfl, (ss (sk n0 (by decide)))⟩)))) (Nat.le_of_ble_eq_true rfl) (Nat.le_of_ble_eq_true rfl) dX12_register_84
      · refine lv_aload_n C.1 C.2.1 dX12_register_34 rfl (lv_at hl 0 rfl) ?_
        refine k_get (v := .ref a1) C hP 0 rfl rfl inlX12 4 (by decide) m_7_6 (sn (by decide) e0_4) dX12_register_35 ?_
        refine lv_iload_n C.1 C.2.1 dX12_register_38 rfl (lv_at hl 1 rfl) ?_
        refine k_ild (v := 0) C hP 1 rfl (vp_in_iff.mpr (by simp only [Int32.lt_iff_toInt_lt, Int32.le_iff_toInt_le, ← Int32.toInt_inj] at c_1 c_2 c_3 ⊢; have k0 : (0 : Int32).toInt = 0 := (by decide); have k1 : (11 : Int32).toInt = 11 := (by decide); have k2 : (9 : Int32).toInt = 9 := (by decide); exact ⟨by omega, by omega⟩)) rfl dX12_register_39 ?_
        refine k_Si (As := [.int 0]) (rest := []) C hP hD hS hA (c_X12_told l D K ) X0_ok trivial (uwS m_84_13 m_84_14 m_1_5 m_84_15) (hdS 1 (by decide +kernel) rfl) ⟨Nat.le_of_ble_eq_true rfl, Nat.le_of_ble_eq_true rfl⟩ rfl rfl (isC := []) (isR := [0, 1]) (wr := [(a0, .inr (11, (s0.set 0 (.int 0)))), (a1, .inl (K 0, 9, .inl (fun _ => 0)))]) ⟨rfl, rfl, rfl, rfl, by decide⟩ rfl hl.1 (Nat.le_of_ble_eq_true rfl) dX12_register_40 ⟨Nat.le_of_ble_eq_true rfl, Nat.le_of_ble_eq_true rfl⟩ (fun r_7 u_6 H locs hw hP hD hS => ?_)
        obtain rfl := hw
        have hP : va_P D vwCl [(a0, .inr (11, (s0.set 0 (.int 0)))), (a1, .inl (K 0, 9, .inl (fun _ => 0)))] H := hP
        have hD : va_D A [(a0, .inr (11, (s0.set 0 (.int 0)))), (a1, .inl (K 0, 9, .inl (fun _ => 0)))] := hD
        exact k_iret C hr hlocks hP hD hS rfl (s0.set 0 (.int 0)) [0] rfl rfl (Or.inr (Or.inr (Or.inr (Or.inr (Or.inl ⟨c_1, c_2, c_3, rfl, (ss (sk n0 (by decide)))⟩))))) (Nat.le_of_ble_eq_true rfl) (Nat.le_of_ble_eq_true rfl) dX12_register_43
    · refine lv_iconst (v := 1) C.1 C.2.1 dX12_register_11 (by decide) ?_
      refine lv_goto (tgt := 16) C.1 C.2.1 dX12_register_12 (by decide) ?_
      refine k_put (ws' := [(a0, .inr (11, (s0.set 0 (.int 1)))), (a1, .inl (K 0, 9, .inl (fun _ => 0)))]) (v := .int 1) C hP hD hS 0 rfl rfl inlX12 tyX12_ok nmX12 0 (by decide) m_9_18 rfl rfl rfl n0 rfl dX12_register_16 (fun H locs hP hD hS => ?_)
      refine lv_aload_n C.1 C.2.1 dX12_register_19 rfl (lv_at hl 0 rfl) ?_
      refine k_get (v := .int 1) C hP 0 rfl rfl inlX12 0 (by decide) m_9_18 (ss (sk n0 (by decide))) dX12_register_20 ?_
      refine lv_if_eq (tgt := 28) C.1 C.2.1 dX12_register_23 (by decide) (fun h => absurd h (by decide)) (fun _ => ?_)
      refine lv_iconst (v := 0) C.1 C.2.1 dX12_register_26 (by decide) ?_
      exact k_iret C hr hlocks hP hD hS rfl (s0.set 0 (.int 1)) [0] rfl rfl (Or.inr (Or.inr (Or.inr (Or.inr (Or.inr ⟨c_1, c_2, rfl, (ss (sk n0 (by decide)))⟩))))) (Nat.le_of_ble_eq_true rfl) (Nat.le_of_ble_eq_true rfl) dX12_register_27
set_option maxHeartbeats 4000000 in
set_option maxRecDepth 100000 in
theorem c_X12_isAddress (l : Launch) (D : va_G) (K : Nat → ClassId) (x0 : Int32) : uMet l yX12_isAddress cX12_isAddress 1 (some .boolean) (rmD 0 0 0) D K X0 [.int x0] [] (QI D K (fun (r : Int32) (u : Nat → Nat) => ((x0 < (-3999)) ∧ r = 0) ∨ ((¬ x0 < (-3999)) ∧ (3999 < x0) ∧ r = 0) ∨ ((¬ x0 < (-3999)) ∧ (¬ 3999 < x0) ∧ r = 1)) (fun (u : Nat → Nat) => [])) 0 0 := by
  refine k_met RX12 ⟨rfl, by decide +kernel⟩ (Nat.le_of_ble_eq_true rfl) ?_
  intro p e s m below meth c A ls C hX hr hlocks hin hA hP hD hS hl
  have hl : lv_has ls 1 [(0, .int x0)] := hl
  refine lv_iload_n C.1 C.2.1 dX12_isAddress_0 rfl (lv_at hl 0 rfl) ?_
  refine lv_sipush (v := (-3999)) C.1 C.2.1 dX12_isAddress_1 (by decide) ?_
  refine lv_icmp_lt (tgt := 18) C.1 C.2.1 dX12_isAddress_4 (by decide) (fun c_1 => ?_) (fun c_1 => ?_)
  · refine lv_iconst (v := 0) C.1 C.2.1 dX12_isAddress_18 (by decide) ?_
    exact k_iret C hr hlocks hP hD hS (by decide) (fun _ => 0) [] rfl rfl (Or.inl ⟨c_1, rfl⟩) (Nat.le_of_ble_eq_true rfl) (Nat.le_of_ble_eq_true rfl) dX12_isAddress_19
  · refine lv_iload_n C.1 C.2.1 dX12_isAddress_7 rfl (lv_at hl 0 rfl) ?_
    refine lv_sipush (v := 3999) C.1 C.2.1 dX12_isAddress_8 (by decide) ?_
    refine lv_icmp_gt (tgt := 18) C.1 C.2.1 dX12_isAddress_11 (by decide) (fun c_2 => ?_) (fun c_2 => ?_)
    · refine lv_iconst (v := 0) C.1 C.2.1 dX12_isAddress_18 (by decide) ?_
      exact k_iret C hr hlocks hP hD hS (by decide) (fun _ => 0) [] rfl rfl (Or.inr (Or.inl ⟨c_1, c_2, rfl⟩)) (Nat.le_of_ble_eq_true rfl) (Nat.le_of_ble_eq_true rfl) dX12_isAddress_19
    · refine lv_iconst (v := 1) C.1 C.2.1 dX12_isAddress_14 (by decide) ?_
      refine lv_goto (tgt := 19) C.1 C.2.1 dX12_isAddress_15 (by decide) ?_
      exact k_iret C hr hlocks hP hD hS (by decide) (fun _ => 0) [] rfl rfl (Or.inr (Or.inr ⟨c_1, c_2, rfl⟩)) (Nat.le_of_ble_eq_true rfl) (Nat.le_of_ble_eq_true rfl) dX12_isAddress_19
set_option maxHeartbeats 4000000 in
set_option maxRecDepth 100000 in
theorem c_X12_memoryAt (l : Launch) (D : va_G) (K : Nat → ClassId) (a0 : Nat) (a1 : Nat) (s0 : List Value) (n0 : s0.length = 94) (x1 : Int32) (hp0 : (-3999) ≤ x1) (hp1 : x1 ≤ 3999) (e0_3 : s0[3]? = some (.ref a1)) : uMet l yX12_memoryAt cX12_memoryAt 2 (some .int) (rmD 0 0 0) D K X0 [.ref a0, .int x1] [(a0, .inr (11, s0)), (a1, .inl (K 0, 7999, .inl (fun _ => 0)))] (QI D K (fun (r : Int32) (u : Nat → Nat) => r = 0) (fun (u : Nat → Nat) => [(a0, .inr (11, s0)), (a1, .inl (K 0, 7999, .inl (fun _ => 0)))])) 0 0 := by
  refine k_met RX12 ⟨rfl, by decide +kernel⟩ (Nat.le_of_ble_eq_true rfl) ?_
  intro p e s m below meth c A ls C hX hr hlocks hin hA hP hD hS hl
  have hl : lv_has ls 2 [(0, .ref a0), (1, .int x1)] := hl
  refine lv_aload_n C.1 C.2.1 dX12_memoryAt_0 rfl (lv_at hl 0 rfl) ?_
  refine k_get (v := .ref a1) C hP 0 rfl rfl inlX12 3 (by decide) m_7_5 e0_3 dX12_memoryAt_1 ?_
  refine lv_iload_n C.1 C.2.1 dX12_memoryAt_4 rfl (lv_at hl 1 rfl) ?_
  refine lv_sipush (v := (-3999)) C.1 C.2.1 dX12_memoryAt_5 (by decide) ?_
  refine k_isub (v := (x1 - (-3999))) C rfl dX12_memoryAt_8 ?_
  refine k_ild (v := 0) C hP 1 rfl (vp_in_iff.mpr (by simp only [Int32.lt_iff_toInt_lt, Int32.le_iff_toInt_le, ← Int32.toInt_inj] at hp0 hp1 ⊢; have k0 : ((-3999) : Int32).toInt = -3999 := (by decide); have k1 : (3999 : Int32).toInt = 3999 := (by decide); have k2 := ti_isub (x := x1) (y := (-3999)) (by omega) (by omega); exact ⟨by omega, by omega⟩)) rfl dX12_memoryAt_9 ?_
  exact k_iret C hr hlocks hP hD hS rfl (fun _ => 0) [0, 1] rfl rfl rfl (Nat.le_of_ble_eq_true rfl) (Nat.le_of_ble_eq_true rfl) dX12_memoryAt_10
set_option maxHeartbeats 4000000 in
set_option maxRecDepth 100000 in
theorem t_X12_word (l : Launch) (D : va_G) (K : Nat → ClassId) (a0 : Nat) (a1 : Nat) (s0 : List Value) (n0 : s0.length = 94) (x1 : Int32) (e0_3 : s0[3]? = some (.ref a1)) : uMet l yX12_word cX12_word 2 (some .int) (rmD 2 0 0) D K X0 [.ref a0, .int x1] [(a0, .inr (11, s0)), (a1, .inl (K 0, 7999, .inl (fun _ => 0)))] (QI D K (fun (r : Int32) (u : List Value) => ((x1 < (-3999)) ∧ r = 0 ∧ u[0]? = some (.int 1)) ∨ ((¬ x1 < (-3999)) ∧ (3999 < x1) ∧ r = 0 ∧ u[0]? = some (.int 1)) ∨ ((¬ x1 < (-3999)) ∧ (¬ 3999 < x1) ∧ r = 0 ∧ u[0]? = some (.int 0))) (fun (u : List Value) => [(a0, .inr (11, u))])) 0 0 := by
  refine k_met RX12 ⟨rfl, by decide +kernel⟩ (Nat.le_of_ble_eq_true rfl) ?_
  intro p e s m below meth c A ls C hX hr hlocks hin hA hP hD hS hl
  have hl : lv_has ls 2 [(0, .ref a0), (1, .int x1)] := hl
  refine lv_aload_n C.1 C.2.1 dX12_word_0 rfl (lv_at hl 0 rfl) ?_
  refine lv_iload_n C.1 C.2.1 dX12_word_1 rfl (lv_at hl 1 rfl) ?_
  refine k_Si (As := [.int x1]) (rest := [.ref a0]) C hP hD hS hA (c_X12_isAddress l D K x1) X0_ok trivial (uwS m_85_8 m_85_9 m_1_5 m_85_10) (hdS 1 (by decide +kernel) rfl) ⟨Nat.le_of_ble_eq_true rfl, Nat.le_of_ble_eq_true rfl⟩ rfl rfl (isC := []) (isR := [0, 1]) (wr := [(a0, .inr (11, s0)), (a1, .inl (K 0, 7999, .inl (fun _ => 0)))]) ⟨rfl, rfl, rfl, rfl, by decide⟩ rfl hl.1 (Nat.le_of_ble_eq_true rfl) dX12_word_2 ⟨Nat.le_of_ble_eq_true rfl, Nat.le_of_ble_eq_true rfl⟩ (fun r_2 u_1 H locs hw hP hD hS => ?_)
  rcases hw with ⟨c_3, rfl⟩ | ⟨c_4, c_5, rfl⟩ | ⟨c_6, c_7, rfl⟩
  · have hP : va_P D vwCl [(a0, .inr (11, s0)), (a1, .inl (K 0, 7999, .inl (fun _ => 0)))] H := hP
    have hD : va_D A [(a0, .inr (11, s0)), (a1, .inl (K 0, 7999, .inl (fun _ => 0)))] := hD
    refine lv_if_eq (tgt := 12) C.1 C.2.1 dX12_word_5 (by decide) (fun _ => ?_) (fun h => absurd (by decide) h)
    refine lv_iconst (v := 1) C.1 C.2.1 dX12_word_12 (by decide) ?_
    refine k_put (ws' := [(a0, .inr (11, (s0.set 0 (.int 1)))), (a1, .inl (K 0, 7999, .inl (fun _ => 0)))]) (v := .int 1) C hP hD hS 0 rfl rfl inlX12 tyX12_ok nmX12 0 (by decide) m_9_18 rfl rfl rfl n0 rfl dX12_word_13 (fun H locs hP hD hS => ?_)
    refine lv_aload_n C.1 C.2.1 dX12_word_16 rfl (lv_at hl 0 rfl) ?_
    refine k_get (v := .int 1) C hP 0 rfl rfl inlX12 0 (by decide) m_9_18 (ss (sk n0 (by decide))) dX12_word_17 ?_
    refine lv_if_ne (tgt := 34) C.1 C.2.1 dX12_word_20 (by decide) (fun _ => ?_) (fun h => absurd h (by decide))
    refine lv_iconst (v := 0) C.1 C.2.1 dX12_word_34 (by decide) ?_
    exact k_iret C hr hlocks hP hD hS rfl (s0.set 0 (.int 1)) [0] rfl rfl (Or.inl ⟨c_3, rfl, (ss (sk n0 (by decide)))⟩) (Nat.le_of_ble_eq_true rfl) (Nat.le_of_ble_eq_true rfl) dX12_word_35
  · have hP : va_P D vwCl [(a0, .inr (11, s0)), (a1, .inl (K 0, 7999, .inl (fun _ => 0)))] H := hP
    have hD : va_D A [(a0, .inr (11, s0)), (a1, .inl (K 0, 7999, .inl (fun _ => 0)))] := hD
    refine lv_if_eq (tgt := 12) C.1 C.2.1 dX12_word_5 (by decide) (fun _ => ?_) (fun h => absurd (by decide) h)
    refine lv_iconst (v := 1) C.1 C.2.1 dX12_word_12 (by decide) ?_
    refine k_put (ws' := [(a0, .inr (11, (s0.set 0 (.int 1)))), (a1, .inl (K 0, 7999, .inl (fun _ => 0)))]) (v := .int 1) C hP hD hS 0 rfl rfl inlX12 tyX12_ok nmX12 0 (by decide) m_9_18 rfl rfl rfl n0 rfl dX12_word_13 (fun H locs hP hD hS => ?_)
    refine lv_aload_n C.1 C.2.1 dX12_word_16 rfl (lv_at hl 0 rfl) ?_
    refine k_get (v := .int 1) C hP 0 rfl rfl inlX12 0 (by decide) m_9_18 (ss (sk n0 (by decide))) dX12_word_17 ?_
    refine lv_if_ne (tgt := 34) C.1 C.2.1 dX12_word_20 (by decide) (fun _ => ?_) (fun h => absurd h (by decide))
    refine lv_iconst (v := 0) C.1 C.2.1 dX12_word_34 (by decide) ?_
    exact k_iret C hr hlocks hP hD hS rfl (s0.set 0 (.int 1)) [0] rfl rfl (Or.inr (Or.inl ⟨c_4, c_5, rfl, (ss (sk n0 (by decide)))⟩)) (Nat.le_of_ble_eq_true rfl) (Nat.le_of_ble_eq_true rfl) dX12_word_35
  · have hP : va_P D vwCl [(a0, .inr (11, s0)), (a1, .inl (K 0, 7999, .inl (fun _ => 0)))] H := hP
    have hD : va_D A [(a0, .inr (11, s0)), (a1, .inl (K 0, 7999, .inl (fun _ => 0)))] := hD
    refine lv_if_eq (tgt := 12) C.1 C.2.1 dX12_word_5 (by decide) (fun h => absurd h (by decide)) (fun _ => ?_)
    refine lv_iconst (v := 0) C.1 C.2.1 dX12_word_8 (by decide) ?_
    refine lv_goto (tgt := 13) C.1 C.2.1 dX12_word_9 (by decide) ?_
    refine k_put (ws' := [(a0, .inr (11, (s0.set 0 (.int 0)))), (a1, .inl (K 0, 7999, .inl (fun _ => 0)))]) (v := .int 0) C hP hD hS 0 rfl rfl inlX12 tyX12_ok nmX12 0 (by decide) m_9_18 rfl rfl rfl n0 rfl dX12_word_13 (fun H locs hP hD hS => ?_)
    refine lv_aload_n C.1 C.2.1 dX12_word_16 rfl (lv_at hl 0 rfl) ?_
    refine k_get (v := .int 0) C hP 0 rfl rfl inlX12 0 (by decide) m_9_18 (ss (sk n0 (by decide))) dX12_word_17 ?_
    refine lv_if_ne (tgt := 34) C.1 C.2.1 dX12_word_20 (by decide) (fun h => absurd h (by decide)) (fun _ => ?_)
    refine lv_aload_n C.1 C.2.1 dX12_word_23 rfl (lv_at hl 0 rfl) ?_
    refine lv_iload_n C.1 C.2.1 dX12_word_24 rfl (lv_at hl 1 rfl) ?_
    refine k_Vi (As := [.int x1]) (rest := []) C hP hD hS hA (c_X12_memoryAt l D K a0 a1 ((s0.set 0 (.int 0))) (sl n0) x1 (by simp only [Int32.lt_iff_toInt_lt, Int32.le_iff_toInt_le, ← Int32.toInt_inj] at c_6 c_7 ⊢; have k0 : ((-3999) : Int32).toInt = -3999 := (by decide); have k1 : (3999 : Int32).toInt = 3999 := (by decide); omega) (by simp only [Int32.lt_iff_toInt_lt, Int32.le_iff_toInt_le, ← Int32.toInt_inj] at c_6 c_7 ⊢; have k0 : ((-3999) : Int32).toInt = -3999 := (by decide); have k1 : (3999 : Int32).toInt = 3999 := (by decide); omega) (sn (by decide) e0_3)) X0_ok trivial (uwV m_38_19 m_38_20 m_38_21 m_1_5 m_38_22) (hdV 1 (by decide +kernel) rfl) ⟨Nat.le_of_ble_eq_true rfl, Nat.le_of_ble_eq_true rfl⟩ rfl rfl (ci := 11) rfl rfl (isC := [0, 1]) (isR := []) (wr := []) ⟨rfl, rfl, rfl, rfl, by decide⟩ rfl hl.1 (Nat.le_of_ble_eq_true rfl) dX12_word_25 ⟨Nat.le_of_ble_eq_true rfl, Nat.le_of_ble_eq_true rfl⟩ (fun r_9 u_8 H locs hw hP hD hS => ?_)
    obtain rfl := hw
    have hP : va_P D vwCl [(a0, .inr (11, (s0.set 0 (.int 0)))), (a1, .inl (K 0, 7999, .inl (fun _ => 0)))] H := hP
    have hD : va_D A [(a0, .inr (11, (s0.set 0 (.int 0)))), (a1, .inl (K 0, 7999, .inl (fun _ => 0)))] := hD
    refine k_Si (As := [.int 0]) (rest := []) C hP hD hS hA (c_X12_told l D K ) X0_ok trivial (uwS m_84_13 m_84_14 m_1_5 m_84_15) (hdS 1 (by decide +kernel) rfl) ⟨Nat.le_of_ble_eq_true rfl, Nat.le_of_ble_eq_true rfl⟩ rfl rfl (isC := []) (isR := [0, 1]) (wr := [(a0, .inr (11, (s0.set 0 (.int 0)))), (a1, .inl (K 0, 7999, .inl (fun _ => 0)))]) ⟨rfl, rfl, rfl, rfl, by decide⟩ rfl hl.1 (Nat.le_of_ble_eq_true rfl) dX12_word_28 ⟨Nat.le_of_ble_eq_true rfl, Nat.le_of_ble_eq_true rfl⟩ (fun r_11 u_10 H locs hw hP hD hS => ?_)
    obtain rfl := hw
    have hP : va_P D vwCl [(a0, .inr (11, (s0.set 0 (.int 0)))), (a1, .inl (K 0, 7999, .inl (fun _ => 0)))] H := hP
    have hD : va_D A [(a0, .inr (11, (s0.set 0 (.int 0)))), (a1, .inl (K 0, 7999, .inl (fun _ => 0)))] := hD
    refine lv_goto (tgt := 35) C.1 C.2.1 dX12_word_31 (by decide) ?_
    exact k_iret C hr hlocks hP hD hS rfl (s0.set 0 (.int 0)) [0] rfl rfl (Or.inr (Or.inr ⟨c_6, c_7, rfl, (ss (sk n0 (by decide)))⟩)) (Nat.le_of_ble_eq_true rfl) (Nat.le_of_ble_eq_true rfl) dX12_word_35
set_option maxHeartbeats 4000000 in
set_option maxRecDepth 100000 in
theorem t_X12_symbol (l : Launch) (D : va_G) (K : Nat → ClassId) (a0 : Nat) (s0 : List Value) (n0 : s0.length = 94) (e0_2 : s0[2]? = some (.int 0)) (e0_42 : s0[42]? = some (.int 0)) : uMet l yX12_symbol cX12_symbol 7 (some .int) (rmD 0 0 0) D K X0 [.ref a0] [(a0, .inr (11, s0))] (QI D K (fun (r : Int32) (u : List Value) => r = 0 ∧ u[0]? = some (.int 1)) (fun (u : List Value) => [(a0, .inr (11, u))])) 0 0 := by
  refine k_met RX12 ⟨rfl, by decide +kernel⟩ (Nat.le_of_ble_eq_true rfl) ?_
  intro p e s m below meth c A ls C hX hr hlocks hin hA hP hD hS hl
  have hl : lv_has ls 7 [(0, .ref a0)] := hl
  refine lv_aload_n C.1 C.2.1 dX12_symbol_0 rfl (lv_at hl 0 rfl) ?_
  refine k_get (v := .int 0) C hP 0 rfl rfl inlX12 2 (by decide) m_9_19 e0_2 dX12_symbol_1 ?_
  refine lv_if_le (tgt := 20) C.1 C.2.1 dX12_symbol_4 (by decide) (fun _ => ?_) (fun h => absurd (by decide) h)
  refine lv_iconst (v := 0) C.1 C.2.1 dX12_symbol_20 (by decide) ?_
  refine lv_istore_n (lv' := [(1, .int 0), (0, .ref a0)]) C.1 C.2.1 dX12_symbol_21 rfl hl (by decide) rfl (fun ls hl => ?_)
  refine lv_iconst (v := 0) C.1 C.2.1 dX12_symbol_22 (by decide) ?_
  refine lv_istore_n (lv' := [(2, .int 0), (1, .int 0), (0, .ref a0)]) C.1 C.2.1 dX12_symbol_23 rfl hl (by decide) rfl (fun ls hl => ?_)
  refine lv_lconst (v := 0) C.1 C.2.1 dX12_symbol_24 (by decide) ?_
  refine lv_lstore_n (lv' := [(3, .long 0), (2, .int 0), (1, .int 0), (0, .ref a0)]) C.1 C.2.1 dX12_symbol_25 rfl hl (by decide) rfl (fun ls hl => ?_)
  refine lv_iconst (v := 0) C.1 C.2.1 dX12_symbol_26 (by decide) ?_
  refine lv_istore (lv' := [(5, .int 0), (3, .long 0), (2, .int 0), (1, .int 0), (0, .ref a0)]) C.1 C.2.1 dX12_symbol_27 hl (by decide) rfl (fun ls hl => ?_)
  refine lv_iload C.1 C.2.1 dX12_symbol_29 (lv_at hl 0 rfl) ?_
  refine lv_bipush (v := 10) C.1 C.2.1 dX12_symbol_31 (by decide) ?_
  refine lv_icmp_ge (tgt := 152) C.1 C.2.1 dX12_symbol_33 (by decide) (fun h => absurd h (by decide)) (fun _ => ?_)
  refine lv_iload_n C.1 C.2.1 dX12_symbol_36 rfl (lv_at hl 3 rfl) ?_
  refine lv_if_eq (tgt := 152) C.1 C.2.1 dX12_symbol_37 (by decide) (fun _ => ?_) (fun h => absurd (by decide) h)
  refine lv_aload_n C.1 C.2.1 dX12_symbol_152 rfl (lv_at hl 4 rfl) ?_
  refine lv_iconst (v := 0) C.1 C.2.1 dX12_symbol_153 (by decide) ?_
  refine k_put (ws' := [(a0, .inr (11, (s0.set 2 (.int 0))))]) (v := .int 0) C hP hD hS 0 rfl rfl inlX12 tyX12_ok nmX12 2 (by decide) m_9_19 rfl rfl rfl n0 rfl dX12_symbol_154 (fun H locs hP hD hS => ?_)
  refine lv_aload_n C.1 C.2.1 dX12_symbol_157 rfl (lv_at hl 4 rfl) ?_
  refine k_get (v := .int 0) C hP 0 rfl rfl inlX12 42 (by decide) m_29_16 (sn (by decide) e0_42) dX12_symbol_158 ?_
  refine lv_if_eq (tgt := 180) C.1 C.2.1 dX12_symbol_161 (by decide) (fun _ => ?_) (fun h => absurd (by decide) h)
  refine lv_iconst (v := (-1)) C.1 C.2.1 dX12_symbol_180 (by decide) ?_
  refine lv_istore (lv' := [(5, .int (-1)), (3, .long 0), (2, .int 0), (1, .int 0), (0, .ref a0)]) C.1 C.2.1 dX12_symbol_181 hl (by decide) rfl (fun ls hl => ?_)
  refine lv_aload_n C.1 C.2.1 dX12_symbol_183 rfl (lv_at hl 4 rfl) ?_
  refine lv_iload C.1 C.2.1 dX12_symbol_184 (lv_at hl 0 rfl) ?_
  refine lv_iconst (v := (-1)) C.1 C.2.1 dX12_symbol_186 (by decide) ?_
  refine lv_icmp_eq (tgt := 204) C.1 C.2.1 dX12_symbol_187 (by decide) (fun _ => ?_) (fun h => absurd (by decide) h)
  refine lv_iconst (v := 1) C.1 C.2.1 dX12_symbol_204 (by decide) ?_
  refine k_put (ws' := [(a0, .inr (11, ((s0.set 2 (.int 0)).set 0 (.int 1))))]) (v := .int 1) C hP hD hS 0 rfl rfl inlX12 tyX12_ok nmX12 0 (by decide) m_9_18 rfl rfl rfl (sl n0) rfl dX12_symbol_205 (fun H locs hP hD hS => ?_)
  refine lv_aload_n C.1 C.2.1 dX12_symbol_208 rfl (lv_at hl 4 rfl) ?_
  refine k_get (v := .int 1) C hP 0 rfl rfl inlX12 0 (by decide) m_9_18 (ss (sk (sl n0) (by decide))) dX12_symbol_209 ?_
  refine lv_if_ne (tgt := 228) C.1 C.2.1 dX12_symbol_212 (by decide) (fun _ => ?_) (fun h => absurd h (by decide))
  refine lv_iconst (v := 0) C.1 C.2.1 dX12_symbol_228 (by decide) ?_
  exact k_iret C hr hlocks hP hD hS rfl ((s0.set 2 (.int 0)).set 0 (.int 1)) [0] rfl rfl ⟨rfl, (ss (sk (sl n0) (by decide)))⟩ (Nat.le_of_ble_eq_true rfl) (Nat.le_of_ble_eq_true rfl) dX12_symbol_229
set_option maxHeartbeats 4000000 in
set_option maxRecDepth 100000 in
theorem t_X12_block (l : Launch) (D : va_G) (K : Nat → ClassId) (a0 : Nat) (a1 : Nat) (s0 : List Value) (n0 : s0.length = 94) (x1 : Int32) (x2 : Int32) (x3 : Int32) (e0_25 : s0[25]? = some (.ref a1)) : uMet l yX12_block cX12_block 4 (some .int) (rmD 2 0 0) D K X0 [.ref a0, .int x1, .int x2, .int x3] [(a0, .inr (11, s0)), (a1, .inl (K 0, 102400, .inl (fun _ => 0)))] (QI D K (fun (r : Int32) (u : List Value) => ((x1 < 0) ∧ r = 0 ∧ u[0]? = some (.int 1)) ∨ ((¬ x1 < 0) ∧ (15 < x1) ∧ r = 0 ∧ u[0]? = some (.int 1)) ∨ ((¬ x1 < 0) ∧ (¬ 15 < x1) ∧ (x2 < 0) ∧ r = 0 ∧ u[0]? = some (.int 1)) ∨ ((¬ x1 < 0) ∧ (¬ 15 < x1) ∧ (¬ x2 < 0) ∧ (63 < x2) ∧ r = 0 ∧ u[0]? = some (.int 1)) ∨ ((¬ x1 < 0) ∧ (¬ 15 < x1) ∧ (¬ x2 < 0) ∧ (¬ 63 < x2) ∧ (x3 < 0) ∧ r = 0 ∧ u[0]? = some (.int 1)) ∨ ((¬ x1 < 0) ∧ (¬ 15 < x1) ∧ (¬ x2 < 0) ∧ (¬ 63 < x2) ∧ (¬ x3 < 0) ∧ (x3 ≤ 99) ∧ r = 0 ∧ u[0]? = some (.int 0)) ∨ ((¬ x1 < 0) ∧ (¬ 15 < x1) ∧ (¬ x2 < 0) ∧ (¬ 63 < x2) ∧ (¬ x3 < 0) ∧ (¬ x3 ≤ 99) ∧ r = 0 ∧ u[0]? = some (.int 1))) (fun (u : List Value) => [(a0, .inr (11, u))])) 0 0 := by
  refine k_met RX12 ⟨rfl, by decide +kernel⟩ (Nat.le_of_ble_eq_true rfl) ?_
  intro p e s m below meth c A ls C hX hr hlocks hin hA hP hD hS hl
  have hl : lv_has ls 4 [(0, .ref a0), (1, .int x1), (2, .int x2), (3, .int x3)] := hl
  refine lv_aload_n C.1 C.2.1 dX12_block_0 rfl (lv_at hl 0 rfl) ?_
  refine lv_iload_n C.1 C.2.1 dX12_block_1 rfl (lv_at hl 1 rfl) ?_
  refine lv_if_lt (tgt := 31) C.1 C.2.1 dX12_block_2 (by decide) (fun c_1 => ?_) (fun c_1 => ?_)
  · refine lv_iconst (v := 1) C.1 C.2.1 dX12_block_31 (by decide) ?_
    refine lv_goto (tgt := 36) C.1 C.2.1 dX12_block_32 (by decide) ?_
    refine k_put (ws' := [(a0, .inr (11, (s0.set 0 (.int 1)))), (a1, .inl (K 0, 102400, .inl (fun _ => 0)))]) (v := .int 1) C hP hD hS 0 rfl rfl inlX12 tyX12_ok nmX12 0 (by decide) m_9_18 rfl rfl rfl n0 rfl dX12_block_36 (fun H locs hP hD hS => ?_)
    refine lv_aload_n C.1 C.2.1 dX12_block_39 rfl (lv_at hl 0 rfl) ?_
    refine k_get (v := .int 1) C hP 0 rfl rfl inlX12 0 (by decide) m_9_18 (ss (sk n0 (by decide))) dX12_block_40 ?_
    refine lv_if_ne (tgt := 69) C.1 C.2.1 dX12_block_43 (by decide) (fun _ => ?_) (fun h => absurd h (by decide))
    refine lv_iconst (v := 0) C.1 C.2.1 dX12_block_69 (by decide) ?_
    exact k_iret C hr hlocks hP hD hS rfl (s0.set 0 (.int 1)) [0] rfl rfl (Or.inl ⟨c_1, rfl, (ss (sk n0 (by decide)))⟩) (Nat.le_of_ble_eq_true rfl) (Nat.le_of_ble_eq_true rfl) dX12_block_70
  · refine lv_iload_n C.1 C.2.1 dX12_block_5 rfl (lv_at hl 1 rfl) ?_
    refine lv_bipush (v := 15) C.1 C.2.1 dX12_block_6 (by decide) ?_
    refine lv_icmp_gt (tgt := 31) C.1 C.2.1 dX12_block_8 (by decide) (fun c_2 => ?_) (fun c_2 => ?_)
    · refine lv_iconst (v := 1) C.1 C.2.1 dX12_block_31 (by decide) ?_
      refine lv_goto (tgt := 36) C.1 C.2.1 dX12_block_32 (by decide) ?_
      refine k_put (ws' := [(a0, .inr (11, (s0.set 0 (.int 1)))), (a1, .inl (K 0, 102400, .inl (fun _ => 0)))]) (v := .int 1) C hP hD hS 0 rfl rfl inlX12 tyX12_ok nmX12 0 (by decide) m_9_18 rfl rfl rfl n0 rfl dX12_block_36 (fun H locs hP hD hS => ?_)
      refine lv_aload_n C.1 C.2.1 dX12_block_39 rfl (lv_at hl 0 rfl) ?_
      refine k_get (v := .int 1) C hP 0 rfl rfl inlX12 0 (by decide) m_9_18 (ss (sk n0 (by decide))) dX12_block_40 ?_
      refine lv_if_ne (tgt := 69) C.1 C.2.1 dX12_block_43 (by decide) (fun _ => ?_) (fun h => absurd h (by decide))
      refine lv_iconst (v := 0) C.1 C.2.1 dX12_block_69 (by decide) ?_
      exact k_iret C hr hlocks hP hD hS rfl (s0.set 0 (.int 1)) [0] rfl rfl (Or.inr (Or.inl ⟨c_1, c_2, rfl, (ss (sk n0 (by decide)))⟩)) (Nat.le_of_ble_eq_true rfl) (Nat.le_of_ble_eq_true rfl) dX12_block_70
    · refine lv_iload_n C.1 C.2.1 dX12_block_11 rfl (lv_at hl 2 rfl) ?_
      refine lv_if_lt (tgt := 31) C.1 C.2.1 dX12_block_12 (by decide) (fun c_3 => ?_) (fun c_3 => ?_)
      · refine lv_iconst (v := 1) C.1 C.2.1 dX12_block_31 (by decide) ?_
        refine lv_goto (tgt := 36) C.1 C.2.1 dX12_block_32 (by decide) ?_
        refine k_put (ws' := [(a0, .inr (11, (s0.set 0 (.int 1)))), (a1, .inl (K 0, 102400, .inl (fun _ => 0)))]) (v := .int 1) C hP hD hS 0 rfl rfl inlX12 tyX12_ok nmX12 0 (by decide) m_9_18 rfl rfl rfl n0 rfl dX12_block_36 (fun H locs hP hD hS => ?_)
        refine lv_aload_n C.1 C.2.1 dX12_block_39 rfl (lv_at hl 0 rfl) ?_
        refine k_get (v := .int 1) C hP 0 rfl rfl inlX12 0 (by decide) m_9_18 (ss (sk n0 (by decide))) dX12_block_40 ?_
        refine lv_if_ne (tgt := 69) C.1 C.2.1 dX12_block_43 (by decide) (fun _ => ?_) (fun h => absurd h (by decide))
        refine lv_iconst (v := 0) C.1 C.2.1 dX12_block_69 (by decide) ?_
        exact k_iret C hr hlocks hP hD hS rfl (s0.set 0 (.int 1)) [0] rfl rfl (Or.inr (Or.inr (Or.inl ⟨c_1, c_2, c_3, rfl, (ss (sk n0 (by decide)))⟩))) (Nat.le_of_ble_eq_true rfl) (Nat.le_of_ble_eq_true rfl) dX12_block_70
      · refine lv_iload_n C.1 C.2.1 dX12_block_15 rfl (lv_at hl 2 rfl) ?_
        refine lv_bipush (v := 63) C.1 C.2.1 dX12_block_16 (by decide) ?_
        refine lv_icmp_gt (tgt := 31) C.1 C.2.1 dX12_block_18 (by decide) (fun c_4 => ?_) (fun c_4 => ?_)
        · refine lv_iconst (v := 1) C.1 C.2.1 dX12_block_31 (by decide) ?_
          refine lv_goto (tgt := 36) C.1 C.2.1 dX12_block_32 (by decide) ?_
          refine k_put (ws' := [(a0, .inr (11, (s0.set 0 (.int 1)))), (a1, .inl (K 0, 102400, .inl (fun _ => 0)))]) (v := .int 1) C hP hD hS 0 rfl rfl inlX12 tyX12_ok nmX12 0 (by decide) m_9_18 rfl rfl rfl n0 rfl dX12_block_36 (fun H locs hP hD hS => ?_)
          refine lv_aload_n C.1 C.2.1 dX12_block_39 rfl (lv_at hl 0 rfl) ?_
          refine k_get (v := .int 1) C hP 0 rfl rfl inlX12 0 (by decide) m_9_18 (ss (sk n0 (by decide))) dX12_block_40 ?_
          refine lv_if_ne (tgt := 69) C.1 C.2.1 dX12_block_43 (by decide) (fun _ => ?_) (fun h => absurd h (by decide))
          refine lv_iconst (v := 0) C.1 C.2.1 dX12_block_69 (by decide) ?_
          exact k_iret C hr hlocks hP hD hS rfl (s0.set 0 (.int 1)) [0] rfl rfl (Or.inr (Or.inr (Or.inr (Or.inl ⟨c_1, c_2, c_3, c_4, rfl, (ss (sk n0 (by decide)))⟩)))) (Nat.le_of_ble_eq_true rfl) (Nat.le_of_ble_eq_true rfl) dX12_block_70
        · refine lv_iload_n C.1 C.2.1 dX12_block_21 rfl (lv_at hl 3 rfl) ?_
          refine lv_if_lt (tgt := 31) C.1 C.2.1 dX12_block_22 (by decide) (fun c_5 => ?_) (fun c_5 => ?_)
          · refine lv_iconst (v := 1) C.1 C.2.1 dX12_block_31 (by decide) ?_
            refine lv_goto (tgt := 36) C.1 C.2.1 dX12_block_32 (by decide) ?_
            refine k_put (ws' := [(a0, .inr (11, (s0.set 0 (.int 1)))), (a1, .inl (K 0, 102400, .inl (fun _ => 0)))]) (v := .int 1) C hP hD hS 0 rfl rfl inlX12 tyX12_ok nmX12 0 (by decide) m_9_18 rfl rfl rfl n0 rfl dX12_block_36 (fun H locs hP hD hS => ?_)
            refine lv_aload_n C.1 C.2.1 dX12_block_39 rfl (lv_at hl 0 rfl) ?_
            refine k_get (v := .int 1) C hP 0 rfl rfl inlX12 0 (by decide) m_9_18 (ss (sk n0 (by decide))) dX12_block_40 ?_
            refine lv_if_ne (tgt := 69) C.1 C.2.1 dX12_block_43 (by decide) (fun _ => ?_) (fun h => absurd h (by decide))
            refine lv_iconst (v := 0) C.1 C.2.1 dX12_block_69 (by decide) ?_
            exact k_iret C hr hlocks hP hD hS rfl (s0.set 0 (.int 1)) [0] rfl rfl (Or.inr (Or.inr (Or.inr (Or.inr (Or.inl ⟨c_1, c_2, c_3, c_4, c_5, rfl, (ss (sk n0 (by decide)))⟩))))) (Nat.le_of_ble_eq_true rfl) (Nat.le_of_ble_eq_true rfl) dX12_block_70
          · refine lv_iload_n C.1 C.2.1 dX12_block_25 rfl (lv_at hl 3 rfl) ?_
            refine lv_bipush (v := 99) C.1 C.2.1 dX12_block_26 (by decide) ?_
            refine lv_icmp_le (tgt := 35) C.1 C.2.1 dX12_block_28 (by decide) (fun c_6 => ?_) (fun c_6 => ?_)
            · refine lv_iconst (v := 0) C.1 C.2.1 dX12_block_35 (by decide) ?_
              refine k_put (ws' := [(a0, .inr (11, (s0.set 0 (.int 0)))), (a1, .inl (K 0, 102400, .inl (fun _ => 0)))]) (v := .int 0) C hP hD hS 0 rfl rfl inlX12 tyX12_ok nmX12 0 (by decide) m_9_18 rfl rfl rfl n0 rfl dX12_block_36 (fun H locs hP hD hS => ?_)
              refine lv_aload_n C.1 C.2.1 dX12_block_39 rfl (lv_at hl 0 rfl) ?_
              refine k_get (v := .int 0) C hP 0 rfl rfl inlX12 0 (by decide) m_9_18 (ss (sk n0 (by decide))) dX12_block_40 ?_
              refine lv_if_ne (tgt := 69) C.1 C.2.1 dX12_block_43 (by decide) (fun h => absurd h (by decide)) (fun _ => ?_)
              refine lv_aload_n C.1 C.2.1 dX12_block_46 rfl (lv_at hl 0 rfl) ?_
              refine k_get (v := .ref a1) C hP 0 rfl rfl inlX12 25 (by decide) m_7_16 (sn (by decide) e0_25) dX12_block_47 ?_
              refine lv_sipush (v := 6400) C.1 C.2.1 dX12_block_50 (by decide) ?_
              refine lv_iload_n C.1 C.2.1 dX12_block_53 rfl (lv_at hl 1 rfl) ?_
              refine k_imul (v := (6400 * x1)) C rfl dX12_block_54 ?_
              refine lv_bipush (v := 100) C.1 C.2.1 dX12_block_55 (by decide) ?_
              refine lv_iload_n C.1 C.2.1 dX12_block_57 rfl (lv_at hl 2 rfl) ?_
              refine k_imul (v := (100 * x2)) C rfl dX12_block_58 ?_
              refine k_iadd (v := ((6400 * x1) + (100 * x2))) C rfl dX12_block_59 ?_
              refine lv_iload_n C.1 C.2.1 dX12_block_60 rfl (lv_at hl 3 rfl) ?_
              refine k_iadd (v := (((6400 * x1) + (100 * x2)) + x3)) C rfl dX12_block_61 ?_
              refine k_ild (v := 0) C hP 1 rfl (vp_in_iff.mpr (by simp only [Int32.lt_iff_toInt_lt, Int32.le_iff_toInt_le, ← Int32.toInt_inj] at c_1 c_2 c_3 c_4 c_5 c_6 ⊢; have k0 : (0 : Int32).toInt = 0 := (by decide); have k1 : (15 : Int32).toInt = 15 := (by decide); have k2 : (63 : Int32).toInt = 63 := (by decide); have k3 : (99 : Int32).toInt = 99 := (by decide); have k4 : (6400 : Int32).toInt = 6400 := (by decide); have k5 : (100 : Int32).toInt = 100 := (by decide); have k6 := ti_imul (x := 6400) (y := x1) (by omega) (by omega); have k7 := ti_imul (x := 100) (y := x2) (by omega) (by omega); have k8 := ti_iadd (x := (6400 * x1)) (y := (100 * x2)) (by omega) (by omega); have k9 := ti_iadd (x := ((6400 * x1) + (100 * x2))) (y := x3) (by omega) (by omega); exact ⟨by omega, by omega⟩)) rfl dX12_block_62 ?_
              refine k_Si (As := [.int 0]) (rest := []) C hP hD hS hA (c_X12_told l D K ) X0_ok trivial (uwS m_84_13 m_84_14 m_1_5 m_84_15) (hdS 1 (by decide +kernel) rfl) ⟨Nat.le_of_ble_eq_true rfl, Nat.le_of_ble_eq_true rfl⟩ rfl rfl (isC := []) (isR := [0, 1]) (wr := [(a0, .inr (11, (s0.set 0 (.int 0)))), (a1, .inl (K 0, 102400, .inl (fun _ => 0)))]) ⟨rfl, rfl, rfl, rfl, by decide⟩ rfl hl.1 (Nat.le_of_ble_eq_true rfl) dX12_block_63 ⟨Nat.le_of_ble_eq_true rfl, Nat.le_of_ble_eq_true rfl⟩ (fun r_8 u_7 H locs hw hP hD hS => ?_)
              obtain rfl := hw
              have hP : va_P D vwCl [(a0, .inr (11, (s0.set 0 (.int 0)))), (a1, .inl (K 0, 102400, .inl (fun _ => 0)))] H := hP
              have hD : va_D A [(a0, .inr (11, (s0.set 0 (.int 0)))), (a1, .inl (K 0, 102400, .inl (fun _ => 0)))] := hD
              refine lv_goto (tgt := 70) C.1 C.2.1 dX12_block_66 (by decide) ?_
              exact k_iret C hr hlocks hP hD hS rfl (s0.set 0 (.int 0)) [0] rfl rfl (Or.inr (Or.inr (Or.inr (Or.inr (Or.inr (Or.inl ⟨c_1, c_2, c_3, c_4, c_5, c_6, rfl, (ss (sk n0 (by decide)))⟩)))))) (Nat.le_of_ble_eq_true rfl) (Nat.le_of_ble_eq_true rfl) dX12_block_70
            · refine lv_iconst (v := 1) C.1 C.2.1 dX12_block_31 (by decide) ?_
              refine lv_goto (tgt := 36) C.1 C.2.1 dX12_block_32 (by decide) ?_
              refine k_put (ws' := [(a0, .inr (11, (s0.set 0 (.int 1)))), (a1, .inl (K 0, 102400, .inl (fun _ => 0)))]) (v := .int 1) C hP hD hS 0 rfl rfl inlX12 tyX12_ok nmX12 0 (by decide) m_9_18 rfl rfl rfl n0 rfl dX12_block_36 (fun H locs hP hD hS => ?_)
              refine lv_aload_n C.1 C.2.1 dX12_block_39 rfl (lv_at hl 0 rfl) ?_
              refine k_get (v := .int 1) C hP 0 rfl rfl inlX12 0 (by decide) m_9_18 (ss (sk n0 (by decide))) dX12_block_40 ?_
              refine lv_if_ne (tgt := 69) C.1 C.2.1 dX12_block_43 (by decide) (fun _ => ?_) (fun h => absurd h (by decide))
              refine lv_iconst (v := 0) C.1 C.2.1 dX12_block_69 (by decide) ?_
              exact k_iret C hr hlocks hP hD hS rfl (s0.set 0 (.int 1)) [0] rfl rfl (Or.inr (Or.inr (Or.inr (Or.inr (Or.inr (Or.inr ⟨c_1, c_2, c_3, c_4, c_5, c_6, rfl, (ss (sk n0 (by decide)))⟩)))))) (Nat.le_of_ble_eq_true rfl) (Nat.le_of_ble_eq_true rfl) dX12_block_70
end
section
theorem dX1_value_0 : decode cX1_value 0 = .ok (.iload_n 0, 1) := by decide +kernel
theorem dX1_value_1 : decode cX1_value 1 = .ok (.ldc 11, 2) := by decide +kernel
theorem dX1_value_15 : decode cX1_value 15 = .ok (.iload_n 0, 1) := by decide +kernel
theorem dX1_value_16 : decode cX1_value 16 = .ok (.ldc 12, 2) := by decide +kernel
theorem dX1_value_18 : decode cX1_value 18 = .ok (.iand, 1) := by decide +kernel
theorem dX1_value_19 : decode cX1_value 19 = .ok (.ireturn, 1) := by decide +kernel
theorem dX1_value_3 : decode cX1_value 3 = .ok (.iand, 1) := by decide +kernel
theorem dX1_value_4 : decode cX1_value 4 = .ok (.ifCond .eq 11, 3) := by decide +kernel
theorem dX1_shown_0 : decode cX1_shown 0 = .ok (.iload_n 0, 1) := by decide +kernel
theorem dX1_shown_1 : decode cX1_shown 1 = .ok (.ldc 11, 2) := by decide +kernel
theorem dX1_shown_11 : decode cX1_shown 11 = .ok (.iload_n 0, 1) := by decide +kernel
theorem dX1_shown_12 : decode cX1_shown 12 = .ok (.invokestatic 14, 3) := by decide +kernel
theorem dX1_shown_15 : decode cX1_shown 15 = .ok (.ireturn, 1) := by decide +kernel
theorem dX1_shown_3 : decode cX1_shown 3 = .ok (.if_icmp .ne 8, 3) := by decide +kernel
theorem dX11_register_0 : decode cX11_register 0 = .ok (.iload_n 1, 1) := by decide +kernel
theorem dX11_register_1 : decode cX11_register 1 = .ok (.ifCond .lt 9, 3) := by decide +kernel
theorem dX11_register_10 : decode cX11_register 10 = .ok (.new 223, 3) := by decide +kernel
theorem dX11_register_13 : decode cX11_register 13 = .ok (.dup, 1) := by decide +kernel
theorem dX11_register_14 : decode cX11_register 14 = .ok (.invokespecial 225, 3) := by decide +kernel
theorem dX11_register_17 : decode cX11_register 17 = .ok (.athrow, 1) := by decide +kernel
theorem dX11_register_18 : decode cX11_register 18 = .ok (.iload_n 1, 1) := by decide +kernel
theorem dX11_register_19 : decode cX11_register 19 = .ok (.bipush 9, 2) := by decide +kernel
theorem dX11_register_21 : decode cX11_register 21 = .ok (.if_icmp .ne 19, 3) := by decide +kernel
theorem dX11_register_24 : decode cX11_register 24 = .ok (.aload_n 0, 1) := by decide +kernel
theorem dX11_register_25 : decode cX11_register 25 = .ok (.getfield 44, 3) := by decide +kernel
theorem dX11_register_28 : decode cX11_register 28 = .ok (.getfield 226, 3) := by decide +kernel
theorem dX11_register_31 : decode cX11_register 31 = .ok (.ifCond .eq 7, 3) := by decide +kernel
theorem dX11_register_38 : decode cX11_register 38 = .ok (.iconst 0, 1) := by decide +kernel
theorem dX11_register_39 : decode cX11_register 39 = .ok (.ireturn, 1) := by decide +kernel
theorem dX11_register_4 : decode cX11_register 4 = .ok (.iload_n 1, 1) := by decide +kernel
theorem dX11_register_40 : decode cX11_register 40 = .ok (.iload_n 1, 1) := by decide +kernel
theorem dX11_register_41 : decode cX11_register 41 = .ok (.bipush 10, 2) := by decide +kernel
theorem dX11_register_43 : decode cX11_register 43 = .ok (.if_icmp .ne 11, 3) := by decide +kernel
theorem dX11_register_46 : decode cX11_register 46 = .ok (.aload_n 0, 1) := by decide +kernel
theorem dX11_register_47 : decode cX11_register 47 = .ok (.getfield 44, 3) := by decide +kernel
theorem dX11_register_5 : decode cX11_register 5 = .ok (.bipush 11, 2) := by decide +kernel
theorem dX11_register_50 : decode cX11_register 50 = .ok (.getfield 229, 3) := by decide +kernel
theorem dX11_register_53 : decode cX11_register 53 = .ok (.ireturn, 1) := by decide +kernel
theorem dX11_register_54 : decode cX11_register 54 = .ok (.iload_n 1, 1) := by decide +kernel
theorem dX11_register_55 : decode cX11_register 55 = .ok (.bipush 11, 2) := by decide +kernel
theorem dX11_register_57 : decode cX11_register 57 = .ok (.if_icmp .ne 13, 3) := by decide +kernel
theorem dX11_register_60 : decode cX11_register 60 = .ok (.aload_n 0, 1) := by decide +kernel
theorem dX11_register_61 : decode cX11_register 61 = .ok (.getfield 44, 3) := by decide +kernel
theorem dX11_register_64 : decode cX11_register 64 = .ok (.getfield 232, 3) := by decide +kernel
theorem dX11_register_67 : decode cX11_register 67 = .ok (.goto 15, 3) := by decide +kernel
theorem dX11_register_7 : decode cX11_register 7 = .ok (.if_icmp .le 11, 3) := by decide +kernel
theorem dX11_register_70 : decode cX11_register 70 = .ok (.aload_n 0, 1) := by decide +kernel
theorem dX11_register_71 : decode cX11_register 71 = .ok (.getfield 44, 3) := by decide +kernel
theorem dX11_register_74 : decode cX11_register 74 = .ok (.getfield 235, 3) := by decide +kernel
theorem dX11_register_77 : decode cX11_register 77 = .ok (.iload_n 1, 1) := by decide +kernel
theorem dX11_register_78 : decode cX11_register 78 = .ok (.iaload, 1) := by decide +kernel
theorem dX11_register_79 : decode cX11_register 79 = .ok (.invokestatic 238, 3) := by decide +kernel
theorem dX11_register_82 : decode cX11_register 82 = .ok (.ireturn, 1) := by decide +kernel
theorem dX11_word_0 : decode cX11_word 0 = .ok (.iload_n 1, 1) := by decide +kernel
theorem dX11_word_1 : decode cX11_word 1 = .ok (.sipush (-3999), 3) := by decide +kernel
theorem dX11_word_11 : decode cX11_word 11 = .ok (.if_icmp .le 11, 3) := by decide +kernel
theorem dX11_word_14 : decode cX11_word 14 = .ok (.new 223, 3) := by decide +kernel
theorem dX11_word_17 : decode cX11_word 17 = .ok (.dup, 1) := by decide +kernel
theorem dX11_word_18 : decode cX11_word 18 = .ok (.invokespecial 225, 3) := by decide +kernel
theorem dX11_word_21 : decode cX11_word 21 = .ok (.athrow, 1) := by decide +kernel
theorem dX11_word_22 : decode cX11_word 22 = .ok (.aload_n 0, 1) := by decide +kernel
theorem dX11_word_23 : decode cX11_word 23 = .ok (.getfield 44, 3) := by decide +kernel
theorem dX11_word_26 : decode cX11_word 26 = .ok (.getfield 157, 3) := by decide +kernel
theorem dX11_word_29 : decode cX11_word 29 = .ok (.iload_n 1, 1) := by decide +kernel
theorem dX11_word_30 : decode cX11_word 30 = .ok (.sipush 3999, 3) := by decide +kernel
theorem dX11_word_33 : decode cX11_word 33 = .ok (.iadd, 1) := by decide +kernel
theorem dX11_word_34 : decode cX11_word 34 = .ok (.iaload, 1) := by decide +kernel
theorem dX11_word_35 : decode cX11_word 35 = .ok (.invokestatic 238, 3) := by decide +kernel
theorem dX11_word_38 : decode cX11_word 38 = .ok (.ireturn, 1) := by decide +kernel
theorem dX11_word_4 : decode cX11_word 4 = .ok (.if_icmp .lt 10, 3) := by decide +kernel
theorem dX11_word_7 : decode cX11_word 7 = .ok (.iload_n 1, 1) := by decide +kernel
theorem dX11_word_8 : decode cX11_word 8 = .ok (.sipush 3999, 3) := by decide +kernel
theorem dX11_tapeName_0 : decode cX11_tapeName 0 = .ok (.iload_n 1, 1) := by decide +kernel
theorem dX11_tapeName_1 : decode cX11_tapeName 1 = .ok (.iconst 1, 1) := by decide +kernel
theorem dX11_tapeName_11 : decode cX11_tapeName 11 = .ok (.lconst 0, 1) := by decide +kernel
theorem dX11_tapeName_12 : decode cX11_tapeName 12 = .ok (.lreturn, 1) := by decide +kernel
theorem dX11_tapeName_2 : decode cX11_tapeName 2 = .ok (.if_icmp .lt 9, 3) := by decide +kernel
theorem dX11_symbol_0 : decode cX11_symbol 0 = .ok (.aload_n 0, 1) := by decide +kernel
theorem dX11_symbol_1 : decode cX11_symbol 1 = .ok (.aload_n 0, 1) := by decide +kernel
theorem dX11_symbol_10 : decode cX11_symbol 10 = .ok (.getfield 48, 3) := by decide +kernel
theorem dX11_symbol_13 : decode cX11_symbol 13 = .ok (.getfield 153, 3) := by decide +kernel
theorem dX11_symbol_16 : decode cX11_symbol 16 = .ok (.ifCond .eq 23, 3) := by decide +kernel
theorem dX11_symbol_2 : decode cX11_symbol 2 = .ok (.invokevirtual 78, 3) := by decide +kernel
theorem dX11_symbol_39 : decode cX11_symbol 39 = .ok (.iconst (-1), 1) := by decide +kernel
theorem dX11_symbol_40 : decode cX11_symbol 40 = .ok (.istore_n 3, 1) := by decide +kernel
theorem dX11_symbol_41 : decode cX11_symbol 41 = .ok (.iload_n 3, 1) := by decide +kernel
theorem dX11_symbol_42 : decode cX11_symbol 42 = .ok (.ifCond .lt 18, 3) := by decide +kernel
theorem dX11_symbol_5 : decode cX11_symbol 5 = .ok (.invokevirtual 248, 3) := by decide +kernel
theorem dX11_symbol_60 : decode cX11_symbol 60 = .ok (.new 223, 3) := by decide +kernel
theorem dX11_symbol_63 : decode cX11_symbol 63 = .ok (.dup, 1) := by decide +kernel
theorem dX11_symbol_64 : decode cX11_symbol 64 = .ok (.invokespecial 225, 3) := by decide +kernel
theorem dX11_symbol_67 : decode cX11_symbol 67 = .ok (.athrow, 1) := by decide +kernel
theorem dX11_symbol_8 : decode cX11_symbol 8 = .ok (.lstore_n 1, 1) := by decide +kernel
theorem dX11_symbol_9 : decode cX11_symbol 9 = .ok (.aload_n 0, 1) := by decide +kernel
theorem dX10_stored_0 : decode cX10_stored 0 = .ok (.iload_n 1, 1) := by decide +kernel
theorem dX10_stored_1 : decode cX10_stored 1 = .ok (.ifCond .lt 33, 3) := by decide +kernel
theorem dX10_stored_10 : decode cX10_stored 10 = .ok (.iload_n 2, 1) := by decide +kernel
theorem dX10_stored_11 : decode cX10_stored 11 = .ok (.ifCond .lt 23, 3) := by decide +kernel
theorem dX10_stored_14 : decode cX10_stored 14 = .ok (.iload_n 2, 1) := by decide +kernel
theorem dX10_stored_15 : decode cX10_stored 15 = .ok (.sipush 6400, 3) := by decide +kernel
theorem dX10_stored_18 : decode cX10_stored 18 = .ok (.if_icmp .ge 16, 3) := by decide +kernel
theorem dX10_stored_21 : decode cX10_stored 21 = .ok (.aload_n 0, 1) := by decide +kernel
theorem dX10_stored_22 : decode cX10_stored 22 = .ok (.getfield 11, 3) := by decide +kernel
theorem dX10_stored_25 : decode cX10_stored 25 = .ok (.iload_n 1, 1) := by decide +kernel
theorem dX10_stored_26 : decode cX10_stored 26 = .ok (.aaload, 1) := by decide +kernel
theorem dX10_stored_27 : decode cX10_stored 27 = .ok (.ifnull 7, 3) := by decide +kernel
theorem dX10_stored_34 : decode cX10_stored 34 = .ok (.iconst 0, 1) := by decide +kernel
theorem dX10_stored_35 : decode cX10_stored 35 = .ok (.istore_n 3, 1) := by decide +kernel
theorem dX10_stored_36 : decode cX10_stored 36 = .ok (.iload_n 3, 1) := by decide +kernel
theorem dX10_stored_37 : decode cX10_stored 37 = .ok (.ifCond .eq 14, 3) := by decide +kernel
theorem dX10_stored_4 : decode cX10_stored 4 = .ok (.iload_n 1, 1) := by decide +kernel
theorem dX10_stored_5 : decode cX10_stored 5 = .ok (.bipush 16, 2) := by decide +kernel
theorem dX10_stored_51 : decode cX10_stored 51 = .ok (.iconst 0, 1) := by decide +kernel
theorem dX10_stored_52 : decode cX10_stored 52 = .ok (.ireturn, 1) := by decide +kernel
theorem dX10_stored_7 : decode cX10_stored 7 = .ok (.if_icmp .ge 27, 3) := by decide +kernel
theorem dX11_block_0 : decode cX11_block 0 = .ok (.iload_n 1, 1) := by decide +kernel
theorem dX11_block_1 : decode cX11_block 1 = .ok (.ifCond .lt 33, 3) := by decide +kernel
theorem dX11_block_10 : decode cX11_block 10 = .ok (.iload_n 2, 1) := by decide +kernel
theorem dX11_block_11 : decode cX11_block 11 = .ok (.ifCond .lt 23, 3) := by decide +kernel
theorem dX11_block_14 : decode cX11_block 14 = .ok (.iload_n 2, 1) := by decide +kernel
theorem dX11_block_15 : decode cX11_block 15 = .ok (.bipush 64, 2) := by decide +kernel
theorem dX11_block_17 : decode cX11_block 17 = .ok (.if_icmp .ge 17, 3) := by decide +kernel
theorem dX11_block_20 : decode cX11_block 20 = .ok (.iload_n 3, 1) := by decide +kernel
theorem dX11_block_21 : decode cX11_block 21 = .ok (.ifCond .lt 13, 3) := by decide +kernel
theorem dX11_block_24 : decode cX11_block 24 = .ok (.iload_n 3, 1) := by decide +kernel
theorem dX11_block_25 : decode cX11_block 25 = .ok (.bipush 100, 2) := by decide +kernel
theorem dX11_block_27 : decode cX11_block 27 = .ok (.if_icmp .ge 7, 3) := by decide +kernel
theorem dX11_block_30 : decode cX11_block 30 = .ok (.iconst 1, 1) := by decide +kernel
theorem dX11_block_31 : decode cX11_block 31 = .ok (.goto 4, 3) := by decide +kernel
theorem dX11_block_34 : decode cX11_block 34 = .ok (.iconst 0, 1) := by decide +kernel
theorem dX11_block_35 : decode cX11_block 35 = .ok (.istore 4, 2) := by decide +kernel
theorem dX11_block_37 : decode cX11_block 37 = .ok (.iload 4, 2) := by decide +kernel
theorem dX11_block_39 : decode cX11_block 39 = .ok (.ifCond .ne 11, 3) := by decide +kernel
theorem dX11_block_4 : decode cX11_block 4 = .ok (.iload_n 1, 1) := by decide +kernel
theorem dX11_block_42 : decode cX11_block 42 = .ok (.new 223, 3) := by decide +kernel
theorem dX11_block_45 : decode cX11_block 45 = .ok (.dup, 1) := by decide +kernel
theorem dX11_block_46 : decode cX11_block 46 = .ok (.invokespecial 225, 3) := by decide +kernel
theorem dX11_block_49 : decode cX11_block 49 = .ok (.athrow, 1) := by decide +kernel
theorem dX11_block_5 : decode cX11_block 5 = .ok (.bipush 16, 2) := by decide +kernel
theorem dX11_block_50 : decode cX11_block 50 = .ok (.aload_n 0, 1) := by decide +kernel
theorem dX11_block_51 : decode cX11_block 51 = .ok (.getfield 40, 3) := by decide +kernel
theorem dX11_block_54 : decode cX11_block 54 = .ok (.iload_n 1, 1) := by decide +kernel
theorem dX11_block_55 : decode cX11_block 55 = .ok (.iload_n 2, 1) := by decide +kernel
theorem dX11_block_56 : decode cX11_block 56 = .ok (.bipush 100, 2) := by decide +kernel
theorem dX11_block_58 : decode cX11_block 58 = .ok (.imul, 1) := by decide +kernel
theorem dX11_block_59 : decode cX11_block 59 = .ok (.iload_n 3, 1) := by decide +kernel
theorem dX11_block_60 : decode cX11_block 60 = .ok (.iadd, 1) := by decide +kernel
theorem dX11_block_61 : decode cX11_block 61 = .ok (.invokevirtual 279, 3) := by decide +kernel
theorem dX11_block_64 : decode cX11_block 64 = .ok (.invokestatic 238, 3) := by decide +kernel
theorem dX11_block_67 : decode cX11_block 67 = .ok (.ireturn, 1) := by decide +kernel
theorem dX11_block_7 : decode cX11_block 7 = .ok (.if_icmp .ge 27, 3) := by decide +kernel
set_option maxHeartbeats 4000000 in
set_option maxRecDepth 100000 in
theorem c_X1_value (l : Launch) (D : va_G) (K : Nat → ClassId)  : uMet l yX1_value cX1_value 1 (some .int) (rmD 0 0 0) D K X0 [.int 0] [] (QI D K (fun (r : Int32) (u : Nat → Nat) => r = 0) (fun (u : Nat → Nat) => [])) 0 0 := by
  refine k_met RX1 ⟨rfl, by decide +kernel⟩ (Nat.le_of_ble_eq_true rfl) ?_
  intro p e s m below meth c A ls C hX hr hlocks hin hA hP hD hS hl
  have hl : lv_has ls 1 [(0, .int 0)] := hl
  refine lv_iload_n C.1 C.2.1 dX1_value_0 rfl (lv_at hl 0 rfl) ?_
  refine lv_ldc (v := 1073741824) C.1 C.2.1 C.2.2.2.1 (C.2.2.2.2.1 _ m_22_17) dX1_value_1 ?_
  refine k_iand (v := 0) C (by decide) dX1_value_3 ?_
  refine lv_if_eq (tgt := 15) C.1 C.2.1 dX1_value_4 (by decide) (fun _ => ?_) (fun h => absurd (by decide) h)
  refine lv_iload_n C.1 C.2.1 dX1_value_15 rfl (lv_at hl 0 rfl) ?_
  refine lv_ldc (v := 1073741823) C.1 C.2.1 C.2.2.2.1 (C.2.2.2.2.1 _ m_23_11) dX1_value_16 ?_
  refine k_iand (v := 0) C (by decide) dX1_value_18 ?_
  exact k_iret C hr hlocks hP hD hS rfl (fun _ => 0) [] rfl rfl rfl (Nat.le_of_ble_eq_true rfl) (Nat.le_of_ble_eq_true rfl) dX1_value_19
set_option maxHeartbeats 4000000 in
set_option maxRecDepth 100000 in
theorem c_X1_shown (l : Launch) (D : va_G) (K : Nat → ClassId)  : uMet l yX1_shown cX1_shown 1 (some .int) (rmD 1 0 0) D K X0 [.int 0] [] (QI D K (fun (r : Int32) (u : Nat → Nat) => r = 0) (fun (u : Nat → Nat) => [])) 0 0 := by
  refine k_met RX1 ⟨rfl, by decide +kernel⟩ (Nat.le_of_ble_eq_true rfl) ?_
  intro p e s m below meth c A ls C hX hr hlocks hin hA hP hD hS hl
  have hl : lv_has ls 1 [(0, .int 0)] := hl
  refine lv_iload_n C.1 C.2.1 dX1_shown_0 rfl (lv_at hl 0 rfl) ?_
  refine lv_ldc (v := 1073741824) C.1 C.2.1 C.2.2.2.1 (C.2.2.2.2.1 _ m_22_17) dX1_shown_1 ?_
  refine lv_icmp_ne (tgt := 11) C.1 C.2.1 dX1_shown_3 (by decide) (fun _ => ?_) (fun h => absurd h (by decide))
  refine lv_iload_n C.1 C.2.1 dX1_shown_11 rfl (lv_at hl 0 rfl) ?_
  refine k_Si (As := [.int 0]) (rest := []) C hP hD hS hA (c_X1_value l D K ) X0_ok trivial (uwS m_84_8 m_23_9 m_14_2 m_23_10) (hdS 1 (by decide +kernel) rfl) ⟨Nat.le_of_ble_eq_true rfl, Nat.le_of_ble_eq_true rfl⟩ rfl rfl (isC := []) (isR := []) (wr := []) ⟨rfl, rfl, rfl, rfl, by decide⟩ rfl hl.1 (Nat.le_of_ble_eq_true rfl) dX1_shown_12 ⟨Nat.le_of_ble_eq_true rfl, Nat.le_of_ble_eq_true rfl⟩ (fun r_2 u_1 H locs hw hP hD hS => ?_)
  obtain rfl := hw
  have hP : va_P D vwCl [] H := hP
  have hD : va_D A [] := hD
  exact k_iret C hr hlocks hP hD hS rfl (fun _ => 0) [] rfl rfl rfl (Nat.le_of_ble_eq_true rfl) (Nat.le_of_ble_eq_true rfl) dX1_shown_15
set_option maxHeartbeats 4000000 in
set_option maxRecDepth 100000 in
theorem t_X11_register (l : Launch) (htr : l.stackTraces = false) (D : va_G) (K : Nat → ClassId) (a0 : Nat) (a1 : Nat) (a2 : Nat) (s0 : List Value) (n0 : s0.length = 8) (s1 : List Value) (n1 : s1.length = 16) (x1 : Int32) (e0_4 : s0[4]? = some (.ref a1)) (e1_1 : s1[1]? = some (.ref a2)) (e1_5 : s1[5]? = some (.int 0)) (e1_4 : s1[4]? = some (.int 0)) (e1_3 : s1[3]? = some (.int 0)) : xMet l yX11_register cX11_register 2 (some .int) (rmD 6 1 6) D K [.ref a0, .int x1] [(a0, .inr (10, s0)), (a1, .inr (1, s1)), (a2, .inl (K 0, 9, .inl (fun _ => 0)))] (QI D K (fun (r : Int32) (u : Nat → Nat) => ((¬ x1 < 0) ∧ (x1 ≤ 11) ∧ (¬ x1 = 9) ∧ (¬ x1 = 10) ∧ (¬ x1 = 11) ∧ r = 0) ∨ ((¬ x1 < 0) ∧ (x1 ≤ 11) ∧ (¬ x1 = 9) ∧ (¬ x1 = 10) ∧ (x1 = 11) ∧ r = 0) ∨ ((¬ x1 < 0) ∧ (x1 ≤ 11) ∧ (¬ x1 = 9) ∧ (x1 = 10) ∧ r = 0) ∨ ((¬ x1 < 0) ∧ (x1 ≤ 11) ∧ (x1 = 9) ∧ r = 0)) (fun (u : Nat → Nat) => [])) (((x1 < 0)) ∨ ((¬ x1 < 0) ∧ (¬ x1 ≤ 11))) 1 6 := by
  refine x_met RX11 ⟨rfl, by decide +kernel⟩ (Nat.le_of_ble_eq_true rfl) ?_
  intro p e s m below meth c A ls C hE hZ ht hr hlocks hA hP hD hS hl
  have hl : lv_has ls 2 [(0, .ref a0), (1, .int x1)] := hl
  refine lv_iload_n C.1 C.2.1 dX11_register_0 rfl (lv_at hl 1 rfl) ?_
  refine lv_if_lt (tgt := 10) C.1 C.2.1 dX11_register_1 (by decide) (fun c_1 => ?_) (fun c_1 => ?_)
  · exact x_throw C htr hE hZ ht hlocks hS hl.1 (Or.inl c_1) m_83_23 m_84_0 dX11_register_10 dX11_register_13 dX11_register_14 dX11_register_17 (by decide) (Nat.le_of_ble_eq_true rfl) (Nat.le_of_ble_eq_true rfl) (Nat.le_of_ble_eq_true rfl) (Nat.le_of_ble_eq_true rfl) (Nat.le_of_ble_eq_true rfl)
  · refine lv_iload_n C.1 C.2.1 dX11_register_4 rfl (lv_at hl 1 rfl) ?_
    refine lv_bipush (v := 11) C.1 C.2.1 dX11_register_5 (by decide) ?_
    refine lv_icmp_le (tgt := 18) C.1 C.2.1 dX11_register_7 (by decide) (fun c_2 => ?_) (fun c_2 => ?_)
    · refine lv_iload_n C.1 C.2.1 dX11_register_18 rfl (lv_at hl 1 rfl) ?_
      refine lv_bipush (v := 9) C.1 C.2.1 dX11_register_19 (by decide) ?_
      refine lv_icmp_ne (tgt := 40) C.1 C.2.1 dX11_register_21 (by decide) (fun c_3 => ?_) (fun c_3 => ?_)
      · refine lv_iload_n C.1 C.2.1 dX11_register_40 rfl (lv_at hl 1 rfl) ?_
        refine lv_bipush (v := 10) C.1 C.2.1 dX11_register_41 (by decide) ?_
        refine lv_icmp_ne (tgt := 54) C.1 C.2.1 dX11_register_43 (by decide) (fun c_4 => ?_) (fun c_4 => ?_)
        · refine lv_iload_n C.1 C.2.1 dX11_register_54 rfl (lv_at hl 1 rfl) ?_
          refine lv_bipush (v := 11) C.1 C.2.1 dX11_register_55 (by decide) ?_
          refine lv_icmp_ne (tgt := 70) C.1 C.2.1 dX11_register_57 (by decide) (fun c_5 => ?_) (fun c_5 => ?_)
          · refine lv_aload_n C.1 C.2.1 dX11_register_70 rfl (lv_at hl 0 rfl) ?_
            refine k_get (v := .ref a1) C hP 0 rfl rfl inlX11 4 (by decide) m_2_9 e0_4 dX11_register_71 ?_
            refine k_get (v := .ref a2) C hP 1 rfl rfl inlX2 1 (by decide) m_84_3 e1_1 dX11_register_74 ?_
            refine lv_iload_n C.1 C.2.1 dX11_register_77 rfl (lv_at hl 1 rfl) ?_
            refine k_ild (v := 0) C hP 2 rfl (vp_in_iff.mpr (by simp only [Int32.lt_iff_toInt_lt, Int32.le_iff_toInt_le, ← Int32.toInt_inj] at c_1 c_2 c_3 c_4 c_5 ⊢; have k0 : (0 : Int32).toInt = 0 := (by decide); have k1 : (11 : Int32).toInt = 11 := (by decide); have k2 : (9 : Int32).toInt = 9 := (by decide); have k3 : (10 : Int32).toInt = 10 := (by decide); exact ⟨by omega, by omega⟩)) rfl dX11_register_78 ?_
            refine k_Si (As := [.int 0]) (rest := []) C hP hD hS hA (c_X1_shown l D K ) X0_ok trivial (uwS m_84_4 m_84_5 m_14_2 m_84_6) (hdS 1 (by decide +kernel) rfl) ⟨Nat.le_of_ble_eq_true rfl, Nat.le_of_ble_eq_true rfl⟩ rfl rfl (isC := []) (isR := [0, 1, 2]) (wr := [(a0, .inr (10, s0)), (a1, .inr (1, s1)), (a2, .inl (K 0, 9, .inl (fun _ => 0)))]) ⟨rfl, rfl, rfl, rfl, by decide⟩ rfl hl.1 (Nat.le_of_ble_eq_true rfl) dX11_register_79 ⟨Nat.le_of_ble_eq_true rfl, Nat.le_of_ble_eq_true rfl⟩ (fun r_7 u_6 H locs hw hP hD hS => ?_)
            obtain rfl := hw
            have hP : va_P D vwCl [(a0, .inr (10, s0)), (a1, .inr (1, s1)), (a2, .inl (K 0, 9, .inl (fun _ => 0)))] H := hP
            have hD : va_D A [(a0, .inr (10, s0)), (a1, .inr (1, s1)), (a2, .inl (K 0, 9, .inl (fun _ => 0)))] := hD
            exact vx_ret (k_iret C hr hlocks hP hD hS rfl (fun _ => 0) [] rfl rfl (Or.inl ⟨c_1, c_2, c_3, c_4, c_5, rfl⟩) (Nat.le_of_ble_eq_true rfl) (Nat.le_of_ble_eq_true rfl) dX11_register_82)
          · refine lv_aload_n C.1 C.2.1 dX11_register_60 rfl (lv_at hl 0 rfl) ?_
            refine k_get (v := .ref a1) C hP 0 rfl rfl inlX11 4 (by decide) m_2_9 e0_4 dX11_register_61 ?_
            refine k_get (v := .int 0) C hP 1 rfl rfl inlX2 5 (by decide) m_76_20 e1_5 dX11_register_64 ?_
            refine lv_goto (tgt := 82) C.1 C.2.1 dX11_register_67 (by decide) ?_
            exact vx_ret (k_iret C hr hlocks hP hD hS rfl (fun _ => 0) [] rfl rfl (Or.inr (Or.inl ⟨c_1, c_2, c_3, c_4, c_5, rfl⟩)) (Nat.le_of_ble_eq_true rfl) (Nat.le_of_ble_eq_true rfl) dX11_register_82)
        · refine lv_aload_n C.1 C.2.1 dX11_register_46 rfl (lv_at hl 0 rfl) ?_
          refine k_get (v := .ref a1) C hP 0 rfl rfl inlX11 4 (by decide) m_2_9 e0_4 dX11_register_47 ?_
          refine k_get (v := .int 0) C hP 1 rfl rfl inlX2 4 (by decide) m_84_2 e1_4 dX11_register_50 ?_
          exact vx_ret (k_iret C hr hlocks hP hD hS rfl (fun _ => 0) [] rfl rfl (Or.inr (Or.inr (Or.inl ⟨c_1, c_2, c_3, c_4, rfl⟩))) (Nat.le_of_ble_eq_true rfl) (Nat.le_of_ble_eq_true rfl) dX11_register_53)
      · refine lv_aload_n C.1 C.2.1 dX11_register_24 rfl (lv_at hl 0 rfl) ?_
        refine k_get (v := .ref a1) C hP 0 rfl rfl inlX11 4 (by decide) m_2_9 e0_4 dX11_register_25 ?_
        refine k_get (v := .int 0) C hP 1 rfl rfl inlX2 3 (by decide) m_84_1 e1_3 dX11_register_28 ?_
        refine lv_if_eq (tgt := 38) C.1 C.2.1 dX11_register_31 (by decide) (fun _ => ?_) (fun h => absurd (by decide) h)
        refine lv_iconst (v := 0) C.1 C.2.1 dX11_register_38 (by decide) ?_
        exact vx_ret (k_iret C hr hlocks hP hD hS rfl (fun _ => 0) [] rfl rfl (Or.inr (Or.inr (Or.inr ⟨c_1, c_2, c_3, rfl⟩))) (Nat.le_of_ble_eq_true rfl) (Nat.le_of_ble_eq_true rfl) dX11_register_39)
    · exact x_throw C htr hE hZ ht hlocks hS hl.1 (Or.inr ⟨c_1, c_2⟩) m_83_23 m_84_0 dX11_register_10 dX11_register_13 dX11_register_14 dX11_register_17 (by decide) (Nat.le_of_ble_eq_true rfl) (Nat.le_of_ble_eq_true rfl) (Nat.le_of_ble_eq_true rfl) (Nat.le_of_ble_eq_true rfl) (Nat.le_of_ble_eq_true rfl)
set_option maxHeartbeats 4000000 in
set_option maxRecDepth 100000 in
theorem t_X11_word (l : Launch) (htr : l.stackTraces = false) (D : va_G) (K : Nat → ClassId) (a0 : Nat) (a1 : Nat) (a2 : Nat) (s0 : List Value) (n0 : s0.length = 8) (s1 : List Value) (n1 : s1.length = 16) (x1 : Int32) (e0_4 : s0[4]? = some (.ref a1)) (e1_0 : s1[0]? = some (.ref a2)) : xMet l yX11_word cX11_word 2 (some .int) (rmD 6 1 6) D K [.ref a0, .int x1] [(a0, .inr (10, s0)), (a1, .inr (1, s1)), (a2, .inl (K 0, 7999, .inl (fun _ => 0)))] (QI D K (fun (r : Int32) (u : Nat → Nat) => ((¬ x1 < (-3999)) ∧ (x1 ≤ 3999) ∧ r = 0)) (fun (u : Nat → Nat) => [])) (((x1 < (-3999))) ∨ ((¬ x1 < (-3999)) ∧ (¬ x1 ≤ 3999))) 1 6 := by
  refine x_met RX11 ⟨rfl, by decide +kernel⟩ (Nat.le_of_ble_eq_true rfl) ?_
  intro p e s m below meth c A ls C hE hZ ht hr hlocks hA hP hD hS hl
  have hl : lv_has ls 2 [(0, .ref a0), (1, .int x1)] := hl
  refine lv_iload_n C.1 C.2.1 dX11_word_0 rfl (lv_at hl 1 rfl) ?_
  refine lv_sipush (v := (-3999)) C.1 C.2.1 dX11_word_1 (by decide) ?_
  refine lv_icmp_lt (tgt := 14) C.1 C.2.1 dX11_word_4 (by decide) (fun c_1 => ?_) (fun c_1 => ?_)
  · exact x_throw C htr hE hZ ht hlocks hS hl.1 (Or.inl c_1) m_83_23 m_84_0 dX11_word_14 dX11_word_17 dX11_word_18 dX11_word_21 (by decide) (Nat.le_of_ble_eq_true rfl) (Nat.le_of_ble_eq_true rfl) (Nat.le_of_ble_eq_true rfl) (Nat.le_of_ble_eq_true rfl) (Nat.le_of_ble_eq_true rfl)
  · refine lv_iload_n C.1 C.2.1 dX11_word_7 rfl (lv_at hl 1 rfl) ?_
    refine lv_sipush (v := 3999) C.1 C.2.1 dX11_word_8 (by decide) ?_
    refine lv_icmp_le (tgt := 22) C.1 C.2.1 dX11_word_11 (by decide) (fun c_2 => ?_) (fun c_2 => ?_)
    · refine lv_aload_n C.1 C.2.1 dX11_word_22 rfl (lv_at hl 0 rfl) ?_
      refine k_get (v := .ref a1) C hP 0 rfl rfl inlX11 4 (by decide) m_2_9 e0_4 dX11_word_23 ?_
      refine k_get (v := .ref a2) C hP 1 rfl rfl inlX2 0 (by decide) m_64_17 e1_0 dX11_word_26 ?_
      refine lv_iload_n C.1 C.2.1 dX11_word_29 rfl (lv_at hl 1 rfl) ?_
      refine lv_sipush (v := 3999) C.1 C.2.1 dX11_word_30 (by decide) ?_
      refine k_iadd (v := (x1 + 3999)) C rfl dX11_word_33 ?_
      refine k_ild (v := 0) C hP 2 rfl (vp_in_iff.mpr (by simp only [Int32.lt_iff_toInt_lt, Int32.le_iff_toInt_le, ← Int32.toInt_inj] at c_1 c_2 ⊢; have k0 : ((-3999) : Int32).toInt = -3999 := (by decide); have k1 : (3999 : Int32).toInt = 3999 := (by decide); have k2 := ti_iadd (x := x1) (y := 3999) (by omega) (by omega); exact ⟨by omega, by omega⟩)) rfl dX11_word_34 ?_
      refine k_Si (As := [.int 0]) (rest := []) C hP hD hS hA (c_X1_shown l D K ) X0_ok trivial (uwS m_84_4 m_84_5 m_14_2 m_84_6) (hdS 1 (by decide +kernel) rfl) ⟨Nat.le_of_ble_eq_true rfl, Nat.le_of_ble_eq_true rfl⟩ rfl rfl (isC := []) (isR := [0, 1, 2]) (wr := [(a0, .inr (10, s0)), (a1, .inr (1, s1)), (a2, .inl (K 0, 7999, .inl (fun _ => 0)))]) ⟨rfl, rfl, rfl, rfl, by decide⟩ rfl hl.1 (Nat.le_of_ble_eq_true rfl) dX11_word_35 ⟨Nat.le_of_ble_eq_true rfl, Nat.le_of_ble_eq_true rfl⟩ (fun r_4 u_3 H locs hw hP hD hS => ?_)
      obtain rfl := hw
      have hP : va_P D vwCl [(a0, .inr (10, s0)), (a1, .inr (1, s1)), (a2, .inl (K 0, 7999, .inl (fun _ => 0)))] H := hP
      have hD : va_D A [(a0, .inr (10, s0)), (a1, .inr (1, s1)), (a2, .inl (K 0, 7999, .inl (fun _ => 0)))] := hD
      exact vx_ret (k_iret C hr hlocks hP hD hS rfl (fun _ => 0) [] rfl rfl ⟨c_1, c_2, rfl⟩ (Nat.le_of_ble_eq_true rfl) (Nat.le_of_ble_eq_true rfl) dX11_word_38)
    · exact x_throw C htr hE hZ ht hlocks hS hl.1 (Or.inr ⟨c_1, c_2⟩) m_83_23 m_84_0 dX11_word_14 dX11_word_17 dX11_word_18 dX11_word_21 (by decide) (Nat.le_of_ble_eq_true rfl) (Nat.le_of_ble_eq_true rfl) (Nat.le_of_ble_eq_true rfl) (Nat.le_of_ble_eq_true rfl) (Nat.le_of_ble_eq_true rfl)
set_option maxHeartbeats 4000000 in
set_option maxRecDepth 100000 in
theorem c_X11_tapeName (l : Launch) (D : va_G) (K : Nat → ClassId) (a0 : Nat) : uMet l yX11_tapeName cX11_tapeName 6 (some .long) (rmD 0 0 0) D K X0 [.ref a0, .int 0] [] (QL D K (fun (r : Int64) (u : Nat → Nat) => r = 0) (fun (u : Nat → Nat) => [])) 0 0 := by
  refine k_met RX11 ⟨rfl, by decide +kernel⟩ (Nat.le_of_ble_eq_true rfl) ?_
  intro p e s m below meth c A ls C hX hr hlocks hin hA hP hD hS hl
  have hl : lv_has ls 6 [(0, .ref a0), (1, .int 0)] := hl
  refine lv_iload_n C.1 C.2.1 dX11_tapeName_0 rfl (lv_at hl 1 rfl) ?_
  refine lv_iconst (v := 1) C.1 C.2.1 dX11_tapeName_1 (by decide) ?_
  refine lv_icmp_lt (tgt := 11) C.1 C.2.1 dX11_tapeName_2 (by decide) (fun _ => ?_) (fun h => absurd (by decide) h)
  refine lv_lconst (v := 0) C.1 C.2.1 dX11_tapeName_11 (by decide) ?_
  exact k_lret C hr hlocks hP hD hS (fun _ => 0) [] rfl rfl rfl (Nat.le_of_ble_eq_true rfl) (Nat.le_of_ble_eq_true rfl) dX11_tapeName_12
set_option maxHeartbeats 4000000 in
set_option maxRecDepth 100000 in
theorem t_X11_symbol (l : Launch) (htr : l.stackTraces = false) (D : va_G) (K : Nat → ClassId) (a0 : Nat) (a1 : Nat) (s0 : List Value) (n0 : s0.length = 8) (s1 : List Value) (n1 : s1.length = 20) (e0_1 : s0[1]? = some (.int 0)) (e0_5 : s0[5]? = some (.ref a1)) (e1_19 : s1[19]? = some (.int 0)) : xMet l yX11_symbol cX11_symbol 4 (some .int) (rmD 6 1 6) D K [.ref a0] [(a0, .inr (10, s0)), (a1, .inr (0, s1))] (QI D K (fun (r : Int32) (u : Nat → Nat) => False) (fun (u : Nat → Nat) => [])) ((True)) 1 6 := by
  refine x_met RX11 ⟨rfl, by decide +kernel⟩ (Nat.le_of_ble_eq_true rfl) ?_
  intro p e s m below meth c A ls C hE hZ ht hr hlocks hA hP hD hS hl
  have hl : lv_has ls 4 [(0, .ref a0)] := hl
  refine lv_aload_n C.1 C.2.1 dX11_symbol_0 rfl (lv_at hl 0 rfl) ?_
  refine lv_aload_n C.1 C.2.1 dX11_symbol_1 rfl (lv_at hl 0 rfl) ?_
  refine k_Vi (As := []) (rest := [.ref a0]) C hP hD hS hA (c_X11_useUpTape l D K a0 s0 n0 e0_1) X0_ok trivial (uwV m_10_20 m_10_21 m_10_22 m_1_2 m_10_23) (hdV 0 (by decide +kernel) rfl) ⟨Nat.le_of_ble_eq_true rfl, Nat.le_of_ble_eq_true rfl⟩ rfl rfl (ci := 10) rfl rfl (isC := [0]) (isR := [1]) (wr := [(a1, .inr (0, s1))]) ⟨rfl, rfl, rfl, rfl, by decide⟩ rfl hl.1 (Nat.le_of_ble_eq_true rfl) dX11_symbol_2 ⟨Nat.le_of_ble_eq_true rfl, Nat.le_of_ble_eq_true rfl⟩ (fun r_2 u_1 H locs hw hP hD hS => ?_)
  obtain rfl := hw
  have hP : va_P D vwCl [(a1, .inr (0, s1)), (a0, .inr (10, (s0.set 1 (.int 0))))] H := hP
  have hD : va_D A [(a1, .inr (0, s1)), (a0, .inr (10, (s0.set 1 (.int 0))))] := hD
  refine k_Vl (As := [.int 0]) (rest := []) C hP hD hS hA (c_X11_tapeName l D K a0) X0_ok trivial (uwV m_86_4 m_86_5 m_86_6 m_1_2 m_86_7) (hdV 1 (by decide +kernel) rfl) ⟨Nat.le_of_ble_eq_true rfl, Nat.le_of_ble_eq_true rfl⟩ rfl rfl (ci := 10) rfl rfl (isC := []) (isR := [0, 1]) (wr := [(a1, .inr (0, s1)), (a0, .inr (10, (s0.set 1 (.int 0))))]) ⟨rfl, rfl, rfl, rfl, by decide⟩ rfl hl.1 (Nat.le_of_ble_eq_true rfl) dX11_symbol_5 ⟨Nat.le_of_ble_eq_true rfl, Nat.le_of_ble_eq_true rfl⟩ (fun r_4 u_3 H locs hw hP hD hS => ?_)
  obtain rfl := hw
  have hP : va_P D vwCl [(a1, .inr (0, s1)), (a0, .inr (10, (s0.set 1 (.int 0))))] H := hP
  have hD : va_D A [(a1, .inr (0, s1)), (a0, .inr (10, (s0.set 1 (.int 0))))] := hD
  refine lv_lstore_n (lv' := [(1, .long 0), (0, .ref a0)]) C.1 C.2.1 dX11_symbol_8 rfl hl (by decide) rfl (fun ls hl => ?_)
  refine lv_aload_n C.1 C.2.1 dX11_symbol_9 rfl (lv_at hl 1 rfl) ?_
  refine k_get (v := .ref a1) C hP 1 rfl rfl inlX11 5 (by decide) m_2_10 (sn (by decide) e0_5) dX11_symbol_10 ?_
  refine k_get (v := .int 0) C hP 0 rfl rfl inlX0 19 (by decide) m_64_16 e1_19 dX11_symbol_13 ?_
  refine lv_if_eq (tgt := 39) C.1 C.2.1 dX11_symbol_16 (by decide) (fun _ => ?_) (fun h => absurd (by decide) h)
  refine lv_iconst (v := (-1)) C.1 C.2.1 dX11_symbol_39 (by decide) ?_
  refine lv_istore_n (lv' := [(3, .int (-1)), (1, .long 0), (0, .ref a0)]) C.1 C.2.1 dX11_symbol_40 rfl hl (by decide) rfl (fun ls hl => ?_)
  refine lv_iload_n C.1 C.2.1 dX11_symbol_41 rfl (lv_at hl 0 rfl) ?_
  refine lv_if_lt (tgt := 60) C.1 C.2.1 dX11_symbol_42 (by decide) (fun _ => ?_) (fun h => absurd (by decide) h)
  exact x_throw C htr hE hZ ht hlocks hS hl.1 trivial m_83_23 m_84_0 dX11_symbol_60 dX11_symbol_63 dX11_symbol_64 dX11_symbol_67 (by decide) (Nat.le_of_ble_eq_true rfl) (Nat.le_of_ble_eq_true rfl) (Nat.le_of_ble_eq_true rfl) (Nat.le_of_ble_eq_true rfl) (Nat.le_of_ble_eq_true rfl)
set_option maxHeartbeats 4000000 in
set_option maxRecDepth 100000 in
theorem c_X10_stored (l : Launch) (D : va_G) (K : Nat → ClassId) (a0 : Nat) (a1 : Nat) (s0 : List Value) (n0 : s0.length = 13) (x1 : Int32) (x2 : Int32) (e0_1 : s0[1]? = some (.ref a1)) : uMet l yX10_stored cX10_stored 4 (some .int) (rmD 0 0 0) D K X0 [.ref a0, .int x1, .int x2] [(a0, .inr (9, s0)), (a1, .inl (K 5, 16, .inr (.inr (.inr (.inr (fun _ => none))))))] (QI D K (fun (r : Int32) (u : Nat → Nat) => r = 0) (fun (u : Nat → Nat) => [(a0, .inr (9, s0)), (a1, .inl (K 5, 16, .inr (.inr (.inr (.inr (fun _ => none))))))])) 0 0 := by
  refine k_met RX10 ⟨rfl, by decide +kernel⟩ (Nat.le_of_ble_eq_true rfl) ?_
  intro p e s m below meth c A ls C hX hr hlocks hin hA hP hD hS hl
  have hl : lv_has ls 4 [(0, .ref a0), (1, .int x1), (2, .int x2)] := hl
  refine lv_iload_n C.1 C.2.1 dX10_stored_0 rfl (lv_at hl 1 rfl) ?_
  refine lv_if_lt (tgt := 34) C.1 C.2.1 dX10_stored_1 (by decide) (fun c_1 => ?_) (fun c_1 => ?_)
  · refine lv_iconst (v := 0) C.1 C.2.1 dX10_stored_34 (by decide) ?_
    refine lv_istore_n (lv' := [(3, .int 0), (0, .ref a0), (1, .int x1), (2, .int x2)]) C.1 C.2.1 dX10_stored_35 rfl hl (by decide) rfl (fun ls hl => ?_)
    refine lv_iload_n C.1 C.2.1 dX10_stored_36 rfl (lv_at hl 0 rfl) ?_
    refine lv_if_eq (tgt := 51) C.1 C.2.1 dX10_stored_37 (by decide) (fun _ => ?_) (fun h => absurd (by decide) h)
    refine lv_iconst (v := 0) C.1 C.2.1 dX10_stored_51 (by decide) ?_
    exact k_iret C hr hlocks hP hD hS rfl (fun _ => 0) [0, 1] rfl rfl rfl (Nat.le_of_ble_eq_true rfl) (Nat.le_of_ble_eq_true rfl) dX10_stored_52
  · refine lv_iload_n C.1 C.2.1 dX10_stored_4 rfl (lv_at hl 1 rfl) ?_
    refine lv_bipush (v := 16) C.1 C.2.1 dX10_stored_5 (by decide) ?_
    refine lv_icmp_ge (tgt := 34) C.1 C.2.1 dX10_stored_7 (by decide) (fun c_2 => ?_) (fun c_2 => ?_)
    · refine lv_iconst (v := 0) C.1 C.2.1 dX10_stored_34 (by decide) ?_
      refine lv_istore_n (lv' := [(3, .int 0), (0, .ref a0), (1, .int x1), (2, .int x2)]) C.1 C.2.1 dX10_stored_35 rfl hl (by decide) rfl (fun ls hl => ?_)
      refine lv_iload_n C.1 C.2.1 dX10_stored_36 rfl (lv_at hl 0 rfl) ?_
      refine lv_if_eq (tgt := 51) C.1 C.2.1 dX10_stored_37 (by decide) (fun _ => ?_) (fun h => absurd (by decide) h)
      refine lv_iconst (v := 0) C.1 C.2.1 dX10_stored_51 (by decide) ?_
      exact k_iret C hr hlocks hP hD hS rfl (fun _ => 0) [0, 1] rfl rfl rfl (Nat.le_of_ble_eq_true rfl) (Nat.le_of_ble_eq_true rfl) dX10_stored_52
    · refine lv_iload_n C.1 C.2.1 dX10_stored_10 rfl (lv_at hl 2 rfl) ?_
      refine lv_if_lt (tgt := 34) C.1 C.2.1 dX10_stored_11 (by decide) (fun c_3 => ?_) (fun c_3 => ?_)
      · refine lv_iconst (v := 0) C.1 C.2.1 dX10_stored_34 (by decide) ?_
        refine lv_istore_n (lv' := [(3, .int 0), (0, .ref a0), (1, .int x1), (2, .int x2)]) C.1 C.2.1 dX10_stored_35 rfl hl (by decide) rfl (fun ls hl => ?_)
        refine lv_iload_n C.1 C.2.1 dX10_stored_36 rfl (lv_at hl 0 rfl) ?_
        refine lv_if_eq (tgt := 51) C.1 C.2.1 dX10_stored_37 (by decide) (fun _ => ?_) (fun h => absurd (by decide) h)
        refine lv_iconst (v := 0) C.1 C.2.1 dX10_stored_51 (by decide) ?_
        exact k_iret C hr hlocks hP hD hS rfl (fun _ => 0) [0, 1] rfl rfl rfl (Nat.le_of_ble_eq_true rfl) (Nat.le_of_ble_eq_true rfl) dX10_stored_52
      · refine lv_iload_n C.1 C.2.1 dX10_stored_14 rfl (lv_at hl 2 rfl) ?_
        refine lv_sipush (v := 6400) C.1 C.2.1 dX10_stored_15 (by decide) ?_
        refine lv_icmp_ge (tgt := 34) C.1 C.2.1 dX10_stored_18 (by decide) (fun c_4 => ?_) (fun c_4 => ?_)
        · refine lv_iconst (v := 0) C.1 C.2.1 dX10_stored_34 (by decide) ?_
          refine lv_istore_n (lv' := [(3, .int 0), (0, .ref a0), (1, .int x1), (2, .int x2)]) C.1 C.2.1 dX10_stored_35 rfl hl (by decide) rfl (fun ls hl => ?_)
          refine lv_iload_n C.1 C.2.1 dX10_stored_36 rfl (lv_at hl 0 rfl) ?_
          refine lv_if_eq (tgt := 51) C.1 C.2.1 dX10_stored_37 (by decide) (fun _ => ?_) (fun h => absurd (by decide) h)
          refine lv_iconst (v := 0) C.1 C.2.1 dX10_stored_51 (by decide) ?_
          exact k_iret C hr hlocks hP hD hS rfl (fun _ => 0) [0, 1] rfl rfl rfl (Nat.le_of_ble_eq_true rfl) (Nat.le_of_ble_eq_true rfl) dX10_stored_52
        · refine lv_aload_n C.1 C.2.1 dX10_stored_21 rfl (lv_at hl 0 rfl) ?_
          refine k_get (v := .ref a1) C hP 0 rfl rfl inlX10 1 (by decide) m_3_6 e0_1 dX10_stored_22 ?_
          refine lv_iload_n C.1 C.2.1 dX10_stored_25 rfl (lv_at hl 1 rfl) ?_
          refine k_ald (w := .null) C hP 1 5 rfl rfl (vp_in_iff.mpr (by simp only [Int32.lt_iff_toInt_lt, Int32.le_iff_toInt_le, ← Int32.toInt_inj] at c_1 c_2 c_3 c_4 ⊢; have k0 : (0 : Int32).toInt = 0 := (by decide); have k1 : (16 : Int32).toInt = 16 := (by decide); have k2 : (6400 : Int32).toInt = 6400 := (by decide); exact ⟨by omega, by omega⟩)) rfl dX10_stored_26 ?_
          refine lv_ifnullN (tgt := 34) C.1 C.2.1 dX10_stored_27 (by decide) ?_
          refine lv_iconst (v := 0) C.1 C.2.1 dX10_stored_34 (by decide) ?_
          refine lv_istore_n (lv' := [(3, .int 0), (0, .ref a0), (1, .int x1), (2, .int x2)]) C.1 C.2.1 dX10_stored_35 rfl hl (by decide) rfl (fun ls hl => ?_)
          refine lv_iload_n C.1 C.2.1 dX10_stored_36 rfl (lv_at hl 0 rfl) ?_
          refine lv_if_eq (tgt := 51) C.1 C.2.1 dX10_stored_37 (by decide) (fun _ => ?_) (fun h => absurd (by decide) h)
          refine lv_iconst (v := 0) C.1 C.2.1 dX10_stored_51 (by decide) ?_
          exact k_iret C hr hlocks hP hD hS rfl (fun _ => 0) [0, 1] rfl rfl rfl (Nat.le_of_ble_eq_true rfl) (Nat.le_of_ble_eq_true rfl) dX10_stored_52
set_option maxHeartbeats 4000000 in
set_option maxRecDepth 100000 in
theorem t_X11_block (l : Launch) (htr : l.stackTraces = false) (D : va_G) (K : Nat → ClassId) (a0 : Nat) (a1 : Nat) (a2 : Nat) (s0 : List Value) (n0 : s0.length = 8) (s1 : List Value) (n1 : s1.length = 13) (x1 : Int32) (x2 : Int32) (x3 : Int32) (e0_3 : s0[3]? = some (.ref a1)) (e1_1 : s1[1]? = some (.ref a2)) : xMet l yX11_block cX11_block 5 (some .int) (rmD 6 1 6) D K [.ref a0, .int x1, .int x2, .int x3] [(a0, .inr (10, s0)), (a1, .inr (9, s1)), (a2, .inl (K 5, 16, .inr (.inr (.inr (.inr (fun _ => none))))))] (QI D K (fun (r : Int32) (u : Nat → Nat) => ((¬ x1 < 0) ∧ (¬ 16 ≤ x1) ∧ (¬ x2 < 0) ∧ (¬ 64 ≤ x2) ∧ (¬ x3 < 0) ∧ (¬ 100 ≤ x3) ∧ r = 0)) (fun (u : Nat → Nat) => [])) (((x1 < 0)) ∨ ((¬ x1 < 0) ∧ (16 ≤ x1)) ∨ ((¬ x1 < 0) ∧ (¬ 16 ≤ x1) ∧ (x2 < 0)) ∨ ((¬ x1 < 0) ∧ (¬ 16 ≤ x1) ∧ (¬ x2 < 0) ∧ (64 ≤ x2)) ∨ ((¬ x1 < 0) ∧ (¬ 16 ≤ x1) ∧ (¬ x2 < 0) ∧ (¬ 64 ≤ x2) ∧ (x3 < 0)) ∨ ((¬ x1 < 0) ∧ (¬ 16 ≤ x1) ∧ (¬ x2 < 0) ∧ (¬ 64 ≤ x2) ∧ (¬ x3 < 0) ∧ (100 ≤ x3))) 1 6 := by
  refine x_met RX11 ⟨rfl, by decide +kernel⟩ (Nat.le_of_ble_eq_true rfl) ?_
  intro p e s m below meth c A ls C hE hZ ht hr hlocks hA hP hD hS hl
  have hl : lv_has ls 5 [(0, .ref a0), (1, .int x1), (2, .int x2), (3, .int x3)] := hl
  refine lv_iload_n C.1 C.2.1 dX11_block_0 rfl (lv_at hl 1 rfl) ?_
  refine lv_if_lt (tgt := 34) C.1 C.2.1 dX11_block_1 (by decide) (fun c_1 => ?_) (fun c_1 => ?_)
  · refine lv_iconst (v := 0) C.1 C.2.1 dX11_block_34 (by decide) ?_
    refine lv_istore (lv' := [(4, .int 0), (0, .ref a0), (1, .int x1), (2, .int x2), (3, .int x3)]) C.1 C.2.1 dX11_block_35 hl (by decide) rfl (fun ls hl => ?_)
    refine lv_iload C.1 C.2.1 dX11_block_37 (lv_at hl 0 rfl) ?_
    refine lv_if_ne (tgt := 50) C.1 C.2.1 dX11_block_39 (by decide) (fun h => absurd h (by decide)) (fun _ => ?_)
    exact x_throw C htr hE hZ ht hlocks hS hl.1 (Or.inl c_1) m_83_23 m_84_0 dX11_block_42 dX11_block_45 dX11_block_46 dX11_block_49 (by decide) (Nat.le_of_ble_eq_true rfl) (Nat.le_of_ble_eq_true rfl) (Nat.le_of_ble_eq_true rfl) (Nat.le_of_ble_eq_true rfl) (Nat.le_of_ble_eq_true rfl)
  · refine lv_iload_n C.1 C.2.1 dX11_block_4 rfl (lv_at hl 1 rfl) ?_
    refine lv_bipush (v := 16) C.1 C.2.1 dX11_block_5 (by decide) ?_
    refine lv_icmp_ge (tgt := 34) C.1 C.2.1 dX11_block_7 (by decide) (fun c_2 => ?_) (fun c_2 => ?_)
    · refine lv_iconst (v := 0) C.1 C.2.1 dX11_block_34 (by decide) ?_
      refine lv_istore (lv' := [(4, .int 0), (0, .ref a0), (1, .int x1), (2, .int x2), (3, .int x3)]) C.1 C.2.1 dX11_block_35 hl (by decide) rfl (fun ls hl => ?_)
      refine lv_iload C.1 C.2.1 dX11_block_37 (lv_at hl 0 rfl) ?_
      refine lv_if_ne (tgt := 50) C.1 C.2.1 dX11_block_39 (by decide) (fun h => absurd h (by decide)) (fun _ => ?_)
      exact x_throw C htr hE hZ ht hlocks hS hl.1 (Or.inr (Or.inl ⟨c_1, c_2⟩)) m_83_23 m_84_0 dX11_block_42 dX11_block_45 dX11_block_46 dX11_block_49 (by decide) (Nat.le_of_ble_eq_true rfl) (Nat.le_of_ble_eq_true rfl) (Nat.le_of_ble_eq_true rfl) (Nat.le_of_ble_eq_true rfl) (Nat.le_of_ble_eq_true rfl)
    · refine lv_iload_n C.1 C.2.1 dX11_block_10 rfl (lv_at hl 2 rfl) ?_
      refine lv_if_lt (tgt := 34) C.1 C.2.1 dX11_block_11 (by decide) (fun c_3 => ?_) (fun c_3 => ?_)
      · refine lv_iconst (v := 0) C.1 C.2.1 dX11_block_34 (by decide) ?_
        refine lv_istore (lv' := [(4, .int 0), (0, .ref a0), (1, .int x1), (2, .int x2), (3, .int x3)]) C.1 C.2.1 dX11_block_35 hl (by decide) rfl (fun ls hl => ?_)
        refine lv_iload C.1 C.2.1 dX11_block_37 (lv_at hl 0 rfl) ?_
        refine lv_if_ne (tgt := 50) C.1 C.2.1 dX11_block_39 (by decide) (fun h => absurd h (by decide)) (fun _ => ?_)
        exact x_throw C htr hE hZ ht hlocks hS hl.1 (Or.inr (Or.inr (Or.inl ⟨c_1, c_2, c_3⟩))) m_83_23 m_84_0 dX11_block_42 dX11_block_45 dX11_block_46 dX11_block_49 (by decide) (Nat.le_of_ble_eq_true rfl) (Nat.le_of_ble_eq_true rfl) (Nat.le_of_ble_eq_true rfl) (Nat.le_of_ble_eq_true rfl) (Nat.le_of_ble_eq_true rfl)
      · refine lv_iload_n C.1 C.2.1 dX11_block_14 rfl (lv_at hl 2 rfl) ?_
        refine lv_bipush (v := 64) C.1 C.2.1 dX11_block_15 (by decide) ?_
        refine lv_icmp_ge (tgt := 34) C.1 C.2.1 dX11_block_17 (by decide) (fun c_4 => ?_) (fun c_4 => ?_)
        · refine lv_iconst (v := 0) C.1 C.2.1 dX11_block_34 (by decide) ?_
          refine lv_istore (lv' := [(4, .int 0), (0, .ref a0), (1, .int x1), (2, .int x2), (3, .int x3)]) C.1 C.2.1 dX11_block_35 hl (by decide) rfl (fun ls hl => ?_)
          refine lv_iload C.1 C.2.1 dX11_block_37 (lv_at hl 0 rfl) ?_
          refine lv_if_ne (tgt := 50) C.1 C.2.1 dX11_block_39 (by decide) (fun h => absurd h (by decide)) (fun _ => ?_)
          exact x_throw C htr hE hZ ht hlocks hS hl.1 (Or.inr (Or.inr (Or.inr (Or.inl ⟨c_1, c_2, c_3, c_4⟩)))) m_83_23 m_84_0 dX11_block_42 dX11_block_45 dX11_block_46 dX11_block_49 (by decide) (Nat.le_of_ble_eq_true rfl) (Nat.le_of_ble_eq_true rfl) (Nat.le_of_ble_eq_true rfl) (Nat.le_of_ble_eq_true rfl) (Nat.le_of_ble_eq_true rfl)
        · refine lv_iload_n C.1 C.2.1 dX11_block_20 rfl (lv_at hl 3 rfl) ?_
          refine lv_if_lt (tgt := 34) C.1 C.2.1 dX11_block_21 (by decide) (fun c_5 => ?_) (fun c_5 => ?_)
          · refine lv_iconst (v := 0) C.1 C.2.1 dX11_block_34 (by decide) ?_
            refine lv_istore (lv' := [(4, .int 0), (0, .ref a0), (1, .int x1), (2, .int x2), (3, .int x3)]) C.1 C.2.1 dX11_block_35 hl (by decide) rfl (fun ls hl => ?_)
            refine lv_iload C.1 C.2.1 dX11_block_37 (lv_at hl 0 rfl) ?_
            refine lv_if_ne (tgt := 50) C.1 C.2.1 dX11_block_39 (by decide) (fun h => absurd h (by decide)) (fun _ => ?_)
            exact x_throw C htr hE hZ ht hlocks hS hl.1 (Or.inr (Or.inr (Or.inr (Or.inr (Or.inl ⟨c_1, c_2, c_3, c_4, c_5⟩))))) m_83_23 m_84_0 dX11_block_42 dX11_block_45 dX11_block_46 dX11_block_49 (by decide) (Nat.le_of_ble_eq_true rfl) (Nat.le_of_ble_eq_true rfl) (Nat.le_of_ble_eq_true rfl) (Nat.le_of_ble_eq_true rfl) (Nat.le_of_ble_eq_true rfl)
          · refine lv_iload_n C.1 C.2.1 dX11_block_24 rfl (lv_at hl 3 rfl) ?_
            refine lv_bipush (v := 100) C.1 C.2.1 dX11_block_25 (by decide) ?_
            refine lv_icmp_ge (tgt := 34) C.1 C.2.1 dX11_block_27 (by decide) (fun c_6 => ?_) (fun c_6 => ?_)
            · refine lv_iconst (v := 0) C.1 C.2.1 dX11_block_34 (by decide) ?_
              refine lv_istore (lv' := [(4, .int 0), (0, .ref a0), (1, .int x1), (2, .int x2), (3, .int x3)]) C.1 C.2.1 dX11_block_35 hl (by decide) rfl (fun ls hl => ?_)
              refine lv_iload C.1 C.2.1 dX11_block_37 (lv_at hl 0 rfl) ?_
              refine lv_if_ne (tgt := 50) C.1 C.2.1 dX11_block_39 (by decide) (fun h => absurd h (by decide)) (fun _ => ?_)
              exact x_throw C htr hE hZ ht hlocks hS hl.1 (Or.inr (Or.inr (Or.inr (Or.inr (Or.inr ⟨c_1, c_2, c_3, c_4, c_5, c_6⟩))))) m_83_23 m_84_0 dX11_block_42 dX11_block_45 dX11_block_46 dX11_block_49 (by decide) (Nat.le_of_ble_eq_true rfl) (Nat.le_of_ble_eq_true rfl) (Nat.le_of_ble_eq_true rfl) (Nat.le_of_ble_eq_true rfl) (Nat.le_of_ble_eq_true rfl)
            · refine lv_iconst (v := 1) C.1 C.2.1 dX11_block_30 (by decide) ?_
              refine lv_goto (tgt := 35) C.1 C.2.1 dX11_block_31 (by decide) ?_
              refine lv_istore (lv' := [(4, .int 1), (0, .ref a0), (1, .int x1), (2, .int x2), (3, .int x3)]) C.1 C.2.1 dX11_block_35 hl (by decide) rfl (fun ls hl => ?_)
              refine lv_iload C.1 C.2.1 dX11_block_37 (lv_at hl 0 rfl) ?_
              refine lv_if_ne (tgt := 50) C.1 C.2.1 dX11_block_39 (by decide) (fun _ => ?_) (fun h => absurd h (by decide))
              refine lv_aload_n C.1 C.2.1 dX11_block_50 rfl (lv_at hl 1 rfl) ?_
              refine k_get (v := .ref a1) C hP 0 rfl rfl inlX11 3 (by decide) m_2_8 e0_3 dX11_block_51 ?_
              refine lv_iload_n C.1 C.2.1 dX11_block_54 rfl (lv_at hl 2 rfl) ?_
              refine lv_iload_n C.1 C.2.1 dX11_block_55 rfl (lv_at hl 3 rfl) ?_
              refine lv_bipush (v := 100) C.1 C.2.1 dX11_block_56 (by decide) ?_
              refine k_imul (v := (x2 * 100)) C rfl dX11_block_58 ?_
              refine lv_iload_n C.1 C.2.1 dX11_block_59 rfl (lv_at hl 4 rfl) ?_
              refine k_iadd (v := ((x2 * 100) + x3)) C rfl dX11_block_60 ?_
              refine k_Vi (As := [.int x1, .int ((x2 * 100) + x3)]) (rest := []) C hP hD hS hA (c_X10_stored l D K a1 a2 s1 n1 x1 (((x2 * 100) + x3)) e1_1) X0_ok trivial (uwV m_87_21 m_53_6 m_53_7 m_1_20 m_53_8) (hdV 2 (by decide +kernel) rfl) ⟨Nat.le_of_ble_eq_true rfl, Nat.le_of_ble_eq_true rfl⟩ rfl rfl (ci := 9) rfl rfl (isC := [1, 2]) (isR := [0]) (wr := [(a0, .inr (10, s0))]) ⟨rfl, rfl, rfl, rfl, by decide⟩ rfl hl.1 (Nat.le_of_ble_eq_true rfl) dX11_block_61 ⟨Nat.le_of_ble_eq_true rfl, Nat.le_of_ble_eq_true rfl⟩ (fun r_8 u_7 H locs hw hP hD hS => ?_)
              obtain rfl := hw
              have hP : va_P D vwCl [(a0, .inr (10, s0)), (a1, .inr (9, s1)), (a2, .inl (K 5, 16, .inr (.inr (.inr (.inr (fun _ => none))))))] H := hP
              have hD : va_D A [(a0, .inr (10, s0)), (a1, .inr (9, s1)), (a2, .inl (K 5, 16, .inr (.inr (.inr (.inr (fun _ => none))))))] := hD
              refine k_Si (As := [.int 0]) (rest := []) C hP hD hS hA (c_X1_shown l D K ) X0_ok trivial (uwS m_84_4 m_84_5 m_14_2 m_84_6) (hdS 1 (by decide +kernel) rfl) ⟨Nat.le_of_ble_eq_true rfl, Nat.le_of_ble_eq_true rfl⟩ rfl rfl (isC := []) (isR := [0, 1, 2]) (wr := [(a0, .inr (10, s0)), (a1, .inr (9, s1)), (a2, .inl (K 5, 16, .inr (.inr (.inr (.inr (fun _ => none))))))]) ⟨rfl, rfl, rfl, rfl, by decide⟩ rfl hl.1 (Nat.le_of_ble_eq_true rfl) dX11_block_64 ⟨Nat.le_of_ble_eq_true rfl, Nat.le_of_ble_eq_true rfl⟩ (fun r_10 u_9 H locs hw hP hD hS => ?_)
              obtain rfl := hw
              have hP : va_P D vwCl [(a0, .inr (10, s0)), (a1, .inr (9, s1)), (a2, .inl (K 5, 16, .inr (.inr (.inr (.inr (fun _ => none))))))] H := hP
              have hD : va_D A [(a0, .inr (10, s0)), (a1, .inr (9, s1)), (a2, .inl (K 5, 16, .inr (.inr (.inr (.inr (fun _ => none))))))] := hD
              exact vx_ret (k_iret C hr hlocks hP hD hS rfl (fun _ => 0) [] rfl rfl ⟨c_1, c_2, c_3, c_4, c_5, c_6, rfl⟩ (Nat.le_of_ble_eq_true rfl) (Nat.le_of_ble_eq_true rfl) dX11_block_67)
end
