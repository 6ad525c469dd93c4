section
-- ===== PART A: goes FIRST, ahead of the names: the tables' words, and 'selects' of the private methods out of them =====
/-- a private method of a class that the tables say can be made, by its rows of tables_1 -/
def lw_okq (q : MethodName × Nat) : Prop := (q.1.cls ≠ "java/lang/invoke/MethodHandle" ∧ q.1.cls ≠ "java/lang/invoke/VarHandle") ∧ Cond.instantiable q.1.cls q.2 ∈ tables_1 ∧ Cond.privateMethod q.1 ∈ tables_1 ∧ Cond.instanceMethod q.1 ∈ tables_1
theorem lw_p0 : lw_okq (⟨"PinKindChecks", "checkThing", "(LPinKindChecks$Thing;)V"⟩, 12) := ⟨⟨by decide +kernel, by decide +kernel⟩, List.mem_of_getElem? (i := 28) (by decide +kernel), List.mem_of_getElem? (i := 246) (by decide +kernel), List.mem_of_getElem? (i := 247) (by decide +kernel)⟩
theorem lw_p1 : lw_okq (⟨"PinKindChecks", "ruleCount", "()I"⟩, 12) := ⟨⟨by decide +kernel, by decide +kernel⟩, List.mem_of_getElem? (i := 28) (by decide +kernel), List.mem_of_getElem? (i := 250) (by decide +kernel), List.mem_of_getElem? (i := 251) (by decide +kernel)⟩
theorem lw_p2 : lw_okq (⟨"PinKindChecks", "weightOf", "(ILPinKindChecks$Thing;)I"⟩, 12) := ⟨⟨by decide +kernel, by decide +kernel⟩, List.mem_of_getElem? (i := 28) (by decide +kernel), List.mem_of_getElem? (i := 254) (by decide +kernel), List.mem_of_getElem? (i := 255) (by decide +kernel)⟩
theorem lw_p3 : lw_okq (⟨"PinKindChecks$Schematic", "verdictOf", "(II)I"⟩, 9) := ⟨⟨by decide +kernel, by decide +kernel⟩, List.mem_of_getElem? (i := 36) (by decide +kernel), List.mem_of_getElem? (i := 320) (by decide +kernel), List.mem_of_getElem? (i := 321) (by decide +kernel)⟩
theorem lw_p4 : lw_okq (⟨"PinKindChecks$ToldRule", "holdsFor", "(LPinKindChecks$Thing;[J)Z"⟩, 4) := ⟨⟨by decide +kernel, by decide +kernel⟩, List.mem_of_getElem? (i := 337) (by decide +kernel), List.mem_of_getElem? (i := 335) (by decide +kernel), List.mem_of_getElem? (i := 336) (by decide +kernel)⟩
theorem lw_p5 : lw_okq (⟨"PinKindChecks$Remarks", "grow", "()V"⟩, 4) := ⟨⟨by decide +kernel, by decide +kernel⟩, List.mem_of_getElem? (i := 161) (by decide +kernel), List.mem_of_getElem? (i := 395) (by decide +kernel), List.mem_of_getElem? (i := 396) (by decide +kernel)⟩
theorem lw_p6 : lw_okq (⟨"PinKindChecks", "compareWithBefore", "()V"⟩, 12) := ⟨⟨by decide +kernel, by decide +kernel⟩, List.mem_of_getElem? (i := 28) (by decide +kernel), List.mem_of_getElem? (i := 416) (by decide +kernel), List.mem_of_getElem? (i := 417) (by decide +kernel)⟩
theorem lw_p7 : lw_okq (⟨"PinKindChecks", "countOpen", "()I"⟩, 12) := ⟨⟨by decide +kernel, by decide +kernel⟩, List.mem_of_getElem? (i := 28) (by decide +kernel), List.mem_of_getElem? (i := 441) (by decide +kernel), List.mem_of_getElem? (i := 442) (by decide +kernel)⟩
theorem lw_p8 : lw_okq (⟨"PinKindChecks$Waivers", "indexOf", "(I)I"⟩, 3) := ⟨⟨by decide +kernel, by decide +kernel⟩, List.mem_of_getElem? (i := 144) (by decide +kernel), List.mem_of_getElem? (i := 449) (by decide +kernel), List.mem_of_getElem? (i := 450) (by decide +kernel)⟩
theorem lw_p9 : lw_okq (⟨"java/lang/Throwable", "fillInStackTrace", "(I)Ljava/lang/Throwable;"⟩, 6) := ⟨⟨by decide +kernel, by decide +kernel⟩, List.mem_of_getElem? (i := 528) (by decide +kernel), List.mem_of_getElem? (i := 526) (by decide +kernel), List.mem_of_getElem? (i := 527) (by decide +kernel)⟩
theorem lw_p10 : lw_okq (⟨"PinKindChecks$Schematic", "putInOrder", "(LPinKindChecks$Thing;)V"⟩, 9) := ⟨⟨by decide +kernel, by decide +kernel⟩, List.mem_of_getElem? (i := 36) (by decide +kernel), List.mem_of_getElem? (i := 617) (by decide +kernel), List.mem_of_getElem? (i := 618) (by decide +kernel)⟩
theorem lw_p11 : lw_okq (⟨"PinKindChecks", "isNetOrNone", "(I)Z"⟩, 12) := ⟨⟨by decide +kernel, by decide +kernel⟩, List.mem_of_getElem? (i := 28) (by decide +kernel), List.mem_of_getElem? (i := 670) (by decide +kernel), List.mem_of_getElem? (i := 671) (by decide +kernel)⟩
theorem lw_p12 : lw_okq (⟨"PinKindChecks$RuleReader", "start", "()V"⟩, 12) := ⟨⟨by decide +kernel, by decide +kernel⟩, List.mem_of_getElem? (i := 99) (by decide +kernel), List.mem_of_getElem? (i := 781) (by decide +kernel), List.mem_of_getElem? (i := 782) (by decide +kernel)⟩
theorem lw_p13 : lw_okq (⟨"PinKindChecks$RuleText", "isInside", "(I)Z"⟩, 4) := ⟨⟨by decide +kernel, by decide +kernel⟩, List.mem_of_getElem? (i := 79) (by decide +kernel), List.mem_of_getElem? (i := 793) (by decide +kernel), List.mem_of_getElem? (i := 794) (by decide +kernel)⟩
theorem lw_p14 : lw_okq (⟨"PinKindChecks$RuleReader", "takeWord", "()Z"⟩, 12) := ⟨⟨by decide +kernel, by decide +kernel⟩, List.mem_of_getElem? (i := 99) (by decide +kernel), List.mem_of_getElem? (i := 797) (by decide +kernel), List.mem_of_getElem? (i := 798) (by decide +kernel)⟩
theorem lw_p15 : lw_okq (⟨"PinKindChecks$RuleReader", "takeSubject", "()Z"⟩, 12) := ⟨⟨by decide +kernel, by decide +kernel⟩, List.mem_of_getElem? (i := 99) (by decide +kernel), List.mem_of_getElem? (i := 801) (by decide +kernel), List.mem_of_getElem? (i := 802) (by decide +kernel)⟩
def lw_privs_1 : List (MethodName × Nat) := [(⟨"PinKindChecks", "checkThing", "(LPinKindChecks$Thing;)V"⟩, 12), (⟨"PinKindChecks", "ruleCount", "()I"⟩, 12), (⟨"PinKindChecks", "weightOf", "(ILPinKindChecks$Thing;)I"⟩, 12), (⟨"PinKindChecks$Schematic", "verdictOf", "(II)I"⟩, 9), (⟨"PinKindChecks$ToldRule", "holdsFor", "(LPinKindChecks$Thing;[J)Z"⟩, 4), (⟨"PinKindChecks$Remarks", "grow", "()V"⟩, 4), (⟨"PinKindChecks", "compareWithBefore", "()V"⟩, 12), (⟨"PinKindChecks", "countOpen", "()I"⟩, 12), (⟨"PinKindChecks$Waivers", "indexOf", "(I)I"⟩, 3), (⟨"java/lang/Throwable", "fillInStackTrace", "(I)Ljava/lang/Throwable;"⟩, 6), (⟨"PinKindChecks$Schematic", "putInOrder", "(LPinKindChecks$Thing;)V"⟩, 9), (⟨"PinKindChecks", "isNetOrNone", "(I)Z"⟩, 12), (⟨"PinKindChecks$RuleReader", "start", "()V"⟩, 12), (⟨"PinKindChecks$RuleText", "isInside", "(I)Z"⟩, 4), (⟨"PinKindChecks$RuleReader", "takeWord", "()Z"⟩, 12), (⟨"PinKindChecks$RuleReader", "takeSubject", "()Z"⟩, 12)]
theorem lw_r1 : ∀ q ∈ lw_privs_1, lw_okq q := List.forall_mem_cons.mpr ⟨lw_p0, List.forall_mem_cons.mpr ⟨lw_p1, List.forall_mem_cons.mpr ⟨lw_p2, List.forall_mem_cons.mpr ⟨lw_p3, List.forall_mem_cons.mpr ⟨lw_p4, List.forall_mem_cons.mpr ⟨lw_p5, List.forall_mem_cons.mpr ⟨lw_p6, List.forall_mem_cons.mpr ⟨lw_p7, List.forall_mem_cons.mpr ⟨lw_p8, List.forall_mem_cons.mpr ⟨lw_p9, List.forall_mem_cons.mpr ⟨lw_p10, List.forall_mem_cons.mpr ⟨lw_p11, List.forall_mem_cons.mpr ⟨lw_p12, List.forall_mem_cons.mpr ⟨lw_p13, List.forall_mem_cons.mpr ⟨lw_p14, List.forall_mem_cons.mpr ⟨lw_p15, fun _ h => absurd h List.not_mem_nil⟩⟩⟩⟩⟩⟩⟩⟩⟩⟩⟩⟩⟩⟩⟩⟩
theorem lw_p16 : lw_okq (⟨"PinKindChecks$RuleReader", "takeWeight", "()Z"⟩, 12) := ⟨⟨by decide +kernel, by decide +kernel⟩, List.mem_of_getElem? (i := 99) (by decide +kernel), List.mem_of_getElem? (i := 868) (by decide +kernel), List.mem_of_getElem? (i := 869) (by decide +kernel)⟩
theorem lw_p17 : lw_okq (⟨"PinKindChecks$RuleReader", "takeNot", "()Z"⟩, 12) := ⟨⟨by decide +kernel, by decide +kernel⟩, List.mem_of_getElem? (i := 99) (by decide +kernel), List.mem_of_getElem? (i := 874) (by decide +kernel), List.mem_of_getElem? (i := 875) (by decide +kernel)⟩
theorem lw_p18 : lw_okq (⟨"PinKindChecks$RuleReader", "putOff", "(I)V"⟩, 12) := ⟨⟨by decide +kernel, by decide +kernel⟩, List.mem_of_getElem? (i := 99) (by decide +kernel), List.mem_of_getElem? (i := 879) (by decide +kernel), List.mem_of_getElem? (i := 880) (by decide +kernel)⟩
theorem lw_p19 : lw_okq (⟨"PinKindChecks$RuleReader", "takeOpening", "()Z"⟩, 12) := ⟨⟨by decide +kernel, by decide +kernel⟩, List.mem_of_getElem? (i := 99) (by decide +kernel), List.mem_of_getElem? (i := 883) (by decide +kernel), List.mem_of_getElem? (i := 884) (by decide +kernel)⟩
theorem lw_p20 : lw_okq (⟨"PinKindChecks$RuleReader", "takeTerm", "()Z"⟩, 12) := ⟨⟨by decide +kernel, by decide +kernel⟩, List.mem_of_getElem? (i := 99) (by decide +kernel), List.mem_of_getElem? (i := 888) (by decide +kernel), List.mem_of_getElem? (i := 889) (by decide +kernel)⟩
theorem lw_p21 : lw_okq (⟨"PinKindChecks$RuleReader", "takeNumber", "()Z"⟩, 12) := ⟨⟨by decide +kernel, by decide +kernel⟩, List.mem_of_getElem? (i := 99) (by decide +kernel), List.mem_of_getElem? (i := 892) (by decide +kernel), List.mem_of_getElem? (i := 893) (by decide +kernel)⟩
theorem lw_p22 : lw_okq (⟨"PinKindChecks$RuleReader", "putTerm", "(II)Z"⟩, 12) := ⟨⟨by decide +kernel, by decide +kernel⟩, List.mem_of_getElem? (i := 99) (by decide +kernel), List.mem_of_getElem? (i := 901) (by decide +kernel), List.mem_of_getElem? (i := 902) (by decide +kernel)⟩
theorem lw_p23 : lw_okq (⟨"PinKindChecks$RuleReader", "putOut", "(II)V"⟩, 12) := ⟨⟨by decide +kernel, by decide +kernel⟩, List.mem_of_getElem? (i := 99) (by decide +kernel), List.mem_of_getElem? (i := 905) (by decide +kernel), List.mem_of_getElem? (i := 906) (by decide +kernel)⟩
theorem lw_p24 : lw_okq (⟨"PinKindChecks$RuleReader", "takeField", "()Z"⟩, 12) := ⟨⟨by decide +kernel, by decide +kernel⟩, List.mem_of_getElem? (i := 99) (by decide +kernel), List.mem_of_getElem? (i := 909) (by decide +kernel), List.mem_of_getElem? (i := 910) (by decide +kernel)⟩
theorem lw_p25 : lw_okq (⟨"PinKindChecks$RuleReader", "plainTerm", "()I"⟩, 12) := ⟨⟨by decide +kernel, by decide +kernel⟩, List.mem_of_getElem? (i := 99) (by decide +kernel), List.mem_of_getElem? (i := 916) (by decide +kernel), List.mem_of_getElem? (i := 917) (by decide +kernel)⟩
theorem lw_p26 : lw_okq (⟨"PinKindChecks$RuleReader", "takeKind", "()Z"⟩, 12) := ⟨⟨by decide +kernel, by decide +kernel⟩, List.mem_of_getElem? (i := 99) (by decide +kernel), List.mem_of_getElem? (i := 924) (by decide +kernel), List.mem_of_getElem? (i := 925) (by decide +kernel)⟩
theorem lw_p27 : lw_okq (⟨"PinKindChecks$RuleReader", "takeOperator", "()Z"⟩, 12) := ⟨⟨by decide +kernel, by decide +kernel⟩, List.mem_of_getElem? (i := 99) (by decide +kernel), List.mem_of_getElem? (i := 928) (by decide +kernel), List.mem_of_getElem? (i := 929) (by decide +kernel)⟩
theorem lw_p28 : lw_okq (⟨"PinKindChecks$RuleReader", "operatorOfWord", "()I"⟩, 12) := ⟨⟨by decide +kernel, by decide +kernel⟩, List.mem_of_getElem? (i := 99) (by decide +kernel), List.mem_of_getElem? (i := 932) (by decide +kernel), List.mem_of_getElem? (i := 933) (by decide +kernel)⟩
theorem lw_p29 : lw_okq (⟨"PinKindChecks$RuleReader", "isBehindCondition", "()Z"⟩, 12) := ⟨⟨by decide +kernel, by decide +kernel⟩, List.mem_of_getElem? (i := 99) (by decide +kernel), List.mem_of_getElem? (i := 946) (by decide +kernel), List.mem_of_getElem? (i := 947) (by decide +kernel)⟩
theorem lw_p30 : lw_okq (⟨"PinKindChecks$RuleReader", "putOutDownTo", "(I)V"⟩, 12) := ⟨⟨by decide +kernel, by decide +kernel⟩, List.mem_of_getElem? (i := 99) (by decide +kernel), List.mem_of_getElem? (i := 956) (by decide +kernel), List.mem_of_getElem? (i := 957) (by decide +kernel)⟩
theorem lw_p31 : lw_okq (⟨"PinKindChecks$RuleReader", "takeClosing", "()Z"⟩, 12) := ⟨⟨by decide +kernel, by decide +kernel⟩, List.mem_of_getElem? (i := 99) (by decide +kernel), List.mem_of_getElem? (i := 964) (by decide +kernel), List.mem_of_getElem? (i := 965) (by decide +kernel)⟩
def lw_privs_2 : List (MethodName × Nat) := [(⟨"PinKindChecks$RuleReader", "takeWeight", "()Z"⟩, 12), (⟨"PinKindChecks$RuleReader", "takeNot", "()Z"⟩, 12), (⟨"PinKindChecks$RuleReader", "putOff", "(I)V"⟩, 12), (⟨"PinKindChecks$RuleReader", "takeOpening", "()Z"⟩, 12), (⟨"PinKindChecks$RuleReader", "takeTerm", "()Z"⟩, 12), (⟨"PinKindChecks$RuleReader", "takeNumber", "()Z"⟩, 12), (⟨"PinKindChecks$RuleReader", "putTerm", "(II)Z"⟩, 12), (⟨"PinKindChecks$RuleReader", "putOut", "(II)V"⟩, 12), (⟨"PinKindChecks$RuleReader", "takeField", "()Z"⟩, 12), (⟨"PinKindChecks$RuleReader", "plainTerm", "()I"⟩, 12), (⟨"PinKindChecks$RuleReader", "takeKind", "()Z"⟩, 12), (⟨"PinKindChecks$RuleReader", "takeOperator", "()Z"⟩, 12), (⟨"PinKindChecks$RuleReader", "operatorOfWord", "()I"⟩, 12), (⟨"PinKindChecks$RuleReader", "isBehindCondition", "()Z"⟩, 12), (⟨"PinKindChecks$RuleReader", "putOutDownTo", "(I)V"⟩, 12), (⟨"PinKindChecks$RuleReader", "takeClosing", "()Z"⟩, 12)]
theorem lw_r2 : ∀ q ∈ lw_privs_2, lw_okq q := List.forall_mem_cons.mpr ⟨lw_p16, List.forall_mem_cons.mpr ⟨lw_p17, List.forall_mem_cons.mpr ⟨lw_p18, List.forall_mem_cons.mpr ⟨lw_p19, List.forall_mem_cons.mpr ⟨lw_p20, List.forall_mem_cons.mpr ⟨lw_p21, List.forall_mem_cons.mpr ⟨lw_p22, List.forall_mem_cons.mpr ⟨lw_p23, List.forall_mem_cons.mpr ⟨lw_p24, List.forall_mem_cons.mpr ⟨lw_p25, List.forall_mem_cons.mpr ⟨lw_p26, List.forall_mem_cons.mpr ⟨lw_p27, List.forall_mem_cons.mpr ⟨lw_p28, List.forall_mem_cons.mpr ⟨lw_p29, List.forall_mem_cons.mpr ⟨lw_p30, List.forall_mem_cons.mpr ⟨lw_p31, fun _ h => absurd h List.not_mem_nil⟩⟩⟩⟩⟩⟩⟩⟩⟩⟩⟩⟩⟩⟩⟩⟩
theorem lw_p32 : lw_okq (⟨"PinKindChecks$RuleReader", "dropOpening", "()V"⟩, 12) := ⟨⟨by decide +kernel, by decide +kernel⟩, List.mem_of_getElem? (i := 99) (by decide +kernel), List.mem_of_getElem? (i := 969) (by decide +kernel), List.mem_of_getElem? (i := 970) (by decide +kernel)⟩
theorem lw_p33 : lw_okq (⟨"PinKindChecks", "isRule", "(I)Z"⟩, 12) := ⟨⟨by decide +kernel, by decide +kernel⟩, List.mem_of_getElem? (i := 28) (by decide +kernel), List.mem_of_getElem? (i := 1003) (by decide +kernel), List.mem_of_getElem? (i := 1004) (by decide +kernel)⟩
theorem lw_p34 : lw_okq (⟨"PinKindChecks$Waivers", "append", "(II)Z"⟩, 3) := ⟨⟨by decide +kernel, by decide +kernel⟩, List.mem_of_getElem? (i := 144) (by decide +kernel), List.mem_of_getElem? (i := 1046) (by decide +kernel), List.mem_of_getElem? (i := 1047) (by decide +kernel)⟩
theorem lw_p35 : lw_okq (⟨"PinKindChecks$Waivers", "remove", "(I)V"⟩, 3) := ⟨⟨by decide +kernel, by decide +kernel⟩, List.mem_of_getElem? (i := 144) (by decide +kernel), List.mem_of_getElem? (i := 1050) (by decide +kernel), List.mem_of_getElem? (i := 1051) (by decide +kernel)⟩
theorem lw_p36 : lw_okq (⟨"PinKindChecksModel", "isPart", "(I)Z"⟩, 42) := ⟨⟨by decide +kernel, by decide +kernel⟩, List.mem_of_getElem? (i := 1054) (by decide +kernel), List.mem_of_getElem? (i := 1213) (by decide +kernel), List.mem_of_getElem? (i := 1214) (by decide +kernel)⟩
theorem lw_p37 : lw_okq (⟨"PinKindChecksModel", "isNet", "(I)Z"⟩, 42) := ⟨⟨by decide +kernel, by decide +kernel⟩, List.mem_of_getElem? (i := 1054) (by decide +kernel), List.mem_of_getElem? (i := 1217) (by decide +kernel), List.mem_of_getElem? (i := 1218) (by decide +kernel)⟩
theorem lw_p38 : lw_okq (⟨"PinKindChecksModel", "reads", "(I)Z"⟩, 42) := ⟨⟨by decide +kernel, by decide +kernel⟩, List.mem_of_getElem? (i := 1054) (by decide +kernel), List.mem_of_getElem? (i := 1241) (by decide +kernel), List.mem_of_getElem? (i := 1242) (by decide +kernel)⟩
theorem lw_p39 : lw_okq (⟨"PinKindChecksModel", "nextWord", "()Z"⟩, 42) := ⟨⟨by decide +kernel, by decide +kernel⟩, List.mem_of_getElem? (i := 1054) (by decide +kernel), List.mem_of_getElem? (i := 1245) (by decide +kernel), List.mem_of_getElem? (i := 1246) (by decide +kernel)⟩
theorem lw_p40 : lw_okq (⟨"PinKindChecksModel", "spelt", "()J"⟩, 42) := ⟨⟨by decide +kernel, by decide +kernel⟩, List.mem_of_getElem? (i := 1054) (by decide +kernel), List.mem_of_getElem? (i := 1249) (by decide +kernel), List.mem_of_getElem? (i := 1250) (by decide +kernel)⟩
theorem lw_p41 : lw_okq (⟨"PinKindChecksModel", "takes", "(I)Z"⟩, 42) := ⟨⟨by decide +kernel, by decide +kernel⟩, List.mem_of_getElem? (i := 1054) (by decide +kernel), List.mem_of_getElem? (i := 1256) (by decide +kernel), List.mem_of_getElem? (i := 1257) (by decide +kernel)⟩
theorem lw_p42 : lw_okq (⟨"PinKindChecksModel", "takesSign", "()Z"⟩, 42) := ⟨⟨by decide +kernel, by decide +kernel⟩, List.mem_of_getElem? (i := 1054) (by decide +kernel), List.mem_of_getElem? (i := 1260) (by decide +kernel), List.mem_of_getElem? (i := 1261) (by decide +kernel)⟩
theorem lw_p43 : lw_okq (⟨"PinKindChecksModel", "signAt", "()I"⟩, 42) := ⟨⟨by decide +kernel, by decide +kernel⟩, List.mem_of_getElem? (i := 1054) (by decide +kernel), List.mem_of_getElem? (i := 1264) (by decide +kernel), List.mem_of_getElem? (i := 1265) (by decide +kernel)⟩
theorem lw_p44 : lw_okq (⟨"PinKindChecksModel", "release", "(I)V"⟩, 42) := ⟨⟨by decide +kernel, by decide +kernel⟩, List.mem_of_getElem? (i := 1054) (by decide +kernel), List.mem_of_getElem? (i := 1278) (by decide +kernel), List.mem_of_getElem? (i := 1279) (by decide +kernel)⟩
theorem lw_p45 : lw_okq (⟨"PinKindChecksModel", "put", "(II)V"⟩, 42) := ⟨⟨by decide +kernel, by decide +kernel⟩, List.mem_of_getElem? (i := 1054) (by decide +kernel), List.mem_of_getElem? (i := 1282) (by decide +kernel), List.mem_of_getElem? (i := 1283) (by decide +kernel)⟩
theorem lw_p46 : lw_okq (⟨"PinKindChecksModel", "wait", "(I)V"⟩, 42) := ⟨⟨by decide +kernel, by decide +kernel⟩, List.mem_of_getElem? (i := 1054) (by decide +kernel), List.mem_of_getElem? (i := 1286) (by decide +kernel), List.mem_of_getElem? (i := 1287) (by decide +kernel)⟩
theorem lw_p47 : lw_okq (⟨"PinKindChecksModel", "isTerm", "(I)Z"⟩, 42) := ⟨⟨by decide +kernel, by decide +kernel⟩, List.mem_of_getElem? (i := 1054) (by decide +kernel), List.mem_of_getElem? (i := 1292) (by decide +kernel), List.mem_of_getElem? (i := 1293) (by decide +kernel)⟩
def lw_privs_3 : List (MethodName × Nat) := [(⟨"PinKindChecks$RuleReader", "dropOpening", "()V"⟩, 12), (⟨"PinKindChecks", "isRule", "(I)Z"⟩, 12), (⟨"PinKindChecks$Waivers", "append", "(II)Z"⟩, 3), (⟨"PinKindChecks$Waivers", "remove", "(I)V"⟩, 3), (⟨"PinKindChecksModel", "isPart", "(I)Z"⟩, 42), (⟨"PinKindChecksModel", "isNet", "(I)Z"⟩, 42), (⟨"PinKindChecksModel", "reads", "(I)Z"⟩, 42), (⟨"PinKindChecksModel", "nextWord", "()Z"⟩, 42), (⟨"PinKindChecksModel", "spelt", "()J"⟩, 42), (⟨"PinKindChecksModel", "takes", "(I)Z"⟩, 42), (⟨"PinKindChecksModel", "takesSign", "()Z"⟩, 42), (⟨"PinKindChecksModel", "signAt", "()I"⟩, 42), (⟨"PinKindChecksModel", "release", "(I)V"⟩, 42), (⟨"PinKindChecksModel", "put", "(II)V"⟩, 42), (⟨"PinKindChecksModel", "wait", "(I)V"⟩, 42), (⟨"PinKindChecksModel", "isTerm", "(I)Z"⟩, 42)]
theorem lw_r3 : ∀ q ∈ lw_privs_3, lw_okq q := List.forall_mem_cons.mpr ⟨lw_p32, List.forall_mem_cons.mpr ⟨lw_p33, List.forall_mem_cons.mpr ⟨lw_p34, List.forall_mem_cons.mpr ⟨lw_p35, List.forall_mem_cons.mpr ⟨lw_p36, List.forall_mem_cons.mpr ⟨lw_p37, List.forall_mem_cons.mpr ⟨lw_p38, List.forall_mem_cons.mpr ⟨lw_p39, List.forall_mem_cons.mpr ⟨lw_p40, List.forall_mem_cons.mpr ⟨lw_p41, List.forall_mem_cons.mpr ⟨lw_p42, List.forall_mem_cons.mpr ⟨lw_p43, List.forall_mem_cons.mpr ⟨lw_p44, List.forall_mem_cons.mpr ⟨lw_p45, List.forall_mem_cons.mpr ⟨lw_p46, List.forall_mem_cons.mpr ⟨lw_p47, fun _ h => absurd h List.not_mem_nil⟩⟩⟩⟩⟩⟩⟩⟩⟩⟩⟩⟩⟩⟩⟩⟩
theorem lw_p48 : lw_okq (⟨"PinKindChecksModel", "isNumber", "()Z"⟩, 42) := ⟨⟨by decide +kernel, by decide +kernel⟩, List.mem_of_getElem? (i := 1054) (by decide +kernel), List.mem_of_getElem? (i := 1296) (by decide +kernel), List.mem_of_getElem? (i := 1297) (by decide +kernel)⟩
theorem lw_p49 : lw_okq (⟨"PinKindChecksModel", "value", "()I"⟩, 42) := ⟨⟨by decide +kernel, by decide +kernel⟩, List.mem_of_getElem? (i := 1054) (by decide +kernel), List.mem_of_getElem? (i := 1300) (by decide +kernel), List.mem_of_getElem? (i := 1301) (by decide +kernel)⟩
theorem lw_p50 : lw_okq (⟨"PinKindChecksModel", "isDigitNext", "()Z"⟩, 42) := ⟨⟨by decide +kernel, by decide +kernel⟩, List.mem_of_getElem? (i := 1054) (by decide +kernel), List.mem_of_getElem? (i := 1304) (by decide +kernel), List.mem_of_getElem? (i := 1305) (by decide +kernel)⟩
theorem lw_p51 : lw_okq (⟨"PinKindChecksModel", "many", "(I)I"⟩, 42) := ⟨⟨by decide +kernel, by decide +kernel⟩, List.mem_of_getElem? (i := 1054) (by decide +kernel), List.mem_of_getElem? (i := 1312) (by decide +kernel), List.mem_of_getElem? (i := 1313) (by decide +kernel)⟩
theorem lw_p52 : lw_okq (⟨"PinKindChecksModel", "found", "(III)I"⟩, 42) := ⟨⟨by decide +kernel, by decide +kernel⟩, List.mem_of_getElem? (i := 1054) (by decide +kernel), List.mem_of_getElem? (i := 1319) (by decide +kernel), List.mem_of_getElem? (i := 1320) (by decide +kernel)⟩
theorem lw_p53 : lw_okq (⟨"PinKindChecksModel", "holds", "(II)Z"⟩, 42) := ⟨⟨by decide +kernel, by decide +kernel⟩, List.mem_of_getElem? (i := 1054) (by decide +kernel), List.mem_of_getElem? (i := 1323) (by decide +kernel), List.mem_of_getElem? (i := 1324) (by decide +kernel)⟩
theorem lw_p54 : lw_okq (⟨"PinKindChecksModel", "term", "(IIII)J"⟩, 42) := ⟨⟨by decide +kernel, by decide +kernel⟩, List.mem_of_getElem? (i := 1054) (by decide +kernel), List.mem_of_getElem? (i := 1327) (by decide +kernel), List.mem_of_getElem? (i := 1328) (by decide +kernel)⟩
theorem lw_p55 : lw_okq (⟨"PinKindChecksModel", "partOf", "(II)I"⟩, 42) := ⟨⟨by decide +kernel, by decide +kernel⟩, List.mem_of_getElem? (i := 1054) (by decide +kernel), List.mem_of_getElem? (i := 1331) (by decide +kernel), List.mem_of_getElem? (i := 1332) (by decide +kernel)⟩
theorem lw_p56 : lw_okq (⟨"PinKindChecksModel", "pinsOf", "(III)I"⟩, 42) := ⟨⟨by decide +kernel, by decide +kernel⟩, List.mem_of_getElem? (i := 1054) (by decide +kernel), List.mem_of_getElem? (i := 1335) (by decide +kernel), List.mem_of_getElem? (i := 1336) (by decide +kernel)⟩
theorem lw_p57 : lw_okq (⟨"PinKindChecksModel", "sheetOf", "(II)I"⟩, 42) := ⟨⟨by decide +kernel, by decide +kernel⟩, List.mem_of_getElem? (i := 1054) (by decide +kernel), List.mem_of_getElem? (i := 1340) (by decide +kernel), List.mem_of_getElem? (i := 1341) (by decide +kernel)⟩
theorem lw_p58 : lw_okq (⟨"PinKindChecksModel", "worst", "(I)I"⟩, 42) := ⟨⟨by decide +kernel, by decide +kernel⟩, List.mem_of_getElem? (i := 1054) (by decide +kernel), List.mem_of_getElem? (i := 1347) (by decide +kernel), List.mem_of_getElem? (i := 1348) (by decide +kernel)⟩
theorem lw_p59 : lw_okq (⟨"PinKindChecksModel", "isNamedBefore", "(I)Z"⟩, 42) := ⟨⟨by decide +kernel, by decide +kernel⟩, List.mem_of_getElem? (i := 1054) (by decide +kernel), List.mem_of_getElem? (i := 1351) (by decide +kernel), List.mem_of_getElem? (i := 1352) (by decide +kernel)⟩
theorem lw_p60 : lw_okq (⟨"PinKindChecksModel", "isOffGrid", "(I)Z"⟩, 42) := ⟨⟨by decide +kernel, by decide +kernel⟩, List.mem_of_getElem? (i := 1054) (by decide +kernel), List.mem_of_getElem? (i := 1355) (by decide +kernel), List.mem_of_getElem? (i := 1356) (by decide +kernel)⟩
theorem lw_p61 : lw_okq (⟨"PinKindChecksModel", "reason", "(I)I"⟩, 42) := ⟨⟨by decide +kernel, by decide +kernel⟩, List.mem_of_getElem? (i := 1054) (by decide +kernel), List.mem_of_getElem? (i := 1360) (by decide +kernel), List.mem_of_getElem? (i := 1361) (by decide +kernel)⟩
theorem lw_p62 : lw_okq (⟨"PinKindChecksModel", "remarkAt", "(IZ)I"⟩, 42) := ⟨⟨by decide +kernel, by decide +kernel⟩, List.mem_of_getElem? (i := 1054) (by decide +kernel), List.mem_of_getElem? (i := 1368) (by decide +kernel), List.mem_of_getElem? (i := 1369) (by decide +kernel)⟩
theorem lw_p63 : lw_okq (⟨"PinKindChecksModel", "isRule", "(I)Z"⟩, 42) := ⟨⟨by decide +kernel, by decide +kernel⟩, List.mem_of_getElem? (i := 1054) (by decide +kernel), List.mem_of_getElem? (i := 1386) (by decide +kernel), List.mem_of_getElem? (i := 1387) (by decide +kernel)⟩
def lw_privs_4 : List (MethodName × Nat) := [(⟨"PinKindChecksModel", "isNumber", "()Z"⟩, 42), (⟨"PinKindChecksModel", "value", "()I"⟩, 42), (⟨"PinKindChecksModel", "isDigitNext", "()Z"⟩, 42), (⟨"PinKindChecksModel", "many", "(I)I"⟩, 42), (⟨"PinKindChecksModel", "found", "(III)I"⟩, 42), (⟨"PinKindChecksModel", "holds", "(II)Z"⟩, 42), (⟨"PinKindChecksModel", "term", "(IIII)J"⟩, 42), (⟨"PinKindChecksModel", "partOf", "(II)I"⟩, 42), (⟨"PinKindChecksModel", "pinsOf", "(III)I"⟩, 42), (⟨"PinKindChecksModel", "sheetOf", "(II)I"⟩, 42), (⟨"PinKindChecksModel", "worst", "(I)I"⟩, 42), (⟨"PinKindChecksModel", "isNamedBefore", "(I)Z"⟩, 42), (⟨"PinKindChecksModel", "isOffGrid", "(I)Z"⟩, 42), (⟨"PinKindChecksModel", "reason", "(I)I"⟩, 42), (⟨"PinKindChecksModel", "remarkAt", "(IZ)I"⟩, 42), (⟨"PinKindChecksModel", "isRule", "(I)Z"⟩, 42)]
theorem lw_r4 : ∀ q ∈ lw_privs_4, lw_okq q := List.forall_mem_cons.mpr ⟨lw_p48, List.forall_mem_cons.mpr ⟨lw_p49, List.forall_mem_cons.mpr ⟨lw_p50, List.forall_mem_cons.mpr ⟨lw_p51, List.forall_mem_cons.mpr ⟨lw_p52, List.forall_mem_cons.mpr ⟨lw_p53, List.forall_mem_cons.mpr ⟨lw_p54, List.forall_mem_cons.mpr ⟨lw_p55, List.forall_mem_cons.mpr ⟨lw_p56, List.forall_mem_cons.mpr ⟨lw_p57, List.forall_mem_cons.mpr ⟨lw_p58, List.forall_mem_cons.mpr ⟨lw_p59, List.forall_mem_cons.mpr ⟨lw_p60, List.forall_mem_cons.mpr ⟨lw_p61, List.forall_mem_cons.mpr ⟨lw_p62, List.forall_mem_cons.mpr ⟨lw_p63, fun _ h => absurd h List.not_mem_nil⟩⟩⟩⟩⟩⟩⟩⟩⟩⟩⟩⟩⟩⟩⟩⟩
def lw_privs : List (MethodName × Nat) := lw_privs_1 ++ (lw_privs_2 ++ (lw_privs_3 ++ (lw_privs_4)))
def lw_tbl : List Cond := k2_sels lw_privs ++ tables_1
theorem lw_privs_ok : ∀ q ∈ lw_privs, lw_okq q := by
  show ∀ q ∈ lw_privs_1 ++ (lw_privs_2 ++ (lw_privs_3 ++ (lw_privs_4))), lw_okq q
  exact List.forall_mem_append.mpr ⟨lw_r1, List.forall_mem_append.mpr ⟨lw_r2, List.forall_mem_append.mpr ⟨lw_r3, lw_r4⟩⟩⟩
-- ===== end of PART A; then your names; then what follows =====
end
section
/-! the classes of the claim: fields in the order of the slots (declaring class, name, descriptor, final), the table of classes, the array classes -/
def T_K : u_T := fun k => match k with
  | 0 => ("PinKindChecks", "schematic", "LPinKindChecks$Schematic;", true)
  | 1 => ("PinKindChecks", "text", "LPinKindChecks$RuleText;", true)
  | 2 => ("PinKindChecks", "reader", "LPinKindChecks$RuleReader;", true)
  | 3 => ("PinKindChecks", "told", "[LPinKindChecks$ToldRule;", true)
  | 4 => ("PinKindChecks", "isOff", "[Z", true)
  | 5 => ("PinKindChecks", "waivers", "LPinKindChecks$Waivers;", true)
  | 6 => ("PinKindChecks", "closedRemarks", "LPinKindChecks$Remarks;", true)
  | 7 => ("PinKindChecks", "stack", "[J", true)
  | 8 => ("PinKindChecks", "latest", "LPinKindChecks$Remarks;", false)
  | 9 => ("PinKindChecks", "before", "LPinKindChecks$Remarks;", false)
  | 10 => ("PinKindChecks", "toldCount", "I", false)
  | _ => ("PinKindChecks", "version", "I", false)
def t_K : Nat → FieldType := fun k => match k with
  | 0 => .object "PinKindChecks$Schematic"
  | 1 => .object "PinKindChecks$RuleText"
  | 2 => .object "PinKindChecks$RuleReader"
  | 3 => .array (.object "PinKindChecks$ToldRule")
  | 4 => .array .boolean
  | 5 => .object "PinKindChecks$Waivers"
  | 6 => .object "PinKindChecks$Remarks"
  | 7 => .array .long
  | 8 => .object "PinKindChecks$Remarks"
  | 9 => .object "PinKindChecks$Remarks"
  | 10 => .int
  | _ => .int
theorem nm_K : ∀ a, a < 12 → ∀ b, b < 12 → a ≠ b → (T_K a).2.1 ≠ (T_K b).2.1 := by decide +kernel
theorem tk_K : ∀ k, k < 12 → parseFieldDescriptor (T_K k).2.2.1 = some (t_K k) := by decide +kernel
def T_Sc : u_T := fun k => match k with
  | 0 => ("PinKindChecks$Schematic", "verdicts", "[I", true)
  | 1 => ("PinKindChecks$Schematic", "parts", "[LPinKindChecks$Part;", true)
  | 2 => ("PinKindChecks$Schematic", "nets", "[LPinKindChecks$Net;", true)
  | 3 => ("PinKindChecks$Schematic", "pins", "[LPinKindChecks$Pin;", true)
  | 4 => ("PinKindChecks$Schematic", "inOrder", "[LPinKindChecks$Thing;", true)
  | 5 => ("PinKindChecks$Schematic", "partCount", "I", false)
  | 6 => ("PinKindChecks$Schematic", "netCount", "I", false)
  | 7 => ("PinKindChecks$Schematic", "pinCount", "I", false)
  | _ => ("PinKindChecks$Schematic", "endCount", "I", false)
def t_Sc : Nat → FieldType := fun k => match k with
  | 0 => .array .int
  | 1 => .array (.object "PinKindChecks$Part")
  | 2 => .array (.object "PinKindChecks$Net")
  | 3 => .array (.object "PinKindChecks$Pin")
  | 4 => .array (.object "PinKindChecks$Thing")
  | 5 => .int
  | 6 => .int
  | 7 => .int
  | _ => .int
theorem nm_Sc : ∀ a, a < 9 → ∀ b, b < 9 → a ≠ b → (T_Sc a).2.1 ≠ (T_Sc b).2.1 := by decide +kernel
theorem tk_Sc : ∀ k, k < 9 → parseFieldDescriptor (T_Sc k).2.2.1 = some (t_Sc k) := by decide +kernel
def T_Tx : u_T := fun k => match k with
  | 0 => ("PinKindChecks$RuleText", "letters", "[C", true)
  | 1 => ("PinKindChecks$RuleText", "length", "I", false)
  | 2 => ("PinKindChecks$RuleText", "wordStart", "I", false)
  | _ => ("PinKindChecks$RuleText", "wordEnd", "I", false)
def t_Tx : Nat → FieldType := fun k => match k with
  | 0 => .array .char
  | 1 => .int
  | 2 => .int
  | _ => .int
theorem nm_Tx : ∀ a, a < 4 → ∀ b, b < 4 → a ≠ b → (T_Tx a).2.1 ≠ (T_Tx b).2.1 := by decide +kernel
theorem tk_Tx : ∀ k, k < 4 → parseFieldDescriptor (T_Tx k).2.2.1 = some (t_Tx k) := by decide +kernel
def T_Rd : u_T := fun k => match k with
  | 0 => ("PinKindChecks$RuleReader", "codes", "[I", true)
  | 1 => ("PinKindChecks$RuleReader", "indexes", "[I", true)
  | 2 => ("PinKindChecks$RuleReader", "pending", "[I", true)
  | 3 => ("PinKindChecks$RuleReader", "text", "LPinKindChecks$RuleText;", true)
  | 4 => ("PinKindChecks$RuleReader", "codeCount", "I", false)
  | 5 => ("PinKindChecks$RuleReader", "pendingCount", "I", false)
  | 6 => ("PinKindChecks$RuleReader", "wordsRead", "I", false)
  | 7 => ("PinKindChecks$RuleReader", "state", "I", false)
  | 8 => ("PinKindChecks$RuleReader", "open", "I", false)
  | 9 => ("PinKindChecks$RuleReader", "isBehindSign", "Z", false)
  | 10 => ("PinKindChecks$RuleReader", "subject", "I", false)
  | _ => ("PinKindChecks$RuleReader", "weight", "I", false)
def t_Rd : Nat → FieldType := fun k => match k with
  | 0 => .array .int
  | 1 => .array .int
  | 2 => .array .int
  | 3 => .object "PinKindChecks$RuleText"
  | 4 => .int
  | 5 => .int
  | 6 => .int
  | 7 => .int
  | 8 => .int
  | 9 => .boolean
  | 10 => .int
  | _ => .int
theorem nm_Rd : ∀ a, a < 12 → ∀ b, b < 12 → a ≠ b → (T_Rd a).2.1 ≠ (T_Rd b).2.1 := by decide +kernel
theorem tk_Rd : ∀ k, k < 12 → parseFieldDescriptor (T_Rd k).2.2.1 = some (t_Rd k) := by decide +kernel
def T_Wv : u_T := fun k => match k with
  | 0 => ("PinKindChecks$Waivers", "keys", "[I", true)
  | 1 => ("PinKindChecks$Waivers", "reasons", "[I", true)
  | _ => ("PinKindChecks$Waivers", "count", "I", false)
def t_Wv : Nat → FieldType := fun k => match k with
  | 0 => .array .int
  | 1 => .array .int
  | _ => .int
theorem nm_Wv : ∀ a, a < 3 → ∀ b, b < 3 → a ≠ b → (T_Wv a).2.1 ≠ (T_Wv b).2.1 := by decide +kernel
theorem tk_Wv : ∀ k, k < 3 → parseFieldDescriptor (T_Wv k).2.2.1 = some (t_Wv k) := by decide +kernel
def T_Rm : u_T := fun k => match k with
  | 0 => ("PinKindChecks$Remarks", "keys", "[I", false)
  | 1 => ("PinKindChecks$Remarks", "weights", "[I", false)
  | 2 => ("PinKindChecks$Remarks", "firsts", "[I", false)
  | _ => ("PinKindChecks$Remarks", "count", "I", false)
def t_Rm : Nat → FieldType := fun k => match k with
  | 0 => .array .int
  | 1 => .array .int
  | 2 => .array .int
  | _ => .int
theorem nm_Rm : ∀ a, a < 4 → ∀ b, b < 4 → a ≠ b → (T_Rm a).2.1 ≠ (T_Rm b).2.1 := by decide +kernel
theorem tk_Rm : ∀ k, k < 4 → parseFieldDescriptor (T_Rm k).2.2.1 = some (t_Rm k) := by decide +kernel
def T_Pa : u_T := fun k => match k with
  | 0 => ("PinKindChecks$Thing", "sheet", "I", true)
  | 1 => ("PinKindChecks$Thing", "place", "I", true)
  | 2 => ("PinKindChecks$PinHolder", "pinsOfKind", "[I", true)
  | 3 => ("PinKindChecks$PinHolder", "pinCount", "I", false)
  | _ => ("PinKindChecks$Part", "fields", "[J", true)
def t_Pa : Nat → FieldType := fun k => match k with
  | 0 => .int
  | 1 => .int
  | 2 => .array .int
  | 3 => .int
  | _ => .array .long
theorem nm_Pa : ∀ a, a < 5 → ∀ b, b < 5 → a ≠ b → (T_Pa a).2.1 ≠ (T_Pa b).2.1 := by decide +kernel
theorem tk_Pa : ∀ k, k < 5 → parseFieldDescriptor (T_Pa k).2.2.1 = some (t_Pa k) := by decide +kernel
def T_Ne : u_T := fun k => match k with
  | 0 => ("PinKindChecks$Thing", "sheet", "I", true)
  | 1 => ("PinKindChecks$Thing", "place", "I", true)
  | 2 => ("PinKindChecks$PinHolder", "pinsOfKind", "[I", true)
  | 3 => ("PinKindChecks$PinHolder", "pinCount", "I", false)
  | 4 => ("PinKindChecks$Net", "name", "I", true)
  | _ => ("PinKindChecks$Net", "hasEndOffGrid", "Z", false)
def t_Ne : Nat → FieldType := fun k => match k with
  | 0 => .int
  | 1 => .int
  | 2 => .array .int
  | 3 => .int
  | 4 => .int
  | _ => .boolean
theorem nm_Ne : ∀ a, a < 6 → ∀ b, b < 6 → a ≠ b → (T_Ne a).2.1 ≠ (T_Ne b).2.1 := by decide +kernel
theorem tk_Ne : ∀ k, k < 6 → parseFieldDescriptor (T_Ne k).2.2.1 = some (t_Ne k) := by decide +kernel
def T_Pi : u_T := fun k => match k with
  | 0 => ("PinKindChecks$Thing", "sheet", "I", true)
  | 1 => ("PinKindChecks$Thing", "place", "I", true)
  | 2 => ("PinKindChecks$Pin", "part", "LPinKindChecks$Part;", true)
  | 3 => ("PinKindChecks$Pin", "kind", "I", true)
  | _ => ("PinKindChecks$Pin", "net", "LPinKindChecks$Net;", false)
def t_Pi : Nat → FieldType := fun k => match k with
  | 0 => .int
  | 1 => .int
  | 2 => .object "PinKindChecks$Part"
  | 3 => .int
  | _ => .object "PinKindChecks$Net"
theorem nm_Pi : ∀ a, a < 5 → ∀ b, b < 5 → a ≠ b → (T_Pi a).2.1 ≠ (T_Pi b).2.1 := by decide +kernel
theorem tk_Pi : ∀ k, k < 5 → parseFieldDescriptor (T_Pi k).2.2.1 = some (t_Pi k) := by decide +kernel
def T_Tr : u_T := fun k => match k with
  | 0 => ("PinKindChecks$ToldRule", "subject", "I", true)
  | 1 => ("PinKindChecks$ToldRule", "weight", "I", true)
  | 2 => ("PinKindChecks$ToldRule", "codes", "[I", true)
  | _ => ("PinKindChecks$ToldRule", "indexes", "[I", true)
def t_Tr : Nat → FieldType := fun k => match k with
  | 0 => .int
  | 1 => .int
  | 2 => .array .int
  | _ => .array .int
theorem nm_Tr : ∀ a, a < 4 → ∀ b, b < 4 → a ≠ b → (T_Tr a).2.1 ≠ (T_Tr b).2.1 := by decide +kernel
theorem tk_Tr : ∀ k, k < 4 → parseFieldDescriptor (T_Tr k).2.2.1 = some (t_Tr k) := by decide +kernel
def T_Mo : u_T := fun k => match k with
  | 0 => ("PinKindChecksModel", "thrown", "I", false)
  | 1 => ("PinKindChecksModel", "table", "[I", true)
  | 2 => ("PinKindChecksModel", "parts", "I", false)
  | 3 => ("PinKindChecksModel", "nets", "I", false)
  | 4 => ("PinKindChecksModel", "pins", "I", false)
  | 5 => ("PinKindChecksModel", "partSheet", "[I", true)
  | 6 => ("PinKindChecksModel", "fields", "[J", true)
  | 7 => ("PinKindChecksModel", "netSheet", "[I", true)
  | 8 => ("PinKindChecksModel", "netName", "[I", true)
  | 9 => ("PinKindChecksModel", "pinPart", "[I", true)
  | 10 => ("PinKindChecksModel", "pinNet", "[I", true)
  | 11 => ("PinKindChecksModel", "pinKind", "[I", true)
  | 12 => ("PinKindChecksModel", "ends", "I", false)
  | 13 => ("PinKindChecksModel", "endNet", "[I", true)
  | 14 => ("PinKindChecksModel", "endX", "[J", true)
  | 15 => ("PinKindChecksModel", "endY", "[J", true)
  | 16 => ("PinKindChecksModel", "text", "[I", true)
  | 17 => ("PinKindChecksModel", "size", "I", false)
  | 18 => ("PinKindChecksModel", "told", "I", false)
  | 19 => ("PinKindChecksModel", "subject", "[I", true)
  | 20 => ("PinKindChecksModel", "weight", "[I", true)
  | 21 => ("PinKindChecksModel", "signCount", "[I", true)
  | 22 => ("PinKindChecksModel", "signs", "[I", true)
  | 23 => ("PinKindChecksModel", "operands", "[I", true)
  | 24 => ("PinKindChecksModel", "off", "[Z", true)
  | 25 => ("PinKindChecksModel", "version", "I", false)
  | 26 => ("PinKindChecksModel", "now", "[I", true)
  | 27 => ("PinKindChecksModel", "weights", "[I", true)
  | 28 => ("PinKindChecksModel", "before", "[I", true)
  | 29 => ("PinKindChecksModel", "ran", "Z", false)
  | 30 => ("PinKindChecksModel", "waived", "I", false)
  | 31 => ("PinKindChecksModel", "waivedAt", "[I", true)
  | 32 => ("PinKindChecksModel", "reasons", "[I", true)
  | 33 => ("PinKindChecksModel", "begin", "I", false)
  | 34 => ("PinKindChecksModel", "at", "I", false)
  | 35 => ("PinKindChecksModel", "words", "I", false)
  | 36 => ("PinKindChecksModel", "rule", "I", false)
  | 37 => ("PinKindChecksModel", "waiting", "[I", true)
  | 38 => ("PinKindChecksModel", "waits", "I", false)
  | 39 => ("PinKindChecksModel", "open", "I", false)
  | 40 => ("PinKindChecksModel", "state", "I", false)
  | _ => ("PinKindChecksModel", "stack", "[J", true)
def t_Mo : Nat → FieldType := fun k => match k with
  | 0 => .int
  | 1 => .array .int
  | 2 => .int
  | 3 => .int
  | 4 => .int
  | 5 => .array .int
  | 6 => .array .long
  | 7 => .array .int
  | 8 => .array .int
  | 9 => .array .int
  | 10 => .array .int
  | 11 => .array .int
  | 12 => .int
  | 13 => .array .int
  | 14 => .array .long
  | 15 => .array .long
  | 16 => .array .int
  | 17 => .int
  | 18 => .int
  | 19 => .array .int
  | 20 => .array .int
  | 21 => .array .int
  | 22 => .array .int
  | 23 => .array .int
  | 24 => .array .boolean
  | 25 => .int
  | 26 => .array .int
  | 27 => .array .int
  | 28 => .array .int
  | 29 => .boolean
  | 30 => .int
  | 31 => .array .int
  | 32 => .array .int
  | 33 => .int
  | 34 => .int
  | 35 => .int
  | 36 => .int
  | 37 => .array .int
  | 38 => .int
  | 39 => .int
  | 40 => .int
  | _ => .array .long
theorem nm_Mo : ∀ a, a < 42 → ∀ b, b < 42 → a ≠ b → (T_Mo a).2.1 ≠ (T_Mo b).2.1 := by decide +kernel
theorem tk_Mo : ∀ k, k < 42 → parseFieldDescriptor (T_Mo k).2.2.1 = some (t_Mo k) := by decide +kernel
def vwCl : List vw_C := [("PinKindChecks", T_K, 12), ("PinKindChecks$Schematic", T_Sc, 9), ("PinKindChecks$RuleText", T_Tx, 4), ("PinKindChecks$RuleReader", T_Rd, 12), ("PinKindChecks$Waivers", T_Wv, 3), ("PinKindChecks$Remarks", T_Rm, 4), ("PinKindChecks$Part", T_Pa, 5), ("PinKindChecks$Net", T_Ne, 6), ("PinKindChecks$Pin", T_Pi, 5), ("PinKindChecks$ToldRule", T_Tr, 4), ("PinKindChecksModel", T_Mo, 42)]
def zTys (dA : Nat → ClassId) : List (ClassId × FieldType) := [(dA 0, .int), (dA 1, .long), (dA 2, .boolean), (dA 3, .char), (dA 4, .object "PinKindChecks$Part"), (dA 5, .object "PinKindChecks$Net"), (dA 6, .object "PinKindChecks$Pin"), (dA 7, .object "PinKindChecks$Thing"), (dA 8, .object "PinKindChecks$ToldRule")]
end
section
abbrev c_K_init : ByteArray := prog_1_method_1_code
abbrev r_K_init : Option FieldType := none
def y_K_init : MethodName := ⟨"PinKindChecks", "<init>", "()V"⟩
theorem d_K_init_0 : decode c_K_init 0 = .ok (.aload_n 0, 1) := by decide +kernel
theorem d_K_init_1 : decode c_K_init 1 = .ok (.invokespecial 3, 3) := by decide +kernel
theorem d_K_init_4 : decode c_K_init 4 = .ok (.aload_n 0, 1) := by decide +kernel
theorem d_K_init_5 : decode c_K_init 5 = .ok (.new 9, 3) := by decide +kernel
theorem d_K_init_8 : decode c_K_init 8 = .ok (.dup, 1) := by decide +kernel
theorem d_K_init_9 : decode c_K_init 9 = .ok (.invokespecial 11, 3) := by decide +kernel
theorem d_K_init_12 : decode c_K_init 12 = .ok (.putfield 12, 3) := by decide +kernel
theorem d_K_init_15 : decode c_K_init 15 = .ok (.aload_n 0, 1) := by decide +kernel
theorem d_K_init_16 : decode c_K_init 16 = .ok (.new 16, 3) := by decide +kernel
theorem d_K_init_19 : decode c_K_init 19 = .ok (.dup, 1) := by decide +kernel
theorem d_K_init_20 : decode c_K_init 20 = .ok (.invokespecial 18, 3) := by decide +kernel
theorem d_K_init_23 : decode c_K_init 23 = .ok (.putfield 19, 3) := by decide +kernel
theorem d_K_init_26 : decode c_K_init 26 = .ok (.aload_n 0, 1) := by decide +kernel
theorem d_K_init_27 : decode c_K_init 27 = .ok (.new 23, 3) := by decide +kernel
theorem d_K_init_30 : decode c_K_init 30 = .ok (.dup, 1) := by decide +kernel
theorem d_K_init_31 : decode c_K_init 31 = .ok (.aload_n 0, 1) := by decide +kernel
theorem d_K_init_32 : decode c_K_init 32 = .ok (.getfield 19, 3) := by decide +kernel
theorem d_K_init_35 : decode c_K_init 35 = .ok (.invokespecial 25, 3) := by decide +kernel
theorem d_K_init_38 : decode c_K_init 38 = .ok (.putfield 28, 3) := by decide +kernel
theorem d_K_init_41 : decode c_K_init 41 = .ok (.aload_n 0, 1) := by decide +kernel
theorem d_K_init_42 : decode c_K_init 42 = .ok (.bipush 20, 2) := by decide +kernel
theorem d_K_init_44 : decode c_K_init 44 = .ok (.anewarray 32, 3) := by decide +kernel
theorem d_K_init_47 : decode c_K_init 47 = .ok (.putfield 34, 3) := by decide +kernel
theorem d_K_init_50 : decode c_K_init 50 = .ok (.aload_n 0, 1) := by decide +kernel
theorem d_K_init_51 : decode c_K_init 51 = .ok (.bipush 27, 2) := by decide +kernel
theorem d_K_init_53 : decode c_K_init 53 = .ok (.newarray .boolean, 2) := by decide +kernel
theorem d_K_init_55 : decode c_K_init 55 = .ok (.putfield 38, 3) := by decide +kernel
theorem d_K_init_58 : decode c_K_init 58 = .ok (.aload_n 0, 1) := by decide +kernel
theorem d_K_init_59 : decode c_K_init 59 = .ok (.new 42, 3) := by decide +kernel
theorem d_K_init_62 : decode c_K_init 62 = .ok (.dup, 1) := by decide +kernel
theorem d_K_init_63 : decode c_K_init 63 = .ok (.invokespecial 44, 3) := by decide +kernel
theorem d_K_init_66 : decode c_K_init 66 = .ok (.putfield 45, 3) := by decide +kernel
theorem d_K_init_69 : decode c_K_init 69 = .ok (.aload_n 0, 1) := by decide +kernel
theorem d_K_init_70 : decode c_K_init 70 = .ok (.new 49, 3) := by decide +kernel
theorem d_K_init_73 : decode c_K_init 73 = .ok (.dup, 1) := by decide +kernel
theorem d_K_init_74 : decode c_K_init 74 = .ok (.invokespecial 51, 3) := by decide +kernel
theorem d_K_init_77 : decode c_K_init 77 = .ok (.putfield 52, 3) := by decide +kernel
theorem d_K_init_80 : decode c_K_init 80 = .ok (.aload_n 0, 1) := by decide +kernel
theorem d_K_init_81 : decode c_K_init 81 = .ok (.bipush 80, 2) := by decide +kernel
theorem d_K_init_83 : decode c_K_init 83 = .ok (.newarray .long, 2) := by decide +kernel
theorem d_K_init_85 : decode c_K_init 85 = .ok (.putfield 56, 3) := by decide +kernel
theorem d_K_init_88 : decode c_K_init 88 = .ok (.aload_n 0, 1) := by decide +kernel
theorem d_K_init_89 : decode c_K_init 89 = .ok (.new 49, 3) := by decide +kernel
theorem d_K_init_92 : decode c_K_init 92 = .ok (.dup, 1) := by decide +kernel
theorem d_K_init_93 : decode c_K_init 93 = .ok (.invokespecial 51, 3) := by decide +kernel
theorem d_K_init_96 : decode c_K_init 96 = .ok (.putfield 60, 3) := by decide +kernel
theorem d_K_init_99 : decode c_K_init 99 = .ok (.aload_n 0, 1) := by decide +kernel
theorem d_K_init_100 : decode c_K_init 100 = .ok (.new 49, 3) := by decide +kernel
theorem d_K_init_103 : decode c_K_init 103 = .ok (.dup, 1) := by decide +kernel
theorem d_K_init_104 : decode c_K_init 104 = .ok (.invokespecial 51, 3) := by decide +kernel
theorem d_K_init_107 : decode c_K_init 107 = .ok (.putfield 63, 3) := by decide +kernel
theorem d_K_init_110 : decode c_K_init 110 = .ok (.aload_n 0, 1) := by decide +kernel
theorem d_K_init_111 : decode c_K_init 111 = .ok (.iconst 0, 1) := by decide +kernel
theorem d_K_init_112 : decode c_K_init 112 = .ok (.putfield 66, 3) := by decide +kernel
theorem d_K_init_115 : decode c_K_init 115 = .ok (.aload_n 0, 1) := by decide +kernel
theorem d_K_init_116 : decode c_K_init 116 = .ok (.iconst 1, 1) := by decide +kernel
theorem d_K_init_117 : decode c_K_init 117 = .ok (.putfield 70, 3) := by decide +kernel
theorem d_K_init_120 : decode c_K_init 120 = .ok (.return_, 1) := by decide +kernel
abbrev c_K_unit : ByteArray := prog_1_method_9_code
abbrev r_K_unit : Option FieldType := (some FieldType.boolean)
def y_K_unit : MethodName := ⟨"PinKindChecks", "unit", "(I)Z"⟩
theorem d_K_unit_0 : decode c_K_unit 0 = .ok (.aload_n 0, 1) := by decide +kernel
theorem d_K_unit_1 : decode c_K_unit 1 = .ok (.getfield 19, 3) := by decide +kernel
theorem d_K_unit_4 : decode c_K_unit 4 = .ok (.iload_n 1, 1) := by decide +kernel
theorem d_K_unit_5 : decode c_K_unit 5 = .ok (.invokevirtual 151, 3) := by decide +kernel
theorem d_K_unit_8 : decode c_K_unit 8 = .ok (.ireturn, 1) := by decide +kernel
abbrev c_K_run : ByteArray := prog_1_method_12_code
abbrev r_K_run : Option FieldType := (some FieldType.int)
def y_K_run : MethodName := ⟨"PinKindChecks", "run", "()I"⟩
theorem d_K_run_0 : decode c_K_run 0 = .ok (.aload_n 0, 1) := by decide +kernel
theorem d_K_run_1 : decode c_K_run 1 = .ok (.getfield 63, 3) := by decide +kernel
theorem d_K_run_4 : decode c_K_run 4 = .ok (.astore_n 1, 1) := by decide +kernel
theorem d_K_run_5 : decode c_K_run 5 = .ok (.aload_n 0, 1) := by decide +kernel
theorem d_K_run_6 : decode c_K_run 6 = .ok (.aload_n 0, 1) := by decide +kernel
theorem d_K_run_7 : decode c_K_run 7 = .ok (.getfield 60, 3) := by decide +kernel
theorem d_K_run_10 : decode c_K_run 10 = .ok (.putfield 63, 3) := by decide +kernel
theorem d_K_run_13 : decode c_K_run 13 = .ok (.aload_n 0, 1) := by decide +kernel
theorem d_K_run_14 : decode c_K_run 14 = .ok (.aload_n 1, 1) := by decide +kernel
theorem d_K_run_15 : decode c_K_run 15 = .ok (.putfield 60, 3) := by decide +kernel
theorem d_K_run_18 : decode c_K_run 18 = .ok (.aload_n 0, 1) := by decide +kernel
theorem d_K_run_19 : decode c_K_run 19 = .ok (.getfield 60, 3) := by decide +kernel
theorem d_K_run_22 : decode c_K_run 22 = .ok (.invokevirtual 178, 3) := by decide +kernel
theorem d_K_run_25 : decode c_K_run 25 = .ok (.iconst 0, 1) := by decide +kernel
theorem d_K_run_26 : decode c_K_run 26 = .ok (.istore_n 2, 1) := by decide +kernel
theorem d_K_run_27 : decode c_K_run 27 = .ok (.iload_n 2, 1) := by decide +kernel
theorem d_K_run_28 : decode c_K_run 28 = .ok (.aload_n 0, 1) := by decide +kernel
theorem d_K_run_29 : decode c_K_run 29 = .ok (.getfield 12, 3) := by decide +kernel
theorem d_K_run_32 : decode c_K_run 32 = .ok (.invokevirtual 179, 3) := by decide +kernel
theorem d_K_run_35 : decode c_K_run 35 = .ok (.if_icmp .ge 21, 3) := by decide +kernel
theorem d_K_run_38 : decode c_K_run 38 = .ok (.aload_n 0, 1) := by decide +kernel
theorem d_K_run_39 : decode c_K_run 39 = .ok (.aload_n 0, 1) := by decide +kernel
theorem d_K_run_40 : decode c_K_run 40 = .ok (.getfield 12, 3) := by decide +kernel
theorem d_K_run_43 : decode c_K_run 43 = .ok (.iload_n 2, 1) := by decide +kernel
theorem d_K_run_44 : decode c_K_run 44 = .ok (.invokevirtual 182, 3) := by decide +kernel
theorem d_K_run_47 : decode c_K_run 47 = .ok (.invokevirtual 186, 3) := by decide +kernel
theorem d_K_run_50 : decode c_K_run 50 = .ok (.iinc 2 1, 3) := by decide +kernel
theorem d_K_run_53 : decode c_K_run 53 = .ok (.goto (-26), 3) := by decide +kernel
theorem d_K_run_56 : decode c_K_run 56 = .ok (.aload_n 0, 1) := by decide +kernel
theorem d_K_run_57 : decode c_K_run 57 = .ok (.invokevirtual 190, 3) := by decide +kernel
theorem d_K_run_60 : decode c_K_run 60 = .ok (.aload_n 0, 1) := by decide +kernel
theorem d_K_run_61 : decode c_K_run 61 = .ok (.invokevirtual 193, 3) := by decide +kernel
theorem d_K_run_64 : decode c_K_run 64 = .ok (.ireturn, 1) := by decide +kernel
abbrev c_K_isBelow : ByteArray := prog_1_method_19_code
abbrev r_K_isBelow : Option FieldType := (some FieldType.boolean)
def y_K_isBelow : MethodName := ⟨"PinKindChecks", "isBelow", "(II)Z"⟩
theorem d_K_isBelow_0 : decode c_K_isBelow 0 = .ok (.iload_n 0, 1) := by decide +kernel
theorem d_K_isBelow_1 : decode c_K_isBelow 1 = .ok (.ifCond .lt 12, 3) := by decide +kernel
theorem d_K_isBelow_4 : decode c_K_isBelow 4 = .ok (.iload_n 0, 1) := by decide +kernel
theorem d_K_isBelow_5 : decode c_K_isBelow 5 = .ok (.iload_n 1, 1) := by decide +kernel
theorem d_K_isBelow_6 : decode c_K_isBelow 6 = .ok (.if_icmp .ge 7, 3) := by decide +kernel
theorem d_K_isBelow_9 : decode c_K_isBelow 9 = .ok (.iconst 1, 1) := by decide +kernel
theorem d_K_isBelow_10 : decode c_K_isBelow 10 = .ok (.goto 4, 3) := by decide +kernel
theorem d_K_isBelow_13 : decode c_K_isBelow 13 = .ok (.iconst 0, 1) := by decide +kernel
theorem d_K_isBelow_14 : decode c_K_isBelow 14 = .ok (.ireturn, 1) := by decide +kernel
abbrev c_K_checkThing : ByteArray := prog_1_method_23_code
abbrev r_K_checkThing : Option FieldType := none
def y_K_checkThing : MethodName := ⟨"PinKindChecks", "checkThing", "(LPinKindChecks$Thing;)V"⟩
theorem d_K_checkThing_0 : decode c_K_checkThing 0 = .ok (.aload_n 1, 1) := by decide +kernel
theorem d_K_checkThing_1 : decode c_K_checkThing 1 = .ok (.ifnonnull 4, 3) := by decide +kernel
theorem d_K_checkThing_4 : decode c_K_checkThing 4 = .ok (.return_, 1) := by decide +kernel
theorem d_K_checkThing_5 : decode c_K_checkThing 5 = .ok (.iconst 0, 1) := by decide +kernel
theorem d_K_checkThing_6 : decode c_K_checkThing 6 = .ok (.istore_n 2, 1) := by decide +kernel
theorem d_K_checkThing_7 : decode c_K_checkThing 7 = .ok (.iload_n 2, 1) := by decide +kernel
theorem d_K_checkThing_8 : decode c_K_checkThing 8 = .ok (.aload_n 0, 1) := by decide +kernel
theorem d_K_checkThing_9 : decode c_K_checkThing 9 = .ok (.invokevirtual 170, 3) := by decide +kernel
theorem d_K_checkThing_12 : decode c_K_checkThing 12 = .ok (.if_icmp .ge 59, 3) := by decide +kernel
theorem d_K_checkThing_15 : decode c_K_checkThing 15 = .ok (.iload_n 2, 1) := by decide +kernel
theorem d_K_checkThing_16 : decode c_K_checkThing 16 = .ok (.aload_n 0, 1) := by decide +kernel
theorem d_K_checkThing_17 : decode c_K_checkThing 17 = .ok (.getfield 38, 3) := by decide +kernel
theorem d_K_checkThing_20 : decode c_K_checkThing 20 = .ok (.arraylength, 1) := by decide +kernel
theorem d_K_checkThing_21 : decode c_K_checkThing 21 = .ok (.if_icmp .ge 50, 3) := by decide +kernel
theorem d_K_checkThing_24 : decode c_K_checkThing 24 = .ok (.aload_n 0, 1) := by decide +kernel
theorem d_K_checkThing_25 : decode c_K_checkThing 25 = .ok (.getfield 38, 3) := by decide +kernel
theorem d_K_checkThing_28 : decode c_K_checkThing 28 = .ok (.iload_n 2, 1) := by decide +kernel
theorem d_K_checkThing_29 : decode c_K_checkThing 29 = .ok (.baload, 1) := by decide +kernel
theorem d_K_checkThing_30 : decode c_K_checkThing 30 = .ok (.ifCond .eq 7, 3) := by decide +kernel
theorem d_K_checkThing_33 : decode c_K_checkThing 33 = .ok (.iconst 0, 1) := by decide +kernel
theorem d_K_checkThing_34 : decode c_K_checkThing 34 = .ok (.goto 9, 3) := by decide +kernel
theorem d_K_checkThing_37 : decode c_K_checkThing 37 = .ok (.aload_n 0, 1) := by decide +kernel
theorem d_K_checkThing_38 : decode c_K_checkThing 38 = .ok (.iload_n 2, 1) := by decide +kernel
theorem d_K_checkThing_39 : decode c_K_checkThing 39 = .ok (.aload_n 1, 1) := by decide +kernel
theorem d_K_checkThing_40 : decode c_K_checkThing 40 = .ok (.invokevirtual 236, 3) := by decide +kernel
theorem d_K_checkThing_43 : decode c_K_checkThing 43 = .ok (.istore_n 3, 1) := by decide +kernel
theorem d_K_checkThing_44 : decode c_K_checkThing 44 = .ok (.iload_n 3, 1) := by decide +kernel
theorem d_K_checkThing_45 : decode c_K_checkThing 45 = .ok (.ifCond .le 20, 3) := by decide +kernel
theorem d_K_checkThing_48 : decode c_K_checkThing 48 = .ok (.aload_n 0, 1) := by decide +kernel
theorem d_K_checkThing_49 : decode c_K_checkThing 49 = .ok (.getfield 60, 3) := by decide +kernel
theorem d_K_checkThing_52 : decode c_K_checkThing 52 = .ok (.aload_n 1, 1) := by decide +kernel
theorem d_K_checkThing_53 : decode c_K_checkThing 53 = .ok (.iload_n 2, 1) := by decide +kernel
theorem d_K_checkThing_54 : decode c_K_checkThing 54 = .ok (.invokevirtual 226, 3) := by decide +kernel
theorem d_K_checkThing_57 : decode c_K_checkThing 57 = .ok (.iload_n 3, 1) := by decide +kernel
theorem d_K_checkThing_58 : decode c_K_checkThing 58 = .ok (.aload_n 0, 1) := by decide +kernel
theorem d_K_checkThing_59 : decode c_K_checkThing 59 = .ok (.getfield 70, 3) := by decide +kernel
theorem d_K_checkThing_62 : decode c_K_checkThing 62 = .ok (.invokevirtual 239, 3) := by decide +kernel
theorem d_K_checkThing_65 : decode c_K_checkThing 65 = .ok (.iinc 2 1, 3) := by decide +kernel
theorem d_K_checkThing_68 : decode c_K_checkThing 68 = .ok (.goto (-61), 3) := by decide +kernel
theorem d_K_checkThing_71 : decode c_K_checkThing 71 = .ok (.return_, 1) := by decide +kernel
abbrev c_K_ruleCount : ByteArray := prog_1_method_21_code
abbrev r_K_ruleCount : Option FieldType := (some FieldType.int)
def y_K_ruleCount : MethodName := ⟨"PinKindChecks", "ruleCount", "()I"⟩
theorem d_K_ruleCount_0 : decode c_K_ruleCount 0 = .ok (.bipush 7, 2) := by decide +kernel
theorem d_K_ruleCount_2 : decode c_K_ruleCount 2 = .ok (.aload_n 0, 1) := by decide +kernel
theorem d_K_ruleCount_3 : decode c_K_ruleCount 3 = .ok (.getfield 66, 3) := by decide +kernel
theorem d_K_ruleCount_6 : decode c_K_ruleCount 6 = .ok (.iadd, 1) := by decide +kernel
theorem d_K_ruleCount_7 : decode c_K_ruleCount 7 = .ok (.ireturn, 1) := by decide +kernel
abbrev c_K_weightOf : ByteArray := prog_1_method_24_code
abbrev r_K_weightOf : Option FieldType := (some FieldType.int)
def y_K_weightOf : MethodName := ⟨"PinKindChecks", "weightOf", "(ILPinKindChecks$Thing;)I"⟩
theorem d_K_weightOf_0 : decode c_K_weightOf 0 = .ok (.iload_n 1, 1) := by decide +kernel
theorem d_K_weightOf_1 : decode c_K_weightOf 1 = .ok (.bipush 7, 2) := by decide +kernel
theorem d_K_weightOf_3 : decode c_K_weightOf 3 = .ok (.if_icmp .ge 13, 3) := by decide +kernel
theorem d_K_weightOf_6 : decode c_K_weightOf 6 = .ok (.aload_n 2, 1) := by decide +kernel
theorem d_K_weightOf_7 : decode c_K_weightOf 7 = .ok (.iload_n 1, 1) := by decide +kernel
theorem d_K_weightOf_8 : decode c_K_weightOf 8 = .ok (.aload_n 0, 1) := by decide +kernel
theorem d_K_weightOf_9 : decode c_K_weightOf 9 = .ok (.getfield 12, 3) := by decide +kernel
theorem d_K_weightOf_12 : decode c_K_weightOf 12 = .ok (.invokevirtual 243, 3) := by decide +kernel
theorem d_K_weightOf_15 : decode c_K_weightOf 15 = .ok (.ireturn, 1) := by decide +kernel
theorem d_K_weightOf_16 : decode c_K_weightOf 16 = .ok (.iload_n 1, 1) := by decide +kernel
theorem d_K_weightOf_17 : decode c_K_weightOf 17 = .ok (.bipush 7, 2) := by decide +kernel
theorem d_K_weightOf_19 : decode c_K_weightOf 19 = .ok (.isub, 1) := by decide +kernel
theorem d_K_weightOf_20 : decode c_K_weightOf 20 = .ok (.istore_n 3, 1) := by decide +kernel
theorem d_K_weightOf_21 : decode c_K_weightOf 21 = .ok (.iload_n 3, 1) := by decide +kernel
theorem d_K_weightOf_22 : decode c_K_weightOf 22 = .ok (.aload_n 0, 1) := by decide +kernel
theorem d_K_weightOf_23 : decode c_K_weightOf 23 = .ok (.getfield 34, 3) := by decide +kernel
theorem d_K_weightOf_26 : decode c_K_weightOf 26 = .ok (.arraylength, 1) := by decide +kernel
theorem d_K_weightOf_27 : decode c_K_weightOf 27 = .ok (.invokestatic 73, 3) := by decide +kernel
theorem d_K_weightOf_30 : decode c_K_weightOf 30 = .ok (.ifCond .eq 12, 3) := by decide +kernel
theorem d_K_weightOf_33 : decode c_K_weightOf 33 = .ok (.aload_n 0, 1) := by decide +kernel
theorem d_K_weightOf_34 : decode c_K_weightOf 34 = .ok (.getfield 34, 3) := by decide +kernel
theorem d_K_weightOf_37 : decode c_K_weightOf 37 = .ok (.iload_n 3, 1) := by decide +kernel
theorem d_K_weightOf_38 : decode c_K_weightOf 38 = .ok (.aaload, 1) := by decide +kernel
theorem d_K_weightOf_39 : decode c_K_weightOf 39 = .ok (.ifnonnull 5, 3) := by decide +kernel
theorem d_K_weightOf_42 : decode c_K_weightOf 42 = .ok (.iconst 0, 1) := by decide +kernel
theorem d_K_weightOf_43 : decode c_K_weightOf 43 = .ok (.ireturn, 1) := by decide +kernel
theorem d_K_weightOf_44 : decode c_K_weightOf 44 = .ok (.aload_n 0, 1) := by decide +kernel
theorem d_K_weightOf_45 : decode c_K_weightOf 45 = .ok (.getfield 34, 3) := by decide +kernel
theorem d_K_weightOf_48 : decode c_K_weightOf 48 = .ok (.iload_n 3, 1) := by decide +kernel
theorem d_K_weightOf_49 : decode c_K_weightOf 49 = .ok (.aaload, 1) := by decide +kernel
theorem d_K_weightOf_50 : decode c_K_weightOf 50 = .ok (.aload_n 2, 1) := by decide +kernel
theorem d_K_weightOf_51 : decode c_K_weightOf 51 = .ok (.aload_n 0, 1) := by decide +kernel
theorem d_K_weightOf_52 : decode c_K_weightOf 52 = .ok (.getfield 56, 3) := by decide +kernel
theorem d_K_weightOf_55 : decode c_K_weightOf 55 = .ok (.invokevirtual 247, 3) := by decide +kernel
theorem d_K_weightOf_58 : decode c_K_weightOf 58 = .ok (.ireturn, 1) := by decide +kernel
abbrev c_K_compareWithBefore : ByteArray := prog_1_method_25_code
abbrev r_K_compareWithBefore : Option FieldType := none
def y_K_compareWithBefore : MethodName := ⟨"PinKindChecks", "compareWithBefore", "()V"⟩
theorem d_K_compareWithBefore_0 : decode c_K_compareWithBefore 0 = .ok (.aload_n 0, 1) := by decide +kernel
theorem d_K_compareWithBefore_1 : decode c_K_compareWithBefore 1 = .ok (.getfield 52, 3) := by decide +kernel
theorem d_K_compareWithBefore_4 : decode c_K_compareWithBefore 4 = .ok (.invokevirtual 178, 3) := by decide +kernel
theorem d_K_compareWithBefore_7 : decode c_K_compareWithBefore 7 = .ok (.iconst 0, 1) := by decide +kernel
theorem d_K_compareWithBefore_8 : decode c_K_compareWithBefore 8 = .ok (.istore_n 1, 1) := by decide +kernel
theorem d_K_compareWithBefore_9 : decode c_K_compareWithBefore 9 = .ok (.iconst 0, 1) := by decide +kernel
theorem d_K_compareWithBefore_10 : decode c_K_compareWithBefore 10 = .ok (.istore_n 2, 1) := by decide +kernel
theorem d_K_compareWithBefore_11 : decode c_K_compareWithBefore 11 = .ok (.iload_n 2, 1) := by decide +kernel
theorem d_K_compareWithBefore_12 : decode c_K_compareWithBefore 12 = .ok (.aload_n 0, 1) := by decide +kernel
theorem d_K_compareWithBefore_13 : decode c_K_compareWithBefore 13 = .ok (.getfield 63, 3) := by decide +kernel
theorem d_K_compareWithBefore_16 : decode c_K_compareWithBefore 16 = .ok (.invokevirtual 196, 3) := by decide +kernel
theorem d_K_compareWithBefore_19 : decode c_K_compareWithBefore 19 = .ok (.if_icmp .ge 113, 3) := by decide +kernel
theorem d_K_compareWithBefore_22 : decode c_K_compareWithBefore 22 = .ok (.aload_n 0, 1) := by decide +kernel
theorem d_K_compareWithBefore_23 : decode c_K_compareWithBefore 23 = .ok (.getfield 63, 3) := by decide +kernel
theorem d_K_compareWithBefore_26 : decode c_K_compareWithBefore 26 = .ok (.iload_n 2, 1) := by decide +kernel
theorem d_K_compareWithBefore_27 : decode c_K_compareWithBefore 27 = .ok (.invokevirtual 207, 3) := by decide +kernel
theorem d_K_compareWithBefore_30 : decode c_K_compareWithBefore 30 = .ok (.istore_n 3, 1) := by decide +kernel
theorem d_K_compareWithBefore_31 : decode c_K_compareWithBefore 31 = .ok (.iload_n 1, 1) := by decide +kernel
theorem d_K_compareWithBefore_32 : decode c_K_compareWithBefore 32 = .ok (.aload_n 0, 1) := by decide +kernel
theorem d_K_compareWithBefore_33 : decode c_K_compareWithBefore 33 = .ok (.getfield 60, 3) := by decide +kernel
theorem d_K_compareWithBefore_36 : decode c_K_compareWithBefore 36 = .ok (.invokevirtual 196, 3) := by decide +kernel
theorem d_K_compareWithBefore_39 : decode c_K_compareWithBefore 39 = .ok (.if_icmp .ge 21, 3) := by decide +kernel
theorem d_K_compareWithBefore_42 : decode c_K_compareWithBefore 42 = .ok (.aload_n 0, 1) := by decide +kernel
theorem d_K_compareWithBefore_43 : decode c_K_compareWithBefore 43 = .ok (.getfield 60, 3) := by decide +kernel
theorem d_K_compareWithBefore_46 : decode c_K_compareWithBefore 46 = .ok (.iload_n 1, 1) := by decide +kernel
theorem d_K_compareWithBefore_47 : decode c_K_compareWithBefore 47 = .ok (.invokevirtual 207, 3) := by decide +kernel
theorem d_K_compareWithBefore_50 : decode c_K_compareWithBefore 50 = .ok (.iload_n 3, 1) := by decide +kernel
theorem d_K_compareWithBefore_51 : decode c_K_compareWithBefore 51 = .ok (.if_icmp .ge 9, 3) := by decide +kernel
theorem d_K_compareWithBefore_54 : decode c_K_compareWithBefore 54 = .ok (.iinc 1 1, 3) := by decide +kernel
theorem d_K_compareWithBefore_57 : decode c_K_compareWithBefore 57 = .ok (.goto (-26), 3) := by decide +kernel
theorem d_K_compareWithBefore_60 : decode c_K_compareWithBefore 60 = .ok (.iload_n 1, 1) := by decide +kernel
theorem d_K_compareWithBefore_61 : decode c_K_compareWithBefore 61 = .ok (.aload_n 0, 1) := by decide +kernel
theorem d_K_compareWithBefore_62 : decode c_K_compareWithBefore 62 = .ok (.getfield 60, 3) := by decide +kernel
theorem d_K_compareWithBefore_65 : decode c_K_compareWithBefore 65 = .ok (.invokevirtual 196, 3) := by decide +kernel
theorem d_K_compareWithBefore_68 : decode c_K_compareWithBefore 68 = .ok (.if_icmp .ge 34, 3) := by decide +kernel
theorem d_K_compareWithBefore_71 : decode c_K_compareWithBefore 71 = .ok (.aload_n 0, 1) := by decide +kernel
theorem d_K_compareWithBefore_72 : decode c_K_compareWithBefore 72 = .ok (.getfield 60, 3) := by decide +kernel
theorem d_K_compareWithBefore_75 : decode c_K_compareWithBefore 75 = .ok (.iload_n 1, 1) := by decide +kernel
theorem d_K_compareWithBefore_76 : decode c_K_compareWithBefore 76 = .ok (.invokevirtual 207, 3) := by decide +kernel
theorem d_K_compareWithBefore_79 : decode c_K_compareWithBefore 79 = .ok (.iload_n 3, 1) := by decide +kernel
theorem d_K_compareWithBefore_80 : decode c_K_compareWithBefore 80 = .ok (.if_icmp .ne 22, 3) := by decide +kernel
theorem d_K_compareWithBefore_83 : decode c_K_compareWithBefore 83 = .ok (.aload_n 0, 1) := by decide +kernel
theorem d_K_compareWithBefore_84 : decode c_K_compareWithBefore 84 = .ok (.getfield 60, 3) := by decide +kernel
theorem d_K_compareWithBefore_87 : decode c_K_compareWithBefore 87 = .ok (.iload_n 1, 1) := by decide +kernel
theorem d_K_compareWithBefore_88 : decode c_K_compareWithBefore 88 = .ok (.aload_n 0, 1) := by decide +kernel
theorem d_K_compareWithBefore_89 : decode c_K_compareWithBefore 89 = .ok (.getfield 63, 3) := by decide +kernel
theorem d_K_compareWithBefore_92 : decode c_K_compareWithBefore 92 = .ok (.iload_n 2, 1) := by decide +kernel
theorem d_K_compareWithBefore_93 : decode c_K_compareWithBefore 93 = .ok (.invokevirtual 204, 3) := by decide +kernel
theorem d_K_compareWithBefore_96 : decode c_K_compareWithBefore 96 = .ok (.invokevirtual 251, 3) := by decide +kernel
theorem d_K_compareWithBefore_99 : decode c_K_compareWithBefore 99 = .ok (.goto 27, 3) := by decide +kernel
theorem d_K_compareWithBefore_102 : decode c_K_compareWithBefore 102 = .ok (.aload_n 0, 1) := by decide +kernel
theorem d_K_compareWithBefore_103 : decode c_K_compareWithBefore 103 = .ok (.getfield 52, 3) := by decide +kernel
theorem d_K_compareWithBefore_106 : decode c_K_compareWithBefore 106 = .ok (.iload_n 3, 1) := by decide +kernel
theorem d_K_compareWithBefore_107 : decode c_K_compareWithBefore 107 = .ok (.aload_n 0, 1) := by decide +kernel
theorem d_K_compareWithBefore_108 : decode c_K_compareWithBefore 108 = .ok (.getfield 63, 3) := by decide +kernel
theorem d_K_compareWithBefore_111 : decode c_K_compareWithBefore 111 = .ok (.iload_n 2, 1) := by decide +kernel
theorem d_K_compareWithBefore_112 : decode c_K_compareWithBefore 112 = .ok (.invokevirtual 201, 3) := by decide +kernel
theorem d_K_compareWithBefore_115 : decode c_K_compareWithBefore 115 = .ok (.aload_n 0, 1) := by decide +kernel
theorem d_K_compareWithBefore_116 : decode c_K_compareWithBefore 116 = .ok (.getfield 63, 3) := by decide +kernel
theorem d_K_compareWithBefore_119 : decode c_K_compareWithBefore 119 = .ok (.iload_n 2, 1) := by decide +kernel
theorem d_K_compareWithBefore_120 : decode c_K_compareWithBefore 120 = .ok (.invokevirtual 204, 3) := by decide +kernel
theorem d_K_compareWithBefore_123 : decode c_K_compareWithBefore 123 = .ok (.invokevirtual 239, 3) := by decide +kernel
theorem d_K_compareWithBefore_126 : decode c_K_compareWithBefore 126 = .ok (.iinc 2 1, 3) := by decide +kernel
theorem d_K_compareWithBefore_129 : decode c_K_compareWithBefore 129 = .ok (.goto (-118), 3) := by decide +kernel
theorem d_K_compareWithBefore_132 : decode c_K_compareWithBefore 132 = .ok (.return_, 1) := by decide +kernel
abbrev c_K_countOpen : ByteArray := prog_1_method_26_code
abbrev r_K_countOpen : Option FieldType := (some FieldType.int)
def y_K_countOpen : MethodName := ⟨"PinKindChecks", "countOpen", "()I"⟩
theorem d_K_countOpen_0 : decode c_K_countOpen 0 = .ok (.iconst 0, 1) := by decide +kernel
theorem d_K_countOpen_1 : decode c_K_countOpen 1 = .ok (.istore_n 1, 1) := by decide +kernel
theorem d_K_countOpen_2 : decode c_K_countOpen 2 = .ok (.iconst 0, 1) := by decide +kernel
theorem d_K_countOpen_3 : decode c_K_countOpen 3 = .ok (.istore_n 2, 1) := by decide +kernel
theorem d_K_countOpen_4 : decode c_K_countOpen 4 = .ok (.iload_n 2, 1) := by decide +kernel
theorem d_K_countOpen_5 : decode c_K_countOpen 5 = .ok (.aload_n 0, 1) := by decide +kernel
theorem d_K_countOpen_6 : decode c_K_countOpen 6 = .ok (.getfield 60, 3) := by decide +kernel
theorem d_K_countOpen_9 : decode c_K_countOpen 9 = .ok (.invokevirtual 196, 3) := by decide +kernel
theorem d_K_countOpen_12 : decode c_K_countOpen 12 = .ok (.if_icmp .ge 31, 3) := by decide +kernel
theorem d_K_countOpen_15 : decode c_K_countOpen 15 = .ok (.aload_n 0, 1) := by decide +kernel
theorem d_K_countOpen_16 : decode c_K_countOpen 16 = .ok (.getfield 45, 3) := by decide +kernel
theorem d_K_countOpen_19 : decode c_K_countOpen 19 = .ok (.aload_n 0, 1) := by decide +kernel
theorem d_K_countOpen_20 : decode c_K_countOpen 20 = .ok (.getfield 60, 3) := by decide +kernel
theorem d_K_countOpen_23 : decode c_K_countOpen 23 = .ok (.iload_n 2, 1) := by decide +kernel
theorem d_K_countOpen_24 : decode c_K_countOpen 24 = .ok (.invokevirtual 207, 3) := by decide +kernel
theorem d_K_countOpen_27 : decode c_K_countOpen 27 = .ok (.invokevirtual 210, 3) := by decide +kernel
theorem d_K_countOpen_30 : decode c_K_countOpen 30 = .ok (.iconst (-1), 1) := by decide +kernel
theorem d_K_countOpen_31 : decode c_K_countOpen 31 = .ok (.if_icmp .ne 6, 3) := by decide +kernel
theorem d_K_countOpen_34 : decode c_K_countOpen 34 = .ok (.iinc 1 1, 3) := by decide +kernel
theorem d_K_countOpen_37 : decode c_K_countOpen 37 = .ok (.iinc 2 1, 3) := by decide +kernel
theorem d_K_countOpen_40 : decode c_K_countOpen 40 = .ok (.goto (-36), 3) := by decide +kernel
theorem d_K_countOpen_43 : decode c_K_countOpen 43 = .ok (.iload_n 1, 1) := by decide +kernel
theorem d_K_countOpen_44 : decode c_K_countOpen 44 = .ok (.ireturn, 1) := by decide +kernel
abbrev c_K_next : ByteArray := prog_1_method_16_code
abbrev r_K_next : Option FieldType := (some FieldType.int)
def y_K_next : MethodName := ⟨"PinKindChecks", "next", "()I"⟩
theorem d_K_next_0 : decode c_K_next 0 = .ok (.aload_n 0, 1) := by decide +kernel
theorem d_K_next_1 : decode c_K_next 1 = .ok (.dup, 1) := by decide +kernel
theorem d_K_next_2 : decode c_K_next 2 = .ok (.getfield 70, 3) := by decide +kernel
theorem d_K_next_5 : decode c_K_next 5 = .ok (.iconst 1, 1) := by decide +kernel
theorem d_K_next_6 : decode c_K_next 6 = .ok (.iadd, 1) := by decide +kernel
theorem d_K_next_7 : decode c_K_next 7 = .ok (.putfield 70, 3) := by decide +kernel
theorem d_K_next_10 : decode c_K_next 10 = .ok (.aload_n 0, 1) := by decide +kernel
theorem d_K_next_11 : decode c_K_next 11 = .ok (.getfield 70, 3) := by decide +kernel
theorem d_K_next_14 : decode c_K_next 14 = .ok (.ireturn, 1) := by decide +kernel
abbrev c_K_offRule : ByteArray := prog_1_method_17_code
abbrev r_K_offRule : Option FieldType := (some FieldType.int)
def y_K_offRule : MethodName := ⟨"PinKindChecks", "offRule", "(I)I"⟩
theorem d_K_offRule_0 : decode c_K_offRule 0 = .ok (.iconst 0, 1) := by decide +kernel
theorem d_K_offRule_1 : decode c_K_offRule 1 = .ok (.istore_n 2, 1) := by decide +kernel
theorem d_K_offRule_2 : decode c_K_offRule 2 = .ok (.iconst 0, 1) := by decide +kernel
theorem d_K_offRule_3 : decode c_K_offRule 3 = .ok (.istore_n 3, 1) := by decide +kernel
theorem d_K_offRule_4 : decode c_K_offRule 4 = .ok (.iload_n 3, 1) := by decide +kernel
theorem d_K_offRule_5 : decode c_K_offRule 5 = .ok (.aload_n 0, 1) := by decide +kernel
theorem d_K_offRule_6 : decode c_K_offRule 6 = .ok (.getfield 38, 3) := by decide +kernel
theorem d_K_offRule_9 : decode c_K_offRule 9 = .ok (.arraylength, 1) := by decide +kernel
theorem d_K_offRule_10 : decode c_K_offRule 10 = .ok (.if_icmp .ge 28, 3) := by decide +kernel
theorem d_K_offRule_13 : decode c_K_offRule 13 = .ok (.aload_n 0, 1) := by decide +kernel
theorem d_K_offRule_14 : decode c_K_offRule 14 = .ok (.getfield 38, 3) := by decide +kernel
theorem d_K_offRule_17 : decode c_K_offRule 17 = .ok (.iload_n 3, 1) := by decide +kernel
theorem d_K_offRule_18 : decode c_K_offRule 18 = .ok (.baload, 1) := by decide +kernel
theorem d_K_offRule_19 : decode c_K_offRule 19 = .ok (.ifCond .eq 13, 3) := by decide +kernel
theorem d_K_offRule_22 : decode c_K_offRule 22 = .ok (.iload_n 2, 1) := by decide +kernel
theorem d_K_offRule_23 : decode c_K_offRule 23 = .ok (.iload_n 1, 1) := by decide +kernel
theorem d_K_offRule_24 : decode c_K_offRule 24 = .ok (.if_icmp .ne 5, 3) := by decide +kernel
theorem d_K_offRule_27 : decode c_K_offRule 27 = .ok (.iload_n 3, 1) := by decide +kernel
theorem d_K_offRule_28 : decode c_K_offRule 28 = .ok (.ireturn, 1) := by decide +kernel
theorem d_K_offRule_29 : decode c_K_offRule 29 = .ok (.iinc 2 1, 3) := by decide +kernel
theorem d_K_offRule_32 : decode c_K_offRule 32 = .ok (.iinc 3 1, 3) := by decide +kernel
theorem d_K_offRule_35 : decode c_K_offRule 35 = .ok (.goto (-31), 3) := by decide +kernel
theorem d_K_offRule_38 : decode c_K_offRule 38 = .ok (.iconst (-1), 1) := by decide +kernel
theorem d_K_offRule_39 : decode c_K_offRule 39 = .ok (.ireturn, 1) := by decide +kernel
abbrev c_K_clear : ByteArray := prog_1_method_18_code
abbrev r_K_clear : Option FieldType := none
def y_K_clear : MethodName := ⟨"PinKindChecks", "clear", "()V"⟩
theorem d_K_clear_0 : decode c_K_clear 0 = .ok (.aload_n 0, 1) := by decide +kernel
theorem d_K_clear_1 : decode c_K_clear 1 = .ok (.getfield 12, 3) := by decide +kernel
theorem d_K_clear_4 : decode c_K_clear 4 = .ok (.invokevirtual 234, 3) := by decide +kernel
theorem d_K_clear_7 : decode c_K_clear 7 = .ok (.aload_n 0, 1) := by decide +kernel
theorem d_K_clear_8 : decode c_K_clear 8 = .ok (.getfield 19, 3) := by decide +kernel
theorem d_K_clear_11 : decode c_K_clear 11 = .ok (.invokevirtual 163, 3) := by decide +kernel
theorem d_K_clear_14 : decode c_K_clear 14 = .ok (.aload_n 0, 1) := by decide +kernel
theorem d_K_clear_15 : decode c_K_clear 15 = .ok (.getfield 45, 3) := by decide +kernel
theorem d_K_clear_18 : decode c_K_clear 18 = .ok (.invokevirtual 235, 3) := by decide +kernel
theorem d_K_clear_21 : decode c_K_clear 21 = .ok (.aload_n 0, 1) := by decide +kernel
theorem d_K_clear_22 : decode c_K_clear 22 = .ok (.getfield 60, 3) := by decide +kernel
theorem d_K_clear_25 : decode c_K_clear 25 = .ok (.invokevirtual 178, 3) := by decide +kernel
theorem d_K_clear_28 : decode c_K_clear 28 = .ok (.aload_n 0, 1) := by decide +kernel
theorem d_K_clear_29 : decode c_K_clear 29 = .ok (.getfield 63, 3) := by decide +kernel
theorem d_K_clear_32 : decode c_K_clear 32 = .ok (.invokevirtual 178, 3) := by decide +kernel
theorem d_K_clear_35 : decode c_K_clear 35 = .ok (.aload_n 0, 1) := by decide +kernel
theorem d_K_clear_36 : decode c_K_clear 36 = .ok (.getfield 52, 3) := by decide +kernel
theorem d_K_clear_39 : decode c_K_clear 39 = .ok (.invokevirtual 178, 3) := by decide +kernel
theorem d_K_clear_42 : decode c_K_clear 42 = .ok (.iconst 0, 1) := by decide +kernel
theorem d_K_clear_43 : decode c_K_clear 43 = .ok (.istore_n 1, 1) := by decide +kernel
theorem d_K_clear_44 : decode c_K_clear 44 = .ok (.iload_n 1, 1) := by decide +kernel
theorem d_K_clear_45 : decode c_K_clear 45 = .ok (.aload_n 0, 1) := by decide +kernel
theorem d_K_clear_46 : decode c_K_clear 46 = .ok (.getfield 38, 3) := by decide +kernel
theorem d_K_clear_49 : decode c_K_clear 49 = .ok (.arraylength, 1) := by decide +kernel
theorem d_K_clear_50 : decode c_K_clear 50 = .ok (.if_icmp .ge 16, 3) := by decide +kernel
theorem d_K_clear_53 : decode c_K_clear 53 = .ok (.aload_n 0, 1) := by decide +kernel
theorem d_K_clear_54 : decode c_K_clear 54 = .ok (.getfield 38, 3) := by decide +kernel
theorem d_K_clear_57 : decode c_K_clear 57 = .ok (.iload_n 1, 1) := by decide +kernel
theorem d_K_clear_58 : decode c_K_clear 58 = .ok (.iconst 0, 1) := by decide +kernel
theorem d_K_clear_59 : decode c_K_clear 59 = .ok (.bastore, 1) := by decide +kernel
theorem d_K_clear_60 : decode c_K_clear 60 = .ok (.iinc 1 1, 3) := by decide +kernel
theorem d_K_clear_63 : decode c_K_clear 63 = .ok (.goto (-19), 3) := by decide +kernel
theorem d_K_clear_66 : decode c_K_clear 66 = .ok (.aload_n 0, 1) := by decide +kernel
theorem d_K_clear_67 : decode c_K_clear 67 = .ok (.iconst 0, 1) := by decide +kernel
theorem d_K_clear_68 : decode c_K_clear 68 = .ok (.putfield 66, 3) := by decide +kernel
theorem d_K_clear_71 : decode c_K_clear 71 = .ok (.aload_n 0, 1) := by decide +kernel
theorem d_K_clear_72 : decode c_K_clear 72 = .ok (.iconst 1, 1) := by decide +kernel
theorem d_K_clear_73 : decode c_K_clear 73 = .ok (.putfield 70, 3) := by decide +kernel
theorem d_K_clear_76 : decode c_K_clear 76 = .ok (.return_, 1) := by decide +kernel
abbrev c_K_table : ByteArray := prog_1_method_2_code
abbrev r_K_table : Option FieldType := (some FieldType.boolean)
def y_K_table : MethodName := ⟨"PinKindChecks", "table", "(III)Z"⟩
theorem d_K_table_0 : decode c_K_table 0 = .ok (.iload_n 1, 1) := by decide +kernel
theorem d_K_table_1 : decode c_K_table 1 = .ok (.bipush 10, 2) := by decide +kernel
theorem d_K_table_3 : decode c_K_table 3 = .ok (.invokestatic 73, 3) := by decide +kernel
theorem d_K_table_6 : decode c_K_table 6 = .ok (.ifCond .eq 12, 3) := by decide +kernel
theorem d_K_table_9 : decode c_K_table 9 = .ok (.iload_n 2, 1) := by decide +kernel
theorem d_K_table_10 : decode c_K_table 10 = .ok (.bipush 10, 2) := by decide +kernel
theorem d_K_table_12 : decode c_K_table 12 = .ok (.invokestatic 73, 3) := by decide +kernel
theorem d_K_table_15 : decode c_K_table 15 = .ok (.ifCond .ne 13, 3) := by decide +kernel
theorem d_K_table_18 : decode c_K_table 18 = .ok (.new 77, 3) := by decide +kernel
theorem d_K_table_21 : decode c_K_table 21 = .ok (.dup, 1) := by decide +kernel
theorem d_K_table_22 : decode c_K_table 22 = .ok (.ldc 79, 2) := by decide +kernel
theorem d_K_table_24 : decode c_K_table 24 = .ok (.invokespecial 81, 3) := by decide +kernel
theorem d_K_table_27 : decode c_K_table 27 = .ok (.athrow, 1) := by decide +kernel
theorem d_K_table_28 : decode c_K_table 28 = .ok (.iload_n 3, 1) := by decide +kernel
theorem d_K_table_29 : decode c_K_table 29 = .ok (.iconst 3, 1) := by decide +kernel
theorem d_K_table_30 : decode c_K_table 30 = .ok (.invokestatic 73, 3) := by decide +kernel
theorem d_K_table_33 : decode c_K_table 33 = .ok (.ifCond .ne 13, 3) := by decide +kernel
theorem d_K_table_36 : decode c_K_table 36 = .ok (.new 84, 3) := by decide +kernel
theorem d_K_table_39 : decode c_K_table 39 = .ok (.dup, 1) := by decide +kernel
theorem d_K_table_40 : decode c_K_table 40 = .ok (.ldc 86, 2) := by decide +kernel
theorem d_K_table_42 : decode c_K_table 42 = .ok (.invokespecial 88, 3) := by decide +kernel
theorem d_K_table_45 : decode c_K_table 45 = .ok (.athrow, 1) := by decide +kernel
theorem d_K_table_46 : decode c_K_table 46 = .ok (.aload_n 0, 1) := by decide +kernel
theorem d_K_table_47 : decode c_K_table 47 = .ok (.getfield 12, 3) := by decide +kernel
theorem d_K_table_50 : decode c_K_table 50 = .ok (.iload_n 1, 1) := by decide +kernel
theorem d_K_table_51 : decode c_K_table 51 = .ok (.iload_n 2, 1) := by decide +kernel
theorem d_K_table_52 : decode c_K_table 52 = .ok (.iload_n 3, 1) := by decide +kernel
theorem d_K_table_53 : decode c_K_table 53 = .ok (.invokevirtual 89, 3) := by decide +kernel
theorem d_K_table_56 : decode c_K_table 56 = .ok (.ireturn, 1) := by decide +kernel
abbrev c_K_part : ByteArray := prog_1_method_3_code
abbrev r_K_part : Option FieldType := (some FieldType.int)
def y_K_part : MethodName := ⟨"PinKindChecks", "part", "(I)I"⟩
theorem d_K_part_0 : decode c_K_part 0 = .ok (.iload_n 1, 1) := by decide +kernel
theorem d_K_part_1 : decode c_K_part 1 = .ok (.bipush 16, 2) := by decide +kernel
theorem d_K_part_3 : decode c_K_part 3 = .ok (.invokestatic 73, 3) := by decide +kernel
theorem d_K_part_6 : decode c_K_part 6 = .ok (.ifCond .ne 13, 3) := by decide +kernel
theorem d_K_part_9 : decode c_K_part 9 = .ok (.new 77, 3) := by decide +kernel
theorem d_K_part_12 : decode c_K_part 12 = .ok (.dup, 1) := by decide +kernel
theorem d_K_part_13 : decode c_K_part 13 = .ok (.ldc 93, 2) := by decide +kernel
theorem d_K_part_15 : decode c_K_part 15 = .ok (.invokespecial 81, 3) := by decide +kernel
theorem d_K_part_18 : decode c_K_part 18 = .ok (.athrow, 1) := by decide +kernel
theorem d_K_part_19 : decode c_K_part 19 = .ok (.aload_n 0, 1) := by decide +kernel
theorem d_K_part_20 : decode c_K_part 20 = .ok (.getfield 12, 3) := by decide +kernel
theorem d_K_part_23 : decode c_K_part 23 = .ok (.iload_n 1, 1) := by decide +kernel
theorem d_K_part_24 : decode c_K_part 24 = .ok (.invokevirtual 95, 3) := by decide +kernel
theorem d_K_part_27 : decode c_K_part 27 = .ok (.ireturn, 1) := by decide +kernel
abbrev c_K_net : ByteArray := prog_1_method_4_code
abbrev r_K_net : Option FieldType := (some FieldType.int)
def y_K_net : MethodName := ⟨"PinKindChecks", "net", "(II)I"⟩
theorem d_K_net_0 : decode c_K_net 0 = .ok (.iload_n 1, 1) := by decide +kernel
theorem d_K_net_1 : decode c_K_net 1 = .ok (.bipush 16, 2) := by decide +kernel
theorem d_K_net_3 : decode c_K_net 3 = .ok (.invokestatic 73, 3) := by decide +kernel
theorem d_K_net_6 : decode c_K_net 6 = .ok (.ifCond .ne 13, 3) := by decide +kernel
theorem d_K_net_9 : decode c_K_net 9 = .ok (.new 77, 3) := by decide +kernel
theorem d_K_net_12 : decode c_K_net 12 = .ok (.dup, 1) := by decide +kernel
theorem d_K_net_13 : decode c_K_net 13 = .ok (.ldc 93, 2) := by decide +kernel
theorem d_K_net_15 : decode c_K_net 15 = .ok (.invokespecial 81, 3) := by decide +kernel
theorem d_K_net_18 : decode c_K_net 18 = .ok (.athrow, 1) := by decide +kernel
theorem d_K_net_19 : decode c_K_net 19 = .ok (.iload_n 2, 1) := by decide +kernel
theorem d_K_net_20 : decode c_K_net 20 = .ok (.sipush 1000, 3) := by decide +kernel
theorem d_K_net_23 : decode c_K_net 23 = .ok (.invokestatic 73, 3) := by decide +kernel
theorem d_K_net_26 : decode c_K_net 26 = .ok (.ifCond .ne 13, 3) := by decide +kernel
theorem d_K_net_29 : decode c_K_net 29 = .ok (.new 84, 3) := by decide +kernel
theorem d_K_net_32 : decode c_K_net 32 = .ok (.dup, 1) := by decide +kernel
theorem d_K_net_33 : decode c_K_net 33 = .ok (.ldc 99, 2) := by decide +kernel
theorem d_K_net_35 : decode c_K_net 35 = .ok (.invokespecial 88, 3) := by decide +kernel
theorem d_K_net_38 : decode c_K_net 38 = .ok (.athrow, 1) := by decide +kernel
theorem d_K_net_39 : decode c_K_net 39 = .ok (.aload_n 0, 1) := by decide +kernel
theorem d_K_net_40 : decode c_K_net 40 = .ok (.getfield 12, 3) := by decide +kernel
theorem d_K_net_43 : decode c_K_net 43 = .ok (.iload_n 1, 1) := by decide +kernel
theorem d_K_net_44 : decode c_K_net 44 = .ok (.iload_n 2, 1) := by decide +kernel
theorem d_K_net_45 : decode c_K_net 45 = .ok (.invokevirtual 101, 3) := by decide +kernel
theorem d_K_net_48 : decode c_K_net 48 = .ok (.ireturn, 1) := by decide +kernel
abbrev c_K_pin : ByteArray := prog_1_method_5_code
abbrev r_K_pin : Option FieldType := (some FieldType.int)
def y_K_pin : MethodName := ⟨"PinKindChecks", "pin", "(III)I"⟩
theorem d_K_pin_0 : decode c_K_pin 0 = .ok (.aload_n 0, 1) := by decide +kernel
theorem d_K_pin_1 : decode c_K_pin 1 = .ok (.getfield 12, 3) := by decide +kernel
theorem d_K_pin_4 : decode c_K_pin 4 = .ok (.iload_n 1, 1) := by decide +kernel
theorem d_K_pin_5 : decode c_K_pin 5 = .ok (.invokevirtual 105, 3) := by decide +kernel
theorem d_K_pin_8 : decode c_K_pin 8 = .ok (.astore 4, 2) := by decide +kernel
theorem d_K_pin_10 : decode c_K_pin 10 = .ok (.aload 4, 2) := by decide +kernel
theorem d_K_pin_12 : decode c_K_pin 12 = .ok (.ifnull 11, 3) := by decide +kernel
theorem d_K_pin_15 : decode c_K_pin 15 = .ok (.aload_n 0, 1) := by decide +kernel
theorem d_K_pin_16 : decode c_K_pin 16 = .ok (.iload_n 2, 1) := by decide +kernel
theorem d_K_pin_17 : decode c_K_pin 17 = .ok (.invokevirtual 109, 3) := by decide +kernel
theorem d_K_pin_20 : decode c_K_pin 20 = .ok (.ifCond .ne 13, 3) := by decide +kernel
theorem d_K_pin_23 : decode c_K_pin 23 = .ok (.new 77, 3) := by decide +kernel
theorem d_K_pin_26 : decode c_K_pin 26 = .ok (.dup, 1) := by decide +kernel
theorem d_K_pin_27 : decode c_K_pin 27 = .ok (.ldc 113, 2) := by decide +kernel
theorem d_K_pin_29 : decode c_K_pin 29 = .ok (.invokespecial 81, 3) := by decide +kernel
theorem d_K_pin_32 : decode c_K_pin 32 = .ok (.athrow, 1) := by decide +kernel
theorem d_K_pin_33 : decode c_K_pin 33 = .ok (.iload_n 3, 1) := by decide +kernel
theorem d_K_pin_34 : decode c_K_pin 34 = .ok (.bipush 10, 2) := by decide +kernel
theorem d_K_pin_36 : decode c_K_pin 36 = .ok (.invokestatic 73, 3) := by decide +kernel
theorem d_K_pin_39 : decode c_K_pin 39 = .ok (.ifCond .ne 13, 3) := by decide +kernel
theorem d_K_pin_42 : decode c_K_pin 42 = .ok (.new 84, 3) := by decide +kernel
theorem d_K_pin_45 : decode c_K_pin 45 = .ok (.dup, 1) := by decide +kernel
theorem d_K_pin_46 : decode c_K_pin 46 = .ok (.ldc 115, 2) := by decide +kernel
theorem d_K_pin_48 : decode c_K_pin 48 = .ok (.invokespecial 88, 3) := by decide +kernel
theorem d_K_pin_51 : decode c_K_pin 51 = .ok (.athrow, 1) := by decide +kernel
theorem d_K_pin_52 : decode c_K_pin 52 = .ok (.aload_n 0, 1) := by decide +kernel
theorem d_K_pin_53 : decode c_K_pin 53 = .ok (.getfield 12, 3) := by decide +kernel
theorem d_K_pin_56 : decode c_K_pin 56 = .ok (.aload 4, 2) := by decide +kernel
theorem d_K_pin_58 : decode c_K_pin 58 = .ok (.aload_n 0, 1) := by decide +kernel
theorem d_K_pin_59 : decode c_K_pin 59 = .ok (.getfield 12, 3) := by decide +kernel
theorem d_K_pin_62 : decode c_K_pin 62 = .ok (.iload_n 2, 1) := by decide +kernel
theorem d_K_pin_63 : decode c_K_pin 63 = .ok (.invokevirtual 117, 3) := by decide +kernel
theorem d_K_pin_66 : decode c_K_pin 66 = .ok (.iload_n 3, 1) := by decide +kernel
theorem d_K_pin_67 : decode c_K_pin 67 = .ok (.invokevirtual 121, 3) := by decide +kernel
theorem d_K_pin_70 : decode c_K_pin 70 = .ok (.ireturn, 1) := by decide +kernel
abbrev c_K_isNetOrNone : ByteArray := prog_1_method_20_code
abbrev r_K_isNetOrNone : Option FieldType := (some FieldType.boolean)
def y_K_isNetOrNone : MethodName := ⟨"PinKindChecks", "isNetOrNone", "(I)Z"⟩
theorem d_K_isNetOrNone_0 : decode c_K_isNetOrNone 0 = .ok (.iload_n 1, 1) := by decide +kernel
theorem d_K_isNetOrNone_1 : decode c_K_isNetOrNone 1 = .ok (.iconst (-1), 1) := by decide +kernel
theorem d_K_isNetOrNone_2 : decode c_K_isNetOrNone 2 = .ok (.if_icmp .eq 14, 3) := by decide +kernel
theorem d_K_isNetOrNone_5 : decode c_K_isNetOrNone 5 = .ok (.aload_n 0, 1) := by decide +kernel
theorem d_K_isNetOrNone_6 : decode c_K_isNetOrNone 6 = .ok (.getfield 12, 3) := by decide +kernel
theorem d_K_isNetOrNone_9 : decode c_K_isNetOrNone 9 = .ok (.iload_n 1, 1) := by decide +kernel
theorem d_K_isNetOrNone_10 : decode c_K_isNetOrNone 10 = .ok (.invokevirtual 117, 3) := by decide +kernel
theorem d_K_isNetOrNone_13 : decode c_K_isNetOrNone 13 = .ok (.ifnull 7, 3) := by decide +kernel
theorem d_K_isNetOrNone_16 : decode c_K_isNetOrNone 16 = .ok (.iconst 1, 1) := by decide +kernel
theorem d_K_isNetOrNone_17 : decode c_K_isNetOrNone 17 = .ok (.goto 4, 3) := by decide +kernel
theorem d_K_isNetOrNone_20 : decode c_K_isNetOrNone 20 = .ok (.iconst 0, 1) := by decide +kernel
theorem d_K_isNetOrNone_21 : decode c_K_isNetOrNone 21 = .ok (.ireturn, 1) := by decide +kernel
abbrev c_K_join : ByteArray := prog_1_method_6_code
abbrev r_K_join : Option FieldType := (some FieldType.boolean)
def y_K_join : MethodName := ⟨"PinKindChecks", "join", "(II)Z"⟩
theorem d_K_join_0 : decode c_K_join 0 = .ok (.aload_n 0, 1) := by decide +kernel
theorem d_K_join_1 : decode c_K_join 1 = .ok (.getfield 12, 3) := by decide +kernel
theorem d_K_join_4 : decode c_K_join 4 = .ok (.iload_n 1, 1) := by decide +kernel
theorem d_K_join_5 : decode c_K_join 5 = .ok (.invokevirtual 125, 3) := by decide +kernel
theorem d_K_join_8 : decode c_K_join 8 = .ok (.astore_n 3, 1) := by decide +kernel
theorem d_K_join_9 : decode c_K_join 9 = .ok (.aload_n 3, 1) := by decide +kernel
theorem d_K_join_10 : decode c_K_join 10 = .ok (.ifnull 11, 3) := by decide +kernel
theorem d_K_join_13 : decode c_K_join 13 = .ok (.aload_n 0, 1) := by decide +kernel
theorem d_K_join_14 : decode c_K_join 14 = .ok (.iload_n 2, 1) := by decide +kernel
theorem d_K_join_15 : decode c_K_join 15 = .ok (.invokevirtual 109, 3) := by decide +kernel
theorem d_K_join_18 : decode c_K_join 18 = .ok (.ifCond .ne 13, 3) := by decide +kernel
theorem d_K_join_21 : decode c_K_join 21 = .ok (.new 77, 3) := by decide +kernel
theorem d_K_join_24 : decode c_K_join 24 = .ok (.dup, 1) := by decide +kernel
theorem d_K_join_25 : decode c_K_join 25 = .ok (.ldc 129, 2) := by decide +kernel
theorem d_K_join_27 : decode c_K_join 27 = .ok (.invokespecial 81, 3) := by decide +kernel
theorem d_K_join_30 : decode c_K_join 30 = .ok (.athrow, 1) := by decide +kernel
theorem d_K_join_31 : decode c_K_join 31 = .ok (.aload_n 3, 1) := by decide +kernel
theorem d_K_join_32 : decode c_K_join 32 = .ok (.aload_n 0, 1) := by decide +kernel
theorem d_K_join_33 : decode c_K_join 33 = .ok (.getfield 12, 3) := by decide +kernel
theorem d_K_join_36 : decode c_K_join 36 = .ok (.iload_n 2, 1) := by decide +kernel
theorem d_K_join_37 : decode c_K_join 37 = .ok (.invokevirtual 117, 3) := by decide +kernel
theorem d_K_join_40 : decode c_K_join 40 = .ok (.invokevirtual 131, 3) := by decide +kernel
theorem d_K_join_43 : decode c_K_join 43 = .ok (.ireturn, 1) := by decide +kernel
abbrev c_K_field : ByteArray := prog_1_method_7_code
abbrev r_K_field : Option FieldType := (some FieldType.boolean)
def y_K_field : MethodName := ⟨"PinKindChecks", "field", "(IIJ)Z"⟩
theorem d_K_field_0 : decode c_K_field 0 = .ok (.aload_n 0, 1) := by decide +kernel
theorem d_K_field_1 : decode c_K_field 1 = .ok (.getfield 12, 3) := by decide +kernel
theorem d_K_field_4 : decode c_K_field 4 = .ok (.iload_n 1, 1) := by decide +kernel
theorem d_K_field_5 : decode c_K_field 5 = .ok (.invokevirtual 105, 3) := by decide +kernel
theorem d_K_field_8 : decode c_K_field 8 = .ok (.astore 5, 2) := by decide +kernel
theorem d_K_field_10 : decode c_K_field 10 = .ok (.aload 5, 2) := by decide +kernel
theorem d_K_field_12 : decode c_K_field 12 = .ok (.ifnull 12, 3) := by decide +kernel
theorem d_K_field_15 : decode c_K_field 15 = .ok (.iload_n 2, 1) := by decide +kernel
theorem d_K_field_16 : decode c_K_field 16 = .ok (.bipush 8, 2) := by decide +kernel
theorem d_K_field_18 : decode c_K_field 18 = .ok (.invokestatic 73, 3) := by decide +kernel
theorem d_K_field_21 : decode c_K_field 21 = .ok (.ifCond .ne 13, 3) := by decide +kernel
theorem d_K_field_24 : decode c_K_field 24 = .ok (.new 77, 3) := by decide +kernel
theorem d_K_field_27 : decode c_K_field 27 = .ok (.dup, 1) := by decide +kernel
theorem d_K_field_28 : decode c_K_field 28 = .ok (.ldc 137, 2) := by decide +kernel
theorem d_K_field_30 : decode c_K_field 30 = .ok (.invokespecial 81, 3) := by decide +kernel
theorem d_K_field_33 : decode c_K_field 33 = .ok (.athrow, 1) := by decide +kernel
theorem d_K_field_34 : decode c_K_field 34 = .ok (.aload 5, 2) := by decide +kernel
theorem d_K_field_36 : decode c_K_field 36 = .ok (.iload_n 2, 1) := by decide +kernel
theorem d_K_field_37 : decode c_K_field 37 = .ok (.lload_n 3, 1) := by decide +kernel
theorem d_K_field_38 : decode c_K_field 38 = .ok (.invokevirtual 139, 3) := by decide +kernel
theorem d_K_field_41 : decode c_K_field 41 = .ok (.ireturn, 1) := by decide +kernel
abbrev c_K_end : ByteArray := prog_1_method_8_code
abbrev r_K_end : Option FieldType := (some FieldType.boolean)
def y_K_end : MethodName := ⟨"PinKindChecks", "end", "(IJJ)Z"⟩
theorem d_K_end_0 : decode c_K_end 0 = .ok (.aload_n 0, 1) := by decide +kernel
theorem d_K_end_1 : decode c_K_end 1 = .ok (.getfield 12, 3) := by decide +kernel
theorem d_K_end_4 : decode c_K_end 4 = .ok (.iload_n 1, 1) := by decide +kernel
theorem d_K_end_5 : decode c_K_end 5 = .ok (.invokevirtual 117, 3) := by decide +kernel
theorem d_K_end_8 : decode c_K_end 8 = .ok (.astore 6, 2) := by decide +kernel
theorem d_K_end_10 : decode c_K_end 10 = .ok (.aload 6, 2) := by decide +kernel
theorem d_K_end_12 : decode c_K_end 12 = .ok (.ifnonnull 13, 3) := by decide +kernel
theorem d_K_end_15 : decode c_K_end 15 = .ok (.new 77, 3) := by decide +kernel
theorem d_K_end_18 : decode c_K_end 18 = .ok (.dup, 1) := by decide +kernel
theorem d_K_end_19 : decode c_K_end 19 = .ok (.ldc 145, 2) := by decide +kernel
theorem d_K_end_21 : decode c_K_end 21 = .ok (.invokespecial 81, 3) := by decide +kernel
theorem d_K_end_24 : decode c_K_end 24 = .ok (.athrow, 1) := by decide +kernel
theorem d_K_end_25 : decode c_K_end 25 = .ok (.aload_n 0, 1) := by decide +kernel
theorem d_K_end_26 : decode c_K_end 26 = .ok (.getfield 12, 3) := by decide +kernel
theorem d_K_end_29 : decode c_K_end 29 = .ok (.aload 6, 2) := by decide +kernel
theorem d_K_end_31 : decode c_K_end 31 = .ok (.lload_n 2, 1) := by decide +kernel
theorem d_K_end_32 : decode c_K_end 32 = .ok (.lload 4, 2) := by decide +kernel
theorem d_K_end_34 : decode c_K_end 34 = .ok (.invokevirtual 147, 3) := by decide +kernel
theorem d_K_end_37 : decode c_K_end 37 = .ok (.ireturn, 1) := by decide +kernel
abbrev c_K_rule : ByteArray := prog_1_method_10_code
abbrev r_K_rule : Option FieldType := (some FieldType.int)
def y_K_rule : MethodName := ⟨"PinKindChecks", "rule", "()I"⟩
theorem d_K_rule_0 : decode c_K_rule 0 = .ok (.aload_n 0, 1) := by decide +kernel
theorem d_K_rule_1 : decode c_K_rule 1 = .ok (.getfield 66, 3) := by decide +kernel
theorem d_K_rule_4 : decode c_K_rule 4 = .ok (.aload_n 0, 1) := by decide +kernel
theorem d_K_rule_5 : decode c_K_rule 5 = .ok (.getfield 34, 3) := by decide +kernel
theorem d_K_rule_8 : decode c_K_rule 8 = .ok (.arraylength, 1) := by decide +kernel
theorem d_K_rule_9 : decode c_K_rule 9 = .ok (.if_icmp .lt 13, 3) := by decide +kernel
theorem d_K_rule_12 : decode c_K_rule 12 = .ok (.new 154, 3) := by decide +kernel
theorem d_K_rule_15 : decode c_K_rule 15 = .ok (.dup, 1) := by decide +kernel
theorem d_K_rule_16 : decode c_K_rule 16 = .ok (.ldc 156, 2) := by decide +kernel
theorem d_K_rule_18 : decode c_K_rule 18 = .ok (.invokespecial 158, 3) := by decide +kernel
theorem d_K_rule_21 : decode c_K_rule 21 = .ok (.athrow, 1) := by decide +kernel
theorem d_K_rule_22 : decode c_K_rule 22 = .ok (.aload_n 0, 1) := by decide +kernel
theorem d_K_rule_23 : decode c_K_rule 23 = .ok (.getfield 28, 3) := by decide +kernel
theorem d_K_rule_26 : decode c_K_rule 26 = .ok (.invokevirtual 159, 3) := by decide +kernel
theorem d_K_rule_29 : decode c_K_rule 29 = .ok (.astore_n 1, 1) := by decide +kernel
theorem d_K_rule_30 : decode c_K_rule 30 = .ok (.aload_n 0, 1) := by decide +kernel
theorem d_K_rule_31 : decode c_K_rule 31 = .ok (.getfield 19, 3) := by decide +kernel
theorem d_K_rule_34 : decode c_K_rule 34 = .ok (.invokevirtual 163, 3) := by decide +kernel
theorem d_K_rule_37 : decode c_K_rule 37 = .ok (.aload_n 1, 1) := by decide +kernel
theorem d_K_rule_38 : decode c_K_rule 38 = .ok (.ifnonnull 13, 3) := by decide +kernel
theorem d_K_rule_41 : decode c_K_rule 41 = .ok (.iconst (-1), 1) := by decide +kernel
theorem d_K_rule_42 : decode c_K_rule 42 = .ok (.aload_n 0, 1) := by decide +kernel
theorem d_K_rule_43 : decode c_K_rule 43 = .ok (.getfield 28, 3) := by decide +kernel
theorem d_K_rule_46 : decode c_K_rule 46 = .ok (.invokevirtual 166, 3) := by decide +kernel
theorem d_K_rule_49 : decode c_K_rule 49 = .ok (.isub, 1) := by decide +kernel
theorem d_K_rule_50 : decode c_K_rule 50 = .ok (.ireturn, 1) := by decide +kernel
theorem d_K_rule_51 : decode c_K_rule 51 = .ok (.aload_n 0, 1) := by decide +kernel
theorem d_K_rule_52 : decode c_K_rule 52 = .ok (.getfield 34, 3) := by decide +kernel
theorem d_K_rule_55 : decode c_K_rule 55 = .ok (.aload_n 0, 1) := by decide +kernel
theorem d_K_rule_56 : decode c_K_rule 56 = .ok (.getfield 66, 3) := by decide +kernel
theorem d_K_rule_59 : decode c_K_rule 59 = .ok (.aload_n 1, 1) := by decide +kernel
theorem d_K_rule_60 : decode c_K_rule 60 = .ok (.aastore, 1) := by decide +kernel
theorem d_K_rule_61 : decode c_K_rule 61 = .ok (.aload_n 0, 1) := by decide +kernel
theorem d_K_rule_62 : decode c_K_rule 62 = .ok (.dup, 1) := by decide +kernel
theorem d_K_rule_63 : decode c_K_rule 63 = .ok (.getfield 66, 3) := by decide +kernel
theorem d_K_rule_66 : decode c_K_rule 66 = .ok (.iconst 1, 1) := by decide +kernel
theorem d_K_rule_67 : decode c_K_rule 67 = .ok (.iadd, 1) := by decide +kernel
theorem d_K_rule_68 : decode c_K_rule 68 = .ok (.putfield 66, 3) := by decide +kernel
theorem d_K_rule_71 : decode c_K_rule 71 = .ok (.aload_n 0, 1) := by decide +kernel
theorem d_K_rule_72 : decode c_K_rule 72 = .ok (.invokevirtual 170, 3) := by decide +kernel
theorem d_K_rule_75 : decode c_K_rule 75 = .ok (.iconst 1, 1) := by decide +kernel
theorem d_K_rule_76 : decode c_K_rule 76 = .ok (.isub, 1) := by decide +kernel
theorem d_K_rule_77 : decode c_K_rule 77 = .ok (.ireturn, 1) := by decide +kernel
abbrev c_K_off : ByteArray := prog_1_method_11_code
abbrev r_K_off : Option FieldType := (some FieldType.boolean)
def y_K_off : MethodName := ⟨"PinKindChecks", "off", "(IZ)Z"⟩
theorem d_K_off_0 : decode c_K_off 0 = .ok (.aload_n 0, 1) := by decide +kernel
theorem d_K_off_1 : decode c_K_off 1 = .ok (.iload_n 1, 1) := by decide +kernel
theorem d_K_off_2 : decode c_K_off 2 = .ok (.invokevirtual 173, 3) := by decide +kernel
theorem d_K_off_5 : decode c_K_off 5 = .ok (.ifCond .ne 13, 3) := by decide +kernel
theorem d_K_off_8 : decode c_K_off 8 = .ok (.new 77, 3) := by decide +kernel
theorem d_K_off_11 : decode c_K_off 11 = .ok (.dup, 1) := by decide +kernel
theorem d_K_off_12 : decode c_K_off 12 = .ok (.ldc 176, 2) := by decide +kernel
theorem d_K_off_14 : decode c_K_off 14 = .ok (.invokespecial 81, 3) := by decide +kernel
theorem d_K_off_17 : decode c_K_off 17 = .ok (.athrow, 1) := by decide +kernel
theorem d_K_off_18 : decode c_K_off 18 = .ok (.aload_n 0, 1) := by decide +kernel
theorem d_K_off_19 : decode c_K_off 19 = .ok (.getfield 38, 3) := by decide +kernel
theorem d_K_off_22 : decode c_K_off 22 = .ok (.iload_n 1, 1) := by decide +kernel
theorem d_K_off_23 : decode c_K_off 23 = .ok (.baload, 1) := by decide +kernel
theorem d_K_off_24 : decode c_K_off 24 = .ok (.iload_n 2, 1) := by decide +kernel
theorem d_K_off_25 : decode c_K_off 25 = .ok (.if_icmp .eq 7, 3) := by decide +kernel
theorem d_K_off_28 : decode c_K_off 28 = .ok (.iconst 1, 1) := by decide +kernel
theorem d_K_off_29 : decode c_K_off 29 = .ok (.goto 4, 3) := by decide +kernel
theorem d_K_off_32 : decode c_K_off 32 = .ok (.iconst 0, 1) := by decide +kernel
theorem d_K_off_33 : decode c_K_off 33 = .ok (.istore_n 3, 1) := by decide +kernel
theorem d_K_off_34 : decode c_K_off 34 = .ok (.aload_n 0, 1) := by decide +kernel
theorem d_K_off_35 : decode c_K_off 35 = .ok (.getfield 38, 3) := by decide +kernel
theorem d_K_off_38 : decode c_K_off 38 = .ok (.iload_n 1, 1) := by decide +kernel
theorem d_K_off_39 : decode c_K_off 39 = .ok (.iload_n 2, 1) := by decide +kernel
theorem d_K_off_40 : decode c_K_off 40 = .ok (.bastore, 1) := by decide +kernel
theorem d_K_off_41 : decode c_K_off 41 = .ok (.iload_n 3, 1) := by decide +kernel
theorem d_K_off_42 : decode c_K_off 42 = .ok (.ireturn, 1) := by decide +kernel
abbrev c_K_isRule : ByteArray := prog_1_method_22_code
abbrev r_K_isRule : Option FieldType := (some FieldType.boolean)
def y_K_isRule : MethodName := ⟨"PinKindChecks", "isRule", "(I)Z"⟩
theorem d_K_isRule_0 : decode c_K_isRule 0 = .ok (.iload_n 1, 1) := by decide +kernel
theorem d_K_isRule_1 : decode c_K_isRule 1 = .ok (.aload_n 0, 1) := by decide +kernel
theorem d_K_isRule_2 : decode c_K_isRule 2 = .ok (.invokevirtual 170, 3) := by decide +kernel
theorem d_K_isRule_5 : decode c_K_isRule 5 = .ok (.invokestatic 73, 3) := by decide +kernel
theorem d_K_isRule_8 : decode c_K_isRule 8 = .ok (.ifCond .eq 16, 3) := by decide +kernel
theorem d_K_isRule_11 : decode c_K_isRule 11 = .ok (.iload_n 1, 1) := by decide +kernel
theorem d_K_isRule_12 : decode c_K_isRule 12 = .ok (.aload_n 0, 1) := by decide +kernel
theorem d_K_isRule_13 : decode c_K_isRule 13 = .ok (.getfield 38, 3) := by decide +kernel
theorem d_K_isRule_16 : decode c_K_isRule 16 = .ok (.arraylength, 1) := by decide +kernel
theorem d_K_isRule_17 : decode c_K_isRule 17 = .ok (.if_icmp .ge 7, 3) := by decide +kernel
theorem d_K_isRule_20 : decode c_K_isRule 20 = .ok (.iconst 1, 1) := by decide +kernel
theorem d_K_isRule_21 : decode c_K_isRule 21 = .ok (.goto 4, 3) := by decide +kernel
theorem d_K_isRule_24 : decode c_K_isRule 24 = .ok (.iconst 0, 1) := by decide +kernel
theorem d_K_isRule_25 : decode c_K_isRule 25 = .ok (.ireturn, 1) := by decide +kernel
abbrev c_K_remark : ByteArray := prog_1_method_13_code
abbrev r_K_remark : Option FieldType := (some FieldType.int)
def y_K_remark : MethodName := ⟨"PinKindChecks", "remark", "(II)I"⟩
theorem d_K_remark_0 : decode c_K_remark 0 = .ok (.iload_n 1, 1) := by decide +kernel
theorem d_K_remark_1 : decode c_K_remark 1 = .ok (.aload_n 0, 1) := by decide +kernel
theorem d_K_remark_2 : decode c_K_remark 2 = .ok (.getfield 60, 3) := by decide +kernel
theorem d_K_remark_5 : decode c_K_remark 5 = .ok (.invokevirtual 196, 3) := by decide +kernel
theorem d_K_remark_8 : decode c_K_remark 8 = .ok (.invokestatic 73, 3) := by decide +kernel
theorem d_K_remark_11 : decode c_K_remark 11 = .ok (.ifCond .eq 12, 3) := by decide +kernel
theorem d_K_remark_14 : decode c_K_remark 14 = .ok (.iload_n 2, 1) := by decide +kernel
theorem d_K_remark_15 : decode c_K_remark 15 = .ok (.bipush 6, 2) := by decide +kernel
theorem d_K_remark_17 : decode c_K_remark 17 = .ok (.invokestatic 73, 3) := by decide +kernel
theorem d_K_remark_20 : decode c_K_remark 20 = .ok (.ifCond .ne 13, 3) := by decide +kernel
theorem d_K_remark_23 : decode c_K_remark 23 = .ok (.new 77, 3) := by decide +kernel
theorem d_K_remark_26 : decode c_K_remark 26 = .ok (.dup, 1) := by decide +kernel
theorem d_K_remark_27 : decode c_K_remark 27 = .ok (.ldc 199, 2) := by decide +kernel
theorem d_K_remark_29 : decode c_K_remark 29 = .ok (.invokespecial 81, 3) := by decide +kernel
theorem d_K_remark_32 : decode c_K_remark 32 = .ok (.athrow, 1) := by decide +kernel
theorem d_K_remark_33 : decode c_K_remark 33 = .ok (.iload_n 2, 1) := by decide +kernel
theorem d_K_remark_34 : decode c_K_remark 34 = .ok (.tableswitch 60 3 5 #[26, 35, 44], 26) := by decide +kernel
theorem d_K_remark_60 : decode c_K_remark 60 = .ok (.aload_n 0, 1) := by decide +kernel
theorem d_K_remark_61 : decode c_K_remark 61 = .ok (.getfield 60, 3) := by decide +kernel
theorem d_K_remark_64 : decode c_K_remark 64 = .ok (.iload_n 1, 1) := by decide +kernel
theorem d_K_remark_65 : decode c_K_remark 65 = .ok (.invokevirtual 201, 3) := by decide +kernel
theorem d_K_remark_68 : decode c_K_remark 68 = .ok (.ireturn, 1) := by decide +kernel
theorem d_K_remark_69 : decode c_K_remark 69 = .ok (.aload_n 0, 1) := by decide +kernel
end
section
theorem d_K_remark_70 : decode c_K_remark 70 = .ok (.getfield 60, 3) := by decide +kernel
theorem d_K_remark_73 : decode c_K_remark 73 = .ok (.iload_n 1, 1) := by decide +kernel
theorem d_K_remark_74 : decode c_K_remark 74 = .ok (.invokevirtual 204, 3) := by decide +kernel
theorem d_K_remark_77 : decode c_K_remark 77 = .ok (.ireturn, 1) := by decide +kernel
theorem d_K_remark_78 : decode c_K_remark 78 = .ok (.aload_n 0, 1) := by decide +kernel
theorem d_K_remark_79 : decode c_K_remark 79 = .ok (.getfield 45, 3) := by decide +kernel
theorem d_K_remark_82 : decode c_K_remark 82 = .ok (.aload_n 0, 1) := by decide +kernel
theorem d_K_remark_83 : decode c_K_remark 83 = .ok (.getfield 60, 3) := by decide +kernel
theorem d_K_remark_86 : decode c_K_remark 86 = .ok (.iload_n 1, 1) := by decide +kernel
theorem d_K_remark_87 : decode c_K_remark 87 = .ok (.invokevirtual 207, 3) := by decide +kernel
theorem d_K_remark_90 : decode c_K_remark 90 = .ok (.invokevirtual 210, 3) := by decide +kernel
theorem d_K_remark_93 : decode c_K_remark 93 = .ok (.ireturn, 1) := by decide +kernel
theorem d_K_remark_94 : decode c_K_remark 94 = .ok (.aload_n 0, 1) := by decide +kernel
theorem d_K_remark_95 : decode c_K_remark 95 = .ok (.getfield 60, 3) := by decide +kernel
theorem d_K_remark_98 : decode c_K_remark 98 = .ok (.iload_n 1, 1) := by decide +kernel
theorem d_K_remark_99 : decode c_K_remark 99 = .ok (.invokevirtual 207, 3) := by decide +kernel
theorem d_K_remark_102 : decode c_K_remark 102 = .ok (.iload_n 2, 1) := by decide +kernel
theorem d_K_remark_103 : decode c_K_remark 103 = .ok (.invokestatic 213, 3) := by decide +kernel
theorem d_K_remark_106 : decode c_K_remark 106 = .ok (.ireturn, 1) := by decide +kernel
abbrev c_K_aboutKey : ByteArray := prog_1_method_27_code
abbrev r_K_aboutKey : Option FieldType := (some FieldType.int)
def y_K_aboutKey : MethodName := ⟨"PinKindChecks", "aboutKey", "(II)I"⟩
theorem d_K_aboutKey_0 : decode c_K_aboutKey 0 = .ok (.iload_n 1, 1) := by decide +kernel
theorem d_K_aboutKey_1 : decode c_K_aboutKey 1 = .ok (.ifCond .ne 8, 3) := by decide +kernel
theorem d_K_aboutKey_4 : decode c_K_aboutKey 4 = .ok (.iload_n 0, 1) := by decide +kernel
theorem d_K_aboutKey_5 : decode c_K_aboutKey 5 = .ok (.bipush 27, 2) := by decide +kernel
theorem d_K_aboutKey_7 : decode c_K_aboutKey 7 = .ok (.irem, 1) := by decide +kernel
theorem d_K_aboutKey_8 : decode c_K_aboutKey 8 = .ok (.ireturn, 1) := by decide +kernel
theorem d_K_aboutKey_9 : decode c_K_aboutKey 9 = .ok (.iload_n 0, 1) := by decide +kernel
theorem d_K_aboutKey_10 : decode c_K_aboutKey 10 = .ok (.bipush 27, 2) := by decide +kernel
theorem d_K_aboutKey_12 : decode c_K_aboutKey 12 = .ok (.idiv, 1) := by decide +kernel
theorem d_K_aboutKey_13 : decode c_K_aboutKey 13 = .ok (.istore_n 2, 1) := by decide +kernel
theorem d_K_aboutKey_14 : decode c_K_aboutKey 14 = .ok (.iload_n 1, 1) := by decide +kernel
theorem d_K_aboutKey_15 : decode c_K_aboutKey 15 = .ok (.iconst 1, 1) := by decide +kernel
theorem d_K_aboutKey_16 : decode c_K_aboutKey 16 = .ok (.if_icmp .ne 13, 3) := by decide +kernel
theorem d_K_aboutKey_19 : decode c_K_aboutKey 19 = .ok (.iload_n 2, 1) := by decide +kernel
theorem d_K_aboutKey_20 : decode c_K_aboutKey 20 = .ok (.sipush 160, 3) := by decide +kernel
theorem d_K_aboutKey_23 : decode c_K_aboutKey 23 = .ok (.idiv, 1) := by decide +kernel
theorem d_K_aboutKey_24 : decode c_K_aboutKey 24 = .ok (.iconst 3, 1) := by decide +kernel
theorem d_K_aboutKey_25 : decode c_K_aboutKey 25 = .ok (.irem, 1) := by decide +kernel
theorem d_K_aboutKey_26 : decode c_K_aboutKey 26 = .ok (.goto 8, 3) := by decide +kernel
theorem d_K_aboutKey_29 : decode c_K_aboutKey 29 = .ok (.iload_n 2, 1) := by decide +kernel
theorem d_K_aboutKey_30 : decode c_K_aboutKey 30 = .ok (.sipush 160, 3) := by decide +kernel
theorem d_K_aboutKey_33 : decode c_K_aboutKey 33 = .ok (.irem, 1) := by decide +kernel
theorem d_K_aboutKey_34 : decode c_K_aboutKey 34 = .ok (.ireturn, 1) := by decide +kernel
abbrev c_K_closed : ByteArray := prog_1_method_14_code
abbrev r_K_closed : Option FieldType := (some FieldType.int)
def y_K_closed : MethodName := ⟨"PinKindChecks", "closed", "(II)I"⟩
theorem d_K_closed_0 : decode c_K_closed 0 = .ok (.iload_n 1, 1) := by decide +kernel
theorem d_K_closed_1 : decode c_K_closed 1 = .ok (.aload_n 0, 1) := by decide +kernel
theorem d_K_closed_2 : decode c_K_closed 2 = .ok (.getfield 52, 3) := by decide +kernel
theorem d_K_closed_5 : decode c_K_closed 5 = .ok (.invokevirtual 196, 3) := by decide +kernel
theorem d_K_closed_8 : decode c_K_closed 8 = .ok (.invokestatic 73, 3) := by decide +kernel
theorem d_K_closed_11 : decode c_K_closed 11 = .ok (.ifCond .eq 11, 3) := by decide +kernel
theorem d_K_closed_14 : decode c_K_closed 14 = .ok (.iload_n 2, 1) := by decide +kernel
theorem d_K_closed_15 : decode c_K_closed 15 = .ok (.iconst 4, 1) := by decide +kernel
theorem d_K_closed_16 : decode c_K_closed 16 = .ok (.invokestatic 73, 3) := by decide +kernel
theorem d_K_closed_19 : decode c_K_closed 19 = .ok (.ifCond .ne 13, 3) := by decide +kernel
theorem d_K_closed_22 : decode c_K_closed 22 = .ok (.new 77, 3) := by decide +kernel
theorem d_K_closed_25 : decode c_K_closed 25 = .ok (.dup, 1) := by decide +kernel
theorem d_K_closed_26 : decode c_K_closed 26 = .ok (.ldc 216, 2) := by decide +kernel
theorem d_K_closed_28 : decode c_K_closed 28 = .ok (.invokespecial 81, 3) := by decide +kernel
theorem d_K_closed_31 : decode c_K_closed 31 = .ok (.athrow, 1) := by decide +kernel
theorem d_K_closed_32 : decode c_K_closed 32 = .ok (.iload_n 2, 1) := by decide +kernel
theorem d_K_closed_33 : decode c_K_closed 33 = .ok (.iconst 3, 1) := by decide +kernel
theorem d_K_closed_34 : decode c_K_closed 34 = .ok (.if_icmp .ne 14, 3) := by decide +kernel
theorem d_K_closed_37 : decode c_K_closed 37 = .ok (.aload_n 0, 1) := by decide +kernel
theorem d_K_closed_38 : decode c_K_closed 38 = .ok (.getfield 52, 3) := by decide +kernel
theorem d_K_closed_41 : decode c_K_closed 41 = .ok (.iload_n 1, 1) := by decide +kernel
theorem d_K_closed_42 : decode c_K_closed 42 = .ok (.invokevirtual 204, 3) := by decide +kernel
theorem d_K_closed_45 : decode c_K_closed 45 = .ok (.goto 15, 3) := by decide +kernel
theorem d_K_closed_48 : decode c_K_closed 48 = .ok (.aload_n 0, 1) := by decide +kernel
theorem d_K_closed_49 : decode c_K_closed 49 = .ok (.getfield 52, 3) := by decide +kernel
theorem d_K_closed_52 : decode c_K_closed 52 = .ok (.iload_n 1, 1) := by decide +kernel
theorem d_K_closed_53 : decode c_K_closed 53 = .ok (.invokevirtual 207, 3) := by decide +kernel
theorem d_K_closed_56 : decode c_K_closed 56 = .ok (.iload_n 2, 1) := by decide +kernel
theorem d_K_closed_57 : decode c_K_closed 57 = .ok (.invokestatic 213, 3) := by decide +kernel
theorem d_K_closed_60 : decode c_K_closed 60 = .ok (.ireturn, 1) := by decide +kernel
abbrev c_K_waive : ByteArray := prog_1_method_15_code
abbrev r_K_waive : Option FieldType := (some FieldType.boolean)
def y_K_waive : MethodName := ⟨"PinKindChecks", "waive", "(IIII)Z"⟩
theorem d_K_waive_0 : decode c_K_waive 0 = .ok (.aload_n 0, 1) := by decide +kernel
theorem d_K_waive_1 : decode c_K_waive 1 = .ok (.getfield 12, 3) := by decide +kernel
theorem d_K_waive_4 : decode c_K_waive 4 = .ok (.iload_n 2, 1) := by decide +kernel
theorem d_K_waive_5 : decode c_K_waive 5 = .ok (.iload_n 3, 1) := by decide +kernel
theorem d_K_waive_6 : decode c_K_waive 6 = .ok (.invokevirtual 218, 3) := by decide +kernel
theorem d_K_waive_9 : decode c_K_waive 9 = .ok (.astore 5, 2) := by decide +kernel
theorem d_K_waive_11 : decode c_K_waive 11 = .ok (.aload_n 0, 1) := by decide +kernel
theorem d_K_waive_12 : decode c_K_waive 12 = .ok (.iload_n 1, 1) := by decide +kernel
theorem d_K_waive_13 : decode c_K_waive 13 = .ok (.invokevirtual 173, 3) := by decide +kernel
theorem d_K_waive_16 : decode c_K_waive 16 = .ok (.ifCond .eq 8, 3) := by decide +kernel
theorem d_K_waive_19 : decode c_K_waive 19 = .ok (.aload 5, 2) := by decide +kernel
theorem d_K_waive_21 : decode c_K_waive 21 = .ok (.ifnonnull 13, 3) := by decide +kernel
theorem d_K_waive_24 : decode c_K_waive 24 = .ok (.new 77, 3) := by decide +kernel
theorem d_K_waive_27 : decode c_K_waive 27 = .ok (.dup, 1) := by decide +kernel
theorem d_K_waive_28 : decode c_K_waive 28 = .ok (.ldc 222, 2) := by decide +kernel
theorem d_K_waive_30 : decode c_K_waive 30 = .ok (.invokespecial 81, 3) := by decide +kernel
theorem d_K_waive_33 : decode c_K_waive 33 = .ok (.athrow, 1) := by decide +kernel
theorem d_K_waive_34 : decode c_K_waive 34 = .ok (.iload 4, 2) := by decide +kernel
theorem d_K_waive_36 : decode c_K_waive 36 = .ok (.iconst (-1), 1) := by decide +kernel
theorem d_K_waive_37 : decode c_K_waive 37 = .ok (.if_icmp .eq 24, 3) := by decide +kernel
theorem d_K_waive_40 : decode c_K_waive 40 = .ok (.iload 4, 2) := by decide +kernel
theorem d_K_waive_42 : decode c_K_waive 42 = .ok (.sipush 1000, 3) := by decide +kernel
theorem d_K_waive_45 : decode c_K_waive 45 = .ok (.invokestatic 73, 3) := by decide +kernel
theorem d_K_waive_48 : decode c_K_waive 48 = .ok (.ifCond .ne 13, 3) := by decide +kernel
theorem d_K_waive_51 : decode c_K_waive 51 = .ok (.new 84, 3) := by decide +kernel
theorem d_K_waive_54 : decode c_K_waive 54 = .ok (.dup, 1) := by decide +kernel
theorem d_K_waive_55 : decode c_K_waive 55 = .ok (.ldc 224, 2) := by decide +kernel
theorem d_K_waive_57 : decode c_K_waive 57 = .ok (.invokespecial 88, 3) := by decide +kernel
theorem d_K_waive_60 : decode c_K_waive 60 = .ok (.athrow, 1) := by decide +kernel
theorem d_K_waive_61 : decode c_K_waive 61 = .ok (.aload_n 0, 1) := by decide +kernel
theorem d_K_waive_62 : decode c_K_waive 62 = .ok (.getfield 45, 3) := by decide +kernel
theorem d_K_waive_65 : decode c_K_waive 65 = .ok (.aload 5, 2) := by decide +kernel
theorem d_K_waive_67 : decode c_K_waive 67 = .ok (.iload_n 1, 1) := by decide +kernel
theorem d_K_waive_68 : decode c_K_waive 68 = .ok (.invokevirtual 226, 3) := by decide +kernel
theorem d_K_waive_71 : decode c_K_waive 71 = .ok (.iload 4, 2) := by decide +kernel
theorem d_K_waive_73 : decode c_K_waive 73 = .ok (.invokevirtual 231, 3) := by decide +kernel
theorem d_K_waive_76 : decode c_K_waive 76 = .ok (.ireturn, 1) := by decide +kernel
end
section
abbrev c_La_table : ByteArray := method_3_code
abbrev r_La_table : Option FieldType := (some FieldType.int)
def y_La_table : MethodName := ⟨"PinKindChecksLaw", "table", "(LPinKindChecks;III[J)I"⟩
theorem d_La_table_0 : decode c_La_table 0 = .ok (.aload 4, 2) := by decide +kernel
theorem d_La_table_2 : decode c_La_table 2 = .ok (.iconst 0, 1) := by decide +kernel
theorem d_La_table_3 : decode c_La_table 3 = .ok (.aload_n 0, 1) := by decide +kernel
theorem d_La_table_4 : decode c_La_table 4 = .ok (.iload_n 1, 1) := by decide +kernel
theorem d_La_table_5 : decode c_La_table 5 = .ok (.iload_n 2, 1) := by decide +kernel
theorem d_La_table_6 : decode c_La_table 6 = .ok (.iload_n 3, 1) := by decide +kernel
theorem d_La_table_7 : decode c_La_table 7 = .ok (.invokevirtual 7, 3) := by decide +kernel
theorem d_La_table_10 : decode c_La_table 10 = .ok (.ifCond .eq 7, 3) := by decide +kernel
theorem d_La_table_13 : decode c_La_table 13 = .ok (.lconst 1, 1) := by decide +kernel
theorem d_La_table_14 : decode c_La_table 14 = .ok (.goto 4, 3) := by decide +kernel
theorem d_La_table_17 : decode c_La_table 17 = .ok (.lconst 0, 1) := by decide +kernel
theorem d_La_table_18 : decode c_La_table 18 = .ok (.lastore, 1) := by decide +kernel
theorem d_La_table_19 : decode c_La_table 19 = .ok (.goto 11, 3) := by decide +kernel
theorem d_La_table_22 : decode c_La_table 22 = .ok (.astore 5, 2) := by decide +kernel
theorem d_La_table_24 : decode c_La_table 24 = .ok (.iconst 1, 1) := by decide +kernel
theorem d_La_table_25 : decode c_La_table 25 = .ok (.ireturn, 1) := by decide +kernel
theorem d_La_table_26 : decode c_La_table 26 = .ok (.astore 5, 2) := by decide +kernel
theorem d_La_table_28 : decode c_La_table 28 = .ok (.iconst 2, 1) := by decide +kernel
theorem d_La_table_29 : decode c_La_table 29 = .ok (.ireturn, 1) := by decide +kernel
theorem d_La_table_30 : decode c_La_table 30 = .ok (.iconst 0, 1) := by decide +kernel
theorem d_La_table_31 : decode c_La_table 31 = .ok (.ireturn, 1) := by decide +kernel
abbrev c_La_part : ByteArray := method_4_code
abbrev r_La_part : Option FieldType := (some FieldType.int)
def y_La_part : MethodName := ⟨"PinKindChecksLaw", "part", "(LPinKindChecks;I[J)I"⟩
theorem d_La_part_0 : decode c_La_part 0 = .ok (.aload_n 2, 1) := by decide +kernel
theorem d_La_part_1 : decode c_La_part 1 = .ok (.iconst 0, 1) := by decide +kernel
theorem d_La_part_2 : decode c_La_part 2 = .ok (.aload_n 0, 1) := by decide +kernel
theorem d_La_part_3 : decode c_La_part 3 = .ok (.iload_n 1, 1) := by decide +kernel
theorem d_La_part_4 : decode c_La_part 4 = .ok (.invokevirtual 17, 3) := by decide +kernel
theorem d_La_part_7 : decode c_La_part 7 = .ok (.i2l, 1) := by decide +kernel
theorem d_La_part_8 : decode c_La_part 8 = .ok (.lastore, 1) := by decide +kernel
theorem d_La_part_9 : decode c_La_part 9 = .ok (.goto 6, 3) := by decide +kernel
theorem d_La_part_12 : decode c_La_part 12 = .ok (.astore_n 3, 1) := by decide +kernel
theorem d_La_part_13 : decode c_La_part 13 = .ok (.iconst 1, 1) := by decide +kernel
theorem d_La_part_14 : decode c_La_part 14 = .ok (.ireturn, 1) := by decide +kernel
theorem d_La_part_15 : decode c_La_part 15 = .ok (.iconst 0, 1) := by decide +kernel
theorem d_La_part_16 : decode c_La_part 16 = .ok (.ireturn, 1) := by decide +kernel
abbrev c_La_net : ByteArray := method_5_code
abbrev r_La_net : Option FieldType := (some FieldType.int)
def y_La_net : MethodName := ⟨"PinKindChecksLaw", "net", "(LPinKindChecks;II[J)I"⟩
theorem d_La_net_0 : decode c_La_net 0 = .ok (.aload_n 3, 1) := by decide +kernel
theorem d_La_net_1 : decode c_La_net 1 = .ok (.iconst 0, 1) := by decide +kernel
theorem d_La_net_2 : decode c_La_net 2 = .ok (.aload_n 0, 1) := by decide +kernel
theorem d_La_net_3 : decode c_La_net 3 = .ok (.iload_n 1, 1) := by decide +kernel
theorem d_La_net_4 : decode c_La_net 4 = .ok (.iload_n 2, 1) := by decide +kernel
theorem d_La_net_5 : decode c_La_net 5 = .ok (.invokevirtual 21, 3) := by decide +kernel
theorem d_La_net_8 : decode c_La_net 8 = .ok (.i2l, 1) := by decide +kernel
theorem d_La_net_9 : decode c_La_net 9 = .ok (.lastore, 1) := by decide +kernel
theorem d_La_net_10 : decode c_La_net 10 = .ok (.goto 11, 3) := by decide +kernel
theorem d_La_net_13 : decode c_La_net 13 = .ok (.astore 4, 2) := by decide +kernel
theorem d_La_net_15 : decode c_La_net 15 = .ok (.iconst 1, 1) := by decide +kernel
theorem d_La_net_16 : decode c_La_net 16 = .ok (.ireturn, 1) := by decide +kernel
theorem d_La_net_17 : decode c_La_net 17 = .ok (.astore 4, 2) := by decide +kernel
theorem d_La_net_19 : decode c_La_net 19 = .ok (.iconst 2, 1) := by decide +kernel
theorem d_La_net_20 : decode c_La_net 20 = .ok (.ireturn, 1) := by decide +kernel
theorem d_La_net_21 : decode c_La_net 21 = .ok (.iconst 0, 1) := by decide +kernel
theorem d_La_net_22 : decode c_La_net 22 = .ok (.ireturn, 1) := by decide +kernel
abbrev c_La_pin : ByteArray := method_6_code
abbrev r_La_pin : Option FieldType := (some FieldType.int)
def y_La_pin : MethodName := ⟨"PinKindChecksLaw", "pin", "(LPinKindChecks;III[J)I"⟩
theorem d_La_pin_0 : decode c_La_pin 0 = .ok (.aload 4, 2) := by decide +kernel
theorem d_La_pin_2 : decode c_La_pin 2 = .ok (.iconst 0, 1) := by decide +kernel
theorem d_La_pin_3 : decode c_La_pin 3 = .ok (.aload_n 0, 1) := by decide +kernel
theorem d_La_pin_4 : decode c_La_pin 4 = .ok (.iload_n 1, 1) := by decide +kernel
theorem d_La_pin_5 : decode c_La_pin 5 = .ok (.iload_n 2, 1) := by decide +kernel
theorem d_La_pin_6 : decode c_La_pin 6 = .ok (.iload_n 3, 1) := by decide +kernel
theorem d_La_pin_7 : decode c_La_pin 7 = .ok (.invokevirtual 25, 3) := by decide +kernel
theorem d_La_pin_10 : decode c_La_pin 10 = .ok (.i2l, 1) := by decide +kernel
theorem d_La_pin_11 : decode c_La_pin 11 = .ok (.lastore, 1) := by decide +kernel
theorem d_La_pin_12 : decode c_La_pin 12 = .ok (.goto 11, 3) := by decide +kernel
theorem d_La_pin_15 : decode c_La_pin 15 = .ok (.astore 5, 2) := by decide +kernel
theorem d_La_pin_17 : decode c_La_pin 17 = .ok (.iconst 1, 1) := by decide +kernel
theorem d_La_pin_18 : decode c_La_pin 18 = .ok (.ireturn, 1) := by decide +kernel
theorem d_La_pin_19 : decode c_La_pin 19 = .ok (.astore 5, 2) := by decide +kernel
theorem d_La_pin_21 : decode c_La_pin 21 = .ok (.iconst 2, 1) := by decide +kernel
theorem d_La_pin_22 : decode c_La_pin 22 = .ok (.ireturn, 1) := by decide +kernel
theorem d_La_pin_23 : decode c_La_pin 23 = .ok (.iconst 0, 1) := by decide +kernel
theorem d_La_pin_24 : decode c_La_pin 24 = .ok (.ireturn, 1) := by decide +kernel
abbrev c_La_join : ByteArray := method_7_code
abbrev r_La_join : Option FieldType := (some FieldType.int)
def y_La_join : MethodName := ⟨"PinKindChecksLaw", "join", "(LPinKindChecks;II[J)I"⟩
theorem d_La_join_0 : decode c_La_join 0 = .ok (.aload_n 3, 1) := by decide +kernel
theorem d_La_join_1 : decode c_La_join 1 = .ok (.iconst 0, 1) := by decide +kernel
theorem d_La_join_2 : decode c_La_join 2 = .ok (.aload_n 0, 1) := by decide +kernel
theorem d_La_join_3 : decode c_La_join 3 = .ok (.iload_n 1, 1) := by decide +kernel
theorem d_La_join_4 : decode c_La_join 4 = .ok (.iload_n 2, 1) := by decide +kernel
theorem d_La_join_5 : decode c_La_join 5 = .ok (.invokevirtual 29, 3) := by decide +kernel
theorem d_La_join_8 : decode c_La_join 8 = .ok (.ifCond .eq 7, 3) := by decide +kernel
theorem d_La_join_11 : decode c_La_join 11 = .ok (.lconst 1, 1) := by decide +kernel
theorem d_La_join_12 : decode c_La_join 12 = .ok (.goto 4, 3) := by decide +kernel
theorem d_La_join_15 : decode c_La_join 15 = .ok (.lconst 0, 1) := by decide +kernel
theorem d_La_join_16 : decode c_La_join 16 = .ok (.lastore, 1) := by decide +kernel
theorem d_La_join_17 : decode c_La_join 17 = .ok (.goto 7, 3) := by decide +kernel
theorem d_La_join_20 : decode c_La_join 20 = .ok (.astore 4, 2) := by decide +kernel
theorem d_La_join_22 : decode c_La_join 22 = .ok (.iconst 1, 1) := by decide +kernel
theorem d_La_join_23 : decode c_La_join 23 = .ok (.ireturn, 1) := by decide +kernel
theorem d_La_join_24 : decode c_La_join 24 = .ok (.iconst 0, 1) := by decide +kernel
theorem d_La_join_25 : decode c_La_join 25 = .ok (.ireturn, 1) := by decide +kernel
abbrev c_La_field : ByteArray := method_8_code
abbrev r_La_field : Option FieldType := (some FieldType.int)
def y_La_field : MethodName := ⟨"PinKindChecksLaw", "field", "(LPinKindChecks;IIJ[J)I"⟩
theorem d_La_field_0 : decode c_La_field 0 = .ok (.aload 5, 2) := by decide +kernel
theorem d_La_field_2 : decode c_La_field 2 = .ok (.iconst 0, 1) := by decide +kernel
theorem d_La_field_3 : decode c_La_field 3 = .ok (.aload_n 0, 1) := by decide +kernel
theorem d_La_field_4 : decode c_La_field 4 = .ok (.iload_n 1, 1) := by decide +kernel
theorem d_La_field_5 : decode c_La_field 5 = .ok (.iload_n 2, 1) := by decide +kernel
theorem d_La_field_6 : decode c_La_field 6 = .ok (.lload_n 3, 1) := by decide +kernel
theorem d_La_field_7 : decode c_La_field 7 = .ok (.invokevirtual 33, 3) := by decide +kernel
theorem d_La_field_10 : decode c_La_field 10 = .ok (.ifCond .eq 7, 3) := by decide +kernel
theorem d_La_field_13 : decode c_La_field 13 = .ok (.lconst 1, 1) := by decide +kernel
theorem d_La_field_14 : decode c_La_field 14 = .ok (.goto 4, 3) := by decide +kernel
theorem d_La_field_17 : decode c_La_field 17 = .ok (.lconst 0, 1) := by decide +kernel
theorem d_La_field_18 : decode c_La_field 18 = .ok (.lastore, 1) := by decide +kernel
theorem d_La_field_19 : decode c_La_field 19 = .ok (.goto 7, 3) := by decide +kernel
theorem d_La_field_22 : decode c_La_field 22 = .ok (.astore 6, 2) := by decide +kernel
theorem d_La_field_24 : decode c_La_field 24 = .ok (.iconst 1, 1) := by decide +kernel
theorem d_La_field_25 : decode c_La_field 25 = .ok (.ireturn, 1) := by decide +kernel
theorem d_La_field_26 : decode c_La_field 26 = .ok (.iconst 0, 1) := by decide +kernel
theorem d_La_field_27 : decode c_La_field 27 = .ok (.ireturn, 1) := by decide +kernel
abbrev c_La_end : ByteArray := method_9_code
abbrev r_La_end : Option FieldType := (some FieldType.int)
def y_La_end : MethodName := ⟨"PinKindChecksLaw", "end", "(LPinKindChecks;IJJ[J)I"⟩
theorem d_La_end_0 : decode c_La_end 0 = .ok (.aload 6, 2) := by decide +kernel
theorem d_La_end_2 : decode c_La_end 2 = .ok (.iconst 0, 1) := by decide +kernel
theorem d_La_end_3 : decode c_La_end 3 = .ok (.aload_n 0, 1) := by decide +kernel
theorem d_La_end_4 : decode c_La_end 4 = .ok (.iload_n 1, 1) := by decide +kernel
theorem d_La_end_5 : decode c_La_end 5 = .ok (.lload_n 2, 1) := by decide +kernel
theorem d_La_end_6 : decode c_La_end 6 = .ok (.lload 4, 2) := by decide +kernel
theorem d_La_end_8 : decode c_La_end 8 = .ok (.invokevirtual 37, 3) := by decide +kernel
theorem d_La_end_11 : decode c_La_end 11 = .ok (.ifCond .eq 7, 3) := by decide +kernel
theorem d_La_end_14 : decode c_La_end 14 = .ok (.lconst 1, 1) := by decide +kernel
theorem d_La_end_15 : decode c_La_end 15 = .ok (.goto 4, 3) := by decide +kernel
theorem d_La_end_18 : decode c_La_end 18 = .ok (.lconst 0, 1) := by decide +kernel
theorem d_La_end_19 : decode c_La_end 19 = .ok (.lastore, 1) := by decide +kernel
theorem d_La_end_20 : decode c_La_end 20 = .ok (.goto 7, 3) := by decide +kernel
theorem d_La_end_23 : decode c_La_end 23 = .ok (.astore 7, 2) := by decide +kernel
theorem d_La_end_25 : decode c_La_end 25 = .ok (.iconst 1, 1) := by decide +kernel
theorem d_La_end_26 : decode c_La_end 26 = .ok (.ireturn, 1) := by decide +kernel
theorem d_La_end_27 : decode c_La_end 27 = .ok (.iconst 0, 1) := by decide +kernel
theorem d_La_end_28 : decode c_La_end 28 = .ok (.ireturn, 1) := by decide +kernel
abbrev c_La_rule : ByteArray := method_10_code
abbrev r_La_rule : Option FieldType := (some FieldType.int)
def y_La_rule : MethodName := ⟨"PinKindChecksLaw", "rule", "(LPinKindChecks;[J)I"⟩
theorem d_La_rule_0 : decode c_La_rule 0 = .ok (.aload_n 1, 1) := by decide +kernel
theorem d_La_rule_1 : decode c_La_rule 1 = .ok (.iconst 0, 1) := by decide +kernel
theorem d_La_rule_2 : decode c_La_rule 2 = .ok (.aload_n 0, 1) := by decide +kernel
theorem d_La_rule_3 : decode c_La_rule 3 = .ok (.invokevirtual 41, 3) := by decide +kernel
theorem d_La_rule_6 : decode c_La_rule 6 = .ok (.i2l, 1) := by decide +kernel
theorem d_La_rule_7 : decode c_La_rule 7 = .ok (.lastore, 1) := by decide +kernel
theorem d_La_rule_8 : decode c_La_rule 8 = .ok (.goto 6, 3) := by decide +kernel
theorem d_La_rule_11 : decode c_La_rule 11 = .ok (.astore_n 2, 1) := by decide +kernel
theorem d_La_rule_12 : decode c_La_rule 12 = .ok (.iconst 1, 1) := by decide +kernel
theorem d_La_rule_13 : decode c_La_rule 13 = .ok (.ireturn, 1) := by decide +kernel
theorem d_La_rule_14 : decode c_La_rule 14 = .ok (.iconst 0, 1) := by decide +kernel
theorem d_La_rule_15 : decode c_La_rule 15 = .ok (.ireturn, 1) := by decide +kernel
abbrev c_La_off : ByteArray := method_11_code
abbrev r_La_off : Option FieldType := (some FieldType.int)
def y_La_off : MethodName := ⟨"PinKindChecksLaw", "off", "(LPinKindChecks;IZ[J)I"⟩
theorem d_La_off_0 : decode c_La_off 0 = .ok (.aload_n 3, 1) := by decide +kernel
theorem d_La_off_1 : decode c_La_off 1 = .ok (.iconst 0, 1) := by decide +kernel
theorem d_La_off_2 : decode c_La_off 2 = .ok (.aload_n 0, 1) := by decide +kernel
theorem d_La_off_3 : decode c_La_off 3 = .ok (.iload_n 1, 1) := by decide +kernel
theorem d_La_off_4 : decode c_La_off 4 = .ok (.iload_n 2, 1) := by decide +kernel
theorem d_La_off_5 : decode c_La_off 5 = .ok (.invokevirtual 47, 3) := by decide +kernel
theorem d_La_off_8 : decode c_La_off 8 = .ok (.ifCond .eq 7, 3) := by decide +kernel
theorem d_La_off_11 : decode c_La_off 11 = .ok (.lconst 1, 1) := by decide +kernel
theorem d_La_off_12 : decode c_La_off 12 = .ok (.goto 4, 3) := by decide +kernel
theorem d_La_off_15 : decode c_La_off 15 = .ok (.lconst 0, 1) := by decide +kernel
theorem d_La_off_16 : decode c_La_off 16 = .ok (.lastore, 1) := by decide +kernel
theorem d_La_off_17 : decode c_La_off 17 = .ok (.goto 7, 3) := by decide +kernel
theorem d_La_off_20 : decode c_La_off 20 = .ok (.astore 4, 2) := by decide +kernel
theorem d_La_off_22 : decode c_La_off 22 = .ok (.iconst 1, 1) := by decide +kernel
theorem d_La_off_23 : decode c_La_off 23 = .ok (.ireturn, 1) := by decide +kernel
theorem d_La_off_24 : decode c_La_off 24 = .ok (.iconst 0, 1) := by decide +kernel
theorem d_La_off_25 : decode c_La_off 25 = .ok (.ireturn, 1) := by decide +kernel
abbrev c_La_remark : ByteArray := method_12_code
abbrev r_La_remark : Option FieldType := (some FieldType.int)
def y_La_remark : MethodName := ⟨"PinKindChecksLaw", "remark", "(LPinKindChecks;II[J)I"⟩
theorem d_La_remark_0 : decode c_La_remark 0 = .ok (.aload_n 3, 1) := by decide +kernel
theorem d_La_remark_1 : decode c_La_remark 1 = .ok (.iconst 0, 1) := by decide +kernel
theorem d_La_remark_2 : decode c_La_remark 2 = .ok (.aload_n 0, 1) := by decide +kernel
theorem d_La_remark_3 : decode c_La_remark 3 = .ok (.iload_n 1, 1) := by decide +kernel
theorem d_La_remark_4 : decode c_La_remark 4 = .ok (.iload_n 2, 1) := by decide +kernel
theorem d_La_remark_5 : decode c_La_remark 5 = .ok (.invokevirtual 51, 3) := by decide +kernel
theorem d_La_remark_8 : decode c_La_remark 8 = .ok (.i2l, 1) := by decide +kernel
theorem d_La_remark_9 : decode c_La_remark 9 = .ok (.lastore, 1) := by decide +kernel
theorem d_La_remark_10 : decode c_La_remark 10 = .ok (.goto 7, 3) := by decide +kernel
theorem d_La_remark_13 : decode c_La_remark 13 = .ok (.astore 4, 2) := by decide +kernel
theorem d_La_remark_15 : decode c_La_remark 15 = .ok (.iconst 1, 1) := by decide +kernel
theorem d_La_remark_16 : decode c_La_remark 16 = .ok (.ireturn, 1) := by decide +kernel
theorem d_La_remark_17 : decode c_La_remark 17 = .ok (.iconst 0, 1) := by decide +kernel
theorem d_La_remark_18 : decode c_La_remark 18 = .ok (.ireturn, 1) := by decide +kernel
abbrev c_La_closed : ByteArray := method_13_code
abbrev r_La_closed : Option FieldType := (some FieldType.int)
def y_La_closed : MethodName := ⟨"PinKindChecksLaw", "closed", "(LPinKindChecks;II[J)I"⟩
theorem d_La_closed_0 : decode c_La_closed 0 = .ok (.aload_n 3, 1) := by decide +kernel
theorem d_La_closed_1 : decode c_La_closed 1 = .ok (.iconst 0, 1) := by decide +kernel
theorem d_La_closed_2 : decode c_La_closed 2 = .ok (.aload_n 0, 1) := by decide +kernel
theorem d_La_closed_3 : decode c_La_closed 3 = .ok (.iload_n 1, 1) := by decide +kernel
theorem d_La_closed_4 : decode c_La_closed 4 = .ok (.iload_n 2, 1) := by decide +kernel
theorem d_La_closed_5 : decode c_La_closed 5 = .ok (.invokevirtual 54, 3) := by decide +kernel
theorem d_La_closed_8 : decode c_La_closed 8 = .ok (.i2l, 1) := by decide +kernel
theorem d_La_closed_9 : decode c_La_closed 9 = .ok (.lastore, 1) := by decide +kernel
theorem d_La_closed_10 : decode c_La_closed 10 = .ok (.goto 7, 3) := by decide +kernel
theorem d_La_closed_13 : decode c_La_closed 13 = .ok (.astore 4, 2) := by decide +kernel
theorem d_La_closed_15 : decode c_La_closed 15 = .ok (.iconst 1, 1) := by decide +kernel
theorem d_La_closed_16 : decode c_La_closed 16 = .ok (.ireturn, 1) := by decide +kernel
theorem d_La_closed_17 : decode c_La_closed 17 = .ok (.iconst 0, 1) := by decide +kernel
theorem d_La_closed_18 : decode c_La_closed 18 = .ok (.ireturn, 1) := by decide +kernel
abbrev c_La_waive : ByteArray := method_14_code
abbrev r_La_waive : Option FieldType := (some FieldType.int)
def y_La_waive : MethodName := ⟨"PinKindChecksLaw", "waive", "(LPinKindChecks;IIII[J)I"⟩
theorem d_La_waive_0 : decode c_La_waive 0 = .ok (.aload 5, 2) := by decide +kernel
theorem d_La_waive_2 : decode c_La_waive 2 = .ok (.iconst 0, 1) := by decide +kernel
theorem d_La_waive_3 : decode c_La_waive 3 = .ok (.aload_n 0, 1) := by decide +kernel
theorem d_La_waive_4 : decode c_La_waive 4 = .ok (.iload_n 1, 1) := by decide +kernel
theorem d_La_waive_5 : decode c_La_waive 5 = .ok (.iload_n 2, 1) := by decide +kernel
theorem d_La_waive_6 : decode c_La_waive 6 = .ok (.iload_n 3, 1) := by decide +kernel
theorem d_La_waive_7 : decode c_La_waive 7 = .ok (.iload 4, 2) := by decide +kernel
theorem d_La_waive_9 : decode c_La_waive 9 = .ok (.invokevirtual 57, 3) := by decide +kernel
theorem d_La_waive_12 : decode c_La_waive 12 = .ok (.ifCond .eq 7, 3) := by decide +kernel
theorem d_La_waive_15 : decode c_La_waive 15 = .ok (.lconst 1, 1) := by decide +kernel
theorem d_La_waive_16 : decode c_La_waive 16 = .ok (.goto 4, 3) := by decide +kernel
theorem d_La_waive_19 : decode c_La_waive 19 = .ok (.lconst 0, 1) := by decide +kernel
theorem d_La_waive_20 : decode c_La_waive 20 = .ok (.lastore, 1) := by decide +kernel
theorem d_La_waive_21 : decode c_La_waive 21 = .ok (.goto 11, 3) := by decide +kernel
theorem d_La_waive_24 : decode c_La_waive 24 = .ok (.astore 6, 2) := by decide +kernel
theorem d_La_waive_26 : decode c_La_waive 26 = .ok (.iconst 1, 1) := by decide +kernel
theorem d_La_waive_27 : decode c_La_waive 27 = .ok (.ireturn, 1) := by decide +kernel
theorem d_La_waive_28 : decode c_La_waive 28 = .ok (.astore 6, 2) := by decide +kernel
theorem d_La_waive_30 : decode c_La_waive 30 = .ok (.iconst 2, 1) := by decide +kernel
theorem d_La_waive_31 : decode c_La_waive 31 = .ok (.ireturn, 1) := by decide +kernel
theorem d_La_waive_32 : decode c_La_waive 32 = .ok (.iconst 0, 1) := by decide +kernel
theorem d_La_waive_33 : decode c_La_waive 33 = .ok (.ireturn, 1) := by decide +kernel
end
section
theorem d_La_law_0 : decode code 0 = .ok (.new 8, 3) := by decide +kernel
theorem d_La_law_3 : decode code 3 = .ok (.dup, 1) := by decide +kernel
theorem d_La_law_4 : decode code 4 = .ok (.invokespecial 61, 3) := by decide +kernel
theorem d_La_law_7 : decode code 7 = .ok (.astore_n 1, 1) := by decide +kernel
theorem d_La_law_8 : decode code 8 = .ok (.new 62, 3) := by decide +kernel
theorem d_La_law_11 : decode code 11 = .ok (.dup, 1) := by decide +kernel
theorem d_La_law_12 : decode code 12 = .ok (.invokespecial 64, 3) := by decide +kernel
theorem d_La_law_15 : decode code 15 = .ok (.astore_n 2, 1) := by decide +kernel
theorem d_La_law_16 : decode code 16 = .ok (.iconst 1, 1) := by decide +kernel
theorem d_La_law_17 : decode code 17 = .ok (.newarray .long, 2) := by decide +kernel
theorem d_La_law_19 : decode code 19 = .ok (.astore_n 3, 1) := by decide +kernel
theorem d_La_law_20 : decode code 20 = .ok (.iconst 0, 1) := by decide +kernel
theorem d_La_law_21 : decode code 21 = .ok (.istore 4, 2) := by decide +kernel
theorem d_La_law_23 : decode code 23 = .ok (.iload 4, 2) := by decide +kernel
theorem d_La_law_25 : decode code 25 = .ok (.aload_n 0, 1) := by decide +kernel
theorem d_La_law_26 : decode code 26 = .ok (.arraylength, 1) := by decide +kernel
theorem d_La_law_27 : decode code 27 = .ok (.bipush 6, 2) := by decide +kernel
theorem d_La_law_29 : decode code 29 = .ok (.isub, 1) := by decide +kernel
theorem d_La_law_30 : decode code 30 = .ok (.if_icmp .gt 1193, 3) := by decide +kernel
theorem d_La_law_33 : decode code 33 = .ok (.aload_n 0, 1) := by decide +kernel
theorem d_La_law_34 : decode code 34 = .ok (.iload 4, 2) := by decide +kernel
theorem d_La_law_36 : decode code 36 = .ok (.iaload, 1) := by decide +kernel
theorem d_La_law_37 : decode code 37 = .ok (.bipush 31, 2) := by decide +kernel
theorem d_La_law_39 : decode code 39 = .ok (.iand, 1) := by decide +kernel
theorem d_La_law_40 : decode code 40 = .ok (.tableswitch 1177 0 16 #[84, 171, 227, 295, 375, 450, 569, 720, 745, 789, 880, 893, 961, 1029, 1128, 1141, 1166], 84) := by decide +kernel
theorem d_La_law_124 : decode code 124 = .ok (.aload_n 1, 1) := by decide +kernel
theorem d_La_law_125 : decode code 125 = .ok (.aload_n 0, 1) := by decide +kernel
theorem d_La_law_126 : decode code 126 = .ok (.iload 4, 2) := by decide +kernel
theorem d_La_law_128 : decode code 128 = .ok (.iconst 1, 1) := by decide +kernel
theorem d_La_law_129 : decode code 129 = .ok (.iadd, 1) := by decide +kernel
theorem d_La_law_130 : decode code 130 = .ok (.iaload, 1) := by decide +kernel
theorem d_La_law_131 : decode code 131 = .ok (.aload_n 0, 1) := by decide +kernel
theorem d_La_law_132 : decode code 132 = .ok (.iload 4, 2) := by decide +kernel
theorem d_La_law_134 : decode code 134 = .ok (.iconst 2, 1) := by decide +kernel
theorem d_La_law_135 : decode code 135 = .ok (.iadd, 1) := by decide +kernel
theorem d_La_law_136 : decode code 136 = .ok (.iaload, 1) := by decide +kernel
theorem d_La_law_137 : decode code 137 = .ok (.aload_n 0, 1) := by decide +kernel
theorem d_La_law_138 : decode code 138 = .ok (.iload 4, 2) := by decide +kernel
theorem d_La_law_140 : decode code 140 = .ok (.iconst 3, 1) := by decide +kernel
theorem d_La_law_141 : decode code 141 = .ok (.iadd, 1) := by decide +kernel
theorem d_La_law_142 : decode code 142 = .ok (.iaload, 1) := by decide +kernel
theorem d_La_law_143 : decode code 143 = .ok (.aload_n 3, 1) := by decide +kernel
theorem d_La_law_144 : decode code 144 = .ok (.invokestatic 65, 3) := by decide +kernel
theorem d_La_law_147 : decode code 147 = .ok (.istore 5, 2) := by decide +kernel
theorem d_La_law_149 : decode code 149 = .ok (.aload_n 2, 1) := by decide +kernel
theorem d_La_law_150 : decode code 150 = .ok (.aload_n 0, 1) := by decide +kernel
theorem d_La_law_151 : decode code 151 = .ok (.iload 4, 2) := by decide +kernel
theorem d_La_law_153 : decode code 153 = .ok (.iconst 1, 1) := by decide +kernel
theorem d_La_law_154 : decode code 154 = .ok (.iadd, 1) := by decide +kernel
theorem d_La_law_155 : decode code 155 = .ok (.iaload, 1) := by decide +kernel
theorem d_La_law_156 : decode code 156 = .ok (.aload_n 0, 1) := by decide +kernel
theorem d_La_law_157 : decode code 157 = .ok (.iload 4, 2) := by decide +kernel
theorem d_La_law_159 : decode code 159 = .ok (.iconst 2, 1) := by decide +kernel
theorem d_La_law_160 : decode code 160 = .ok (.iadd, 1) := by decide +kernel
theorem d_La_law_161 : decode code 161 = .ok (.iaload, 1) := by decide +kernel
theorem d_La_law_162 : decode code 162 = .ok (.aload_n 0, 1) := by decide +kernel
theorem d_La_law_163 : decode code 163 = .ok (.iload 4, 2) := by decide +kernel
theorem d_La_law_165 : decode code 165 = .ok (.iconst 3, 1) := by decide +kernel
theorem d_La_law_166 : decode code 166 = .ok (.iadd, 1) := by decide +kernel
theorem d_La_law_167 : decode code 167 = .ok (.iaload, 1) := by decide +kernel
theorem d_La_law_168 : decode code 168 = .ok (.invokevirtual 70, 3) := by decide +kernel
theorem d_La_law_171 : decode code 171 = .ok (.istore 6, 2) := by decide +kernel
theorem d_La_law_173 : decode code 173 = .ok (.aload_n 2, 1) := by decide +kernel
theorem d_La_law_174 : decode code 174 = .ok (.invokevirtual 71, 3) := by decide +kernel
theorem d_La_law_177 : decode code 177 = .ok (.iload 5, 2) := by decide +kernel
theorem d_La_law_179 : decode code 179 = .ok (.if_icmp .eq 5, 3) := by decide +kernel
theorem d_La_law_182 : decode code 182 = .ok (.iconst 0, 1) := by decide +kernel
theorem d_La_law_183 : decode code 183 = .ok (.ireturn, 1) := by decide +kernel
theorem d_La_law_184 : decode code 184 = .ok (.iload 5, 2) := by decide +kernel
theorem d_La_law_186 : decode code 186 = .ok (.ifCond .ne 22, 3) := by decide +kernel
theorem d_La_law_189 : decode code 189 = .ok (.aload_n 3, 1) := by decide +kernel
theorem d_La_law_190 : decode code 190 = .ok (.iconst 0, 1) := by decide +kernel
theorem d_La_law_191 : decode code 191 = .ok (.laload, 1) := by decide +kernel
theorem d_La_law_192 : decode code 192 = .ok (.iload 6, 2) := by decide +kernel
theorem d_La_law_194 : decode code 194 = .ok (.ifCond .eq 7, 3) := by decide +kernel
theorem d_La_law_197 : decode code 197 = .ok (.lconst 1, 1) := by decide +kernel
theorem d_La_law_198 : decode code 198 = .ok (.goto 4, 3) := by decide +kernel
theorem d_La_law_201 : decode code 201 = .ok (.lconst 0, 1) := by decide +kernel
theorem d_La_law_202 : decode code 202 = .ok (.lcmp, 1) := by decide +kernel
theorem d_La_law_203 : decode code 203 = .ok (.ifCond .eq 5, 3) := by decide +kernel
theorem d_La_law_206 : decode code 206 = .ok (.iconst 0, 1) := by decide +kernel
theorem d_La_law_207 : decode code 207 = .ok (.ireturn, 1) := by decide +kernel
theorem d_La_law_208 : decode code 208 = .ok (.goto 1009, 3) := by decide +kernel
theorem d_La_law_211 : decode code 211 = .ok (.aload_n 1, 1) := by decide +kernel
theorem d_La_law_212 : decode code 212 = .ok (.aload_n 0, 1) := by decide +kernel
theorem d_La_law_213 : decode code 213 = .ok (.iload 4, 2) := by decide +kernel
theorem d_La_law_215 : decode code 215 = .ok (.iconst 1, 1) := by decide +kernel
theorem d_La_law_216 : decode code 216 = .ok (.iadd, 1) := by decide +kernel
theorem d_La_law_217 : decode code 217 = .ok (.iaload, 1) := by decide +kernel
theorem d_La_law_218 : decode code 218 = .ok (.aload_n 3, 1) := by decide +kernel
theorem d_La_law_219 : decode code 219 = .ok (.invokestatic 74, 3) := by decide +kernel
theorem d_La_law_222 : decode code 222 = .ok (.istore 5, 2) := by decide +kernel
theorem d_La_law_224 : decode code 224 = .ok (.aload_n 2, 1) := by decide +kernel
theorem d_La_law_225 : decode code 225 = .ok (.aload_n 0, 1) := by decide +kernel
theorem d_La_law_226 : decode code 226 = .ok (.iload 4, 2) := by decide +kernel
theorem d_La_law_228 : decode code 228 = .ok (.iconst 1, 1) := by decide +kernel
theorem d_La_law_229 : decode code 229 = .ok (.iadd, 1) := by decide +kernel
theorem d_La_law_230 : decode code 230 = .ok (.iaload, 1) := by decide +kernel
theorem d_La_law_231 : decode code 231 = .ok (.invokevirtual 77, 3) := by decide +kernel
theorem d_La_law_234 : decode code 234 = .ok (.istore 6, 2) := by decide +kernel
theorem d_La_law_236 : decode code 236 = .ok (.aload_n 2, 1) := by decide +kernel
theorem d_La_law_237 : decode code 237 = .ok (.invokevirtual 71, 3) := by decide +kernel
theorem d_La_law_240 : decode code 240 = .ok (.iload 5, 2) := by decide +kernel
theorem d_La_law_242 : decode code 242 = .ok (.if_icmp .eq 5, 3) := by decide +kernel
theorem d_La_law_245 : decode code 245 = .ok (.iconst 0, 1) := by decide +kernel
theorem d_La_law_246 : decode code 246 = .ok (.ireturn, 1) := by decide +kernel
theorem d_La_law_247 : decode code 247 = .ok (.iload 5, 2) := by decide +kernel
theorem d_La_law_249 : decode code 249 = .ok (.ifCond .ne 15, 3) := by decide +kernel
theorem d_La_law_252 : decode code 252 = .ok (.aload_n 3, 1) := by decide +kernel
theorem d_La_law_253 : decode code 253 = .ok (.iconst 0, 1) := by decide +kernel
theorem d_La_law_254 : decode code 254 = .ok (.laload, 1) := by decide +kernel
theorem d_La_law_255 : decode code 255 = .ok (.iload 6, 2) := by decide +kernel
theorem d_La_law_257 : decode code 257 = .ok (.i2l, 1) := by decide +kernel
theorem d_La_law_258 : decode code 258 = .ok (.lcmp, 1) := by decide +kernel
theorem d_La_law_259 : decode code 259 = .ok (.ifCond .eq 5, 3) := by decide +kernel
theorem d_La_law_262 : decode code 262 = .ok (.iconst 0, 1) := by decide +kernel
theorem d_La_law_263 : decode code 263 = .ok (.ireturn, 1) := by decide +kernel
theorem d_La_law_264 : decode code 264 = .ok (.goto 953, 3) := by decide +kernel
theorem d_La_law_267 : decode code 267 = .ok (.aload_n 1, 1) := by decide +kernel
theorem d_La_law_268 : decode code 268 = .ok (.aload_n 0, 1) := by decide +kernel
theorem d_La_law_269 : decode code 269 = .ok (.iload 4, 2) := by decide +kernel
theorem d_La_law_271 : decode code 271 = .ok (.iconst 1, 1) := by decide +kernel
theorem d_La_law_272 : decode code 272 = .ok (.iadd, 1) := by decide +kernel
theorem d_La_law_273 : decode code 273 = .ok (.iaload, 1) := by decide +kernel
theorem d_La_law_274 : decode code 274 = .ok (.aload_n 0, 1) := by decide +kernel
theorem d_La_law_275 : decode code 275 = .ok (.iload 4, 2) := by decide +kernel
theorem d_La_law_277 : decode code 277 = .ok (.iconst 2, 1) := by decide +kernel
theorem d_La_law_278 : decode code 278 = .ok (.iadd, 1) := by decide +kernel
theorem d_La_law_279 : decode code 279 = .ok (.iaload, 1) := by decide +kernel
theorem d_La_law_280 : decode code 280 = .ok (.aload_n 3, 1) := by decide +kernel
theorem d_La_law_281 : decode code 281 = .ok (.invokestatic 78, 3) := by decide +kernel
theorem d_La_law_284 : decode code 284 = .ok (.istore 5, 2) := by decide +kernel
theorem d_La_law_286 : decode code 286 = .ok (.aload_n 2, 1) := by decide +kernel
theorem d_La_law_287 : decode code 287 = .ok (.aload_n 0, 1) := by decide +kernel
theorem d_La_law_288 : decode code 288 = .ok (.iload 4, 2) := by decide +kernel
theorem d_La_law_290 : decode code 290 = .ok (.iconst 1, 1) := by decide +kernel
theorem d_La_law_291 : decode code 291 = .ok (.iadd, 1) := by decide +kernel
theorem d_La_law_292 : decode code 292 = .ok (.iaload, 1) := by decide +kernel
theorem d_La_law_293 : decode code 293 = .ok (.aload_n 0, 1) := by decide +kernel
theorem d_La_law_294 : decode code 294 = .ok (.iload 4, 2) := by decide +kernel
theorem d_La_law_296 : decode code 296 = .ok (.iconst 2, 1) := by decide +kernel
theorem d_La_law_297 : decode code 297 = .ok (.iadd, 1) := by decide +kernel
theorem d_La_law_298 : decode code 298 = .ok (.iaload, 1) := by decide +kernel
theorem d_La_law_299 : decode code 299 = .ok (.invokevirtual 81, 3) := by decide +kernel
theorem d_La_law_302 : decode code 302 = .ok (.istore 6, 2) := by decide +kernel
theorem d_La_law_304 : decode code 304 = .ok (.aload_n 2, 1) := by decide +kernel
theorem d_La_law_305 : decode code 305 = .ok (.invokevirtual 71, 3) := by decide +kernel
theorem d_La_law_308 : decode code 308 = .ok (.iload 5, 2) := by decide +kernel
theorem d_La_law_310 : decode code 310 = .ok (.if_icmp .eq 5, 3) := by decide +kernel
theorem d_La_law_313 : decode code 313 = .ok (.iconst 0, 1) := by decide +kernel
theorem d_La_law_314 : decode code 314 = .ok (.ireturn, 1) := by decide +kernel
theorem d_La_law_315 : decode code 315 = .ok (.iload 5, 2) := by decide +kernel
theorem d_La_law_317 : decode code 317 = .ok (.ifCond .ne 15, 3) := by decide +kernel
theorem d_La_law_320 : decode code 320 = .ok (.aload_n 3, 1) := by decide +kernel
theorem d_La_law_321 : decode code 321 = .ok (.iconst 0, 1) := by decide +kernel
theorem d_La_law_322 : decode code 322 = .ok (.laload, 1) := by decide +kernel
theorem d_La_law_323 : decode code 323 = .ok (.iload 6, 2) := by decide +kernel
theorem d_La_law_325 : decode code 325 = .ok (.i2l, 1) := by decide +kernel
theorem d_La_law_326 : decode code 326 = .ok (.lcmp, 1) := by decide +kernel
theorem d_La_law_327 : decode code 327 = .ok (.ifCond .eq 5, 3) := by decide +kernel
theorem d_La_law_330 : decode code 330 = .ok (.iconst 0, 1) := by decide +kernel
theorem d_La_law_331 : decode code 331 = .ok (.ireturn, 1) := by decide +kernel
theorem d_La_law_332 : decode code 332 = .ok (.goto 885, 3) := by decide +kernel
theorem d_La_law_335 : decode code 335 = .ok (.aload_n 1, 1) := by decide +kernel
theorem d_La_law_336 : decode code 336 = .ok (.aload_n 0, 1) := by decide +kernel
theorem d_La_law_337 : decode code 337 = .ok (.iload 4, 2) := by decide +kernel
theorem d_La_law_339 : decode code 339 = .ok (.iconst 1, 1) := by decide +kernel
theorem d_La_law_340 : decode code 340 = .ok (.iadd, 1) := by decide +kernel
theorem d_La_law_341 : decode code 341 = .ok (.iaload, 1) := by decide +kernel
theorem d_La_law_342 : decode code 342 = .ok (.aload_n 0, 1) := by decide +kernel
theorem d_La_law_343 : decode code 343 = .ok (.iload 4, 2) := by decide +kernel
theorem d_La_law_345 : decode code 345 = .ok (.iconst 2, 1) := by decide +kernel
theorem d_La_law_346 : decode code 346 = .ok (.iadd, 1) := by decide +kernel
theorem d_La_law_347 : decode code 347 = .ok (.iaload, 1) := by decide +kernel
theorem d_La_law_348 : decode code 348 = .ok (.aload_n 0, 1) := by decide +kernel
theorem d_La_law_349 : decode code 349 = .ok (.iload 4, 2) := by decide +kernel
theorem d_La_law_351 : decode code 351 = .ok (.iconst 3, 1) := by decide +kernel
theorem d_La_law_352 : decode code 352 = .ok (.iadd, 1) := by decide +kernel
theorem d_La_law_353 : decode code 353 = .ok (.iaload, 1) := by decide +kernel
theorem d_La_law_354 : decode code 354 = .ok (.aload_n 3, 1) := by decide +kernel
theorem d_La_law_355 : decode code 355 = .ok (.invokestatic 82, 3) := by decide +kernel
theorem d_La_law_358 : decode code 358 = .ok (.istore 5, 2) := by decide +kernel
theorem d_La_law_360 : decode code 360 = .ok (.aload_n 2, 1) := by decide +kernel
theorem d_La_law_361 : decode code 361 = .ok (.aload_n 0, 1) := by decide +kernel
theorem d_La_law_362 : decode code 362 = .ok (.iload 4, 2) := by decide +kernel
theorem d_La_law_364 : decode code 364 = .ok (.iconst 1, 1) := by decide +kernel
theorem d_La_law_365 : decode code 365 = .ok (.iadd, 1) := by decide +kernel
theorem d_La_law_366 : decode code 366 = .ok (.iaload, 1) := by decide +kernel
theorem d_La_law_367 : decode code 367 = .ok (.aload_n 0, 1) := by decide +kernel
theorem d_La_law_368 : decode code 368 = .ok (.iload 4, 2) := by decide +kernel
theorem d_La_law_370 : decode code 370 = .ok (.iconst 2, 1) := by decide +kernel
theorem d_La_law_371 : decode code 371 = .ok (.iadd, 1) := by decide +kernel
theorem d_La_law_372 : decode code 372 = .ok (.iaload, 1) := by decide +kernel
theorem d_La_law_373 : decode code 373 = .ok (.aload_n 0, 1) := by decide +kernel
theorem d_La_law_374 : decode code 374 = .ok (.iload 4, 2) := by decide +kernel
theorem d_La_law_376 : decode code 376 = .ok (.iconst 3, 1) := by decide +kernel
theorem d_La_law_377 : decode code 377 = .ok (.iadd, 1) := by decide +kernel
theorem d_La_law_378 : decode code 378 = .ok (.iaload, 1) := by decide +kernel
theorem d_La_law_379 : decode code 379 = .ok (.invokevirtual 84, 3) := by decide +kernel
theorem d_La_law_382 : decode code 382 = .ok (.istore 6, 2) := by decide +kernel
theorem d_La_law_384 : decode code 384 = .ok (.aload_n 2, 1) := by decide +kernel
theorem d_La_law_385 : decode code 385 = .ok (.invokevirtual 71, 3) := by decide +kernel
theorem d_La_law_388 : decode code 388 = .ok (.iload 5, 2) := by decide +kernel
theorem d_La_law_390 : decode code 390 = .ok (.if_icmp .eq 5, 3) := by decide +kernel
theorem d_La_law_393 : decode code 393 = .ok (.iconst 0, 1) := by decide +kernel
theorem d_La_law_394 : decode code 394 = .ok (.ireturn, 1) := by decide +kernel
theorem d_La_law_395 : decode code 395 = .ok (.iload 5, 2) := by decide +kernel
theorem d_La_law_397 : decode code 397 = .ok (.ifCond .ne 15, 3) := by decide +kernel
theorem d_La_law_400 : decode code 400 = .ok (.aload_n 3, 1) := by decide +kernel
theorem d_La_law_401 : decode code 401 = .ok (.iconst 0, 1) := by decide +kernel
theorem d_La_law_402 : decode code 402 = .ok (.laload, 1) := by decide +kernel
theorem d_La_law_403 : decode code 403 = .ok (.iload 6, 2) := by decide +kernel
theorem d_La_law_405 : decode code 405 = .ok (.i2l, 1) := by decide +kernel
theorem d_La_law_406 : decode code 406 = .ok (.lcmp, 1) := by decide +kernel
theorem d_La_law_407 : decode code 407 = .ok (.ifCond .eq 5, 3) := by decide +kernel
theorem d_La_law_410 : decode code 410 = .ok (.iconst 0, 1) := by decide +kernel
theorem d_La_law_411 : decode code 411 = .ok (.ireturn, 1) := by decide +kernel
theorem d_La_law_412 : decode code 412 = .ok (.goto 805, 3) := by decide +kernel
theorem d_La_law_415 : decode code 415 = .ok (.aload_n 1, 1) := by decide +kernel
theorem d_La_law_416 : decode code 416 = .ok (.aload_n 0, 1) := by decide +kernel
theorem d_La_law_417 : decode code 417 = .ok (.iload 4, 2) := by decide +kernel
theorem d_La_law_419 : decode code 419 = .ok (.iconst 1, 1) := by decide +kernel
theorem d_La_law_420 : decode code 420 = .ok (.iadd, 1) := by decide +kernel
theorem d_La_law_421 : decode code 421 = .ok (.iaload, 1) := by decide +kernel
theorem d_La_law_422 : decode code 422 = .ok (.aload_n 0, 1) := by decide +kernel
theorem d_La_law_423 : decode code 423 = .ok (.iload 4, 2) := by decide +kernel
theorem d_La_law_425 : decode code 425 = .ok (.iconst 2, 1) := by decide +kernel
theorem d_La_law_426 : decode code 426 = .ok (.iadd, 1) := by decide +kernel
theorem d_La_law_427 : decode code 427 = .ok (.iaload, 1) := by decide +kernel
theorem d_La_law_428 : decode code 428 = .ok (.aload_n 3, 1) := by decide +kernel
theorem d_La_law_429 : decode code 429 = .ok (.invokestatic 85, 3) := by decide +kernel
theorem d_La_law_432 : decode code 432 = .ok (.istore 5, 2) := by decide +kernel
theorem d_La_law_434 : decode code 434 = .ok (.aload_n 2, 1) := by decide +kernel
theorem d_La_law_435 : decode code 435 = .ok (.aload_n 0, 1) := by decide +kernel
theorem d_La_law_436 : decode code 436 = .ok (.iload 4, 2) := by decide +kernel
theorem d_La_law_438 : decode code 438 = .ok (.iconst 1, 1) := by decide +kernel
theorem d_La_law_439 : decode code 439 = .ok (.iadd, 1) := by decide +kernel
theorem d_La_law_440 : decode code 440 = .ok (.iaload, 1) := by decide +kernel
theorem d_La_law_441 : decode code 441 = .ok (.aload_n 0, 1) := by decide +kernel
theorem d_La_law_442 : decode code 442 = .ok (.iload 4, 2) := by decide +kernel
theorem d_La_law_444 : decode code 444 = .ok (.iconst 2, 1) := by decide +kernel
theorem d_La_law_445 : decode code 445 = .ok (.iadd, 1) := by decide +kernel
theorem d_La_law_446 : decode code 446 = .ok (.iaload, 1) := by decide +kernel
theorem d_La_law_447 : decode code 447 = .ok (.invokevirtual 87, 3) := by decide +kernel
theorem d_La_law_450 : decode code 450 = .ok (.istore 6, 2) := by decide +kernel
theorem d_La_law_452 : decode code 452 = .ok (.aload_n 2, 1) := by decide +kernel
theorem d_La_law_453 : decode code 453 = .ok (.invokevirtual 71, 3) := by decide +kernel
theorem d_La_law_456 : decode code 456 = .ok (.iload 5, 2) := by decide +kernel
theorem d_La_law_458 : decode code 458 = .ok (.if_icmp .eq 5, 3) := by decide +kernel
theorem d_La_law_461 : decode code 461 = .ok (.iconst 0, 1) := by decide +kernel
theorem d_La_law_462 : decode code 462 = .ok (.ireturn, 1) := by decide +kernel
theorem d_La_law_463 : decode code 463 = .ok (.iload 5, 2) := by decide +kernel
theorem d_La_law_465 : decode code 465 = .ok (.ifCond .ne 22, 3) := by decide +kernel
theorem d_La_law_468 : decode code 468 = .ok (.aload_n 3, 1) := by decide +kernel
theorem d_La_law_469 : decode code 469 = .ok (.iconst 0, 1) := by decide +kernel
theorem d_La_law_470 : decode code 470 = .ok (.laload, 1) := by decide +kernel
theorem d_La_law_471 : decode code 471 = .ok (.iload 6, 2) := by decide +kernel
theorem d_La_law_473 : decode code 473 = .ok (.ifCond .eq 7, 3) := by decide +kernel
theorem d_La_law_476 : decode code 476 = .ok (.lconst 1, 1) := by decide +kernel
theorem d_La_law_477 : decode code 477 = .ok (.goto 4, 3) := by decide +kernel
theorem d_La_law_480 : decode code 480 = .ok (.lconst 0, 1) := by decide +kernel
theorem d_La_law_481 : decode code 481 = .ok (.lcmp, 1) := by decide +kernel
theorem d_La_law_482 : decode code 482 = .ok (.ifCond .eq 5, 3) := by decide +kernel
theorem d_La_law_485 : decode code 485 = .ok (.iconst 0, 1) := by decide +kernel
theorem d_La_law_486 : decode code 486 = .ok (.ireturn, 1) := by decide +kernel
theorem d_La_law_487 : decode code 487 = .ok (.goto 730, 3) := by decide +kernel
theorem d_La_law_490 : decode code 490 = .ok (.aload_n 1, 1) := by decide +kernel
theorem d_La_law_491 : decode code 491 = .ok (.aload_n 0, 1) := by decide +kernel
theorem d_La_law_492 : decode code 492 = .ok (.iload 4, 2) := by decide +kernel
theorem d_La_law_494 : decode code 494 = .ok (.iconst 1, 1) := by decide +kernel
theorem d_La_law_495 : decode code 495 = .ok (.iadd, 1) := by decide +kernel
theorem d_La_law_496 : decode code 496 = .ok (.iaload, 1) := by decide +kernel
theorem d_La_law_497 : decode code 497 = .ok (.aload_n 0, 1) := by decide +kernel
theorem d_La_law_498 : decode code 498 = .ok (.iload 4, 2) := by decide +kernel
theorem d_La_law_500 : decode code 500 = .ok (.iconst 2, 1) := by decide +kernel
theorem d_La_law_501 : decode code 501 = .ok (.iadd, 1) := by decide +kernel
theorem d_La_law_502 : decode code 502 = .ok (.iaload, 1) := by decide +kernel
theorem d_La_law_503 : decode code 503 = .ok (.aload_n 0, 1) := by decide +kernel
theorem d_La_law_504 : decode code 504 = .ok (.iload 4, 2) := by decide +kernel
theorem d_La_law_506 : decode code 506 = .ok (.iconst 3, 1) := by decide +kernel
theorem d_La_law_507 : decode code 507 = .ok (.iadd, 1) := by decide +kernel
theorem d_La_law_508 : decode code 508 = .ok (.iaload, 1) := by decide +kernel
theorem d_La_law_509 : decode code 509 = .ok (.i2l, 1) := by decide +kernel
theorem d_La_law_510 : decode code 510 = .ok (.bipush 32, 2) := by decide +kernel
theorem d_La_law_512 : decode code 512 = .ok (.lshl, 1) := by decide +kernel
theorem d_La_law_513 : decode code 513 = .ok (.aload_n 0, 1) := by decide +kernel
theorem d_La_law_514 : decode code 514 = .ok (.iload 4, 2) := by decide +kernel
theorem d_La_law_516 : decode code 516 = .ok (.iconst 4, 1) := by decide +kernel
theorem d_La_law_517 : decode code 517 = .ok (.iadd, 1) := by decide +kernel
theorem d_La_law_518 : decode code 518 = .ok (.iaload, 1) := by decide +kernel
theorem d_La_law_519 : decode code 519 = .ok (.i2l, 1) := by decide +kernel
theorem d_La_law_520 : decode code 520 = .ok (.ldc2_w 88, 3) := by decide +kernel
theorem d_La_law_523 : decode code 523 = .ok (.land, 1) := by decide +kernel
theorem d_La_law_524 : decode code 524 = .ok (.lor, 1) := by decide +kernel
theorem d_La_law_525 : decode code 525 = .ok (.aload_n 3, 1) := by decide +kernel
theorem d_La_law_526 : decode code 526 = .ok (.invokestatic 90, 3) := by decide +kernel
theorem d_La_law_529 : decode code 529 = .ok (.istore 5, 2) := by decide +kernel
theorem d_La_law_531 : decode code 531 = .ok (.aload_n 2, 1) := by decide +kernel
theorem d_La_law_532 : decode code 532 = .ok (.aload_n 0, 1) := by decide +kernel
theorem d_La_law_533 : decode code 533 = .ok (.iload 4, 2) := by decide +kernel
theorem d_La_law_535 : decode code 535 = .ok (.iconst 1, 1) := by decide +kernel
theorem d_La_law_536 : decode code 536 = .ok (.iadd, 1) := by decide +kernel
theorem d_La_law_537 : decode code 537 = .ok (.iaload, 1) := by decide +kernel
theorem d_La_law_538 : decode code 538 = .ok (.aload_n 0, 1) := by decide +kernel
theorem d_La_law_539 : decode code 539 = .ok (.iload 4, 2) := by decide +kernel
theorem d_La_law_541 : decode code 541 = .ok (.iconst 2, 1) := by decide +kernel
theorem d_La_law_542 : decode code 542 = .ok (.iadd, 1) := by decide +kernel
theorem d_La_law_543 : decode code 543 = .ok (.iaload, 1) := by decide +kernel
theorem d_La_law_544 : decode code 544 = .ok (.aload_n 0, 1) := by decide +kernel
theorem d_La_law_545 : decode code 545 = .ok (.iload 4, 2) := by decide +kernel
theorem d_La_law_547 : decode code 547 = .ok (.iconst 3, 1) := by decide +kernel
theorem d_La_law_548 : decode code 548 = .ok (.iadd, 1) := by decide +kernel
theorem d_La_law_549 : decode code 549 = .ok (.iaload, 1) := by decide +kernel
theorem d_La_law_550 : decode code 550 = .ok (.i2l, 1) := by decide +kernel
theorem d_La_law_551 : decode code 551 = .ok (.bipush 32, 2) := by decide +kernel
theorem d_La_law_553 : decode code 553 = .ok (.lshl, 1) := by decide +kernel
theorem d_La_law_554 : decode code 554 = .ok (.aload_n 0, 1) := by decide +kernel
theorem d_La_law_555 : decode code 555 = .ok (.iload 4, 2) := by decide +kernel
theorem d_La_law_557 : decode code 557 = .ok (.iconst 4, 1) := by decide +kernel
theorem d_La_law_558 : decode code 558 = .ok (.iadd, 1) := by decide +kernel
theorem d_La_law_559 : decode code 559 = .ok (.iaload, 1) := by decide +kernel
theorem d_La_law_560 : decode code 560 = .ok (.i2l, 1) := by decide +kernel
theorem d_La_law_561 : decode code 561 = .ok (.ldc2_w 88, 3) := by decide +kernel
theorem d_La_law_564 : decode code 564 = .ok (.land, 1) := by decide +kernel
theorem d_La_law_565 : decode code 565 = .ok (.lor, 1) := by decide +kernel
theorem d_La_law_566 : decode code 566 = .ok (.invokevirtual 93, 3) := by decide +kernel
theorem d_La_law_569 : decode code 569 = .ok (.istore 6, 2) := by decide +kernel
theorem d_La_law_571 : decode code 571 = .ok (.aload_n 2, 1) := by decide +kernel
theorem d_La_law_572 : decode code 572 = .ok (.invokevirtual 71, 3) := by decide +kernel
theorem d_La_law_575 : decode code 575 = .ok (.iload 5, 2) := by decide +kernel
theorem d_La_law_577 : decode code 577 = .ok (.if_icmp .eq 5, 3) := by decide +kernel
theorem d_La_law_580 : decode code 580 = .ok (.iconst 0, 1) := by decide +kernel
theorem d_La_law_581 : decode code 581 = .ok (.ireturn, 1) := by decide +kernel
theorem d_La_law_582 : decode code 582 = .ok (.iload 5, 2) := by decide +kernel
theorem d_La_law_584 : decode code 584 = .ok (.ifCond .ne 22, 3) := by decide +kernel
theorem d_La_law_587 : decode code 587 = .ok (.aload_n 3, 1) := by decide +kernel
theorem d_La_law_588 : decode code 588 = .ok (.iconst 0, 1) := by decide +kernel
theorem d_La_law_589 : decode code 589 = .ok (.laload, 1) := by decide +kernel
theorem d_La_law_590 : decode code 590 = .ok (.iload 6, 2) := by decide +kernel
theorem d_La_law_592 : decode code 592 = .ok (.ifCond .eq 7, 3) := by decide +kernel
theorem d_La_law_595 : decode code 595 = .ok (.lconst 1, 1) := by decide +kernel
theorem d_La_law_596 : decode code 596 = .ok (.goto 4, 3) := by decide +kernel
theorem d_La_law_599 : decode code 599 = .ok (.lconst 0, 1) := by decide +kernel
theorem d_La_law_600 : decode code 600 = .ok (.lcmp, 1) := by decide +kernel
theorem d_La_law_601 : decode code 601 = .ok (.ifCond .eq 5, 3) := by decide +kernel
theorem d_La_law_604 : decode code 604 = .ok (.iconst 0, 1) := by decide +kernel
theorem d_La_law_605 : decode code 605 = .ok (.ireturn, 1) := by decide +kernel
theorem d_La_law_606 : decode code 606 = .ok (.goto 611, 3) := by decide +kernel
theorem d_La_law_609 : decode code 609 = .ok (.aload_n 1, 1) := by decide +kernel
theorem d_La_law_610 : decode code 610 = .ok (.aload_n 0, 1) := by decide +kernel
theorem d_La_law_611 : decode code 611 = .ok (.iload 4, 2) := by decide +kernel
theorem d_La_law_613 : decode code 613 = .ok (.iconst 1, 1) := by decide +kernel
theorem d_La_law_614 : decode code 614 = .ok (.iadd, 1) := by decide +kernel
theorem d_La_law_615 : decode code 615 = .ok (.iaload, 1) := by decide +kernel
theorem d_La_law_616 : decode code 616 = .ok (.aload_n 0, 1) := by decide +kernel
theorem d_La_law_617 : decode code 617 = .ok (.iload 4, 2) := by decide +kernel
theorem d_La_law_619 : decode code 619 = .ok (.iconst 2, 1) := by decide +kernel
theorem d_La_law_620 : decode code 620 = .ok (.iadd, 1) := by decide +kernel
theorem d_La_law_621 : decode code 621 = .ok (.iaload, 1) := by decide +kernel
theorem d_La_law_622 : decode code 622 = .ok (.i2l, 1) := by decide +kernel
theorem d_La_law_623 : decode code 623 = .ok (.bipush 32, 2) := by decide +kernel
theorem d_La_law_625 : decode code 625 = .ok (.lshl, 1) := by decide +kernel
theorem d_La_law_626 : decode code 626 = .ok (.aload_n 0, 1) := by decide +kernel
theorem d_La_law_627 : decode code 627 = .ok (.iload 4, 2) := by decide +kernel
theorem d_La_law_629 : decode code 629 = .ok (.iconst 3, 1) := by decide +kernel
theorem d_La_law_630 : decode code 630 = .ok (.iadd, 1) := by decide +kernel
theorem d_La_law_631 : decode code 631 = .ok (.iaload, 1) := by decide +kernel
theorem d_La_law_632 : decode code 632 = .ok (.i2l, 1) := by decide +kernel
theorem d_La_law_633 : decode code 633 = .ok (.ldc2_w 88, 3) := by decide +kernel
theorem d_La_law_636 : decode code 636 = .ok (.land, 1) := by decide +kernel
theorem d_La_law_637 : decode code 637 = .ok (.lor, 1) := by decide +kernel
theorem d_La_law_638 : decode code 638 = .ok (.aload_n 0, 1) := by decide +kernel
theorem d_La_law_639 : decode code 639 = .ok (.iload 4, 2) := by decide +kernel
theorem d_La_law_641 : decode code 641 = .ok (.iconst 4, 1) := by decide +kernel
theorem d_La_law_642 : decode code 642 = .ok (.iadd, 1) := by decide +kernel
theorem d_La_law_643 : decode code 643 = .ok (.iaload, 1) := by decide +kernel
theorem d_La_law_644 : decode code 644 = .ok (.i2l, 1) := by decide +kernel
theorem d_La_law_645 : decode code 645 = .ok (.bipush 32, 2) := by decide +kernel
theorem d_La_law_647 : decode code 647 = .ok (.lshl, 1) := by decide +kernel
theorem d_La_law_648 : decode code 648 = .ok (.aload_n 0, 1) := by decide +kernel
theorem d_La_law_649 : decode code 649 = .ok (.iload 4, 2) := by decide +kernel
theorem d_La_law_651 : decode code 651 = .ok (.iconst 5, 1) := by decide +kernel
theorem d_La_law_652 : decode code 652 = .ok (.iadd, 1) := by decide +kernel
theorem d_La_law_653 : decode code 653 = .ok (.iaload, 1) := by decide +kernel
theorem d_La_law_654 : decode code 654 = .ok (.i2l, 1) := by decide +kernel
theorem d_La_law_655 : decode code 655 = .ok (.ldc2_w 88, 3) := by decide +kernel
theorem d_La_law_658 : decode code 658 = .ok (.land, 1) := by decide +kernel
theorem d_La_law_659 : decode code 659 = .ok (.lor, 1) := by decide +kernel
theorem d_La_law_660 : decode code 660 = .ok (.aload_n 3, 1) := by decide +kernel
theorem d_La_law_661 : decode code 661 = .ok (.invokestatic 94, 3) := by decide +kernel
theorem d_La_law_664 : decode code 664 = .ok (.istore 5, 2) := by decide +kernel
theorem d_La_law_666 : decode code 666 = .ok (.aload_n 2, 1) := by decide +kernel
theorem d_La_law_667 : decode code 667 = .ok (.aload_n 0, 1) := by decide +kernel
theorem d_La_law_668 : decode code 668 = .ok (.iload 4, 2) := by decide +kernel
theorem d_La_law_670 : decode code 670 = .ok (.iconst 1, 1) := by decide +kernel
theorem d_La_law_671 : decode code 671 = .ok (.iadd, 1) := by decide +kernel
theorem d_La_law_672 : decode code 672 = .ok (.iaload, 1) := by decide +kernel
theorem d_La_law_673 : decode code 673 = .ok (.aload_n 0, 1) := by decide +kernel
theorem d_La_law_674 : decode code 674 = .ok (.iload 4, 2) := by decide +kernel
theorem d_La_law_676 : decode code 676 = .ok (.iconst 2, 1) := by decide +kernel
theorem d_La_law_677 : decode code 677 = .ok (.iadd, 1) := by decide +kernel
theorem d_La_law_678 : decode code 678 = .ok (.iaload, 1) := by decide +kernel
theorem d_La_law_679 : decode code 679 = .ok (.i2l, 1) := by decide +kernel
theorem d_La_law_680 : decode code 680 = .ok (.bipush 32, 2) := by decide +kernel
theorem d_La_law_682 : decode code 682 = .ok (.lshl, 1) := by decide +kernel
theorem d_La_law_683 : decode code 683 = .ok (.aload_n 0, 1) := by decide +kernel
theorem d_La_law_684 : decode code 684 = .ok (.iload 4, 2) := by decide +kernel
theorem d_La_law_686 : decode code 686 = .ok (.iconst 3, 1) := by decide +kernel
theorem d_La_law_687 : decode code 687 = .ok (.iadd, 1) := by decide +kernel
theorem d_La_law_688 : decode code 688 = .ok (.iaload, 1) := by decide +kernel
theorem d_La_law_689 : decode code 689 = .ok (.i2l, 1) := by decide +kernel
theorem d_La_law_690 : decode code 690 = .ok (.ldc2_w 88, 3) := by decide +kernel
theorem d_La_law_693 : decode code 693 = .ok (.land, 1) := by decide +kernel
theorem d_La_law_694 : decode code 694 = .ok (.lor, 1) := by decide +kernel
theorem d_La_law_695 : decode code 695 = .ok (.aload_n 0, 1) := by decide +kernel
theorem d_La_law_696 : decode code 696 = .ok (.iload 4, 2) := by decide +kernel
theorem d_La_law_698 : decode code 698 = .ok (.iconst 4, 1) := by decide +kernel
theorem d_La_law_699 : decode code 699 = .ok (.iadd, 1) := by decide +kernel
theorem d_La_law_700 : decode code 700 = .ok (.iaload, 1) := by decide +kernel
theorem d_La_law_701 : decode code 701 = .ok (.i2l, 1) := by decide +kernel
theorem d_La_law_702 : decode code 702 = .ok (.bipush 32, 2) := by decide +kernel
theorem d_La_law_704 : decode code 704 = .ok (.lshl, 1) := by decide +kernel
theorem d_La_law_705 : decode code 705 = .ok (.aload_n 0, 1) := by decide +kernel
theorem d_La_law_706 : decode code 706 = .ok (.iload 4, 2) := by decide +kernel
theorem d_La_law_708 : decode code 708 = .ok (.iconst 5, 1) := by decide +kernel
theorem d_La_law_709 : decode code 709 = .ok (.iadd, 1) := by decide +kernel
theorem d_La_law_710 : decode code 710 = .ok (.iaload, 1) := by decide +kernel
theorem d_La_law_711 : decode code 711 = .ok (.i2l, 1) := by decide +kernel
theorem d_La_law_712 : decode code 712 = .ok (.ldc2_w 88, 3) := by decide +kernel
theorem d_La_law_715 : decode code 715 = .ok (.land, 1) := by decide +kernel
theorem d_La_law_716 : decode code 716 = .ok (.lor, 1) := by decide +kernel
theorem d_La_law_717 : decode code 717 = .ok (.invokevirtual 97, 3) := by decide +kernel
theorem d_La_law_720 : decode code 720 = .ok (.istore 6, 2) := by decide +kernel
theorem d_La_law_722 : decode code 722 = .ok (.aload_n 2, 1) := by decide +kernel
theorem d_La_law_723 : decode code 723 = .ok (.invokevirtual 71, 3) := by decide +kernel
theorem d_La_law_726 : decode code 726 = .ok (.iload 5, 2) := by decide +kernel
theorem d_La_law_728 : decode code 728 = .ok (.if_icmp .eq 5, 3) := by decide +kernel
theorem d_La_law_731 : decode code 731 = .ok (.iconst 0, 1) := by decide +kernel
theorem d_La_law_732 : decode code 732 = .ok (.ireturn, 1) := by decide +kernel
theorem d_La_law_733 : decode code 733 = .ok (.iload 5, 2) := by decide +kernel
theorem d_La_law_735 : decode code 735 = .ok (.ifCond .ne 22, 3) := by decide +kernel
theorem d_La_law_738 : decode code 738 = .ok (.aload_n 3, 1) := by decide +kernel
theorem d_La_law_739 : decode code 739 = .ok (.iconst 0, 1) := by decide +kernel
theorem d_La_law_740 : decode code 740 = .ok (.laload, 1) := by decide +kernel
theorem d_La_law_741 : decode code 741 = .ok (.iload 6, 2) := by decide +kernel
theorem d_La_law_743 : decode code 743 = .ok (.ifCond .eq 7, 3) := by decide +kernel
theorem d_La_law_746 : decode code 746 = .ok (.lconst 1, 1) := by decide +kernel
theorem d_La_law_747 : decode code 747 = .ok (.goto 4, 3) := by decide +kernel
theorem d_La_law_750 : decode code 750 = .ok (.lconst 0, 1) := by decide +kernel
theorem d_La_law_751 : decode code 751 = .ok (.lcmp, 1) := by decide +kernel
theorem d_La_law_752 : decode code 752 = .ok (.ifCond .eq 5, 3) := by decide +kernel
theorem d_La_law_755 : decode code 755 = .ok (.iconst 0, 1) := by decide +kernel
theorem d_La_law_756 : decode code 756 = .ok (.ireturn, 1) := by decide +kernel
theorem d_La_law_757 : decode code 757 = .ok (.goto 460, 3) := by decide +kernel
theorem d_La_law_760 : decode code 760 = .ok (.aload_n 1, 1) := by decide +kernel
theorem d_La_law_761 : decode code 761 = .ok (.aload_n 0, 1) := by decide +kernel
theorem d_La_law_762 : decode code 762 = .ok (.iload 4, 2) := by decide +kernel
theorem d_La_law_764 : decode code 764 = .ok (.iconst 1, 1) := by decide +kernel
theorem d_La_law_765 : decode code 765 = .ok (.iadd, 1) := by decide +kernel
theorem d_La_law_766 : decode code 766 = .ok (.iaload, 1) := by decide +kernel
theorem d_La_law_767 : decode code 767 = .ok (.invokevirtual 98, 3) := by decide +kernel
theorem d_La_law_770 : decode code 770 = .ok (.aload_n 2, 1) := by decide +kernel
theorem d_La_law_771 : decode code 771 = .ok (.aload_n 0, 1) := by decide +kernel
theorem d_La_law_772 : decode code 772 = .ok (.iload 4, 2) := by decide +kernel
theorem d_La_law_774 : decode code 774 = .ok (.iconst 1, 1) := by decide +kernel
theorem d_La_law_775 : decode code 775 = .ok (.iadd, 1) := by decide +kernel
theorem d_La_law_776 : decode code 776 = .ok (.iaload, 1) := by decide +kernel
theorem d_La_law_777 : decode code 777 = .ok (.invokevirtual 102, 3) := by decide +kernel
theorem d_La_law_780 : decode code 780 = .ok (.if_icmp .eq 437, 3) := by decide +kernel
theorem d_La_law_783 : decode code 783 = .ok (.iconst 0, 1) := by decide +kernel
theorem d_La_law_784 : decode code 784 = .ok (.ireturn, 1) := by decide +kernel
theorem d_La_law_785 : decode code 785 = .ok (.aload_n 1, 1) := by decide +kernel
theorem d_La_law_786 : decode code 786 = .ok (.aload_n 3, 1) := by decide +kernel
theorem d_La_law_787 : decode code 787 = .ok (.invokestatic 103, 3) := by decide +kernel
theorem d_La_law_790 : decode code 790 = .ok (.istore 5, 2) := by decide +kernel
theorem d_La_law_792 : decode code 792 = .ok (.aload_n 2, 1) := by decide +kernel
theorem d_La_law_793 : decode code 793 = .ok (.invokevirtual 106, 3) := by decide +kernel
theorem d_La_law_796 : decode code 796 = .ok (.istore 6, 2) := by decide +kernel
theorem d_La_law_798 : decode code 798 = .ok (.aload_n 2, 1) := by decide +kernel
theorem d_La_law_799 : decode code 799 = .ok (.invokevirtual 71, 3) := by decide +kernel
theorem d_La_law_802 : decode code 802 = .ok (.iload 5, 2) := by decide +kernel
theorem d_La_law_804 : decode code 804 = .ok (.if_icmp .eq 5, 3) := by decide +kernel
theorem d_La_law_807 : decode code 807 = .ok (.iconst 0, 1) := by decide +kernel
theorem d_La_law_808 : decode code 808 = .ok (.ireturn, 1) := by decide +kernel
theorem d_La_law_809 : decode code 809 = .ok (.iload 5, 2) := by decide +kernel
theorem d_La_law_811 : decode code 811 = .ok (.ifCond .ne 15, 3) := by decide +kernel
theorem d_La_law_814 : decode code 814 = .ok (.aload_n 3, 1) := by decide +kernel
theorem d_La_law_815 : decode code 815 = .ok (.iconst 0, 1) := by decide +kernel
theorem d_La_law_816 : decode code 816 = .ok (.laload, 1) := by decide +kernel
theorem d_La_law_817 : decode code 817 = .ok (.iload 6, 2) := by decide +kernel
theorem d_La_law_819 : decode code 819 = .ok (.i2l, 1) := by decide +kernel
theorem d_La_law_820 : decode code 820 = .ok (.lcmp, 1) := by decide +kernel
theorem d_La_law_821 : decode code 821 = .ok (.ifCond .eq 5, 3) := by decide +kernel
theorem d_La_law_824 : decode code 824 = .ok (.iconst 0, 1) := by decide +kernel
theorem d_La_law_825 : decode code 825 = .ok (.ireturn, 1) := by decide +kernel
theorem d_La_law_826 : decode code 826 = .ok (.goto 391, 3) := by decide +kernel
theorem d_La_law_829 : decode code 829 = .ok (.aload_n 1, 1) := by decide +kernel
theorem d_La_law_830 : decode code 830 = .ok (.aload_n 0, 1) := by decide +kernel
theorem d_La_law_831 : decode code 831 = .ok (.iload 4, 2) := by decide +kernel
theorem d_La_law_833 : decode code 833 = .ok (.iconst 1, 1) := by decide +kernel
theorem d_La_law_834 : decode code 834 = .ok (.iadd, 1) := by decide +kernel
theorem d_La_law_835 : decode code 835 = .ok (.iaload, 1) := by decide +kernel
theorem d_La_law_836 : decode code 836 = .ok (.aload_n 0, 1) := by decide +kernel
theorem d_La_law_837 : decode code 837 = .ok (.iload 4, 2) := by decide +kernel
theorem d_La_law_839 : decode code 839 = .ok (.iconst 2, 1) := by decide +kernel
theorem d_La_law_840 : decode code 840 = .ok (.iadd, 1) := by decide +kernel
theorem d_La_law_841 : decode code 841 = .ok (.iaload, 1) := by decide +kernel
theorem d_La_law_842 : decode code 842 = .ok (.ifCond .eq 7, 3) := by decide +kernel
theorem d_La_law_845 : decode code 845 = .ok (.iconst 1, 1) := by decide +kernel
theorem d_La_law_846 : decode code 846 = .ok (.goto 4, 3) := by decide +kernel
theorem d_La_law_849 : decode code 849 = .ok (.iconst 0, 1) := by decide +kernel
theorem d_La_law_850 : decode code 850 = .ok (.aload_n 3, 1) := by decide +kernel
theorem d_La_law_851 : decode code 851 = .ok (.invokestatic 107, 3) := by decide +kernel
theorem d_La_law_854 : decode code 854 = .ok (.istore 5, 2) := by decide +kernel
theorem d_La_law_856 : decode code 856 = .ok (.aload_n 2, 1) := by decide +kernel
theorem d_La_law_857 : decode code 857 = .ok (.aload_n 0, 1) := by decide +kernel
theorem d_La_law_858 : decode code 858 = .ok (.iload 4, 2) := by decide +kernel
theorem d_La_law_860 : decode code 860 = .ok (.iconst 1, 1) := by decide +kernel
theorem d_La_law_861 : decode code 861 = .ok (.iadd, 1) := by decide +kernel
theorem d_La_law_862 : decode code 862 = .ok (.iaload, 1) := by decide +kernel
theorem d_La_law_863 : decode code 863 = .ok (.aload_n 0, 1) := by decide +kernel
theorem d_La_law_864 : decode code 864 = .ok (.iload 4, 2) := by decide +kernel
theorem d_La_law_866 : decode code 866 = .ok (.iconst 2, 1) := by decide +kernel
theorem d_La_law_867 : decode code 867 = .ok (.iadd, 1) := by decide +kernel
theorem d_La_law_868 : decode code 868 = .ok (.iaload, 1) := by decide +kernel
theorem d_La_law_869 : decode code 869 = .ok (.ifCond .eq 7, 3) := by decide +kernel
theorem d_La_law_872 : decode code 872 = .ok (.iconst 1, 1) := by decide +kernel
theorem d_La_law_873 : decode code 873 = .ok (.goto 4, 3) := by decide +kernel
theorem d_La_law_876 : decode code 876 = .ok (.iconst 0, 1) := by decide +kernel
theorem d_La_law_877 : decode code 877 = .ok (.invokevirtual 110, 3) := by decide +kernel
theorem d_La_law_880 : decode code 880 = .ok (.istore 6, 2) := by decide +kernel
theorem d_La_law_882 : decode code 882 = .ok (.aload_n 2, 1) := by decide +kernel
theorem d_La_law_883 : decode code 883 = .ok (.invokevirtual 71, 3) := by decide +kernel
theorem d_La_law_886 : decode code 886 = .ok (.iload 5, 2) := by decide +kernel
theorem d_La_law_888 : decode code 888 = .ok (.if_icmp .eq 5, 3) := by decide +kernel
theorem d_La_law_891 : decode code 891 = .ok (.iconst 0, 1) := by decide +kernel
theorem d_La_law_892 : decode code 892 = .ok (.ireturn, 1) := by decide +kernel
theorem d_La_law_893 : decode code 893 = .ok (.iload 5, 2) := by decide +kernel
theorem d_La_law_895 : decode code 895 = .ok (.ifCond .ne 22, 3) := by decide +kernel
theorem d_La_law_898 : decode code 898 = .ok (.aload_n 3, 1) := by decide +kernel
theorem d_La_law_899 : decode code 899 = .ok (.iconst 0, 1) := by decide +kernel
theorem d_La_law_900 : decode code 900 = .ok (.laload, 1) := by decide +kernel
theorem d_La_law_901 : decode code 901 = .ok (.iload 6, 2) := by decide +kernel
theorem d_La_law_903 : decode code 903 = .ok (.ifCond .eq 7, 3) := by decide +kernel
theorem d_La_law_906 : decode code 906 = .ok (.lconst 1, 1) := by decide +kernel
theorem d_La_law_907 : decode code 907 = .ok (.goto 4, 3) := by decide +kernel
theorem d_La_law_910 : decode code 910 = .ok (.lconst 0, 1) := by decide +kernel
theorem d_La_law_911 : decode code 911 = .ok (.lcmp, 1) := by decide +kernel
theorem d_La_law_912 : decode code 912 = .ok (.ifCond .eq 5, 3) := by decide +kernel
theorem d_La_law_915 : decode code 915 = .ok (.iconst 0, 1) := by decide +kernel
theorem d_La_law_916 : decode code 916 = .ok (.ireturn, 1) := by decide +kernel
theorem d_La_law_917 : decode code 917 = .ok (.goto 300, 3) := by decide +kernel
theorem d_La_law_920 : decode code 920 = .ok (.aload_n 1, 1) := by decide +kernel
theorem d_La_law_921 : decode code 921 = .ok (.invokevirtual 111, 3) := by decide +kernel
theorem d_La_law_924 : decode code 924 = .ok (.aload_n 2, 1) := by decide +kernel
theorem d_La_law_925 : decode code 925 = .ok (.invokevirtual 114, 3) := by decide +kernel
theorem d_La_law_928 : decode code 928 = .ok (.if_icmp .eq 289, 3) := by decide +kernel
theorem d_La_law_931 : decode code 931 = .ok (.iconst 0, 1) := by decide +kernel
theorem d_La_law_932 : decode code 932 = .ok (.ireturn, 1) := by decide +kernel
theorem d_La_law_933 : decode code 933 = .ok (.aload_n 1, 1) := by decide +kernel
theorem d_La_law_934 : decode code 934 = .ok (.aload_n 0, 1) := by decide +kernel
theorem d_La_law_935 : decode code 935 = .ok (.iload 4, 2) := by decide +kernel
theorem d_La_law_937 : decode code 937 = .ok (.iconst 1, 1) := by decide +kernel
theorem d_La_law_938 : decode code 938 = .ok (.iadd, 1) := by decide +kernel
theorem d_La_law_939 : decode code 939 = .ok (.iaload, 1) := by decide +kernel
theorem d_La_law_940 : decode code 940 = .ok (.aload_n 0, 1) := by decide +kernel
theorem d_La_law_941 : decode code 941 = .ok (.iload 4, 2) := by decide +kernel
theorem d_La_law_943 : decode code 943 = .ok (.iconst 2, 1) := by decide +kernel
theorem d_La_law_944 : decode code 944 = .ok (.iadd, 1) := by decide +kernel
theorem d_La_law_945 : decode code 945 = .ok (.iaload, 1) := by decide +kernel
theorem d_La_law_946 : decode code 946 = .ok (.aload_n 3, 1) := by decide +kernel
theorem d_La_law_947 : decode code 947 = .ok (.invokestatic 115, 3) := by decide +kernel
theorem d_La_law_950 : decode code 950 = .ok (.istore 5, 2) := by decide +kernel
theorem d_La_law_952 : decode code 952 = .ok (.aload_n 2, 1) := by decide +kernel
theorem d_La_law_953 : decode code 953 = .ok (.aload_n 0, 1) := by decide +kernel
theorem d_La_law_954 : decode code 954 = .ok (.iload 4, 2) := by decide +kernel
theorem d_La_law_956 : decode code 956 = .ok (.iconst 1, 1) := by decide +kernel
theorem d_La_law_957 : decode code 957 = .ok (.iadd, 1) := by decide +kernel
theorem d_La_law_958 : decode code 958 = .ok (.iaload, 1) := by decide +kernel
theorem d_La_law_959 : decode code 959 = .ok (.aload_n 0, 1) := by decide +kernel
theorem d_La_law_960 : decode code 960 = .ok (.iload 4, 2) := by decide +kernel
theorem d_La_law_962 : decode code 962 = .ok (.iconst 2, 1) := by decide +kernel
theorem d_La_law_963 : decode code 963 = .ok (.iadd, 1) := by decide +kernel
theorem d_La_law_964 : decode code 964 = .ok (.iaload, 1) := by decide +kernel
theorem d_La_law_965 : decode code 965 = .ok (.invokevirtual 117, 3) := by decide +kernel
theorem d_La_law_968 : decode code 968 = .ok (.istore 6, 2) := by decide +kernel
theorem d_La_law_970 : decode code 970 = .ok (.aload_n 2, 1) := by decide +kernel
theorem d_La_law_971 : decode code 971 = .ok (.invokevirtual 71, 3) := by decide +kernel
theorem d_La_law_974 : decode code 974 = .ok (.iload 5, 2) := by decide +kernel
theorem d_La_law_976 : decode code 976 = .ok (.if_icmp .eq 5, 3) := by decide +kernel
theorem d_La_law_979 : decode code 979 = .ok (.iconst 0, 1) := by decide +kernel
theorem d_La_law_980 : decode code 980 = .ok (.ireturn, 1) := by decide +kernel
theorem d_La_law_981 : decode code 981 = .ok (.iload 5, 2) := by decide +kernel
theorem d_La_law_983 : decode code 983 = .ok (.ifCond .ne 15, 3) := by decide +kernel
theorem d_La_law_986 : decode code 986 = .ok (.aload_n 3, 1) := by decide +kernel
theorem d_La_law_987 : decode code 987 = .ok (.iconst 0, 1) := by decide +kernel
theorem d_La_law_988 : decode code 988 = .ok (.laload, 1) := by decide +kernel
theorem d_La_law_989 : decode code 989 = .ok (.iload 6, 2) := by decide +kernel
theorem d_La_law_991 : decode code 991 = .ok (.i2l, 1) := by decide +kernel
theorem d_La_law_992 : decode code 992 = .ok (.lcmp, 1) := by decide +kernel
theorem d_La_law_993 : decode code 993 = .ok (.ifCond .eq 5, 3) := by decide +kernel
theorem d_La_law_996 : decode code 996 = .ok (.iconst 0, 1) := by decide +kernel
theorem d_La_law_997 : decode code 997 = .ok (.ireturn, 1) := by decide +kernel
theorem d_La_law_998 : decode code 998 = .ok (.goto 219, 3) := by decide +kernel
theorem d_La_law_1001 : decode code 1001 = .ok (.aload_n 1, 1) := by decide +kernel
theorem d_La_law_1002 : decode code 1002 = .ok (.aload_n 0, 1) := by decide +kernel
theorem d_La_law_1003 : decode code 1003 = .ok (.iload 4, 2) := by decide +kernel
theorem d_La_law_1005 : decode code 1005 = .ok (.iconst 1, 1) := by decide +kernel
theorem d_La_law_1006 : decode code 1006 = .ok (.iadd, 1) := by decide +kernel
theorem d_La_law_1007 : decode code 1007 = .ok (.iaload, 1) := by decide +kernel
theorem d_La_law_1008 : decode code 1008 = .ok (.aload_n 0, 1) := by decide +kernel
theorem d_La_law_1009 : decode code 1009 = .ok (.iload 4, 2) := by decide +kernel
theorem d_La_law_1011 : decode code 1011 = .ok (.iconst 2, 1) := by decide +kernel
theorem d_La_law_1012 : decode code 1012 = .ok (.iadd, 1) := by decide +kernel
theorem d_La_law_1013 : decode code 1013 = .ok (.iaload, 1) := by decide +kernel
theorem d_La_law_1014 : decode code 1014 = .ok (.aload_n 3, 1) := by decide +kernel
theorem d_La_law_1015 : decode code 1015 = .ok (.invokestatic 118, 3) := by decide +kernel
theorem d_La_law_1018 : decode code 1018 = .ok (.istore 5, 2) := by decide +kernel
theorem d_La_law_1020 : decode code 1020 = .ok (.aload_n 2, 1) := by decide +kernel
theorem d_La_law_1021 : decode code 1021 = .ok (.aload_n 0, 1) := by decide +kernel
theorem d_La_law_1022 : decode code 1022 = .ok (.iload 4, 2) := by decide +kernel
theorem d_La_law_1024 : decode code 1024 = .ok (.iconst 1, 1) := by decide +kernel
theorem d_La_law_1025 : decode code 1025 = .ok (.iadd, 1) := by decide +kernel
theorem d_La_law_1026 : decode code 1026 = .ok (.iaload, 1) := by decide +kernel
theorem d_La_law_1027 : decode code 1027 = .ok (.aload_n 0, 1) := by decide +kernel
theorem d_La_law_1028 : decode code 1028 = .ok (.iload 4, 2) := by decide +kernel
theorem d_La_law_1030 : decode code 1030 = .ok (.iconst 2, 1) := by decide +kernel
theorem d_La_law_1031 : decode code 1031 = .ok (.iadd, 1) := by decide +kernel
theorem d_La_law_1032 : decode code 1032 = .ok (.iaload, 1) := by decide +kernel
theorem d_La_law_1033 : decode code 1033 = .ok (.invokevirtual 120, 3) := by decide +kernel
theorem d_La_law_1036 : decode code 1036 = .ok (.istore 6, 2) := by decide +kernel
theorem d_La_law_1038 : decode code 1038 = .ok (.aload_n 2, 1) := by decide +kernel
theorem d_La_law_1039 : decode code 1039 = .ok (.invokevirtual 71, 3) := by decide +kernel
theorem d_La_law_1042 : decode code 1042 = .ok (.iload 5, 2) := by decide +kernel
theorem d_La_law_1044 : decode code 1044 = .ok (.if_icmp .eq 5, 3) := by decide +kernel
theorem d_La_law_1047 : decode code 1047 = .ok (.iconst 0, 1) := by decide +kernel
theorem d_La_law_1048 : decode code 1048 = .ok (.ireturn, 1) := by decide +kernel
theorem d_La_law_1049 : decode code 1049 = .ok (.iload 5, 2) := by decide +kernel
theorem d_La_law_1051 : decode code 1051 = .ok (.ifCond .ne 15, 3) := by decide +kernel
theorem d_La_law_1054 : decode code 1054 = .ok (.aload_n 3, 1) := by decide +kernel
theorem d_La_law_1055 : decode code 1055 = .ok (.iconst 0, 1) := by decide +kernel
theorem d_La_law_1056 : decode code 1056 = .ok (.laload, 1) := by decide +kernel
theorem d_La_law_1057 : decode code 1057 = .ok (.iload 6, 2) := by decide +kernel
theorem d_La_law_1059 : decode code 1059 = .ok (.i2l, 1) := by decide +kernel
theorem d_La_law_1060 : decode code 1060 = .ok (.lcmp, 1) := by decide +kernel
theorem d_La_law_1061 : decode code 1061 = .ok (.ifCond .eq 5, 3) := by decide +kernel
theorem d_La_law_1064 : decode code 1064 = .ok (.iconst 0, 1) := by decide +kernel
theorem d_La_law_1065 : decode code 1065 = .ok (.ireturn, 1) := by decide +kernel
theorem d_La_law_1066 : decode code 1066 = .ok (.goto 151, 3) := by decide +kernel
theorem d_La_law_1069 : decode code 1069 = .ok (.aload_n 1, 1) := by decide +kernel
theorem d_La_law_1070 : decode code 1070 = .ok (.aload_n 0, 1) := by decide +kernel
theorem d_La_law_1071 : decode code 1071 = .ok (.iload 4, 2) := by decide +kernel
theorem d_La_law_1073 : decode code 1073 = .ok (.iconst 1, 1) := by decide +kernel
theorem d_La_law_1074 : decode code 1074 = .ok (.iadd, 1) := by decide +kernel
theorem d_La_law_1075 : decode code 1075 = .ok (.iaload, 1) := by decide +kernel
theorem d_La_law_1076 : decode code 1076 = .ok (.aload_n 0, 1) := by decide +kernel
theorem d_La_law_1077 : decode code 1077 = .ok (.iload 4, 2) := by decide +kernel
theorem d_La_law_1079 : decode code 1079 = .ok (.iconst 2, 1) := by decide +kernel
theorem d_La_law_1080 : decode code 1080 = .ok (.iadd, 1) := by decide +kernel
theorem d_La_law_1081 : decode code 1081 = .ok (.iaload, 1) := by decide +kernel
theorem d_La_law_1082 : decode code 1082 = .ok (.aload_n 0, 1) := by decide +kernel
theorem d_La_law_1083 : decode code 1083 = .ok (.iload 4, 2) := by decide +kernel
theorem d_La_law_1085 : decode code 1085 = .ok (.iconst 3, 1) := by decide +kernel
theorem d_La_law_1086 : decode code 1086 = .ok (.iadd, 1) := by decide +kernel
theorem d_La_law_1087 : decode code 1087 = .ok (.iaload, 1) := by decide +kernel
theorem d_La_law_1088 : decode code 1088 = .ok (.aload_n 0, 1) := by decide +kernel
theorem d_La_law_1089 : decode code 1089 = .ok (.iload 4, 2) := by decide +kernel
theorem d_La_law_1091 : decode code 1091 = .ok (.iconst 4, 1) := by decide +kernel
theorem d_La_law_1092 : decode code 1092 = .ok (.iadd, 1) := by decide +kernel
theorem d_La_law_1093 : decode code 1093 = .ok (.iaload, 1) := by decide +kernel
theorem d_La_law_1094 : decode code 1094 = .ok (.aload_n 3, 1) := by decide +kernel
theorem d_La_law_1095 : decode code 1095 = .ok (.invokestatic 121, 3) := by decide +kernel
theorem d_La_law_1098 : decode code 1098 = .ok (.istore 5, 2) := by decide +kernel
theorem d_La_law_1100 : decode code 1100 = .ok (.aload_n 2, 1) := by decide +kernel
theorem d_La_law_1101 : decode code 1101 = .ok (.aload_n 0, 1) := by decide +kernel
theorem d_La_law_1102 : decode code 1102 = .ok (.iload 4, 2) := by decide +kernel
theorem d_La_law_1104 : decode code 1104 = .ok (.iconst 1, 1) := by decide +kernel
theorem d_La_law_1105 : decode code 1105 = .ok (.iadd, 1) := by decide +kernel
theorem d_La_law_1106 : decode code 1106 = .ok (.iaload, 1) := by decide +kernel
theorem d_La_law_1107 : decode code 1107 = .ok (.aload_n 0, 1) := by decide +kernel
theorem d_La_law_1108 : decode code 1108 = .ok (.iload 4, 2) := by decide +kernel
theorem d_La_law_1110 : decode code 1110 = .ok (.iconst 2, 1) := by decide +kernel
theorem d_La_law_1111 : decode code 1111 = .ok (.iadd, 1) := by decide +kernel
theorem d_La_law_1112 : decode code 1112 = .ok (.iaload, 1) := by decide +kernel
theorem d_La_law_1113 : decode code 1113 = .ok (.aload_n 0, 1) := by decide +kernel
theorem d_La_law_1114 : decode code 1114 = .ok (.iload 4, 2) := by decide +kernel
theorem d_La_law_1116 : decode code 1116 = .ok (.iconst 3, 1) := by decide +kernel
theorem d_La_law_1117 : decode code 1117 = .ok (.iadd, 1) := by decide +kernel
theorem d_La_law_1118 : decode code 1118 = .ok (.iaload, 1) := by decide +kernel
theorem d_La_law_1119 : decode code 1119 = .ok (.aload_n 0, 1) := by decide +kernel
theorem d_La_law_1120 : decode code 1120 = .ok (.iload 4, 2) := by decide +kernel
theorem d_La_law_1122 : decode code 1122 = .ok (.iconst 4, 1) := by decide +kernel
theorem d_La_law_1123 : decode code 1123 = .ok (.iadd, 1) := by decide +kernel
theorem d_La_law_1124 : decode code 1124 = .ok (.iaload, 1) := by decide +kernel
theorem d_La_law_1125 : decode code 1125 = .ok (.invokevirtual 124, 3) := by decide +kernel
theorem d_La_law_1128 : decode code 1128 = .ok (.istore 6, 2) := by decide +kernel
theorem d_La_law_1130 : decode code 1130 = .ok (.aload_n 2, 1) := by decide +kernel
theorem d_La_law_1131 : decode code 1131 = .ok (.invokevirtual 71, 3) := by decide +kernel
theorem d_La_law_1134 : decode code 1134 = .ok (.iload 5, 2) := by decide +kernel
theorem d_La_law_1136 : decode code 1136 = .ok (.if_icmp .eq 5, 3) := by decide +kernel
end
section
theorem d_La_law_1139 : decode code 1139 = .ok (.iconst 0, 1) := by decide +kernel
theorem d_La_law_1140 : decode code 1140 = .ok (.ireturn, 1) := by decide +kernel
theorem d_La_law_1141 : decode code 1141 = .ok (.iload 5, 2) := by decide +kernel
theorem d_La_law_1143 : decode code 1143 = .ok (.ifCond .ne 22, 3) := by decide +kernel
theorem d_La_law_1146 : decode code 1146 = .ok (.aload_n 3, 1) := by decide +kernel
theorem d_La_law_1147 : decode code 1147 = .ok (.iconst 0, 1) := by decide +kernel
theorem d_La_law_1148 : decode code 1148 = .ok (.laload, 1) := by decide +kernel
theorem d_La_law_1149 : decode code 1149 = .ok (.iload 6, 2) := by decide +kernel
theorem d_La_law_1151 : decode code 1151 = .ok (.ifCond .eq 7, 3) := by decide +kernel
theorem d_La_law_1154 : decode code 1154 = .ok (.lconst 1, 1) := by decide +kernel
theorem d_La_law_1155 : decode code 1155 = .ok (.goto 4, 3) := by decide +kernel
theorem d_La_law_1158 : decode code 1158 = .ok (.lconst 0, 1) := by decide +kernel
theorem d_La_law_1159 : decode code 1159 = .ok (.lcmp, 1) := by decide +kernel
theorem d_La_law_1160 : decode code 1160 = .ok (.ifCond .eq 5, 3) := by decide +kernel
theorem d_La_law_1163 : decode code 1163 = .ok (.iconst 0, 1) := by decide +kernel
theorem d_La_law_1164 : decode code 1164 = .ok (.ireturn, 1) := by decide +kernel
theorem d_La_law_1165 : decode code 1165 = .ok (.goto 52, 3) := by decide +kernel
theorem d_La_law_1168 : decode code 1168 = .ok (.aload_n 1, 1) := by decide +kernel
theorem d_La_law_1169 : decode code 1169 = .ok (.invokevirtual 125, 3) := by decide +kernel
theorem d_La_law_1172 : decode code 1172 = .ok (.aload_n 2, 1) := by decide +kernel
theorem d_La_law_1173 : decode code 1173 = .ok (.invokevirtual 128, 3) := by decide +kernel
theorem d_La_law_1176 : decode code 1176 = .ok (.if_icmp .eq 41, 3) := by decide +kernel
theorem d_La_law_1179 : decode code 1179 = .ok (.iconst 0, 1) := by decide +kernel
theorem d_La_law_1180 : decode code 1180 = .ok (.ireturn, 1) := by decide +kernel
theorem d_La_law_1181 : decode code 1181 = .ok (.aload_n 1, 1) := by decide +kernel
theorem d_La_law_1182 : decode code 1182 = .ok (.aload_n 0, 1) := by decide +kernel
theorem d_La_law_1183 : decode code 1183 = .ok (.iload 4, 2) := by decide +kernel
theorem d_La_law_1185 : decode code 1185 = .ok (.iconst 1, 1) := by decide +kernel
theorem d_La_law_1186 : decode code 1186 = .ok (.iadd, 1) := by decide +kernel
theorem d_La_law_1187 : decode code 1187 = .ok (.iaload, 1) := by decide +kernel
theorem d_La_law_1188 : decode code 1188 = .ok (.invokevirtual 129, 3) := by decide +kernel
theorem d_La_law_1191 : decode code 1191 = .ok (.aload_n 2, 1) := by decide +kernel
theorem d_La_law_1192 : decode code 1192 = .ok (.aload_n 0, 1) := by decide +kernel
theorem d_La_law_1193 : decode code 1193 = .ok (.iload 4, 2) := by decide +kernel
theorem d_La_law_1195 : decode code 1195 = .ok (.iconst 1, 1) := by decide +kernel
theorem d_La_law_1196 : decode code 1196 = .ok (.iadd, 1) := by decide +kernel
theorem d_La_law_1197 : decode code 1197 = .ok (.iaload, 1) := by decide +kernel
theorem d_La_law_1198 : decode code 1198 = .ok (.invokevirtual 132, 3) := by decide +kernel
theorem d_La_law_1201 : decode code 1201 = .ok (.if_icmp .eq 16, 3) := by decide +kernel
theorem d_La_law_1204 : decode code 1204 = .ok (.iconst 0, 1) := by decide +kernel
theorem d_La_law_1205 : decode code 1205 = .ok (.ireturn, 1) := by decide +kernel
theorem d_La_law_1206 : decode code 1206 = .ok (.aload_n 1, 1) := by decide +kernel
theorem d_La_law_1207 : decode code 1207 = .ok (.invokevirtual 133, 3) := by decide +kernel
theorem d_La_law_1210 : decode code 1210 = .ok (.aload_n 2, 1) := by decide +kernel
theorem d_La_law_1211 : decode code 1211 = .ok (.invokevirtual 136, 3) := by decide +kernel
theorem d_La_law_1214 : decode code 1214 = .ok (.goto 3, 3) := by decide +kernel
theorem d_La_law_1217 : decode code 1217 = .ok (.iinc 4 6, 3) := by decide +kernel
theorem d_La_law_1220 : decode code 1220 = .ok (.goto (-1197), 3) := by decide +kernel
theorem d_La_law_1223 : decode code 1223 = .ok (.iconst 1, 1) := by decide +kernel
theorem d_La_law_1224 : decode code 1224 = .ok (.ireturn, 1) := by decide +kernel
end
section
abbrev c_Mo_init : ByteArray := prog_14_method_1_code
abbrev r_Mo_init : Option FieldType := none
def y_Mo_init : MethodName := ⟨"PinKindChecksModel", "<init>", "()V"⟩
theorem d_Mo_init_0 : decode c_Mo_init 0 = .ok (.aload_n 0, 1) := by decide +kernel
theorem d_Mo_init_1 : decode c_Mo_init 1 = .ok (.invokespecial 1, 3) := by decide +kernel
theorem d_Mo_init_4 : decode c_Mo_init 4 = .ok (.aload_n 0, 1) := by decide +kernel
theorem d_Mo_init_5 : decode c_Mo_init 5 = .ok (.bipush 100, 2) := by decide +kernel
theorem d_Mo_init_7 : decode c_Mo_init 7 = .ok (.newarray .int, 2) := by decide +kernel
theorem d_Mo_init_9 : decode c_Mo_init 9 = .ok (.putfield 7, 3) := by decide +kernel
theorem d_Mo_init_12 : decode c_Mo_init 12 = .ok (.aload_n 0, 1) := by decide +kernel
theorem d_Mo_init_13 : decode c_Mo_init 13 = .ok (.bipush 40, 2) := by decide +kernel
theorem d_Mo_init_15 : decode c_Mo_init 15 = .ok (.newarray .int, 2) := by decide +kernel
theorem d_Mo_init_17 : decode c_Mo_init 17 = .ok (.putfield 13, 3) := by decide +kernel
theorem d_Mo_init_20 : decode c_Mo_init 20 = .ok (.aload_n 0, 1) := by decide +kernel
theorem d_Mo_init_21 : decode c_Mo_init 21 = .ok (.sipush 320, 3) := by decide +kernel
theorem d_Mo_init_24 : decode c_Mo_init 24 = .ok (.newarray .long, 2) := by decide +kernel
theorem d_Mo_init_26 : decode c_Mo_init 26 = .ok (.putfield 16, 3) := by decide +kernel
theorem d_Mo_init_29 : decode c_Mo_init 29 = .ok (.aload_n 0, 1) := by decide +kernel
theorem d_Mo_init_30 : decode c_Mo_init 30 = .ok (.bipush 40, 2) := by decide +kernel
theorem d_Mo_init_32 : decode c_Mo_init 32 = .ok (.newarray .int, 2) := by decide +kernel
theorem d_Mo_init_34 : decode c_Mo_init 34 = .ok (.putfield 20, 3) := by decide +kernel
theorem d_Mo_init_37 : decode c_Mo_init 37 = .ok (.aload_n 0, 1) := by decide +kernel
theorem d_Mo_init_38 : decode c_Mo_init 38 = .ok (.bipush 40, 2) := by decide +kernel
theorem d_Mo_init_40 : decode c_Mo_init 40 = .ok (.newarray .int, 2) := by decide +kernel
theorem d_Mo_init_42 : decode c_Mo_init 42 = .ok (.putfield 23, 3) := by decide +kernel
theorem d_Mo_init_45 : decode c_Mo_init 45 = .ok (.aload_n 0, 1) := by decide +kernel
theorem d_Mo_init_46 : decode c_Mo_init 46 = .ok (.sipush 160, 3) := by decide +kernel
theorem d_Mo_init_49 : decode c_Mo_init 49 = .ok (.newarray .int, 2) := by decide +kernel
theorem d_Mo_init_51 : decode c_Mo_init 51 = .ok (.putfield 26, 3) := by decide +kernel
theorem d_Mo_init_54 : decode c_Mo_init 54 = .ok (.aload_n 0, 1) := by decide +kernel
theorem d_Mo_init_55 : decode c_Mo_init 55 = .ok (.sipush 160, 3) := by decide +kernel
theorem d_Mo_init_58 : decode c_Mo_init 58 = .ok (.newarray .int, 2) := by decide +kernel
theorem d_Mo_init_60 : decode c_Mo_init 60 = .ok (.putfield 29, 3) := by decide +kernel
theorem d_Mo_init_63 : decode c_Mo_init 63 = .ok (.aload_n 0, 1) := by decide +kernel
theorem d_Mo_init_64 : decode c_Mo_init 64 = .ok (.sipush 160, 3) := by decide +kernel
theorem d_Mo_init_67 : decode c_Mo_init 67 = .ok (.newarray .int, 2) := by decide +kernel
theorem d_Mo_init_69 : decode c_Mo_init 69 = .ok (.putfield 32, 3) := by decide +kernel
theorem d_Mo_init_72 : decode c_Mo_init 72 = .ok (.aload_n 0, 1) := by decide +kernel
theorem d_Mo_init_73 : decode c_Mo_init 73 = .ok (.bipush 100, 2) := by decide +kernel
theorem d_Mo_init_75 : decode c_Mo_init 75 = .ok (.newarray .int, 2) := by decide +kernel
theorem d_Mo_init_77 : decode c_Mo_init 77 = .ok (.putfield 35, 3) := by decide +kernel
theorem d_Mo_init_80 : decode c_Mo_init 80 = .ok (.aload_n 0, 1) := by decide +kernel
theorem d_Mo_init_81 : decode c_Mo_init 81 = .ok (.bipush 100, 2) := by decide +kernel
theorem d_Mo_init_83 : decode c_Mo_init 83 = .ok (.newarray .long, 2) := by decide +kernel
theorem d_Mo_init_85 : decode c_Mo_init 85 = .ok (.putfield 38, 3) := by decide +kernel
theorem d_Mo_init_88 : decode c_Mo_init 88 = .ok (.aload_n 0, 1) := by decide +kernel
theorem d_Mo_init_89 : decode c_Mo_init 89 = .ok (.bipush 100, 2) := by decide +kernel
theorem d_Mo_init_91 : decode c_Mo_init 91 = .ok (.newarray .long, 2) := by decide +kernel
theorem d_Mo_init_93 : decode c_Mo_init 93 = .ok (.putfield 41, 3) := by decide +kernel
theorem d_Mo_init_96 : decode c_Mo_init 96 = .ok (.aload_n 0, 1) := by decide +kernel
theorem d_Mo_init_97 : decode c_Mo_init 97 = .ok (.sipush 160, 3) := by decide +kernel
theorem d_Mo_init_100 : decode c_Mo_init 100 = .ok (.newarray .int, 2) := by decide +kernel
theorem d_Mo_init_102 : decode c_Mo_init 102 = .ok (.putfield 44, 3) := by decide +kernel
theorem d_Mo_init_105 : decode c_Mo_init 105 = .ok (.aload_n 0, 1) := by decide +kernel
theorem d_Mo_init_106 : decode c_Mo_init 106 = .ok (.bipush 20, 2) := by decide +kernel
theorem d_Mo_init_108 : decode c_Mo_init 108 = .ok (.newarray .int, 2) := by decide +kernel
theorem d_Mo_init_110 : decode c_Mo_init 110 = .ok (.putfield 47, 3) := by decide +kernel
theorem d_Mo_init_113 : decode c_Mo_init 113 = .ok (.aload_n 0, 1) := by decide +kernel
theorem d_Mo_init_114 : decode c_Mo_init 114 = .ok (.bipush 20, 2) := by decide +kernel
theorem d_Mo_init_116 : decode c_Mo_init 116 = .ok (.newarray .int, 2) := by decide +kernel
theorem d_Mo_init_118 : decode c_Mo_init 118 = .ok (.putfield 50, 3) := by decide +kernel
theorem d_Mo_init_121 : decode c_Mo_init 121 = .ok (.aload_n 0, 1) := by decide +kernel
theorem d_Mo_init_122 : decode c_Mo_init 122 = .ok (.bipush 20, 2) := by decide +kernel
theorem d_Mo_init_124 : decode c_Mo_init 124 = .ok (.newarray .int, 2) := by decide +kernel
theorem d_Mo_init_126 : decode c_Mo_init 126 = .ok (.putfield 53, 3) := by decide +kernel
theorem d_Mo_init_129 : decode c_Mo_init 129 = .ok (.aload_n 0, 1) := by decide +kernel
theorem d_Mo_init_130 : decode c_Mo_init 130 = .ok (.sipush 1800, 3) := by decide +kernel
theorem d_Mo_init_133 : decode c_Mo_init 133 = .ok (.newarray .int, 2) := by decide +kernel
theorem d_Mo_init_135 : decode c_Mo_init 135 = .ok (.putfield 56, 3) := by decide +kernel
theorem d_Mo_init_138 : decode c_Mo_init 138 = .ok (.aload_n 0, 1) := by decide +kernel
theorem d_Mo_init_139 : decode c_Mo_init 139 = .ok (.sipush 1800, 3) := by decide +kernel
theorem d_Mo_init_142 : decode c_Mo_init 142 = .ok (.newarray .int, 2) := by decide +kernel
theorem d_Mo_init_144 : decode c_Mo_init 144 = .ok (.putfield 59, 3) := by decide +kernel
theorem d_Mo_init_147 : decode c_Mo_init 147 = .ok (.aload_n 0, 1) := by decide +kernel
theorem d_Mo_init_148 : decode c_Mo_init 148 = .ok (.bipush 27, 2) := by decide +kernel
theorem d_Mo_init_150 : decode c_Mo_init 150 = .ok (.newarray .boolean, 2) := by decide +kernel
theorem d_Mo_init_152 : decode c_Mo_init 152 = .ok (.putfield 62, 3) := by decide +kernel
theorem d_Mo_init_155 : decode c_Mo_init 155 = .ok (.aload_n 0, 1) := by decide +kernel
theorem d_Mo_init_156 : decode c_Mo_init 156 = .ok (.iconst 1, 1) := by decide +kernel
theorem d_Mo_init_157 : decode c_Mo_init 157 = .ok (.putfield 66, 3) := by decide +kernel
theorem d_Mo_init_160 : decode c_Mo_init 160 = .ok (.aload_n 0, 1) := by decide +kernel
theorem d_Mo_init_161 : decode c_Mo_init 161 = .ok (.sipush 6480, 3) := by decide +kernel
theorem d_Mo_init_164 : decode c_Mo_init 164 = .ok (.newarray .int, 2) := by decide +kernel
theorem d_Mo_init_166 : decode c_Mo_init 166 = .ok (.putfield 70, 3) := by decide +kernel
theorem d_Mo_init_169 : decode c_Mo_init 169 = .ok (.aload_n 0, 1) := by decide +kernel
theorem d_Mo_init_170 : decode c_Mo_init 170 = .ok (.sipush 6480, 3) := by decide +kernel
theorem d_Mo_init_173 : decode c_Mo_init 173 = .ok (.newarray .int, 2) := by decide +kernel
theorem d_Mo_init_175 : decode c_Mo_init 175 = .ok (.putfield 73, 3) := by decide +kernel
theorem d_Mo_init_178 : decode c_Mo_init 178 = .ok (.aload_n 0, 1) := by decide +kernel
theorem d_Mo_init_179 : decode c_Mo_init 179 = .ok (.sipush 6480, 3) := by decide +kernel
theorem d_Mo_init_182 : decode c_Mo_init 182 = .ok (.newarray .int, 2) := by decide +kernel
theorem d_Mo_init_184 : decode c_Mo_init 184 = .ok (.putfield 76, 3) := by decide +kernel
theorem d_Mo_init_187 : decode c_Mo_init 187 = .ok (.aload_n 0, 1) := by decide +kernel
theorem d_Mo_init_188 : decode c_Mo_init 188 = .ok (.bipush 50, 2) := by decide +kernel
theorem d_Mo_init_190 : decode c_Mo_init 190 = .ok (.newarray .int, 2) := by decide +kernel
theorem d_Mo_init_192 : decode c_Mo_init 192 = .ok (.putfield 79, 3) := by decide +kernel
theorem d_Mo_init_195 : decode c_Mo_init 195 = .ok (.aload_n 0, 1) := by decide +kernel
theorem d_Mo_init_196 : decode c_Mo_init 196 = .ok (.bipush 50, 2) := by decide +kernel
theorem d_Mo_init_198 : decode c_Mo_init 198 = .ok (.newarray .int, 2) := by decide +kernel
theorem d_Mo_init_200 : decode c_Mo_init 200 = .ok (.putfield 82, 3) := by decide +kernel
theorem d_Mo_init_203 : decode c_Mo_init 203 = .ok (.aload_n 0, 1) := by decide +kernel
theorem d_Mo_init_204 : decode c_Mo_init 204 = .ok (.bipush 100, 2) := by decide +kernel
theorem d_Mo_init_206 : decode c_Mo_init 206 = .ok (.newarray .int, 2) := by decide +kernel
theorem d_Mo_init_208 : decode c_Mo_init 208 = .ok (.putfield 85, 3) := by decide +kernel
theorem d_Mo_init_211 : decode c_Mo_init 211 = .ok (.aload_n 0, 1) := by decide +kernel
theorem d_Mo_init_212 : decode c_Mo_init 212 = .ok (.bipush 90, 2) := by decide +kernel
theorem d_Mo_init_214 : decode c_Mo_init 214 = .ok (.newarray .long, 2) := by decide +kernel
theorem d_Mo_init_216 : decode c_Mo_init 216 = .ok (.putfield 88, 3) := by decide +kernel
theorem d_Mo_init_219 : decode c_Mo_init 219 = .ok (.return_, 1) := by decide +kernel
abbrev c_Mo_thrown : ByteArray := prog_14_method_2_code
abbrev r_Mo_thrown : Option FieldType := (some FieldType.int)
def y_Mo_thrown : MethodName := ⟨"PinKindChecksModel", "thrown", "()I"⟩
theorem d_Mo_thrown_0 : decode c_Mo_thrown 0 = .ok (.aload_n 0, 1) := by decide +kernel
theorem d_Mo_thrown_1 : decode c_Mo_thrown 1 = .ok (.getfield 91, 3) := by decide +kernel
theorem d_Mo_thrown_4 : decode c_Mo_thrown 4 = .ok (.ireturn, 1) := by decide +kernel
abbrev c_Mo_table : ByteArray := prog_14_method_7_code
abbrev r_Mo_table : Option FieldType := (some FieldType.boolean)
def y_Mo_table : MethodName := ⟨"PinKindChecksModel", "table", "(III)Z"⟩
theorem d_Mo_table_0 : decode c_Mo_table 0 = .ok (.aload_n 0, 1) := by decide +kernel
theorem d_Mo_table_1 : decode c_Mo_table 1 = .ok (.iload_n 1, 1) := by decide +kernel
theorem d_Mo_table_2 : decode c_Mo_table 2 = .ok (.invokestatic 100, 3) := by decide +kernel
theorem d_Mo_table_5 : decode c_Mo_table 5 = .ok (.ifCond .eq 10, 3) := by decide +kernel
theorem d_Mo_table_8 : decode c_Mo_table 8 = .ok (.iload_n 2, 1) := by decide +kernel
theorem d_Mo_table_9 : decode c_Mo_table 9 = .ok (.invokestatic 100, 3) := by decide +kernel
theorem d_Mo_table_12 : decode c_Mo_table 12 = .ok (.ifCond .ne 7, 3) := by decide +kernel
theorem d_Mo_table_15 : decode c_Mo_table 15 = .ok (.iconst 1, 1) := by decide +kernel
theorem d_Mo_table_16 : decode c_Mo_table 16 = .ok (.goto 17, 3) := by decide +kernel
theorem d_Mo_table_19 : decode c_Mo_table 19 = .ok (.iload_n 3, 1) := by decide +kernel
theorem d_Mo_table_20 : decode c_Mo_table 20 = .ok (.ifCond .lt 8, 3) := by decide +kernel
theorem d_Mo_table_23 : decode c_Mo_table 23 = .ok (.iload_n 3, 1) := by decide +kernel
theorem d_Mo_table_24 : decode c_Mo_table 24 = .ok (.iconst 2, 1) := by decide +kernel
theorem d_Mo_table_25 : decode c_Mo_table 25 = .ok (.if_icmp .le 7, 3) := by decide +kernel
theorem d_Mo_table_28 : decode c_Mo_table 28 = .ok (.iconst 2, 1) := by decide +kernel
theorem d_Mo_table_29 : decode c_Mo_table 29 = .ok (.goto 4, 3) := by decide +kernel
theorem d_Mo_table_32 : decode c_Mo_table 32 = .ok (.iconst 0, 1) := by decide +kernel
theorem d_Mo_table_33 : decode c_Mo_table 33 = .ok (.putfield 91, 3) := by decide +kernel
theorem d_Mo_table_36 : decode c_Mo_table 36 = .ok (.aload_n 0, 1) := by decide +kernel
theorem d_Mo_table_37 : decode c_Mo_table 37 = .ok (.getfield 91, 3) := by decide +kernel
theorem d_Mo_table_40 : decode c_Mo_table 40 = .ok (.ifCond .eq 5, 3) := by decide +kernel
theorem d_Mo_table_43 : decode c_Mo_table 43 = .ok (.iconst 0, 1) := by decide +kernel
theorem d_Mo_table_44 : decode c_Mo_table 44 = .ok (.ireturn, 1) := by decide +kernel
theorem d_Mo_table_45 : decode c_Mo_table 45 = .ok (.aload_n 0, 1) := by decide +kernel
theorem d_Mo_table_46 : decode c_Mo_table 46 = .ok (.getfield 7, 3) := by decide +kernel
theorem d_Mo_table_49 : decode c_Mo_table 49 = .ok (.bipush 10, 2) := by decide +kernel
theorem d_Mo_table_51 : decode c_Mo_table 51 = .ok (.iload_n 1, 1) := by decide +kernel
theorem d_Mo_table_52 : decode c_Mo_table 52 = .ok (.imul, 1) := by decide +kernel
theorem d_Mo_table_53 : decode c_Mo_table 53 = .ok (.iload_n 2, 1) := by decide +kernel
theorem d_Mo_table_54 : decode c_Mo_table 54 = .ok (.iadd, 1) := by decide +kernel
theorem d_Mo_table_55 : decode c_Mo_table 55 = .ok (.iaload, 1) := by decide +kernel
theorem d_Mo_table_56 : decode c_Mo_table 56 = .ok (.iload_n 3, 1) := by decide +kernel
theorem d_Mo_table_57 : decode c_Mo_table 57 = .ok (.if_icmp .eq 7, 3) := by decide +kernel
theorem d_Mo_table_60 : decode c_Mo_table 60 = .ok (.iconst 1, 1) := by decide +kernel
theorem d_Mo_table_61 : decode c_Mo_table 61 = .ok (.goto 4, 3) := by decide +kernel
theorem d_Mo_table_64 : decode c_Mo_table 64 = .ok (.iconst 0, 1) := by decide +kernel
theorem d_Mo_table_65 : decode c_Mo_table 65 = .ok (.istore 4, 2) := by decide +kernel
theorem d_Mo_table_67 : decode c_Mo_table 67 = .ok (.aload_n 0, 1) := by decide +kernel
theorem d_Mo_table_68 : decode c_Mo_table 68 = .ok (.getfield 7, 3) := by decide +kernel
theorem d_Mo_table_71 : decode c_Mo_table 71 = .ok (.bipush 10, 2) := by decide +kernel
theorem d_Mo_table_73 : decode c_Mo_table 73 = .ok (.iload_n 1, 1) := by decide +kernel
theorem d_Mo_table_74 : decode c_Mo_table 74 = .ok (.imul, 1) := by decide +kernel
theorem d_Mo_table_75 : decode c_Mo_table 75 = .ok (.iload_n 2, 1) := by decide +kernel
theorem d_Mo_table_76 : decode c_Mo_table 76 = .ok (.iadd, 1) := by decide +kernel
theorem d_Mo_table_77 : decode c_Mo_table 77 = .ok (.iload_n 3, 1) := by decide +kernel
theorem d_Mo_table_78 : decode c_Mo_table 78 = .ok (.iastore, 1) := by decide +kernel
theorem d_Mo_table_79 : decode c_Mo_table 79 = .ok (.aload_n 0, 1) := by decide +kernel
theorem d_Mo_table_80 : decode c_Mo_table 80 = .ok (.getfield 7, 3) := by decide +kernel
theorem d_Mo_table_83 : decode c_Mo_table 83 = .ok (.bipush 10, 2) := by decide +kernel
theorem d_Mo_table_85 : decode c_Mo_table 85 = .ok (.iload_n 2, 1) := by decide +kernel
theorem d_Mo_table_86 : decode c_Mo_table 86 = .ok (.imul, 1) := by decide +kernel
theorem d_Mo_table_87 : decode c_Mo_table 87 = .ok (.iload_n 1, 1) := by decide +kernel
theorem d_Mo_table_88 : decode c_Mo_table 88 = .ok (.iadd, 1) := by decide +kernel
theorem d_Mo_table_89 : decode c_Mo_table 89 = .ok (.iload_n 3, 1) := by decide +kernel
theorem d_Mo_table_90 : decode c_Mo_table 90 = .ok (.iastore, 1) := by decide +kernel
theorem d_Mo_table_91 : decode c_Mo_table 91 = .ok (.iload 4, 2) := by decide +kernel
theorem d_Mo_table_93 : decode c_Mo_table 93 = .ok (.ireturn, 1) := by decide +kernel
abbrev c_Mo_isKind : ByteArray := prog_14_method_3_code
abbrev r_Mo_isKind : Option FieldType := (some FieldType.boolean)
def y_Mo_isKind : MethodName := ⟨"PinKindChecksModel", "isKind", "(I)Z"⟩
theorem d_Mo_isKind_0 : decode c_Mo_isKind 0 = .ok (.iload_n 0, 1) := by decide +kernel
theorem d_Mo_isKind_1 : decode c_Mo_isKind 1 = .ok (.ifCond .lt 13, 3) := by decide +kernel
theorem d_Mo_isKind_4 : decode c_Mo_isKind 4 = .ok (.iload_n 0, 1) := by decide +kernel
theorem d_Mo_isKind_5 : decode c_Mo_isKind 5 = .ok (.bipush 10, 2) := by decide +kernel
theorem d_Mo_isKind_7 : decode c_Mo_isKind 7 = .ok (.if_icmp .ge 7, 3) := by decide +kernel
theorem d_Mo_isKind_10 : decode c_Mo_isKind 10 = .ok (.iconst 1, 1) := by decide +kernel
theorem d_Mo_isKind_11 : decode c_Mo_isKind 11 = .ok (.goto 4, 3) := by decide +kernel
theorem d_Mo_isKind_14 : decode c_Mo_isKind 14 = .ok (.iconst 0, 1) := by decide +kernel
theorem d_Mo_isKind_15 : decode c_Mo_isKind 15 = .ok (.ireturn, 1) := by decide +kernel
abbrev c_Mo_part : ByteArray := prog_14_method_8_code
abbrev r_Mo_part : Option FieldType := (some FieldType.int)
def y_Mo_part : MethodName := ⟨"PinKindChecksModel", "part", "(I)I"⟩
theorem d_Mo_part_0 : decode c_Mo_part 0 = .ok (.aload_n 0, 1) := by decide +kernel
theorem d_Mo_part_1 : decode c_Mo_part 1 = .ok (.iload_n 1, 1) := by decide +kernel
theorem d_Mo_part_2 : decode c_Mo_part 2 = .ok (.invokestatic 104, 3) := by decide +kernel
theorem d_Mo_part_5 : decode c_Mo_part 5 = .ok (.ifCond .eq 7, 3) := by decide +kernel
theorem d_Mo_part_8 : decode c_Mo_part 8 = .ok (.iconst 0, 1) := by decide +kernel
theorem d_Mo_part_9 : decode c_Mo_part 9 = .ok (.goto 4, 3) := by decide +kernel
theorem d_Mo_part_12 : decode c_Mo_part 12 = .ok (.iconst 1, 1) := by decide +kernel
theorem d_Mo_part_13 : decode c_Mo_part 13 = .ok (.putfield 91, 3) := by decide +kernel
theorem d_Mo_part_16 : decode c_Mo_part 16 = .ok (.aload_n 0, 1) := by decide +kernel
theorem d_Mo_part_17 : decode c_Mo_part 17 = .ok (.getfield 91, 3) := by decide +kernel
theorem d_Mo_part_20 : decode c_Mo_part 20 = .ok (.ifCond .eq 5, 3) := by decide +kernel
theorem d_Mo_part_23 : decode c_Mo_part 23 = .ok (.iconst 0, 1) := by decide +kernel
theorem d_Mo_part_24 : decode c_Mo_part 24 = .ok (.ireturn, 1) := by decide +kernel
theorem d_Mo_part_25 : decode c_Mo_part 25 = .ok (.aload_n 0, 1) := by decide +kernel
theorem d_Mo_part_26 : decode c_Mo_part 26 = .ok (.getfield 97, 3) := by decide +kernel
theorem d_Mo_part_29 : decode c_Mo_part 29 = .ok (.bipush 40, 2) := by decide +kernel
theorem d_Mo_part_31 : decode c_Mo_part 31 = .ok (.if_icmp .ne 5, 3) := by decide +kernel
theorem d_Mo_part_34 : decode c_Mo_part 34 = .ok (.iconst (-1), 1) := by decide +kernel
theorem d_Mo_part_35 : decode c_Mo_part 35 = .ok (.ireturn, 1) := by decide +kernel
theorem d_Mo_part_36 : decode c_Mo_part 36 = .ok (.aload_n 0, 1) := by decide +kernel
theorem d_Mo_part_37 : decode c_Mo_part 37 = .ok (.getfield 13, 3) := by decide +kernel
theorem d_Mo_part_40 : decode c_Mo_part 40 = .ok (.aload_n 0, 1) := by decide +kernel
theorem d_Mo_part_41 : decode c_Mo_part 41 = .ok (.getfield 97, 3) := by decide +kernel
theorem d_Mo_part_44 : decode c_Mo_part 44 = .ok (.iload_n 1, 1) := by decide +kernel
theorem d_Mo_part_45 : decode c_Mo_part 45 = .ok (.iastore, 1) := by decide +kernel
theorem d_Mo_part_46 : decode c_Mo_part 46 = .ok (.iconst 0, 1) := by decide +kernel
theorem d_Mo_part_47 : decode c_Mo_part 47 = .ok (.istore_n 2, 1) := by decide +kernel
theorem d_Mo_part_48 : decode c_Mo_part 48 = .ok (.iload_n 2, 1) := by decide +kernel
theorem d_Mo_part_49 : decode c_Mo_part 49 = .ok (.bipush 8, 2) := by decide +kernel
theorem d_Mo_part_51 : decode c_Mo_part 51 = .ok (.if_icmp .ge 24, 3) := by decide +kernel
theorem d_Mo_part_54 : decode c_Mo_part 54 = .ok (.aload_n 0, 1) := by decide +kernel
theorem d_Mo_part_55 : decode c_Mo_part 55 = .ok (.getfield 16, 3) := by decide +kernel
theorem d_Mo_part_58 : decode c_Mo_part 58 = .ok (.bipush 8, 2) := by decide +kernel
theorem d_Mo_part_60 : decode c_Mo_part 60 = .ok (.aload_n 0, 1) := by decide +kernel
theorem d_Mo_part_61 : decode c_Mo_part 61 = .ok (.getfield 97, 3) := by decide +kernel
theorem d_Mo_part_64 : decode c_Mo_part 64 = .ok (.imul, 1) := by decide +kernel
theorem d_Mo_part_65 : decode c_Mo_part 65 = .ok (.iload_n 2, 1) := by decide +kernel
theorem d_Mo_part_66 : decode c_Mo_part 66 = .ok (.iadd, 1) := by decide +kernel
theorem d_Mo_part_67 : decode c_Mo_part 67 = .ok (.lconst 0, 1) := by decide +kernel
theorem d_Mo_part_68 : decode c_Mo_part 68 = .ok (.lastore, 1) := by decide +kernel
theorem d_Mo_part_69 : decode c_Mo_part 69 = .ok (.iinc 2 1, 3) := by decide +kernel
theorem d_Mo_part_72 : decode c_Mo_part 72 = .ok (.goto (-24), 3) := by decide +kernel
theorem d_Mo_part_75 : decode c_Mo_part 75 = .ok (.aload_n 0, 1) := by decide +kernel
theorem d_Mo_part_76 : decode c_Mo_part 76 = .ok (.dup, 1) := by decide +kernel
theorem d_Mo_part_77 : decode c_Mo_part 77 = .ok (.getfield 97, 3) := by decide +kernel
theorem d_Mo_part_80 : decode c_Mo_part 80 = .ok (.iconst 1, 1) := by decide +kernel
theorem d_Mo_part_81 : decode c_Mo_part 81 = .ok (.iadd, 1) := by decide +kernel
theorem d_Mo_part_82 : decode c_Mo_part 82 = .ok (.putfield 97, 3) := by decide +kernel
theorem d_Mo_part_85 : decode c_Mo_part 85 = .ok (.aload_n 0, 1) := by decide +kernel
theorem d_Mo_part_86 : decode c_Mo_part 86 = .ok (.getfield 97, 3) := by decide +kernel
theorem d_Mo_part_89 : decode c_Mo_part 89 = .ok (.iconst 1, 1) := by decide +kernel
theorem d_Mo_part_90 : decode c_Mo_part 90 = .ok (.isub, 1) := by decide +kernel
theorem d_Mo_part_91 : decode c_Mo_part 91 = .ok (.ireturn, 1) := by decide +kernel
abbrev c_Mo_isSheet : ByteArray := prog_14_method_4_code
abbrev r_Mo_isSheet : Option FieldType := (some FieldType.boolean)
def y_Mo_isSheet : MethodName := ⟨"PinKindChecksModel", "isSheet", "(I)Z"⟩
theorem d_Mo_isSheet_0 : decode c_Mo_isSheet 0 = .ok (.iload_n 0, 1) := by decide +kernel
theorem d_Mo_isSheet_1 : decode c_Mo_isSheet 1 = .ok (.ifCond .lt 13, 3) := by decide +kernel
theorem d_Mo_isSheet_4 : decode c_Mo_isSheet 4 = .ok (.iload_n 0, 1) := by decide +kernel
theorem d_Mo_isSheet_5 : decode c_Mo_isSheet 5 = .ok (.bipush 16, 2) := by decide +kernel
theorem d_Mo_isSheet_7 : decode c_Mo_isSheet 7 = .ok (.if_icmp .ge 7, 3) := by decide +kernel
theorem d_Mo_isSheet_10 : decode c_Mo_isSheet 10 = .ok (.iconst 1, 1) := by decide +kernel
theorem d_Mo_isSheet_11 : decode c_Mo_isSheet 11 = .ok (.goto 4, 3) := by decide +kernel
theorem d_Mo_isSheet_14 : decode c_Mo_isSheet 14 = .ok (.iconst 0, 1) := by decide +kernel
theorem d_Mo_isSheet_15 : decode c_Mo_isSheet 15 = .ok (.ireturn, 1) := by decide +kernel
abbrev c_Mo_net : ByteArray := prog_14_method_9_code
abbrev r_Mo_net : Option FieldType := (some FieldType.int)
def y_Mo_net : MethodName := ⟨"PinKindChecksModel", "net", "(II)I"⟩
theorem d_Mo_net_0 : decode c_Mo_net 0 = .ok (.aload_n 0, 1) := by decide +kernel
theorem d_Mo_net_1 : decode c_Mo_net 1 = .ok (.iload_n 1, 1) := by decide +kernel
theorem d_Mo_net_2 : decode c_Mo_net 2 = .ok (.invokestatic 104, 3) := by decide +kernel
theorem d_Mo_net_5 : decode c_Mo_net 5 = .ok (.ifCond .ne 7, 3) := by decide +kernel
theorem d_Mo_net_8 : decode c_Mo_net 8 = .ok (.iconst 1, 1) := by decide +kernel
theorem d_Mo_net_9 : decode c_Mo_net 9 = .ok (.goto 19, 3) := by decide +kernel
theorem d_Mo_net_12 : decode c_Mo_net 12 = .ok (.iload_n 2, 1) := by decide +kernel
theorem d_Mo_net_13 : decode c_Mo_net 13 = .ok (.ifCond .lt 10, 3) := by decide +kernel
theorem d_Mo_net_16 : decode c_Mo_net 16 = .ok (.iload_n 2, 1) := by decide +kernel
theorem d_Mo_net_17 : decode c_Mo_net 17 = .ok (.sipush 999, 3) := by decide +kernel
theorem d_Mo_net_20 : decode c_Mo_net 20 = .ok (.if_icmp .le 7, 3) := by decide +kernel
theorem d_Mo_net_23 : decode c_Mo_net 23 = .ok (.iconst 2, 1) := by decide +kernel
theorem d_Mo_net_24 : decode c_Mo_net 24 = .ok (.goto 4, 3) := by decide +kernel
theorem d_Mo_net_27 : decode c_Mo_net 27 = .ok (.iconst 0, 1) := by decide +kernel
theorem d_Mo_net_28 : decode c_Mo_net 28 = .ok (.putfield 91, 3) := by decide +kernel
theorem d_Mo_net_31 : decode c_Mo_net 31 = .ok (.aload_n 0, 1) := by decide +kernel
theorem d_Mo_net_32 : decode c_Mo_net 32 = .ok (.getfield 91, 3) := by decide +kernel
theorem d_Mo_net_35 : decode c_Mo_net 35 = .ok (.ifCond .eq 5, 3) := by decide +kernel
theorem d_Mo_net_38 : decode c_Mo_net 38 = .ok (.iconst 0, 1) := by decide +kernel
theorem d_Mo_net_39 : decode c_Mo_net 39 = .ok (.ireturn, 1) := by decide +kernel
theorem d_Mo_net_40 : decode c_Mo_net 40 = .ok (.aload_n 0, 1) := by decide +kernel
theorem d_Mo_net_41 : decode c_Mo_net 41 = .ok (.getfield 94, 3) := by decide +kernel
theorem d_Mo_net_44 : decode c_Mo_net 44 = .ok (.bipush 40, 2) := by decide +kernel
theorem d_Mo_net_46 : decode c_Mo_net 46 = .ok (.if_icmp .ne 5, 3) := by decide +kernel
theorem d_Mo_net_49 : decode c_Mo_net 49 = .ok (.iconst (-1), 1) := by decide +kernel
theorem d_Mo_net_50 : decode c_Mo_net 50 = .ok (.ireturn, 1) := by decide +kernel
theorem d_Mo_net_51 : decode c_Mo_net 51 = .ok (.aload_n 0, 1) := by decide +kernel
theorem d_Mo_net_52 : decode c_Mo_net 52 = .ok (.getfield 20, 3) := by decide +kernel
theorem d_Mo_net_55 : decode c_Mo_net 55 = .ok (.aload_n 0, 1) := by decide +kernel
theorem d_Mo_net_56 : decode c_Mo_net 56 = .ok (.getfield 94, 3) := by decide +kernel
theorem d_Mo_net_59 : decode c_Mo_net 59 = .ok (.iload_n 1, 1) := by decide +kernel
theorem d_Mo_net_60 : decode c_Mo_net 60 = .ok (.iastore, 1) := by decide +kernel
theorem d_Mo_net_61 : decode c_Mo_net 61 = .ok (.aload_n 0, 1) := by decide +kernel
theorem d_Mo_net_62 : decode c_Mo_net 62 = .ok (.getfield 23, 3) := by decide +kernel
theorem d_Mo_net_65 : decode c_Mo_net 65 = .ok (.aload_n 0, 1) := by decide +kernel
theorem d_Mo_net_66 : decode c_Mo_net 66 = .ok (.getfield 94, 3) := by decide +kernel
theorem d_Mo_net_69 : decode c_Mo_net 69 = .ok (.iload_n 2, 1) := by decide +kernel
theorem d_Mo_net_70 : decode c_Mo_net 70 = .ok (.iastore, 1) := by decide +kernel
theorem d_Mo_net_71 : decode c_Mo_net 71 = .ok (.aload_n 0, 1) := by decide +kernel
theorem d_Mo_net_72 : decode c_Mo_net 72 = .ok (.dup, 1) := by decide +kernel
theorem d_Mo_net_73 : decode c_Mo_net 73 = .ok (.getfield 94, 3) := by decide +kernel
theorem d_Mo_net_76 : decode c_Mo_net 76 = .ok (.iconst 1, 1) := by decide +kernel
theorem d_Mo_net_77 : decode c_Mo_net 77 = .ok (.iadd, 1) := by decide +kernel
theorem d_Mo_net_78 : decode c_Mo_net 78 = .ok (.putfield 94, 3) := by decide +kernel
theorem d_Mo_net_81 : decode c_Mo_net 81 = .ok (.aload_n 0, 1) := by decide +kernel
theorem d_Mo_net_82 : decode c_Mo_net 82 = .ok (.getfield 94, 3) := by decide +kernel
theorem d_Mo_net_85 : decode c_Mo_net 85 = .ok (.iconst 1, 1) := by decide +kernel
theorem d_Mo_net_86 : decode c_Mo_net 86 = .ok (.isub, 1) := by decide +kernel
theorem d_Mo_net_87 : decode c_Mo_net 87 = .ok (.ireturn, 1) := by decide +kernel
abbrev c_Mo_pin : ByteArray := prog_14_method_10_code
abbrev r_Mo_pin : Option FieldType := (some FieldType.int)
def y_Mo_pin : MethodName := ⟨"PinKindChecksModel", "pin", "(III)I"⟩
theorem d_Mo_pin_0 : decode c_Mo_pin 0 = .ok (.aload_n 0, 1) := by decide +kernel
theorem d_Mo_pin_1 : decode c_Mo_pin 1 = .ok (.iload_n 1, 1) := by decide +kernel
theorem d_Mo_pin_2 : decode c_Mo_pin 2 = .ok (.invokevirtual 107, 3) := by decide +kernel
theorem d_Mo_pin_5 : decode c_Mo_pin 5 = .ok (.ifCond .eq 20, 3) := by decide +kernel
theorem d_Mo_pin_8 : decode c_Mo_pin 8 = .ok (.iload_n 2, 1) := by decide +kernel
theorem d_Mo_pin_9 : decode c_Mo_pin 9 = .ok (.iconst (-1), 1) := by decide +kernel
theorem d_Mo_pin_10 : decode c_Mo_pin 10 = .ok (.if_icmp .eq 11, 3) := by decide +kernel
theorem d_Mo_pin_13 : decode c_Mo_pin 13 = .ok (.aload_n 0, 1) := by decide +kernel
theorem d_Mo_pin_14 : decode c_Mo_pin 14 = .ok (.iload_n 2, 1) := by decide +kernel
theorem d_Mo_pin_15 : decode c_Mo_pin 15 = .ok (.invokevirtual 110, 3) := by decide +kernel
theorem d_Mo_pin_18 : decode c_Mo_pin 18 = .ok (.ifCond .eq 7, 3) := by decide +kernel
theorem d_Mo_pin_21 : decode c_Mo_pin 21 = .ok (.iconst 1, 1) := by decide +kernel
theorem d_Mo_pin_22 : decode c_Mo_pin 22 = .ok (.goto 4, 3) := by decide +kernel
theorem d_Mo_pin_25 : decode c_Mo_pin 25 = .ok (.iconst 0, 1) := by decide +kernel
theorem d_Mo_pin_26 : decode c_Mo_pin 26 = .ok (.istore 4, 2) := by decide +kernel
theorem d_Mo_pin_28 : decode c_Mo_pin 28 = .ok (.aload_n 0, 1) := by decide +kernel
theorem d_Mo_pin_29 : decode c_Mo_pin 29 = .ok (.iload 4, 2) := by decide +kernel
theorem d_Mo_pin_31 : decode c_Mo_pin 31 = .ok (.ifCond .ne 7, 3) := by decide +kernel
theorem d_Mo_pin_34 : decode c_Mo_pin 34 = .ok (.iconst 1, 1) := by decide +kernel
theorem d_Mo_pin_35 : decode c_Mo_pin 35 = .ok (.goto 15, 3) := by decide +kernel
theorem d_Mo_pin_38 : decode c_Mo_pin 38 = .ok (.iload_n 3, 1) := by decide +kernel
theorem d_Mo_pin_39 : decode c_Mo_pin 39 = .ok (.invokestatic 100, 3) := by decide +kernel
theorem d_Mo_pin_42 : decode c_Mo_pin 42 = .ok (.ifCond .eq 7, 3) := by decide +kernel
theorem d_Mo_pin_45 : decode c_Mo_pin 45 = .ok (.iconst 0, 1) := by decide +kernel
theorem d_Mo_pin_46 : decode c_Mo_pin 46 = .ok (.goto 4, 3) := by decide +kernel
theorem d_Mo_pin_49 : decode c_Mo_pin 49 = .ok (.iconst 2, 1) := by decide +kernel
theorem d_Mo_pin_50 : decode c_Mo_pin 50 = .ok (.putfield 91, 3) := by decide +kernel
theorem d_Mo_pin_53 : decode c_Mo_pin 53 = .ok (.aload_n 0, 1) := by decide +kernel
theorem d_Mo_pin_54 : decode c_Mo_pin 54 = .ok (.getfield 91, 3) := by decide +kernel
theorem d_Mo_pin_57 : decode c_Mo_pin 57 = .ok (.ifCond .eq 5, 3) := by decide +kernel
theorem d_Mo_pin_60 : decode c_Mo_pin 60 = .ok (.iconst 0, 1) := by decide +kernel
theorem d_Mo_pin_61 : decode c_Mo_pin 61 = .ok (.ireturn, 1) := by decide +kernel
theorem d_Mo_pin_62 : decode c_Mo_pin 62 = .ok (.aload_n 0, 1) := by decide +kernel
theorem d_Mo_pin_63 : decode c_Mo_pin 63 = .ok (.getfield 113, 3) := by decide +kernel
theorem d_Mo_pin_66 : decode c_Mo_pin 66 = .ok (.sipush 160, 3) := by decide +kernel
theorem d_Mo_pin_69 : decode c_Mo_pin 69 = .ok (.if_icmp .ne 5, 3) := by decide +kernel
theorem d_Mo_pin_72 : decode c_Mo_pin 72 = .ok (.iconst (-1), 1) := by decide +kernel
theorem d_Mo_pin_73 : decode c_Mo_pin 73 = .ok (.ireturn, 1) := by decide +kernel
theorem d_Mo_pin_74 : decode c_Mo_pin 74 = .ok (.aload_n 0, 1) := by decide +kernel
theorem d_Mo_pin_75 : decode c_Mo_pin 75 = .ok (.getfield 26, 3) := by decide +kernel
theorem d_Mo_pin_78 : decode c_Mo_pin 78 = .ok (.aload_n 0, 1) := by decide +kernel
theorem d_Mo_pin_79 : decode c_Mo_pin 79 = .ok (.getfield 113, 3) := by decide +kernel
theorem d_Mo_pin_82 : decode c_Mo_pin 82 = .ok (.iload_n 1, 1) := by decide +kernel
theorem d_Mo_pin_83 : decode c_Mo_pin 83 = .ok (.iastore, 1) := by decide +kernel
theorem d_Mo_pin_84 : decode c_Mo_pin 84 = .ok (.aload_n 0, 1) := by decide +kernel
theorem d_Mo_pin_85 : decode c_Mo_pin 85 = .ok (.getfield 29, 3) := by decide +kernel
theorem d_Mo_pin_88 : decode c_Mo_pin 88 = .ok (.aload_n 0, 1) := by decide +kernel
theorem d_Mo_pin_89 : decode c_Mo_pin 89 = .ok (.getfield 113, 3) := by decide +kernel
theorem d_Mo_pin_92 : decode c_Mo_pin 92 = .ok (.iload_n 2, 1) := by decide +kernel
theorem d_Mo_pin_93 : decode c_Mo_pin 93 = .ok (.iastore, 1) := by decide +kernel
theorem d_Mo_pin_94 : decode c_Mo_pin 94 = .ok (.aload_n 0, 1) := by decide +kernel
theorem d_Mo_pin_95 : decode c_Mo_pin 95 = .ok (.getfield 32, 3) := by decide +kernel
theorem d_Mo_pin_98 : decode c_Mo_pin 98 = .ok (.aload_n 0, 1) := by decide +kernel
theorem d_Mo_pin_99 : decode c_Mo_pin 99 = .ok (.getfield 113, 3) := by decide +kernel
theorem d_Mo_pin_102 : decode c_Mo_pin 102 = .ok (.iload_n 3, 1) := by decide +kernel
theorem d_Mo_pin_103 : decode c_Mo_pin 103 = .ok (.iastore, 1) := by decide +kernel
theorem d_Mo_pin_104 : decode c_Mo_pin 104 = .ok (.aload_n 0, 1) := by decide +kernel
theorem d_Mo_pin_105 : decode c_Mo_pin 105 = .ok (.dup, 1) := by decide +kernel
theorem d_Mo_pin_106 : decode c_Mo_pin 106 = .ok (.getfield 113, 3) := by decide +kernel
theorem d_Mo_pin_109 : decode c_Mo_pin 109 = .ok (.iconst 1, 1) := by decide +kernel
theorem d_Mo_pin_110 : decode c_Mo_pin 110 = .ok (.iadd, 1) := by decide +kernel
theorem d_Mo_pin_111 : decode c_Mo_pin 111 = .ok (.putfield 113, 3) := by decide +kernel
theorem d_Mo_pin_114 : decode c_Mo_pin 114 = .ok (.aload_n 0, 1) := by decide +kernel
theorem d_Mo_pin_115 : decode c_Mo_pin 115 = .ok (.getfield 113, 3) := by decide +kernel
theorem d_Mo_pin_118 : decode c_Mo_pin 118 = .ok (.iconst 1, 1) := by decide +kernel
theorem d_Mo_pin_119 : decode c_Mo_pin 119 = .ok (.isub, 1) := by decide +kernel
theorem d_Mo_pin_120 : decode c_Mo_pin 120 = .ok (.ireturn, 1) := by decide +kernel
abbrev c_Mo_isPart : ByteArray := prog_14_method_6_code
abbrev r_Mo_isPart : Option FieldType := (some FieldType.boolean)
def y_Mo_isPart : MethodName := ⟨"PinKindChecksModel", "isPart", "(I)Z"⟩
theorem d_Mo_isPart_0 : decode c_Mo_isPart 0 = .ok (.iload_n 1, 1) := by decide +kernel
theorem d_Mo_isPart_1 : decode c_Mo_isPart 1 = .ok (.ifCond .lt 15, 3) := by decide +kernel
theorem d_Mo_isPart_4 : decode c_Mo_isPart 4 = .ok (.iload_n 1, 1) := by decide +kernel
theorem d_Mo_isPart_5 : decode c_Mo_isPart 5 = .ok (.aload_n 0, 1) := by decide +kernel
theorem d_Mo_isPart_6 : decode c_Mo_isPart 6 = .ok (.getfield 97, 3) := by decide +kernel
theorem d_Mo_isPart_9 : decode c_Mo_isPart 9 = .ok (.if_icmp .ge 7, 3) := by decide +kernel
theorem d_Mo_isPart_12 : decode c_Mo_isPart 12 = .ok (.iconst 1, 1) := by decide +kernel
theorem d_Mo_isPart_13 : decode c_Mo_isPart 13 = .ok (.goto 4, 3) := by decide +kernel
theorem d_Mo_isPart_16 : decode c_Mo_isPart 16 = .ok (.iconst 0, 1) := by decide +kernel
theorem d_Mo_isPart_17 : decode c_Mo_isPart 17 = .ok (.ireturn, 1) := by decide +kernel
abbrev c_Mo_isNet : ByteArray := prog_14_method_5_code
abbrev r_Mo_isNet : Option FieldType := (some FieldType.boolean)
def y_Mo_isNet : MethodName := ⟨"PinKindChecksModel", "isNet", "(I)Z"⟩
theorem d_Mo_isNet_0 : decode c_Mo_isNet 0 = .ok (.iload_n 1, 1) := by decide +kernel
theorem d_Mo_isNet_1 : decode c_Mo_isNet 1 = .ok (.ifCond .lt 15, 3) := by decide +kernel
theorem d_Mo_isNet_4 : decode c_Mo_isNet 4 = .ok (.iload_n 1, 1) := by decide +kernel
theorem d_Mo_isNet_5 : decode c_Mo_isNet 5 = .ok (.aload_n 0, 1) := by decide +kernel
theorem d_Mo_isNet_6 : decode c_Mo_isNet 6 = .ok (.getfield 94, 3) := by decide +kernel
theorem d_Mo_isNet_9 : decode c_Mo_isNet 9 = .ok (.if_icmp .ge 7, 3) := by decide +kernel
theorem d_Mo_isNet_12 : decode c_Mo_isNet 12 = .ok (.iconst 1, 1) := by decide +kernel
theorem d_Mo_isNet_13 : decode c_Mo_isNet 13 = .ok (.goto 4, 3) := by decide +kernel
theorem d_Mo_isNet_16 : decode c_Mo_isNet 16 = .ok (.iconst 0, 1) := by decide +kernel
theorem d_Mo_isNet_17 : decode c_Mo_isNet 17 = .ok (.ireturn, 1) := by decide +kernel
abbrev c_Mo_join : ByteArray := prog_14_method_11_code
abbrev r_Mo_join : Option FieldType := (some FieldType.boolean)
def y_Mo_join : MethodName := ⟨"PinKindChecksModel", "join", "(II)Z"⟩
theorem d_Mo_join_0 : decode c_Mo_join 0 = .ok (.aload_n 0, 1) := by decide +kernel
theorem d_Mo_join_1 : decode c_Mo_join 1 = .ok (.iload_n 1, 1) := by decide +kernel
theorem d_Mo_join_2 : decode c_Mo_join 2 = .ok (.ifCond .lt 28, 3) := by decide +kernel
theorem d_Mo_join_5 : decode c_Mo_join 5 = .ok (.iload_n 1, 1) := by decide +kernel
theorem d_Mo_join_6 : decode c_Mo_join 6 = .ok (.aload_n 0, 1) := by decide +kernel
theorem d_Mo_join_7 : decode c_Mo_join 7 = .ok (.getfield 113, 3) := by decide +kernel
theorem d_Mo_join_10 : decode c_Mo_join 10 = .ok (.if_icmp .ge 20, 3) := by decide +kernel
theorem d_Mo_join_13 : decode c_Mo_join 13 = .ok (.iload_n 2, 1) := by decide +kernel
theorem d_Mo_join_14 : decode c_Mo_join 14 = .ok (.iconst (-1), 1) := by decide +kernel
theorem d_Mo_join_15 : decode c_Mo_join 15 = .ok (.if_icmp .eq 11, 3) := by decide +kernel
theorem d_Mo_join_18 : decode c_Mo_join 18 = .ok (.aload_n 0, 1) := by decide +kernel
theorem d_Mo_join_19 : decode c_Mo_join 19 = .ok (.iload_n 2, 1) := by decide +kernel
theorem d_Mo_join_20 : decode c_Mo_join 20 = .ok (.invokevirtual 110, 3) := by decide +kernel
theorem d_Mo_join_23 : decode c_Mo_join 23 = .ok (.ifCond .eq 7, 3) := by decide +kernel
theorem d_Mo_join_26 : decode c_Mo_join 26 = .ok (.iconst 0, 1) := by decide +kernel
theorem d_Mo_join_27 : decode c_Mo_join 27 = .ok (.goto 4, 3) := by decide +kernel
theorem d_Mo_join_30 : decode c_Mo_join 30 = .ok (.iconst 1, 1) := by decide +kernel
theorem d_Mo_join_31 : decode c_Mo_join 31 = .ok (.putfield 91, 3) := by decide +kernel
theorem d_Mo_join_34 : decode c_Mo_join 34 = .ok (.aload_n 0, 1) := by decide +kernel
theorem d_Mo_join_35 : decode c_Mo_join 35 = .ok (.getfield 91, 3) := by decide +kernel
theorem d_Mo_join_38 : decode c_Mo_join 38 = .ok (.ifCond .ne 13, 3) := by decide +kernel
theorem d_Mo_join_41 : decode c_Mo_join 41 = .ok (.aload_n 0, 1) := by decide +kernel
theorem d_Mo_join_42 : decode c_Mo_join 42 = .ok (.getfield 29, 3) := by decide +kernel
theorem d_Mo_join_45 : decode c_Mo_join 45 = .ok (.iload_n 1, 1) := by decide +kernel
theorem d_Mo_join_46 : decode c_Mo_join 46 = .ok (.iaload, 1) := by decide +kernel
theorem d_Mo_join_47 : decode c_Mo_join 47 = .ok (.iload_n 2, 1) := by decide +kernel
theorem d_Mo_join_48 : decode c_Mo_join 48 = .ok (.if_icmp .ne 5, 3) := by decide +kernel
theorem d_Mo_join_51 : decode c_Mo_join 51 = .ok (.iconst 0, 1) := by decide +kernel
theorem d_Mo_join_52 : decode c_Mo_join 52 = .ok (.ireturn, 1) := by decide +kernel
theorem d_Mo_join_53 : decode c_Mo_join 53 = .ok (.aload_n 0, 1) := by decide +kernel
theorem d_Mo_join_54 : decode c_Mo_join 54 = .ok (.getfield 29, 3) := by decide +kernel
theorem d_Mo_join_57 : decode c_Mo_join 57 = .ok (.iload_n 1, 1) := by decide +kernel
theorem d_Mo_join_58 : decode c_Mo_join 58 = .ok (.iload_n 2, 1) := by decide +kernel
theorem d_Mo_join_59 : decode c_Mo_join 59 = .ok (.iastore, 1) := by decide +kernel
theorem d_Mo_join_60 : decode c_Mo_join 60 = .ok (.iconst 1, 1) := by decide +kernel
theorem d_Mo_join_61 : decode c_Mo_join 61 = .ok (.ireturn, 1) := by decide +kernel
abbrev c_Mo_field : ByteArray := prog_14_method_12_code
abbrev r_Mo_field : Option FieldType := (some FieldType.boolean)
def y_Mo_field : MethodName := ⟨"PinKindChecksModel", "field", "(IIJ)Z"⟩
theorem d_Mo_field_0 : decode c_Mo_field 0 = .ok (.aload_n 0, 1) := by decide +kernel
theorem d_Mo_field_1 : decode c_Mo_field 1 = .ok (.aload_n 0, 1) := by decide +kernel
theorem d_Mo_field_2 : decode c_Mo_field 2 = .ok (.iload_n 1, 1) := by decide +kernel
theorem d_Mo_field_3 : decode c_Mo_field 3 = .ok (.invokevirtual 107, 3) := by decide +kernel
theorem d_Mo_field_6 : decode c_Mo_field 6 = .ok (.ifCond .eq 17, 3) := by decide +kernel
theorem d_Mo_field_9 : decode c_Mo_field 9 = .ok (.iload_n 2, 1) := by decide +kernel
theorem d_Mo_field_10 : decode c_Mo_field 10 = .ok (.ifCond .lt 13, 3) := by decide +kernel
theorem d_Mo_field_13 : decode c_Mo_field 13 = .ok (.iload_n 2, 1) := by decide +kernel
theorem d_Mo_field_14 : decode c_Mo_field 14 = .ok (.bipush 8, 2) := by decide +kernel
theorem d_Mo_field_16 : decode c_Mo_field 16 = .ok (.if_icmp .ge 7, 3) := by decide +kernel
theorem d_Mo_field_19 : decode c_Mo_field 19 = .ok (.iconst 0, 1) := by decide +kernel
theorem d_Mo_field_20 : decode c_Mo_field 20 = .ok (.goto 4, 3) := by decide +kernel
theorem d_Mo_field_23 : decode c_Mo_field 23 = .ok (.iconst 1, 1) := by decide +kernel
theorem d_Mo_field_24 : decode c_Mo_field 24 = .ok (.putfield 91, 3) := by decide +kernel
theorem d_Mo_field_27 : decode c_Mo_field 27 = .ok (.aload_n 0, 1) := by decide +kernel
theorem d_Mo_field_28 : decode c_Mo_field 28 = .ok (.getfield 91, 3) := by decide +kernel
theorem d_Mo_field_31 : decode c_Mo_field 31 = .ok (.ifCond .ne 19, 3) := by decide +kernel
theorem d_Mo_field_34 : decode c_Mo_field 34 = .ok (.aload_n 0, 1) := by decide +kernel
theorem d_Mo_field_35 : decode c_Mo_field 35 = .ok (.getfield 16, 3) := by decide +kernel
theorem d_Mo_field_38 : decode c_Mo_field 38 = .ok (.bipush 8, 2) := by decide +kernel
theorem d_Mo_field_40 : decode c_Mo_field 40 = .ok (.iload_n 1, 1) := by decide +kernel
theorem d_Mo_field_41 : decode c_Mo_field 41 = .ok (.imul, 1) := by decide +kernel
theorem d_Mo_field_42 : decode c_Mo_field 42 = .ok (.iload_n 2, 1) := by decide +kernel
theorem d_Mo_field_43 : decode c_Mo_field 43 = .ok (.iadd, 1) := by decide +kernel
theorem d_Mo_field_44 : decode c_Mo_field 44 = .ok (.laload, 1) := by decide +kernel
theorem d_Mo_field_45 : decode c_Mo_field 45 = .ok (.lload_n 3, 1) := by decide +kernel
theorem d_Mo_field_46 : decode c_Mo_field 46 = .ok (.lcmp, 1) := by decide +kernel
theorem d_Mo_field_47 : decode c_Mo_field 47 = .ok (.ifCond .ne 5, 3) := by decide +kernel
theorem d_Mo_field_50 : decode c_Mo_field 50 = .ok (.iconst 0, 1) := by decide +kernel
theorem d_Mo_field_51 : decode c_Mo_field 51 = .ok (.ireturn, 1) := by decide +kernel
theorem d_Mo_field_52 : decode c_Mo_field 52 = .ok (.aload_n 0, 1) := by decide +kernel
theorem d_Mo_field_53 : decode c_Mo_field 53 = .ok (.getfield 16, 3) := by decide +kernel
theorem d_Mo_field_56 : decode c_Mo_field 56 = .ok (.bipush 8, 2) := by decide +kernel
theorem d_Mo_field_58 : decode c_Mo_field 58 = .ok (.iload_n 1, 1) := by decide +kernel
theorem d_Mo_field_59 : decode c_Mo_field 59 = .ok (.imul, 1) := by decide +kernel
theorem d_Mo_field_60 : decode c_Mo_field 60 = .ok (.iload_n 2, 1) := by decide +kernel
theorem d_Mo_field_61 : decode c_Mo_field 61 = .ok (.iadd, 1) := by decide +kernel
theorem d_Mo_field_62 : decode c_Mo_field 62 = .ok (.lload_n 3, 1) := by decide +kernel
theorem d_Mo_field_63 : decode c_Mo_field 63 = .ok (.lastore, 1) := by decide +kernel
theorem d_Mo_field_64 : decode c_Mo_field 64 = .ok (.iconst 1, 1) := by decide +kernel
theorem d_Mo_field_65 : decode c_Mo_field 65 = .ok (.ireturn, 1) := by decide +kernel
abbrev c_Mo_end : ByteArray := prog_14_method_13_code
abbrev r_Mo_end : Option FieldType := (some FieldType.boolean)
def y_Mo_end : MethodName := ⟨"PinKindChecksModel", "end", "(IJJ)Z"⟩
theorem d_Mo_end_0 : decode c_Mo_end 0 = .ok (.aload_n 0, 1) := by decide +kernel
theorem d_Mo_end_1 : decode c_Mo_end 1 = .ok (.aload_n 0, 1) := by decide +kernel
theorem d_Mo_end_2 : decode c_Mo_end 2 = .ok (.iload_n 1, 1) := by decide +kernel
theorem d_Mo_end_3 : decode c_Mo_end 3 = .ok (.invokevirtual 110, 3) := by decide +kernel
theorem d_Mo_end_6 : decode c_Mo_end 6 = .ok (.ifCond .eq 7, 3) := by decide +kernel
theorem d_Mo_end_9 : decode c_Mo_end 9 = .ok (.iconst 0, 1) := by decide +kernel
theorem d_Mo_end_10 : decode c_Mo_end 10 = .ok (.goto 4, 3) := by decide +kernel
theorem d_Mo_end_13 : decode c_Mo_end 13 = .ok (.iconst 1, 1) := by decide +kernel
theorem d_Mo_end_14 : decode c_Mo_end 14 = .ok (.putfield 91, 3) := by decide +kernel
theorem d_Mo_end_17 : decode c_Mo_end 17 = .ok (.aload_n 0, 1) := by decide +kernel
theorem d_Mo_end_18 : decode c_Mo_end 18 = .ok (.getfield 91, 3) := by decide +kernel
theorem d_Mo_end_21 : decode c_Mo_end 21 = .ok (.ifCond .ne 12, 3) := by decide +kernel
theorem d_Mo_end_24 : decode c_Mo_end 24 = .ok (.aload_n 0, 1) := by decide +kernel
theorem d_Mo_end_25 : decode c_Mo_end 25 = .ok (.getfield 116, 3) := by decide +kernel
theorem d_Mo_end_28 : decode c_Mo_end 28 = .ok (.bipush 100, 2) := by decide +kernel
theorem d_Mo_end_30 : decode c_Mo_end 30 = .ok (.if_icmp .ne 5, 3) := by decide +kernel
theorem d_Mo_end_33 : decode c_Mo_end 33 = .ok (.iconst 0, 1) := by decide +kernel
theorem d_Mo_end_34 : decode c_Mo_end 34 = .ok (.ireturn, 1) := by decide +kernel
theorem d_Mo_end_35 : decode c_Mo_end 35 = .ok (.aload_n 0, 1) := by decide +kernel
theorem d_Mo_end_36 : decode c_Mo_end 36 = .ok (.getfield 35, 3) := by decide +kernel
theorem d_Mo_end_39 : decode c_Mo_end 39 = .ok (.aload_n 0, 1) := by decide +kernel
theorem d_Mo_end_40 : decode c_Mo_end 40 = .ok (.getfield 116, 3) := by decide +kernel
theorem d_Mo_end_43 : decode c_Mo_end 43 = .ok (.iload_n 1, 1) := by decide +kernel
theorem d_Mo_end_44 : decode c_Mo_end 44 = .ok (.iastore, 1) := by decide +kernel
theorem d_Mo_end_45 : decode c_Mo_end 45 = .ok (.aload_n 0, 1) := by decide +kernel
theorem d_Mo_end_46 : decode c_Mo_end 46 = .ok (.getfield 38, 3) := by decide +kernel
theorem d_Mo_end_49 : decode c_Mo_end 49 = .ok (.aload_n 0, 1) := by decide +kernel
theorem d_Mo_end_50 : decode c_Mo_end 50 = .ok (.getfield 116, 3) := by decide +kernel
theorem d_Mo_end_53 : decode c_Mo_end 53 = .ok (.lload_n 2, 1) := by decide +kernel
theorem d_Mo_end_54 : decode c_Mo_end 54 = .ok (.lastore, 1) := by decide +kernel
theorem d_Mo_end_55 : decode c_Mo_end 55 = .ok (.aload_n 0, 1) := by decide +kernel
theorem d_Mo_end_56 : decode c_Mo_end 56 = .ok (.getfield 41, 3) := by decide +kernel
theorem d_Mo_end_59 : decode c_Mo_end 59 = .ok (.aload_n 0, 1) := by decide +kernel
theorem d_Mo_end_60 : decode c_Mo_end 60 = .ok (.getfield 116, 3) := by decide +kernel
theorem d_Mo_end_63 : decode c_Mo_end 63 = .ok (.lload 4, 2) := by decide +kernel
theorem d_Mo_end_65 : decode c_Mo_end 65 = .ok (.lastore, 1) := by decide +kernel
theorem d_Mo_end_66 : decode c_Mo_end 66 = .ok (.aload_n 0, 1) := by decide +kernel
theorem d_Mo_end_67 : decode c_Mo_end 67 = .ok (.dup, 1) := by decide +kernel
theorem d_Mo_end_68 : decode c_Mo_end 68 = .ok (.getfield 116, 3) := by decide +kernel
theorem d_Mo_end_71 : decode c_Mo_end 71 = .ok (.iconst 1, 1) := by decide +kernel
theorem d_Mo_end_72 : decode c_Mo_end 72 = .ok (.iadd, 1) := by decide +kernel
theorem d_Mo_end_73 : decode c_Mo_end 73 = .ok (.putfield 116, 3) := by decide +kernel
theorem d_Mo_end_76 : decode c_Mo_end 76 = .ok (.iconst 1, 1) := by decide +kernel
theorem d_Mo_end_77 : decode c_Mo_end 77 = .ok (.ireturn, 1) := by decide +kernel
abbrev c_Mo_unit : ByteArray := prog_14_method_14_code
abbrev r_Mo_unit : Option FieldType := (some FieldType.boolean)
def y_Mo_unit : MethodName := ⟨"PinKindChecksModel", "unit", "(I)Z"⟩
theorem d_Mo_unit_0 : decode c_Mo_unit 0 = .ok (.aload_n 0, 1) := by decide +kernel
theorem d_Mo_unit_1 : decode c_Mo_unit 1 = .ok (.iconst 0, 1) := by decide +kernel
theorem d_Mo_unit_2 : decode c_Mo_unit 2 = .ok (.putfield 91, 3) := by decide +kernel
theorem d_Mo_unit_5 : decode c_Mo_unit 5 = .ok (.iload_n 1, 1) := by decide +kernel
theorem d_Mo_unit_6 : decode c_Mo_unit 6 = .ok (.bipush 32, 2) := by decide +kernel
theorem d_Mo_unit_8 : decode c_Mo_unit 8 = .ok (.if_icmp .lt 19, 3) := by decide +kernel
theorem d_Mo_unit_11 : decode c_Mo_unit 11 = .ok (.iload_n 1, 1) := by decide +kernel
theorem d_Mo_unit_12 : decode c_Mo_unit 12 = .ok (.bipush 126, 2) := by decide +kernel
theorem d_Mo_unit_14 : decode c_Mo_unit 14 = .ok (.if_icmp .gt 13, 3) := by decide +kernel
theorem d_Mo_unit_17 : decode c_Mo_unit 17 = .ok (.aload_n 0, 1) := by decide +kernel
theorem d_Mo_unit_18 : decode c_Mo_unit 18 = .ok (.getfield 119, 3) := by decide +kernel
theorem d_Mo_unit_21 : decode c_Mo_unit 21 = .ok (.sipush 160, 3) := by decide +kernel
theorem d_Mo_unit_24 : decode c_Mo_unit 24 = .ok (.if_icmp .ne 5, 3) := by decide +kernel
theorem d_Mo_unit_27 : decode c_Mo_unit 27 = .ok (.iconst 0, 1) := by decide +kernel
theorem d_Mo_unit_28 : decode c_Mo_unit 28 = .ok (.ireturn, 1) := by decide +kernel
theorem d_Mo_unit_29 : decode c_Mo_unit 29 = .ok (.aload_n 0, 1) := by decide +kernel
theorem d_Mo_unit_30 : decode c_Mo_unit 30 = .ok (.getfield 44, 3) := by decide +kernel
theorem d_Mo_unit_33 : decode c_Mo_unit 33 = .ok (.aload_n 0, 1) := by decide +kernel
theorem d_Mo_unit_34 : decode c_Mo_unit 34 = .ok (.getfield 119, 3) := by decide +kernel
theorem d_Mo_unit_37 : decode c_Mo_unit 37 = .ok (.iload_n 1, 1) := by decide +kernel
theorem d_Mo_unit_38 : decode c_Mo_unit 38 = .ok (.iastore, 1) := by decide +kernel
theorem d_Mo_unit_39 : decode c_Mo_unit 39 = .ok (.aload_n 0, 1) := by decide +kernel
theorem d_Mo_unit_40 : decode c_Mo_unit 40 = .ok (.dup, 1) := by decide +kernel
theorem d_Mo_unit_41 : decode c_Mo_unit 41 = .ok (.getfield 119, 3) := by decide +kernel
theorem d_Mo_unit_44 : decode c_Mo_unit 44 = .ok (.iconst 1, 1) := by decide +kernel
theorem d_Mo_unit_45 : decode c_Mo_unit 45 = .ok (.iadd, 1) := by decide +kernel
theorem d_Mo_unit_46 : decode c_Mo_unit 46 = .ok (.putfield 119, 3) := by decide +kernel
theorem d_Mo_unit_49 : decode c_Mo_unit 49 = .ok (.iconst 1, 1) := by decide +kernel
theorem d_Mo_unit_50 : decode c_Mo_unit 50 = .ok (.ireturn, 1) := by decide +kernel
abbrev c_Mo_rule : ByteArray := prog_14_method_30_code
abbrev r_Mo_rule : Option FieldType := (some FieldType.int)
def y_Mo_rule : MethodName := ⟨"PinKindChecksModel", "rule", "()I"⟩
theorem d_Mo_rule_0 : decode c_Mo_rule 0 = .ok (.aload_n 0, 1) := by decide +kernel
theorem d_Mo_rule_1 : decode c_Mo_rule 1 = .ok (.aload_n 0, 1) := by decide +kernel
theorem d_Mo_rule_2 : decode c_Mo_rule 2 = .ok (.getfield 210, 3) := by decide +kernel
theorem d_Mo_rule_5 : decode c_Mo_rule 5 = .ok (.bipush 20, 2) := by decide +kernel
theorem d_Mo_rule_7 : decode c_Mo_rule 7 = .ok (.if_icmp .ne 7, 3) := by decide +kernel
theorem d_Mo_rule_10 : decode c_Mo_rule 10 = .ok (.iconst 1, 1) := by decide +kernel
theorem d_Mo_rule_11 : decode c_Mo_rule 11 = .ok (.goto 4, 3) := by decide +kernel
theorem d_Mo_rule_14 : decode c_Mo_rule 14 = .ok (.iconst 0, 1) := by decide +kernel
theorem d_Mo_rule_15 : decode c_Mo_rule 15 = .ok (.putfield 91, 3) := by decide +kernel
theorem d_Mo_rule_18 : decode c_Mo_rule 18 = .ok (.aload_n 0, 1) := by decide +kernel
theorem d_Mo_rule_19 : decode c_Mo_rule 19 = .ok (.getfield 91, 3) := by decide +kernel
theorem d_Mo_rule_22 : decode c_Mo_rule 22 = .ok (.ifCond .eq 5, 3) := by decide +kernel
theorem d_Mo_rule_25 : decode c_Mo_rule 25 = .ok (.iconst 0, 1) := by decide +kernel
theorem d_Mo_rule_26 : decode c_Mo_rule 26 = .ok (.ireturn, 1) := by decide +kernel
theorem d_Mo_rule_27 : decode c_Mo_rule 27 = .ok (.aload_n 0, 1) := by decide +kernel
theorem d_Mo_rule_28 : decode c_Mo_rule 28 = .ok (.aload_n 0, 1) := by decide +kernel
theorem d_Mo_rule_29 : decode c_Mo_rule 29 = .ok (.getfield 210, 3) := by decide +kernel
theorem d_Mo_rule_32 : decode c_Mo_rule 32 = .ok (.invokevirtual 213, 3) := by decide +kernel
theorem d_Mo_rule_35 : decode c_Mo_rule 35 = .ok (.istore_n 1, 1) := by decide +kernel
theorem d_Mo_rule_36 : decode c_Mo_rule 36 = .ok (.aload_n 0, 1) := by decide +kernel
theorem d_Mo_rule_37 : decode c_Mo_rule 37 = .ok (.iconst 0, 1) := by decide +kernel
theorem d_Mo_rule_38 : decode c_Mo_rule 38 = .ok (.putfield 119, 3) := by decide +kernel
theorem d_Mo_rule_41 : decode c_Mo_rule 41 = .ok (.iload_n 1, 1) := by decide +kernel
theorem d_Mo_rule_42 : decode c_Mo_rule 42 = .ok (.ifCond .ne 10, 3) := by decide +kernel
theorem d_Mo_rule_45 : decode c_Mo_rule 45 = .ok (.iconst 0, 1) := by decide +kernel
theorem d_Mo_rule_46 : decode c_Mo_rule 46 = .ok (.aload_n 0, 1) := by decide +kernel
theorem d_Mo_rule_47 : decode c_Mo_rule 47 = .ok (.getfield 128, 3) := by decide +kernel
theorem d_Mo_rule_50 : decode c_Mo_rule 50 = .ok (.isub, 1) := by decide +kernel
theorem d_Mo_rule_51 : decode c_Mo_rule 51 = .ok (.ireturn, 1) := by decide +kernel
theorem d_Mo_rule_52 : decode c_Mo_rule 52 = .ok (.aload_n 0, 1) := by decide +kernel
theorem d_Mo_rule_53 : decode c_Mo_rule 53 = .ok (.getfield 62, 3) := by decide +kernel
theorem d_Mo_rule_56 : decode c_Mo_rule 56 = .ok (.bipush 7, 2) := by decide +kernel
theorem d_Mo_rule_58 : decode c_Mo_rule 58 = .ok (.aload_n 0, 1) := by decide +kernel
theorem d_Mo_rule_59 : decode c_Mo_rule 59 = .ok (.getfield 210, 3) := by decide +kernel
theorem d_Mo_rule_62 : decode c_Mo_rule 62 = .ok (.iadd, 1) := by decide +kernel
theorem d_Mo_rule_63 : decode c_Mo_rule 63 = .ok (.iconst 0, 1) := by decide +kernel
theorem d_Mo_rule_64 : decode c_Mo_rule 64 = .ok (.bastore, 1) := by decide +kernel
theorem d_Mo_rule_65 : decode c_Mo_rule 65 = .ok (.aload_n 0, 1) := by decide +kernel
theorem d_Mo_rule_66 : decode c_Mo_rule 66 = .ok (.dup, 1) := by decide +kernel
theorem d_Mo_rule_67 : decode c_Mo_rule 67 = .ok (.getfield 210, 3) := by decide +kernel
theorem d_Mo_rule_70 : decode c_Mo_rule 70 = .ok (.iconst 1, 1) := by decide +kernel
theorem d_Mo_rule_71 : decode c_Mo_rule 71 = .ok (.iadd, 1) := by decide +kernel
theorem d_Mo_rule_72 : decode c_Mo_rule 72 = .ok (.putfield 210, 3) := by decide +kernel
theorem d_Mo_rule_75 : decode c_Mo_rule 75 = .ok (.bipush 7, 2) := by decide +kernel
theorem d_Mo_rule_77 : decode c_Mo_rule 77 = .ok (.aload_n 0, 1) := by decide +kernel
theorem d_Mo_rule_78 : decode c_Mo_rule 78 = .ok (.getfield 210, 3) := by decide +kernel
theorem d_Mo_rule_81 : decode c_Mo_rule 81 = .ok (.iadd, 1) := by decide +kernel
theorem d_Mo_rule_82 : decode c_Mo_rule 82 = .ok (.iconst 1, 1) := by decide +kernel
theorem d_Mo_rule_83 : decode c_Mo_rule 83 = .ok (.isub, 1) := by decide +kernel
theorem d_Mo_rule_84 : decode c_Mo_rule 84 = .ok (.ireturn, 1) := by decide +kernel
abbrev c_Mo_reads : ByteArray := prog_14_method_29_code
abbrev r_Mo_reads : Option FieldType := (some FieldType.boolean)
def y_Mo_reads : MethodName := ⟨"PinKindChecksModel", "reads", "(I)Z"⟩
theorem d_Mo_reads_0 : decode c_Mo_reads 0 = .ok (.aload_n 0, 1) := by decide +kernel
theorem d_Mo_reads_1 : decode c_Mo_reads 1 = .ok (.iload_n 1, 1) := by decide +kernel
theorem d_Mo_reads_2 : decode c_Mo_reads 2 = .ok (.putfield 131, 3) := by decide +kernel
theorem d_Mo_reads_5 : decode c_Mo_reads 5 = .ok (.aload_n 0, 1) := by decide +kernel
theorem d_Mo_reads_6 : decode c_Mo_reads 6 = .ok (.iconst 0, 1) := by decide +kernel
theorem d_Mo_reads_7 : decode c_Mo_reads 7 = .ok (.putfield 122, 3) := by decide +kernel
theorem d_Mo_reads_10 : decode c_Mo_reads 10 = .ok (.aload_n 0, 1) := by decide +kernel
theorem d_Mo_reads_11 : decode c_Mo_reads 11 = .ok (.iconst 0, 1) := by decide +kernel
theorem d_Mo_reads_12 : decode c_Mo_reads 12 = .ok (.putfield 128, 3) := by decide +kernel
theorem d_Mo_reads_15 : decode c_Mo_reads 15 = .ok (.aload_n 0, 1) := by decide +kernel
theorem d_Mo_reads_16 : decode c_Mo_reads 16 = .ok (.iconst 0, 1) := by decide +kernel
theorem d_Mo_reads_17 : decode c_Mo_reads 17 = .ok (.putfield 134, 3) := by decide +kernel
theorem d_Mo_reads_20 : decode c_Mo_reads 20 = .ok (.aload_n 0, 1) := by decide +kernel
theorem d_Mo_reads_21 : decode c_Mo_reads 21 = .ok (.iconst 0, 1) := by decide +kernel
theorem d_Mo_reads_22 : decode c_Mo_reads 22 = .ok (.putfield 196, 3) := by decide +kernel
theorem d_Mo_reads_25 : decode c_Mo_reads 25 = .ok (.aload_n 0, 1) := by decide +kernel
theorem d_Mo_reads_26 : decode c_Mo_reads 26 = .ok (.iconst 0, 1) := by decide +kernel
theorem d_Mo_reads_27 : decode c_Mo_reads 27 = .ok (.putfield 184, 3) := by decide +kernel
theorem d_Mo_reads_30 : decode c_Mo_reads 30 = .ok (.aload_n 0, 1) := by decide +kernel
theorem d_Mo_reads_31 : decode c_Mo_reads 31 = .ok (.getfield 53, 3) := by decide +kernel
theorem d_Mo_reads_34 : decode c_Mo_reads 34 = .ok (.iload_n 1, 1) := by decide +kernel
theorem d_Mo_reads_35 : decode c_Mo_reads 35 = .ok (.iconst 0, 1) := by decide +kernel
theorem d_Mo_reads_36 : decode c_Mo_reads 36 = .ok (.iastore, 1) := by decide +kernel
theorem d_Mo_reads_37 : decode c_Mo_reads 37 = .ok (.aload_n 0, 1) := by decide +kernel
theorem d_Mo_reads_38 : decode c_Mo_reads 38 = .ok (.invokevirtual 164, 3) := by decide +kernel
theorem d_Mo_reads_41 : decode c_Mo_reads 41 = .ok (.istore_n 2, 1) := by decide +kernel
theorem d_Mo_reads_42 : decode c_Mo_reads 42 = .ok (.iload_n 2, 1) := by decide +kernel
theorem d_Mo_reads_43 : decode c_Mo_reads 43 = .ok (.ifCond .ne 13, 3) := by decide +kernel
theorem d_Mo_reads_46 : decode c_Mo_reads 46 = .ok (.aload_n 0, 1) := by decide +kernel
theorem d_Mo_reads_47 : decode c_Mo_reads 47 = .ok (.dup, 1) := by decide +kernel
theorem d_Mo_reads_48 : decode c_Mo_reads 48 = .ok (.getfield 128, 3) := by decide +kernel
theorem d_Mo_reads_51 : decode c_Mo_reads 51 = .ok (.iconst 1, 1) := by decide +kernel
theorem d_Mo_reads_52 : decode c_Mo_reads 52 = .ok (.iadd, 1) := by decide +kernel
theorem d_Mo_reads_53 : decode c_Mo_reads 53 = .ok (.putfield 128, 3) := by decide +kernel
theorem d_Mo_reads_56 : decode c_Mo_reads 56 = .ok (.iload_n 2, 1) := by decide +kernel
theorem d_Mo_reads_57 : decode c_Mo_reads 57 = .ok (.ifCond .eq 10, 3) := by decide +kernel
theorem d_Mo_reads_60 : decode c_Mo_reads 60 = .ok (.aload_n 0, 1) := by decide +kernel
theorem d_Mo_reads_61 : decode c_Mo_reads 61 = .ok (.invokevirtual 145, 3) := by decide +kernel
theorem d_Mo_reads_64 : decode c_Mo_reads 64 = .ok (.goto 4, 3) := by decide +kernel
theorem d_Mo_reads_67 : decode c_Mo_reads 67 = .ok (.lconst 0, 1) := by decide +kernel
theorem d_Mo_reads_68 : decode c_Mo_reads 68 = .ok (.lstore_n 3, 1) := by decide +kernel
theorem d_Mo_reads_69 : decode c_Mo_reads 69 = .ok (.aload_n 0, 1) := by decide +kernel
theorem d_Mo_reads_70 : decode c_Mo_reads 70 = .ok (.getfield 47, 3) := by decide +kernel
theorem d_Mo_reads_73 : decode c_Mo_reads 73 = .ok (.iload_n 1, 1) := by decide +kernel
theorem d_Mo_reads_74 : decode c_Mo_reads 74 = .ok (.lload_n 3, 1) := by decide +kernel
theorem d_Mo_reads_75 : decode c_Mo_reads 75 = .ok (.bipush 112, 2) := by decide +kernel
theorem d_Mo_reads_77 : decode c_Mo_reads 77 = .ok (.bipush 97, 2) := by decide +kernel
theorem d_Mo_reads_79 : decode c_Mo_reads 79 = .ok (.bipush 114, 2) := by decide +kernel
theorem d_Mo_reads_81 : decode c_Mo_reads 81 = .ok (.bipush 116, 2) := by decide +kernel
theorem d_Mo_reads_83 : decode c_Mo_reads 83 = .ok (.iconst 0, 1) := by decide +kernel
theorem d_Mo_reads_84 : decode c_Mo_reads 84 = .ok (.invokestatic 157, 3) := by decide +kernel
theorem d_Mo_reads_87 : decode c_Mo_reads 87 = .ok (.lcmp, 1) := by decide +kernel
theorem d_Mo_reads_88 : decode c_Mo_reads 88 = .ok (.ifCond .ne 7, 3) := by decide +kernel
theorem d_Mo_reads_91 : decode c_Mo_reads 91 = .ok (.iconst 0, 1) := by decide +kernel
theorem d_Mo_reads_92 : decode c_Mo_reads 92 = .ok (.goto 44, 3) := by decide +kernel
theorem d_Mo_reads_95 : decode c_Mo_reads 95 = .ok (.lload_n 3, 1) := by decide +kernel
theorem d_Mo_reads_96 : decode c_Mo_reads 96 = .ok (.bipush 110, 2) := by decide +kernel
theorem d_Mo_reads_98 : decode c_Mo_reads 98 = .ok (.bipush 101, 2) := by decide +kernel
theorem d_Mo_reads_100 : decode c_Mo_reads 100 = .ok (.bipush 116, 2) := by decide +kernel
theorem d_Mo_reads_102 : decode c_Mo_reads 102 = .ok (.iconst 0, 1) := by decide +kernel
theorem d_Mo_reads_103 : decode c_Mo_reads 103 = .ok (.iconst 0, 1) := by decide +kernel
theorem d_Mo_reads_104 : decode c_Mo_reads 104 = .ok (.invokestatic 157, 3) := by decide +kernel
theorem d_Mo_reads_107 : decode c_Mo_reads 107 = .ok (.lcmp, 1) := by decide +kernel
theorem d_Mo_reads_108 : decode c_Mo_reads 108 = .ok (.ifCond .ne 7, 3) := by decide +kernel
theorem d_Mo_reads_111 : decode c_Mo_reads 111 = .ok (.iconst 1, 1) := by decide +kernel
theorem d_Mo_reads_112 : decode c_Mo_reads 112 = .ok (.goto 24, 3) := by decide +kernel
theorem d_Mo_reads_115 : decode c_Mo_reads 115 = .ok (.lload_n 3, 1) := by decide +kernel
theorem d_Mo_reads_116 : decode c_Mo_reads 116 = .ok (.bipush 112, 2) := by decide +kernel
theorem d_Mo_reads_118 : decode c_Mo_reads 118 = .ok (.bipush 105, 2) := by decide +kernel
theorem d_Mo_reads_120 : decode c_Mo_reads 120 = .ok (.bipush 110, 2) := by decide +kernel
theorem d_Mo_reads_122 : decode c_Mo_reads 122 = .ok (.iconst 0, 1) := by decide +kernel
theorem d_Mo_reads_123 : decode c_Mo_reads 123 = .ok (.iconst 0, 1) := by decide +kernel
theorem d_Mo_reads_124 : decode c_Mo_reads 124 = .ok (.invokestatic 157, 3) := by decide +kernel
theorem d_Mo_reads_127 : decode c_Mo_reads 127 = .ok (.lcmp, 1) := by decide +kernel
theorem d_Mo_reads_128 : decode c_Mo_reads 128 = .ok (.ifCond .ne 7, 3) := by decide +kernel
theorem d_Mo_reads_131 : decode c_Mo_reads 131 = .ok (.iconst 2, 1) := by decide +kernel
theorem d_Mo_reads_132 : decode c_Mo_reads 132 = .ok (.goto 4, 3) := by decide +kernel
theorem d_Mo_reads_135 : decode c_Mo_reads 135 = .ok (.iconst (-1), 1) := by decide +kernel
theorem d_Mo_reads_136 : decode c_Mo_reads 136 = .ok (.iastore, 1) := by decide +kernel
end
section
theorem d_Mo_reads_137 : decode c_Mo_reads 137 = .ok (.iload_n 2, 1) := by decide +kernel
theorem d_Mo_reads_138 : decode c_Mo_reads 138 = .ok (.ifCond .eq 13, 3) := by decide +kernel
theorem d_Mo_reads_141 : decode c_Mo_reads 141 = .ok (.aload_n 0, 1) := by decide +kernel
theorem d_Mo_reads_142 : decode c_Mo_reads 142 = .ok (.getfield 47, 3) := by decide +kernel
theorem d_Mo_reads_145 : decode c_Mo_reads 145 = .ok (.iload_n 1, 1) := by decide +kernel
theorem d_Mo_reads_146 : decode c_Mo_reads 146 = .ok (.iaload, 1) := by decide +kernel
theorem d_Mo_reads_147 : decode c_Mo_reads 147 = .ok (.iconst (-1), 1) := by decide +kernel
theorem d_Mo_reads_148 : decode c_Mo_reads 148 = .ok (.if_icmp .ne 5, 3) := by decide +kernel
theorem d_Mo_reads_151 : decode c_Mo_reads 151 = .ok (.iconst 0, 1) := by decide +kernel
theorem d_Mo_reads_152 : decode c_Mo_reads 152 = .ok (.ireturn, 1) := by decide +kernel
theorem d_Mo_reads_153 : decode c_Mo_reads 153 = .ok (.aload_n 0, 1) := by decide +kernel
theorem d_Mo_reads_154 : decode c_Mo_reads 154 = .ok (.invokevirtual 164, 3) := by decide +kernel
theorem d_Mo_reads_157 : decode c_Mo_reads 157 = .ok (.istore_n 2, 1) := by decide +kernel
theorem d_Mo_reads_158 : decode c_Mo_reads 158 = .ok (.iload_n 2, 1) := by decide +kernel
theorem d_Mo_reads_159 : decode c_Mo_reads 159 = .ok (.ifCond .ne 13, 3) := by decide +kernel
theorem d_Mo_reads_162 : decode c_Mo_reads 162 = .ok (.aload_n 0, 1) := by decide +kernel
theorem d_Mo_reads_163 : decode c_Mo_reads 163 = .ok (.dup, 1) := by decide +kernel
theorem d_Mo_reads_164 : decode c_Mo_reads 164 = .ok (.getfield 128, 3) := by decide +kernel
theorem d_Mo_reads_167 : decode c_Mo_reads 167 = .ok (.iconst 1, 1) := by decide +kernel
theorem d_Mo_reads_168 : decode c_Mo_reads 168 = .ok (.iadd, 1) := by decide +kernel
theorem d_Mo_reads_169 : decode c_Mo_reads 169 = .ok (.putfield 128, 3) := by decide +kernel
theorem d_Mo_reads_172 : decode c_Mo_reads 172 = .ok (.iload_n 2, 1) := by decide +kernel
theorem d_Mo_reads_173 : decode c_Mo_reads 173 = .ok (.ifCond .eq 10, 3) := by decide +kernel
theorem d_Mo_reads_176 : decode c_Mo_reads 176 = .ok (.aload_n 0, 1) := by decide +kernel
theorem d_Mo_reads_177 : decode c_Mo_reads 177 = .ok (.invokevirtual 145, 3) := by decide +kernel
theorem d_Mo_reads_180 : decode c_Mo_reads 180 = .ok (.goto 4, 3) := by decide +kernel
theorem d_Mo_reads_183 : decode c_Mo_reads 183 = .ok (.lconst 0, 1) := by decide +kernel
theorem d_Mo_reads_184 : decode c_Mo_reads 184 = .ok (.lstore_n 3, 1) := by decide +kernel
theorem d_Mo_reads_185 : decode c_Mo_reads 185 = .ok (.aload_n 0, 1) := by decide +kernel
theorem d_Mo_reads_186 : decode c_Mo_reads 186 = .ok (.getfield 50, 3) := by decide +kernel
theorem d_Mo_reads_189 : decode c_Mo_reads 189 = .ok (.iload_n 1, 1) := by decide +kernel
theorem d_Mo_reads_190 : decode c_Mo_reads 190 = .ok (.lload_n 3, 1) := by decide +kernel
theorem d_Mo_reads_191 : decode c_Mo_reads 191 = .ok (.bipush 119, 2) := by decide +kernel
theorem d_Mo_reads_193 : decode c_Mo_reads 193 = .ok (.bipush 97, 2) := by decide +kernel
theorem d_Mo_reads_195 : decode c_Mo_reads 195 = .ok (.bipush 114, 2) := by decide +kernel
theorem d_Mo_reads_197 : decode c_Mo_reads 197 = .ok (.bipush 110, 2) := by decide +kernel
theorem d_Mo_reads_199 : decode c_Mo_reads 199 = .ok (.iconst 0, 1) := by decide +kernel
theorem d_Mo_reads_200 : decode c_Mo_reads 200 = .ok (.invokestatic 157, 3) := by decide +kernel
theorem d_Mo_reads_203 : decode c_Mo_reads 203 = .ok (.lcmp, 1) := by decide +kernel
theorem d_Mo_reads_204 : decode c_Mo_reads 204 = .ok (.ifCond .ne 7, 3) := by decide +kernel
theorem d_Mo_reads_207 : decode c_Mo_reads 207 = .ok (.iconst 1, 1) := by decide +kernel
theorem d_Mo_reads_208 : decode c_Mo_reads 208 = .ok (.goto 26, 3) := by decide +kernel
theorem d_Mo_reads_211 : decode c_Mo_reads 211 = .ok (.lload_n 3, 1) := by decide +kernel
theorem d_Mo_reads_212 : decode c_Mo_reads 212 = .ok (.bipush 101, 2) := by decide +kernel
theorem d_Mo_reads_214 : decode c_Mo_reads 214 = .ok (.bipush 114, 2) := by decide +kernel
theorem d_Mo_reads_216 : decode c_Mo_reads 216 = .ok (.bipush 114, 2) := by decide +kernel
theorem d_Mo_reads_218 : decode c_Mo_reads 218 = .ok (.bipush 111, 2) := by decide +kernel
theorem d_Mo_reads_220 : decode c_Mo_reads 220 = .ok (.bipush 114, 2) := by decide +kernel
theorem d_Mo_reads_222 : decode c_Mo_reads 222 = .ok (.invokestatic 157, 3) := by decide +kernel
theorem d_Mo_reads_225 : decode c_Mo_reads 225 = .ok (.lcmp, 1) := by decide +kernel
theorem d_Mo_reads_226 : decode c_Mo_reads 226 = .ok (.ifCond .ne 7, 3) := by decide +kernel
theorem d_Mo_reads_229 : decode c_Mo_reads 229 = .ok (.iconst 2, 1) := by decide +kernel
theorem d_Mo_reads_230 : decode c_Mo_reads 230 = .ok (.goto 4, 3) := by decide +kernel
theorem d_Mo_reads_233 : decode c_Mo_reads 233 = .ok (.iconst 0, 1) := by decide +kernel
theorem d_Mo_reads_234 : decode c_Mo_reads 234 = .ok (.iastore, 1) := by decide +kernel
theorem d_Mo_reads_235 : decode c_Mo_reads 235 = .ok (.iload_n 2, 1) := by decide +kernel
theorem d_Mo_reads_236 : decode c_Mo_reads 236 = .ok (.ifCond .eq 12, 3) := by decide +kernel
theorem d_Mo_reads_239 : decode c_Mo_reads 239 = .ok (.aload_n 0, 1) := by decide +kernel
theorem d_Mo_reads_240 : decode c_Mo_reads 240 = .ok (.getfield 50, 3) := by decide +kernel
theorem d_Mo_reads_243 : decode c_Mo_reads 243 = .ok (.iload_n 1, 1) := by decide +kernel
theorem d_Mo_reads_244 : decode c_Mo_reads 244 = .ok (.iaload, 1) := by decide +kernel
theorem d_Mo_reads_245 : decode c_Mo_reads 245 = .ok (.ifCond .ne 5, 3) := by decide +kernel
theorem d_Mo_reads_248 : decode c_Mo_reads 248 = .ok (.iconst 0, 1) := by decide +kernel
theorem d_Mo_reads_249 : decode c_Mo_reads 249 = .ok (.ireturn, 1) := by decide +kernel
theorem d_Mo_reads_250 : decode c_Mo_reads 250 = .ok (.aload_n 0, 1) := by decide +kernel
theorem d_Mo_reads_251 : decode c_Mo_reads 251 = .ok (.invokevirtual 164, 3) := by decide +kernel
theorem d_Mo_reads_254 : decode c_Mo_reads 254 = .ok (.ifCond .eq 18, 3) := by decide +kernel
theorem d_Mo_reads_257 : decode c_Mo_reads 257 = .ok (.aload_n 0, 1) := by decide +kernel
theorem d_Mo_reads_258 : decode c_Mo_reads 258 = .ok (.aload_n 0, 1) := by decide +kernel
theorem d_Mo_reads_259 : decode c_Mo_reads 259 = .ok (.getfield 47, 3) := by decide +kernel
theorem d_Mo_reads_262 : decode c_Mo_reads 262 = .ok (.iload_n 1, 1) := by decide +kernel
theorem d_Mo_reads_263 : decode c_Mo_reads 263 = .ok (.iaload, 1) := by decide +kernel
theorem d_Mo_reads_264 : decode c_Mo_reads 264 = .ok (.invokevirtual 207, 3) := by decide +kernel
theorem d_Mo_reads_267 : decode c_Mo_reads 267 = .ok (.ifCond .ne (-17), 3) := by decide +kernel
theorem d_Mo_reads_270 : decode c_Mo_reads 270 = .ok (.iconst 0, 1) := by decide +kernel
theorem d_Mo_reads_271 : decode c_Mo_reads 271 = .ok (.ireturn, 1) := by decide +kernel
theorem d_Mo_reads_272 : decode c_Mo_reads 272 = .ok (.aload_n 0, 1) := by decide +kernel
theorem d_Mo_reads_273 : decode c_Mo_reads 273 = .ok (.getfield 184, 3) := by decide +kernel
theorem d_Mo_reads_276 : decode c_Mo_reads 276 = .ok (.iconst 4, 1) := by decide +kernel
theorem d_Mo_reads_277 : decode c_Mo_reads 277 = .ok (.if_icmp .lt 10, 3) := by decide +kernel
theorem d_Mo_reads_280 : decode c_Mo_reads 280 = .ok (.aload_n 0, 1) := by decide +kernel
theorem d_Mo_reads_281 : decode c_Mo_reads 281 = .ok (.getfield 196, 3) := by decide +kernel
theorem d_Mo_reads_284 : decode c_Mo_reads 284 = .ok (.ifCond .le 15, 3) := by decide +kernel
theorem d_Mo_reads_287 : decode c_Mo_reads 287 = .ok (.aload_n 0, 1) := by decide +kernel
theorem d_Mo_reads_288 : decode c_Mo_reads 288 = .ok (.dup, 1) := by decide +kernel
theorem d_Mo_reads_289 : decode c_Mo_reads 289 = .ok (.getfield 128, 3) := by decide +kernel
theorem d_Mo_reads_292 : decode c_Mo_reads 292 = .ok (.iconst 1, 1) := by decide +kernel
theorem d_Mo_reads_293 : decode c_Mo_reads 293 = .ok (.iadd, 1) := by decide +kernel
theorem d_Mo_reads_294 : decode c_Mo_reads 294 = .ok (.putfield 128, 3) := by decide +kernel
theorem d_Mo_reads_297 : decode c_Mo_reads 297 = .ok (.iconst 0, 1) := by decide +kernel
theorem d_Mo_reads_298 : decode c_Mo_reads 298 = .ok (.ireturn, 1) := by decide +kernel
theorem d_Mo_reads_299 : decode c_Mo_reads 299 = .ok (.aload_n 0, 1) := by decide +kernel
theorem d_Mo_reads_300 : decode c_Mo_reads 300 = .ok (.iconst 1, 1) := by decide +kernel
theorem d_Mo_reads_301 : decode c_Mo_reads 301 = .ok (.invokevirtual 187, 3) := by decide +kernel
theorem d_Mo_reads_304 : decode c_Mo_reads 304 = .ok (.iconst 1, 1) := by decide +kernel
theorem d_Mo_reads_305 : decode c_Mo_reads 305 = .ok (.ireturn, 1) := by decide +kernel
abbrev c_Mo_nextWord : ByteArray := prog_14_method_15_code
abbrev r_Mo_nextWord : Option FieldType := (some FieldType.boolean)
def y_Mo_nextWord : MethodName := ⟨"PinKindChecksModel", "nextWord", "()Z"⟩
theorem d_Mo_nextWord_0 : decode c_Mo_nextWord 0 = .ok (.aload_n 0, 1) := by decide +kernel
theorem d_Mo_nextWord_1 : decode c_Mo_nextWord 1 = .ok (.getfield 122, 3) := by decide +kernel
theorem d_Mo_nextWord_4 : decode c_Mo_nextWord 4 = .ok (.aload_n 0, 1) := by decide +kernel
theorem d_Mo_nextWord_5 : decode c_Mo_nextWord 5 = .ok (.getfield 119, 3) := by decide +kernel
theorem d_Mo_nextWord_8 : decode c_Mo_nextWord 8 = .ok (.if_icmp .ge 30, 3) := by decide +kernel
theorem d_Mo_nextWord_11 : decode c_Mo_nextWord 11 = .ok (.aload_n 0, 1) := by decide +kernel
theorem d_Mo_nextWord_12 : decode c_Mo_nextWord 12 = .ok (.getfield 44, 3) := by decide +kernel
theorem d_Mo_nextWord_15 : decode c_Mo_nextWord 15 = .ok (.aload_n 0, 1) := by decide +kernel
theorem d_Mo_nextWord_16 : decode c_Mo_nextWord 16 = .ok (.getfield 122, 3) := by decide +kernel
theorem d_Mo_nextWord_19 : decode c_Mo_nextWord 19 = .ok (.iaload, 1) := by decide +kernel
theorem d_Mo_nextWord_20 : decode c_Mo_nextWord 20 = .ok (.bipush 32, 2) := by decide +kernel
theorem d_Mo_nextWord_22 : decode c_Mo_nextWord 22 = .ok (.if_icmp .ne 16, 3) := by decide +kernel
theorem d_Mo_nextWord_25 : decode c_Mo_nextWord 25 = .ok (.aload_n 0, 1) := by decide +kernel
theorem d_Mo_nextWord_26 : decode c_Mo_nextWord 26 = .ok (.dup, 1) := by decide +kernel
theorem d_Mo_nextWord_27 : decode c_Mo_nextWord 27 = .ok (.getfield 122, 3) := by decide +kernel
theorem d_Mo_nextWord_30 : decode c_Mo_nextWord 30 = .ok (.iconst 1, 1) := by decide +kernel
theorem d_Mo_nextWord_31 : decode c_Mo_nextWord 31 = .ok (.iadd, 1) := by decide +kernel
theorem d_Mo_nextWord_32 : decode c_Mo_nextWord 32 = .ok (.putfield 122, 3) := by decide +kernel
theorem d_Mo_nextWord_35 : decode c_Mo_nextWord 35 = .ok (.goto (-35), 3) := by decide +kernel
theorem d_Mo_nextWord_38 : decode c_Mo_nextWord 38 = .ok (.aload_n 0, 1) := by decide +kernel
theorem d_Mo_nextWord_39 : decode c_Mo_nextWord 39 = .ok (.aload_n 0, 1) := by decide +kernel
theorem d_Mo_nextWord_40 : decode c_Mo_nextWord 40 = .ok (.getfield 122, 3) := by decide +kernel
theorem d_Mo_nextWord_43 : decode c_Mo_nextWord 43 = .ok (.putfield 125, 3) := by decide +kernel
theorem d_Mo_nextWord_46 : decode c_Mo_nextWord 46 = .ok (.aload_n 0, 1) := by decide +kernel
theorem d_Mo_nextWord_47 : decode c_Mo_nextWord 47 = .ok (.getfield 122, 3) := by decide +kernel
theorem d_Mo_nextWord_50 : decode c_Mo_nextWord 50 = .ok (.aload_n 0, 1) := by decide +kernel
theorem d_Mo_nextWord_51 : decode c_Mo_nextWord 51 = .ok (.getfield 119, 3) := by decide +kernel
theorem d_Mo_nextWord_54 : decode c_Mo_nextWord 54 = .ok (.if_icmp .ge 30, 3) := by decide +kernel
theorem d_Mo_nextWord_57 : decode c_Mo_nextWord 57 = .ok (.aload_n 0, 1) := by decide +kernel
theorem d_Mo_nextWord_58 : decode c_Mo_nextWord 58 = .ok (.getfield 44, 3) := by decide +kernel
theorem d_Mo_nextWord_61 : decode c_Mo_nextWord 61 = .ok (.aload_n 0, 1) := by decide +kernel
theorem d_Mo_nextWord_62 : decode c_Mo_nextWord 62 = .ok (.getfield 122, 3) := by decide +kernel
theorem d_Mo_nextWord_65 : decode c_Mo_nextWord 65 = .ok (.iaload, 1) := by decide +kernel
theorem d_Mo_nextWord_66 : decode c_Mo_nextWord 66 = .ok (.bipush 32, 2) := by decide +kernel
theorem d_Mo_nextWord_68 : decode c_Mo_nextWord 68 = .ok (.if_icmp .eq 16, 3) := by decide +kernel
theorem d_Mo_nextWord_71 : decode c_Mo_nextWord 71 = .ok (.aload_n 0, 1) := by decide +kernel
theorem d_Mo_nextWord_72 : decode c_Mo_nextWord 72 = .ok (.dup, 1) := by decide +kernel
theorem d_Mo_nextWord_73 : decode c_Mo_nextWord 73 = .ok (.getfield 122, 3) := by decide +kernel
theorem d_Mo_nextWord_76 : decode c_Mo_nextWord 76 = .ok (.iconst 1, 1) := by decide +kernel
theorem d_Mo_nextWord_77 : decode c_Mo_nextWord 77 = .ok (.iadd, 1) := by decide +kernel
theorem d_Mo_nextWord_78 : decode c_Mo_nextWord 78 = .ok (.putfield 122, 3) := by decide +kernel
theorem d_Mo_nextWord_81 : decode c_Mo_nextWord 81 = .ok (.goto (-35), 3) := by decide +kernel
theorem d_Mo_nextWord_84 : decode c_Mo_nextWord 84 = .ok (.aload_n 0, 1) := by decide +kernel
theorem d_Mo_nextWord_85 : decode c_Mo_nextWord 85 = .ok (.getfield 122, 3) := by decide +kernel
theorem d_Mo_nextWord_88 : decode c_Mo_nextWord 88 = .ok (.aload_n 0, 1) := by decide +kernel
theorem d_Mo_nextWord_89 : decode c_Mo_nextWord 89 = .ok (.getfield 125, 3) := by decide +kernel
theorem d_Mo_nextWord_92 : decode c_Mo_nextWord 92 = .ok (.if_icmp .le 13, 3) := by decide +kernel
theorem d_Mo_nextWord_95 : decode c_Mo_nextWord 95 = .ok (.aload_n 0, 1) := by decide +kernel
theorem d_Mo_nextWord_96 : decode c_Mo_nextWord 96 = .ok (.dup, 1) := by decide +kernel
theorem d_Mo_nextWord_97 : decode c_Mo_nextWord 97 = .ok (.getfield 128, 3) := by decide +kernel
theorem d_Mo_nextWord_100 : decode c_Mo_nextWord 100 = .ok (.iconst 1, 1) := by decide +kernel
theorem d_Mo_nextWord_101 : decode c_Mo_nextWord 101 = .ok (.iadd, 1) := by decide +kernel
theorem d_Mo_nextWord_102 : decode c_Mo_nextWord 102 = .ok (.putfield 128, 3) := by decide +kernel
theorem d_Mo_nextWord_105 : decode c_Mo_nextWord 105 = .ok (.aload_n 0, 1) := by decide +kernel
theorem d_Mo_nextWord_106 : decode c_Mo_nextWord 106 = .ok (.getfield 122, 3) := by decide +kernel
theorem d_Mo_nextWord_109 : decode c_Mo_nextWord 109 = .ok (.aload_n 0, 1) := by decide +kernel
theorem d_Mo_nextWord_110 : decode c_Mo_nextWord 110 = .ok (.getfield 125, 3) := by decide +kernel
theorem d_Mo_nextWord_113 : decode c_Mo_nextWord 113 = .ok (.if_icmp .le 7, 3) := by decide +kernel
theorem d_Mo_nextWord_116 : decode c_Mo_nextWord 116 = .ok (.iconst 1, 1) := by decide +kernel
theorem d_Mo_nextWord_117 : decode c_Mo_nextWord 117 = .ok (.goto 4, 3) := by decide +kernel
theorem d_Mo_nextWord_120 : decode c_Mo_nextWord 120 = .ok (.iconst 0, 1) := by decide +kernel
theorem d_Mo_nextWord_121 : decode c_Mo_nextWord 121 = .ok (.ireturn, 1) := by decide +kernel
abbrev c_Mo_spelt : ByteArray := prog_14_method_16_code
abbrev r_Mo_spelt : Option FieldType := (some FieldType.long)
def y_Mo_spelt : MethodName := ⟨"PinKindChecksModel", "spelt", "()J"⟩
theorem d_Mo_spelt_0 : decode c_Mo_spelt 0 = .ok (.aload_n 0, 1) := by decide +kernel
theorem d_Mo_spelt_1 : decode c_Mo_spelt 1 = .ok (.getfield 122, 3) := by decide +kernel
theorem d_Mo_spelt_4 : decode c_Mo_spelt 4 = .ok (.aload_n 0, 1) := by decide +kernel
theorem d_Mo_spelt_5 : decode c_Mo_spelt 5 = .ok (.getfield 125, 3) := by decide +kernel
theorem d_Mo_spelt_8 : decode c_Mo_spelt 8 = .ok (.isub, 1) := by decide +kernel
theorem d_Mo_spelt_9 : decode c_Mo_spelt 9 = .ok (.bipush 8, 2) := by decide +kernel
theorem d_Mo_spelt_11 : decode c_Mo_spelt 11 = .ok (.if_icmp .le 5, 3) := by decide +kernel
theorem d_Mo_spelt_14 : decode c_Mo_spelt 14 = .ok (.lconst 0, 1) := by decide +kernel
theorem d_Mo_spelt_15 : decode c_Mo_spelt 15 = .ok (.lreturn, 1) := by decide +kernel
theorem d_Mo_spelt_16 : decode c_Mo_spelt 16 = .ok (.lconst 0, 1) := by decide +kernel
theorem d_Mo_spelt_17 : decode c_Mo_spelt 17 = .ok (.lstore_n 1, 1) := by decide +kernel
theorem d_Mo_spelt_18 : decode c_Mo_spelt 18 = .ok (.aload_n 0, 1) := by decide +kernel
theorem d_Mo_spelt_19 : decode c_Mo_spelt 19 = .ok (.getfield 125, 3) := by decide +kernel
theorem d_Mo_spelt_22 : decode c_Mo_spelt 22 = .ok (.istore_n 3, 1) := by decide +kernel
theorem d_Mo_spelt_23 : decode c_Mo_spelt 23 = .ok (.iload_n 3, 1) := by decide +kernel
theorem d_Mo_spelt_24 : decode c_Mo_spelt 24 = .ok (.aload_n 0, 1) := by decide +kernel
theorem d_Mo_spelt_25 : decode c_Mo_spelt 25 = .ok (.getfield 122, 3) := by decide +kernel
theorem d_Mo_spelt_28 : decode c_Mo_spelt 28 = .ok (.if_icmp .ge 22, 3) := by decide +kernel
theorem d_Mo_spelt_31 : decode c_Mo_spelt 31 = .ok (.lload_n 1, 1) := by decide +kernel
theorem d_Mo_spelt_32 : decode c_Mo_spelt 32 = .ok (.bipush 8, 2) := by decide +kernel
theorem d_Mo_spelt_34 : decode c_Mo_spelt 34 = .ok (.lshl, 1) := by decide +kernel
theorem d_Mo_spelt_35 : decode c_Mo_spelt 35 = .ok (.aload_n 0, 1) := by decide +kernel
theorem d_Mo_spelt_36 : decode c_Mo_spelt 36 = .ok (.getfield 44, 3) := by decide +kernel
theorem d_Mo_spelt_39 : decode c_Mo_spelt 39 = .ok (.iload_n 3, 1) := by decide +kernel
theorem d_Mo_spelt_40 : decode c_Mo_spelt 40 = .ok (.iaload, 1) := by decide +kernel
theorem d_Mo_spelt_41 : decode c_Mo_spelt 41 = .ok (.i2l, 1) := by decide +kernel
theorem d_Mo_spelt_42 : decode c_Mo_spelt 42 = .ok (.lor, 1) := by decide +kernel
theorem d_Mo_spelt_43 : decode c_Mo_spelt 43 = .ok (.lstore_n 1, 1) := by decide +kernel
theorem d_Mo_spelt_44 : decode c_Mo_spelt 44 = .ok (.iinc 3 1, 3) := by decide +kernel
theorem d_Mo_spelt_47 : decode c_Mo_spelt 47 = .ok (.goto (-24), 3) := by decide +kernel
theorem d_Mo_spelt_50 : decode c_Mo_spelt 50 = .ok (.lload_n 1, 1) := by decide +kernel
theorem d_Mo_spelt_51 : decode c_Mo_spelt 51 = .ok (.lreturn, 1) := by decide +kernel
abbrev c_Mo_word : ByteArray := prog_14_method_17_code
abbrev r_Mo_word : Option FieldType := (some FieldType.long)
def y_Mo_word : MethodName := ⟨"PinKindChecksModel", "word", "(IIIII)J"⟩
theorem d_Mo_word_0 : decode c_Mo_word 0 = .ok (.iload_n 0, 1) := by decide +kernel
theorem d_Mo_word_1 : decode c_Mo_word 1 = .ok (.i2l, 1) := by decide +kernel
theorem d_Mo_word_2 : decode c_Mo_word 2 = .ok (.bipush 8, 2) := by decide +kernel
theorem d_Mo_word_4 : decode c_Mo_word 4 = .ok (.lshl, 1) := by decide +kernel
theorem d_Mo_word_5 : decode c_Mo_word 5 = .ok (.iload_n 1, 1) := by decide +kernel
theorem d_Mo_word_6 : decode c_Mo_word 6 = .ok (.i2l, 1) := by decide +kernel
theorem d_Mo_word_7 : decode c_Mo_word 7 = .ok (.lor, 1) := by decide +kernel
theorem d_Mo_word_8 : decode c_Mo_word 8 = .ok (.lstore 5, 2) := by decide +kernel
theorem d_Mo_word_10 : decode c_Mo_word 10 = .ok (.iload_n 2, 1) := by decide +kernel
theorem d_Mo_word_11 : decode c_Mo_word 11 = .ok (.ifCond .le 14, 3) := by decide +kernel
theorem d_Mo_word_14 : decode c_Mo_word 14 = .ok (.lload 5, 2) := by decide +kernel
theorem d_Mo_word_16 : decode c_Mo_word 16 = .ok (.bipush 8, 2) := by decide +kernel
theorem d_Mo_word_18 : decode c_Mo_word 18 = .ok (.lshl, 1) := by decide +kernel
theorem d_Mo_word_19 : decode c_Mo_word 19 = .ok (.iload_n 2, 1) := by decide +kernel
theorem d_Mo_word_20 : decode c_Mo_word 20 = .ok (.i2l, 1) := by decide +kernel
theorem d_Mo_word_21 : decode c_Mo_word 21 = .ok (.lor, 1) := by decide +kernel
theorem d_Mo_word_22 : decode c_Mo_word 22 = .ok (.goto 5, 3) := by decide +kernel
theorem d_Mo_word_25 : decode c_Mo_word 25 = .ok (.lload 5, 2) := by decide +kernel
theorem d_Mo_word_27 : decode c_Mo_word 27 = .ok (.lstore 5, 2) := by decide +kernel
theorem d_Mo_word_29 : decode c_Mo_word 29 = .ok (.iload_n 3, 1) := by decide +kernel
theorem d_Mo_word_30 : decode c_Mo_word 30 = .ok (.ifCond .le 14, 3) := by decide +kernel
theorem d_Mo_word_33 : decode c_Mo_word 33 = .ok (.lload 5, 2) := by decide +kernel
theorem d_Mo_word_35 : decode c_Mo_word 35 = .ok (.bipush 8, 2) := by decide +kernel
theorem d_Mo_word_37 : decode c_Mo_word 37 = .ok (.lshl, 1) := by decide +kernel
theorem d_Mo_word_38 : decode c_Mo_word 38 = .ok (.iload_n 3, 1) := by decide +kernel
theorem d_Mo_word_39 : decode c_Mo_word 39 = .ok (.i2l, 1) := by decide +kernel
theorem d_Mo_word_40 : decode c_Mo_word 40 = .ok (.lor, 1) := by decide +kernel
theorem d_Mo_word_41 : decode c_Mo_word 41 = .ok (.goto 5, 3) := by decide +kernel
theorem d_Mo_word_44 : decode c_Mo_word 44 = .ok (.lload 5, 2) := by decide +kernel
theorem d_Mo_word_46 : decode c_Mo_word 46 = .ok (.lstore 5, 2) := by decide +kernel
theorem d_Mo_word_48 : decode c_Mo_word 48 = .ok (.iload 4, 2) := by decide +kernel
theorem d_Mo_word_50 : decode c_Mo_word 50 = .ok (.ifCond .le 15, 3) := by decide +kernel
theorem d_Mo_word_53 : decode c_Mo_word 53 = .ok (.lload 5, 2) := by decide +kernel
theorem d_Mo_word_55 : decode c_Mo_word 55 = .ok (.bipush 8, 2) := by decide +kernel
theorem d_Mo_word_57 : decode c_Mo_word 57 = .ok (.lshl, 1) := by decide +kernel
theorem d_Mo_word_58 : decode c_Mo_word 58 = .ok (.iload 4, 2) := by decide +kernel
theorem d_Mo_word_60 : decode c_Mo_word 60 = .ok (.i2l, 1) := by decide +kernel
theorem d_Mo_word_61 : decode c_Mo_word 61 = .ok (.lor, 1) := by decide +kernel
theorem d_Mo_word_62 : decode c_Mo_word 62 = .ok (.goto 5, 3) := by decide +kernel
theorem d_Mo_word_65 : decode c_Mo_word 65 = .ok (.lload 5, 2) := by decide +kernel
theorem d_Mo_word_67 : decode c_Mo_word 67 = .ok (.lreturn, 1) := by decide +kernel
abbrev c_Mo_takes : ByteArray := prog_14_method_28_code
abbrev r_Mo_takes : Option FieldType := (some FieldType.boolean)
def y_Mo_takes : MethodName := ⟨"PinKindChecksModel", "takes", "(I)Z"⟩
theorem d_Mo_takes_0 : decode c_Mo_takes 0 = .ok (.aload_n 0, 1) := by decide +kernel
theorem d_Mo_takes_1 : decode c_Mo_takes 1 = .ok (.getfield 184, 3) := by decide +kernel
theorem d_Mo_takes_4 : decode c_Mo_takes 4 = .ok (.iconst 2, 1) := by decide +kernel
theorem d_Mo_takes_5 : decode c_Mo_takes 5 = .ok (.if_icmp .eq 19, 3) := by decide +kernel
theorem d_Mo_takes_8 : decode c_Mo_takes 8 = .ok (.aload_n 0, 1) := by decide +kernel
theorem d_Mo_takes_9 : decode c_Mo_takes 9 = .ok (.getfield 184, 3) := by decide +kernel
theorem d_Mo_takes_12 : decode c_Mo_takes 12 = .ok (.iconst 4, 1) := by decide +kernel
theorem d_Mo_takes_13 : decode c_Mo_takes 13 = .ok (.if_icmp .eq 11, 3) := by decide +kernel
theorem d_Mo_takes_16 : decode c_Mo_takes 16 = .ok (.aload_n 0, 1) := by decide +kernel
theorem d_Mo_takes_17 : decode c_Mo_takes 17 = .ok (.getfield 184, 3) := by decide +kernel
theorem d_Mo_takes_20 : decode c_Mo_takes 20 = .ok (.iconst 5, 1) := by decide +kernel
theorem d_Mo_takes_21 : decode c_Mo_takes 21 = .ok (.if_icmp .ne 8, 3) := by decide +kernel
theorem d_Mo_takes_24 : decode c_Mo_takes 24 = .ok (.aload_n 0, 1) := by decide +kernel
theorem d_Mo_takes_25 : decode c_Mo_takes 25 = .ok (.invokevirtual 199, 3) := by decide +kernel
theorem d_Mo_takes_28 : decode c_Mo_takes 28 = .ok (.ireturn, 1) := by decide +kernel
theorem d_Mo_takes_29 : decode c_Mo_takes 29 = .ok (.aload_n 0, 1) := by decide +kernel
theorem d_Mo_takes_30 : decode c_Mo_takes 30 = .ok (.getfield 184, 3) := by decide +kernel
theorem d_Mo_takes_33 : decode c_Mo_takes 33 = .ok (.ifCond .ne 30, 3) := by decide +kernel
theorem d_Mo_takes_36 : decode c_Mo_takes 36 = .ok (.aload_n 0, 1) := by decide +kernel
theorem d_Mo_takes_37 : decode c_Mo_takes 37 = .ok (.invokevirtual 145, 3) := by decide +kernel
theorem d_Mo_takes_40 : decode c_Mo_takes 40 = .ok (.bipush 110, 2) := by decide +kernel
theorem d_Mo_takes_42 : decode c_Mo_takes 42 = .ok (.bipush 111, 2) := by decide +kernel
theorem d_Mo_takes_44 : decode c_Mo_takes 44 = .ok (.bipush 116, 2) := by decide +kernel
theorem d_Mo_takes_46 : decode c_Mo_takes 46 = .ok (.iconst 0, 1) := by decide +kernel
theorem d_Mo_takes_47 : decode c_Mo_takes 47 = .ok (.iconst 0, 1) := by decide +kernel
theorem d_Mo_takes_48 : decode c_Mo_takes 48 = .ok (.invokestatic 157, 3) := by decide +kernel
theorem d_Mo_takes_51 : decode c_Mo_takes 51 = .ok (.lcmp, 1) := by decide +kernel
theorem d_Mo_takes_52 : decode c_Mo_takes 52 = .ok (.ifCond .ne 11, 3) := by decide +kernel
theorem d_Mo_takes_55 : decode c_Mo_takes 55 = .ok (.aload_n 0, 1) := by decide +kernel
theorem d_Mo_takes_56 : decode c_Mo_takes 56 = .ok (.bipush 19, 2) := by decide +kernel
theorem d_Mo_takes_58 : decode c_Mo_takes 58 = .ok (.invokevirtual 191, 3) := by decide +kernel
theorem d_Mo_takes_61 : decode c_Mo_takes 61 = .ok (.iconst 1, 1) := by decide +kernel
theorem d_Mo_takes_62 : decode c_Mo_takes 62 = .ok (.ireturn, 1) := by decide +kernel
theorem d_Mo_takes_63 : decode c_Mo_takes 63 = .ok (.aload_n 0, 1) := by decide +kernel
theorem d_Mo_takes_64 : decode c_Mo_takes 64 = .ok (.getfield 184, 3) := by decide +kernel
theorem d_Mo_takes_67 : decode c_Mo_takes 67 = .ok (.ifCond .ne 43, 3) := by decide +kernel
theorem d_Mo_takes_70 : decode c_Mo_takes 70 = .ok (.aload_n 0, 1) := by decide +kernel
theorem d_Mo_takes_71 : decode c_Mo_takes 71 = .ok (.invokevirtual 145, 3) := by decide +kernel
theorem d_Mo_takes_74 : decode c_Mo_takes 74 = .ok (.ldc2_w 202, 3) := by decide +kernel
theorem d_Mo_takes_77 : decode c_Mo_takes 77 = .ok (.lcmp, 1) := by decide +kernel
theorem d_Mo_takes_78 : decode c_Mo_takes 78 = .ok (.ifCond .ne 32, 3) := by decide +kernel
theorem d_Mo_takes_81 : decode c_Mo_takes 81 = .ok (.aload_n 0, 1) := by decide +kernel
theorem d_Mo_takes_82 : decode c_Mo_takes 82 = .ok (.getfield 196, 3) := by decide +kernel
theorem d_Mo_takes_85 : decode c_Mo_takes 85 = .ok (.bipush 8, 2) := by decide +kernel
theorem d_Mo_takes_87 : decode c_Mo_takes 87 = .ok (.if_icmp .ne 5, 3) := by decide +kernel
theorem d_Mo_takes_90 : decode c_Mo_takes 90 = .ok (.iconst 0, 1) := by decide +kernel
theorem d_Mo_takes_91 : decode c_Mo_takes 91 = .ok (.ireturn, 1) := by decide +kernel
theorem d_Mo_takes_92 : decode c_Mo_takes 92 = .ok (.aload_n 0, 1) := by decide +kernel
theorem d_Mo_takes_93 : decode c_Mo_takes 93 = .ok (.bipush 22, 2) := by decide +kernel
theorem d_Mo_takes_95 : decode c_Mo_takes 95 = .ok (.invokevirtual 191, 3) := by decide +kernel
theorem d_Mo_takes_98 : decode c_Mo_takes 98 = .ok (.aload_n 0, 1) := by decide +kernel
theorem d_Mo_takes_99 : decode c_Mo_takes 99 = .ok (.dup, 1) := by decide +kernel
theorem d_Mo_takes_100 : decode c_Mo_takes 100 = .ok (.getfield 196, 3) := by decide +kernel
theorem d_Mo_takes_103 : decode c_Mo_takes 103 = .ok (.iconst 1, 1) := by decide +kernel
theorem d_Mo_takes_104 : decode c_Mo_takes 104 = .ok (.iadd, 1) := by decide +kernel
theorem d_Mo_takes_105 : decode c_Mo_takes 105 = .ok (.putfield 196, 3) := by decide +kernel
theorem d_Mo_takes_108 : decode c_Mo_takes 108 = .ok (.iconst 1, 1) := by decide +kernel
theorem d_Mo_takes_109 : decode c_Mo_takes 109 = .ok (.ireturn, 1) := by decide +kernel
theorem d_Mo_takes_110 : decode c_Mo_takes 110 = .ok (.aload_n 0, 1) := by decide +kernel
theorem d_Mo_takes_111 : decode c_Mo_takes 111 = .ok (.iload_n 1, 1) := by decide +kernel
theorem d_Mo_takes_112 : decode c_Mo_takes 112 = .ok (.invokevirtual 204, 3) := by decide +kernel
theorem d_Mo_takes_115 : decode c_Mo_takes 115 = .ok (.ifCond .ne 5, 3) := by decide +kernel
theorem d_Mo_takes_118 : decode c_Mo_takes 118 = .ok (.iconst 0, 1) := by decide +kernel
theorem d_Mo_takes_119 : decode c_Mo_takes 119 = .ok (.ireturn, 1) := by decide +kernel
theorem d_Mo_takes_120 : decode c_Mo_takes 120 = .ok (.aload_n 0, 1) := by decide +kernel
theorem d_Mo_takes_121 : decode c_Mo_takes 121 = .ok (.aload_n 0, 1) := by decide +kernel
theorem d_Mo_takes_122 : decode c_Mo_takes 122 = .ok (.getfield 184, 3) := by decide +kernel
theorem d_Mo_takes_125 : decode c_Mo_takes 125 = .ok (.iconst 2, 1) := by decide +kernel
theorem d_Mo_takes_126 : decode c_Mo_takes 126 = .ok (.if_icmp .ge 7, 3) := by decide +kernel
theorem d_Mo_takes_129 : decode c_Mo_takes 129 = .ok (.iconst 2, 1) := by decide +kernel
theorem d_Mo_takes_130 : decode c_Mo_takes 130 = .ok (.goto 4, 3) := by decide +kernel
theorem d_Mo_takes_133 : decode c_Mo_takes 133 = .ok (.iconst 4, 1) := by decide +kernel
theorem d_Mo_takes_134 : decode c_Mo_takes 134 = .ok (.putfield 184, 3) := by decide +kernel
theorem d_Mo_takes_137 : decode c_Mo_takes 137 = .ok (.iconst 1, 1) := by decide +kernel
theorem d_Mo_takes_138 : decode c_Mo_takes 138 = .ok (.ireturn, 1) := by decide +kernel
abbrev c_Mo_takesSign : ByteArray := prog_14_method_27_code
abbrev r_Mo_takesSign : Option FieldType := (some FieldType.boolean)
def y_Mo_takesSign : MethodName := ⟨"PinKindChecksModel", "takesSign", "()Z"⟩
theorem d_Mo_takesSign_0 : decode c_Mo_takesSign 0 = .ok (.aload_n 0, 1) := by decide +kernel
theorem d_Mo_takesSign_1 : decode c_Mo_takesSign 1 = .ok (.invokevirtual 181, 3) := by decide +kernel
theorem d_Mo_takesSign_4 : decode c_Mo_takesSign 4 = .ok (.istore_n 1, 1) := by decide +kernel
theorem d_Mo_takesSign_5 : decode c_Mo_takesSign 5 = .ok (.iload_n 1, 1) := by decide +kernel
theorem d_Mo_takesSign_6 : decode c_Mo_takesSign 6 = .ok (.bipush 10, 2) := by decide +kernel
theorem d_Mo_takesSign_8 : decode c_Mo_takesSign 8 = .ok (.if_icmp .lt 13, 3) := by decide +kernel
theorem d_Mo_takesSign_11 : decode c_Mo_takesSign 11 = .ok (.iload_n 1, 1) := by decide +kernel
theorem d_Mo_takesSign_12 : decode c_Mo_takesSign 12 = .ok (.bipush 12, 2) := by decide +kernel
theorem d_Mo_takesSign_14 : decode c_Mo_takesSign 14 = .ok (.if_icmp .gt 7, 3) := by decide +kernel
theorem d_Mo_takesSign_17 : decode c_Mo_takesSign 17 = .ok (.iconst 1, 1) := by decide +kernel
theorem d_Mo_takesSign_18 : decode c_Mo_takesSign 18 = .ok (.goto 4, 3) := by decide +kernel
theorem d_Mo_takesSign_21 : decode c_Mo_takesSign 21 = .ok (.iconst 0, 1) := by decide +kernel
theorem d_Mo_takesSign_22 : decode c_Mo_takesSign 22 = .ok (.istore_n 2, 1) := by decide +kernel
theorem d_Mo_takesSign_23 : decode c_Mo_takesSign 23 = .ok (.aload_n 0, 1) := by decide +kernel
theorem d_Mo_takesSign_24 : decode c_Mo_takesSign 24 = .ok (.getfield 184, 3) := by decide +kernel
theorem d_Mo_takesSign_27 : decode c_Mo_takesSign 27 = .ok (.iconst 5, 1) := by decide +kernel
theorem d_Mo_takesSign_28 : decode c_Mo_takesSign 28 = .ok (.if_icmp .eq 32, 3) := by decide +kernel
theorem d_Mo_takesSign_31 : decode c_Mo_takesSign 31 = .ok (.iload_n 2, 1) := by decide +kernel
theorem d_Mo_takesSign_32 : decode c_Mo_takesSign 32 = .ok (.ifCond .eq 28, 3) := by decide +kernel
theorem d_Mo_takesSign_35 : decode c_Mo_takesSign 35 = .ok (.aload_n 0, 1) := by decide +kernel
theorem d_Mo_takesSign_36 : decode c_Mo_takesSign 36 = .ok (.iload_n 1, 1) := by decide +kernel
theorem d_Mo_takesSign_37 : decode c_Mo_takesSign 37 = .ok (.invokestatic 137, 3) := by decide +kernel
theorem d_Mo_takesSign_40 : decode c_Mo_takesSign 40 = .ok (.invokevirtual 187, 3) := by decide +kernel
theorem d_Mo_takesSign_43 : decode c_Mo_takesSign 43 = .ok (.aload_n 0, 1) := by decide +kernel
theorem d_Mo_takesSign_44 : decode c_Mo_takesSign 44 = .ok (.iload_n 1, 1) := by decide +kernel
theorem d_Mo_takesSign_45 : decode c_Mo_takesSign 45 = .ok (.invokevirtual 191, 3) := by decide +kernel
theorem d_Mo_takesSign_48 : decode c_Mo_takesSign 48 = .ok (.aload_n 0, 1) := by decide +kernel
theorem d_Mo_takesSign_49 : decode c_Mo_takesSign 49 = .ok (.dup, 1) := by decide +kernel
theorem d_Mo_takesSign_50 : decode c_Mo_takesSign 50 = .ok (.getfield 184, 3) := by decide +kernel
theorem d_Mo_takesSign_53 : decode c_Mo_takesSign 53 = .ok (.iconst 1, 1) := by decide +kernel
theorem d_Mo_takesSign_54 : decode c_Mo_takesSign 54 = .ok (.isub, 1) := by decide +kernel
theorem d_Mo_takesSign_55 : decode c_Mo_takesSign 55 = .ok (.putfield 184, 3) := by decide +kernel
theorem d_Mo_takesSign_58 : decode c_Mo_takesSign 58 = .ok (.iconst 1, 1) := by decide +kernel
theorem d_Mo_takesSign_59 : decode c_Mo_takesSign 59 = .ok (.ireturn, 1) := by decide +kernel
theorem d_Mo_takesSign_60 : decode c_Mo_takesSign 60 = .ok (.aload_n 0, 1) := by decide +kernel
theorem d_Mo_takesSign_61 : decode c_Mo_takesSign 61 = .ok (.getfield 184, 3) := by decide +kernel
theorem d_Mo_takesSign_64 : decode c_Mo_takesSign 64 = .ok (.iconst 2, 1) := by decide +kernel
theorem d_Mo_takesSign_65 : decode c_Mo_takesSign 65 = .ok (.if_icmp .ne 37, 3) := by decide +kernel
theorem d_Mo_takesSign_68 : decode c_Mo_takesSign 68 = .ok (.iload_n 1, 1) := by decide +kernel
theorem d_Mo_takesSign_69 : decode c_Mo_takesSign 69 = .ok (.bipush 13, 2) := by decide +kernel
theorem d_Mo_takesSign_71 : decode c_Mo_takesSign 71 = .ok (.if_icmp .lt 9, 3) := by decide +kernel
theorem d_Mo_takesSign_74 : decode c_Mo_takesSign 74 = .ok (.iload_n 1, 1) := by decide +kernel
theorem d_Mo_takesSign_75 : decode c_Mo_takesSign 75 = .ok (.bipush 18, 2) := by decide +kernel
theorem d_Mo_takesSign_77 : decode c_Mo_takesSign 77 = .ok (.if_icmp .le 5, 3) := by decide +kernel
theorem d_Mo_takesSign_80 : decode c_Mo_takesSign 80 = .ok (.iconst 0, 1) := by decide +kernel
theorem d_Mo_takesSign_81 : decode c_Mo_takesSign 81 = .ok (.ireturn, 1) := by decide +kernel
theorem d_Mo_takesSign_82 : decode c_Mo_takesSign 82 = .ok (.aload_n 0, 1) := by decide +kernel
theorem d_Mo_takesSign_83 : decode c_Mo_takesSign 83 = .ok (.iload_n 1, 1) := by decide +kernel
theorem d_Mo_takesSign_84 : decode c_Mo_takesSign 84 = .ok (.invokestatic 137, 3) := by decide +kernel
theorem d_Mo_takesSign_87 : decode c_Mo_takesSign 87 = .ok (.invokevirtual 187, 3) := by decide +kernel
theorem d_Mo_takesSign_90 : decode c_Mo_takesSign 90 = .ok (.aload_n 0, 1) := by decide +kernel
theorem d_Mo_takesSign_91 : decode c_Mo_takesSign 91 = .ok (.iload_n 1, 1) := by decide +kernel
theorem d_Mo_takesSign_92 : decode c_Mo_takesSign 92 = .ok (.invokevirtual 191, 3) := by decide +kernel
theorem d_Mo_takesSign_95 : decode c_Mo_takesSign 95 = .ok (.aload_n 0, 1) := by decide +kernel
theorem d_Mo_takesSign_96 : decode c_Mo_takesSign 96 = .ok (.iconst 3, 1) := by decide +kernel
theorem d_Mo_takesSign_97 : decode c_Mo_takesSign 97 = .ok (.putfield 184, 3) := by decide +kernel
theorem d_Mo_takesSign_100 : decode c_Mo_takesSign 100 = .ok (.iconst 1, 1) := by decide +kernel
theorem d_Mo_takesSign_101 : decode c_Mo_takesSign 101 = .ok (.ireturn, 1) := by decide +kernel
theorem d_Mo_takesSign_102 : decode c_Mo_takesSign 102 = .ok (.iload_n 1, 1) := by decide +kernel
theorem d_Mo_takesSign_103 : decode c_Mo_takesSign 103 = .ok (.bipush 20, 2) := by decide +kernel
theorem d_Mo_takesSign_105 : decode c_Mo_takesSign 105 = .ok (.if_icmp .eq 9, 3) := by decide +kernel
theorem d_Mo_takesSign_108 : decode c_Mo_takesSign 108 = .ok (.iload_n 1, 1) := by decide +kernel
theorem d_Mo_takesSign_109 : decode c_Mo_takesSign 109 = .ok (.bipush 21, 2) := by decide +kernel
theorem d_Mo_takesSign_111 : decode c_Mo_takesSign 111 = .ok (.if_icmp .ne 23, 3) := by decide +kernel
theorem d_Mo_takesSign_114 : decode c_Mo_takesSign 114 = .ok (.aload_n 0, 1) := by decide +kernel
theorem d_Mo_takesSign_115 : decode c_Mo_takesSign 115 = .ok (.iload_n 1, 1) := by decide +kernel
theorem d_Mo_takesSign_116 : decode c_Mo_takesSign 116 = .ok (.invokestatic 137, 3) := by decide +kernel
theorem d_Mo_takesSign_119 : decode c_Mo_takesSign 119 = .ok (.invokevirtual 187, 3) := by decide +kernel
theorem d_Mo_takesSign_122 : decode c_Mo_takesSign 122 = .ok (.aload_n 0, 1) := by decide +kernel
theorem d_Mo_takesSign_123 : decode c_Mo_takesSign 123 = .ok (.iload_n 1, 1) := by decide +kernel
theorem d_Mo_takesSign_124 : decode c_Mo_takesSign 124 = .ok (.invokevirtual 191, 3) := by decide +kernel
theorem d_Mo_takesSign_127 : decode c_Mo_takesSign 127 = .ok (.aload_n 0, 1) := by decide +kernel
theorem d_Mo_takesSign_128 : decode c_Mo_takesSign 128 = .ok (.iconst 0, 1) := by decide +kernel
theorem d_Mo_takesSign_129 : decode c_Mo_takesSign 129 = .ok (.putfield 184, 3) := by decide +kernel
theorem d_Mo_takesSign_132 : decode c_Mo_takesSign 132 = .ok (.iconst 1, 1) := by decide +kernel
theorem d_Mo_takesSign_133 : decode c_Mo_takesSign 133 = .ok (.ireturn, 1) := by decide +kernel
theorem d_Mo_takesSign_134 : decode c_Mo_takesSign 134 = .ok (.aload_n 0, 1) := by decide +kernel
theorem d_Mo_takesSign_135 : decode c_Mo_takesSign 135 = .ok (.invokevirtual 145, 3) := by decide +kernel
theorem d_Mo_takesSign_138 : decode c_Mo_takesSign 138 = .ok (.ldc2_w 194, 3) := by decide +kernel
theorem d_Mo_takesSign_141 : decode c_Mo_takesSign 141 = .ok (.lcmp, 1) := by decide +kernel
theorem d_Mo_takesSign_142 : decode c_Mo_takesSign 142 = .ok (.ifCond .ne 10, 3) := by decide +kernel
theorem d_Mo_takesSign_145 : decode c_Mo_takesSign 145 = .ok (.aload_n 0, 1) := by decide +kernel
theorem d_Mo_takesSign_146 : decode c_Mo_takesSign 146 = .ok (.getfield 196, 3) := by decide +kernel
theorem d_Mo_takesSign_149 : decode c_Mo_takesSign 149 = .ok (.ifCond .ne 5, 3) := by decide +kernel
theorem d_Mo_takesSign_152 : decode c_Mo_takesSign 152 = .ok (.iconst 0, 1) := by decide +kernel
theorem d_Mo_takesSign_153 : decode c_Mo_takesSign 153 = .ok (.ireturn, 1) := by decide +kernel
theorem d_Mo_takesSign_154 : decode c_Mo_takesSign 154 = .ok (.aload_n 0, 1) := by decide +kernel
theorem d_Mo_takesSign_155 : decode c_Mo_takesSign 155 = .ok (.iconst 1, 1) := by decide +kernel
theorem d_Mo_takesSign_156 : decode c_Mo_takesSign 156 = .ok (.invokevirtual 187, 3) := by decide +kernel
theorem d_Mo_takesSign_159 : decode c_Mo_takesSign 159 = .ok (.aload_n 0, 1) := by decide +kernel
theorem d_Mo_takesSign_160 : decode c_Mo_takesSign 160 = .ok (.dup, 1) := by decide +kernel
theorem d_Mo_takesSign_161 : decode c_Mo_takesSign 161 = .ok (.getfield 134, 3) := by decide +kernel
theorem d_Mo_takesSign_164 : decode c_Mo_takesSign 164 = .ok (.iconst 1, 1) := by decide +kernel
theorem d_Mo_takesSign_165 : decode c_Mo_takesSign 165 = .ok (.isub, 1) := by decide +kernel
theorem d_Mo_takesSign_166 : decode c_Mo_takesSign 166 = .ok (.putfield 134, 3) := by decide +kernel
theorem d_Mo_takesSign_169 : decode c_Mo_takesSign 169 = .ok (.aload_n 0, 1) := by decide +kernel
theorem d_Mo_takesSign_170 : decode c_Mo_takesSign 170 = .ok (.dup, 1) := by decide +kernel
theorem d_Mo_takesSign_171 : decode c_Mo_takesSign 171 = .ok (.getfield 196, 3) := by decide +kernel
theorem d_Mo_takesSign_174 : decode c_Mo_takesSign 174 = .ok (.iconst 1, 1) := by decide +kernel
theorem d_Mo_takesSign_175 : decode c_Mo_takesSign 175 = .ok (.isub, 1) := by decide +kernel
theorem d_Mo_takesSign_176 : decode c_Mo_takesSign 176 = .ok (.putfield 196, 3) := by decide +kernel
theorem d_Mo_takesSign_179 : decode c_Mo_takesSign 179 = .ok (.aload_n 0, 1) := by decide +kernel
theorem d_Mo_takesSign_180 : decode c_Mo_takesSign 180 = .ok (.iconst 5, 1) := by decide +kernel
theorem d_Mo_takesSign_181 : decode c_Mo_takesSign 181 = .ok (.putfield 184, 3) := by decide +kernel
theorem d_Mo_takesSign_184 : decode c_Mo_takesSign 184 = .ok (.iconst 1, 1) := by decide +kernel
theorem d_Mo_takesSign_185 : decode c_Mo_takesSign 185 = .ok (.ireturn, 1) := by decide +kernel
abbrev c_Mo_signAt : ByteArray := prog_14_method_26_code
abbrev r_Mo_signAt : Option FieldType := (some FieldType.int)
def y_Mo_signAt : MethodName := ⟨"PinKindChecksModel", "signAt", "()I"⟩
theorem d_Mo_signAt_0 : decode c_Mo_signAt 0 = .ok (.aload_n 0, 1) := by decide +kernel
theorem d_Mo_signAt_1 : decode c_Mo_signAt 1 = .ok (.invokevirtual 145, 3) := by decide +kernel
theorem d_Mo_signAt_4 : decode c_Mo_signAt 4 = .ok (.lstore_n 1, 1) := by decide +kernel
theorem d_Mo_signAt_5 : decode c_Mo_signAt 5 = .ok (.lload_n 1, 1) := by decide +kernel
theorem d_Mo_signAt_6 : decode c_Mo_signAt 6 = .ok (.ldc2_w 167, 3) := by decide +kernel
theorem d_Mo_signAt_9 : decode c_Mo_signAt 9 = .ok (.lcmp, 1) := by decide +kernel
theorem d_Mo_signAt_10 : decode c_Mo_signAt 10 = .ok (.ifCond .ne 6, 3) := by decide +kernel
theorem d_Mo_signAt_13 : decode c_Mo_signAt 13 = .ok (.bipush 10, 2) := by decide +kernel
theorem d_Mo_signAt_15 : decode c_Mo_signAt 15 = .ok (.ireturn, 1) := by decide +kernel
theorem d_Mo_signAt_16 : decode c_Mo_signAt 16 = .ok (.lload_n 1, 1) := by decide +kernel
theorem d_Mo_signAt_17 : decode c_Mo_signAt 17 = .ok (.ldc2_w 169, 3) := by decide +kernel
theorem d_Mo_signAt_20 : decode c_Mo_signAt 20 = .ok (.lcmp, 1) := by decide +kernel
theorem d_Mo_signAt_21 : decode c_Mo_signAt 21 = .ok (.ifCond .ne 6, 3) := by decide +kernel
theorem d_Mo_signAt_24 : decode c_Mo_signAt 24 = .ok (.bipush 11, 2) := by decide +kernel
theorem d_Mo_signAt_26 : decode c_Mo_signAt 26 = .ok (.ireturn, 1) := by decide +kernel
theorem d_Mo_signAt_27 : decode c_Mo_signAt 27 = .ok (.lload_n 1, 1) := by decide +kernel
theorem d_Mo_signAt_28 : decode c_Mo_signAt 28 = .ok (.ldc2_w 171, 3) := by decide +kernel
theorem d_Mo_signAt_31 : decode c_Mo_signAt 31 = .ok (.lcmp, 1) := by decide +kernel
theorem d_Mo_signAt_32 : decode c_Mo_signAt 32 = .ok (.ifCond .ne 6, 3) := by decide +kernel
theorem d_Mo_signAt_35 : decode c_Mo_signAt 35 = .ok (.bipush 12, 2) := by decide +kernel
theorem d_Mo_signAt_37 : decode c_Mo_signAt 37 = .ok (.ireturn, 1) := by decide +kernel
theorem d_Mo_signAt_38 : decode c_Mo_signAt 38 = .ok (.lload_n 1, 1) := by decide +kernel
theorem d_Mo_signAt_39 : decode c_Mo_signAt 39 = .ok (.ldc2_w 173, 3) := by decide +kernel
theorem d_Mo_signAt_42 : decode c_Mo_signAt 42 = .ok (.lcmp, 1) := by decide +kernel
theorem d_Mo_signAt_43 : decode c_Mo_signAt 43 = .ok (.ifCond .ne 6, 3) := by decide +kernel
theorem d_Mo_signAt_46 : decode c_Mo_signAt 46 = .ok (.bipush 13, 2) := by decide +kernel
theorem d_Mo_signAt_48 : decode c_Mo_signAt 48 = .ok (.ireturn, 1) := by decide +kernel
theorem d_Mo_signAt_49 : decode c_Mo_signAt 49 = .ok (.lload_n 1, 1) := by decide +kernel
theorem d_Mo_signAt_50 : decode c_Mo_signAt 50 = .ok (.ldc2_w 175, 3) := by decide +kernel
theorem d_Mo_signAt_53 : decode c_Mo_signAt 53 = .ok (.lcmp, 1) := by decide +kernel
theorem d_Mo_signAt_54 : decode c_Mo_signAt 54 = .ok (.ifCond .ne 6, 3) := by decide +kernel
theorem d_Mo_signAt_57 : decode c_Mo_signAt 57 = .ok (.bipush 14, 2) := by decide +kernel
theorem d_Mo_signAt_59 : decode c_Mo_signAt 59 = .ok (.ireturn, 1) := by decide +kernel
theorem d_Mo_signAt_60 : decode c_Mo_signAt 60 = .ok (.lload_n 1, 1) := by decide +kernel
theorem d_Mo_signAt_61 : decode c_Mo_signAt 61 = .ok (.ldc2_w 177, 3) := by decide +kernel
theorem d_Mo_signAt_64 : decode c_Mo_signAt 64 = .ok (.lcmp, 1) := by decide +kernel
theorem d_Mo_signAt_65 : decode c_Mo_signAt 65 = .ok (.ifCond .ne 6, 3) := by decide +kernel
theorem d_Mo_signAt_68 : decode c_Mo_signAt 68 = .ok (.bipush 15, 2) := by decide +kernel
theorem d_Mo_signAt_70 : decode c_Mo_signAt 70 = .ok (.ireturn, 1) := by decide +kernel
theorem d_Mo_signAt_71 : decode c_Mo_signAt 71 = .ok (.lload_n 1, 1) := by decide +kernel
theorem d_Mo_signAt_72 : decode c_Mo_signAt 72 = .ok (.ldc2_w 179, 3) := by decide +kernel
theorem d_Mo_signAt_75 : decode c_Mo_signAt 75 = .ok (.lcmp, 1) := by decide +kernel
theorem d_Mo_signAt_76 : decode c_Mo_signAt 76 = .ok (.ifCond .ne 6, 3) := by decide +kernel
theorem d_Mo_signAt_79 : decode c_Mo_signAt 79 = .ok (.bipush 16, 2) := by decide +kernel
theorem d_Mo_signAt_81 : decode c_Mo_signAt 81 = .ok (.ireturn, 1) := by decide +kernel
theorem d_Mo_signAt_82 : decode c_Mo_signAt 82 = .ok (.lload_n 1, 1) := by decide +kernel
theorem d_Mo_signAt_83 : decode c_Mo_signAt 83 = .ok (.bipush 60, 2) := by decide +kernel
theorem d_Mo_signAt_85 : decode c_Mo_signAt 85 = .ok (.bipush 61, 2) := by decide +kernel
theorem d_Mo_signAt_87 : decode c_Mo_signAt 87 = .ok (.iconst 0, 1) := by decide +kernel
theorem d_Mo_signAt_88 : decode c_Mo_signAt 88 = .ok (.iconst 0, 1) := by decide +kernel
theorem d_Mo_signAt_89 : decode c_Mo_signAt 89 = .ok (.iconst 0, 1) := by decide +kernel
theorem d_Mo_signAt_90 : decode c_Mo_signAt 90 = .ok (.invokestatic 157, 3) := by decide +kernel
theorem d_Mo_signAt_93 : decode c_Mo_signAt 93 = .ok (.lcmp, 1) := by decide +kernel
theorem d_Mo_signAt_94 : decode c_Mo_signAt 94 = .ok (.ifCond .ne 6, 3) := by decide +kernel
theorem d_Mo_signAt_97 : decode c_Mo_signAt 97 = .ok (.bipush 18, 2) := by decide +kernel
theorem d_Mo_signAt_99 : decode c_Mo_signAt 99 = .ok (.ireturn, 1) := by decide +kernel
theorem d_Mo_signAt_100 : decode c_Mo_signAt 100 = .ok (.lload_n 1, 1) := by decide +kernel
theorem d_Mo_signAt_101 : decode c_Mo_signAt 101 = .ok (.bipush 62, 2) := by decide +kernel
theorem d_Mo_signAt_103 : decode c_Mo_signAt 103 = .ok (.bipush 61, 2) := by decide +kernel
theorem d_Mo_signAt_105 : decode c_Mo_signAt 105 = .ok (.iconst 0, 1) := by decide +kernel
theorem d_Mo_signAt_106 : decode c_Mo_signAt 106 = .ok (.iconst 0, 1) := by decide +kernel
theorem d_Mo_signAt_107 : decode c_Mo_signAt 107 = .ok (.iconst 0, 1) := by decide +kernel
theorem d_Mo_signAt_108 : decode c_Mo_signAt 108 = .ok (.invokestatic 157, 3) := by decide +kernel
theorem d_Mo_signAt_111 : decode c_Mo_signAt 111 = .ok (.lcmp, 1) := by decide +kernel
theorem d_Mo_signAt_112 : decode c_Mo_signAt 112 = .ok (.ifCond .ne 6, 3) := by decide +kernel
theorem d_Mo_signAt_115 : decode c_Mo_signAt 115 = .ok (.bipush 17, 2) := by decide +kernel
theorem d_Mo_signAt_117 : decode c_Mo_signAt 117 = .ok (.ireturn, 1) := by decide +kernel
theorem d_Mo_signAt_118 : decode c_Mo_signAt 118 = .ok (.lload_n 1, 1) := by decide +kernel
theorem d_Mo_signAt_119 : decode c_Mo_signAt 119 = .ok (.bipush 97, 2) := by decide +kernel
theorem d_Mo_signAt_121 : decode c_Mo_signAt 121 = .ok (.bipush 110, 2) := by decide +kernel
theorem d_Mo_signAt_123 : decode c_Mo_signAt 123 = .ok (.bipush 100, 2) := by decide +kernel
theorem d_Mo_signAt_125 : decode c_Mo_signAt 125 = .ok (.iconst 0, 1) := by decide +kernel
theorem d_Mo_signAt_126 : decode c_Mo_signAt 126 = .ok (.iconst 0, 1) := by decide +kernel
theorem d_Mo_signAt_127 : decode c_Mo_signAt 127 = .ok (.invokestatic 157, 3) := by decide +kernel
theorem d_Mo_signAt_130 : decode c_Mo_signAt 130 = .ok (.lcmp, 1) := by decide +kernel
theorem d_Mo_signAt_131 : decode c_Mo_signAt 131 = .ok (.ifCond .ne 6, 3) := by decide +kernel
theorem d_Mo_signAt_134 : decode c_Mo_signAt 134 = .ok (.bipush 20, 2) := by decide +kernel
theorem d_Mo_signAt_136 : decode c_Mo_signAt 136 = .ok (.ireturn, 1) := by decide +kernel
theorem d_Mo_signAt_137 : decode c_Mo_signAt 137 = .ok (.lload_n 1, 1) := by decide +kernel
theorem d_Mo_signAt_138 : decode c_Mo_signAt 138 = .ok (.bipush 111, 2) := by decide +kernel
theorem d_Mo_signAt_140 : decode c_Mo_signAt 140 = .ok (.bipush 114, 2) := by decide +kernel
theorem d_Mo_signAt_142 : decode c_Mo_signAt 142 = .ok (.iconst 0, 1) := by decide +kernel
theorem d_Mo_signAt_143 : decode c_Mo_signAt 143 = .ok (.iconst 0, 1) := by decide +kernel
theorem d_Mo_signAt_144 : decode c_Mo_signAt 144 = .ok (.iconst 0, 1) := by decide +kernel
theorem d_Mo_signAt_145 : decode c_Mo_signAt 145 = .ok (.invokestatic 157, 3) := by decide +kernel
theorem d_Mo_signAt_148 : decode c_Mo_signAt 148 = .ok (.lcmp, 1) := by decide +kernel
theorem d_Mo_signAt_149 : decode c_Mo_signAt 149 = .ok (.ifCond .ne 6, 3) := by decide +kernel
theorem d_Mo_signAt_152 : decode c_Mo_signAt 152 = .ok (.bipush 21, 2) := by decide +kernel
theorem d_Mo_signAt_154 : decode c_Mo_signAt 154 = .ok (.ireturn, 1) := by decide +kernel
theorem d_Mo_signAt_155 : decode c_Mo_signAt 155 = .ok (.iconst (-1), 1) := by decide +kernel
theorem d_Mo_signAt_156 : decode c_Mo_signAt 156 = .ok (.ireturn, 1) := by decide +kernel
abbrev c_Mo_rank : ByteArray := prog_14_method_21_code
abbrev r_Mo_rank : Option FieldType := (some FieldType.int)
def y_Mo_rank : MethodName := ⟨"PinKindChecksModel", "rank", "(I)I"⟩
theorem d_Mo_rank_0 : decode c_Mo_rank 0 = .ok (.iload_n 0, 1) := by decide +kernel
theorem d_Mo_rank_1 : decode c_Mo_rank 1 = .ok (.bipush 10, 2) := by decide +kernel
theorem d_Mo_rank_3 : decode c_Mo_rank 3 = .ok (.if_icmp .ne 6, 3) := by decide +kernel
theorem d_Mo_rank_6 : decode c_Mo_rank 6 = .ok (.bipush 6, 2) := by decide +kernel
theorem d_Mo_rank_8 : decode c_Mo_rank 8 = .ok (.ireturn, 1) := by decide +kernel
theorem d_Mo_rank_9 : decode c_Mo_rank 9 = .ok (.iload_n 0, 1) := by decide +kernel
theorem d_Mo_rank_10 : decode c_Mo_rank 10 = .ok (.bipush 11, 2) := by decide +kernel
theorem d_Mo_rank_12 : decode c_Mo_rank 12 = .ok (.if_icmp .eq 9, 3) := by decide +kernel
theorem d_Mo_rank_15 : decode c_Mo_rank 15 = .ok (.iload_n 0, 1) := by decide +kernel
theorem d_Mo_rank_16 : decode c_Mo_rank 16 = .ok (.bipush 12, 2) := by decide +kernel
theorem d_Mo_rank_18 : decode c_Mo_rank 18 = .ok (.if_icmp .ne 5, 3) := by decide +kernel
theorem d_Mo_rank_21 : decode c_Mo_rank 21 = .ok (.iconst 5, 1) := by decide +kernel
theorem d_Mo_rank_22 : decode c_Mo_rank 22 = .ok (.ireturn, 1) := by decide +kernel
theorem d_Mo_rank_23 : decode c_Mo_rank 23 = .ok (.iload_n 0, 1) := by decide +kernel
theorem d_Mo_rank_24 : decode c_Mo_rank 24 = .ok (.bipush 13, 2) := by decide +kernel
theorem d_Mo_rank_26 : decode c_Mo_rank 26 = .ok (.if_icmp .lt 11, 3) := by decide +kernel
theorem d_Mo_rank_29 : decode c_Mo_rank 29 = .ok (.iload_n 0, 1) := by decide +kernel
theorem d_Mo_rank_30 : decode c_Mo_rank 30 = .ok (.bipush 18, 2) := by decide +kernel
theorem d_Mo_rank_32 : decode c_Mo_rank 32 = .ok (.if_icmp .gt 5, 3) := by decide +kernel
theorem d_Mo_rank_35 : decode c_Mo_rank 35 = .ok (.iconst 4, 1) := by decide +kernel
theorem d_Mo_rank_36 : decode c_Mo_rank 36 = .ok (.ireturn, 1) := by decide +kernel
theorem d_Mo_rank_37 : decode c_Mo_rank 37 = .ok (.iload_n 0, 1) := by decide +kernel
theorem d_Mo_rank_38 : decode c_Mo_rank 38 = .ok (.bipush 19, 2) := by decide +kernel
theorem d_Mo_rank_40 : decode c_Mo_rank 40 = .ok (.if_icmp .ne 7, 3) := by decide +kernel
theorem d_Mo_rank_43 : decode c_Mo_rank 43 = .ok (.iconst 3, 1) := by decide +kernel
theorem d_Mo_rank_44 : decode c_Mo_rank 44 = .ok (.goto 24, 3) := by decide +kernel
theorem d_Mo_rank_47 : decode c_Mo_rank 47 = .ok (.iload_n 0, 1) := by decide +kernel
theorem d_Mo_rank_48 : decode c_Mo_rank 48 = .ok (.bipush 20, 2) := by decide +kernel
theorem d_Mo_rank_50 : decode c_Mo_rank 50 = .ok (.if_icmp .ne 7, 3) := by decide +kernel
theorem d_Mo_rank_53 : decode c_Mo_rank 53 = .ok (.iconst 2, 1) := by decide +kernel
theorem d_Mo_rank_54 : decode c_Mo_rank 54 = .ok (.goto 14, 3) := by decide +kernel
theorem d_Mo_rank_57 : decode c_Mo_rank 57 = .ok (.iload_n 0, 1) := by decide +kernel
theorem d_Mo_rank_58 : decode c_Mo_rank 58 = .ok (.bipush 21, 2) := by decide +kernel
theorem d_Mo_rank_60 : decode c_Mo_rank 60 = .ok (.if_icmp .ne 7, 3) := by decide +kernel
theorem d_Mo_rank_63 : decode c_Mo_rank 63 = .ok (.iconst 1, 1) := by decide +kernel
theorem d_Mo_rank_64 : decode c_Mo_rank 64 = .ok (.goto 4, 3) := by decide +kernel
theorem d_Mo_rank_67 : decode c_Mo_rank 67 = .ok (.iconst 0, 1) := by decide +kernel
theorem d_Mo_rank_68 : decode c_Mo_rank 68 = .ok (.ireturn, 1) := by decide +kernel
abbrev c_Mo_release : ByteArray := prog_14_method_22_code
abbrev r_Mo_release : Option FieldType := none
def y_Mo_release : MethodName := ⟨"PinKindChecksModel", "release", "(I)V"⟩
theorem d_Mo_release_0 : decode c_Mo_release 0 = .ok (.aload_n 0, 1) := by decide +kernel
theorem d_Mo_release_1 : decode c_Mo_release 1 = .ok (.getfield 134, 3) := by decide +kernel
theorem d_Mo_release_4 : decode c_Mo_release 4 = .ok (.ifCond .le 48, 3) := by decide +kernel
theorem d_Mo_release_7 : decode c_Mo_release 7 = .ok (.aload_n 0, 1) := by decide +kernel
theorem d_Mo_release_8 : decode c_Mo_release 8 = .ok (.getfield 85, 3) := by decide +kernel
theorem d_Mo_release_11 : decode c_Mo_release 11 = .ok (.aload_n 0, 1) := by decide +kernel
theorem d_Mo_release_12 : decode c_Mo_release 12 = .ok (.getfield 134, 3) := by decide +kernel
theorem d_Mo_release_15 : decode c_Mo_release 15 = .ok (.iconst 1, 1) := by decide +kernel
theorem d_Mo_release_16 : decode c_Mo_release 16 = .ok (.isub, 1) := by decide +kernel
theorem d_Mo_release_17 : decode c_Mo_release 17 = .ok (.iaload, 1) := by decide +kernel
theorem d_Mo_release_18 : decode c_Mo_release 18 = .ok (.invokestatic 137, 3) := by decide +kernel
theorem d_Mo_release_21 : decode c_Mo_release 21 = .ok (.iload_n 1, 1) := by decide +kernel
theorem d_Mo_release_22 : decode c_Mo_release 22 = .ok (.if_icmp .lt 30, 3) := by decide +kernel
theorem d_Mo_release_25 : decode c_Mo_release 25 = .ok (.aload_n 0, 1) := by decide +kernel
theorem d_Mo_release_26 : decode c_Mo_release 26 = .ok (.dup, 1) := by decide +kernel
theorem d_Mo_release_27 : decode c_Mo_release 27 = .ok (.getfield 134, 3) := by decide +kernel
theorem d_Mo_release_30 : decode c_Mo_release 30 = .ok (.iconst 1, 1) := by decide +kernel
theorem d_Mo_release_31 : decode c_Mo_release 31 = .ok (.isub, 1) := by decide +kernel
theorem d_Mo_release_32 : decode c_Mo_release 32 = .ok (.putfield 134, 3) := by decide +kernel
theorem d_Mo_release_35 : decode c_Mo_release 35 = .ok (.aload_n 0, 1) := by decide +kernel
theorem d_Mo_release_36 : decode c_Mo_release 36 = .ok (.aload_n 0, 1) := by decide +kernel
theorem d_Mo_release_37 : decode c_Mo_release 37 = .ok (.getfield 85, 3) := by decide +kernel
theorem d_Mo_release_40 : decode c_Mo_release 40 = .ok (.aload_n 0, 1) := by decide +kernel
theorem d_Mo_release_41 : decode c_Mo_release 41 = .ok (.getfield 134, 3) := by decide +kernel
theorem d_Mo_release_44 : decode c_Mo_release 44 = .ok (.iaload, 1) := by decide +kernel
theorem d_Mo_release_45 : decode c_Mo_release 45 = .ok (.iconst 0, 1) := by decide +kernel
theorem d_Mo_release_46 : decode c_Mo_release 46 = .ok (.invokevirtual 141, 3) := by decide +kernel
theorem d_Mo_release_49 : decode c_Mo_release 49 = .ok (.goto (-49), 3) := by decide +kernel
theorem d_Mo_release_52 : decode c_Mo_release 52 = .ok (.return_, 1) := by decide +kernel
abbrev c_Mo_put : ByteArray := prog_14_method_20_code
abbrev r_Mo_put : Option FieldType := none
def y_Mo_put : MethodName := ⟨"PinKindChecksModel", "put", "(II)V"⟩
theorem d_Mo_put_0 : decode c_Mo_put 0 = .ok (.bipush 90, 2) := by decide +kernel
theorem d_Mo_put_2 : decode c_Mo_put 2 = .ok (.aload_n 0, 1) := by decide +kernel
theorem d_Mo_put_3 : decode c_Mo_put 3 = .ok (.getfield 131, 3) := by decide +kernel
theorem d_Mo_put_6 : decode c_Mo_put 6 = .ok (.imul, 1) := by decide +kernel
theorem d_Mo_put_7 : decode c_Mo_put 7 = .ok (.aload_n 0, 1) := by decide +kernel
theorem d_Mo_put_8 : decode c_Mo_put 8 = .ok (.getfield 53, 3) := by decide +kernel
theorem d_Mo_put_11 : decode c_Mo_put 11 = .ok (.aload_n 0, 1) := by decide +kernel
theorem d_Mo_put_12 : decode c_Mo_put 12 = .ok (.getfield 131, 3) := by decide +kernel
theorem d_Mo_put_15 : decode c_Mo_put 15 = .ok (.iaload, 1) := by decide +kernel
theorem d_Mo_put_16 : decode c_Mo_put 16 = .ok (.iadd, 1) := by decide +kernel
theorem d_Mo_put_17 : decode c_Mo_put 17 = .ok (.istore_n 3, 1) := by decide +kernel
theorem d_Mo_put_18 : decode c_Mo_put 18 = .ok (.aload_n 0, 1) := by decide +kernel
theorem d_Mo_put_19 : decode c_Mo_put 19 = .ok (.getfield 56, 3) := by decide +kernel
theorem d_Mo_put_22 : decode c_Mo_put 22 = .ok (.iload_n 3, 1) := by decide +kernel
theorem d_Mo_put_23 : decode c_Mo_put 23 = .ok (.iload_n 1, 1) := by decide +kernel
theorem d_Mo_put_24 : decode c_Mo_put 24 = .ok (.iastore, 1) := by decide +kernel
theorem d_Mo_put_25 : decode c_Mo_put 25 = .ok (.aload_n 0, 1) := by decide +kernel
theorem d_Mo_put_26 : decode c_Mo_put 26 = .ok (.getfield 59, 3) := by decide +kernel
theorem d_Mo_put_29 : decode c_Mo_put 29 = .ok (.iload_n 3, 1) := by decide +kernel
theorem d_Mo_put_30 : decode c_Mo_put 30 = .ok (.iload_n 2, 1) := by decide +kernel
theorem d_Mo_put_31 : decode c_Mo_put 31 = .ok (.iastore, 1) := by decide +kernel
theorem d_Mo_put_32 : decode c_Mo_put 32 = .ok (.aload_n 0, 1) := by decide +kernel
theorem d_Mo_put_33 : decode c_Mo_put 33 = .ok (.getfield 53, 3) := by decide +kernel
theorem d_Mo_put_36 : decode c_Mo_put 36 = .ok (.aload_n 0, 1) := by decide +kernel
theorem d_Mo_put_37 : decode c_Mo_put 37 = .ok (.getfield 131, 3) := by decide +kernel
theorem d_Mo_put_40 : decode c_Mo_put 40 = .ok (.dup2, 1) := by decide +kernel
theorem d_Mo_put_41 : decode c_Mo_put 41 = .ok (.iaload, 1) := by decide +kernel
theorem d_Mo_put_42 : decode c_Mo_put 42 = .ok (.iconst 1, 1) := by decide +kernel
theorem d_Mo_put_43 : decode c_Mo_put 43 = .ok (.iadd, 1) := by decide +kernel
theorem d_Mo_put_44 : decode c_Mo_put 44 = .ok (.iastore, 1) := by decide +kernel
theorem d_Mo_put_45 : decode c_Mo_put 45 = .ok (.return_, 1) := by decide +kernel
abbrev c_Mo_wait : ByteArray := prog_14_method_23_code
abbrev r_Mo_wait : Option FieldType := none
def y_Mo_wait : MethodName := ⟨"PinKindChecksModel", "wait", "(I)V"⟩
theorem d_Mo_wait_0 : decode c_Mo_wait 0 = .ok (.aload_n 0, 1) := by decide +kernel
theorem d_Mo_wait_1 : decode c_Mo_wait 1 = .ok (.getfield 85, 3) := by decide +kernel
theorem d_Mo_wait_4 : decode c_Mo_wait 4 = .ok (.aload_n 0, 1) := by decide +kernel
theorem d_Mo_wait_5 : decode c_Mo_wait 5 = .ok (.getfield 134, 3) := by decide +kernel
theorem d_Mo_wait_8 : decode c_Mo_wait 8 = .ok (.iload_n 1, 1) := by decide +kernel
theorem d_Mo_wait_9 : decode c_Mo_wait 9 = .ok (.iastore, 1) := by decide +kernel
theorem d_Mo_wait_10 : decode c_Mo_wait 10 = .ok (.aload_n 0, 1) := by decide +kernel
theorem d_Mo_wait_11 : decode c_Mo_wait 11 = .ok (.dup, 1) := by decide +kernel
theorem d_Mo_wait_12 : decode c_Mo_wait 12 = .ok (.getfield 134, 3) := by decide +kernel
theorem d_Mo_wait_15 : decode c_Mo_wait 15 = .ok (.iconst 1, 1) := by decide +kernel
theorem d_Mo_wait_16 : decode c_Mo_wait 16 = .ok (.iadd, 1) := by decide +kernel
theorem d_Mo_wait_17 : decode c_Mo_wait 17 = .ok (.putfield 134, 3) := by decide +kernel
theorem d_Mo_wait_20 : decode c_Mo_wait 20 = .ok (.return_, 1) := by decide +kernel
abbrev c_Mo_isTerm : ByteArray := prog_14_method_24_code
abbrev r_Mo_isTerm : Option FieldType := (some FieldType.boolean)
def y_Mo_isTerm : MethodName := ⟨"PinKindChecksModel", "isTerm", "(I)Z"⟩
theorem d_Mo_isTerm_0 : decode c_Mo_isTerm 0 = .ok (.aload_n 0, 1) := by decide +kernel
theorem d_Mo_isTerm_1 : decode c_Mo_isTerm 1 = .ok (.invokevirtual 145, 3) := by decide +kernel
theorem d_Mo_isTerm_4 : decode c_Mo_isTerm 4 = .ok (.lstore_n 2, 1) := by decide +kernel
theorem d_Mo_isTerm_5 : decode c_Mo_isTerm 5 = .ok (.aload_n 0, 1) := by decide +kernel
theorem d_Mo_isTerm_6 : decode c_Mo_isTerm 6 = .ok (.invokevirtual 149, 3) := by decide +kernel
theorem d_Mo_isTerm_9 : decode c_Mo_isTerm 9 = .ok (.ifCond .eq 15, 3) := by decide +kernel
theorem d_Mo_isTerm_12 : decode c_Mo_isTerm 12 = .ok (.aload_n 0, 1) := by decide +kernel
theorem d_Mo_isTerm_13 : decode c_Mo_isTerm 13 = .ok (.iconst 0, 1) := by decide +kernel
theorem d_Mo_isTerm_14 : decode c_Mo_isTerm 14 = .ok (.aload_n 0, 1) := by decide +kernel
theorem d_Mo_isTerm_15 : decode c_Mo_isTerm 15 = .ok (.invokevirtual 153, 3) := by decide +kernel
theorem d_Mo_isTerm_18 : decode c_Mo_isTerm 18 = .ok (.invokevirtual 141, 3) := by decide +kernel
theorem d_Mo_isTerm_21 : decode c_Mo_isTerm 21 = .ok (.goto 242, 3) := by decide +kernel
theorem d_Mo_isTerm_24 : decode c_Mo_isTerm 24 = .ok (.aload_n 0, 1) := by decide +kernel
theorem d_Mo_isTerm_25 : decode c_Mo_isTerm 25 = .ok (.getfield 122, 3) := by decide +kernel
theorem d_Mo_isTerm_28 : decode c_Mo_isTerm 28 = .ok (.aload_n 0, 1) := by decide +kernel
theorem d_Mo_isTerm_29 : decode c_Mo_isTerm 29 = .ok (.getfield 125, 3) := by decide +kernel
theorem d_Mo_isTerm_32 : decode c_Mo_isTerm 32 = .ok (.isub, 1) := by decide +kernel
theorem d_Mo_isTerm_33 : decode c_Mo_isTerm 33 = .ok (.iconst 2, 1) := by decide +kernel
theorem d_Mo_isTerm_34 : decode c_Mo_isTerm 34 = .ok (.if_icmp .ne 76, 3) := by decide +kernel
theorem d_Mo_isTerm_37 : decode c_Mo_isTerm 37 = .ok (.aload_n 0, 1) := by decide +kernel
theorem d_Mo_isTerm_38 : decode c_Mo_isTerm 38 = .ok (.getfield 44, 3) := by decide +kernel
theorem d_Mo_isTerm_41 : decode c_Mo_isTerm 41 = .ok (.aload_n 0, 1) := by decide +kernel
theorem d_Mo_isTerm_42 : decode c_Mo_isTerm 42 = .ok (.getfield 125, 3) := by decide +kernel
theorem d_Mo_isTerm_45 : decode c_Mo_isTerm 45 = .ok (.iaload, 1) := by decide +kernel
theorem d_Mo_isTerm_46 : decode c_Mo_isTerm 46 = .ok (.bipush 102, 2) := by decide +kernel
theorem d_Mo_isTerm_48 : decode c_Mo_isTerm 48 = .ok (.if_icmp .ne 62, 3) := by decide +kernel
theorem d_Mo_isTerm_51 : decode c_Mo_isTerm 51 = .ok (.aload_n 0, 1) := by decide +kernel
theorem d_Mo_isTerm_52 : decode c_Mo_isTerm 52 = .ok (.getfield 44, 3) := by decide +kernel
theorem d_Mo_isTerm_55 : decode c_Mo_isTerm 55 = .ok (.aload_n 0, 1) := by decide +kernel
theorem d_Mo_isTerm_56 : decode c_Mo_isTerm 56 = .ok (.getfield 125, 3) := by decide +kernel
theorem d_Mo_isTerm_59 : decode c_Mo_isTerm 59 = .ok (.iconst 1, 1) := by decide +kernel
theorem d_Mo_isTerm_60 : decode c_Mo_isTerm 60 = .ok (.iadd, 1) := by decide +kernel
theorem d_Mo_isTerm_61 : decode c_Mo_isTerm 61 = .ok (.iaload, 1) := by decide +kernel
theorem d_Mo_isTerm_62 : decode c_Mo_isTerm 62 = .ok (.bipush 47, 2) := by decide +kernel
theorem d_Mo_isTerm_64 : decode c_Mo_isTerm 64 = .ok (.if_icmp .le 46, 3) := by decide +kernel
theorem d_Mo_isTerm_67 : decode c_Mo_isTerm 67 = .ok (.aload_n 0, 1) := by decide +kernel
theorem d_Mo_isTerm_68 : decode c_Mo_isTerm 68 = .ok (.getfield 44, 3) := by decide +kernel
theorem d_Mo_isTerm_71 : decode c_Mo_isTerm 71 = .ok (.aload_n 0, 1) := by decide +kernel
theorem d_Mo_isTerm_72 : decode c_Mo_isTerm 72 = .ok (.getfield 125, 3) := by decide +kernel
theorem d_Mo_isTerm_75 : decode c_Mo_isTerm 75 = .ok (.iconst 1, 1) := by decide +kernel
theorem d_Mo_isTerm_76 : decode c_Mo_isTerm 76 = .ok (.iadd, 1) := by decide +kernel
theorem d_Mo_isTerm_77 : decode c_Mo_isTerm 77 = .ok (.iaload, 1) := by decide +kernel
theorem d_Mo_isTerm_78 : decode c_Mo_isTerm 78 = .ok (.bipush 56, 2) := by decide +kernel
theorem d_Mo_isTerm_80 : decode c_Mo_isTerm 80 = .ok (.if_icmp .ge 30, 3) := by decide +kernel
theorem d_Mo_isTerm_83 : decode c_Mo_isTerm 83 = .ok (.iload_n 1, 1) := by decide +kernel
theorem d_Mo_isTerm_84 : decode c_Mo_isTerm 84 = .ok (.iconst 1, 1) := by decide +kernel
theorem d_Mo_isTerm_85 : decode c_Mo_isTerm 85 = .ok (.if_icmp .eq 25, 3) := by decide +kernel
theorem d_Mo_isTerm_88 : decode c_Mo_isTerm 88 = .ok (.aload_n 0, 1) := by decide +kernel
theorem d_Mo_isTerm_89 : decode c_Mo_isTerm 89 = .ok (.iconst 1, 1) := by decide +kernel
theorem d_Mo_isTerm_90 : decode c_Mo_isTerm 90 = .ok (.aload_n 0, 1) := by decide +kernel
theorem d_Mo_isTerm_91 : decode c_Mo_isTerm 91 = .ok (.getfield 44, 3) := by decide +kernel
theorem d_Mo_isTerm_94 : decode c_Mo_isTerm 94 = .ok (.aload_n 0, 1) := by decide +kernel
theorem d_Mo_isTerm_95 : decode c_Mo_isTerm 95 = .ok (.getfield 125, 3) := by decide +kernel
end
section
theorem d_Mo_isTerm_98 : decode c_Mo_isTerm 98 = .ok (.iconst 1, 1) := by decide +kernel
theorem d_Mo_isTerm_99 : decode c_Mo_isTerm 99 = .ok (.iadd, 1) := by decide +kernel
theorem d_Mo_isTerm_100 : decode c_Mo_isTerm 100 = .ok (.iaload, 1) := by decide +kernel
theorem d_Mo_isTerm_101 : decode c_Mo_isTerm 101 = .ok (.bipush 48, 2) := by decide +kernel
theorem d_Mo_isTerm_103 : decode c_Mo_isTerm 103 = .ok (.isub, 1) := by decide +kernel
theorem d_Mo_isTerm_104 : decode c_Mo_isTerm 104 = .ok (.invokevirtual 141, 3) := by decide +kernel
theorem d_Mo_isTerm_107 : decode c_Mo_isTerm 107 = .ok (.goto 156, 3) := by decide +kernel
theorem d_Mo_isTerm_110 : decode c_Mo_isTerm 110 = .ok (.lload_n 2, 1) := by decide +kernel
theorem d_Mo_isTerm_111 : decode c_Mo_isTerm 111 = .ok (.bipush 112, 2) := by decide +kernel
theorem d_Mo_isTerm_113 : decode c_Mo_isTerm 113 = .ok (.bipush 105, 2) := by decide +kernel
theorem d_Mo_isTerm_115 : decode c_Mo_isTerm 115 = .ok (.bipush 110, 2) := by decide +kernel
theorem d_Mo_isTerm_117 : decode c_Mo_isTerm 117 = .ok (.bipush 115, 2) := by decide +kernel
theorem d_Mo_isTerm_119 : decode c_Mo_isTerm 119 = .ok (.iconst 0, 1) := by decide +kernel
theorem d_Mo_isTerm_120 : decode c_Mo_isTerm 120 = .ok (.invokestatic 157, 3) := by decide +kernel
theorem d_Mo_isTerm_123 : decode c_Mo_isTerm 123 = .ok (.lcmp, 1) := by decide +kernel
theorem d_Mo_isTerm_124 : decode c_Mo_isTerm 124 = .ok (.ifCond .ne 17, 3) := by decide +kernel
theorem d_Mo_isTerm_127 : decode c_Mo_isTerm 127 = .ok (.iload_n 1, 1) := by decide +kernel
theorem d_Mo_isTerm_128 : decode c_Mo_isTerm 128 = .ok (.iconst 2, 1) := by decide +kernel
theorem d_Mo_isTerm_129 : decode c_Mo_isTerm 129 = .ok (.if_icmp .eq 12, 3) := by decide +kernel
theorem d_Mo_isTerm_132 : decode c_Mo_isTerm 132 = .ok (.aload_n 0, 1) := by decide +kernel
theorem d_Mo_isTerm_133 : decode c_Mo_isTerm 133 = .ok (.iconst 2, 1) := by decide +kernel
theorem d_Mo_isTerm_134 : decode c_Mo_isTerm 134 = .ok (.iconst 0, 1) := by decide +kernel
theorem d_Mo_isTerm_135 : decode c_Mo_isTerm 135 = .ok (.invokevirtual 141, 3) := by decide +kernel
theorem d_Mo_isTerm_138 : decode c_Mo_isTerm 138 = .ok (.goto 125, 3) := by decide +kernel
theorem d_Mo_isTerm_141 : decode c_Mo_isTerm 141 = .ok (.lload_n 2, 1) := by decide +kernel
theorem d_Mo_isTerm_142 : decode c_Mo_isTerm 142 = .ok (.bipush 107, 2) := by decide +kernel
theorem d_Mo_isTerm_144 : decode c_Mo_isTerm 144 = .ok (.bipush 105, 2) := by decide +kernel
theorem d_Mo_isTerm_146 : decode c_Mo_isTerm 146 = .ok (.bipush 110, 2) := by decide +kernel
theorem d_Mo_isTerm_148 : decode c_Mo_isTerm 148 = .ok (.bipush 100, 2) := by decide +kernel
theorem d_Mo_isTerm_150 : decode c_Mo_isTerm 150 = .ok (.iconst 0, 1) := by decide +kernel
theorem d_Mo_isTerm_151 : decode c_Mo_isTerm 151 = .ok (.invokestatic 157, 3) := by decide +kernel
theorem d_Mo_isTerm_154 : decode c_Mo_isTerm 154 = .ok (.lcmp, 1) := by decide +kernel
theorem d_Mo_isTerm_155 : decode c_Mo_isTerm 155 = .ok (.ifCond .ne 17, 3) := by decide +kernel
theorem d_Mo_isTerm_158 : decode c_Mo_isTerm 158 = .ok (.iload_n 1, 1) := by decide +kernel
theorem d_Mo_isTerm_159 : decode c_Mo_isTerm 159 = .ok (.iconst 2, 1) := by decide +kernel
theorem d_Mo_isTerm_160 : decode c_Mo_isTerm 160 = .ok (.if_icmp .ne 12, 3) := by decide +kernel
theorem d_Mo_isTerm_163 : decode c_Mo_isTerm 163 = .ok (.aload_n 0, 1) := by decide +kernel
theorem d_Mo_isTerm_164 : decode c_Mo_isTerm 164 = .ok (.iconst 3, 1) := by decide +kernel
theorem d_Mo_isTerm_165 : decode c_Mo_isTerm 165 = .ok (.iconst 0, 1) := by decide +kernel
theorem d_Mo_isTerm_166 : decode c_Mo_isTerm 166 = .ok (.invokevirtual 141, 3) := by decide +kernel
theorem d_Mo_isTerm_169 : decode c_Mo_isTerm 169 = .ok (.goto 94, 3) := by decide +kernel
theorem d_Mo_isTerm_172 : decode c_Mo_isTerm 172 = .ok (.lload_n 2, 1) := by decide +kernel
theorem d_Mo_isTerm_173 : decode c_Mo_isTerm 173 = .ok (.bipush 110, 2) := by decide +kernel
theorem d_Mo_isTerm_175 : decode c_Mo_isTerm 175 = .ok (.bipush 97, 2) := by decide +kernel
theorem d_Mo_isTerm_177 : decode c_Mo_isTerm 177 = .ok (.bipush 109, 2) := by decide +kernel
theorem d_Mo_isTerm_179 : decode c_Mo_isTerm 179 = .ok (.bipush 101, 2) := by decide +kernel
theorem d_Mo_isTerm_181 : decode c_Mo_isTerm 181 = .ok (.iconst 0, 1) := by decide +kernel
theorem d_Mo_isTerm_182 : decode c_Mo_isTerm 182 = .ok (.invokestatic 157, 3) := by decide +kernel
theorem d_Mo_isTerm_185 : decode c_Mo_isTerm 185 = .ok (.lcmp, 1) := by decide +kernel
theorem d_Mo_isTerm_186 : decode c_Mo_isTerm 186 = .ok (.ifCond .ne 16, 3) := by decide +kernel
theorem d_Mo_isTerm_189 : decode c_Mo_isTerm 189 = .ok (.iload_n 1, 1) := by decide +kernel
theorem d_Mo_isTerm_190 : decode c_Mo_isTerm 190 = .ok (.ifCond .eq 12, 3) := by decide +kernel
theorem d_Mo_isTerm_193 : decode c_Mo_isTerm 193 = .ok (.aload_n 0, 1) := by decide +kernel
theorem d_Mo_isTerm_194 : decode c_Mo_isTerm 194 = .ok (.iconst 4, 1) := by decide +kernel
theorem d_Mo_isTerm_195 : decode c_Mo_isTerm 195 = .ok (.iconst 0, 1) := by decide +kernel
theorem d_Mo_isTerm_196 : decode c_Mo_isTerm 196 = .ok (.invokevirtual 141, 3) := by decide +kernel
theorem d_Mo_isTerm_199 : decode c_Mo_isTerm 199 = .ok (.goto 64, 3) := by decide +kernel
theorem d_Mo_isTerm_202 : decode c_Mo_isTerm 202 = .ok (.lload_n 2, 1) := by decide +kernel
theorem d_Mo_isTerm_203 : decode c_Mo_isTerm 203 = .ok (.bipush 115, 2) := by decide +kernel
theorem d_Mo_isTerm_205 : decode c_Mo_isTerm 205 = .ok (.bipush 104, 2) := by decide +kernel
theorem d_Mo_isTerm_207 : decode c_Mo_isTerm 207 = .ok (.bipush 101, 2) := by decide +kernel
theorem d_Mo_isTerm_209 : decode c_Mo_isTerm 209 = .ok (.bipush 101, 2) := by decide +kernel
theorem d_Mo_isTerm_211 : decode c_Mo_isTerm 211 = .ok (.bipush 116, 2) := by decide +kernel
theorem d_Mo_isTerm_213 : decode c_Mo_isTerm 213 = .ok (.invokestatic 157, 3) := by decide +kernel
theorem d_Mo_isTerm_216 : decode c_Mo_isTerm 216 = .ok (.lcmp, 1) := by decide +kernel
theorem d_Mo_isTerm_217 : decode c_Mo_isTerm 217 = .ok (.ifCond .ne 12, 3) := by decide +kernel
theorem d_Mo_isTerm_220 : decode c_Mo_isTerm 220 = .ok (.aload_n 0, 1) := by decide +kernel
theorem d_Mo_isTerm_221 : decode c_Mo_isTerm 221 = .ok (.iconst 5, 1) := by decide +kernel
theorem d_Mo_isTerm_222 : decode c_Mo_isTerm 222 = .ok (.iconst 0, 1) := by decide +kernel
theorem d_Mo_isTerm_223 : decode c_Mo_isTerm 223 = .ok (.invokevirtual 141, 3) := by decide +kernel
theorem d_Mo_isTerm_226 : decode c_Mo_isTerm 226 = .ok (.goto 37, 3) := by decide +kernel
theorem d_Mo_isTerm_229 : decode c_Mo_isTerm 229 = .ok (.lload_n 2, 1) := by decide +kernel
theorem d_Mo_isTerm_230 : decode c_Mo_isTerm 230 = .ok (.bipush 97, 2) := by decide +kernel
theorem d_Mo_isTerm_232 : decode c_Mo_isTerm 232 = .ok (.bipush 110, 2) := by decide +kernel
theorem d_Mo_isTerm_234 : decode c_Mo_isTerm 234 = .ok (.bipush 121, 2) := by decide +kernel
theorem d_Mo_isTerm_236 : decode c_Mo_isTerm 236 = .ok (.iconst 0, 1) := by decide +kernel
theorem d_Mo_isTerm_237 : decode c_Mo_isTerm 237 = .ok (.iconst 0, 1) := by decide +kernel
theorem d_Mo_isTerm_238 : decode c_Mo_isTerm 238 = .ok (.invokestatic 157, 3) := by decide +kernel
theorem d_Mo_isTerm_241 : decode c_Mo_isTerm 241 = .ok (.lcmp, 1) := by decide +kernel
theorem d_Mo_isTerm_242 : decode c_Mo_isTerm 242 = .ok (.ifCond .ne 19, 3) := by decide +kernel
theorem d_Mo_isTerm_245 : decode c_Mo_isTerm 245 = .ok (.iload_n 1, 1) := by decide +kernel
theorem d_Mo_isTerm_246 : decode c_Mo_isTerm 246 = .ok (.iconst 2, 1) := by decide +kernel
theorem d_Mo_isTerm_247 : decode c_Mo_isTerm 247 = .ok (.if_icmp .eq 14, 3) := by decide +kernel
theorem d_Mo_isTerm_250 : decode c_Mo_isTerm 250 = .ok (.aload_n 0, 1) := by decide +kernel
theorem d_Mo_isTerm_251 : decode c_Mo_isTerm 251 = .ok (.invokevirtual 161, 3) := by decide +kernel
theorem d_Mo_isTerm_254 : decode c_Mo_isTerm 254 = .ok (.ifCond .eq 7, 3) := by decide +kernel
theorem d_Mo_isTerm_257 : decode c_Mo_isTerm 257 = .ok (.iconst 1, 1) := by decide +kernel
theorem d_Mo_isTerm_258 : decode c_Mo_isTerm 258 = .ok (.goto 4, 3) := by decide +kernel
theorem d_Mo_isTerm_261 : decode c_Mo_isTerm 261 = .ok (.iconst 0, 1) := by decide +kernel
theorem d_Mo_isTerm_262 : decode c_Mo_isTerm 262 = .ok (.ireturn, 1) := by decide +kernel
theorem d_Mo_isTerm_263 : decode c_Mo_isTerm 263 = .ok (.iconst 1, 1) := by decide +kernel
theorem d_Mo_isTerm_264 : decode c_Mo_isTerm 264 = .ok (.ireturn, 1) := by decide +kernel
abbrev c_Mo_isNumber : ByteArray := prog_14_method_18_code
abbrev r_Mo_isNumber : Option FieldType := (some FieldType.boolean)
def y_Mo_isNumber : MethodName := ⟨"PinKindChecksModel", "isNumber", "()Z"⟩
theorem d_Mo_isNumber_0 : decode c_Mo_isNumber 0 = .ok (.aload_n 0, 1) := by decide +kernel
theorem d_Mo_isNumber_1 : decode c_Mo_isNumber 1 = .ok (.getfield 122, 3) := by decide +kernel
theorem d_Mo_isNumber_4 : decode c_Mo_isNumber 4 = .ok (.aload_n 0, 1) := by decide +kernel
theorem d_Mo_isNumber_5 : decode c_Mo_isNumber 5 = .ok (.getfield 125, 3) := by decide +kernel
theorem d_Mo_isNumber_8 : decode c_Mo_isNumber 8 = .ok (.isub, 1) := by decide +kernel
theorem d_Mo_isNumber_9 : decode c_Mo_isNumber 9 = .ok (.bipush 10, 2) := by decide +kernel
theorem d_Mo_isNumber_11 : decode c_Mo_isNumber 11 = .ok (.if_icmp .ge 7, 3) := by decide +kernel
theorem d_Mo_isNumber_14 : decode c_Mo_isNumber 14 = .ok (.iconst 1, 1) := by decide +kernel
theorem d_Mo_isNumber_15 : decode c_Mo_isNumber 15 = .ok (.goto 4, 3) := by decide +kernel
theorem d_Mo_isNumber_18 : decode c_Mo_isNumber 18 = .ok (.iconst 0, 1) := by decide +kernel
theorem d_Mo_isNumber_19 : decode c_Mo_isNumber 19 = .ok (.istore_n 1, 1) := by decide +kernel
theorem d_Mo_isNumber_20 : decode c_Mo_isNumber 20 = .ok (.aload_n 0, 1) := by decide +kernel
theorem d_Mo_isNumber_21 : decode c_Mo_isNumber 21 = .ok (.getfield 125, 3) := by decide +kernel
theorem d_Mo_isNumber_24 : decode c_Mo_isNumber 24 = .ok (.istore_n 2, 1) := by decide +kernel
theorem d_Mo_isNumber_25 : decode c_Mo_isNumber 25 = .ok (.iload_n 2, 1) := by decide +kernel
theorem d_Mo_isNumber_26 : decode c_Mo_isNumber 26 = .ok (.aload_n 0, 1) := by decide +kernel
theorem d_Mo_isNumber_27 : decode c_Mo_isNumber 27 = .ok (.getfield 122, 3) := by decide +kernel
theorem d_Mo_isNumber_30 : decode c_Mo_isNumber 30 = .ok (.if_icmp .ge 41, 3) := by decide +kernel
theorem d_Mo_isNumber_33 : decode c_Mo_isNumber 33 = .ok (.iload_n 1, 1) := by decide +kernel
theorem d_Mo_isNumber_34 : decode c_Mo_isNumber 34 = .ok (.ifCond .eq 29, 3) := by decide +kernel
theorem d_Mo_isNumber_37 : decode c_Mo_isNumber 37 = .ok (.aload_n 0, 1) := by decide +kernel
theorem d_Mo_isNumber_38 : decode c_Mo_isNumber 38 = .ok (.getfield 44, 3) := by decide +kernel
theorem d_Mo_isNumber_41 : decode c_Mo_isNumber 41 = .ok (.iload_n 2, 1) := by decide +kernel
theorem d_Mo_isNumber_42 : decode c_Mo_isNumber 42 = .ok (.iaload, 1) := by decide +kernel
theorem d_Mo_isNumber_43 : decode c_Mo_isNumber 43 = .ok (.bipush 48, 2) := by decide +kernel
theorem d_Mo_isNumber_45 : decode c_Mo_isNumber 45 = .ok (.if_icmp .lt 18, 3) := by decide +kernel
theorem d_Mo_isNumber_48 : decode c_Mo_isNumber 48 = .ok (.aload_n 0, 1) := by decide +kernel
theorem d_Mo_isNumber_49 : decode c_Mo_isNumber 49 = .ok (.getfield 44, 3) := by decide +kernel
theorem d_Mo_isNumber_52 : decode c_Mo_isNumber 52 = .ok (.iload_n 2, 1) := by decide +kernel
theorem d_Mo_isNumber_53 : decode c_Mo_isNumber 53 = .ok (.iaload, 1) := by decide +kernel
theorem d_Mo_isNumber_54 : decode c_Mo_isNumber 54 = .ok (.bipush 58, 2) := by decide +kernel
theorem d_Mo_isNumber_56 : decode c_Mo_isNumber 56 = .ok (.if_icmp .ge 7, 3) := by decide +kernel
theorem d_Mo_isNumber_59 : decode c_Mo_isNumber 59 = .ok (.iconst 1, 1) := by decide +kernel
theorem d_Mo_isNumber_60 : decode c_Mo_isNumber 60 = .ok (.goto 4, 3) := by decide +kernel
theorem d_Mo_isNumber_63 : decode c_Mo_isNumber 63 = .ok (.iconst 0, 1) := by decide +kernel
theorem d_Mo_isNumber_64 : decode c_Mo_isNumber 64 = .ok (.istore_n 1, 1) := by decide +kernel
theorem d_Mo_isNumber_65 : decode c_Mo_isNumber 65 = .ok (.iinc 2 1, 3) := by decide +kernel
theorem d_Mo_isNumber_68 : decode c_Mo_isNumber 68 = .ok (.goto (-43), 3) := by decide +kernel
theorem d_Mo_isNumber_71 : decode c_Mo_isNumber 71 = .ok (.iload_n 1, 1) := by decide +kernel
theorem d_Mo_isNumber_72 : decode c_Mo_isNumber 72 = .ok (.ireturn, 1) := by decide +kernel
abbrev c_Mo_value : ByteArray := prog_14_method_19_code
abbrev r_Mo_value : Option FieldType := (some FieldType.int)
def y_Mo_value : MethodName := ⟨"PinKindChecksModel", "value", "()I"⟩
theorem d_Mo_value_0 : decode c_Mo_value 0 = .ok (.iconst 0, 1) := by decide +kernel
theorem d_Mo_value_1 : decode c_Mo_value 1 = .ok (.istore_n 1, 1) := by decide +kernel
theorem d_Mo_value_2 : decode c_Mo_value 2 = .ok (.aload_n 0, 1) := by decide +kernel
theorem d_Mo_value_3 : decode c_Mo_value 3 = .ok (.getfield 125, 3) := by decide +kernel
theorem d_Mo_value_6 : decode c_Mo_value 6 = .ok (.istore_n 2, 1) := by decide +kernel
theorem d_Mo_value_7 : decode c_Mo_value 7 = .ok (.iload_n 2, 1) := by decide +kernel
theorem d_Mo_value_8 : decode c_Mo_value 8 = .ok (.aload_n 0, 1) := by decide +kernel
theorem d_Mo_value_9 : decode c_Mo_value 9 = .ok (.getfield 122, 3) := by decide +kernel
theorem d_Mo_value_12 : decode c_Mo_value 12 = .ok (.if_icmp .ge 24, 3) := by decide +kernel
theorem d_Mo_value_15 : decode c_Mo_value 15 = .ok (.bipush 10, 2) := by decide +kernel
theorem d_Mo_value_17 : decode c_Mo_value 17 = .ok (.iload_n 1, 1) := by decide +kernel
theorem d_Mo_value_18 : decode c_Mo_value 18 = .ok (.imul, 1) := by decide +kernel
theorem d_Mo_value_19 : decode c_Mo_value 19 = .ok (.aload_n 0, 1) := by decide +kernel
theorem d_Mo_value_20 : decode c_Mo_value 20 = .ok (.getfield 44, 3) := by decide +kernel
theorem d_Mo_value_23 : decode c_Mo_value 23 = .ok (.iload_n 2, 1) := by decide +kernel
theorem d_Mo_value_24 : decode c_Mo_value 24 = .ok (.iaload, 1) := by decide +kernel
theorem d_Mo_value_25 : decode c_Mo_value 25 = .ok (.iadd, 1) := by decide +kernel
theorem d_Mo_value_26 : decode c_Mo_value 26 = .ok (.bipush 48, 2) := by decide +kernel
theorem d_Mo_value_28 : decode c_Mo_value 28 = .ok (.isub, 1) := by decide +kernel
theorem d_Mo_value_29 : decode c_Mo_value 29 = .ok (.istore_n 1, 1) := by decide +kernel
theorem d_Mo_value_30 : decode c_Mo_value 30 = .ok (.iinc 2 1, 3) := by decide +kernel
theorem d_Mo_value_33 : decode c_Mo_value 33 = .ok (.goto (-26), 3) := by decide +kernel
theorem d_Mo_value_36 : decode c_Mo_value 36 = .ok (.iload_n 1, 1) := by decide +kernel
theorem d_Mo_value_37 : decode c_Mo_value 37 = .ok (.ireturn, 1) := by decide +kernel
abbrev c_Mo_isDigitNext : ByteArray := prog_14_method_25_code
abbrev r_Mo_isDigitNext : Option FieldType := (some FieldType.boolean)
def y_Mo_isDigitNext : MethodName := ⟨"PinKindChecksModel", "isDigitNext", "()Z"⟩
theorem d_Mo_isDigitNext_0 : decode c_Mo_isDigitNext 0 = .ok (.aload_n 0, 1) := by decide +kernel
theorem d_Mo_isDigitNext_1 : decode c_Mo_isDigitNext 1 = .ok (.invokevirtual 164, 3) := by decide +kernel
theorem d_Mo_isDigitNext_4 : decode c_Mo_isDigitNext 4 = .ok (.ifCond .ne 15, 3) := by decide +kernel
theorem d_Mo_isDigitNext_7 : decode c_Mo_isDigitNext 7 = .ok (.aload_n 0, 1) := by decide +kernel
theorem d_Mo_isDigitNext_8 : decode c_Mo_isDigitNext 8 = .ok (.dup, 1) := by decide +kernel
theorem d_Mo_isDigitNext_9 : decode c_Mo_isDigitNext 9 = .ok (.getfield 128, 3) := by decide +kernel
theorem d_Mo_isDigitNext_12 : decode c_Mo_isDigitNext 12 = .ok (.iconst 1, 1) := by decide +kernel
theorem d_Mo_isDigitNext_13 : decode c_Mo_isDigitNext 13 = .ok (.iadd, 1) := by decide +kernel
theorem d_Mo_isDigitNext_14 : decode c_Mo_isDigitNext 14 = .ok (.putfield 128, 3) := by decide +kernel
theorem d_Mo_isDigitNext_17 : decode c_Mo_isDigitNext 17 = .ok (.iconst 0, 1) := by decide +kernel
theorem d_Mo_isDigitNext_18 : decode c_Mo_isDigitNext 18 = .ok (.ireturn, 1) := by decide +kernel
theorem d_Mo_isDigitNext_19 : decode c_Mo_isDigitNext 19 = .ok (.aload_n 0, 1) := by decide +kernel
theorem d_Mo_isDigitNext_20 : decode c_Mo_isDigitNext 20 = .ok (.getfield 122, 3) := by decide +kernel
theorem d_Mo_isDigitNext_23 : decode c_Mo_isDigitNext 23 = .ok (.aload_n 0, 1) := by decide +kernel
theorem d_Mo_isDigitNext_24 : decode c_Mo_isDigitNext 24 = .ok (.getfield 125, 3) := by decide +kernel
theorem d_Mo_isDigitNext_27 : decode c_Mo_isDigitNext 27 = .ok (.isub, 1) := by decide +kernel
theorem d_Mo_isDigitNext_28 : decode c_Mo_isDigitNext 28 = .ok (.iconst 1, 1) := by decide +kernel
theorem d_Mo_isDigitNext_29 : decode c_Mo_isDigitNext 29 = .ok (.if_icmp .ne 10, 3) := by decide +kernel
theorem d_Mo_isDigitNext_32 : decode c_Mo_isDigitNext 32 = .ok (.aload_n 0, 1) := by decide +kernel
theorem d_Mo_isDigitNext_33 : decode c_Mo_isDigitNext 33 = .ok (.invokevirtual 149, 3) := by decide +kernel
theorem d_Mo_isDigitNext_36 : decode c_Mo_isDigitNext 36 = .ok (.ifCond .ne 5, 3) := by decide +kernel
theorem d_Mo_isDigitNext_39 : decode c_Mo_isDigitNext 39 = .ok (.iconst 0, 1) := by decide +kernel
theorem d_Mo_isDigitNext_40 : decode c_Mo_isDigitNext 40 = .ok (.ireturn, 1) := by decide +kernel
theorem d_Mo_isDigitNext_41 : decode c_Mo_isDigitNext 41 = .ok (.aload_n 0, 1) := by decide +kernel
theorem d_Mo_isDigitNext_42 : decode c_Mo_isDigitNext 42 = .ok (.bipush 6, 2) := by decide +kernel
theorem d_Mo_isDigitNext_44 : decode c_Mo_isDigitNext 44 = .ok (.aload_n 0, 1) := by decide +kernel
theorem d_Mo_isDigitNext_45 : decode c_Mo_isDigitNext 45 = .ok (.invokevirtual 153, 3) := by decide +kernel
theorem d_Mo_isDigitNext_48 : decode c_Mo_isDigitNext 48 = .ok (.invokevirtual 141, 3) := by decide +kernel
theorem d_Mo_isDigitNext_51 : decode c_Mo_isDigitNext 51 = .ok (.iconst 1, 1) := by decide +kernel
theorem d_Mo_isDigitNext_52 : decode c_Mo_isDigitNext 52 = .ok (.ireturn, 1) := by decide +kernel
abbrev c_Mo_run : ByteArray := prog_14_method_43_code
abbrev r_Mo_run : Option FieldType := (some FieldType.int)
def y_Mo_run : MethodName := ⟨"PinKindChecksModel", "run", "()I"⟩
theorem d_Mo_run_0 : decode c_Mo_run 0 = .ok (.aload_n 0, 1) := by decide +kernel
theorem d_Mo_run_1 : decode c_Mo_run 1 = .ok (.iconst 0, 1) := by decide +kernel
theorem d_Mo_run_2 : decode c_Mo_run 2 = .ok (.putfield 91, 3) := by decide +kernel
theorem d_Mo_run_5 : decode c_Mo_run 5 = .ok (.iconst 0, 1) := by decide +kernel
theorem d_Mo_run_6 : decode c_Mo_run 6 = .ok (.istore_n 1, 1) := by decide +kernel
theorem d_Mo_run_7 : decode c_Mo_run 7 = .ok (.iload_n 1, 1) := by decide +kernel
theorem d_Mo_run_8 : decode c_Mo_run 8 = .ok (.sipush 6480, 3) := by decide +kernel
theorem d_Mo_run_11 : decode c_Mo_run 11 = .ok (.if_icmp .ge 21, 3) := by decide +kernel
theorem d_Mo_run_14 : decode c_Mo_run 14 = .ok (.aload_n 0, 1) := by decide +kernel
theorem d_Mo_run_15 : decode c_Mo_run 15 = .ok (.getfield 76, 3) := by decide +kernel
theorem d_Mo_run_18 : decode c_Mo_run 18 = .ok (.iload_n 1, 1) := by decide +kernel
theorem d_Mo_run_19 : decode c_Mo_run 19 = .ok (.aload_n 0, 1) := by decide +kernel
theorem d_Mo_run_20 : decode c_Mo_run 20 = .ok (.getfield 70, 3) := by decide +kernel
theorem d_Mo_run_23 : decode c_Mo_run 23 = .ok (.iload_n 1, 1) := by decide +kernel
theorem d_Mo_run_24 : decode c_Mo_run 24 = .ok (.iaload, 1) := by decide +kernel
theorem d_Mo_run_25 : decode c_Mo_run 25 = .ok (.iastore, 1) := by decide +kernel
theorem d_Mo_run_26 : decode c_Mo_run 26 = .ok (.iinc 1 1, 3) := by decide +kernel
theorem d_Mo_run_29 : decode c_Mo_run 29 = .ok (.goto (-22), 3) := by decide +kernel
theorem d_Mo_run_32 : decode c_Mo_run 32 = .ok (.iconst 0, 1) := by decide +kernel
theorem d_Mo_run_33 : decode c_Mo_run 33 = .ok (.istore_n 1, 1) := by decide +kernel
theorem d_Mo_run_34 : decode c_Mo_run 34 = .ok (.iconst 0, 1) := by decide +kernel
theorem d_Mo_run_35 : decode c_Mo_run 35 = .ok (.istore_n 2, 1) := by decide +kernel
theorem d_Mo_run_36 : decode c_Mo_run 36 = .ok (.iload_n 2, 1) := by decide +kernel
theorem d_Mo_run_37 : decode c_Mo_run 37 = .ok (.bipush 27, 2) := by decide +kernel
theorem d_Mo_run_39 : decode c_Mo_run 39 = .ok (.if_icmp .ge 161, 3) := by decide +kernel
theorem d_Mo_run_42 : decode c_Mo_run 42 = .ok (.iconst 0, 1) := by decide +kernel
theorem d_Mo_run_43 : decode c_Mo_run 43 = .ok (.istore_n 3, 1) := by decide +kernel
theorem d_Mo_run_44 : decode c_Mo_run 44 = .ok (.iload_n 3, 1) := by decide +kernel
theorem d_Mo_run_45 : decode c_Mo_run 45 = .ok (.iconst 3, 1) := by decide +kernel
theorem d_Mo_run_46 : decode c_Mo_run 46 = .ok (.if_icmp .ge 148, 3) := by decide +kernel
theorem d_Mo_run_49 : decode c_Mo_run 49 = .ok (.iconst 0, 1) := by decide +kernel
theorem d_Mo_run_50 : decode c_Mo_run 50 = .ok (.istore 4, 2) := by decide +kernel
theorem d_Mo_run_52 : decode c_Mo_run 52 = .ok (.iload 4, 2) := by decide +kernel
theorem d_Mo_run_54 : decode c_Mo_run 54 = .ok (.aload_n 0, 1) := by decide +kernel
theorem d_Mo_run_55 : decode c_Mo_run 55 = .ok (.iload_n 3, 1) := by decide +kernel
theorem d_Mo_run_56 : decode c_Mo_run 56 = .ok (.invokevirtual 252, 3) := by decide +kernel
theorem d_Mo_run_59 : decode c_Mo_run 59 = .ok (.if_icmp .ge 129, 3) := by decide +kernel
theorem d_Mo_run_62 : decode c_Mo_run 62 = .ok (.sipush 240, 3) := by decide +kernel
theorem d_Mo_run_65 : decode c_Mo_run 65 = .ok (.iload_n 2, 1) := by decide +kernel
theorem d_Mo_run_66 : decode c_Mo_run 66 = .ok (.imul, 1) := by decide +kernel
theorem d_Mo_run_67 : decode c_Mo_run 67 = .ok (.iload_n 3, 1) := by decide +kernel
theorem d_Mo_run_68 : decode c_Mo_run 68 = .ok (.iload 4, 2) := by decide +kernel
theorem d_Mo_run_70 : decode c_Mo_run 70 = .ok (.invokestatic 255, 3) := by decide +kernel
theorem d_Mo_run_73 : decode c_Mo_run 73 = .ok (.iadd, 1) := by decide +kernel
theorem d_Mo_run_74 : decode c_Mo_run 74 = .ok (.istore 5, 2) := by decide +kernel
theorem d_Mo_run_76 : decode c_Mo_run 76 = .ok (.iload_n 2, 1) := by decide +kernel
theorem d_Mo_run_77 : decode c_Mo_run 77 = .ok (.bipush 7, 2) := by decide +kernel
theorem d_Mo_run_79 : decode c_Mo_run 79 = .ok (.aload_n 0, 1) := by decide +kernel
theorem d_Mo_run_80 : decode c_Mo_run 80 = .ok (.getfield 210, 3) := by decide +kernel
theorem d_Mo_run_83 : decode c_Mo_run 83 = .ok (.iadd, 1) := by decide +kernel
theorem d_Mo_run_84 : decode c_Mo_run 84 = .ok (.if_icmp .ge 23, 3) := by decide +kernel
theorem d_Mo_run_87 : decode c_Mo_run 87 = .ok (.aload_n 0, 1) := by decide +kernel
theorem d_Mo_run_88 : decode c_Mo_run 88 = .ok (.getfield 62, 3) := by decide +kernel
theorem d_Mo_run_91 : decode c_Mo_run 91 = .ok (.iload_n 2, 1) := by decide +kernel
theorem d_Mo_run_92 : decode c_Mo_run 92 = .ok (.baload, 1) := by decide +kernel
theorem d_Mo_run_93 : decode c_Mo_run 93 = .ok (.ifCond .ne 14, 3) := by decide +kernel
theorem d_Mo_run_96 : decode c_Mo_run 96 = .ok (.aload_n 0, 1) := by decide +kernel
theorem d_Mo_run_97 : decode c_Mo_run 97 = .ok (.iload_n 2, 1) := by decide +kernel
theorem d_Mo_run_98 : decode c_Mo_run 98 = .ok (.iload_n 3, 1) := by decide +kernel
theorem d_Mo_run_99 : decode c_Mo_run 99 = .ok (.iload 4, 2) := by decide +kernel
theorem d_Mo_run_101 : decode c_Mo_run 101 = .ok (.invokevirtual 258, 3) := by decide +kernel
theorem d_Mo_run_104 : decode c_Mo_run 104 = .ok (.goto 4, 3) := by decide +kernel
theorem d_Mo_run_107 : decode c_Mo_run 107 = .ok (.iconst 0, 1) := by decide +kernel
theorem d_Mo_run_108 : decode c_Mo_run 108 = .ok (.istore 6, 2) := by decide +kernel
theorem d_Mo_run_110 : decode c_Mo_run 110 = .ok (.aload_n 0, 1) := by decide +kernel
theorem d_Mo_run_111 : decode c_Mo_run 111 = .ok (.getfield 70, 3) := by decide +kernel
theorem d_Mo_run_114 : decode c_Mo_run 114 = .ok (.iload 5, 2) := by decide +kernel
theorem d_Mo_run_116 : decode c_Mo_run 116 = .ok (.iload 6, 2) := by decide +kernel
theorem d_Mo_run_118 : decode c_Mo_run 118 = .ok (.ifCond .ne 7, 3) := by decide +kernel
theorem d_Mo_run_121 : decode c_Mo_run 121 = .ok (.iconst 0, 1) := by decide +kernel
theorem d_Mo_run_122 : decode c_Mo_run 122 = .ok (.goto 27, 3) := by decide +kernel
theorem d_Mo_run_125 : decode c_Mo_run 125 = .ok (.aload_n 0, 1) := by decide +kernel
theorem d_Mo_run_126 : decode c_Mo_run 126 = .ok (.getfield 76, 3) := by decide +kernel
theorem d_Mo_run_129 : decode c_Mo_run 129 = .ok (.iload 5, 2) := by decide +kernel
theorem d_Mo_run_131 : decode c_Mo_run 131 = .ok (.iaload, 1) := by decide +kernel
theorem d_Mo_run_132 : decode c_Mo_run 132 = .ok (.ifCond .le 13, 3) := by decide +kernel
theorem d_Mo_run_135 : decode c_Mo_run 135 = .ok (.aload_n 0, 1) := by decide +kernel
theorem d_Mo_run_136 : decode c_Mo_run 136 = .ok (.getfield 76, 3) := by decide +kernel
theorem d_Mo_run_139 : decode c_Mo_run 139 = .ok (.iload 5, 2) := by decide +kernel
theorem d_Mo_run_141 : decode c_Mo_run 141 = .ok (.iaload, 1) := by decide +kernel
theorem d_Mo_run_142 : decode c_Mo_run 142 = .ok (.goto 7, 3) := by decide +kernel
theorem d_Mo_run_145 : decode c_Mo_run 145 = .ok (.aload_n 0, 1) := by decide +kernel
theorem d_Mo_run_146 : decode c_Mo_run 146 = .ok (.getfield 66, 3) := by decide +kernel
theorem d_Mo_run_149 : decode c_Mo_run 149 = .ok (.iastore, 1) := by decide +kernel
theorem d_Mo_run_150 : decode c_Mo_run 150 = .ok (.aload_n 0, 1) := by decide +kernel
theorem d_Mo_run_151 : decode c_Mo_run 151 = .ok (.getfield 73, 3) := by decide +kernel
theorem d_Mo_run_154 : decode c_Mo_run 154 = .ok (.iload 5, 2) := by decide +kernel
theorem d_Mo_run_156 : decode c_Mo_run 156 = .ok (.iload 6, 2) := by decide +kernel
theorem d_Mo_run_158 : decode c_Mo_run 158 = .ok (.iastore, 1) := by decide +kernel
theorem d_Mo_run_159 : decode c_Mo_run 159 = .ok (.iload_n 1, 1) := by decide +kernel
theorem d_Mo_run_160 : decode c_Mo_run 160 = .ok (.iload 6, 2) := by decide +kernel
theorem d_Mo_run_162 : decode c_Mo_run 162 = .ok (.ifCond .le 17, 3) := by decide +kernel
theorem d_Mo_run_165 : decode c_Mo_run 165 = .ok (.aload_n 0, 1) := by decide +kernel
theorem d_Mo_run_166 : decode c_Mo_run 166 = .ok (.iload 5, 2) := by decide +kernel
theorem d_Mo_run_168 : decode c_Mo_run 168 = .ok (.invokevirtual 261, 3) := by decide +kernel
theorem d_Mo_run_171 : decode c_Mo_run 171 = .ok (.iconst (-1), 1) := by decide +kernel
theorem d_Mo_run_172 : decode c_Mo_run 172 = .ok (.if_icmp .ne 7, 3) := by decide +kernel
theorem d_Mo_run_175 : decode c_Mo_run 175 = .ok (.iconst 1, 1) := by decide +kernel
theorem d_Mo_run_176 : decode c_Mo_run 176 = .ok (.goto 4, 3) := by decide +kernel
theorem d_Mo_run_179 : decode c_Mo_run 179 = .ok (.iconst 0, 1) := by decide +kernel
theorem d_Mo_run_180 : decode c_Mo_run 180 = .ok (.iadd, 1) := by decide +kernel
theorem d_Mo_run_181 : decode c_Mo_run 181 = .ok (.istore_n 1, 1) := by decide +kernel
theorem d_Mo_run_182 : decode c_Mo_run 182 = .ok (.iinc 4 1, 3) := by decide +kernel
theorem d_Mo_run_185 : decode c_Mo_run 185 = .ok (.goto (-133), 3) := by decide +kernel
theorem d_Mo_run_188 : decode c_Mo_run 188 = .ok (.iinc 3 1, 3) := by decide +kernel
theorem d_Mo_run_191 : decode c_Mo_run 191 = .ok (.goto (-147), 3) := by decide +kernel
theorem d_Mo_run_194 : decode c_Mo_run 194 = .ok (.iinc 2 1, 3) := by decide +kernel
theorem d_Mo_run_197 : decode c_Mo_run 197 = .ok (.goto (-161), 3) := by decide +kernel
theorem d_Mo_run_200 : decode c_Mo_run 200 = .ok (.aload_n 0, 1) := by decide +kernel
theorem d_Mo_run_201 : decode c_Mo_run 201 = .ok (.iconst 1, 1) := by decide +kernel
theorem d_Mo_run_202 : decode c_Mo_run 202 = .ok (.putfield 264, 3) := by decide +kernel
theorem d_Mo_run_205 : decode c_Mo_run 205 = .ok (.iload_n 1, 1) := by decide +kernel
theorem d_Mo_run_206 : decode c_Mo_run 206 = .ok (.ireturn, 1) := by decide +kernel
abbrev c_Mo_many : ByteArray := prog_14_method_41_code
abbrev r_Mo_many : Option FieldType := (some FieldType.int)
def y_Mo_many : MethodName := ⟨"PinKindChecksModel", "many", "(I)I"⟩
theorem d_Mo_many_0 : decode c_Mo_many 0 = .ok (.iload_n 1, 1) := by decide +kernel
theorem d_Mo_many_1 : decode c_Mo_many 1 = .ok (.ifCond .ne 10, 3) := by decide +kernel
theorem d_Mo_many_4 : decode c_Mo_many 4 = .ok (.aload_n 0, 1) := by decide +kernel
theorem d_Mo_many_5 : decode c_Mo_many 5 = .ok (.getfield 97, 3) := by decide +kernel
theorem d_Mo_many_8 : decode c_Mo_many 8 = .ok (.goto 19, 3) := by decide +kernel
theorem d_Mo_many_11 : decode c_Mo_many 11 = .ok (.iload_n 1, 1) := by decide +kernel
theorem d_Mo_many_12 : decode c_Mo_many 12 = .ok (.iconst 1, 1) := by decide +kernel
theorem d_Mo_many_13 : decode c_Mo_many 13 = .ok (.if_icmp .ne 10, 3) := by decide +kernel
theorem d_Mo_many_16 : decode c_Mo_many 16 = .ok (.aload_n 0, 1) := by decide +kernel
theorem d_Mo_many_17 : decode c_Mo_many 17 = .ok (.getfield 94, 3) := by decide +kernel
theorem d_Mo_many_20 : decode c_Mo_many 20 = .ok (.goto 7, 3) := by decide +kernel
theorem d_Mo_many_23 : decode c_Mo_many 23 = .ok (.aload_n 0, 1) := by decide +kernel
theorem d_Mo_many_24 : decode c_Mo_many 24 = .ok (.getfield 113, 3) := by decide +kernel
theorem d_Mo_many_27 : decode c_Mo_many 27 = .ok (.ireturn, 1) := by decide +kernel
abbrev c_Mo_thing : ByteArray := prog_14_method_42_code
abbrev r_Mo_thing : Option FieldType := (some FieldType.int)
def y_Mo_thing : MethodName := ⟨"PinKindChecksModel", "thing", "(II)I"⟩
theorem d_Mo_thing_0 : decode c_Mo_thing 0 = .ok (.iload_n 0, 1) := by decide +kernel
theorem d_Mo_thing_1 : decode c_Mo_thing 1 = .ok (.ifCond .ne 7, 3) := by decide +kernel
theorem d_Mo_thing_4 : decode c_Mo_thing 4 = .ok (.iload_n 1, 1) := by decide +kernel
theorem d_Mo_thing_5 : decode c_Mo_thing 5 = .ok (.goto 19, 3) := by decide +kernel
theorem d_Mo_thing_8 : decode c_Mo_thing 8 = .ok (.iload_n 0, 1) := by decide +kernel
theorem d_Mo_thing_9 : decode c_Mo_thing 9 = .ok (.iconst 1, 1) := by decide +kernel
theorem d_Mo_thing_10 : decode c_Mo_thing 10 = .ok (.if_icmp .ne 10, 3) := by decide +kernel
theorem d_Mo_thing_13 : decode c_Mo_thing 13 = .ok (.bipush 40, 2) := by decide +kernel
theorem d_Mo_thing_15 : decode c_Mo_thing 15 = .ok (.iload_n 1, 1) := by decide +kernel
theorem d_Mo_thing_16 : decode c_Mo_thing 16 = .ok (.iadd, 1) := by decide +kernel
theorem d_Mo_thing_17 : decode c_Mo_thing 17 = .ok (.goto 7, 3) := by decide +kernel
theorem d_Mo_thing_20 : decode c_Mo_thing 20 = .ok (.bipush 80, 2) := by decide +kernel
theorem d_Mo_thing_22 : decode c_Mo_thing 22 = .ok (.iload_n 1, 1) := by decide +kernel
theorem d_Mo_thing_23 : decode c_Mo_thing 23 = .ok (.iadd, 1) := by decide +kernel
theorem d_Mo_thing_24 : decode c_Mo_thing 24 = .ok (.ireturn, 1) := by decide +kernel
abbrev c_Mo_found : ByteArray := prog_14_method_40_code
abbrev r_Mo_found : Option FieldType := (some FieldType.int)
def y_Mo_found : MethodName := ⟨"PinKindChecksModel", "found", "(III)I"⟩
theorem d_Mo_found_0 : decode c_Mo_found 0 = .ok (.iload_n 1, 1) := by decide +kernel
theorem d_Mo_found_1 : decode c_Mo_found 1 = .ok (.bipush 7, 2) := by decide +kernel
theorem d_Mo_found_3 : decode c_Mo_found 3 = .ok (.if_icmp .lt 42, 3) := by decide +kernel
theorem d_Mo_found_6 : decode c_Mo_found 6 = .ok (.aload_n 0, 1) := by decide +kernel
theorem d_Mo_found_7 : decode c_Mo_found 7 = .ok (.getfield 47, 3) := by decide +kernel
theorem d_Mo_found_10 : decode c_Mo_found 10 = .ok (.iload_n 1, 1) := by decide +kernel
theorem d_Mo_found_11 : decode c_Mo_found 11 = .ok (.bipush 7, 2) := by decide +kernel
theorem d_Mo_found_13 : decode c_Mo_found 13 = .ok (.isub, 1) := by decide +kernel
theorem d_Mo_found_14 : decode c_Mo_found 14 = .ok (.iaload, 1) := by decide +kernel
theorem d_Mo_found_15 : decode c_Mo_found 15 = .ok (.iload_n 2, 1) := by decide +kernel
theorem d_Mo_found_16 : decode c_Mo_found 16 = .ok (.if_icmp .ne 27, 3) := by decide +kernel
theorem d_Mo_found_19 : decode c_Mo_found 19 = .ok (.aload_n 0, 1) := by decide +kernel
theorem d_Mo_found_20 : decode c_Mo_found 20 = .ok (.iload_n 1, 1) := by decide +kernel
theorem d_Mo_found_21 : decode c_Mo_found 21 = .ok (.bipush 7, 2) := by decide +kernel
theorem d_Mo_found_23 : decode c_Mo_found 23 = .ok (.isub, 1) := by decide +kernel
theorem d_Mo_found_24 : decode c_Mo_found 24 = .ok (.iload_n 3, 1) := by decide +kernel
theorem d_Mo_found_25 : decode c_Mo_found 25 = .ok (.invokevirtual 239, 3) := by decide +kernel
theorem d_Mo_found_28 : decode c_Mo_found 28 = .ok (.ifCond .eq 15, 3) := by decide +kernel
theorem d_Mo_found_31 : decode c_Mo_found 31 = .ok (.aload_n 0, 1) := by decide +kernel
theorem d_Mo_found_32 : decode c_Mo_found 32 = .ok (.getfield 50, 3) := by decide +kernel
theorem d_Mo_found_35 : decode c_Mo_found 35 = .ok (.iload_n 1, 1) := by decide +kernel
theorem d_Mo_found_36 : decode c_Mo_found 36 = .ok (.bipush 7, 2) := by decide +kernel
theorem d_Mo_found_38 : decode c_Mo_found 38 = .ok (.isub, 1) := by decide +kernel
theorem d_Mo_found_39 : decode c_Mo_found 39 = .ok (.iaload, 1) := by decide +kernel
theorem d_Mo_found_40 : decode c_Mo_found 40 = .ok (.goto 4, 3) := by decide +kernel
theorem d_Mo_found_43 : decode c_Mo_found 43 = .ok (.iconst 0, 1) := by decide +kernel
theorem d_Mo_found_44 : decode c_Mo_found 44 = .ok (.ireturn, 1) := by decide +kernel
theorem d_Mo_found_45 : decode c_Mo_found 45 = .ok (.iload_n 2, 1) := by decide +kernel
theorem d_Mo_found_46 : decode c_Mo_found 46 = .ok (.iconst 2, 1) := by decide +kernel
theorem d_Mo_found_47 : decode c_Mo_found 47 = .ok (.if_icmp .ne 51, 3) := by decide +kernel
theorem d_Mo_found_50 : decode c_Mo_found 50 = .ok (.iload_n 1, 1) := by decide +kernel
theorem d_Mo_found_51 : decode c_Mo_found 51 = .ok (.ifCond .ne 32, 3) := by decide +kernel
theorem d_Mo_found_54 : decode c_Mo_found 54 = .ok (.aload_n 0, 1) := by decide +kernel
theorem d_Mo_found_55 : decode c_Mo_found 55 = .ok (.getfield 29, 3) := by decide +kernel
theorem d_Mo_found_58 : decode c_Mo_found 58 = .ok (.iload_n 3, 1) := by decide +kernel
theorem d_Mo_found_59 : decode c_Mo_found 59 = .ok (.iaload, 1) := by decide +kernel
theorem d_Mo_found_60 : decode c_Mo_found 60 = .ok (.iconst (-1), 1) := by decide +kernel
theorem d_Mo_found_61 : decode c_Mo_found 61 = .ok (.if_icmp .ne 18, 3) := by decide +kernel
theorem d_Mo_found_64 : decode c_Mo_found 64 = .ok (.aload_n 0, 1) := by decide +kernel
theorem d_Mo_found_65 : decode c_Mo_found 65 = .ok (.getfield 32, 3) := by decide +kernel
theorem d_Mo_found_68 : decode c_Mo_found 68 = .ok (.iload_n 3, 1) := by decide +kernel
theorem d_Mo_found_69 : decode c_Mo_found 69 = .ok (.iaload, 1) := by decide +kernel
theorem d_Mo_found_70 : decode c_Mo_found 70 = .ok (.bipush 9, 2) := by decide +kernel
theorem d_Mo_found_72 : decode c_Mo_found 72 = .ok (.if_icmp .eq 7, 3) := by decide +kernel
theorem d_Mo_found_75 : decode c_Mo_found 75 = .ok (.iconst 2, 1) := by decide +kernel
theorem d_Mo_found_76 : decode c_Mo_found 76 = .ok (.goto 21, 3) := by decide +kernel
theorem d_Mo_found_79 : decode c_Mo_found 79 = .ok (.iconst 0, 1) := by decide +kernel
theorem d_Mo_found_80 : decode c_Mo_found 80 = .ok (.goto 17, 3) := by decide +kernel
theorem d_Mo_found_83 : decode c_Mo_found 83 = .ok (.iload_n 1, 1) := by decide +kernel
theorem d_Mo_found_84 : decode c_Mo_found 84 = .ok (.iconst 1, 1) := by decide +kernel
theorem d_Mo_found_85 : decode c_Mo_found 85 = .ok (.if_icmp .ne 11, 3) := by decide +kernel
theorem d_Mo_found_88 : decode c_Mo_found 88 = .ok (.aload_n 0, 1) := by decide +kernel
theorem d_Mo_found_89 : decode c_Mo_found 89 = .ok (.iload_n 3, 1) := by decide +kernel
theorem d_Mo_found_90 : decode c_Mo_found 90 = .ok (.invokevirtual 243, 3) := by decide +kernel
theorem d_Mo_found_93 : decode c_Mo_found 93 = .ok (.goto 4, 3) := by decide +kernel
theorem d_Mo_found_96 : decode c_Mo_found 96 = .ok (.iconst 0, 1) := by decide +kernel
theorem d_Mo_found_97 : decode c_Mo_found 97 = .ok (.ireturn, 1) := by decide +kernel
theorem d_Mo_found_98 : decode c_Mo_found 98 = .ok (.iload_n 2, 1) := by decide +kernel
theorem d_Mo_found_99 : decode c_Mo_found 99 = .ok (.ifCond .ne 5, 3) := by decide +kernel
theorem d_Mo_found_102 : decode c_Mo_found 102 = .ok (.iconst 0, 1) := by decide +kernel
theorem d_Mo_found_103 : decode c_Mo_found 103 = .ok (.ireturn, 1) := by decide +kernel
theorem d_Mo_found_104 : decode c_Mo_found 104 = .ok (.iload_n 1, 1) := by decide +kernel
theorem d_Mo_found_105 : decode c_Mo_found 105 = .ok (.tableswitch 123 2 6 #[35, 52, 78, 95, 109], 35) := by decide +kernel
theorem d_Mo_found_140 : decode c_Mo_found 140 = .ok (.aload_n 0, 1) := by decide +kernel
theorem d_Mo_found_141 : decode c_Mo_found 141 = .ok (.iconst 1, 1) := by decide +kernel
theorem d_Mo_found_142 : decode c_Mo_found 142 = .ok (.iload_n 3, 1) := by decide +kernel
theorem d_Mo_found_143 : decode c_Mo_found 143 = .ok (.iconst 1, 1) := by decide +kernel
theorem d_Mo_found_144 : decode c_Mo_found 144 = .ok (.invokevirtual 220, 3) := by decide +kernel
theorem d_Mo_found_147 : decode c_Mo_found 147 = .ok (.iconst 1, 1) := by decide +kernel
theorem d_Mo_found_148 : decode c_Mo_found 148 = .ok (.if_icmp .le 7, 3) := by decide +kernel
theorem d_Mo_found_151 : decode c_Mo_found 151 = .ok (.iconst 2, 1) := by decide +kernel
theorem d_Mo_found_152 : decode c_Mo_found 152 = .ok (.goto 4, 3) := by decide +kernel
theorem d_Mo_found_155 : decode c_Mo_found 155 = .ok (.iconst 0, 1) := by decide +kernel
theorem d_Mo_found_156 : decode c_Mo_found 156 = .ok (.ireturn, 1) := by decide +kernel
theorem d_Mo_found_157 : decode c_Mo_found 157 = .ok (.aload_n 0, 1) := by decide +kernel
theorem d_Mo_found_158 : decode c_Mo_found 158 = .ok (.iconst 1, 1) := by decide +kernel
theorem d_Mo_found_159 : decode c_Mo_found 159 = .ok (.iload_n 3, 1) := by decide +kernel
theorem d_Mo_found_160 : decode c_Mo_found 160 = .ok (.iconst 3, 1) := by decide +kernel
theorem d_Mo_found_161 : decode c_Mo_found 161 = .ok (.invokevirtual 220, 3) := by decide +kernel
theorem d_Mo_found_164 : decode c_Mo_found 164 = .ok (.ifCond .le 17, 3) := by decide +kernel
theorem d_Mo_found_167 : decode c_Mo_found 167 = .ok (.aload_n 0, 1) := by decide +kernel
theorem d_Mo_found_168 : decode c_Mo_found 168 = .ok (.iconst 1, 1) := by decide +kernel
theorem d_Mo_found_169 : decode c_Mo_found 169 = .ok (.iload_n 3, 1) := by decide +kernel
theorem d_Mo_found_170 : decode c_Mo_found 170 = .ok (.iconst 4, 1) := by decide +kernel
theorem d_Mo_found_171 : decode c_Mo_found 171 = .ok (.invokevirtual 220, 3) := by decide +kernel
theorem d_Mo_found_174 : decode c_Mo_found 174 = .ok (.ifCond .ne 7, 3) := by decide +kernel
theorem d_Mo_found_177 : decode c_Mo_found 177 = .ok (.iconst 2, 1) := by decide +kernel
theorem d_Mo_found_178 : decode c_Mo_found 178 = .ok (.goto 4, 3) := by decide +kernel
theorem d_Mo_found_181 : decode c_Mo_found 181 = .ok (.iconst 0, 1) := by decide +kernel
theorem d_Mo_found_182 : decode c_Mo_found 182 = .ok (.ireturn, 1) := by decide +kernel
theorem d_Mo_found_183 : decode c_Mo_found 183 = .ok (.aload_n 0, 1) := by decide +kernel
theorem d_Mo_found_184 : decode c_Mo_found 184 = .ok (.iconst 1, 1) := by decide +kernel
theorem d_Mo_found_185 : decode c_Mo_found 185 = .ok (.iload_n 3, 1) := by decide +kernel
theorem d_Mo_found_186 : decode c_Mo_found 186 = .ok (.iconst (-1), 1) := by decide +kernel
theorem d_Mo_found_187 : decode c_Mo_found 187 = .ok (.invokevirtual 220, 3) := by decide +kernel
theorem d_Mo_found_190 : decode c_Mo_found 190 = .ok (.iconst 1, 1) := by decide +kernel
theorem d_Mo_found_191 : decode c_Mo_found 191 = .ok (.if_icmp .ne 7, 3) := by decide +kernel
theorem d_Mo_found_194 : decode c_Mo_found 194 = .ok (.iconst 1, 1) := by decide +kernel
theorem d_Mo_found_195 : decode c_Mo_found 195 = .ok (.goto 4, 3) := by decide +kernel
theorem d_Mo_found_198 : decode c_Mo_found 198 = .ok (.iconst 0, 1) := by decide +kernel
theorem d_Mo_found_199 : decode c_Mo_found 199 = .ok (.ireturn, 1) := by decide +kernel
theorem d_Mo_found_200 : decode c_Mo_found 200 = .ok (.aload_n 0, 1) := by decide +kernel
theorem d_Mo_found_201 : decode c_Mo_found 201 = .ok (.iload_n 3, 1) := by decide +kernel
theorem d_Mo_found_202 : decode c_Mo_found 202 = .ok (.invokevirtual 246, 3) := by decide +kernel
theorem d_Mo_found_205 : decode c_Mo_found 205 = .ok (.ifCond .eq 7, 3) := by decide +kernel
theorem d_Mo_found_208 : decode c_Mo_found 208 = .ok (.iconst 2, 1) := by decide +kernel
theorem d_Mo_found_209 : decode c_Mo_found 209 = .ok (.goto 4, 3) := by decide +kernel
theorem d_Mo_found_212 : decode c_Mo_found 212 = .ok (.iconst 0, 1) := by decide +kernel
theorem d_Mo_found_213 : decode c_Mo_found 213 = .ok (.ireturn, 1) := by decide +kernel
theorem d_Mo_found_214 : decode c_Mo_found 214 = .ok (.aload_n 0, 1) := by decide +kernel
theorem d_Mo_found_215 : decode c_Mo_found 215 = .ok (.iload_n 3, 1) := by decide +kernel
theorem d_Mo_found_216 : decode c_Mo_found 216 = .ok (.invokevirtual 249, 3) := by decide +kernel
theorem d_Mo_found_219 : decode c_Mo_found 219 = .ok (.ifCond .eq 7, 3) := by decide +kernel
theorem d_Mo_found_222 : decode c_Mo_found 222 = .ok (.iconst 1, 1) := by decide +kernel
theorem d_Mo_found_223 : decode c_Mo_found 223 = .ok (.goto 4, 3) := by decide +kernel
theorem d_Mo_found_226 : decode c_Mo_found 226 = .ok (.iconst 0, 1) := by decide +kernel
theorem d_Mo_found_227 : decode c_Mo_found 227 = .ok (.ireturn, 1) := by decide +kernel
theorem d_Mo_found_228 : decode c_Mo_found 228 = .ok (.iconst 0, 1) := by decide +kernel
theorem d_Mo_found_229 : decode c_Mo_found 229 = .ok (.ireturn, 1) := by decide +kernel
abbrev c_Mo_holds : ByteArray := prog_14_method_36_code
abbrev r_Mo_holds : Option FieldType := (some FieldType.boolean)
def y_Mo_holds : MethodName := ⟨"PinKindChecksModel", "holds", "(II)Z"⟩
theorem d_Mo_holds_0 : decode c_Mo_holds 0 = .ok (.iconst 0, 1) := by decide +kernel
theorem d_Mo_holds_1 : decode c_Mo_holds 1 = .ok (.istore_n 3, 1) := by decide +kernel
theorem d_Mo_holds_2 : decode c_Mo_holds 2 = .ok (.bipush 90, 2) := by decide +kernel
theorem d_Mo_holds_4 : decode c_Mo_holds 4 = .ok (.iload_n 1, 1) := by decide +kernel
theorem d_Mo_holds_5 : decode c_Mo_holds 5 = .ok (.imul, 1) := by decide +kernel
theorem d_Mo_holds_6 : decode c_Mo_holds 6 = .ok (.istore 4, 2) := by decide +kernel
theorem d_Mo_holds_8 : decode c_Mo_holds 8 = .ok (.iload 4, 2) := by decide +kernel
theorem d_Mo_holds_10 : decode c_Mo_holds 10 = .ok (.bipush 90, 2) := by decide +kernel
theorem d_Mo_holds_12 : decode c_Mo_holds 12 = .ok (.iload_n 1, 1) := by decide +kernel
theorem d_Mo_holds_13 : decode c_Mo_holds 13 = .ok (.imul, 1) := by decide +kernel
theorem d_Mo_holds_14 : decode c_Mo_holds 14 = .ok (.aload_n 0, 1) := by decide +kernel
theorem d_Mo_holds_15 : decode c_Mo_holds 15 = .ok (.getfield 53, 3) := by decide +kernel
theorem d_Mo_holds_18 : decode c_Mo_holds 18 = .ok (.iload_n 1, 1) := by decide +kernel
theorem d_Mo_holds_19 : decode c_Mo_holds 19 = .ok (.iaload, 1) := by decide +kernel
theorem d_Mo_holds_20 : decode c_Mo_holds 20 = .ok (.iadd, 1) := by decide +kernel
theorem d_Mo_holds_21 : decode c_Mo_holds 21 = .ok (.if_icmp .ge 136, 3) := by decide +kernel
theorem d_Mo_holds_24 : decode c_Mo_holds 24 = .ok (.aload_n 0, 1) := by decide +kernel
theorem d_Mo_holds_25 : decode c_Mo_holds 25 = .ok (.getfield 56, 3) := by decide +kernel
theorem d_Mo_holds_28 : decode c_Mo_holds 28 = .ok (.iload 4, 2) := by decide +kernel
theorem d_Mo_holds_30 : decode c_Mo_holds 30 = .ok (.iaload, 1) := by decide +kernel
theorem d_Mo_holds_31 : decode c_Mo_holds 31 = .ok (.bipush 10, 2) := by decide +kernel
theorem d_Mo_holds_33 : decode c_Mo_holds 33 = .ok (.if_icmp .ge 40, 3) := by decide +kernel
theorem d_Mo_holds_36 : decode c_Mo_holds 36 = .ok (.aload_n 0, 1) := by decide +kernel
theorem d_Mo_holds_37 : decode c_Mo_holds 37 = .ok (.getfield 88, 3) := by decide +kernel
theorem d_Mo_holds_40 : decode c_Mo_holds 40 = .ok (.iload_n 3, 1) := by decide +kernel
theorem d_Mo_holds_41 : decode c_Mo_holds 41 = .ok (.aload_n 0, 1) := by decide +kernel
theorem d_Mo_holds_42 : decode c_Mo_holds 42 = .ok (.aload_n 0, 1) := by decide +kernel
theorem d_Mo_holds_43 : decode c_Mo_holds 43 = .ok (.getfield 56, 3) := by decide +kernel
theorem d_Mo_holds_46 : decode c_Mo_holds 46 = .ok (.iload 4, 2) := by decide +kernel
theorem d_Mo_holds_48 : decode c_Mo_holds 48 = .ok (.iaload, 1) := by decide +kernel
theorem d_Mo_holds_49 : decode c_Mo_holds 49 = .ok (.aload_n 0, 1) := by decide +kernel
theorem d_Mo_holds_50 : decode c_Mo_holds 50 = .ok (.getfield 59, 3) := by decide +kernel
theorem d_Mo_holds_53 : decode c_Mo_holds 53 = .ok (.iload 4, 2) := by decide +kernel
theorem d_Mo_holds_55 : decode c_Mo_holds 55 = .ok (.iaload, 1) := by decide +kernel
theorem d_Mo_holds_56 : decode c_Mo_holds 56 = .ok (.aload_n 0, 1) := by decide +kernel
theorem d_Mo_holds_57 : decode c_Mo_holds 57 = .ok (.getfield 47, 3) := by decide +kernel
theorem d_Mo_holds_60 : decode c_Mo_holds 60 = .ok (.iload_n 1, 1) := by decide +kernel
theorem d_Mo_holds_61 : decode c_Mo_holds 61 = .ok (.iaload, 1) := by decide +kernel
theorem d_Mo_holds_62 : decode c_Mo_holds 62 = .ok (.iload_n 2, 1) := by decide +kernel
theorem d_Mo_holds_63 : decode c_Mo_holds 63 = .ok (.invokevirtual 229, 3) := by decide +kernel
theorem d_Mo_holds_66 : decode c_Mo_holds 66 = .ok (.lastore, 1) := by decide +kernel
theorem d_Mo_holds_67 : decode c_Mo_holds 67 = .ok (.iinc 3 1, 3) := by decide +kernel
theorem d_Mo_holds_70 : decode c_Mo_holds 70 = .ok (.goto 81, 3) := by decide +kernel
theorem d_Mo_holds_73 : decode c_Mo_holds 73 = .ok (.aload_n 0, 1) := by decide +kernel
theorem d_Mo_holds_74 : decode c_Mo_holds 74 = .ok (.getfield 56, 3) := by decide +kernel
theorem d_Mo_holds_77 : decode c_Mo_holds 77 = .ok (.iload 4, 2) := by decide +kernel
theorem d_Mo_holds_79 : decode c_Mo_holds 79 = .ok (.iaload, 1) := by decide +kernel
theorem d_Mo_holds_80 : decode c_Mo_holds 80 = .ok (.bipush 19, 2) := by decide +kernel
theorem d_Mo_holds_82 : decode c_Mo_holds 82 = .ok (.if_icmp .ne 32, 3) := by decide +kernel
theorem d_Mo_holds_85 : decode c_Mo_holds 85 = .ok (.aload_n 0, 1) := by decide +kernel
theorem d_Mo_holds_86 : decode c_Mo_holds 86 = .ok (.getfield 88, 3) := by decide +kernel
theorem d_Mo_holds_89 : decode c_Mo_holds 89 = .ok (.iload_n 3, 1) := by decide +kernel
theorem d_Mo_holds_90 : decode c_Mo_holds 90 = .ok (.iconst 1, 1) := by decide +kernel
theorem d_Mo_holds_91 : decode c_Mo_holds 91 = .ok (.isub, 1) := by decide +kernel
theorem d_Mo_holds_92 : decode c_Mo_holds 92 = .ok (.aload_n 0, 1) := by decide +kernel
theorem d_Mo_holds_93 : decode c_Mo_holds 93 = .ok (.getfield 88, 3) := by decide +kernel
theorem d_Mo_holds_96 : decode c_Mo_holds 96 = .ok (.iload_n 3, 1) := by decide +kernel
theorem d_Mo_holds_97 : decode c_Mo_holds 97 = .ok (.iconst 1, 1) := by decide +kernel
theorem d_Mo_holds_98 : decode c_Mo_holds 98 = .ok (.isub, 1) := by decide +kernel
theorem d_Mo_holds_99 : decode c_Mo_holds 99 = .ok (.laload, 1) := by decide +kernel
theorem d_Mo_holds_100 : decode c_Mo_holds 100 = .ok (.lconst 0, 1) := by decide +kernel
theorem d_Mo_holds_101 : decode c_Mo_holds 101 = .ok (.lcmp, 1) := by decide +kernel
theorem d_Mo_holds_102 : decode c_Mo_holds 102 = .ok (.ifCond .ne 7, 3) := by decide +kernel
theorem d_Mo_holds_105 : decode c_Mo_holds 105 = .ok (.lconst 1, 1) := by decide +kernel
theorem d_Mo_holds_106 : decode c_Mo_holds 106 = .ok (.goto 4, 3) := by decide +kernel
theorem d_Mo_holds_109 : decode c_Mo_holds 109 = .ok (.lconst 0, 1) := by decide +kernel
theorem d_Mo_holds_110 : decode c_Mo_holds 110 = .ok (.lastore, 1) := by decide +kernel
theorem d_Mo_holds_111 : decode c_Mo_holds 111 = .ok (.goto 40, 3) := by decide +kernel
theorem d_Mo_holds_114 : decode c_Mo_holds 114 = .ok (.aload_n 0, 1) := by decide +kernel
theorem d_Mo_holds_115 : decode c_Mo_holds 115 = .ok (.getfield 88, 3) := by decide +kernel
theorem d_Mo_holds_118 : decode c_Mo_holds 118 = .ok (.iload_n 3, 1) := by decide +kernel
theorem d_Mo_holds_119 : decode c_Mo_holds 119 = .ok (.iconst 2, 1) := by decide +kernel
theorem d_Mo_holds_120 : decode c_Mo_holds 120 = .ok (.isub, 1) := by decide +kernel
theorem d_Mo_holds_121 : decode c_Mo_holds 121 = .ok (.aload_n 0, 1) := by decide +kernel
theorem d_Mo_holds_122 : decode c_Mo_holds 122 = .ok (.getfield 56, 3) := by decide +kernel
theorem d_Mo_holds_125 : decode c_Mo_holds 125 = .ok (.iload 4, 2) := by decide +kernel
theorem d_Mo_holds_127 : decode c_Mo_holds 127 = .ok (.iaload, 1) := by decide +kernel
theorem d_Mo_holds_128 : decode c_Mo_holds 128 = .ok (.aload_n 0, 1) := by decide +kernel
theorem d_Mo_holds_129 : decode c_Mo_holds 129 = .ok (.getfield 88, 3) := by decide +kernel
theorem d_Mo_holds_132 : decode c_Mo_holds 132 = .ok (.iload_n 3, 1) := by decide +kernel
theorem d_Mo_holds_133 : decode c_Mo_holds 133 = .ok (.iconst 2, 1) := by decide +kernel
theorem d_Mo_holds_134 : decode c_Mo_holds 134 = .ok (.isub, 1) := by decide +kernel
theorem d_Mo_holds_135 : decode c_Mo_holds 135 = .ok (.laload, 1) := by decide +kernel
theorem d_Mo_holds_136 : decode c_Mo_holds 136 = .ok (.aload_n 0, 1) := by decide +kernel
theorem d_Mo_holds_137 : decode c_Mo_holds 137 = .ok (.getfield 88, 3) := by decide +kernel
theorem d_Mo_holds_140 : decode c_Mo_holds 140 = .ok (.iload_n 3, 1) := by decide +kernel
theorem d_Mo_holds_141 : decode c_Mo_holds 141 = .ok (.iconst 1, 1) := by decide +kernel
theorem d_Mo_holds_142 : decode c_Mo_holds 142 = .ok (.isub, 1) := by decide +kernel
theorem d_Mo_holds_143 : decode c_Mo_holds 143 = .ok (.laload, 1) := by decide +kernel
theorem d_Mo_holds_144 : decode c_Mo_holds 144 = .ok (.invokestatic 233, 3) := by decide +kernel
theorem d_Mo_holds_147 : decode c_Mo_holds 147 = .ok (.lastore, 1) := by decide +kernel
theorem d_Mo_holds_148 : decode c_Mo_holds 148 = .ok (.iinc 3 (-1), 3) := by decide +kernel
theorem d_Mo_holds_151 : decode c_Mo_holds 151 = .ok (.iinc 4 1, 3) := by decide +kernel
theorem d_Mo_holds_154 : decode c_Mo_holds 154 = .ok (.goto (-146), 3) := by decide +kernel
theorem d_Mo_holds_157 : decode c_Mo_holds 157 = .ok (.aload_n 0, 1) := by decide +kernel
theorem d_Mo_holds_158 : decode c_Mo_holds 158 = .ok (.getfield 88, 3) := by decide +kernel
theorem d_Mo_holds_161 : decode c_Mo_holds 161 = .ok (.iconst 0, 1) := by decide +kernel
theorem d_Mo_holds_162 : decode c_Mo_holds 162 = .ok (.laload, 1) := by decide +kernel
theorem d_Mo_holds_163 : decode c_Mo_holds 163 = .ok (.lconst 0, 1) := by decide +kernel
theorem d_Mo_holds_164 : decode c_Mo_holds 164 = .ok (.lcmp, 1) := by decide +kernel
theorem d_Mo_holds_165 : decode c_Mo_holds 165 = .ok (.ifCond .eq 7, 3) := by decide +kernel
theorem d_Mo_holds_168 : decode c_Mo_holds 168 = .ok (.iconst 1, 1) := by decide +kernel
theorem d_Mo_holds_169 : decode c_Mo_holds 169 = .ok (.goto 4, 3) := by decide +kernel
theorem d_Mo_holds_172 : decode c_Mo_holds 172 = .ok (.iconst 0, 1) := by decide +kernel
theorem d_Mo_holds_173 : decode c_Mo_holds 173 = .ok (.ireturn, 1) := by decide +kernel
abbrev c_Mo_term : ByteArray := prog_14_method_34_code
abbrev r_Mo_term : Option FieldType := (some FieldType.long)
def y_Mo_term : MethodName := ⟨"PinKindChecksModel", "term", "(IIII)J"⟩
theorem d_Mo_term_0 : decode c_Mo_term 0 = .ok (.iload_n 1, 1) := by decide +kernel
theorem d_Mo_term_1 : decode c_Mo_term 1 = .ok (.tableswitch 135 0 5 #[39, 42, 60, 70, 79, 126], 39) := by decide +kernel
theorem d_Mo_term_40 : decode c_Mo_term 40 = .ok (.iload_n 2, 1) := by decide +kernel
theorem d_Mo_term_41 : decode c_Mo_term 41 = .ok (.i2l, 1) := by decide +kernel
theorem d_Mo_term_42 : decode c_Mo_term 42 = .ok (.lreturn, 1) := by decide +kernel
theorem d_Mo_term_43 : decode c_Mo_term 43 = .ok (.aload_n 0, 1) := by decide +kernel
theorem d_Mo_term_44 : decode c_Mo_term 44 = .ok (.getfield 16, 3) := by decide +kernel
theorem d_Mo_term_47 : decode c_Mo_term 47 = .ok (.bipush 8, 2) := by decide +kernel
theorem d_Mo_term_49 : decode c_Mo_term 49 = .ok (.aload_n 0, 1) := by decide +kernel
theorem d_Mo_term_50 : decode c_Mo_term 50 = .ok (.iload_n 3, 1) := by decide +kernel
theorem d_Mo_term_51 : decode c_Mo_term 51 = .ok (.iload 4, 2) := by decide +kernel
theorem d_Mo_term_53 : decode c_Mo_term 53 = .ok (.invokevirtual 216, 3) := by decide +kernel
theorem d_Mo_term_56 : decode c_Mo_term 56 = .ok (.imul, 1) := by decide +kernel
theorem d_Mo_term_57 : decode c_Mo_term 57 = .ok (.iload_n 2, 1) := by decide +kernel
theorem d_Mo_term_58 : decode c_Mo_term 58 = .ok (.iadd, 1) := by decide +kernel
theorem d_Mo_term_59 : decode c_Mo_term 59 = .ok (.laload, 1) := by decide +kernel
theorem d_Mo_term_60 : decode c_Mo_term 60 = .ok (.lreturn, 1) := by decide +kernel
theorem d_Mo_term_61 : decode c_Mo_term 61 = .ok (.aload_n 0, 1) := by decide +kernel
theorem d_Mo_term_62 : decode c_Mo_term 62 = .ok (.iload_n 3, 1) := by decide +kernel
theorem d_Mo_term_63 : decode c_Mo_term 63 = .ok (.iload 4, 2) := by decide +kernel
theorem d_Mo_term_65 : decode c_Mo_term 65 = .ok (.iconst (-1), 1) := by decide +kernel
theorem d_Mo_term_66 : decode c_Mo_term 66 = .ok (.invokevirtual 220, 3) := by decide +kernel
theorem d_Mo_term_69 : decode c_Mo_term 69 = .ok (.i2l, 1) := by decide +kernel
theorem d_Mo_term_70 : decode c_Mo_term 70 = .ok (.lreturn, 1) := by decide +kernel
theorem d_Mo_term_71 : decode c_Mo_term 71 = .ok (.aload_n 0, 1) := by decide +kernel
theorem d_Mo_term_72 : decode c_Mo_term 72 = .ok (.getfield 32, 3) := by decide +kernel
theorem d_Mo_term_75 : decode c_Mo_term 75 = .ok (.iload 4, 2) := by decide +kernel
theorem d_Mo_term_77 : decode c_Mo_term 77 = .ok (.iaload, 1) := by decide +kernel
theorem d_Mo_term_78 : decode c_Mo_term 78 = .ok (.i2l, 1) := by decide +kernel
theorem d_Mo_term_79 : decode c_Mo_term 79 = .ok (.lreturn, 1) := by decide +kernel
theorem d_Mo_term_80 : decode c_Mo_term 80 = .ok (.iload_n 3, 1) := by decide +kernel
theorem d_Mo_term_81 : decode c_Mo_term 81 = .ok (.iconst 1, 1) := by decide +kernel
theorem d_Mo_term_82 : decode c_Mo_term 82 = .ok (.if_icmp .ne 14, 3) := by decide +kernel
theorem d_Mo_term_85 : decode c_Mo_term 85 = .ok (.aload_n 0, 1) := by decide +kernel
theorem d_Mo_term_86 : decode c_Mo_term 86 = .ok (.getfield 23, 3) := by decide +kernel
theorem d_Mo_term_89 : decode c_Mo_term 89 = .ok (.iload 4, 2) := by decide +kernel
theorem d_Mo_term_91 : decode c_Mo_term 91 = .ok (.iaload, 1) := by decide +kernel
theorem d_Mo_term_92 : decode c_Mo_term 92 = .ok (.i2l, 1) := by decide +kernel
theorem d_Mo_term_93 : decode c_Mo_term 93 = .ok (.goto 33, 3) := by decide +kernel
theorem d_Mo_term_96 : decode c_Mo_term 96 = .ok (.aload_n 0, 1) := by decide +kernel
theorem d_Mo_term_97 : decode c_Mo_term 97 = .ok (.getfield 29, 3) := by decide +kernel
theorem d_Mo_term_100 : decode c_Mo_term 100 = .ok (.iload 4, 2) := by decide +kernel
theorem d_Mo_term_102 : decode c_Mo_term 102 = .ok (.iaload, 1) := by decide +kernel
theorem d_Mo_term_103 : decode c_Mo_term 103 = .ok (.iconst (-1), 1) := by decide +kernel
theorem d_Mo_term_104 : decode c_Mo_term 104 = .ok (.if_icmp .ne 9, 3) := by decide +kernel
theorem d_Mo_term_107 : decode c_Mo_term 107 = .ok (.ldc2_w 224, 3) := by decide +kernel
theorem d_Mo_term_110 : decode c_Mo_term 110 = .ok (.goto 16, 3) := by decide +kernel
theorem d_Mo_term_113 : decode c_Mo_term 113 = .ok (.aload_n 0, 1) := by decide +kernel
theorem d_Mo_term_114 : decode c_Mo_term 114 = .ok (.getfield 23, 3) := by decide +kernel
theorem d_Mo_term_117 : decode c_Mo_term 117 = .ok (.aload_n 0, 1) := by decide +kernel
theorem d_Mo_term_118 : decode c_Mo_term 118 = .ok (.getfield 29, 3) := by decide +kernel
theorem d_Mo_term_121 : decode c_Mo_term 121 = .ok (.iload 4, 2) := by decide +kernel
theorem d_Mo_term_123 : decode c_Mo_term 123 = .ok (.iaload, 1) := by decide +kernel
theorem d_Mo_term_124 : decode c_Mo_term 124 = .ok (.iaload, 1) := by decide +kernel
theorem d_Mo_term_125 : decode c_Mo_term 125 = .ok (.i2l, 1) := by decide +kernel
theorem d_Mo_term_126 : decode c_Mo_term 126 = .ok (.lreturn, 1) := by decide +kernel
theorem d_Mo_term_127 : decode c_Mo_term 127 = .ok (.aload_n 0, 1) := by decide +kernel
theorem d_Mo_term_128 : decode c_Mo_term 128 = .ok (.iload_n 3, 1) := by decide +kernel
theorem d_Mo_term_129 : decode c_Mo_term 129 = .ok (.iload 4, 2) := by decide +kernel
theorem d_Mo_term_131 : decode c_Mo_term 131 = .ok (.invokevirtual 226, 3) := by decide +kernel
theorem d_Mo_term_134 : decode c_Mo_term 134 = .ok (.i2l, 1) := by decide +kernel
theorem d_Mo_term_135 : decode c_Mo_term 135 = .ok (.lreturn, 1) := by decide +kernel
theorem d_Mo_term_136 : decode c_Mo_term 136 = .ok (.aload_n 0, 1) := by decide +kernel
theorem d_Mo_term_137 : decode c_Mo_term 137 = .ok (.iload_n 3, 1) := by decide +kernel
theorem d_Mo_term_138 : decode c_Mo_term 138 = .ok (.iload 4, 2) := by decide +kernel
theorem d_Mo_term_140 : decode c_Mo_term 140 = .ok (.iload_n 2, 1) := by decide +kernel
theorem d_Mo_term_141 : decode c_Mo_term 141 = .ok (.invokevirtual 220, 3) := by decide +kernel
theorem d_Mo_term_144 : decode c_Mo_term 144 = .ok (.i2l, 1) := by decide +kernel
theorem d_Mo_term_145 : decode c_Mo_term 145 = .ok (.lreturn, 1) := by decide +kernel
abbrev c_Mo_partOf : ByteArray := prog_14_method_31_code
abbrev r_Mo_partOf : Option FieldType := (some FieldType.int)
def y_Mo_partOf : MethodName := ⟨"PinKindChecksModel", "partOf", "(II)I"⟩
theorem d_Mo_partOf_0 : decode c_Mo_partOf 0 = .ok (.iload_n 1, 1) := by decide +kernel
theorem d_Mo_partOf_1 : decode c_Mo_partOf 1 = .ok (.ifCond .ne 7, 3) := by decide +kernel
theorem d_Mo_partOf_4 : decode c_Mo_partOf 4 = .ok (.iload_n 2, 1) := by decide +kernel
theorem d_Mo_partOf_5 : decode c_Mo_partOf 5 = .ok (.goto 9, 3) := by decide +kernel
theorem d_Mo_partOf_8 : decode c_Mo_partOf 8 = .ok (.aload_n 0, 1) := by decide +kernel
theorem d_Mo_partOf_9 : decode c_Mo_partOf 9 = .ok (.getfield 26, 3) := by decide +kernel
theorem d_Mo_partOf_12 : decode c_Mo_partOf 12 = .ok (.iload_n 2, 1) := by decide +kernel
theorem d_Mo_partOf_13 : decode c_Mo_partOf 13 = .ok (.iaload, 1) := by decide +kernel
theorem d_Mo_partOf_14 : decode c_Mo_partOf 14 = .ok (.ireturn, 1) := by decide +kernel
abbrev c_Mo_pinsOf : ByteArray := prog_14_method_33_code
abbrev r_Mo_pinsOf : Option FieldType := (some FieldType.int)
def y_Mo_pinsOf : MethodName := ⟨"PinKindChecksModel", "pinsOf", "(III)I"⟩
theorem d_Mo_pinsOf_0 : decode c_Mo_pinsOf 0 = .ok (.iconst 0, 1) := by decide +kernel
theorem d_Mo_pinsOf_1 : decode c_Mo_pinsOf 1 = .ok (.istore 4, 2) := by decide +kernel
theorem d_Mo_pinsOf_3 : decode c_Mo_pinsOf 3 = .ok (.iconst 0, 1) := by decide +kernel
theorem d_Mo_pinsOf_4 : decode c_Mo_pinsOf 4 = .ok (.istore 5, 2) := by decide +kernel
theorem d_Mo_pinsOf_6 : decode c_Mo_pinsOf 6 = .ok (.iload 5, 2) := by decide +kernel
theorem d_Mo_pinsOf_8 : decode c_Mo_pinsOf 8 = .ok (.aload_n 0, 1) := by decide +kernel
theorem d_Mo_pinsOf_9 : decode c_Mo_pinsOf 9 = .ok (.getfield 113, 3) := by decide +kernel
theorem d_Mo_pinsOf_12 : decode c_Mo_pinsOf 12 = .ok (.if_icmp .ge 80, 3) := by decide +kernel
theorem d_Mo_pinsOf_15 : decode c_Mo_pinsOf 15 = .ok (.iload_n 1, 1) := by decide +kernel
theorem d_Mo_pinsOf_16 : decode c_Mo_pinsOf 16 = .ok (.ifCond .ne 22, 3) := by decide +kernel
theorem d_Mo_pinsOf_19 : decode c_Mo_pinsOf 19 = .ok (.aload_n 0, 1) := by decide +kernel
theorem d_Mo_pinsOf_20 : decode c_Mo_pinsOf 20 = .ok (.getfield 26, 3) := by decide +kernel
theorem d_Mo_pinsOf_23 : decode c_Mo_pinsOf 23 = .ok (.iload 5, 2) := by decide +kernel
theorem d_Mo_pinsOf_25 : decode c_Mo_pinsOf 25 = .ok (.iaload, 1) := by decide +kernel
theorem d_Mo_pinsOf_26 : decode c_Mo_pinsOf 26 = .ok (.iload_n 2, 1) := by decide +kernel
theorem d_Mo_pinsOf_27 : decode c_Mo_pinsOf 27 = .ok (.if_icmp .ne 7, 3) := by decide +kernel
theorem d_Mo_pinsOf_30 : decode c_Mo_pinsOf 30 = .ok (.iconst 1, 1) := by decide +kernel
theorem d_Mo_pinsOf_31 : decode c_Mo_pinsOf 31 = .ok (.goto 23, 3) := by decide +kernel
theorem d_Mo_pinsOf_34 : decode c_Mo_pinsOf 34 = .ok (.iconst 0, 1) := by decide +kernel
theorem d_Mo_pinsOf_35 : decode c_Mo_pinsOf 35 = .ok (.goto 19, 3) := by decide +kernel
theorem d_Mo_pinsOf_38 : decode c_Mo_pinsOf 38 = .ok (.aload_n 0, 1) := by decide +kernel
theorem d_Mo_pinsOf_39 : decode c_Mo_pinsOf 39 = .ok (.getfield 29, 3) := by decide +kernel
theorem d_Mo_pinsOf_42 : decode c_Mo_pinsOf 42 = .ok (.iload 5, 2) := by decide +kernel
theorem d_Mo_pinsOf_44 : decode c_Mo_pinsOf 44 = .ok (.iaload, 1) := by decide +kernel
theorem d_Mo_pinsOf_45 : decode c_Mo_pinsOf 45 = .ok (.iload_n 2, 1) := by decide +kernel
theorem d_Mo_pinsOf_46 : decode c_Mo_pinsOf 46 = .ok (.if_icmp .ne 7, 3) := by decide +kernel
theorem d_Mo_pinsOf_49 : decode c_Mo_pinsOf 49 = .ok (.iconst 1, 1) := by decide +kernel
theorem d_Mo_pinsOf_50 : decode c_Mo_pinsOf 50 = .ok (.goto 4, 3) := by decide +kernel
theorem d_Mo_pinsOf_53 : decode c_Mo_pinsOf 53 = .ok (.iconst 0, 1) := by decide +kernel
theorem d_Mo_pinsOf_54 : decode c_Mo_pinsOf 54 = .ok (.istore 6, 2) := by decide +kernel
theorem d_Mo_pinsOf_56 : decode c_Mo_pinsOf 56 = .ok (.iload 4, 2) := by decide +kernel
theorem d_Mo_pinsOf_58 : decode c_Mo_pinsOf 58 = .ok (.iload 6, 2) := by decide +kernel
theorem d_Mo_pinsOf_60 : decode c_Mo_pinsOf 60 = .ok (.ifCond .eq 22, 3) := by decide +kernel
theorem d_Mo_pinsOf_63 : decode c_Mo_pinsOf 63 = .ok (.iload_n 3, 1) := by decide +kernel
theorem d_Mo_pinsOf_64 : decode c_Mo_pinsOf 64 = .ok (.ifCond .lt 14, 3) := by decide +kernel
theorem d_Mo_pinsOf_67 : decode c_Mo_pinsOf 67 = .ok (.aload_n 0, 1) := by decide +kernel
theorem d_Mo_pinsOf_68 : decode c_Mo_pinsOf 68 = .ok (.getfield 32, 3) := by decide +kernel
end
section
theorem d_Mo_pinsOf_71 : decode c_Mo_pinsOf 71 = .ok (.iload 5, 2) := by decide +kernel
theorem d_Mo_pinsOf_73 : decode c_Mo_pinsOf 73 = .ok (.iaload, 1) := by decide +kernel
theorem d_Mo_pinsOf_74 : decode c_Mo_pinsOf 74 = .ok (.iload_n 3, 1) := by decide +kernel
theorem d_Mo_pinsOf_75 : decode c_Mo_pinsOf 75 = .ok (.if_icmp .ne 7, 3) := by decide +kernel
theorem d_Mo_pinsOf_78 : decode c_Mo_pinsOf 78 = .ok (.iconst 1, 1) := by decide +kernel
theorem d_Mo_pinsOf_79 : decode c_Mo_pinsOf 79 = .ok (.goto 4, 3) := by decide +kernel
theorem d_Mo_pinsOf_82 : decode c_Mo_pinsOf 82 = .ok (.iconst 0, 1) := by decide +kernel
theorem d_Mo_pinsOf_83 : decode c_Mo_pinsOf 83 = .ok (.iadd, 1) := by decide +kernel
theorem d_Mo_pinsOf_84 : decode c_Mo_pinsOf 84 = .ok (.istore 4, 2) := by decide +kernel
theorem d_Mo_pinsOf_86 : decode c_Mo_pinsOf 86 = .ok (.iinc 5 1, 3) := by decide +kernel
theorem d_Mo_pinsOf_89 : decode c_Mo_pinsOf 89 = .ok (.goto (-83), 3) := by decide +kernel
theorem d_Mo_pinsOf_92 : decode c_Mo_pinsOf 92 = .ok (.iload 4, 2) := by decide +kernel
theorem d_Mo_pinsOf_94 : decode c_Mo_pinsOf 94 = .ok (.ireturn, 1) := by decide +kernel
abbrev c_Mo_sheetOf : ByteArray := prog_14_method_32_code
abbrev r_Mo_sheetOf : Option FieldType := (some FieldType.int)
def y_Mo_sheetOf : MethodName := ⟨"PinKindChecksModel", "sheetOf", "(II)I"⟩
theorem d_Mo_sheetOf_0 : decode c_Mo_sheetOf 0 = .ok (.iload_n 1, 1) := by decide +kernel
theorem d_Mo_sheetOf_1 : decode c_Mo_sheetOf 1 = .ok (.iconst 1, 1) := by decide +kernel
theorem d_Mo_sheetOf_2 : decode c_Mo_sheetOf 2 = .ok (.if_icmp .ne 12, 3) := by decide +kernel
theorem d_Mo_sheetOf_5 : decode c_Mo_sheetOf 5 = .ok (.aload_n 0, 1) := by decide +kernel
theorem d_Mo_sheetOf_6 : decode c_Mo_sheetOf 6 = .ok (.getfield 20, 3) := by decide +kernel
theorem d_Mo_sheetOf_9 : decode c_Mo_sheetOf 9 = .ok (.iload_n 2, 1) := by decide +kernel
theorem d_Mo_sheetOf_10 : decode c_Mo_sheetOf 10 = .ok (.iaload, 1) := by decide +kernel
theorem d_Mo_sheetOf_11 : decode c_Mo_sheetOf 11 = .ok (.goto 14, 3) := by decide +kernel
theorem d_Mo_sheetOf_14 : decode c_Mo_sheetOf 14 = .ok (.aload_n 0, 1) := by decide +kernel
theorem d_Mo_sheetOf_15 : decode c_Mo_sheetOf 15 = .ok (.getfield 13, 3) := by decide +kernel
theorem d_Mo_sheetOf_18 : decode c_Mo_sheetOf 18 = .ok (.aload_n 0, 1) := by decide +kernel
theorem d_Mo_sheetOf_19 : decode c_Mo_sheetOf 19 = .ok (.iload_n 1, 1) := by decide +kernel
theorem d_Mo_sheetOf_20 : decode c_Mo_sheetOf 20 = .ok (.iload_n 2, 1) := by decide +kernel
theorem d_Mo_sheetOf_21 : decode c_Mo_sheetOf 21 = .ok (.invokevirtual 216, 3) := by decide +kernel
theorem d_Mo_sheetOf_24 : decode c_Mo_sheetOf 24 = .ok (.iaload, 1) := by decide +kernel
theorem d_Mo_sheetOf_25 : decode c_Mo_sheetOf 25 = .ok (.ireturn, 1) := by decide +kernel
abbrev c_Mo_result : ByteArray := prog_14_method_35_code
abbrev r_Mo_result : Option FieldType := (some FieldType.long)
def y_Mo_result : MethodName := ⟨"PinKindChecksModel", "result", "(IJJ)J"⟩
theorem d_Mo_result_0 : decode c_Mo_result 0 = .ok (.iconst 0, 1) := by decide +kernel
theorem d_Mo_result_1 : decode c_Mo_result 1 = .ok (.istore 5, 2) := by decide +kernel
theorem d_Mo_result_3 : decode c_Mo_result 3 = .ok (.iload_n 0, 1) := by decide +kernel
theorem d_Mo_result_4 : decode c_Mo_result 4 = .ok (.tableswitch 190 10 20 #[60, 64, 68, 72, 88, 104, 120, 136, 152, 190, 168], 60) := by decide +kernel
theorem d_Mo_result_64 : decode c_Mo_result 64 = .ok (.lload_n 1, 1) := by decide +kernel
theorem d_Mo_result_65 : decode c_Mo_result 65 = .ok (.lload_n 3, 1) := by decide +kernel
theorem d_Mo_result_66 : decode c_Mo_result 66 = .ok (.lmul, 1) := by decide +kernel
theorem d_Mo_result_67 : decode c_Mo_result 67 = .ok (.lreturn, 1) := by decide +kernel
theorem d_Mo_result_68 : decode c_Mo_result 68 = .ok (.lload_n 1, 1) := by decide +kernel
theorem d_Mo_result_69 : decode c_Mo_result 69 = .ok (.lload_n 3, 1) := by decide +kernel
theorem d_Mo_result_70 : decode c_Mo_result 70 = .ok (.ladd, 1) := by decide +kernel
theorem d_Mo_result_71 : decode c_Mo_result 71 = .ok (.lreturn, 1) := by decide +kernel
theorem d_Mo_result_72 : decode c_Mo_result 72 = .ok (.lload_n 1, 1) := by decide +kernel
theorem d_Mo_result_73 : decode c_Mo_result 73 = .ok (.lload_n 3, 1) := by decide +kernel
theorem d_Mo_result_74 : decode c_Mo_result 74 = .ok (.lsub, 1) := by decide +kernel
theorem d_Mo_result_75 : decode c_Mo_result 75 = .ok (.lreturn, 1) := by decide +kernel
theorem d_Mo_result_76 : decode c_Mo_result 76 = .ok (.lload_n 1, 1) := by decide +kernel
theorem d_Mo_result_77 : decode c_Mo_result 77 = .ok (.lload_n 3, 1) := by decide +kernel
theorem d_Mo_result_78 : decode c_Mo_result 78 = .ok (.lcmp, 1) := by decide +kernel
theorem d_Mo_result_79 : decode c_Mo_result 79 = .ok (.ifCond .ne 7, 3) := by decide +kernel
theorem d_Mo_result_82 : decode c_Mo_result 82 = .ok (.iconst 1, 1) := by decide +kernel
theorem d_Mo_result_83 : decode c_Mo_result 83 = .ok (.goto 4, 3) := by decide +kernel
theorem d_Mo_result_86 : decode c_Mo_result 86 = .ok (.iconst 0, 1) := by decide +kernel
theorem d_Mo_result_87 : decode c_Mo_result 87 = .ok (.istore 5, 2) := by decide +kernel
theorem d_Mo_result_89 : decode c_Mo_result 89 = .ok (.goto 124, 3) := by decide +kernel
theorem d_Mo_result_92 : decode c_Mo_result 92 = .ok (.lload_n 1, 1) := by decide +kernel
theorem d_Mo_result_93 : decode c_Mo_result 93 = .ok (.lload_n 3, 1) := by decide +kernel
theorem d_Mo_result_94 : decode c_Mo_result 94 = .ok (.lcmp, 1) := by decide +kernel
theorem d_Mo_result_95 : decode c_Mo_result 95 = .ok (.ifCond .eq 7, 3) := by decide +kernel
theorem d_Mo_result_98 : decode c_Mo_result 98 = .ok (.iconst 1, 1) := by decide +kernel
theorem d_Mo_result_99 : decode c_Mo_result 99 = .ok (.goto 4, 3) := by decide +kernel
theorem d_Mo_result_102 : decode c_Mo_result 102 = .ok (.iconst 0, 1) := by decide +kernel
theorem d_Mo_result_103 : decode c_Mo_result 103 = .ok (.istore 5, 2) := by decide +kernel
theorem d_Mo_result_105 : decode c_Mo_result 105 = .ok (.goto 108, 3) := by decide +kernel
theorem d_Mo_result_108 : decode c_Mo_result 108 = .ok (.lload_n 1, 1) := by decide +kernel
theorem d_Mo_result_109 : decode c_Mo_result 109 = .ok (.lload_n 3, 1) := by decide +kernel
theorem d_Mo_result_110 : decode c_Mo_result 110 = .ok (.lcmp, 1) := by decide +kernel
theorem d_Mo_result_111 : decode c_Mo_result 111 = .ok (.ifCond .ge 7, 3) := by decide +kernel
theorem d_Mo_result_114 : decode c_Mo_result 114 = .ok (.iconst 1, 1) := by decide +kernel
theorem d_Mo_result_115 : decode c_Mo_result 115 = .ok (.goto 4, 3) := by decide +kernel
theorem d_Mo_result_118 : decode c_Mo_result 118 = .ok (.iconst 0, 1) := by decide +kernel
theorem d_Mo_result_119 : decode c_Mo_result 119 = .ok (.istore 5, 2) := by decide +kernel
theorem d_Mo_result_121 : decode c_Mo_result 121 = .ok (.goto 92, 3) := by decide +kernel
theorem d_Mo_result_124 : decode c_Mo_result 124 = .ok (.lload_n 1, 1) := by decide +kernel
theorem d_Mo_result_125 : decode c_Mo_result 125 = .ok (.lload_n 3, 1) := by decide +kernel
theorem d_Mo_result_126 : decode c_Mo_result 126 = .ok (.lcmp, 1) := by decide +kernel
theorem d_Mo_result_127 : decode c_Mo_result 127 = .ok (.ifCond .le 7, 3) := by decide +kernel
theorem d_Mo_result_130 : decode c_Mo_result 130 = .ok (.iconst 1, 1) := by decide +kernel
theorem d_Mo_result_131 : decode c_Mo_result 131 = .ok (.goto 4, 3) := by decide +kernel
theorem d_Mo_result_134 : decode c_Mo_result 134 = .ok (.iconst 0, 1) := by decide +kernel
theorem d_Mo_result_135 : decode c_Mo_result 135 = .ok (.istore 5, 2) := by decide +kernel
theorem d_Mo_result_137 : decode c_Mo_result 137 = .ok (.goto 76, 3) := by decide +kernel
theorem d_Mo_result_140 : decode c_Mo_result 140 = .ok (.lload_n 1, 1) := by decide +kernel
theorem d_Mo_result_141 : decode c_Mo_result 141 = .ok (.lload_n 3, 1) := by decide +kernel
theorem d_Mo_result_142 : decode c_Mo_result 142 = .ok (.lcmp, 1) := by decide +kernel
theorem d_Mo_result_143 : decode c_Mo_result 143 = .ok (.ifCond .lt 7, 3) := by decide +kernel
theorem d_Mo_result_146 : decode c_Mo_result 146 = .ok (.iconst 1, 1) := by decide +kernel
theorem d_Mo_result_147 : decode c_Mo_result 147 = .ok (.goto 4, 3) := by decide +kernel
theorem d_Mo_result_150 : decode c_Mo_result 150 = .ok (.iconst 0, 1) := by decide +kernel
theorem d_Mo_result_151 : decode c_Mo_result 151 = .ok (.istore 5, 2) := by decide +kernel
theorem d_Mo_result_153 : decode c_Mo_result 153 = .ok (.goto 60, 3) := by decide +kernel
theorem d_Mo_result_156 : decode c_Mo_result 156 = .ok (.lload_n 1, 1) := by decide +kernel
theorem d_Mo_result_157 : decode c_Mo_result 157 = .ok (.lload_n 3, 1) := by decide +kernel
theorem d_Mo_result_158 : decode c_Mo_result 158 = .ok (.lcmp, 1) := by decide +kernel
theorem d_Mo_result_159 : decode c_Mo_result 159 = .ok (.ifCond .gt 7, 3) := by decide +kernel
theorem d_Mo_result_162 : decode c_Mo_result 162 = .ok (.iconst 1, 1) := by decide +kernel
theorem d_Mo_result_163 : decode c_Mo_result 163 = .ok (.goto 4, 3) := by decide +kernel
theorem d_Mo_result_166 : decode c_Mo_result 166 = .ok (.iconst 0, 1) := by decide +kernel
theorem d_Mo_result_167 : decode c_Mo_result 167 = .ok (.istore 5, 2) := by decide +kernel
theorem d_Mo_result_169 : decode c_Mo_result 169 = .ok (.goto 44, 3) := by decide +kernel
theorem d_Mo_result_172 : decode c_Mo_result 172 = .ok (.lload_n 1, 1) := by decide +kernel
theorem d_Mo_result_173 : decode c_Mo_result 173 = .ok (.lconst 0, 1) := by decide +kernel
theorem d_Mo_result_174 : decode c_Mo_result 174 = .ok (.lcmp, 1) := by decide +kernel
theorem d_Mo_result_175 : decode c_Mo_result 175 = .ok (.ifCond .eq 13, 3) := by decide +kernel
theorem d_Mo_result_178 : decode c_Mo_result 178 = .ok (.lload_n 3, 1) := by decide +kernel
theorem d_Mo_result_179 : decode c_Mo_result 179 = .ok (.lconst 0, 1) := by decide +kernel
theorem d_Mo_result_180 : decode c_Mo_result 180 = .ok (.lcmp, 1) := by decide +kernel
theorem d_Mo_result_181 : decode c_Mo_result 181 = .ok (.ifCond .eq 7, 3) := by decide +kernel
theorem d_Mo_result_184 : decode c_Mo_result 184 = .ok (.iconst 1, 1) := by decide +kernel
theorem d_Mo_result_185 : decode c_Mo_result 185 = .ok (.goto 4, 3) := by decide +kernel
theorem d_Mo_result_188 : decode c_Mo_result 188 = .ok (.iconst 0, 1) := by decide +kernel
theorem d_Mo_result_189 : decode c_Mo_result 189 = .ok (.istore 5, 2) := by decide +kernel
theorem d_Mo_result_191 : decode c_Mo_result 191 = .ok (.goto 22, 3) := by decide +kernel
theorem d_Mo_result_194 : decode c_Mo_result 194 = .ok (.lload_n 1, 1) := by decide +kernel
theorem d_Mo_result_195 : decode c_Mo_result 195 = .ok (.lconst 0, 1) := by decide +kernel
theorem d_Mo_result_196 : decode c_Mo_result 196 = .ok (.lcmp, 1) := by decide +kernel
theorem d_Mo_result_197 : decode c_Mo_result 197 = .ok (.ifCond .ne 9, 3) := by decide +kernel
theorem d_Mo_result_200 : decode c_Mo_result 200 = .ok (.lload_n 3, 1) := by decide +kernel
theorem d_Mo_result_201 : decode c_Mo_result 201 = .ok (.lconst 0, 1) := by decide +kernel
theorem d_Mo_result_202 : decode c_Mo_result 202 = .ok (.lcmp, 1) := by decide +kernel
theorem d_Mo_result_203 : decode c_Mo_result 203 = .ok (.ifCond .eq 7, 3) := by decide +kernel
theorem d_Mo_result_206 : decode c_Mo_result 206 = .ok (.iconst 1, 1) := by decide +kernel
theorem d_Mo_result_207 : decode c_Mo_result 207 = .ok (.goto 4, 3) := by decide +kernel
theorem d_Mo_result_210 : decode c_Mo_result 210 = .ok (.iconst 0, 1) := by decide +kernel
theorem d_Mo_result_211 : decode c_Mo_result 211 = .ok (.istore 5, 2) := by decide +kernel
theorem d_Mo_result_213 : decode c_Mo_result 213 = .ok (.iload 5, 2) := by decide +kernel
theorem d_Mo_result_215 : decode c_Mo_result 215 = .ok (.ifCond .eq 7, 3) := by decide +kernel
theorem d_Mo_result_218 : decode c_Mo_result 218 = .ok (.lconst 1, 1) := by decide +kernel
theorem d_Mo_result_219 : decode c_Mo_result 219 = .ok (.goto 4, 3) := by decide +kernel
theorem d_Mo_result_222 : decode c_Mo_result 222 = .ok (.lconst 0, 1) := by decide +kernel
theorem d_Mo_result_223 : decode c_Mo_result 223 = .ok (.lreturn, 1) := by decide +kernel
abbrev c_Mo_worst : ByteArray := prog_14_method_37_code
abbrev r_Mo_worst : Option FieldType := (some FieldType.int)
def y_Mo_worst : MethodName := ⟨"PinKindChecksModel", "worst", "(I)I"⟩
theorem d_Mo_worst_0 : decode c_Mo_worst 0 = .ok (.iconst 0, 1) := by decide +kernel
theorem d_Mo_worst_1 : decode c_Mo_worst 1 = .ok (.istore_n 2, 1) := by decide +kernel
theorem d_Mo_worst_2 : decode c_Mo_worst 2 = .ok (.iconst 0, 1) := by decide +kernel
theorem d_Mo_worst_3 : decode c_Mo_worst 3 = .ok (.istore_n 3, 1) := by decide +kernel
theorem d_Mo_worst_4 : decode c_Mo_worst 4 = .ok (.iload_n 3, 1) := by decide +kernel
theorem d_Mo_worst_5 : decode c_Mo_worst 5 = .ok (.iload_n 1, 1) := by decide +kernel
theorem d_Mo_worst_6 : decode c_Mo_worst 6 = .ok (.if_icmp .ge 74, 3) := by decide +kernel
theorem d_Mo_worst_9 : decode c_Mo_worst 9 = .ok (.aload_n 0, 1) := by decide +kernel
theorem d_Mo_worst_10 : decode c_Mo_worst 10 = .ok (.getfield 29, 3) := by decide +kernel
theorem d_Mo_worst_13 : decode c_Mo_worst 13 = .ok (.iload_n 1, 1) := by decide +kernel
theorem d_Mo_worst_14 : decode c_Mo_worst 14 = .ok (.iaload, 1) := by decide +kernel
theorem d_Mo_worst_15 : decode c_Mo_worst 15 = .ok (.iconst (-1), 1) := by decide +kernel
theorem d_Mo_worst_16 : decode c_Mo_worst 16 = .ok (.if_icmp .eq 42, 3) := by decide +kernel
theorem d_Mo_worst_19 : decode c_Mo_worst 19 = .ok (.aload_n 0, 1) := by decide +kernel
theorem d_Mo_worst_20 : decode c_Mo_worst 20 = .ok (.getfield 29, 3) := by decide +kernel
theorem d_Mo_worst_23 : decode c_Mo_worst 23 = .ok (.iload_n 3, 1) := by decide +kernel
theorem d_Mo_worst_24 : decode c_Mo_worst 24 = .ok (.iaload, 1) := by decide +kernel
theorem d_Mo_worst_25 : decode c_Mo_worst 25 = .ok (.aload_n 0, 1) := by decide +kernel
theorem d_Mo_worst_26 : decode c_Mo_worst 26 = .ok (.getfield 29, 3) := by decide +kernel
theorem d_Mo_worst_29 : decode c_Mo_worst 29 = .ok (.iload_n 1, 1) := by decide +kernel
theorem d_Mo_worst_30 : decode c_Mo_worst 30 = .ok (.iaload, 1) := by decide +kernel
theorem d_Mo_worst_31 : decode c_Mo_worst 31 = .ok (.if_icmp .ne 27, 3) := by decide +kernel
theorem d_Mo_worst_34 : decode c_Mo_worst 34 = .ok (.aload_n 0, 1) := by decide +kernel
theorem d_Mo_worst_35 : decode c_Mo_worst 35 = .ok (.getfield 7, 3) := by decide +kernel
theorem d_Mo_worst_38 : decode c_Mo_worst 38 = .ok (.bipush 10, 2) := by decide +kernel
theorem d_Mo_worst_40 : decode c_Mo_worst 40 = .ok (.aload_n 0, 1) := by decide +kernel
theorem d_Mo_worst_41 : decode c_Mo_worst 41 = .ok (.getfield 32, 3) := by decide +kernel
theorem d_Mo_worst_44 : decode c_Mo_worst 44 = .ok (.iload_n 1, 1) := by decide +kernel
theorem d_Mo_worst_45 : decode c_Mo_worst 45 = .ok (.iaload, 1) := by decide +kernel
theorem d_Mo_worst_46 : decode c_Mo_worst 46 = .ok (.imul, 1) := by decide +kernel
theorem d_Mo_worst_47 : decode c_Mo_worst 47 = .ok (.aload_n 0, 1) := by decide +kernel
theorem d_Mo_worst_48 : decode c_Mo_worst 48 = .ok (.getfield 32, 3) := by decide +kernel
theorem d_Mo_worst_51 : decode c_Mo_worst 51 = .ok (.iload_n 3, 1) := by decide +kernel
theorem d_Mo_worst_52 : decode c_Mo_worst 52 = .ok (.iaload, 1) := by decide +kernel
theorem d_Mo_worst_53 : decode c_Mo_worst 53 = .ok (.iadd, 1) := by decide +kernel
theorem d_Mo_worst_54 : decode c_Mo_worst 54 = .ok (.iaload, 1) := by decide +kernel
theorem d_Mo_worst_55 : decode c_Mo_worst 55 = .ok (.goto 4, 3) := by decide +kernel
theorem d_Mo_worst_58 : decode c_Mo_worst 58 = .ok (.iconst 0, 1) := by decide +kernel
theorem d_Mo_worst_59 : decode c_Mo_worst 59 = .ok (.istore 4, 2) := by decide +kernel
theorem d_Mo_worst_61 : decode c_Mo_worst 61 = .ok (.iload 4, 2) := by decide +kernel
theorem d_Mo_worst_63 : decode c_Mo_worst 63 = .ok (.iload_n 2, 1) := by decide +kernel
theorem d_Mo_worst_64 : decode c_Mo_worst 64 = .ok (.if_icmp .le 8, 3) := by decide +kernel
theorem d_Mo_worst_67 : decode c_Mo_worst 67 = .ok (.iload 4, 2) := by decide +kernel
theorem d_Mo_worst_69 : decode c_Mo_worst 69 = .ok (.goto 4, 3) := by decide +kernel
theorem d_Mo_worst_72 : decode c_Mo_worst 72 = .ok (.iload_n 2, 1) := by decide +kernel
theorem d_Mo_worst_73 : decode c_Mo_worst 73 = .ok (.istore_n 2, 1) := by decide +kernel
theorem d_Mo_worst_74 : decode c_Mo_worst 74 = .ok (.iinc 3 1, 3) := by decide +kernel
theorem d_Mo_worst_77 : decode c_Mo_worst 77 = .ok (.goto (-73), 3) := by decide +kernel
theorem d_Mo_worst_80 : decode c_Mo_worst 80 = .ok (.iload_n 2, 1) := by decide +kernel
theorem d_Mo_worst_81 : decode c_Mo_worst 81 = .ok (.ireturn, 1) := by decide +kernel
abbrev c_Mo_isNamedBefore : ByteArray := prog_14_method_38_code
abbrev r_Mo_isNamedBefore : Option FieldType := (some FieldType.boolean)
def y_Mo_isNamedBefore : MethodName := ⟨"PinKindChecksModel", "isNamedBefore", "(I)Z"⟩
theorem d_Mo_isNamedBefore_0 : decode c_Mo_isNamedBefore 0 = .ok (.iconst 0, 1) := by decide +kernel
theorem d_Mo_isNamedBefore_1 : decode c_Mo_isNamedBefore 1 = .ok (.istore_n 2, 1) := by decide +kernel
theorem d_Mo_isNamedBefore_2 : decode c_Mo_isNamedBefore 2 = .ok (.iconst 0, 1) := by decide +kernel
theorem d_Mo_isNamedBefore_3 : decode c_Mo_isNamedBefore 3 = .ok (.istore_n 3, 1) := by decide +kernel
theorem d_Mo_isNamedBefore_4 : decode c_Mo_isNamedBefore 4 = .ok (.iload_n 3, 1) := by decide +kernel
theorem d_Mo_isNamedBefore_5 : decode c_Mo_isNamedBefore 5 = .ok (.iload_n 1, 1) := by decide +kernel
theorem d_Mo_isNamedBefore_6 : decode c_Mo_isNamedBefore 6 = .ok (.if_icmp .ge 34, 3) := by decide +kernel
theorem d_Mo_isNamedBefore_9 : decode c_Mo_isNamedBefore 9 = .ok (.iload_n 2, 1) := by decide +kernel
theorem d_Mo_isNamedBefore_10 : decode c_Mo_isNamedBefore 10 = .ok (.ifCond .ne 18, 3) := by decide +kernel
theorem d_Mo_isNamedBefore_13 : decode c_Mo_isNamedBefore 13 = .ok (.aload_n 0, 1) := by decide +kernel
theorem d_Mo_isNamedBefore_14 : decode c_Mo_isNamedBefore 14 = .ok (.getfield 23, 3) := by decide +kernel
theorem d_Mo_isNamedBefore_17 : decode c_Mo_isNamedBefore 17 = .ok (.iload_n 3, 1) := by decide +kernel
theorem d_Mo_isNamedBefore_18 : decode c_Mo_isNamedBefore 18 = .ok (.iaload, 1) := by decide +kernel
theorem d_Mo_isNamedBefore_19 : decode c_Mo_isNamedBefore 19 = .ok (.aload_n 0, 1) := by decide +kernel
theorem d_Mo_isNamedBefore_20 : decode c_Mo_isNamedBefore 20 = .ok (.getfield 23, 3) := by decide +kernel
theorem d_Mo_isNamedBefore_23 : decode c_Mo_isNamedBefore 23 = .ok (.iload_n 1, 1) := by decide +kernel
theorem d_Mo_isNamedBefore_24 : decode c_Mo_isNamedBefore 24 = .ok (.iaload, 1) := by decide +kernel
theorem d_Mo_isNamedBefore_25 : decode c_Mo_isNamedBefore 25 = .ok (.if_icmp .ne 7, 3) := by decide +kernel
theorem d_Mo_isNamedBefore_28 : decode c_Mo_isNamedBefore 28 = .ok (.iconst 1, 1) := by decide +kernel
theorem d_Mo_isNamedBefore_29 : decode c_Mo_isNamedBefore 29 = .ok (.goto 4, 3) := by decide +kernel
theorem d_Mo_isNamedBefore_32 : decode c_Mo_isNamedBefore 32 = .ok (.iconst 0, 1) := by decide +kernel
theorem d_Mo_isNamedBefore_33 : decode c_Mo_isNamedBefore 33 = .ok (.istore_n 2, 1) := by decide +kernel
theorem d_Mo_isNamedBefore_34 : decode c_Mo_isNamedBefore 34 = .ok (.iinc 3 1, 3) := by decide +kernel
theorem d_Mo_isNamedBefore_37 : decode c_Mo_isNamedBefore 37 = .ok (.goto (-33), 3) := by decide +kernel
theorem d_Mo_isNamedBefore_40 : decode c_Mo_isNamedBefore 40 = .ok (.iload_n 2, 1) := by decide +kernel
theorem d_Mo_isNamedBefore_41 : decode c_Mo_isNamedBefore 41 = .ok (.ireturn, 1) := by decide +kernel
abbrev c_Mo_isOffGrid : ByteArray := prog_14_method_39_code
abbrev r_Mo_isOffGrid : Option FieldType := (some FieldType.boolean)
def y_Mo_isOffGrid : MethodName := ⟨"PinKindChecksModel", "isOffGrid", "(I)Z"⟩
theorem d_Mo_isOffGrid_0 : decode c_Mo_isOffGrid 0 = .ok (.iconst 0, 1) := by decide +kernel
theorem d_Mo_isOffGrid_1 : decode c_Mo_isOffGrid 1 = .ok (.istore_n 2, 1) := by decide +kernel
theorem d_Mo_isOffGrid_2 : decode c_Mo_isOffGrid 2 = .ok (.iconst 0, 1) := by decide +kernel
theorem d_Mo_isOffGrid_3 : decode c_Mo_isOffGrid 3 = .ok (.istore_n 3, 1) := by decide +kernel
theorem d_Mo_isOffGrid_4 : decode c_Mo_isOffGrid 4 = .ok (.iload_n 3, 1) := by decide +kernel
theorem d_Mo_isOffGrid_5 : decode c_Mo_isOffGrid 5 = .ok (.aload_n 0, 1) := by decide +kernel
theorem d_Mo_isOffGrid_6 : decode c_Mo_isOffGrid 6 = .ok (.getfield 116, 3) := by decide +kernel
theorem d_Mo_isOffGrid_9 : decode c_Mo_isOffGrid 9 = .ok (.if_icmp .ge 59, 3) := by decide +kernel
theorem d_Mo_isOffGrid_12 : decode c_Mo_isOffGrid 12 = .ok (.iload_n 2, 1) := by decide +kernel
theorem d_Mo_isOffGrid_13 : decode c_Mo_isOffGrid 13 = .ok (.ifCond .ne 43, 3) := by decide +kernel
theorem d_Mo_isOffGrid_16 : decode c_Mo_isOffGrid 16 = .ok (.aload_n 0, 1) := by decide +kernel
theorem d_Mo_isOffGrid_17 : decode c_Mo_isOffGrid 17 = .ok (.getfield 35, 3) := by decide +kernel
theorem d_Mo_isOffGrid_20 : decode c_Mo_isOffGrid 20 = .ok (.iload_n 3, 1) := by decide +kernel
theorem d_Mo_isOffGrid_21 : decode c_Mo_isOffGrid 21 = .ok (.iaload, 1) := by decide +kernel
theorem d_Mo_isOffGrid_22 : decode c_Mo_isOffGrid 22 = .ok (.iload_n 1, 1) := by decide +kernel
theorem d_Mo_isOffGrid_23 : decode c_Mo_isOffGrid 23 = .ok (.if_icmp .ne 37, 3) := by decide +kernel
theorem d_Mo_isOffGrid_26 : decode c_Mo_isOffGrid 26 = .ok (.aload_n 0, 1) := by decide +kernel
theorem d_Mo_isOffGrid_27 : decode c_Mo_isOffGrid 27 = .ok (.getfield 38, 3) := by decide +kernel
theorem d_Mo_isOffGrid_30 : decode c_Mo_isOffGrid 30 = .ok (.iload_n 3, 1) := by decide +kernel
theorem d_Mo_isOffGrid_31 : decode c_Mo_isOffGrid 31 = .ok (.laload, 1) := by decide +kernel
theorem d_Mo_isOffGrid_32 : decode c_Mo_isOffGrid 32 = .ok (.ldc2_w 237, 3) := by decide +kernel
theorem d_Mo_isOffGrid_35 : decode c_Mo_isOffGrid 35 = .ok (.lrem, 1) := by decide +kernel
theorem d_Mo_isOffGrid_36 : decode c_Mo_isOffGrid 36 = .ok (.lconst 0, 1) := by decide +kernel
theorem d_Mo_isOffGrid_37 : decode c_Mo_isOffGrid 37 = .ok (.lcmp, 1) := by decide +kernel
theorem d_Mo_isOffGrid_38 : decode c_Mo_isOffGrid 38 = .ok (.ifCond .ne 18, 3) := by decide +kernel
theorem d_Mo_isOffGrid_41 : decode c_Mo_isOffGrid 41 = .ok (.aload_n 0, 1) := by decide +kernel
theorem d_Mo_isOffGrid_42 : decode c_Mo_isOffGrid 42 = .ok (.getfield 41, 3) := by decide +kernel
theorem d_Mo_isOffGrid_45 : decode c_Mo_isOffGrid 45 = .ok (.iload_n 3, 1) := by decide +kernel
theorem d_Mo_isOffGrid_46 : decode c_Mo_isOffGrid 46 = .ok (.laload, 1) := by decide +kernel
theorem d_Mo_isOffGrid_47 : decode c_Mo_isOffGrid 47 = .ok (.ldc2_w 237, 3) := by decide +kernel
theorem d_Mo_isOffGrid_50 : decode c_Mo_isOffGrid 50 = .ok (.lrem, 1) := by decide +kernel
theorem d_Mo_isOffGrid_51 : decode c_Mo_isOffGrid 51 = .ok (.lconst 0, 1) := by decide +kernel
theorem d_Mo_isOffGrid_52 : decode c_Mo_isOffGrid 52 = .ok (.lcmp, 1) := by decide +kernel
theorem d_Mo_isOffGrid_53 : decode c_Mo_isOffGrid 53 = .ok (.ifCond .eq 7, 3) := by decide +kernel
theorem d_Mo_isOffGrid_56 : decode c_Mo_isOffGrid 56 = .ok (.iconst 1, 1) := by decide +kernel
theorem d_Mo_isOffGrid_57 : decode c_Mo_isOffGrid 57 = .ok (.goto 4, 3) := by decide +kernel
theorem d_Mo_isOffGrid_60 : decode c_Mo_isOffGrid 60 = .ok (.iconst 0, 1) := by decide +kernel
theorem d_Mo_isOffGrid_61 : decode c_Mo_isOffGrid 61 = .ok (.istore_n 2, 1) := by decide +kernel
theorem d_Mo_isOffGrid_62 : decode c_Mo_isOffGrid 62 = .ok (.iinc 3 1, 3) := by decide +kernel
theorem d_Mo_isOffGrid_65 : decode c_Mo_isOffGrid 65 = .ok (.goto (-61), 3) := by decide +kernel
theorem d_Mo_isOffGrid_68 : decode c_Mo_isOffGrid 68 = .ok (.iload_n 2, 1) := by decide +kernel
theorem d_Mo_isOffGrid_69 : decode c_Mo_isOffGrid 69 = .ok (.ireturn, 1) := by decide +kernel
abbrev c_Mo_reason : ByteArray := prog_14_method_44_code
abbrev r_Mo_reason : Option FieldType := (some FieldType.int)
def y_Mo_reason : MethodName := ⟨"PinKindChecksModel", "reason", "(I)I"⟩
theorem d_Mo_reason_0 : decode c_Mo_reason 0 = .ok (.iconst (-1), 1) := by decide +kernel
theorem d_Mo_reason_1 : decode c_Mo_reason 1 = .ok (.istore_n 2, 1) := by decide +kernel
theorem d_Mo_reason_2 : decode c_Mo_reason 2 = .ok (.iconst 0, 1) := by decide +kernel
theorem d_Mo_reason_3 : decode c_Mo_reason 3 = .ok (.istore_n 3, 1) := by decide +kernel
theorem d_Mo_reason_4 : decode c_Mo_reason 4 = .ok (.iload_n 3, 1) := by decide +kernel
theorem d_Mo_reason_5 : decode c_Mo_reason 5 = .ok (.aload_n 0, 1) := by decide +kernel
theorem d_Mo_reason_6 : decode c_Mo_reason 6 = .ok (.getfield 268, 3) := by decide +kernel
theorem d_Mo_reason_9 : decode c_Mo_reason 9 = .ok (.if_icmp .ge 30, 3) := by decide +kernel
theorem d_Mo_reason_12 : decode c_Mo_reason 12 = .ok (.aload_n 0, 1) := by decide +kernel
theorem d_Mo_reason_13 : decode c_Mo_reason 13 = .ok (.getfield 79, 3) := by decide +kernel
theorem d_Mo_reason_16 : decode c_Mo_reason 16 = .ok (.iload_n 3, 1) := by decide +kernel
theorem d_Mo_reason_17 : decode c_Mo_reason 17 = .ok (.iaload, 1) := by decide +kernel
theorem d_Mo_reason_18 : decode c_Mo_reason 18 = .ok (.iload_n 1, 1) := by decide +kernel
theorem d_Mo_reason_19 : decode c_Mo_reason 19 = .ok (.if_icmp .ne 12, 3) := by decide +kernel
theorem d_Mo_reason_22 : decode c_Mo_reason 22 = .ok (.aload_n 0, 1) := by decide +kernel
theorem d_Mo_reason_23 : decode c_Mo_reason 23 = .ok (.getfield 82, 3) := by decide +kernel
theorem d_Mo_reason_26 : decode c_Mo_reason 26 = .ok (.iload_n 3, 1) := by decide +kernel
theorem d_Mo_reason_27 : decode c_Mo_reason 27 = .ok (.iaload, 1) := by decide +kernel
theorem d_Mo_reason_28 : decode c_Mo_reason 28 = .ok (.goto 4, 3) := by decide +kernel
theorem d_Mo_reason_31 : decode c_Mo_reason 31 = .ok (.iload_n 2, 1) := by decide +kernel
theorem d_Mo_reason_32 : decode c_Mo_reason 32 = .ok (.istore_n 2, 1) := by decide +kernel
theorem d_Mo_reason_33 : decode c_Mo_reason 33 = .ok (.iinc 3 1, 3) := by decide +kernel
theorem d_Mo_reason_36 : decode c_Mo_reason 36 = .ok (.goto (-32), 3) := by decide +kernel
theorem d_Mo_reason_39 : decode c_Mo_reason 39 = .ok (.iload_n 2, 1) := by decide +kernel
theorem d_Mo_reason_40 : decode c_Mo_reason 40 = .ok (.ireturn, 1) := by decide +kernel
abbrev c_Mo_remark : ByteArray := prog_14_method_48_code
abbrev r_Mo_remark : Option FieldType := (some FieldType.int)
def y_Mo_remark : MethodName := ⟨"PinKindChecksModel", "remark", "(II)I"⟩
theorem d_Mo_remark_0 : decode c_Mo_remark 0 = .ok (.aload_n 0, 1) := by decide +kernel
theorem d_Mo_remark_1 : decode c_Mo_remark 1 = .ok (.iload_n 1, 1) := by decide +kernel
theorem d_Mo_remark_2 : decode c_Mo_remark 2 = .ok (.iconst 0, 1) := by decide +kernel
theorem d_Mo_remark_3 : decode c_Mo_remark 3 = .ok (.invokevirtual 271, 3) := by decide +kernel
theorem d_Mo_remark_6 : decode c_Mo_remark 6 = .ok (.istore_n 3, 1) := by decide +kernel
theorem d_Mo_remark_7 : decode c_Mo_remark 7 = .ok (.aload_n 0, 1) := by decide +kernel
theorem d_Mo_remark_8 : decode c_Mo_remark 8 = .ok (.iload_n 3, 1) := by decide +kernel
theorem d_Mo_remark_9 : decode c_Mo_remark 9 = .ok (.iconst (-1), 1) := by decide +kernel
theorem d_Mo_remark_10 : decode c_Mo_remark 10 = .ok (.if_icmp .eq 12, 3) := by decide +kernel
theorem d_Mo_remark_13 : decode c_Mo_remark 13 = .ok (.iload_n 2, 1) := by decide +kernel
theorem d_Mo_remark_14 : decode c_Mo_remark 14 = .ok (.ifCond .lt 8, 3) := by decide +kernel
theorem d_Mo_remark_17 : decode c_Mo_remark 17 = .ok (.iload_n 2, 1) := by decide +kernel
theorem d_Mo_remark_18 : decode c_Mo_remark 18 = .ok (.iconst 5, 1) := by decide +kernel
theorem d_Mo_remark_19 : decode c_Mo_remark 19 = .ok (.if_icmp .le 7, 3) := by decide +kernel
theorem d_Mo_remark_22 : decode c_Mo_remark 22 = .ok (.iconst 1, 1) := by decide +kernel
theorem d_Mo_remark_23 : decode c_Mo_remark 23 = .ok (.goto 4, 3) := by decide +kernel
theorem d_Mo_remark_26 : decode c_Mo_remark 26 = .ok (.iconst 0, 1) := by decide +kernel
theorem d_Mo_remark_27 : decode c_Mo_remark 27 = .ok (.putfield 91, 3) := by decide +kernel
theorem d_Mo_remark_30 : decode c_Mo_remark 30 = .ok (.aload_n 0, 1) := by decide +kernel
theorem d_Mo_remark_31 : decode c_Mo_remark 31 = .ok (.getfield 91, 3) := by decide +kernel
theorem d_Mo_remark_34 : decode c_Mo_remark 34 = .ok (.ifCond .eq 5, 3) := by decide +kernel
theorem d_Mo_remark_37 : decode c_Mo_remark 37 = .ok (.iconst 0, 1) := by decide +kernel
theorem d_Mo_remark_38 : decode c_Mo_remark 38 = .ok (.ireturn, 1) := by decide +kernel
theorem d_Mo_remark_39 : decode c_Mo_remark 39 = .ok (.iload_n 2, 1) := by decide +kernel
theorem d_Mo_remark_40 : decode c_Mo_remark 40 = .ok (.tableswitch 66 0 4 #[36, 42, 47, 52, 59], 36) := by decide +kernel
theorem d_Mo_remark_76 : decode c_Mo_remark 76 = .ok (.iload_n 3, 1) := by decide +kernel
theorem d_Mo_remark_77 : decode c_Mo_remark 77 = .ok (.sipush 240, 3) := by decide +kernel
theorem d_Mo_remark_80 : decode c_Mo_remark 80 = .ok (.idiv, 1) := by decide +kernel
theorem d_Mo_remark_81 : decode c_Mo_remark 81 = .ok (.ireturn, 1) := by decide +kernel
theorem d_Mo_remark_82 : decode c_Mo_remark 82 = .ok (.iload_n 3, 1) := by decide +kernel
theorem d_Mo_remark_83 : decode c_Mo_remark 83 = .ok (.invokestatic 275, 3) := by decide +kernel
theorem d_Mo_remark_86 : decode c_Mo_remark 86 = .ok (.ireturn, 1) := by decide +kernel
theorem d_Mo_remark_87 : decode c_Mo_remark 87 = .ok (.iload_n 3, 1) := by decide +kernel
theorem d_Mo_remark_88 : decode c_Mo_remark 88 = .ok (.invokestatic 278, 3) := by decide +kernel
theorem d_Mo_remark_91 : decode c_Mo_remark 91 = .ok (.ireturn, 1) := by decide +kernel
theorem d_Mo_remark_92 : decode c_Mo_remark 92 = .ok (.aload_n 0, 1) := by decide +kernel
theorem d_Mo_remark_93 : decode c_Mo_remark 93 = .ok (.getfield 73, 3) := by decide +kernel
theorem d_Mo_remark_96 : decode c_Mo_remark 96 = .ok (.iload_n 3, 1) := by decide +kernel
theorem d_Mo_remark_97 : decode c_Mo_remark 97 = .ok (.iaload, 1) := by decide +kernel
theorem d_Mo_remark_98 : decode c_Mo_remark 98 = .ok (.ireturn, 1) := by decide +kernel
theorem d_Mo_remark_99 : decode c_Mo_remark 99 = .ok (.aload_n 0, 1) := by decide +kernel
theorem d_Mo_remark_100 : decode c_Mo_remark 100 = .ok (.getfield 70, 3) := by decide +kernel
theorem d_Mo_remark_103 : decode c_Mo_remark 103 = .ok (.iload_n 3, 1) := by decide +kernel
theorem d_Mo_remark_104 : decode c_Mo_remark 104 = .ok (.iaload, 1) := by decide +kernel
theorem d_Mo_remark_105 : decode c_Mo_remark 105 = .ok (.ireturn, 1) := by decide +kernel
theorem d_Mo_remark_106 : decode c_Mo_remark 106 = .ok (.aload_n 0, 1) := by decide +kernel
theorem d_Mo_remark_107 : decode c_Mo_remark 107 = .ok (.iload_n 3, 1) := by decide +kernel
theorem d_Mo_remark_108 : decode c_Mo_remark 108 = .ok (.invokevirtual 261, 3) := by decide +kernel
theorem d_Mo_remark_111 : decode c_Mo_remark 111 = .ok (.ireturn, 1) := by decide +kernel
abbrev c_Mo_remarkAt : ByteArray := prog_14_method_45_code
abbrev r_Mo_remarkAt : Option FieldType := (some FieldType.int)
def y_Mo_remarkAt : MethodName := ⟨"PinKindChecksModel", "remarkAt", "(IZ)I"⟩
theorem d_Mo_remarkAt_0 : decode c_Mo_remarkAt 0 = .ok (.iload_n 1, 1) := by decide +kernel
theorem d_Mo_remarkAt_1 : decode c_Mo_remarkAt 1 = .ok (.istore_n 3, 1) := by decide +kernel
theorem d_Mo_remarkAt_2 : decode c_Mo_remarkAt 2 = .ok (.iconst 0, 1) := by decide +kernel
theorem d_Mo_remarkAt_3 : decode c_Mo_remarkAt 3 = .ok (.istore 4, 2) := by decide +kernel
theorem d_Mo_remarkAt_5 : decode c_Mo_remarkAt 5 = .ok (.iload 4, 2) := by decide +kernel
theorem d_Mo_remarkAt_7 : decode c_Mo_remarkAt 7 = .ok (.bipush 16, 2) := by decide +kernel
theorem d_Mo_remarkAt_9 : decode c_Mo_remarkAt 9 = .ok (.if_icmp .ge 177, 3) := by decide +kernel
theorem d_Mo_remarkAt_12 : decode c_Mo_remarkAt 12 = .ok (.iload_n 1, 1) := by decide +kernel
theorem d_Mo_remarkAt_13 : decode c_Mo_remarkAt 13 = .ok (.ifCond .lt 173, 3) := by decide +kernel
theorem d_Mo_remarkAt_16 : decode c_Mo_remarkAt 16 = .ok (.aload_n 0, 1) := by decide +kernel
theorem d_Mo_remarkAt_17 : decode c_Mo_remarkAt 17 = .ok (.getfield 264, 3) := by decide +kernel
theorem d_Mo_remarkAt_20 : decode c_Mo_remarkAt 20 = .ok (.ifCond .eq 166, 3) := by decide +kernel
theorem d_Mo_remarkAt_23 : decode c_Mo_remarkAt 23 = .ok (.iconst 0, 1) := by decide +kernel
theorem d_Mo_remarkAt_24 : decode c_Mo_remarkAt 24 = .ok (.istore 5, 2) := by decide +kernel
theorem d_Mo_remarkAt_26 : decode c_Mo_remarkAt 26 = .ok (.iload 5, 2) := by decide +kernel
theorem d_Mo_remarkAt_28 : decode c_Mo_remarkAt 28 = .ok (.iconst 3, 1) := by decide +kernel
theorem d_Mo_remarkAt_29 : decode c_Mo_remarkAt 29 = .ok (.if_icmp .ge 151, 3) := by decide +kernel
theorem d_Mo_remarkAt_32 : decode c_Mo_remarkAt 32 = .ok (.iconst 0, 1) := by decide +kernel
theorem d_Mo_remarkAt_33 : decode c_Mo_remarkAt 33 = .ok (.istore 6, 2) := by decide +kernel
theorem d_Mo_remarkAt_35 : decode c_Mo_remarkAt 35 = .ok (.iload 6, 2) := by decide +kernel
theorem d_Mo_remarkAt_37 : decode c_Mo_remarkAt 37 = .ok (.aload_n 0, 1) := by decide +kernel
theorem d_Mo_remarkAt_38 : decode c_Mo_remarkAt 38 = .ok (.iload 5, 2) := by decide +kernel
theorem d_Mo_remarkAt_40 : decode c_Mo_remarkAt 40 = .ok (.invokevirtual 252, 3) := by decide +kernel
theorem d_Mo_remarkAt_43 : decode c_Mo_remarkAt 43 = .ok (.if_icmp .ge 131, 3) := by decide +kernel
theorem d_Mo_remarkAt_46 : decode c_Mo_remarkAt 46 = .ok (.aload_n 0, 1) := by decide +kernel
theorem d_Mo_remarkAt_47 : decode c_Mo_remarkAt 47 = .ok (.iload 5, 2) := by decide +kernel
theorem d_Mo_remarkAt_49 : decode c_Mo_remarkAt 49 = .ok (.iload 6, 2) := by decide +kernel
theorem d_Mo_remarkAt_51 : decode c_Mo_remarkAt 51 = .ok (.invokevirtual 226, 3) := by decide +kernel
theorem d_Mo_remarkAt_54 : decode c_Mo_remarkAt 54 = .ok (.iload 4, 2) := by decide +kernel
theorem d_Mo_remarkAt_56 : decode c_Mo_remarkAt 56 = .ok (.if_icmp .eq 6, 3) := by decide +kernel
theorem d_Mo_remarkAt_59 : decode c_Mo_remarkAt 59 = .ok (.goto 109, 3) := by decide +kernel
theorem d_Mo_remarkAt_62 : decode c_Mo_remarkAt 62 = .ok (.iconst 0, 1) := by decide +kernel
theorem d_Mo_remarkAt_63 : decode c_Mo_remarkAt 63 = .ok (.istore 7, 2) := by decide +kernel
theorem d_Mo_remarkAt_65 : decode c_Mo_remarkAt 65 = .ok (.iload 7, 2) := by decide +kernel
theorem d_Mo_remarkAt_67 : decode c_Mo_remarkAt 67 = .ok (.bipush 27, 2) := by decide +kernel
theorem d_Mo_remarkAt_69 : decode c_Mo_remarkAt 69 = .ok (.if_icmp .ge 99, 3) := by decide +kernel
theorem d_Mo_remarkAt_72 : decode c_Mo_remarkAt 72 = .ok (.sipush 240, 3) := by decide +kernel
theorem d_Mo_remarkAt_75 : decode c_Mo_remarkAt 75 = .ok (.iload 7, 2) := by decide +kernel
theorem d_Mo_remarkAt_77 : decode c_Mo_remarkAt 77 = .ok (.imul, 1) := by decide +kernel
theorem d_Mo_remarkAt_78 : decode c_Mo_remarkAt 78 = .ok (.iload 5, 2) := by decide +kernel
theorem d_Mo_remarkAt_80 : decode c_Mo_remarkAt 80 = .ok (.iload 6, 2) := by decide +kernel
theorem d_Mo_remarkAt_82 : decode c_Mo_remarkAt 82 = .ok (.invokestatic 255, 3) := by decide +kernel
theorem d_Mo_remarkAt_85 : decode c_Mo_remarkAt 85 = .ok (.iadd, 1) := by decide +kernel
theorem d_Mo_remarkAt_86 : decode c_Mo_remarkAt 86 = .ok (.istore 8, 2) := by decide +kernel
theorem d_Mo_remarkAt_88 : decode c_Mo_remarkAt 88 = .ok (.iload_n 2, 1) := by decide +kernel
theorem d_Mo_remarkAt_89 : decode c_Mo_remarkAt 89 = .ok (.ifCond .eq 31, 3) := by decide +kernel
theorem d_Mo_remarkAt_92 : decode c_Mo_remarkAt 92 = .ok (.aload_n 0, 1) := by decide +kernel
theorem d_Mo_remarkAt_93 : decode c_Mo_remarkAt 93 = .ok (.getfield 76, 3) := by decide +kernel
theorem d_Mo_remarkAt_96 : decode c_Mo_remarkAt 96 = .ok (.iload 8, 2) := by decide +kernel
theorem d_Mo_remarkAt_98 : decode c_Mo_remarkAt 98 = .ok (.iaload, 1) := by decide +kernel
theorem d_Mo_remarkAt_99 : decode c_Mo_remarkAt 99 = .ok (.ifCond .le 17, 3) := by decide +kernel
theorem d_Mo_remarkAt_102 : decode c_Mo_remarkAt 102 = .ok (.aload_n 0, 1) := by decide +kernel
theorem d_Mo_remarkAt_103 : decode c_Mo_remarkAt 103 = .ok (.getfield 70, 3) := by decide +kernel
theorem d_Mo_remarkAt_106 : decode c_Mo_remarkAt 106 = .ok (.iload 8, 2) := by decide +kernel
theorem d_Mo_remarkAt_108 : decode c_Mo_remarkAt 108 = .ok (.iaload, 1) := by decide +kernel
theorem d_Mo_remarkAt_109 : decode c_Mo_remarkAt 109 = .ok (.ifCond .ne 7, 3) := by decide +kernel
theorem d_Mo_remarkAt_112 : decode c_Mo_remarkAt 112 = .ok (.iconst 1, 1) := by decide +kernel
theorem d_Mo_remarkAt_113 : decode c_Mo_remarkAt 113 = .ok (.goto 22, 3) := by decide +kernel
theorem d_Mo_remarkAt_116 : decode c_Mo_remarkAt 116 = .ok (.iconst 0, 1) := by decide +kernel
theorem d_Mo_remarkAt_117 : decode c_Mo_remarkAt 117 = .ok (.goto 18, 3) := by decide +kernel
theorem d_Mo_remarkAt_120 : decode c_Mo_remarkAt 120 = .ok (.aload_n 0, 1) := by decide +kernel
theorem d_Mo_remarkAt_121 : decode c_Mo_remarkAt 121 = .ok (.getfield 70, 3) := by decide +kernel
theorem d_Mo_remarkAt_124 : decode c_Mo_remarkAt 124 = .ok (.iload 8, 2) := by decide +kernel
theorem d_Mo_remarkAt_126 : decode c_Mo_remarkAt 126 = .ok (.iaload, 1) := by decide +kernel
theorem d_Mo_remarkAt_127 : decode c_Mo_remarkAt 127 = .ok (.ifCond .le 7, 3) := by decide +kernel
theorem d_Mo_remarkAt_130 : decode c_Mo_remarkAt 130 = .ok (.iconst 1, 1) := by decide +kernel
theorem d_Mo_remarkAt_131 : decode c_Mo_remarkAt 131 = .ok (.goto 4, 3) := by decide +kernel
theorem d_Mo_remarkAt_134 : decode c_Mo_remarkAt 134 = .ok (.iconst 0, 1) := by decide +kernel
theorem d_Mo_remarkAt_135 : decode c_Mo_remarkAt 135 = .ok (.istore 9, 2) := by decide +kernel
theorem d_Mo_remarkAt_137 : decode c_Mo_remarkAt 137 = .ok (.iload 9, 2) := by decide +kernel
theorem d_Mo_remarkAt_139 : decode c_Mo_remarkAt 139 = .ok (.ifCond .eq 10, 3) := by decide +kernel
theorem d_Mo_remarkAt_142 : decode c_Mo_remarkAt 142 = .ok (.iload_n 3, 1) := by decide +kernel
theorem d_Mo_remarkAt_143 : decode c_Mo_remarkAt 143 = .ok (.ifCond .ne 6, 3) := by decide +kernel
theorem d_Mo_remarkAt_146 : decode c_Mo_remarkAt 146 = .ok (.iload 8, 2) := by decide +kernel
theorem d_Mo_remarkAt_148 : decode c_Mo_remarkAt 148 = .ok (.ireturn, 1) := by decide +kernel
theorem d_Mo_remarkAt_149 : decode c_Mo_remarkAt 149 = .ok (.iload_n 3, 1) := by decide +kernel
theorem d_Mo_remarkAt_150 : decode c_Mo_remarkAt 150 = .ok (.iload 9, 2) := by decide +kernel
theorem d_Mo_remarkAt_152 : decode c_Mo_remarkAt 152 = .ok (.ifCond .eq 7, 3) := by decide +kernel
theorem d_Mo_remarkAt_155 : decode c_Mo_remarkAt 155 = .ok (.iconst 1, 1) := by decide +kernel
theorem d_Mo_remarkAt_156 : decode c_Mo_remarkAt 156 = .ok (.goto 4, 3) := by decide +kernel
theorem d_Mo_remarkAt_159 : decode c_Mo_remarkAt 159 = .ok (.iconst 0, 1) := by decide +kernel
theorem d_Mo_remarkAt_160 : decode c_Mo_remarkAt 160 = .ok (.isub, 1) := by decide +kernel
theorem d_Mo_remarkAt_161 : decode c_Mo_remarkAt 161 = .ok (.istore_n 3, 1) := by decide +kernel
theorem d_Mo_remarkAt_162 : decode c_Mo_remarkAt 162 = .ok (.iinc 7 1, 3) := by decide +kernel
theorem d_Mo_remarkAt_165 : decode c_Mo_remarkAt 165 = .ok (.goto (-100), 3) := by decide +kernel
theorem d_Mo_remarkAt_168 : decode c_Mo_remarkAt 168 = .ok (.iinc 6 1, 3) := by decide +kernel
theorem d_Mo_remarkAt_171 : decode c_Mo_remarkAt 171 = .ok (.goto (-136), 3) := by decide +kernel
theorem d_Mo_remarkAt_174 : decode c_Mo_remarkAt 174 = .ok (.iinc 5 1, 3) := by decide +kernel
theorem d_Mo_remarkAt_177 : decode c_Mo_remarkAt 177 = .ok (.goto (-151), 3) := by decide +kernel
theorem d_Mo_remarkAt_180 : decode c_Mo_remarkAt 180 = .ok (.iinc 4 1, 3) := by decide +kernel
theorem d_Mo_remarkAt_183 : decode c_Mo_remarkAt 183 = .ok (.goto (-178), 3) := by decide +kernel
theorem d_Mo_remarkAt_186 : decode c_Mo_remarkAt 186 = .ok (.iconst (-1), 1) := by decide +kernel
theorem d_Mo_remarkAt_187 : decode c_Mo_remarkAt 187 = .ok (.ireturn, 1) := by decide +kernel
abbrev c_Mo_kindOf : ByteArray := prog_14_method_46_code
abbrev r_Mo_kindOf : Option FieldType := (some FieldType.int)
def y_Mo_kindOf : MethodName := ⟨"PinKindChecksModel", "kindOf", "(I)I"⟩
theorem d_Mo_kindOf_0 : decode c_Mo_kindOf 0 = .ok (.iload_n 0, 1) := by decide +kernel
theorem d_Mo_kindOf_1 : decode c_Mo_kindOf 1 = .ok (.sipush 240, 3) := by decide +kernel
theorem d_Mo_kindOf_4 : decode c_Mo_kindOf 4 = .ok (.irem, 1) := by decide +kernel
theorem d_Mo_kindOf_5 : decode c_Mo_kindOf 5 = .ok (.istore_n 1, 1) := by decide +kernel
theorem d_Mo_kindOf_6 : decode c_Mo_kindOf 6 = .ok (.iload_n 1, 1) := by decide +kernel
theorem d_Mo_kindOf_7 : decode c_Mo_kindOf 7 = .ok (.bipush 40, 2) := by decide +kernel
theorem d_Mo_kindOf_9 : decode c_Mo_kindOf 9 = .ok (.if_icmp .ge 7, 3) := by decide +kernel
theorem d_Mo_kindOf_12 : decode c_Mo_kindOf 12 = .ok (.iconst 0, 1) := by decide +kernel
theorem d_Mo_kindOf_13 : decode c_Mo_kindOf 13 = .ok (.goto 14, 3) := by decide +kernel
theorem d_Mo_kindOf_16 : decode c_Mo_kindOf 16 = .ok (.iload_n 1, 1) := by decide +kernel
theorem d_Mo_kindOf_17 : decode c_Mo_kindOf 17 = .ok (.bipush 80, 2) := by decide +kernel
theorem d_Mo_kindOf_19 : decode c_Mo_kindOf 19 = .ok (.if_icmp .ge 7, 3) := by decide +kernel
theorem d_Mo_kindOf_22 : decode c_Mo_kindOf 22 = .ok (.iconst 1, 1) := by decide +kernel
theorem d_Mo_kindOf_23 : decode c_Mo_kindOf 23 = .ok (.goto 4, 3) := by decide +kernel
theorem d_Mo_kindOf_26 : decode c_Mo_kindOf 26 = .ok (.iconst 2, 1) := by decide +kernel
theorem d_Mo_kindOf_27 : decode c_Mo_kindOf 27 = .ok (.ireturn, 1) := by decide +kernel
abbrev c_Mo_numberOf : ByteArray := prog_14_method_47_code
abbrev r_Mo_numberOf : Option FieldType := (some FieldType.int)
def y_Mo_numberOf : MethodName := ⟨"PinKindChecksModel", "numberOf", "(I)I"⟩
theorem d_Mo_numberOf_0 : decode c_Mo_numberOf 0 = .ok (.iload_n 0, 1) := by decide +kernel
theorem d_Mo_numberOf_1 : decode c_Mo_numberOf 1 = .ok (.sipush 240, 3) := by decide +kernel
theorem d_Mo_numberOf_4 : decode c_Mo_numberOf 4 = .ok (.irem, 1) := by decide +kernel
theorem d_Mo_numberOf_5 : decode c_Mo_numberOf 5 = .ok (.istore_n 1, 1) := by decide +kernel
theorem d_Mo_numberOf_6 : decode c_Mo_numberOf 6 = .ok (.iload_n 1, 1) := by decide +kernel
theorem d_Mo_numberOf_7 : decode c_Mo_numberOf 7 = .ok (.bipush 40, 2) := by decide +kernel
theorem d_Mo_numberOf_9 : decode c_Mo_numberOf 9 = .ok (.if_icmp .ge 7, 3) := by decide +kernel
theorem d_Mo_numberOf_12 : decode c_Mo_numberOf 12 = .ok (.iload_n 1, 1) := by decide +kernel
theorem d_Mo_numberOf_13 : decode c_Mo_numberOf 13 = .ok (.goto 20, 3) := by decide +kernel
theorem d_Mo_numberOf_16 : decode c_Mo_numberOf 16 = .ok (.iload_n 1, 1) := by decide +kernel
theorem d_Mo_numberOf_17 : decode c_Mo_numberOf 17 = .ok (.bipush 80, 2) := by decide +kernel
theorem d_Mo_numberOf_19 : decode c_Mo_numberOf 19 = .ok (.if_icmp .ge 10, 3) := by decide +kernel
theorem d_Mo_numberOf_22 : decode c_Mo_numberOf 22 = .ok (.iload_n 1, 1) := by decide +kernel
theorem d_Mo_numberOf_23 : decode c_Mo_numberOf 23 = .ok (.bipush 40, 2) := by decide +kernel
theorem d_Mo_numberOf_25 : decode c_Mo_numberOf 25 = .ok (.isub, 1) := by decide +kernel
theorem d_Mo_numberOf_26 : decode c_Mo_numberOf 26 = .ok (.goto 7, 3) := by decide +kernel
theorem d_Mo_numberOf_29 : decode c_Mo_numberOf 29 = .ok (.iload_n 1, 1) := by decide +kernel
theorem d_Mo_numberOf_30 : decode c_Mo_numberOf 30 = .ok (.bipush 80, 2) := by decide +kernel
theorem d_Mo_numberOf_32 : decode c_Mo_numberOf 32 = .ok (.isub, 1) := by decide +kernel
theorem d_Mo_numberOf_33 : decode c_Mo_numberOf 33 = .ok (.ireturn, 1) := by decide +kernel
abbrev c_Mo_closed : ByteArray := prog_14_method_49_code
abbrev r_Mo_closed : Option FieldType := (some FieldType.int)
def y_Mo_closed : MethodName := ⟨"PinKindChecksModel", "closed", "(II)I"⟩
theorem d_Mo_closed_0 : decode c_Mo_closed 0 = .ok (.aload_n 0, 1) := by decide +kernel
theorem d_Mo_closed_1 : decode c_Mo_closed 1 = .ok (.iload_n 1, 1) := by decide +kernel
theorem d_Mo_closed_2 : decode c_Mo_closed 2 = .ok (.iconst 1, 1) := by decide +kernel
theorem d_Mo_closed_3 : decode c_Mo_closed 3 = .ok (.invokevirtual 271, 3) := by decide +kernel
theorem d_Mo_closed_6 : decode c_Mo_closed 6 = .ok (.istore_n 3, 1) := by decide +kernel
theorem d_Mo_closed_7 : decode c_Mo_closed 7 = .ok (.aload_n 0, 1) := by decide +kernel
theorem d_Mo_closed_8 : decode c_Mo_closed 8 = .ok (.iload_n 3, 1) := by decide +kernel
theorem d_Mo_closed_9 : decode c_Mo_closed 9 = .ok (.iconst (-1), 1) := by decide +kernel
theorem d_Mo_closed_10 : decode c_Mo_closed 10 = .ok (.if_icmp .eq 12, 3) := by decide +kernel
theorem d_Mo_closed_13 : decode c_Mo_closed 13 = .ok (.iload_n 2, 1) := by decide +kernel
theorem d_Mo_closed_14 : decode c_Mo_closed 14 = .ok (.ifCond .lt 8, 3) := by decide +kernel
theorem d_Mo_closed_17 : decode c_Mo_closed 17 = .ok (.iload_n 2, 1) := by decide +kernel
theorem d_Mo_closed_18 : decode c_Mo_closed 18 = .ok (.iconst 3, 1) := by decide +kernel
theorem d_Mo_closed_19 : decode c_Mo_closed 19 = .ok (.if_icmp .le 7, 3) := by decide +kernel
theorem d_Mo_closed_22 : decode c_Mo_closed 22 = .ok (.iconst 1, 1) := by decide +kernel
theorem d_Mo_closed_23 : decode c_Mo_closed 23 = .ok (.goto 4, 3) := by decide +kernel
theorem d_Mo_closed_26 : decode c_Mo_closed 26 = .ok (.iconst 0, 1) := by decide +kernel
theorem d_Mo_closed_27 : decode c_Mo_closed 27 = .ok (.putfield 91, 3) := by decide +kernel
theorem d_Mo_closed_30 : decode c_Mo_closed 30 = .ok (.aload_n 0, 1) := by decide +kernel
theorem d_Mo_closed_31 : decode c_Mo_closed 31 = .ok (.getfield 91, 3) := by decide +kernel
theorem d_Mo_closed_34 : decode c_Mo_closed 34 = .ok (.ifCond .eq 5, 3) := by decide +kernel
theorem d_Mo_closed_37 : decode c_Mo_closed 37 = .ok (.iconst 0, 1) := by decide +kernel
theorem d_Mo_closed_38 : decode c_Mo_closed 38 = .ok (.ireturn, 1) := by decide +kernel
theorem d_Mo_closed_39 : decode c_Mo_closed 39 = .ok (.iload_n 2, 1) := by decide +kernel
theorem d_Mo_closed_40 : decode c_Mo_closed 40 = .ok (.ifCond .ne 11, 3) := by decide +kernel
theorem d_Mo_closed_43 : decode c_Mo_closed 43 = .ok (.iload_n 3, 1) := by decide +kernel
theorem d_Mo_closed_44 : decode c_Mo_closed 44 = .ok (.sipush 240, 3) := by decide +kernel
theorem d_Mo_closed_47 : decode c_Mo_closed 47 = .ok (.idiv, 1) := by decide +kernel
theorem d_Mo_closed_48 : decode c_Mo_closed 48 = .ok (.goto 33, 3) := by decide +kernel
theorem d_Mo_closed_51 : decode c_Mo_closed 51 = .ok (.iload_n 2, 1) := by decide +kernel
theorem d_Mo_closed_52 : decode c_Mo_closed 52 = .ok (.iconst 1, 1) := by decide +kernel
theorem d_Mo_closed_53 : decode c_Mo_closed 53 = .ok (.if_icmp .ne 10, 3) := by decide +kernel
theorem d_Mo_closed_56 : decode c_Mo_closed 56 = .ok (.iload_n 3, 1) := by decide +kernel
theorem d_Mo_closed_57 : decode c_Mo_closed 57 = .ok (.invokestatic 275, 3) := by decide +kernel
theorem d_Mo_closed_60 : decode c_Mo_closed 60 = .ok (.goto 21, 3) := by decide +kernel
theorem d_Mo_closed_63 : decode c_Mo_closed 63 = .ok (.iload_n 2, 1) := by decide +kernel
theorem d_Mo_closed_64 : decode c_Mo_closed 64 = .ok (.iconst 2, 1) := by decide +kernel
theorem d_Mo_closed_65 : decode c_Mo_closed 65 = .ok (.if_icmp .ne 10, 3) := by decide +kernel
theorem d_Mo_closed_68 : decode c_Mo_closed 68 = .ok (.iload_n 3, 1) := by decide +kernel
theorem d_Mo_closed_69 : decode c_Mo_closed 69 = .ok (.invokestatic 278, 3) := by decide +kernel
theorem d_Mo_closed_72 : decode c_Mo_closed 72 = .ok (.goto 9, 3) := by decide +kernel
theorem d_Mo_closed_75 : decode c_Mo_closed 75 = .ok (.aload_n 0, 1) := by decide +kernel
theorem d_Mo_closed_76 : decode c_Mo_closed 76 = .ok (.getfield 76, 3) := by decide +kernel
theorem d_Mo_closed_79 : decode c_Mo_closed 79 = .ok (.iload_n 3, 1) := by decide +kernel
theorem d_Mo_closed_80 : decode c_Mo_closed 80 = .ok (.iaload, 1) := by decide +kernel
theorem d_Mo_closed_81 : decode c_Mo_closed 81 = .ok (.ireturn, 1) := by decide +kernel
abbrev c_Mo_off : ByteArray := prog_14_method_51_code
abbrev r_Mo_off : Option FieldType := (some FieldType.boolean)
def y_Mo_off : MethodName := ⟨"PinKindChecksModel", "off", "(IZ)Z"⟩
theorem d_Mo_off_0 : decode c_Mo_off 0 = .ok (.aload_n 0, 1) := by decide +kernel
theorem d_Mo_off_1 : decode c_Mo_off 1 = .ok (.aload_n 0, 1) := by decide +kernel
theorem d_Mo_off_2 : decode c_Mo_off 2 = .ok (.iload_n 1, 1) := by decide +kernel
theorem d_Mo_off_3 : decode c_Mo_off 3 = .ok (.invokevirtual 281, 3) := by decide +kernel
theorem d_Mo_off_6 : decode c_Mo_off 6 = .ok (.ifCond .eq 7, 3) := by decide +kernel
theorem d_Mo_off_9 : decode c_Mo_off 9 = .ok (.iconst 0, 1) := by decide +kernel
theorem d_Mo_off_10 : decode c_Mo_off 10 = .ok (.goto 4, 3) := by decide +kernel
theorem d_Mo_off_13 : decode c_Mo_off 13 = .ok (.iconst 1, 1) := by decide +kernel
theorem d_Mo_off_14 : decode c_Mo_off 14 = .ok (.putfield 91, 3) := by decide +kernel
theorem d_Mo_off_17 : decode c_Mo_off 17 = .ok (.aload_n 0, 1) := by decide +kernel
theorem d_Mo_off_18 : decode c_Mo_off 18 = .ok (.getfield 91, 3) := by decide +kernel
theorem d_Mo_off_21 : decode c_Mo_off 21 = .ok (.ifCond .ne 13, 3) := by decide +kernel
theorem d_Mo_off_24 : decode c_Mo_off 24 = .ok (.aload_n 0, 1) := by decide +kernel
theorem d_Mo_off_25 : decode c_Mo_off 25 = .ok (.getfield 62, 3) := by decide +kernel
theorem d_Mo_off_28 : decode c_Mo_off 28 = .ok (.iload_n 1, 1) := by decide +kernel
theorem d_Mo_off_29 : decode c_Mo_off 29 = .ok (.baload, 1) := by decide +kernel
theorem d_Mo_off_30 : decode c_Mo_off 30 = .ok (.iload_n 2, 1) := by decide +kernel
theorem d_Mo_off_31 : decode c_Mo_off 31 = .ok (.if_icmp .ne 5, 3) := by decide +kernel
theorem d_Mo_off_34 : decode c_Mo_off 34 = .ok (.iconst 0, 1) := by decide +kernel
theorem d_Mo_off_35 : decode c_Mo_off 35 = .ok (.ireturn, 1) := by decide +kernel
theorem d_Mo_off_36 : decode c_Mo_off 36 = .ok (.aload_n 0, 1) := by decide +kernel
theorem d_Mo_off_37 : decode c_Mo_off 37 = .ok (.getfield 62, 3) := by decide +kernel
theorem d_Mo_off_40 : decode c_Mo_off 40 = .ok (.iload_n 1, 1) := by decide +kernel
theorem d_Mo_off_41 : decode c_Mo_off 41 = .ok (.iload_n 2, 1) := by decide +kernel
theorem d_Mo_off_42 : decode c_Mo_off 42 = .ok (.bastore, 1) := by decide +kernel
theorem d_Mo_off_43 : decode c_Mo_off 43 = .ok (.iconst 1, 1) := by decide +kernel
theorem d_Mo_off_44 : decode c_Mo_off 44 = .ok (.ireturn, 1) := by decide +kernel
abbrev c_Mo_isRule : ByteArray := prog_14_method_50_code
abbrev r_Mo_isRule : Option FieldType := (some FieldType.boolean)
def y_Mo_isRule : MethodName := ⟨"PinKindChecksModel", "isRule", "(I)Z"⟩
theorem d_Mo_isRule_0 : decode c_Mo_isRule 0 = .ok (.iload_n 1, 1) := by decide +kernel
theorem d_Mo_isRule_1 : decode c_Mo_isRule 1 = .ok (.ifCond .lt 18, 3) := by decide +kernel
theorem d_Mo_isRule_4 : decode c_Mo_isRule 4 = .ok (.iload_n 1, 1) := by decide +kernel
theorem d_Mo_isRule_5 : decode c_Mo_isRule 5 = .ok (.bipush 7, 2) := by decide +kernel
theorem d_Mo_isRule_7 : decode c_Mo_isRule 7 = .ok (.aload_n 0, 1) := by decide +kernel
theorem d_Mo_isRule_8 : decode c_Mo_isRule 8 = .ok (.getfield 210, 3) := by decide +kernel
theorem d_Mo_isRule_11 : decode c_Mo_isRule 11 = .ok (.iadd, 1) := by decide +kernel
theorem d_Mo_isRule_12 : decode c_Mo_isRule 12 = .ok (.if_icmp .ge 7, 3) := by decide +kernel
theorem d_Mo_isRule_15 : decode c_Mo_isRule 15 = .ok (.iconst 1, 1) := by decide +kernel
theorem d_Mo_isRule_16 : decode c_Mo_isRule 16 = .ok (.goto 4, 3) := by decide +kernel
theorem d_Mo_isRule_19 : decode c_Mo_isRule 19 = .ok (.iconst 0, 1) := by decide +kernel
theorem d_Mo_isRule_20 : decode c_Mo_isRule 20 = .ok (.ireturn, 1) := by decide +kernel
abbrev c_Mo_waive : ByteArray := prog_14_method_52_code
abbrev r_Mo_waive : Option FieldType := (some FieldType.boolean)
def y_Mo_waive : MethodName := ⟨"PinKindChecksModel", "waive", "(IIII)Z"⟩
theorem d_Mo_waive_0 : decode c_Mo_waive 0 = .ok (.aload_n 0, 1) := by decide +kernel
theorem d_Mo_waive_1 : decode c_Mo_waive 1 = .ok (.iload_n 1, 1) := by decide +kernel
theorem d_Mo_waive_2 : decode c_Mo_waive 2 = .ok (.invokevirtual 281, 3) := by decide +kernel
theorem d_Mo_waive_5 : decode c_Mo_waive 5 = .ok (.ifCond .eq 29, 3) := by decide +kernel
theorem d_Mo_waive_8 : decode c_Mo_waive 8 = .ok (.iload_n 2, 1) := by decide +kernel
theorem d_Mo_waive_9 : decode c_Mo_waive 9 = .ok (.ifCond .lt 25, 3) := by decide +kernel
theorem d_Mo_waive_12 : decode c_Mo_waive 12 = .ok (.iload_n 2, 1) := by decide +kernel
theorem d_Mo_waive_13 : decode c_Mo_waive 13 = .ok (.iconst 3, 1) := by decide +kernel
theorem d_Mo_waive_14 : decode c_Mo_waive 14 = .ok (.if_icmp .ge 20, 3) := by decide +kernel
theorem d_Mo_waive_17 : decode c_Mo_waive 17 = .ok (.iload_n 3, 1) := by decide +kernel
theorem d_Mo_waive_18 : decode c_Mo_waive 18 = .ok (.ifCond .lt 16, 3) := by decide +kernel
theorem d_Mo_waive_21 : decode c_Mo_waive 21 = .ok (.iload_n 3, 1) := by decide +kernel
theorem d_Mo_waive_22 : decode c_Mo_waive 22 = .ok (.aload_n 0, 1) := by decide +kernel
theorem d_Mo_waive_23 : decode c_Mo_waive 23 = .ok (.iload_n 2, 1) := by decide +kernel
theorem d_Mo_waive_24 : decode c_Mo_waive 24 = .ok (.invokevirtual 252, 3) := by decide +kernel
theorem d_Mo_waive_27 : decode c_Mo_waive 27 = .ok (.if_icmp .ge 7, 3) := by decide +kernel
theorem d_Mo_waive_30 : decode c_Mo_waive 30 = .ok (.iconst 1, 1) := by decide +kernel
theorem d_Mo_waive_31 : decode c_Mo_waive 31 = .ok (.goto 4, 3) := by decide +kernel
theorem d_Mo_waive_34 : decode c_Mo_waive 34 = .ok (.iconst 0, 1) := by decide +kernel
theorem d_Mo_waive_35 : decode c_Mo_waive 35 = .ok (.istore 5, 2) := by decide +kernel
theorem d_Mo_waive_37 : decode c_Mo_waive 37 = .ok (.aload_n 0, 1) := by decide +kernel
theorem d_Mo_waive_38 : decode c_Mo_waive 38 = .ok (.iload 5, 2) := by decide +kernel
theorem d_Mo_waive_40 : decode c_Mo_waive 40 = .ok (.ifCond .ne 7, 3) := by decide +kernel
theorem d_Mo_waive_43 : decode c_Mo_waive 43 = .ok (.iconst 1, 1) := by decide +kernel
theorem d_Mo_waive_44 : decode c_Mo_waive 44 = .ok (.goto 22, 3) := by decide +kernel
theorem d_Mo_waive_47 : decode c_Mo_waive 47 = .ok (.iload 4, 2) := by decide +kernel
theorem d_Mo_waive_49 : decode c_Mo_waive 49 = .ok (.iconst (-1), 1) := by decide +kernel
theorem d_Mo_waive_50 : decode c_Mo_waive 50 = .ok (.if_icmp .lt 11, 3) := by decide +kernel
theorem d_Mo_waive_53 : decode c_Mo_waive 53 = .ok (.iload 4, 2) := by decide +kernel
theorem d_Mo_waive_55 : decode c_Mo_waive 55 = .ok (.sipush 999, 3) := by decide +kernel
theorem d_Mo_waive_58 : decode c_Mo_waive 58 = .ok (.if_icmp .le 7, 3) := by decide +kernel
theorem d_Mo_waive_61 : decode c_Mo_waive 61 = .ok (.iconst 2, 1) := by decide +kernel
theorem d_Mo_waive_62 : decode c_Mo_waive 62 = .ok (.goto 4, 3) := by decide +kernel
theorem d_Mo_waive_65 : decode c_Mo_waive 65 = .ok (.iconst 0, 1) := by decide +kernel
theorem d_Mo_waive_66 : decode c_Mo_waive 66 = .ok (.putfield 91, 3) := by decide +kernel
theorem d_Mo_waive_69 : decode c_Mo_waive 69 = .ok (.aload_n 0, 1) := by decide +kernel
theorem d_Mo_waive_70 : decode c_Mo_waive 70 = .ok (.getfield 91, 3) := by decide +kernel
theorem d_Mo_waive_73 : decode c_Mo_waive 73 = .ok (.ifCond .eq 5, 3) := by decide +kernel
theorem d_Mo_waive_76 : decode c_Mo_waive 76 = .ok (.iconst 0, 1) := by decide +kernel
theorem d_Mo_waive_77 : decode c_Mo_waive 77 = .ok (.ireturn, 1) := by decide +kernel
theorem d_Mo_waive_78 : decode c_Mo_waive 78 = .ok (.sipush 240, 3) := by decide +kernel
theorem d_Mo_waive_81 : decode c_Mo_waive 81 = .ok (.iload_n 1, 1) := by decide +kernel
theorem d_Mo_waive_82 : decode c_Mo_waive 82 = .ok (.imul, 1) := by decide +kernel
theorem d_Mo_waive_83 : decode c_Mo_waive 83 = .ok (.iload_n 2, 1) := by decide +kernel
theorem d_Mo_waive_84 : decode c_Mo_waive 84 = .ok (.iload_n 3, 1) := by decide +kernel
theorem d_Mo_waive_85 : decode c_Mo_waive 85 = .ok (.invokestatic 255, 3) := by decide +kernel
theorem d_Mo_waive_88 : decode c_Mo_waive 88 = .ok (.iadd, 1) := by decide +kernel
theorem d_Mo_waive_89 : decode c_Mo_waive 89 = .ok (.istore 6, 2) := by decide +kernel
theorem d_Mo_waive_91 : decode c_Mo_waive 91 = .ok (.aload_n 0, 1) := by decide +kernel
theorem d_Mo_waive_92 : decode c_Mo_waive 92 = .ok (.iload 6, 2) := by decide +kernel
theorem d_Mo_waive_94 : decode c_Mo_waive 94 = .ok (.invokevirtual 261, 3) := by decide +kernel
theorem d_Mo_waive_97 : decode c_Mo_waive 97 = .ok (.iload 4, 2) := by decide +kernel
theorem d_Mo_waive_99 : decode c_Mo_waive 99 = .ok (.if_icmp .ne 5, 3) := by decide +kernel
theorem d_Mo_waive_102 : decode c_Mo_waive 102 = .ok (.iconst 0, 1) := by decide +kernel
theorem d_Mo_waive_103 : decode c_Mo_waive 103 = .ok (.ireturn, 1) := by decide +kernel
theorem d_Mo_waive_104 : decode c_Mo_waive 104 = .ok (.iconst 0, 1) := by decide +kernel
theorem d_Mo_waive_105 : decode c_Mo_waive 105 = .ok (.istore 7, 2) := by decide +kernel
theorem d_Mo_waive_107 : decode c_Mo_waive 107 = .ok (.iload 7, 2) := by decide +kernel
theorem d_Mo_waive_109 : decode c_Mo_waive 109 = .ok (.aload_n 0, 1) := by decide +kernel
theorem d_Mo_waive_110 : decode c_Mo_waive 110 = .ok (.getfield 268, 3) := by decide +kernel
theorem d_Mo_waive_113 : decode c_Mo_waive 113 = .ok (.if_icmp .ge 21, 3) := by decide +kernel
theorem d_Mo_waive_116 : decode c_Mo_waive 116 = .ok (.aload_n 0, 1) := by decide +kernel
theorem d_Mo_waive_117 : decode c_Mo_waive 117 = .ok (.getfield 79, 3) := by decide +kernel
theorem d_Mo_waive_120 : decode c_Mo_waive 120 = .ok (.iload 7, 2) := by decide +kernel
theorem d_Mo_waive_122 : decode c_Mo_waive 122 = .ok (.iaload, 1) := by decide +kernel
theorem d_Mo_waive_123 : decode c_Mo_waive 123 = .ok (.iload 6, 2) := by decide +kernel
theorem d_Mo_waive_125 : decode c_Mo_waive 125 = .ok (.if_icmp .eq 9, 3) := by decide +kernel
theorem d_Mo_waive_128 : decode c_Mo_waive 128 = .ok (.iinc 7 1, 3) := by decide +kernel
theorem d_Mo_waive_131 : decode c_Mo_waive 131 = .ok (.goto (-24), 3) := by decide +kernel
theorem d_Mo_waive_134 : decode c_Mo_waive 134 = .ok (.iload 4, 2) := by decide +kernel
theorem d_Mo_waive_136 : decode c_Mo_waive 136 = .ok (.iconst (-1), 1) := by decide +kernel
theorem d_Mo_waive_137 : decode c_Mo_waive 137 = .ok (.if_icmp .ne 47, 3) := by decide +kernel
theorem d_Mo_waive_140 : decode c_Mo_waive 140 = .ok (.aload_n 0, 1) := by decide +kernel
theorem d_Mo_waive_141 : decode c_Mo_waive 141 = .ok (.dup, 1) := by decide +kernel
theorem d_Mo_waive_142 : decode c_Mo_waive 142 = .ok (.getfield 268, 3) := by decide +kernel
theorem d_Mo_waive_145 : decode c_Mo_waive 145 = .ok (.iconst 1, 1) := by decide +kernel
theorem d_Mo_waive_146 : decode c_Mo_waive 146 = .ok (.isub, 1) := by decide +kernel
theorem d_Mo_waive_147 : decode c_Mo_waive 147 = .ok (.putfield 268, 3) := by decide +kernel
theorem d_Mo_waive_150 : decode c_Mo_waive 150 = .ok (.aload_n 0, 1) := by decide +kernel
theorem d_Mo_waive_151 : decode c_Mo_waive 151 = .ok (.getfield 79, 3) := by decide +kernel
theorem d_Mo_waive_154 : decode c_Mo_waive 154 = .ok (.iload 7, 2) := by decide +kernel
theorem d_Mo_waive_156 : decode c_Mo_waive 156 = .ok (.aload_n 0, 1) := by decide +kernel
theorem d_Mo_waive_157 : decode c_Mo_waive 157 = .ok (.getfield 79, 3) := by decide +kernel
theorem d_Mo_waive_160 : decode c_Mo_waive 160 = .ok (.aload_n 0, 1) := by decide +kernel
theorem d_Mo_waive_161 : decode c_Mo_waive 161 = .ok (.getfield 268, 3) := by decide +kernel
theorem d_Mo_waive_164 : decode c_Mo_waive 164 = .ok (.iaload, 1) := by decide +kernel
theorem d_Mo_waive_165 : decode c_Mo_waive 165 = .ok (.iastore, 1) := by decide +kernel
theorem d_Mo_waive_166 : decode c_Mo_waive 166 = .ok (.aload_n 0, 1) := by decide +kernel
theorem d_Mo_waive_167 : decode c_Mo_waive 167 = .ok (.getfield 82, 3) := by decide +kernel
theorem d_Mo_waive_170 : decode c_Mo_waive 170 = .ok (.iload 7, 2) := by decide +kernel
theorem d_Mo_waive_172 : decode c_Mo_waive 172 = .ok (.aload_n 0, 1) := by decide +kernel
theorem d_Mo_waive_173 : decode c_Mo_waive 173 = .ok (.getfield 82, 3) := by decide +kernel
theorem d_Mo_waive_176 : decode c_Mo_waive 176 = .ok (.aload_n 0, 1) := by decide +kernel
theorem d_Mo_waive_177 : decode c_Mo_waive 177 = .ok (.getfield 268, 3) := by decide +kernel
theorem d_Mo_waive_180 : decode c_Mo_waive 180 = .ok (.iaload, 1) := by decide +kernel
theorem d_Mo_waive_181 : decode c_Mo_waive 181 = .ok (.iastore, 1) := by decide +kernel
theorem d_Mo_waive_182 : decode c_Mo_waive 182 = .ok (.iconst 1, 1) := by decide +kernel
theorem d_Mo_waive_183 : decode c_Mo_waive 183 = .ok (.ireturn, 1) := by decide +kernel
theorem d_Mo_waive_184 : decode c_Mo_waive 184 = .ok (.iload 7, 2) := by decide +kernel
theorem d_Mo_waive_186 : decode c_Mo_waive 186 = .ok (.bipush 50, 2) := by decide +kernel
theorem d_Mo_waive_188 : decode c_Mo_waive 188 = .ok (.if_icmp .ne 5, 3) := by decide +kernel
theorem d_Mo_waive_191 : decode c_Mo_waive 191 = .ok (.iconst 0, 1) := by decide +kernel
theorem d_Mo_waive_192 : decode c_Mo_waive 192 = .ok (.ireturn, 1) := by decide +kernel
theorem d_Mo_waive_193 : decode c_Mo_waive 193 = .ok (.aload_n 0, 1) := by decide +kernel
theorem d_Mo_waive_194 : decode c_Mo_waive 194 = .ok (.getfield 79, 3) := by decide +kernel
theorem d_Mo_waive_197 : decode c_Mo_waive 197 = .ok (.iload 7, 2) := by decide +kernel
theorem d_Mo_waive_199 : decode c_Mo_waive 199 = .ok (.iload 6, 2) := by decide +kernel
theorem d_Mo_waive_201 : decode c_Mo_waive 201 = .ok (.iastore, 1) := by decide +kernel
theorem d_Mo_waive_202 : decode c_Mo_waive 202 = .ok (.aload_n 0, 1) := by decide +kernel
theorem d_Mo_waive_203 : decode c_Mo_waive 203 = .ok (.getfield 82, 3) := by decide +kernel
theorem d_Mo_waive_206 : decode c_Mo_waive 206 = .ok (.iload 7, 2) := by decide +kernel
theorem d_Mo_waive_208 : decode c_Mo_waive 208 = .ok (.iload 4, 2) := by decide +kernel
theorem d_Mo_waive_210 : decode c_Mo_waive 210 = .ok (.iastore, 1) := by decide +kernel
theorem d_Mo_waive_211 : decode c_Mo_waive 211 = .ok (.aload_n 0, 1) := by decide +kernel
theorem d_Mo_waive_212 : decode c_Mo_waive 212 = .ok (.iload 7, 2) := by decide +kernel
theorem d_Mo_waive_214 : decode c_Mo_waive 214 = .ok (.aload_n 0, 1) := by decide +kernel
theorem d_Mo_waive_215 : decode c_Mo_waive 215 = .ok (.getfield 268, 3) := by decide +kernel
theorem d_Mo_waive_218 : decode c_Mo_waive 218 = .ok (.if_icmp .ne 12, 3) := by decide +kernel
theorem d_Mo_waive_221 : decode c_Mo_waive 221 = .ok (.aload_n 0, 1) := by decide +kernel
theorem d_Mo_waive_222 : decode c_Mo_waive 222 = .ok (.getfield 268, 3) := by decide +kernel
theorem d_Mo_waive_225 : decode c_Mo_waive 225 = .ok (.iconst 1, 1) := by decide +kernel
theorem d_Mo_waive_226 : decode c_Mo_waive 226 = .ok (.iadd, 1) := by decide +kernel
end
section
theorem d_Mo_waive_227 : decode c_Mo_waive 227 = .ok (.goto 7, 3) := by decide +kernel
theorem d_Mo_waive_230 : decode c_Mo_waive 230 = .ok (.aload_n 0, 1) := by decide +kernel
theorem d_Mo_waive_231 : decode c_Mo_waive 231 = .ok (.getfield 268, 3) := by decide +kernel
theorem d_Mo_waive_234 : decode c_Mo_waive 234 = .ok (.putfield 268, 3) := by decide +kernel
theorem d_Mo_waive_237 : decode c_Mo_waive 237 = .ok (.iconst 1, 1) := by decide +kernel
theorem d_Mo_waive_238 : decode c_Mo_waive 238 = .ok (.ireturn, 1) := by decide +kernel
abbrev c_Mo_next : ByteArray := prog_14_method_53_code
abbrev r_Mo_next : Option FieldType := (some FieldType.int)
def y_Mo_next : MethodName := ⟨"PinKindChecksModel", "next", "()I"⟩
theorem d_Mo_next_0 : decode c_Mo_next 0 = .ok (.aload_n 0, 1) := by decide +kernel
theorem d_Mo_next_1 : decode c_Mo_next 1 = .ok (.iconst 0, 1) := by decide +kernel
theorem d_Mo_next_2 : decode c_Mo_next 2 = .ok (.putfield 91, 3) := by decide +kernel
theorem d_Mo_next_5 : decode c_Mo_next 5 = .ok (.aload_n 0, 1) := by decide +kernel
theorem d_Mo_next_6 : decode c_Mo_next 6 = .ok (.dup, 1) := by decide +kernel
theorem d_Mo_next_7 : decode c_Mo_next 7 = .ok (.getfield 66, 3) := by decide +kernel
theorem d_Mo_next_10 : decode c_Mo_next 10 = .ok (.iconst 1, 1) := by decide +kernel
theorem d_Mo_next_11 : decode c_Mo_next 11 = .ok (.iadd, 1) := by decide +kernel
theorem d_Mo_next_12 : decode c_Mo_next 12 = .ok (.putfield 66, 3) := by decide +kernel
theorem d_Mo_next_15 : decode c_Mo_next 15 = .ok (.aload_n 0, 1) := by decide +kernel
theorem d_Mo_next_16 : decode c_Mo_next 16 = .ok (.getfield 66, 3) := by decide +kernel
theorem d_Mo_next_19 : decode c_Mo_next 19 = .ok (.ireturn, 1) := by decide +kernel
abbrev c_Mo_offRule : ByteArray := prog_14_method_54_code
abbrev r_Mo_offRule : Option FieldType := (some FieldType.int)
def y_Mo_offRule : MethodName := ⟨"PinKindChecksModel", "offRule", "(I)I"⟩
theorem d_Mo_offRule_0 : decode c_Mo_offRule 0 = .ok (.aload_n 0, 1) := by decide +kernel
theorem d_Mo_offRule_1 : decode c_Mo_offRule 1 = .ok (.iconst 0, 1) := by decide +kernel
theorem d_Mo_offRule_2 : decode c_Mo_offRule 2 = .ok (.putfield 91, 3) := by decide +kernel
theorem d_Mo_offRule_5 : decode c_Mo_offRule 5 = .ok (.iload_n 1, 1) := by decide +kernel
theorem d_Mo_offRule_6 : decode c_Mo_offRule 6 = .ok (.istore_n 2, 1) := by decide +kernel
theorem d_Mo_offRule_7 : decode c_Mo_offRule 7 = .ok (.iconst 0, 1) := by decide +kernel
theorem d_Mo_offRule_8 : decode c_Mo_offRule 8 = .ok (.istore_n 3, 1) := by decide +kernel
theorem d_Mo_offRule_9 : decode c_Mo_offRule 9 = .ok (.iload_n 3, 1) := by decide +kernel
theorem d_Mo_offRule_10 : decode c_Mo_offRule 10 = .ok (.bipush 7, 2) := by decide +kernel
theorem d_Mo_offRule_12 : decode c_Mo_offRule 12 = .ok (.aload_n 0, 1) := by decide +kernel
theorem d_Mo_offRule_13 : decode c_Mo_offRule 13 = .ok (.getfield 210, 3) := by decide +kernel
theorem d_Mo_offRule_16 : decode c_Mo_offRule 16 = .ok (.iadd, 1) := by decide +kernel
theorem d_Mo_offRule_17 : decode c_Mo_offRule 17 = .ok (.if_icmp .ge 34, 3) := by decide +kernel
theorem d_Mo_offRule_20 : decode c_Mo_offRule 20 = .ok (.iload_n 1, 1) := by decide +kernel
theorem d_Mo_offRule_21 : decode c_Mo_offRule 21 = .ok (.ifCond .lt 30, 3) := by decide +kernel
theorem d_Mo_offRule_24 : decode c_Mo_offRule 24 = .ok (.aload_n 0, 1) := by decide +kernel
theorem d_Mo_offRule_25 : decode c_Mo_offRule 25 = .ok (.getfield 62, 3) := by decide +kernel
theorem d_Mo_offRule_28 : decode c_Mo_offRule 28 = .ok (.iload_n 3, 1) := by decide +kernel
theorem d_Mo_offRule_29 : decode c_Mo_offRule 29 = .ok (.baload, 1) := by decide +kernel
theorem d_Mo_offRule_30 : decode c_Mo_offRule 30 = .ok (.ifCond .ne 6, 3) := by decide +kernel
theorem d_Mo_offRule_33 : decode c_Mo_offRule 33 = .ok (.goto 12, 3) := by decide +kernel
theorem d_Mo_offRule_36 : decode c_Mo_offRule 36 = .ok (.iload_n 2, 1) := by decide +kernel
theorem d_Mo_offRule_37 : decode c_Mo_offRule 37 = .ok (.ifCond .ne 5, 3) := by decide +kernel
theorem d_Mo_offRule_40 : decode c_Mo_offRule 40 = .ok (.iload_n 3, 1) := by decide +kernel
theorem d_Mo_offRule_41 : decode c_Mo_offRule 41 = .ok (.ireturn, 1) := by decide +kernel
theorem d_Mo_offRule_42 : decode c_Mo_offRule 42 = .ok (.iinc 2 (-1), 3) := by decide +kernel
theorem d_Mo_offRule_45 : decode c_Mo_offRule 45 = .ok (.iinc 3 1, 3) := by decide +kernel
theorem d_Mo_offRule_48 : decode c_Mo_offRule 48 = .ok (.goto (-39), 3) := by decide +kernel
theorem d_Mo_offRule_51 : decode c_Mo_offRule 51 = .ok (.iconst (-1), 1) := by decide +kernel
theorem d_Mo_offRule_52 : decode c_Mo_offRule 52 = .ok (.ireturn, 1) := by decide +kernel
abbrev c_Mo_clear : ByteArray := prog_14_method_55_code
abbrev r_Mo_clear : Option FieldType := none
def y_Mo_clear : MethodName := ⟨"PinKindChecksModel", "clear", "()V"⟩
theorem d_Mo_clear_0 : decode c_Mo_clear 0 = .ok (.aload_n 0, 1) := by decide +kernel
theorem d_Mo_clear_1 : decode c_Mo_clear 1 = .ok (.iconst 0, 1) := by decide +kernel
theorem d_Mo_clear_2 : decode c_Mo_clear 2 = .ok (.putfield 91, 3) := by decide +kernel
theorem d_Mo_clear_5 : decode c_Mo_clear 5 = .ok (.iconst 0, 1) := by decide +kernel
theorem d_Mo_clear_6 : decode c_Mo_clear 6 = .ok (.istore_n 1, 1) := by decide +kernel
theorem d_Mo_clear_7 : decode c_Mo_clear 7 = .ok (.iload_n 1, 1) := by decide +kernel
theorem d_Mo_clear_8 : decode c_Mo_clear 8 = .ok (.bipush 100, 2) := by decide +kernel
theorem d_Mo_clear_10 : decode c_Mo_clear 10 = .ok (.if_icmp .ge 16, 3) := by decide +kernel
theorem d_Mo_clear_13 : decode c_Mo_clear 13 = .ok (.aload_n 0, 1) := by decide +kernel
theorem d_Mo_clear_14 : decode c_Mo_clear 14 = .ok (.getfield 7, 3) := by decide +kernel
theorem d_Mo_clear_17 : decode c_Mo_clear 17 = .ok (.iload_n 1, 1) := by decide +kernel
theorem d_Mo_clear_18 : decode c_Mo_clear 18 = .ok (.iconst 0, 1) := by decide +kernel
theorem d_Mo_clear_19 : decode c_Mo_clear 19 = .ok (.iastore, 1) := by decide +kernel
theorem d_Mo_clear_20 : decode c_Mo_clear 20 = .ok (.iinc 1 1, 3) := by decide +kernel
theorem d_Mo_clear_23 : decode c_Mo_clear 23 = .ok (.goto (-16), 3) := by decide +kernel
theorem d_Mo_clear_26 : decode c_Mo_clear 26 = .ok (.aload_n 0, 1) := by decide +kernel
theorem d_Mo_clear_27 : decode c_Mo_clear 27 = .ok (.iconst 0, 1) := by decide +kernel
theorem d_Mo_clear_28 : decode c_Mo_clear 28 = .ok (.putfield 97, 3) := by decide +kernel
theorem d_Mo_clear_31 : decode c_Mo_clear 31 = .ok (.aload_n 0, 1) := by decide +kernel
theorem d_Mo_clear_32 : decode c_Mo_clear 32 = .ok (.iconst 0, 1) := by decide +kernel
theorem d_Mo_clear_33 : decode c_Mo_clear 33 = .ok (.putfield 94, 3) := by decide +kernel
theorem d_Mo_clear_36 : decode c_Mo_clear 36 = .ok (.aload_n 0, 1) := by decide +kernel
theorem d_Mo_clear_37 : decode c_Mo_clear 37 = .ok (.iconst 0, 1) := by decide +kernel
theorem d_Mo_clear_38 : decode c_Mo_clear 38 = .ok (.putfield 113, 3) := by decide +kernel
theorem d_Mo_clear_41 : decode c_Mo_clear 41 = .ok (.aload_n 0, 1) := by decide +kernel
theorem d_Mo_clear_42 : decode c_Mo_clear 42 = .ok (.iconst 0, 1) := by decide +kernel
theorem d_Mo_clear_43 : decode c_Mo_clear 43 = .ok (.putfield 116, 3) := by decide +kernel
theorem d_Mo_clear_46 : decode c_Mo_clear 46 = .ok (.aload_n 0, 1) := by decide +kernel
theorem d_Mo_clear_47 : decode c_Mo_clear 47 = .ok (.iconst 0, 1) := by decide +kernel
theorem d_Mo_clear_48 : decode c_Mo_clear 48 = .ok (.putfield 119, 3) := by decide +kernel
theorem d_Mo_clear_51 : decode c_Mo_clear 51 = .ok (.aload_n 0, 1) := by decide +kernel
theorem d_Mo_clear_52 : decode c_Mo_clear 52 = .ok (.iconst 0, 1) := by decide +kernel
theorem d_Mo_clear_53 : decode c_Mo_clear 53 = .ok (.putfield 210, 3) := by decide +kernel
theorem d_Mo_clear_56 : decode c_Mo_clear 56 = .ok (.iconst 0, 1) := by decide +kernel
theorem d_Mo_clear_57 : decode c_Mo_clear 57 = .ok (.istore_n 1, 1) := by decide +kernel
theorem d_Mo_clear_58 : decode c_Mo_clear 58 = .ok (.iload_n 1, 1) := by decide +kernel
theorem d_Mo_clear_59 : decode c_Mo_clear 59 = .ok (.bipush 27, 2) := by decide +kernel
theorem d_Mo_clear_61 : decode c_Mo_clear 61 = .ok (.if_icmp .ge 16, 3) := by decide +kernel
theorem d_Mo_clear_64 : decode c_Mo_clear 64 = .ok (.aload_n 0, 1) := by decide +kernel
theorem d_Mo_clear_65 : decode c_Mo_clear 65 = .ok (.getfield 62, 3) := by decide +kernel
theorem d_Mo_clear_68 : decode c_Mo_clear 68 = .ok (.iload_n 1, 1) := by decide +kernel
theorem d_Mo_clear_69 : decode c_Mo_clear 69 = .ok (.iconst 0, 1) := by decide +kernel
theorem d_Mo_clear_70 : decode c_Mo_clear 70 = .ok (.bastore, 1) := by decide +kernel
theorem d_Mo_clear_71 : decode c_Mo_clear 71 = .ok (.iinc 1 1, 3) := by decide +kernel
theorem d_Mo_clear_74 : decode c_Mo_clear 74 = .ok (.goto (-16), 3) := by decide +kernel
theorem d_Mo_clear_77 : decode c_Mo_clear 77 = .ok (.aload_n 0, 1) := by decide +kernel
theorem d_Mo_clear_78 : decode c_Mo_clear 78 = .ok (.iconst 1, 1) := by decide +kernel
theorem d_Mo_clear_79 : decode c_Mo_clear 79 = .ok (.putfield 66, 3) := by decide +kernel
theorem d_Mo_clear_82 : decode c_Mo_clear 82 = .ok (.iconst 0, 1) := by decide +kernel
theorem d_Mo_clear_83 : decode c_Mo_clear 83 = .ok (.istore_n 1, 1) := by decide +kernel
theorem d_Mo_clear_84 : decode c_Mo_clear 84 = .ok (.iload_n 1, 1) := by decide +kernel
theorem d_Mo_clear_85 : decode c_Mo_clear 85 = .ok (.sipush 6480, 3) := by decide +kernel
theorem d_Mo_clear_88 : decode c_Mo_clear 88 = .ok (.if_icmp .ge 16, 3) := by decide +kernel
theorem d_Mo_clear_91 : decode c_Mo_clear 91 = .ok (.aload_n 0, 1) := by decide +kernel
theorem d_Mo_clear_92 : decode c_Mo_clear 92 = .ok (.getfield 70, 3) := by decide +kernel
theorem d_Mo_clear_95 : decode c_Mo_clear 95 = .ok (.iload_n 1, 1) := by decide +kernel
theorem d_Mo_clear_96 : decode c_Mo_clear 96 = .ok (.iconst 0, 1) := by decide +kernel
theorem d_Mo_clear_97 : decode c_Mo_clear 97 = .ok (.iastore, 1) := by decide +kernel
theorem d_Mo_clear_98 : decode c_Mo_clear 98 = .ok (.iinc 1 1, 3) := by decide +kernel
theorem d_Mo_clear_101 : decode c_Mo_clear 101 = .ok (.goto (-17), 3) := by decide +kernel
theorem d_Mo_clear_104 : decode c_Mo_clear 104 = .ok (.iconst 0, 1) := by decide +kernel
theorem d_Mo_clear_105 : decode c_Mo_clear 105 = .ok (.istore_n 1, 1) := by decide +kernel
theorem d_Mo_clear_106 : decode c_Mo_clear 106 = .ok (.iload_n 1, 1) := by decide +kernel
theorem d_Mo_clear_107 : decode c_Mo_clear 107 = .ok (.sipush 6480, 3) := by decide +kernel
theorem d_Mo_clear_110 : decode c_Mo_clear 110 = .ok (.if_icmp .ge 16, 3) := by decide +kernel
theorem d_Mo_clear_113 : decode c_Mo_clear 113 = .ok (.aload_n 0, 1) := by decide +kernel
theorem d_Mo_clear_114 : decode c_Mo_clear 114 = .ok (.getfield 76, 3) := by decide +kernel
theorem d_Mo_clear_117 : decode c_Mo_clear 117 = .ok (.iload_n 1, 1) := by decide +kernel
theorem d_Mo_clear_118 : decode c_Mo_clear 118 = .ok (.iconst 0, 1) := by decide +kernel
theorem d_Mo_clear_119 : decode c_Mo_clear 119 = .ok (.iastore, 1) := by decide +kernel
theorem d_Mo_clear_120 : decode c_Mo_clear 120 = .ok (.iinc 1 1, 3) := by decide +kernel
theorem d_Mo_clear_123 : decode c_Mo_clear 123 = .ok (.goto (-17), 3) := by decide +kernel
theorem d_Mo_clear_126 : decode c_Mo_clear 126 = .ok (.aload_n 0, 1) := by decide +kernel
theorem d_Mo_clear_127 : decode c_Mo_clear 127 = .ok (.iconst 0, 1) := by decide +kernel
theorem d_Mo_clear_128 : decode c_Mo_clear 128 = .ok (.putfield 264, 3) := by decide +kernel
theorem d_Mo_clear_131 : decode c_Mo_clear 131 = .ok (.aload_n 0, 1) := by decide +kernel
theorem d_Mo_clear_132 : decode c_Mo_clear 132 = .ok (.iconst 0, 1) := by decide +kernel
theorem d_Mo_clear_133 : decode c_Mo_clear 133 = .ok (.putfield 268, 3) := by decide +kernel
theorem d_Mo_clear_136 : decode c_Mo_clear 136 = .ok (.return_, 1) := by decide +kernel
end
section
abbrev c_Ne_builtInWeight : ByteArray := prog_2_method_4_code
abbrev r_Ne_builtInWeight : Option FieldType := (some FieldType.int)
def y_Ne_builtInWeight : MethodName := ⟨"PinKindChecks$Net", "builtInWeight", "(ILPinKindChecks$Schematic;)I"⟩
theorem d_Ne_builtInWeight_0 : decode c_Ne_builtInWeight 0 = .ok (.iload_n 1, 1) := by decide +kernel
theorem d_Ne_builtInWeight_1 : decode c_Ne_builtInWeight 1 = .ok (.tableswitch 113 2 6 #[35, 50, 72, 86, 100], 35) := by decide +kernel
theorem d_Ne_builtInWeight_36 : decode c_Ne_builtInWeight 36 = .ok (.aload_n 0, 1) := by decide +kernel
theorem d_Ne_builtInWeight_37 : decode c_Ne_builtInWeight 37 = .ok (.iconst 1, 1) := by decide +kernel
theorem d_Ne_builtInWeight_38 : decode c_Ne_builtInWeight 38 = .ok (.invokevirtual 21, 3) := by decide +kernel
theorem d_Ne_builtInWeight_41 : decode c_Ne_builtInWeight 41 = .ok (.iconst 2, 1) := by decide +kernel
theorem d_Ne_builtInWeight_42 : decode c_Ne_builtInWeight 42 = .ok (.if_icmp .lt 7, 3) := by decide +kernel
theorem d_Ne_builtInWeight_45 : decode c_Ne_builtInWeight 45 = .ok (.iconst 2, 1) := by decide +kernel
theorem d_Ne_builtInWeight_46 : decode c_Ne_builtInWeight 46 = .ok (.goto 4, 3) := by decide +kernel
theorem d_Ne_builtInWeight_49 : decode c_Ne_builtInWeight 49 = .ok (.iconst 0, 1) := by decide +kernel
theorem d_Ne_builtInWeight_50 : decode c_Ne_builtInWeight 50 = .ok (.ireturn, 1) := by decide +kernel
theorem d_Ne_builtInWeight_51 : decode c_Ne_builtInWeight 51 = .ok (.aload_n 0, 1) := by decide +kernel
theorem d_Ne_builtInWeight_52 : decode c_Ne_builtInWeight 52 = .ok (.iconst 3, 1) := by decide +kernel
theorem d_Ne_builtInWeight_53 : decode c_Ne_builtInWeight 53 = .ok (.invokevirtual 21, 3) := by decide +kernel
theorem d_Ne_builtInWeight_56 : decode c_Ne_builtInWeight 56 = .ok (.ifCond .le 15, 3) := by decide +kernel
theorem d_Ne_builtInWeight_59 : decode c_Ne_builtInWeight 59 = .ok (.aload_n 0, 1) := by decide +kernel
theorem d_Ne_builtInWeight_60 : decode c_Ne_builtInWeight 60 = .ok (.iconst 4, 1) := by decide +kernel
theorem d_Ne_builtInWeight_61 : decode c_Ne_builtInWeight 61 = .ok (.invokevirtual 21, 3) := by decide +kernel
theorem d_Ne_builtInWeight_64 : decode c_Ne_builtInWeight 64 = .ok (.ifCond .ne 7, 3) := by decide +kernel
theorem d_Ne_builtInWeight_67 : decode c_Ne_builtInWeight 67 = .ok (.iconst 2, 1) := by decide +kernel
theorem d_Ne_builtInWeight_68 : decode c_Ne_builtInWeight 68 = .ok (.goto 4, 3) := by decide +kernel
theorem d_Ne_builtInWeight_71 : decode c_Ne_builtInWeight 71 = .ok (.iconst 0, 1) := by decide +kernel
theorem d_Ne_builtInWeight_72 : decode c_Ne_builtInWeight 72 = .ok (.ireturn, 1) := by decide +kernel
theorem d_Ne_builtInWeight_73 : decode c_Ne_builtInWeight 73 = .ok (.aload_n 0, 1) := by decide +kernel
theorem d_Ne_builtInWeight_74 : decode c_Ne_builtInWeight 74 = .ok (.invokevirtual 25, 3) := by decide +kernel
theorem d_Ne_builtInWeight_77 : decode c_Ne_builtInWeight 77 = .ok (.iconst 1, 1) := by decide +kernel
theorem d_Ne_builtInWeight_78 : decode c_Ne_builtInWeight 78 = .ok (.if_icmp .ne 7, 3) := by decide +kernel
theorem d_Ne_builtInWeight_81 : decode c_Ne_builtInWeight 81 = .ok (.iconst 1, 1) := by decide +kernel
theorem d_Ne_builtInWeight_82 : decode c_Ne_builtInWeight 82 = .ok (.goto 4, 3) := by decide +kernel
theorem d_Ne_builtInWeight_85 : decode c_Ne_builtInWeight 85 = .ok (.iconst 0, 1) := by decide +kernel
theorem d_Ne_builtInWeight_86 : decode c_Ne_builtInWeight 86 = .ok (.ireturn, 1) := by decide +kernel
theorem d_Ne_builtInWeight_87 : decode c_Ne_builtInWeight 87 = .ok (.aload_n 2, 1) := by decide +kernel
theorem d_Ne_builtInWeight_88 : decode c_Ne_builtInWeight 88 = .ok (.aload_n 0, 1) := by decide +kernel
theorem d_Ne_builtInWeight_89 : decode c_Ne_builtInWeight 89 = .ok (.invokevirtual 29, 3) := by decide +kernel
theorem d_Ne_builtInWeight_92 : decode c_Ne_builtInWeight 92 = .ok (.ifCond .eq 7, 3) := by decide +kernel
theorem d_Ne_builtInWeight_95 : decode c_Ne_builtInWeight 95 = .ok (.iconst 2, 1) := by decide +kernel
theorem d_Ne_builtInWeight_96 : decode c_Ne_builtInWeight 96 = .ok (.goto 4, 3) := by decide +kernel
theorem d_Ne_builtInWeight_99 : decode c_Ne_builtInWeight 99 = .ok (.iconst 0, 1) := by decide +kernel
theorem d_Ne_builtInWeight_100 : decode c_Ne_builtInWeight 100 = .ok (.ireturn, 1) := by decide +kernel
theorem d_Ne_builtInWeight_101 : decode c_Ne_builtInWeight 101 = .ok (.aload_n 0, 1) := by decide +kernel
theorem d_Ne_builtInWeight_102 : decode c_Ne_builtInWeight 102 = .ok (.getfield 9, 3) := by decide +kernel
theorem d_Ne_builtInWeight_105 : decode c_Ne_builtInWeight 105 = .ok (.ifCond .eq 7, 3) := by decide +kernel
theorem d_Ne_builtInWeight_108 : decode c_Ne_builtInWeight 108 = .ok (.iconst 1, 1) := by decide +kernel
theorem d_Ne_builtInWeight_109 : decode c_Ne_builtInWeight 109 = .ok (.goto 4, 3) := by decide +kernel
theorem d_Ne_builtInWeight_112 : decode c_Ne_builtInWeight 112 = .ok (.iconst 0, 1) := by decide +kernel
theorem d_Ne_builtInWeight_113 : decode c_Ne_builtInWeight 113 = .ok (.ireturn, 1) := by decide +kernel
theorem d_Ne_builtInWeight_114 : decode c_Ne_builtInWeight 114 = .ok (.iconst 0, 1) := by decide +kernel
theorem d_Ne_builtInWeight_115 : decode c_Ne_builtInWeight 115 = .ok (.ireturn, 1) := by decide +kernel
abbrev c_Ne_name : ByteArray := prog_2_method_2_code
abbrev r_Ne_name : Option FieldType := (some FieldType.int)
def y_Ne_name : MethodName := ⟨"PinKindChecks$Net", "name", "()I"⟩
theorem d_Ne_name_0 : decode c_Ne_name 0 = .ok (.aload_n 0, 1) := by decide +kernel
theorem d_Ne_name_1 : decode c_Ne_name 1 = .ok (.getfield 15, 3) := by decide +kernel
theorem d_Ne_name_4 : decode c_Ne_name 4 = .ok (.ireturn, 1) := by decide +kernel
abbrev c_Ne_ownValueOf : ByteArray := prog_2_method_5_code
abbrev r_Ne_ownValueOf : Option FieldType := (some FieldType.long)
def y_Ne_ownValueOf : MethodName := ⟨"PinKindChecks$Net", "ownValueOf", "(II)J"⟩
theorem d_Ne_ownValueOf_0 : decode c_Ne_ownValueOf 0 = .ok (.iload_n 1, 1) := by decide +kernel
theorem d_Ne_ownValueOf_1 : decode c_Ne_ownValueOf 1 = .ok (.bipush 17, 2) := by decide +kernel
theorem d_Ne_ownValueOf_3 : decode c_Ne_ownValueOf 3 = .ok (.if_icmp .ne 11, 3) := by decide +kernel
theorem d_Ne_ownValueOf_6 : decode c_Ne_ownValueOf 6 = .ok (.aload_n 0, 1) := by decide +kernel
theorem d_Ne_ownValueOf_7 : decode c_Ne_ownValueOf 7 = .ok (.getfield 15, 3) := by decide +kernel
theorem d_Ne_ownValueOf_10 : decode c_Ne_ownValueOf 10 = .ok (.i2l, 1) := by decide +kernel
theorem d_Ne_ownValueOf_11 : decode c_Ne_ownValueOf 11 = .ok (.goto 4, 3) := by decide +kernel
theorem d_Ne_ownValueOf_14 : decode c_Ne_ownValueOf 14 = .ok (.lconst 0, 1) := by decide +kernel
theorem d_Ne_ownValueOf_15 : decode c_Ne_ownValueOf 15 = .ok (.lreturn, 1) := by decide +kernel
abbrev c_Ne_init : ByteArray := prog_2_method_1_code
abbrev r_Ne_init : Option FieldType := none
def y_Ne_init : MethodName := ⟨"PinKindChecks$Net", "<init>", "(III)V"⟩
theorem d_Ne_init_0 : decode c_Ne_init 0 = .ok (.aload_n 0, 1) := by decide +kernel
theorem d_Ne_init_1 : decode c_Ne_init 1 = .ok (.iload_n 1, 1) := by decide +kernel
theorem d_Ne_init_2 : decode c_Ne_init 2 = .ok (.iconst 1, 1) := by decide +kernel
theorem d_Ne_init_3 : decode c_Ne_init 3 = .ok (.iload_n 2, 1) := by decide +kernel
theorem d_Ne_init_4 : decode c_Ne_init 4 = .ok (.invokespecial 3, 3) := by decide +kernel
theorem d_Ne_init_7 : decode c_Ne_init 7 = .ok (.aload_n 0, 1) := by decide +kernel
theorem d_Ne_init_8 : decode c_Ne_init 8 = .ok (.iconst 0, 1) := by decide +kernel
theorem d_Ne_init_9 : decode c_Ne_init 9 = .ok (.putfield 9, 3) := by decide +kernel
theorem d_Ne_init_12 : decode c_Ne_init 12 = .ok (.aload_n 0, 1) := by decide +kernel
theorem d_Ne_init_13 : decode c_Ne_init 13 = .ok (.iload_n 3, 1) := by decide +kernel
theorem d_Ne_init_14 : decode c_Ne_init 14 = .ok (.putfield 15, 3) := by decide +kernel
theorem d_Ne_init_17 : decode c_Ne_init 17 = .ok (.return_, 1) := by decide +kernel
abbrev c_Ne_noteEnd : ByteArray := prog_2_method_3_code
abbrev r_Ne_noteEnd : Option FieldType := none
def y_Ne_noteEnd : MethodName := ⟨"PinKindChecks$Net", "noteEnd", "(JJ)V"⟩
theorem d_Ne_noteEnd_0 : decode c_Ne_noteEnd 0 = .ok (.lload_n 1, 1) := by decide +kernel
theorem d_Ne_noteEnd_1 : decode c_Ne_noteEnd 1 = .ok (.ldc2_w 19, 3) := by decide +kernel
theorem d_Ne_noteEnd_4 : decode c_Ne_noteEnd 4 = .ok (.lrem, 1) := by decide +kernel
theorem d_Ne_noteEnd_5 : decode c_Ne_noteEnd 5 = .ok (.lconst 0, 1) := by decide +kernel
theorem d_Ne_noteEnd_6 : decode c_Ne_noteEnd 6 = .ok (.lcmp, 1) := by decide +kernel
theorem d_Ne_noteEnd_7 : decode c_Ne_noteEnd 7 = .ok (.ifCond .ne 13, 3) := by decide +kernel
theorem d_Ne_noteEnd_10 : decode c_Ne_noteEnd 10 = .ok (.lload_n 3, 1) := by decide +kernel
theorem d_Ne_noteEnd_11 : decode c_Ne_noteEnd 11 = .ok (.ldc2_w 19, 3) := by decide +kernel
theorem d_Ne_noteEnd_14 : decode c_Ne_noteEnd 14 = .ok (.lrem, 1) := by decide +kernel
theorem d_Ne_noteEnd_15 : decode c_Ne_noteEnd 15 = .ok (.lconst 0, 1) := by decide +kernel
theorem d_Ne_noteEnd_16 : decode c_Ne_noteEnd 16 = .ok (.lcmp, 1) := by decide +kernel
theorem d_Ne_noteEnd_17 : decode c_Ne_noteEnd 17 = .ok (.ifCond .eq 8, 3) := by decide +kernel
theorem d_Ne_noteEnd_20 : decode c_Ne_noteEnd 20 = .ok (.aload_n 0, 1) := by decide +kernel
theorem d_Ne_noteEnd_21 : decode c_Ne_noteEnd 21 = .ok (.iconst 1, 1) := by decide +kernel
theorem d_Ne_noteEnd_22 : decode c_Ne_noteEnd 22 = .ok (.putfield 9, 3) := by decide +kernel
theorem d_Ne_noteEnd_25 : decode c_Ne_noteEnd 25 = .ok (.return_, 1) := by decide +kernel
end
section
abbrev c_Pa_builtInWeight : ByteArray := prog_3_method_4_code
abbrev r_Pa_builtInWeight : Option FieldType := (some FieldType.int)
def y_Pa_builtInWeight : MethodName := ⟨"PinKindChecks$Part", "builtInWeight", "(ILPinKindChecks$Schematic;)I"⟩
theorem d_Pa_builtInWeight_0 : decode c_Pa_builtInWeight 0 = .ok (.iconst 0, 1) := by decide +kernel
theorem d_Pa_builtInWeight_1 : decode c_Pa_builtInWeight 1 = .ok (.ireturn, 1) := by decide +kernel
abbrev c_Pa_ownValueOf : ByteArray := prog_3_method_5_code
abbrev r_Pa_ownValueOf : Option FieldType := (some FieldType.long)
def y_Pa_ownValueOf : MethodName := ⟨"PinKindChecks$Part", "ownValueOf", "(II)J"⟩
theorem d_Pa_ownValueOf_0 : decode c_Pa_ownValueOf 0 = .ok (.iload_n 1, 1) := by decide +kernel
theorem d_Pa_ownValueOf_1 : decode c_Pa_ownValueOf 1 = .ok (.bipush 14, 2) := by decide +kernel
theorem d_Pa_ownValueOf_3 : decode c_Pa_ownValueOf 3 = .ok (.if_icmp .ne 11, 3) := by decide +kernel
theorem d_Pa_ownValueOf_6 : decode c_Pa_ownValueOf 6 = .ok (.aload_n 0, 1) := by decide +kernel
theorem d_Pa_ownValueOf_7 : decode c_Pa_ownValueOf 7 = .ok (.iload_n 2, 1) := by decide +kernel
theorem d_Pa_ownValueOf_8 : decode c_Pa_ownValueOf 8 = .ok (.invokevirtual 21, 3) := by decide +kernel
theorem d_Pa_ownValueOf_11 : decode c_Pa_ownValueOf 11 = .ok (.goto 4, 3) := by decide +kernel
theorem d_Pa_ownValueOf_14 : decode c_Pa_ownValueOf 14 = .ok (.lconst 0, 1) := by decide +kernel
theorem d_Pa_ownValueOf_15 : decode c_Pa_ownValueOf 15 = .ok (.lreturn, 1) := by decide +kernel
abbrev c_Pa_fieldAt : ByteArray := prog_3_method_3_code
abbrev r_Pa_fieldAt : Option FieldType := (some FieldType.long)
def y_Pa_fieldAt : MethodName := ⟨"PinKindChecks$Part", "fieldAt", "(I)J"⟩
theorem d_Pa_fieldAt_0 : decode c_Pa_fieldAt 0 = .ok (.iload_n 1, 1) := by decide +kernel
theorem d_Pa_fieldAt_1 : decode c_Pa_fieldAt 1 = .ok (.aload_n 0, 1) := by decide +kernel
theorem d_Pa_fieldAt_2 : decode c_Pa_fieldAt 2 = .ok (.getfield 9, 3) := by decide +kernel
theorem d_Pa_fieldAt_5 : decode c_Pa_fieldAt 5 = .ok (.arraylength, 1) := by decide +kernel
theorem d_Pa_fieldAt_6 : decode c_Pa_fieldAt 6 = .ok (.invokestatic 15, 3) := by decide +kernel
theorem d_Pa_fieldAt_9 : decode c_Pa_fieldAt 9 = .ok (.ifCond .eq 12, 3) := by decide +kernel
theorem d_Pa_fieldAt_12 : decode c_Pa_fieldAt 12 = .ok (.aload_n 0, 1) := by decide +kernel
theorem d_Pa_fieldAt_13 : decode c_Pa_fieldAt 13 = .ok (.getfield 9, 3) := by decide +kernel
theorem d_Pa_fieldAt_16 : decode c_Pa_fieldAt 16 = .ok (.iload_n 1, 1) := by decide +kernel
theorem d_Pa_fieldAt_17 : decode c_Pa_fieldAt 17 = .ok (.laload, 1) := by decide +kernel
theorem d_Pa_fieldAt_18 : decode c_Pa_fieldAt 18 = .ok (.goto 4, 3) := by decide +kernel
theorem d_Pa_fieldAt_21 : decode c_Pa_fieldAt 21 = .ok (.lconst 0, 1) := by decide +kernel
theorem d_Pa_fieldAt_22 : decode c_Pa_fieldAt 22 = .ok (.lreturn, 1) := by decide +kernel
abbrev c_Pa_init : ByteArray := prog_3_method_1_code
abbrev r_Pa_init : Option FieldType := none
def y_Pa_init : MethodName := ⟨"PinKindChecks$Part", "<init>", "(II)V"⟩
theorem d_Pa_init_0 : decode c_Pa_init 0 = .ok (.aload_n 0, 1) := by decide +kernel
theorem d_Pa_init_1 : decode c_Pa_init 1 = .ok (.iload_n 1, 1) := by decide +kernel
theorem d_Pa_init_2 : decode c_Pa_init 2 = .ok (.iconst 0, 1) := by decide +kernel
theorem d_Pa_init_3 : decode c_Pa_init 3 = .ok (.iload_n 2, 1) := by decide +kernel
theorem d_Pa_init_4 : decode c_Pa_init 4 = .ok (.invokespecial 3, 3) := by decide +kernel
theorem d_Pa_init_7 : decode c_Pa_init 7 = .ok (.aload_n 0, 1) := by decide +kernel
theorem d_Pa_init_8 : decode c_Pa_init 8 = .ok (.bipush 8, 2) := by decide +kernel
theorem d_Pa_init_10 : decode c_Pa_init 10 = .ok (.newarray .long, 2) := by decide +kernel
theorem d_Pa_init_12 : decode c_Pa_init 12 = .ok (.putfield 9, 3) := by decide +kernel
theorem d_Pa_init_15 : decode c_Pa_init 15 = .ok (.return_, 1) := by decide +kernel
abbrev c_Pa_setField : ByteArray := prog_3_method_2_code
abbrev r_Pa_setField : Option FieldType := (some FieldType.boolean)
def y_Pa_setField : MethodName := ⟨"PinKindChecks$Part", "setField", "(IJ)Z"⟩
theorem d_Pa_setField_0 : decode c_Pa_setField 0 = .ok (.iload_n 1, 1) := by decide +kernel
theorem d_Pa_setField_1 : decode c_Pa_setField 1 = .ok (.aload_n 0, 1) := by decide +kernel
theorem d_Pa_setField_2 : decode c_Pa_setField 2 = .ok (.getfield 9, 3) := by decide +kernel
theorem d_Pa_setField_5 : decode c_Pa_setField 5 = .ok (.arraylength, 1) := by decide +kernel
theorem d_Pa_setField_6 : decode c_Pa_setField 6 = .ok (.invokestatic 15, 3) := by decide +kernel
theorem d_Pa_setField_9 : decode c_Pa_setField 9 = .ok (.ifCond .ne 5, 3) := by decide +kernel
theorem d_Pa_setField_12 : decode c_Pa_setField 12 = .ok (.iconst 0, 1) := by decide +kernel
theorem d_Pa_setField_13 : decode c_Pa_setField 13 = .ok (.ireturn, 1) := by decide +kernel
theorem d_Pa_setField_14 : decode c_Pa_setField 14 = .ok (.aload_n 0, 1) := by decide +kernel
theorem d_Pa_setField_15 : decode c_Pa_setField 15 = .ok (.getfield 9, 3) := by decide +kernel
theorem d_Pa_setField_18 : decode c_Pa_setField 18 = .ok (.iload_n 1, 1) := by decide +kernel
theorem d_Pa_setField_19 : decode c_Pa_setField 19 = .ok (.laload, 1) := by decide +kernel
theorem d_Pa_setField_20 : decode c_Pa_setField 20 = .ok (.lload_n 2, 1) := by decide +kernel
theorem d_Pa_setField_21 : decode c_Pa_setField 21 = .ok (.lcmp, 1) := by decide +kernel
theorem d_Pa_setField_22 : decode c_Pa_setField 22 = .ok (.ifCond .eq 7, 3) := by decide +kernel
theorem d_Pa_setField_25 : decode c_Pa_setField 25 = .ok (.iconst 1, 1) := by decide +kernel
theorem d_Pa_setField_26 : decode c_Pa_setField 26 = .ok (.goto 4, 3) := by decide +kernel
theorem d_Pa_setField_29 : decode c_Pa_setField 29 = .ok (.iconst 0, 1) := by decide +kernel
theorem d_Pa_setField_30 : decode c_Pa_setField 30 = .ok (.istore 4, 2) := by decide +kernel
theorem d_Pa_setField_32 : decode c_Pa_setField 32 = .ok (.aload_n 0, 1) := by decide +kernel
theorem d_Pa_setField_33 : decode c_Pa_setField 33 = .ok (.getfield 9, 3) := by decide +kernel
theorem d_Pa_setField_36 : decode c_Pa_setField 36 = .ok (.iload_n 1, 1) := by decide +kernel
theorem d_Pa_setField_37 : decode c_Pa_setField 37 = .ok (.lload_n 2, 1) := by decide +kernel
theorem d_Pa_setField_38 : decode c_Pa_setField 38 = .ok (.lastore, 1) := by decide +kernel
theorem d_Pa_setField_39 : decode c_Pa_setField 39 = .ok (.iload 4, 2) := by decide +kernel
theorem d_Pa_setField_41 : decode c_Pa_setField 41 = .ok (.ireturn, 1) := by decide +kernel
end
section
abbrev c_Ph_pinsOfKind : ByteArray := prog_5_method_4_code
abbrev r_Ph_pinsOfKind : Option FieldType := (some FieldType.int)
def y_Ph_pinsOfKind : MethodName := ⟨"PinKindChecks$PinHolder", "pinsOfKind", "(I)I"⟩
theorem d_Ph_pinsOfKind_0 : decode c_Ph_pinsOfKind 0 = .ok (.iload_n 1, 1) := by decide +kernel
theorem d_Ph_pinsOfKind_1 : decode c_Ph_pinsOfKind 1 = .ok (.aload_n 0, 1) := by decide +kernel
theorem d_Ph_pinsOfKind_2 : decode c_Ph_pinsOfKind 2 = .ok (.getfield 9, 3) := by decide +kernel
theorem d_Ph_pinsOfKind_5 : decode c_Ph_pinsOfKind 5 = .ok (.arraylength, 1) := by decide +kernel
theorem d_Ph_pinsOfKind_6 : decode c_Ph_pinsOfKind 6 = .ok (.invokestatic 19, 3) := by decide +kernel
theorem d_Ph_pinsOfKind_9 : decode c_Ph_pinsOfKind 9 = .ok (.ifCond .eq 12, 3) := by decide +kernel
theorem d_Ph_pinsOfKind_12 : decode c_Ph_pinsOfKind 12 = .ok (.aload_n 0, 1) := by decide +kernel
theorem d_Ph_pinsOfKind_13 : decode c_Ph_pinsOfKind 13 = .ok (.getfield 9, 3) := by decide +kernel
theorem d_Ph_pinsOfKind_16 : decode c_Ph_pinsOfKind 16 = .ok (.iload_n 1, 1) := by decide +kernel
theorem d_Ph_pinsOfKind_17 : decode c_Ph_pinsOfKind 17 = .ok (.iaload, 1) := by decide +kernel
theorem d_Ph_pinsOfKind_18 : decode c_Ph_pinsOfKind 18 = .ok (.goto 4, 3) := by decide +kernel
theorem d_Ph_pinsOfKind_21 : decode c_Ph_pinsOfKind 21 = .ok (.iconst 0, 1) := by decide +kernel
theorem d_Ph_pinsOfKind_22 : decode c_Ph_pinsOfKind 22 = .ok (.ireturn, 1) := by decide +kernel
abbrev c_Ph_pinCount : ByteArray := prog_5_method_3_code
abbrev r_Ph_pinCount : Option FieldType := (some FieldType.int)
def y_Ph_pinCount : MethodName := ⟨"PinKindChecks$PinHolder", "pinCount", "()I"⟩
theorem d_Ph_pinCount_0 : decode c_Ph_pinCount 0 = .ok (.aload_n 0, 1) := by decide +kernel
theorem d_Ph_pinCount_1 : decode c_Ph_pinCount 1 = .ok (.getfield 15, 3) := by decide +kernel
theorem d_Ph_pinCount_4 : decode c_Ph_pinCount 4 = .ok (.ireturn, 1) := by decide +kernel
abbrev c_Ph_valueOf : ByteArray := prog_5_method_5_code
abbrev r_Ph_valueOf : Option FieldType := (some FieldType.long)
def y_Ph_valueOf : MethodName := ⟨"PinKindChecks$PinHolder", "valueOf", "(II)J"⟩
theorem d_Ph_valueOf_0 : decode c_Ph_valueOf 0 = .ok (.iload_n 1, 1) := by decide +kernel
theorem d_Ph_valueOf_1 : decode c_Ph_valueOf 1 = .ok (.tableswitch 54 15 19 #[35, 54, 54, 48, 41], 35) := by decide +kernel
theorem d_Ph_valueOf_36 : decode c_Ph_valueOf 36 = .ok (.aload_n 0, 1) := by decide +kernel
theorem d_Ph_valueOf_37 : decode c_Ph_valueOf 37 = .ok (.getfield 15, 3) := by decide +kernel
theorem d_Ph_valueOf_40 : decode c_Ph_valueOf 40 = .ok (.i2l, 1) := by decide +kernel
theorem d_Ph_valueOf_41 : decode c_Ph_valueOf 41 = .ok (.lreturn, 1) := by decide +kernel
theorem d_Ph_valueOf_42 : decode c_Ph_valueOf 42 = .ok (.aload_n 0, 1) := by decide +kernel
theorem d_Ph_valueOf_43 : decode c_Ph_valueOf 43 = .ok (.iload_n 2, 1) := by decide +kernel
theorem d_Ph_valueOf_44 : decode c_Ph_valueOf 44 = .ok (.invokevirtual 23, 3) := by decide +kernel
theorem d_Ph_valueOf_47 : decode c_Ph_valueOf 47 = .ok (.i2l, 1) := by decide +kernel
theorem d_Ph_valueOf_48 : decode c_Ph_valueOf 48 = .ok (.lreturn, 1) := by decide +kernel
theorem d_Ph_valueOf_49 : decode c_Ph_valueOf 49 = .ok (.aload_n 0, 1) := by decide +kernel
theorem d_Ph_valueOf_50 : decode c_Ph_valueOf 50 = .ok (.invokevirtual 26, 3) := by decide +kernel
theorem d_Ph_valueOf_53 : decode c_Ph_valueOf 53 = .ok (.i2l, 1) := by decide +kernel
theorem d_Ph_valueOf_54 : decode c_Ph_valueOf 54 = .ok (.lreturn, 1) := by decide +kernel
theorem d_Ph_valueOf_55 : decode c_Ph_valueOf 55 = .ok (.aload_n 0, 1) := by decide +kernel
theorem d_Ph_valueOf_56 : decode c_Ph_valueOf 56 = .ok (.iload_n 1, 1) := by decide +kernel
theorem d_Ph_valueOf_57 : decode c_Ph_valueOf 57 = .ok (.iload_n 2, 1) := by decide +kernel
theorem d_Ph_valueOf_58 : decode c_Ph_valueOf 58 = .ok (.invokevirtual 30, 3) := by decide +kernel
theorem d_Ph_valueOf_61 : decode c_Ph_valueOf 61 = .ok (.lreturn, 1) := by decide +kernel
abbrev c_Ph_init : ByteArray := prog_5_method_1_code
abbrev r_Ph_init : Option FieldType := none
def y_Ph_init : MethodName := ⟨"PinKindChecks$PinHolder", "<init>", "(III)V"⟩
theorem d_Ph_init_0 : decode c_Ph_init 0 = .ok (.aload_n 0, 1) := by decide +kernel
theorem d_Ph_init_1 : decode c_Ph_init 1 = .ok (.iload_n 1, 1) := by decide +kernel
theorem d_Ph_init_2 : decode c_Ph_init 2 = .ok (.iload_n 2, 1) := by decide +kernel
theorem d_Ph_init_3 : decode c_Ph_init 3 = .ok (.iload_n 3, 1) := by decide +kernel
theorem d_Ph_init_4 : decode c_Ph_init 4 = .ok (.invokespecial 3, 3) := by decide +kernel
theorem d_Ph_init_7 : decode c_Ph_init 7 = .ok (.aload_n 0, 1) := by decide +kernel
theorem d_Ph_init_8 : decode c_Ph_init 8 = .ok (.bipush 10, 2) := by decide +kernel
theorem d_Ph_init_10 : decode c_Ph_init 10 = .ok (.newarray .int, 2) := by decide +kernel
theorem d_Ph_init_12 : decode c_Ph_init 12 = .ok (.putfield 9, 3) := by decide +kernel
theorem d_Ph_init_15 : decode c_Ph_init 15 = .ok (.aload_n 0, 1) := by decide +kernel
theorem d_Ph_init_16 : decode c_Ph_init 16 = .ok (.iconst 0, 1) := by decide +kernel
theorem d_Ph_init_17 : decode c_Ph_init 17 = .ok (.putfield 15, 3) := by decide +kernel
theorem d_Ph_init_20 : decode c_Ph_init 20 = .ok (.return_, 1) := by decide +kernel
abbrev c_Ph_countPins : ByteArray := prog_5_method_2_code
abbrev r_Ph_countPins : Option FieldType := none
def y_Ph_countPins : MethodName := ⟨"PinKindChecks$PinHolder", "countPins", "(II)V"⟩
theorem d_Ph_countPins_0 : decode c_Ph_countPins 0 = .ok (.iload_n 1, 1) := by decide +kernel
theorem d_Ph_countPins_1 : decode c_Ph_countPins 1 = .ok (.aload_n 0, 1) := by decide +kernel
theorem d_Ph_countPins_2 : decode c_Ph_countPins 2 = .ok (.getfield 9, 3) := by decide +kernel
theorem d_Ph_countPins_5 : decode c_Ph_countPins 5 = .ok (.arraylength, 1) := by decide +kernel
theorem d_Ph_countPins_6 : decode c_Ph_countPins 6 = .ok (.invokestatic 19, 3) := by decide +kernel
theorem d_Ph_countPins_9 : decode c_Ph_countPins 9 = .ok (.ifCond .eq 23, 3) := by decide +kernel
theorem d_Ph_countPins_12 : decode c_Ph_countPins 12 = .ok (.aload_n 0, 1) := by decide +kernel
theorem d_Ph_countPins_13 : decode c_Ph_countPins 13 = .ok (.getfield 9, 3) := by decide +kernel
theorem d_Ph_countPins_16 : decode c_Ph_countPins 16 = .ok (.iload_n 1, 1) := by decide +kernel
theorem d_Ph_countPins_17 : decode c_Ph_countPins 17 = .ok (.dup2, 1) := by decide +kernel
theorem d_Ph_countPins_18 : decode c_Ph_countPins 18 = .ok (.iaload, 1) := by decide +kernel
theorem d_Ph_countPins_19 : decode c_Ph_countPins 19 = .ok (.iload_n 2, 1) := by decide +kernel
theorem d_Ph_countPins_20 : decode c_Ph_countPins 20 = .ok (.iadd, 1) := by decide +kernel
theorem d_Ph_countPins_21 : decode c_Ph_countPins 21 = .ok (.iastore, 1) := by decide +kernel
theorem d_Ph_countPins_22 : decode c_Ph_countPins 22 = .ok (.aload_n 0, 1) := by decide +kernel
theorem d_Ph_countPins_23 : decode c_Ph_countPins 23 = .ok (.dup, 1) := by decide +kernel
theorem d_Ph_countPins_24 : decode c_Ph_countPins 24 = .ok (.getfield 15, 3) := by decide +kernel
theorem d_Ph_countPins_27 : decode c_Ph_countPins 27 = .ok (.iload_n 2, 1) := by decide +kernel
theorem d_Ph_countPins_28 : decode c_Ph_countPins 28 = .ok (.iadd, 1) := by decide +kernel
theorem d_Ph_countPins_29 : decode c_Ph_countPins 29 = .ok (.putfield 15, 3) := by decide +kernel
theorem d_Ph_countPins_32 : decode c_Ph_countPins 32 = .ok (.return_, 1) := by decide +kernel
end
section
abbrev c_Pi_builtInWeight : ByteArray := prog_4_method_5_code
abbrev r_Pi_builtInWeight : Option FieldType := (some FieldType.int)
def y_Pi_builtInWeight : MethodName := ⟨"PinKindChecks$Pin", "builtInWeight", "(ILPinKindChecks$Schematic;)I"⟩
theorem d_Pi_builtInWeight_0 : decode c_Pi_builtInWeight 0 = .ok (.iload_n 1, 1) := by decide +kernel
theorem d_Pi_builtInWeight_1 : decode c_Pi_builtInWeight 1 = .ok (.lookupswitch 55 #[(0, 27), (1, 49)], 27) := by decide +kernel
theorem d_Pi_builtInWeight_28 : decode c_Pi_builtInWeight 28 = .ok (.aload_n 0, 1) := by decide +kernel
theorem d_Pi_builtInWeight_29 : decode c_Pi_builtInWeight 29 = .ok (.getfield 15, 3) := by decide +kernel
theorem d_Pi_builtInWeight_32 : decode c_Pi_builtInWeight 32 = .ok (.ifnonnull 16, 3) := by decide +kernel
theorem d_Pi_builtInWeight_35 : decode c_Pi_builtInWeight 35 = .ok (.aload_n 0, 1) := by decide +kernel
theorem d_Pi_builtInWeight_36 : decode c_Pi_builtInWeight 36 = .ok (.getfield 25, 3) := by decide +kernel
theorem d_Pi_builtInWeight_39 : decode c_Pi_builtInWeight 39 = .ok (.bipush 9, 2) := by decide +kernel
theorem d_Pi_builtInWeight_41 : decode c_Pi_builtInWeight 41 = .ok (.if_icmp .eq 7, 3) := by decide +kernel
theorem d_Pi_builtInWeight_44 : decode c_Pi_builtInWeight 44 = .ok (.iconst 2, 1) := by decide +kernel
theorem d_Pi_builtInWeight_45 : decode c_Pi_builtInWeight 45 = .ok (.goto 4, 3) := by decide +kernel
theorem d_Pi_builtInWeight_48 : decode c_Pi_builtInWeight 48 = .ok (.iconst 0, 1) := by decide +kernel
theorem d_Pi_builtInWeight_49 : decode c_Pi_builtInWeight 49 = .ok (.ireturn, 1) := by decide +kernel
theorem d_Pi_builtInWeight_50 : decode c_Pi_builtInWeight 50 = .ok (.aload_n 2, 1) := by decide +kernel
theorem d_Pi_builtInWeight_51 : decode c_Pi_builtInWeight 51 = .ok (.aload_n 0, 1) := by decide +kernel
theorem d_Pi_builtInWeight_52 : decode c_Pi_builtInWeight 52 = .ok (.invokevirtual 35, 3) := by decide +kernel
theorem d_Pi_builtInWeight_55 : decode c_Pi_builtInWeight 55 = .ok (.ireturn, 1) := by decide +kernel
theorem d_Pi_builtInWeight_56 : decode c_Pi_builtInWeight 56 = .ok (.iconst 0, 1) := by decide +kernel
theorem d_Pi_builtInWeight_57 : decode c_Pi_builtInWeight 57 = .ok (.ireturn, 1) := by decide +kernel
abbrev c_Pi_netOrNull : ByteArray := prog_4_method_3_code
abbrev r_Pi_netOrNull : Option FieldType := (some (FieldType.object "PinKindChecks$Net"))
def y_Pi_netOrNull : MethodName := ⟨"PinKindChecks$Pin", "netOrNull", "()LPinKindChecks$Net;"⟩
theorem d_Pi_netOrNull_0 : decode c_Pi_netOrNull 0 = .ok (.aload_n 0, 1) := by decide +kernel
theorem d_Pi_netOrNull_1 : decode c_Pi_netOrNull 1 = .ok (.getfield 15, 3) := by decide +kernel
theorem d_Pi_netOrNull_4 : decode c_Pi_netOrNull 4 = .ok (.areturn, 1) := by decide +kernel
abbrev c_Pi_kind : ByteArray := prog_4_method_2_code
abbrev r_Pi_kind : Option FieldType := (some FieldType.int)
def y_Pi_kind : MethodName := ⟨"PinKindChecks$Pin", "kind", "()I"⟩
theorem d_Pi_kind_0 : decode c_Pi_kind 0 = .ok (.aload_n 0, 1) := by decide +kernel
theorem d_Pi_kind_1 : decode c_Pi_kind 1 = .ok (.getfield 25, 3) := by decide +kernel
theorem d_Pi_kind_4 : decode c_Pi_kind 4 = .ok (.ireturn, 1) := by decide +kernel
abbrev c_Pi_valueOf : ByteArray := prog_4_method_6_code
abbrev r_Pi_valueOf : Option FieldType := (some FieldType.long)
def y_Pi_valueOf : MethodName := ⟨"PinKindChecks$Pin", "valueOf", "(II)J"⟩
theorem d_Pi_valueOf_0 : decode c_Pi_valueOf 0 = .ok (.iload_n 1, 1) := by decide +kernel
theorem d_Pi_valueOf_1 : decode c_Pi_valueOf 1 = .ok (.tableswitch 78 14 18 #[35, 78, 44, 50, 72], 35) := by decide +kernel
theorem d_Pi_valueOf_36 : decode c_Pi_valueOf 36 = .ok (.aload_n 0, 1) := by decide +kernel
theorem d_Pi_valueOf_37 : decode c_Pi_valueOf 37 = .ok (.getfield 21, 3) := by decide +kernel
theorem d_Pi_valueOf_40 : decode c_Pi_valueOf 40 = .ok (.iload_n 2, 1) := by decide +kernel
theorem d_Pi_valueOf_41 : decode c_Pi_valueOf 41 = .ok (.invokevirtual 41, 3) := by decide +kernel
theorem d_Pi_valueOf_44 : decode c_Pi_valueOf 44 = .ok (.lreturn, 1) := by decide +kernel
theorem d_Pi_valueOf_45 : decode c_Pi_valueOf 45 = .ok (.aload_n 0, 1) := by decide +kernel
theorem d_Pi_valueOf_46 : decode c_Pi_valueOf 46 = .ok (.getfield 25, 3) := by decide +kernel
theorem d_Pi_valueOf_49 : decode c_Pi_valueOf 49 = .ok (.i2l, 1) := by decide +kernel
theorem d_Pi_valueOf_50 : decode c_Pi_valueOf 50 = .ok (.lreturn, 1) := by decide +kernel
theorem d_Pi_valueOf_51 : decode c_Pi_valueOf 51 = .ok (.aload_n 0, 1) := by decide +kernel
theorem d_Pi_valueOf_52 : decode c_Pi_valueOf 52 = .ok (.getfield 15, 3) := by decide +kernel
theorem d_Pi_valueOf_55 : decode c_Pi_valueOf 55 = .ok (.ifnonnull 9, 3) := by decide +kernel
theorem d_Pi_valueOf_58 : decode c_Pi_valueOf 58 = .ok (.ldc2_w 45, 3) := by decide +kernel
theorem d_Pi_valueOf_61 : decode c_Pi_valueOf 61 = .ok (.goto 11, 3) := by decide +kernel
theorem d_Pi_valueOf_64 : decode c_Pi_valueOf 64 = .ok (.aload_n 0, 1) := by decide +kernel
theorem d_Pi_valueOf_65 : decode c_Pi_valueOf 65 = .ok (.getfield 15, 3) := by decide +kernel
theorem d_Pi_valueOf_68 : decode c_Pi_valueOf 68 = .ok (.invokevirtual 47, 3) := by decide +kernel
theorem d_Pi_valueOf_71 : decode c_Pi_valueOf 71 = .ok (.i2l, 1) := by decide +kernel
theorem d_Pi_valueOf_72 : decode c_Pi_valueOf 72 = .ok (.lreturn, 1) := by decide +kernel
theorem d_Pi_valueOf_73 : decode c_Pi_valueOf 73 = .ok (.aload_n 0, 1) := by decide +kernel
theorem d_Pi_valueOf_74 : decode c_Pi_valueOf 74 = .ok (.invokevirtual 50, 3) := by decide +kernel
theorem d_Pi_valueOf_77 : decode c_Pi_valueOf 77 = .ok (.i2l, 1) := by decide +kernel
theorem d_Pi_valueOf_78 : decode c_Pi_valueOf 78 = .ok (.lreturn, 1) := by decide +kernel
theorem d_Pi_valueOf_79 : decode c_Pi_valueOf 79 = .ok (.lconst 0, 1) := by decide +kernel
theorem d_Pi_valueOf_80 : decode c_Pi_valueOf 80 = .ok (.lreturn, 1) := by decide +kernel
abbrev c_Pi_init : ByteArray := prog_4_method_1_code
abbrev r_Pi_init : Option FieldType := none
def y_Pi_init : MethodName := ⟨"PinKindChecks$Pin", "<init>", "(LPinKindChecks$Part;II)V"⟩
theorem d_Pi_init_0 : decode c_Pi_init 0 = .ok (.aload_n 0, 1) := by decide +kernel
theorem d_Pi_init_1 : decode c_Pi_init 1 = .ok (.aload_n 1, 1) := by decide +kernel
theorem d_Pi_init_2 : decode c_Pi_init 2 = .ok (.invokevirtual 3, 3) := by decide +kernel
theorem d_Pi_init_5 : decode c_Pi_init 5 = .ok (.iconst 2, 1) := by decide +kernel
theorem d_Pi_init_6 : decode c_Pi_init 6 = .ok (.iload_n 2, 1) := by decide +kernel
theorem d_Pi_init_7 : decode c_Pi_init 7 = .ok (.invokespecial 9, 3) := by decide +kernel
theorem d_Pi_init_10 : decode c_Pi_init 10 = .ok (.aload_n 0, 1) := by decide +kernel
theorem d_Pi_init_11 : decode c_Pi_init 11 = .ok (.aconst_null, 1) := by decide +kernel
theorem d_Pi_init_12 : decode c_Pi_init 12 = .ok (.putfield 15, 3) := by decide +kernel
theorem d_Pi_init_15 : decode c_Pi_init 15 = .ok (.aload_n 0, 1) := by decide +kernel
theorem d_Pi_init_16 : decode c_Pi_init 16 = .ok (.aload_n 1, 1) := by decide +kernel
theorem d_Pi_init_17 : decode c_Pi_init 17 = .ok (.putfield 21, 3) := by decide +kernel
theorem d_Pi_init_20 : decode c_Pi_init 20 = .ok (.aload_n 0, 1) := by decide +kernel
theorem d_Pi_init_21 : decode c_Pi_init 21 = .ok (.iload_n 3, 1) := by decide +kernel
theorem d_Pi_init_22 : decode c_Pi_init 22 = .ok (.putfield 25, 3) := by decide +kernel
theorem d_Pi_init_25 : decode c_Pi_init 25 = .ok (.return_, 1) := by decide +kernel
abbrev c_Pi_moveTo : ByteArray := prog_4_method_4_code
abbrev r_Pi_moveTo : Option FieldType := (some FieldType.boolean)
def y_Pi_moveTo : MethodName := ⟨"PinKindChecks$Pin", "moveTo", "(LPinKindChecks$Net;)Z"⟩
theorem d_Pi_moveTo_0 : decode c_Pi_moveTo 0 = .ok (.aload_n 0, 1) := by decide +kernel
theorem d_Pi_moveTo_1 : decode c_Pi_moveTo 1 = .ok (.getfield 15, 3) := by decide +kernel
theorem d_Pi_moveTo_4 : decode c_Pi_moveTo 4 = .ok (.aload_n 1, 1) := by decide +kernel
theorem d_Pi_moveTo_5 : decode c_Pi_moveTo 5 = .ok (.if_acmp .ne 5, 3) := by decide +kernel
theorem d_Pi_moveTo_8 : decode c_Pi_moveTo 8 = .ok (.iconst 0, 1) := by decide +kernel
theorem d_Pi_moveTo_9 : decode c_Pi_moveTo 9 = .ok (.ireturn, 1) := by decide +kernel
theorem d_Pi_moveTo_10 : decode c_Pi_moveTo 10 = .ok (.aload_n 0, 1) := by decide +kernel
theorem d_Pi_moveTo_11 : decode c_Pi_moveTo 11 = .ok (.getfield 15, 3) := by decide +kernel
theorem d_Pi_moveTo_14 : decode c_Pi_moveTo 14 = .ok (.ifnull 15, 3) := by decide +kernel
theorem d_Pi_moveTo_17 : decode c_Pi_moveTo 17 = .ok (.aload_n 0, 1) := by decide +kernel
theorem d_Pi_moveTo_18 : decode c_Pi_moveTo 18 = .ok (.getfield 15, 3) := by decide +kernel
theorem d_Pi_moveTo_21 : decode c_Pi_moveTo 21 = .ok (.aload_n 0, 1) := by decide +kernel
theorem d_Pi_moveTo_22 : decode c_Pi_moveTo 22 = .ok (.getfield 25, 3) := by decide +kernel
theorem d_Pi_moveTo_25 : decode c_Pi_moveTo 25 = .ok (.iconst (-1), 1) := by decide +kernel
theorem d_Pi_moveTo_26 : decode c_Pi_moveTo 26 = .ok (.invokevirtual 29, 3) := by decide +kernel
theorem d_Pi_moveTo_29 : decode c_Pi_moveTo 29 = .ok (.aload_n 1, 1) := by decide +kernel
theorem d_Pi_moveTo_30 : decode c_Pi_moveTo 30 = .ok (.ifnull 12, 3) := by decide +kernel
theorem d_Pi_moveTo_33 : decode c_Pi_moveTo 33 = .ok (.aload_n 1, 1) := by decide +kernel
theorem d_Pi_moveTo_34 : decode c_Pi_moveTo 34 = .ok (.aload_n 0, 1) := by decide +kernel
theorem d_Pi_moveTo_35 : decode c_Pi_moveTo 35 = .ok (.getfield 25, 3) := by decide +kernel
theorem d_Pi_moveTo_38 : decode c_Pi_moveTo 38 = .ok (.iconst 1, 1) := by decide +kernel
theorem d_Pi_moveTo_39 : decode c_Pi_moveTo 39 = .ok (.invokevirtual 29, 3) := by decide +kernel
theorem d_Pi_moveTo_42 : decode c_Pi_moveTo 42 = .ok (.aload_n 0, 1) := by decide +kernel
theorem d_Pi_moveTo_43 : decode c_Pi_moveTo 43 = .ok (.aload_n 1, 1) := by decide +kernel
theorem d_Pi_moveTo_44 : decode c_Pi_moveTo 44 = .ok (.putfield 15, 3) := by decide +kernel
theorem d_Pi_moveTo_47 : decode c_Pi_moveTo 47 = .ok (.iconst 1, 1) := by decide +kernel
theorem d_Pi_moveTo_48 : decode c_Pi_moveTo 48 = .ok (.ireturn, 1) := by decide +kernel
end
section
abbrev c_Rd_init : ByteArray := prog_7_method_1_code
abbrev r_Rd_init : Option FieldType := none
def y_Rd_init : MethodName := ⟨"PinKindChecks$RuleReader", "<init>", "(LPinKindChecks$RuleText;)V"⟩
theorem d_Rd_init_0 : decode c_Rd_init 0 = .ok (.aload_n 0, 1) := by decide +kernel
theorem d_Rd_init_1 : decode c_Rd_init 1 = .ok (.invokespecial 3, 3) := by decide +kernel
theorem d_Rd_init_4 : decode c_Rd_init 4 = .ok (.aload_n 0, 1) := by decide +kernel
theorem d_Rd_init_5 : decode c_Rd_init 5 = .ok (.bipush 80, 2) := by decide +kernel
theorem d_Rd_init_7 : decode c_Rd_init 7 = .ok (.newarray .int, 2) := by decide +kernel
theorem d_Rd_init_9 : decode c_Rd_init 9 = .ok (.putfield 9, 3) := by decide +kernel
theorem d_Rd_init_12 : decode c_Rd_init 12 = .ok (.aload_n 0, 1) := by decide +kernel
theorem d_Rd_init_13 : decode c_Rd_init 13 = .ok (.bipush 80, 2) := by decide +kernel
theorem d_Rd_init_15 : decode c_Rd_init 15 = .ok (.newarray .int, 2) := by decide +kernel
theorem d_Rd_init_17 : decode c_Rd_init 17 = .ok (.putfield 15, 3) := by decide +kernel
theorem d_Rd_init_20 : decode c_Rd_init 20 = .ok (.aload_n 0, 1) := by decide +kernel
theorem d_Rd_init_21 : decode c_Rd_init 21 = .ok (.bipush 80, 2) := by decide +kernel
theorem d_Rd_init_23 : decode c_Rd_init 23 = .ok (.newarray .int, 2) := by decide +kernel
theorem d_Rd_init_25 : decode c_Rd_init 25 = .ok (.putfield 18, 3) := by decide +kernel
theorem d_Rd_init_28 : decode c_Rd_init 28 = .ok (.aload_n 0, 1) := by decide +kernel
theorem d_Rd_init_29 : decode c_Rd_init 29 = .ok (.iconst 0, 1) := by decide +kernel
theorem d_Rd_init_30 : decode c_Rd_init 30 = .ok (.putfield 21, 3) := by decide +kernel
theorem d_Rd_init_33 : decode c_Rd_init 33 = .ok (.aload_n 0, 1) := by decide +kernel
theorem d_Rd_init_34 : decode c_Rd_init 34 = .ok (.iconst 0, 1) := by decide +kernel
theorem d_Rd_init_35 : decode c_Rd_init 35 = .ok (.putfield 25, 3) := by decide +kernel
theorem d_Rd_init_38 : decode c_Rd_init 38 = .ok (.aload_n 0, 1) := by decide +kernel
theorem d_Rd_init_39 : decode c_Rd_init 39 = .ok (.iconst 0, 1) := by decide +kernel
theorem d_Rd_init_40 : decode c_Rd_init 40 = .ok (.putfield 28, 3) := by decide +kernel
theorem d_Rd_init_43 : decode c_Rd_init 43 = .ok (.aload_n 0, 1) := by decide +kernel
theorem d_Rd_init_44 : decode c_Rd_init 44 = .ok (.iconst 0, 1) := by decide +kernel
theorem d_Rd_init_45 : decode c_Rd_init 45 = .ok (.putfield 31, 3) := by decide +kernel
theorem d_Rd_init_48 : decode c_Rd_init 48 = .ok (.aload_n 0, 1) := by decide +kernel
theorem d_Rd_init_49 : decode c_Rd_init 49 = .ok (.iconst 0, 1) := by decide +kernel
theorem d_Rd_init_50 : decode c_Rd_init 50 = .ok (.putfield 34, 3) := by decide +kernel
theorem d_Rd_init_53 : decode c_Rd_init 53 = .ok (.aload_n 0, 1) := by decide +kernel
theorem d_Rd_init_54 : decode c_Rd_init 54 = .ok (.iconst 0, 1) := by decide +kernel
theorem d_Rd_init_55 : decode c_Rd_init 55 = .ok (.putfield 37, 3) := by decide +kernel
theorem d_Rd_init_58 : decode c_Rd_init 58 = .ok (.aload_n 0, 1) := by decide +kernel
theorem d_Rd_init_59 : decode c_Rd_init 59 = .ok (.iconst 0, 1) := by decide +kernel
theorem d_Rd_init_60 : decode c_Rd_init 60 = .ok (.putfield 41, 3) := by decide +kernel
theorem d_Rd_init_63 : decode c_Rd_init 63 = .ok (.aload_n 0, 1) := by decide +kernel
theorem d_Rd_init_64 : decode c_Rd_init 64 = .ok (.iconst 1, 1) := by decide +kernel
theorem d_Rd_init_65 : decode c_Rd_init 65 = .ok (.putfield 44, 3) := by decide +kernel
theorem d_Rd_init_68 : decode c_Rd_init 68 = .ok (.aload_n 0, 1) := by decide +kernel
theorem d_Rd_init_69 : decode c_Rd_init 69 = .ok (.aload_n 1, 1) := by decide +kernel
theorem d_Rd_init_70 : decode c_Rd_init 70 = .ok (.putfield 47, 3) := by decide +kernel
theorem d_Rd_init_73 : decode c_Rd_init 73 = .ok (.return_, 1) := by decide +kernel
abbrev c_Rd_readRule : ByteArray := prog_7_method_2_code
abbrev r_Rd_readRule : Option FieldType := (some (FieldType.object "PinKindChecks$ToldRule"))
def y_Rd_readRule : MethodName := ⟨"PinKindChecks$RuleReader", "readRule", "()LPinKindChecks$ToldRule;"⟩
theorem d_Rd_readRule_0 : decode c_Rd_readRule 0 = .ok (.aload_n 0, 1) := by decide +kernel
theorem d_Rd_readRule_1 : decode c_Rd_readRule 1 = .ok (.invokevirtual 51, 3) := by decide +kernel
theorem d_Rd_readRule_4 : decode c_Rd_readRule 4 = .ok (.iconst 1, 1) := by decide +kernel
theorem d_Rd_readRule_5 : decode c_Rd_readRule 5 = .ok (.istore_n 1, 1) := by decide +kernel
theorem d_Rd_readRule_6 : decode c_Rd_readRule 6 = .ok (.iload_n 1, 1) := by decide +kernel
theorem d_Rd_readRule_7 : decode c_Rd_readRule 7 = .ok (.ifCond .eq 44, 3) := by decide +kernel
theorem d_Rd_readRule_10 : decode c_Rd_readRule 10 = .ok (.aload_n 0, 1) := by decide +kernel
theorem d_Rd_readRule_11 : decode c_Rd_readRule 11 = .ok (.getfield 28, 3) := by decide +kernel
theorem d_Rd_readRule_14 : decode c_Rd_readRule 14 = .ok (.bipush 80, 2) := by decide +kernel
theorem d_Rd_readRule_16 : decode c_Rd_readRule 16 = .ok (.if_icmp .ge 35, 3) := by decide +kernel
theorem d_Rd_readRule_19 : decode c_Rd_readRule 19 = .ok (.aload_n 0, 1) := by decide +kernel
theorem d_Rd_readRule_20 : decode c_Rd_readRule 20 = .ok (.getfield 47, 3) := by decide +kernel
theorem d_Rd_readRule_23 : decode c_Rd_readRule 23 = .ok (.invokevirtual 54, 3) := by decide +kernel
theorem d_Rd_readRule_26 : decode c_Rd_readRule 26 = .ok (.ifCond .eq 25, 3) := by decide +kernel
theorem d_Rd_readRule_29 : decode c_Rd_readRule 29 = .ok (.aload_n 0, 1) := by decide +kernel
theorem d_Rd_readRule_30 : decode c_Rd_readRule 30 = .ok (.invokevirtual 60, 3) := by decide +kernel
theorem d_Rd_readRule_33 : decode c_Rd_readRule 33 = .ok (.istore_n 1, 1) := by decide +kernel
theorem d_Rd_readRule_34 : decode c_Rd_readRule 34 = .ok (.iload_n 1, 1) := by decide +kernel
theorem d_Rd_readRule_35 : decode c_Rd_readRule 35 = .ok (.ifCond .eq (-29), 3) := by decide +kernel
theorem d_Rd_readRule_38 : decode c_Rd_readRule 38 = .ok (.aload_n 0, 1) := by decide +kernel
theorem d_Rd_readRule_39 : decode c_Rd_readRule 39 = .ok (.dup, 1) := by decide +kernel
theorem d_Rd_readRule_40 : decode c_Rd_readRule 40 = .ok (.getfield 28, 3) := by decide +kernel
theorem d_Rd_readRule_43 : decode c_Rd_readRule 43 = .ok (.iconst 1, 1) := by decide +kernel
theorem d_Rd_readRule_44 : decode c_Rd_readRule 44 = .ok (.iadd, 1) := by decide +kernel
theorem d_Rd_readRule_45 : decode c_Rd_readRule 45 = .ok (.putfield 28, 3) := by decide +kernel
theorem d_Rd_readRule_48 : decode c_Rd_readRule 48 = .ok (.goto (-42), 3) := by decide +kernel
theorem d_Rd_readRule_51 : decode c_Rd_readRule 51 = .ok (.iload_n 1, 1) := by decide +kernel
theorem d_Rd_readRule_52 : decode c_Rd_readRule 52 = .ok (.ifCond .eq 17, 3) := by decide +kernel
theorem d_Rd_readRule_55 : decode c_Rd_readRule 55 = .ok (.aload_n 0, 1) := by decide +kernel
theorem d_Rd_readRule_56 : decode c_Rd_readRule 56 = .ok (.getfield 34, 3) := by decide +kernel
theorem d_Rd_readRule_59 : decode c_Rd_readRule 59 = .ok (.ifCond .gt 10, 3) := by decide +kernel
theorem d_Rd_readRule_62 : decode c_Rd_readRule 62 = .ok (.aload_n 0, 1) := by decide +kernel
theorem d_Rd_readRule_63 : decode c_Rd_readRule 63 = .ok (.invokevirtual 63, 3) := by decide +kernel
theorem d_Rd_readRule_66 : decode c_Rd_readRule 66 = .ok (.ifCond .ne 5, 3) := by decide +kernel
theorem d_Rd_readRule_69 : decode c_Rd_readRule 69 = .ok (.aconst_null, 1) := by decide +kernel
theorem d_Rd_readRule_70 : decode c_Rd_readRule 70 = .ok (.areturn, 1) := by decide +kernel
theorem d_Rd_readRule_71 : decode c_Rd_readRule 71 = .ok (.aload_n 0, 1) := by decide +kernel
theorem d_Rd_readRule_72 : decode c_Rd_readRule 72 = .ok (.iconst 1, 1) := by decide +kernel
theorem d_Rd_readRule_73 : decode c_Rd_readRule 73 = .ok (.invokevirtual 68, 3) := by decide +kernel
theorem d_Rd_readRule_76 : decode c_Rd_readRule 76 = .ok (.new 66, 3) := by decide +kernel
theorem d_Rd_readRule_79 : decode c_Rd_readRule 79 = .ok (.dup, 1) := by decide +kernel
theorem d_Rd_readRule_80 : decode c_Rd_readRule 80 = .ok (.aload_n 0, 1) := by decide +kernel
theorem d_Rd_readRule_81 : decode c_Rd_readRule 81 = .ok (.getfield 41, 3) := by decide +kernel
theorem d_Rd_readRule_84 : decode c_Rd_readRule 84 = .ok (.aload_n 0, 1) := by decide +kernel
theorem d_Rd_readRule_85 : decode c_Rd_readRule 85 = .ok (.getfield 44, 3) := by decide +kernel
theorem d_Rd_readRule_88 : decode c_Rd_readRule 88 = .ok (.aload_n 0, 1) := by decide +kernel
theorem d_Rd_readRule_89 : decode c_Rd_readRule 89 = .ok (.getfield 9, 3) := by decide +kernel
theorem d_Rd_readRule_92 : decode c_Rd_readRule 92 = .ok (.aload_n 0, 1) := by decide +kernel
theorem d_Rd_readRule_93 : decode c_Rd_readRule 93 = .ok (.getfield 21, 3) := by decide +kernel
theorem d_Rd_readRule_96 : decode c_Rd_readRule 96 = .ok (.invokestatic 72, 3) := by decide +kernel
theorem d_Rd_readRule_99 : decode c_Rd_readRule 99 = .ok (.aload_n 0, 1) := by decide +kernel
theorem d_Rd_readRule_100 : decode c_Rd_readRule 100 = .ok (.getfield 15, 3) := by decide +kernel
theorem d_Rd_readRule_103 : decode c_Rd_readRule 103 = .ok (.aload_n 0, 1) := by decide +kernel
theorem d_Rd_readRule_104 : decode c_Rd_readRule 104 = .ok (.getfield 21, 3) := by decide +kernel
theorem d_Rd_readRule_107 : decode c_Rd_readRule 107 = .ok (.invokestatic 72, 3) := by decide +kernel
theorem d_Rd_readRule_110 : decode c_Rd_readRule 110 = .ok (.invokespecial 78, 3) := by decide +kernel
theorem d_Rd_readRule_113 : decode c_Rd_readRule 113 = .ok (.areturn, 1) := by decide +kernel
abbrev c_Rd_start : ByteArray := prog_7_method_4_code
abbrev r_Rd_start : Option FieldType := none
def y_Rd_start : MethodName := ⟨"PinKindChecks$RuleReader", "start", "()V"⟩
theorem d_Rd_start_0 : decode c_Rd_start 0 = .ok (.aload_n 0, 1) := by decide +kernel
theorem d_Rd_start_1 : decode c_Rd_start 1 = .ok (.getfield 47, 3) := by decide +kernel
theorem d_Rd_start_4 : decode c_Rd_start 4 = .ok (.invokevirtual 81, 3) := by decide +kernel
theorem d_Rd_start_7 : decode c_Rd_start 7 = .ok (.aload_n 0, 1) := by decide +kernel
theorem d_Rd_start_8 : decode c_Rd_start 8 = .ok (.iconst 0, 1) := by decide +kernel
theorem d_Rd_start_9 : decode c_Rd_start 9 = .ok (.putfield 21, 3) := by decide +kernel
theorem d_Rd_start_12 : decode c_Rd_start 12 = .ok (.aload_n 0, 1) := by decide +kernel
theorem d_Rd_start_13 : decode c_Rd_start 13 = .ok (.iconst 0, 1) := by decide +kernel
theorem d_Rd_start_14 : decode c_Rd_start 14 = .ok (.putfield 25, 3) := by decide +kernel
theorem d_Rd_start_17 : decode c_Rd_start 17 = .ok (.aload_n 0, 1) := by decide +kernel
theorem d_Rd_start_18 : decode c_Rd_start 18 = .ok (.iconst 0, 1) := by decide +kernel
theorem d_Rd_start_19 : decode c_Rd_start 19 = .ok (.putfield 28, 3) := by decide +kernel
theorem d_Rd_start_22 : decode c_Rd_start 22 = .ok (.aload_n 0, 1) := by decide +kernel
theorem d_Rd_start_23 : decode c_Rd_start 23 = .ok (.iconst 0, 1) := by decide +kernel
theorem d_Rd_start_24 : decode c_Rd_start 24 = .ok (.putfield 31, 3) := by decide +kernel
theorem d_Rd_start_27 : decode c_Rd_start 27 = .ok (.aload_n 0, 1) := by decide +kernel
theorem d_Rd_start_28 : decode c_Rd_start 28 = .ok (.iconst 0, 1) := by decide +kernel
theorem d_Rd_start_29 : decode c_Rd_start 29 = .ok (.putfield 34, 3) := by decide +kernel
theorem d_Rd_start_32 : decode c_Rd_start 32 = .ok (.aload_n 0, 1) := by decide +kernel
theorem d_Rd_start_33 : decode c_Rd_start 33 = .ok (.iconst 0, 1) := by decide +kernel
theorem d_Rd_start_34 : decode c_Rd_start 34 = .ok (.putfield 37, 3) := by decide +kernel
theorem d_Rd_start_37 : decode c_Rd_start 37 = .ok (.return_, 1) := by decide +kernel
abbrev c_Rd_takeWord : ByteArray := prog_7_method_6_code
abbrev r_Rd_takeWord : Option FieldType := (some FieldType.boolean)
def y_Rd_takeWord : MethodName := ⟨"PinKindChecks$RuleReader", "takeWord", "()Z"⟩
theorem d_Rd_takeWord_0 : decode c_Rd_takeWord 0 = .ok (.aload_n 0, 1) := by decide +kernel
theorem d_Rd_takeWord_1 : decode c_Rd_takeWord 1 = .ok (.getfield 31, 3) := by decide +kernel
theorem d_Rd_takeWord_4 : decode c_Rd_takeWord 4 = .ok (.tableswitch 83 0 4 #[36, 41, 46, 73, 78], 36) := by decide +kernel
theorem d_Rd_takeWord_40 : decode c_Rd_takeWord 40 = .ok (.aload_n 0, 1) := by decide +kernel
theorem d_Rd_takeWord_41 : decode c_Rd_takeWord 41 = .ok (.invokevirtual 84, 3) := by decide +kernel
theorem d_Rd_takeWord_44 : decode c_Rd_takeWord 44 = .ok (.ireturn, 1) := by decide +kernel
theorem d_Rd_takeWord_45 : decode c_Rd_takeWord 45 = .ok (.aload_n 0, 1) := by decide +kernel
theorem d_Rd_takeWord_46 : decode c_Rd_takeWord 46 = .ok (.invokevirtual 87, 3) := by decide +kernel
theorem d_Rd_takeWord_49 : decode c_Rd_takeWord 49 = .ok (.ireturn, 1) := by decide +kernel
theorem d_Rd_takeWord_50 : decode c_Rd_takeWord 50 = .ok (.aload_n 0, 1) := by decide +kernel
theorem d_Rd_takeWord_51 : decode c_Rd_takeWord 51 = .ok (.invokevirtual 90, 3) := by decide +kernel
theorem d_Rd_takeWord_54 : decode c_Rd_takeWord 54 = .ok (.ifCond .ne 17, 3) := by decide +kernel
theorem d_Rd_takeWord_57 : decode c_Rd_takeWord 57 = .ok (.aload_n 0, 1) := by decide +kernel
theorem d_Rd_takeWord_58 : decode c_Rd_takeWord 58 = .ok (.invokevirtual 93, 3) := by decide +kernel
theorem d_Rd_takeWord_61 : decode c_Rd_takeWord 61 = .ok (.ifCond .ne 10, 3) := by decide +kernel
theorem d_Rd_takeWord_64 : decode c_Rd_takeWord 64 = .ok (.aload_n 0, 1) := by decide +kernel
theorem d_Rd_takeWord_65 : decode c_Rd_takeWord 65 = .ok (.invokevirtual 96, 3) := by decide +kernel
theorem d_Rd_takeWord_68 : decode c_Rd_takeWord 68 = .ok (.ifCond .eq 7, 3) := by decide +kernel
theorem d_Rd_takeWord_71 : decode c_Rd_takeWord 71 = .ok (.iconst 1, 1) := by decide +kernel
theorem d_Rd_takeWord_72 : decode c_Rd_takeWord 72 = .ok (.goto 4, 3) := by decide +kernel
theorem d_Rd_takeWord_75 : decode c_Rd_takeWord 75 = .ok (.iconst 0, 1) := by decide +kernel
theorem d_Rd_takeWord_76 : decode c_Rd_takeWord 76 = .ok (.ireturn, 1) := by decide +kernel
theorem d_Rd_takeWord_77 : decode c_Rd_takeWord 77 = .ok (.aload_n 0, 1) := by decide +kernel
theorem d_Rd_takeWord_78 : decode c_Rd_takeWord 78 = .ok (.invokevirtual 96, 3) := by decide +kernel
theorem d_Rd_takeWord_81 : decode c_Rd_takeWord 81 = .ok (.ireturn, 1) := by decide +kernel
theorem d_Rd_takeWord_82 : decode c_Rd_takeWord 82 = .ok (.aload_n 0, 1) := by decide +kernel
theorem d_Rd_takeWord_83 : decode c_Rd_takeWord 83 = .ok (.invokevirtual 99, 3) := by decide +kernel
theorem d_Rd_takeWord_86 : decode c_Rd_takeWord 86 = .ok (.ireturn, 1) := by decide +kernel
theorem d_Rd_takeWord_87 : decode c_Rd_takeWord 87 = .ok (.aload_n 0, 1) := by decide +kernel
theorem d_Rd_takeWord_88 : decode c_Rd_takeWord 88 = .ok (.invokevirtual 102, 3) := by decide +kernel
theorem d_Rd_takeWord_91 : decode c_Rd_takeWord 91 = .ok (.ifCond .ne 10, 3) := by decide +kernel
theorem d_Rd_takeWord_94 : decode c_Rd_takeWord 94 = .ok (.aload_n 0, 1) := by decide +kernel
theorem d_Rd_takeWord_95 : decode c_Rd_takeWord 95 = .ok (.invokevirtual 105, 3) := by decide +kernel
theorem d_Rd_takeWord_98 : decode c_Rd_takeWord 98 = .ok (.ifCond .eq 7, 3) := by decide +kernel
theorem d_Rd_takeWord_101 : decode c_Rd_takeWord 101 = .ok (.iconst 1, 1) := by decide +kernel
theorem d_Rd_takeWord_102 : decode c_Rd_takeWord 102 = .ok (.goto 4, 3) := by decide +kernel
theorem d_Rd_takeWord_105 : decode c_Rd_takeWord 105 = .ok (.iconst 0, 1) := by decide +kernel
theorem d_Rd_takeWord_106 : decode c_Rd_takeWord 106 = .ok (.ireturn, 1) := by decide +kernel
abbrev c_Rd_takeSubject : ByteArray := prog_7_method_7_code
abbrev r_Rd_takeSubject : Option FieldType := (some FieldType.boolean)
def y_Rd_takeSubject : MethodName := ⟨"PinKindChecks$RuleReader", "takeSubject", "()Z"⟩
theorem d_Rd_takeSubject_0 : decode c_Rd_takeSubject 0 = .ok (.aload_n 0, 1) := by decide +kernel
theorem d_Rd_takeSubject_1 : decode c_Rd_takeSubject 1 = .ok (.getfield 47, 3) := by decide +kernel
theorem d_Rd_takeSubject_4 : decode c_Rd_takeSubject 4 = .ok (.ldc 108, 2) := by decide +kernel
theorem d_Rd_takeSubject_6 : decode c_Rd_takeSubject 6 = .ok (.invokevirtual 110, 3) := by decide +kernel
theorem d_Rd_takeSubject_9 : decode c_Rd_takeSubject 9 = .ok (.ifCond .eq 11, 3) := by decide +kernel
theorem d_Rd_takeSubject_12 : decode c_Rd_takeSubject 12 = .ok (.aload_n 0, 1) := by decide +kernel
theorem d_Rd_takeSubject_13 : decode c_Rd_takeSubject 13 = .ok (.iconst 0, 1) := by decide +kernel
theorem d_Rd_takeSubject_14 : decode c_Rd_takeSubject 14 = .ok (.putfield 41, 3) := by decide +kernel
theorem d_Rd_takeSubject_17 : decode c_Rd_takeSubject 17 = .ok (.goto 45, 3) := by decide +kernel
theorem d_Rd_takeSubject_20 : decode c_Rd_takeSubject 20 = .ok (.aload_n 0, 1) := by decide +kernel
theorem d_Rd_takeSubject_21 : decode c_Rd_takeSubject 21 = .ok (.getfield 47, 3) := by decide +kernel
theorem d_Rd_takeSubject_24 : decode c_Rd_takeSubject 24 = .ok (.ldc 114, 2) := by decide +kernel
theorem d_Rd_takeSubject_26 : decode c_Rd_takeSubject 26 = .ok (.invokevirtual 110, 3) := by decide +kernel
theorem d_Rd_takeSubject_29 : decode c_Rd_takeSubject 29 = .ok (.ifCond .eq 11, 3) := by decide +kernel
theorem d_Rd_takeSubject_32 : decode c_Rd_takeSubject 32 = .ok (.aload_n 0, 1) := by decide +kernel
theorem d_Rd_takeSubject_33 : decode c_Rd_takeSubject 33 = .ok (.iconst 1, 1) := by decide +kernel
theorem d_Rd_takeSubject_34 : decode c_Rd_takeSubject 34 = .ok (.putfield 41, 3) := by decide +kernel
theorem d_Rd_takeSubject_37 : decode c_Rd_takeSubject 37 = .ok (.goto 25, 3) := by decide +kernel
theorem d_Rd_takeSubject_40 : decode c_Rd_takeSubject 40 = .ok (.aload_n 0, 1) := by decide +kernel
theorem d_Rd_takeSubject_41 : decode c_Rd_takeSubject 41 = .ok (.getfield 47, 3) := by decide +kernel
theorem d_Rd_takeSubject_44 : decode c_Rd_takeSubject 44 = .ok (.ldc 116, 2) := by decide +kernel
theorem d_Rd_takeSubject_46 : decode c_Rd_takeSubject 46 = .ok (.invokevirtual 110, 3) := by decide +kernel
theorem d_Rd_takeSubject_49 : decode c_Rd_takeSubject 49 = .ok (.ifCond .eq 11, 3) := by decide +kernel
theorem d_Rd_takeSubject_52 : decode c_Rd_takeSubject 52 = .ok (.aload_n 0, 1) := by decide +kernel
theorem d_Rd_takeSubject_53 : decode c_Rd_takeSubject 53 = .ok (.iconst 2, 1) := by decide +kernel
theorem d_Rd_takeSubject_54 : decode c_Rd_takeSubject 54 = .ok (.putfield 41, 3) := by decide +kernel
theorem d_Rd_takeSubject_57 : decode c_Rd_takeSubject 57 = .ok (.goto 5, 3) := by decide +kernel
theorem d_Rd_takeSubject_60 : decode c_Rd_takeSubject 60 = .ok (.iconst 0, 1) := by decide +kernel
theorem d_Rd_takeSubject_61 : decode c_Rd_takeSubject 61 = .ok (.ireturn, 1) := by decide +kernel
theorem d_Rd_takeSubject_62 : decode c_Rd_takeSubject 62 = .ok (.aload_n 0, 1) := by decide +kernel
theorem d_Rd_takeSubject_63 : decode c_Rd_takeSubject 63 = .ok (.iconst 1, 1) := by decide +kernel
theorem d_Rd_takeSubject_64 : decode c_Rd_takeSubject 64 = .ok (.putfield 31, 3) := by decide +kernel
theorem d_Rd_takeSubject_67 : decode c_Rd_takeSubject 67 = .ok (.iconst 1, 1) := by decide +kernel
theorem d_Rd_takeSubject_68 : decode c_Rd_takeSubject 68 = .ok (.ireturn, 1) := by decide +kernel
abbrev c_Rd_takeWeight : ByteArray := prog_7_method_8_code
abbrev r_Rd_takeWeight : Option FieldType := (some FieldType.boolean)
def y_Rd_takeWeight : MethodName := ⟨"PinKindChecks$RuleReader", "takeWeight", "()Z"⟩
theorem d_Rd_takeWeight_0 : decode c_Rd_takeWeight 0 = .ok (.aload_n 0, 1) := by decide +kernel
theorem d_Rd_takeWeight_1 : decode c_Rd_takeWeight 1 = .ok (.getfield 47, 3) := by decide +kernel
theorem d_Rd_takeWeight_4 : decode c_Rd_takeWeight 4 = .ok (.ldc 118, 2) := by decide +kernel
theorem d_Rd_takeWeight_6 : decode c_Rd_takeWeight 6 = .ok (.invokevirtual 110, 3) := by decide +kernel
theorem d_Rd_takeWeight_9 : decode c_Rd_takeWeight 9 = .ok (.ifCond .eq 11, 3) := by decide +kernel
theorem d_Rd_takeWeight_12 : decode c_Rd_takeWeight 12 = .ok (.aload_n 0, 1) := by decide +kernel
theorem d_Rd_takeWeight_13 : decode c_Rd_takeWeight 13 = .ok (.iconst 1, 1) := by decide +kernel
theorem d_Rd_takeWeight_14 : decode c_Rd_takeWeight 14 = .ok (.putfield 44, 3) := by decide +kernel
theorem d_Rd_takeWeight_17 : decode c_Rd_takeWeight 17 = .ok (.goto 25, 3) := by decide +kernel
theorem d_Rd_takeWeight_20 : decode c_Rd_takeWeight 20 = .ok (.aload_n 0, 1) := by decide +kernel
theorem d_Rd_takeWeight_21 : decode c_Rd_takeWeight 21 = .ok (.getfield 47, 3) := by decide +kernel
theorem d_Rd_takeWeight_24 : decode c_Rd_takeWeight 24 = .ok (.ldc 120, 2) := by decide +kernel
theorem d_Rd_takeWeight_26 : decode c_Rd_takeWeight 26 = .ok (.invokevirtual 110, 3) := by decide +kernel
theorem d_Rd_takeWeight_29 : decode c_Rd_takeWeight 29 = .ok (.ifCond .eq 11, 3) := by decide +kernel
theorem d_Rd_takeWeight_32 : decode c_Rd_takeWeight 32 = .ok (.aload_n 0, 1) := by decide +kernel
theorem d_Rd_takeWeight_33 : decode c_Rd_takeWeight 33 = .ok (.iconst 2, 1) := by decide +kernel
theorem d_Rd_takeWeight_34 : decode c_Rd_takeWeight 34 = .ok (.putfield 44, 3) := by decide +kernel
theorem d_Rd_takeWeight_37 : decode c_Rd_takeWeight 37 = .ok (.goto 5, 3) := by decide +kernel
theorem d_Rd_takeWeight_40 : decode c_Rd_takeWeight 40 = .ok (.iconst 0, 1) := by decide +kernel
theorem d_Rd_takeWeight_41 : decode c_Rd_takeWeight 41 = .ok (.ireturn, 1) := by decide +kernel
theorem d_Rd_takeWeight_42 : decode c_Rd_takeWeight 42 = .ok (.aload_n 0, 1) := by decide +kernel
theorem d_Rd_takeWeight_43 : decode c_Rd_takeWeight 43 = .ok (.iconst 2, 1) := by decide +kernel
theorem d_Rd_takeWeight_44 : decode c_Rd_takeWeight 44 = .ok (.putfield 31, 3) := by decide +kernel
theorem d_Rd_takeWeight_47 : decode c_Rd_takeWeight 47 = .ok (.iconst 1, 1) := by decide +kernel
theorem d_Rd_takeWeight_48 : decode c_Rd_takeWeight 48 = .ok (.ireturn, 1) := by decide +kernel
abbrev c_Rd_takeNot : ByteArray := prog_7_method_9_code
abbrev r_Rd_takeNot : Option FieldType := (some FieldType.boolean)
def y_Rd_takeNot : MethodName := ⟨"PinKindChecks$RuleReader", "takeNot", "()Z"⟩
theorem d_Rd_takeNot_0 : decode c_Rd_takeNot 0 = .ok (.aload_n 0, 1) := by decide +kernel
theorem d_Rd_takeNot_1 : decode c_Rd_takeNot 1 = .ok (.getfield 47, 3) := by decide +kernel
theorem d_Rd_takeNot_4 : decode c_Rd_takeNot 4 = .ok (.ldc 122, 2) := by decide +kernel
theorem d_Rd_takeNot_6 : decode c_Rd_takeNot 6 = .ok (.invokevirtual 110, 3) := by decide +kernel
theorem d_Rd_takeNot_9 : decode c_Rd_takeNot 9 = .ok (.ifCond .ne 5, 3) := by decide +kernel
theorem d_Rd_takeNot_12 : decode c_Rd_takeNot 12 = .ok (.iconst 0, 1) := by decide +kernel
theorem d_Rd_takeNot_13 : decode c_Rd_takeNot 13 = .ok (.ireturn, 1) := by decide +kernel
theorem d_Rd_takeNot_14 : decode c_Rd_takeNot 14 = .ok (.aload_n 0, 1) := by decide +kernel
theorem d_Rd_takeNot_15 : decode c_Rd_takeNot 15 = .ok (.iconst 3, 1) := by decide +kernel
theorem d_Rd_takeNot_16 : decode c_Rd_takeNot 16 = .ok (.invokevirtual 124, 3) := by decide +kernel
theorem d_Rd_takeNot_19 : decode c_Rd_takeNot 19 = .ok (.iconst 1, 1) := by decide +kernel
theorem d_Rd_takeNot_20 : decode c_Rd_takeNot 20 = .ok (.ireturn, 1) := by decide +kernel
abbrev c_Rd_putOff : ByteArray := prog_7_method_21_code
abbrev r_Rd_putOff : Option FieldType := none
def y_Rd_putOff : MethodName := ⟨"PinKindChecks$RuleReader", "putOff", "(I)V"⟩
theorem d_Rd_putOff_0 : decode c_Rd_putOff 0 = .ok (.aload_n 0, 1) := by decide +kernel
theorem d_Rd_putOff_1 : decode c_Rd_putOff 1 = .ok (.getfield 25, 3) := by decide +kernel
theorem d_Rd_putOff_4 : decode c_Rd_putOff 4 = .ok (.aload_n 0, 1) := by decide +kernel
theorem d_Rd_putOff_5 : decode c_Rd_putOff 5 = .ok (.getfield 18, 3) := by decide +kernel
theorem d_Rd_putOff_8 : decode c_Rd_putOff 8 = .ok (.arraylength, 1) := by decide +kernel
theorem d_Rd_putOff_9 : decode c_Rd_putOff 9 = .ok (.if_icmp .ge 23, 3) := by decide +kernel
theorem d_Rd_putOff_12 : decode c_Rd_putOff 12 = .ok (.aload_n 0, 1) := by decide +kernel
theorem d_Rd_putOff_13 : decode c_Rd_putOff 13 = .ok (.getfield 18, 3) := by decide +kernel
theorem d_Rd_putOff_16 : decode c_Rd_putOff 16 = .ok (.aload_n 0, 1) := by decide +kernel
theorem d_Rd_putOff_17 : decode c_Rd_putOff 17 = .ok (.getfield 25, 3) := by decide +kernel
theorem d_Rd_putOff_20 : decode c_Rd_putOff 20 = .ok (.iload_n 1, 1) := by decide +kernel
theorem d_Rd_putOff_21 : decode c_Rd_putOff 21 = .ok (.iastore, 1) := by decide +kernel
theorem d_Rd_putOff_22 : decode c_Rd_putOff 22 = .ok (.aload_n 0, 1) := by decide +kernel
theorem d_Rd_putOff_23 : decode c_Rd_putOff 23 = .ok (.dup, 1) := by decide +kernel
theorem d_Rd_putOff_24 : decode c_Rd_putOff 24 = .ok (.getfield 25, 3) := by decide +kernel
theorem d_Rd_putOff_27 : decode c_Rd_putOff 27 = .ok (.iconst 1, 1) := by decide +kernel
theorem d_Rd_putOff_28 : decode c_Rd_putOff 28 = .ok (.iadd, 1) := by decide +kernel
theorem d_Rd_putOff_29 : decode c_Rd_putOff 29 = .ok (.putfield 25, 3) := by decide +kernel
theorem d_Rd_putOff_32 : decode c_Rd_putOff 32 = .ok (.return_, 1) := by decide +kernel
abbrev c_Rd_takeOpening : ByteArray := prog_7_method_10_code
abbrev r_Rd_takeOpening : Option FieldType := (some FieldType.boolean)
def y_Rd_takeOpening : MethodName := ⟨"PinKindChecks$RuleReader", "takeOpening", "()Z"⟩
theorem d_Rd_takeOpening_0 : decode c_Rd_takeOpening 0 = .ok (.aload_n 0, 1) := by decide +kernel
theorem d_Rd_takeOpening_1 : decode c_Rd_takeOpening 1 = .ok (.getfield 47, 3) := by decide +kernel
theorem d_Rd_takeOpening_4 : decode c_Rd_takeOpening 4 = .ok (.ldc 127, 2) := by decide +kernel
theorem d_Rd_takeOpening_6 : decode c_Rd_takeOpening 6 = .ok (.invokevirtual 110, 3) := by decide +kernel
theorem d_Rd_takeOpening_9 : decode c_Rd_takeOpening 9 = .ok (.ifCond .eq 12, 3) := by decide +kernel
theorem d_Rd_takeOpening_12 : decode c_Rd_takeOpening 12 = .ok (.aload_n 0, 1) := by decide +kernel
theorem d_Rd_takeOpening_13 : decode c_Rd_takeOpening 13 = .ok (.getfield 34, 3) := by decide +kernel
theorem d_Rd_takeOpening_16 : decode c_Rd_takeOpening 16 = .ok (.bipush 8, 2) := by decide +kernel
theorem d_Rd_takeOpening_18 : decode c_Rd_takeOpening 18 = .ok (.if_icmp .lt 5, 3) := by decide +kernel
theorem d_Rd_takeOpening_21 : decode c_Rd_takeOpening 21 = .ok (.iconst 0, 1) := by decide +kernel
theorem d_Rd_takeOpening_22 : decode c_Rd_takeOpening 22 = .ok (.ireturn, 1) := by decide +kernel
theorem d_Rd_takeOpening_23 : decode c_Rd_takeOpening 23 = .ok (.aload_n 0, 1) := by decide +kernel
theorem d_Rd_takeOpening_24 : decode c_Rd_takeOpening 24 = .ok (.dup, 1) := by decide +kernel
theorem d_Rd_takeOpening_25 : decode c_Rd_takeOpening 25 = .ok (.getfield 34, 3) := by decide +kernel
theorem d_Rd_takeOpening_28 : decode c_Rd_takeOpening 28 = .ok (.iconst 1, 1) := by decide +kernel
theorem d_Rd_takeOpening_29 : decode c_Rd_takeOpening 29 = .ok (.iadd, 1) := by decide +kernel
theorem d_Rd_takeOpening_30 : decode c_Rd_takeOpening 30 = .ok (.putfield 34, 3) := by decide +kernel
theorem d_Rd_takeOpening_33 : decode c_Rd_takeOpening 33 = .ok (.aload_n 0, 1) := by decide +kernel
theorem d_Rd_takeOpening_34 : decode c_Rd_takeOpening 34 = .ok (.iconst 0, 1) := by decide +kernel
theorem d_Rd_takeOpening_35 : decode c_Rd_takeOpening 35 = .ok (.invokevirtual 124, 3) := by decide +kernel
theorem d_Rd_takeOpening_38 : decode c_Rd_takeOpening 38 = .ok (.iconst 1, 1) := by decide +kernel
theorem d_Rd_takeOpening_39 : decode c_Rd_takeOpening 39 = .ok (.ireturn, 1) := by decide +kernel
abbrev c_Rd_takeTerm : ByteArray := prog_7_method_12_code
abbrev r_Rd_takeTerm : Option FieldType := (some FieldType.boolean)
def y_Rd_takeTerm : MethodName := ⟨"PinKindChecks$RuleReader", "takeTerm", "()Z"⟩
theorem d_Rd_takeTerm_0 : decode c_Rd_takeTerm 0 = .ok (.aload_n 0, 1) := by decide +kernel
theorem d_Rd_takeTerm_1 : decode c_Rd_takeTerm 1 = .ok (.invokevirtual 134, 3) := by decide +kernel
theorem d_Rd_takeTerm_4 : decode c_Rd_takeTerm 4 = .ok (.ifCond .ne 10, 3) := by decide +kernel
theorem d_Rd_takeTerm_7 : decode c_Rd_takeTerm 7 = .ok (.aload_n 0, 1) := by decide +kernel
theorem d_Rd_takeTerm_8 : decode c_Rd_takeTerm 8 = .ok (.invokevirtual 137, 3) := by decide +kernel
theorem d_Rd_takeTerm_11 : decode c_Rd_takeTerm 11 = .ok (.ifCond .eq 5, 3) := by decide +kernel
theorem d_Rd_takeTerm_14 : decode c_Rd_takeTerm 14 = .ok (.iconst 1, 1) := by decide +kernel
theorem d_Rd_takeTerm_15 : decode c_Rd_takeTerm 15 = .ok (.ireturn, 1) := by decide +kernel
theorem d_Rd_takeTerm_16 : decode c_Rd_takeTerm 16 = .ok (.aload_n 0, 1) := by decide +kernel
theorem d_Rd_takeTerm_17 : decode c_Rd_takeTerm 17 = .ok (.getfield 41, 3) := by decide +kernel
theorem d_Rd_takeTerm_20 : decode c_Rd_takeTerm 20 = .ok (.iconst 2, 1) := by decide +kernel
theorem d_Rd_takeTerm_21 : decode c_Rd_takeTerm 21 = .ok (.if_icmp .eq 22, 3) := by decide +kernel
theorem d_Rd_takeTerm_24 : decode c_Rd_takeTerm 24 = .ok (.aload_n 0, 1) := by decide +kernel
theorem d_Rd_takeTerm_25 : decode c_Rd_takeTerm 25 = .ok (.getfield 47, 3) := by decide +kernel
theorem d_Rd_takeTerm_28 : decode c_Rd_takeTerm 28 = .ok (.ldc 140, 2) := by decide +kernel
theorem d_Rd_takeTerm_30 : decode c_Rd_takeTerm 30 = .ok (.invokevirtual 110, 3) := by decide +kernel
theorem d_Rd_takeTerm_33 : decode c_Rd_takeTerm 33 = .ok (.ifCond .eq 10, 3) := by decide +kernel
theorem d_Rd_takeTerm_36 : decode c_Rd_takeTerm 36 = .ok (.aload_n 0, 1) := by decide +kernel
theorem d_Rd_takeTerm_37 : decode c_Rd_takeTerm 37 = .ok (.iconst 4, 1) := by decide +kernel
theorem d_Rd_takeTerm_38 : decode c_Rd_takeTerm 38 = .ok (.putfield 31, 3) := by decide +kernel
theorem d_Rd_takeTerm_41 : decode c_Rd_takeTerm 41 = .ok (.iconst 1, 1) := by decide +kernel
theorem d_Rd_takeTerm_42 : decode c_Rd_takeTerm 42 = .ok (.ireturn, 1) := by decide +kernel
theorem d_Rd_takeTerm_43 : decode c_Rd_takeTerm 43 = .ok (.aload_n 0, 1) := by decide +kernel
theorem d_Rd_takeTerm_44 : decode c_Rd_takeTerm 44 = .ok (.invokevirtual 142, 3) := by decide +kernel
theorem d_Rd_takeTerm_47 : decode c_Rd_takeTerm 47 = .ok (.istore_n 1, 1) := by decide +kernel
theorem d_Rd_takeTerm_48 : decode c_Rd_takeTerm 48 = .ok (.iload_n 1, 1) := by decide +kernel
theorem d_Rd_takeTerm_49 : decode c_Rd_takeTerm 49 = .ok (.iconst (-1), 1) := by decide +kernel
theorem d_Rd_takeTerm_50 : decode c_Rd_takeTerm 50 = .ok (.if_icmp .eq 16, 3) := by decide +kernel
theorem d_Rd_takeTerm_53 : decode c_Rd_takeTerm 53 = .ok (.aload_n 0, 1) := by decide +kernel
theorem d_Rd_takeTerm_54 : decode c_Rd_takeTerm 54 = .ok (.iload_n 1, 1) := by decide +kernel
theorem d_Rd_takeTerm_55 : decode c_Rd_takeTerm 55 = .ok (.iconst 0, 1) := by decide +kernel
theorem d_Rd_takeTerm_56 : decode c_Rd_takeTerm 56 = .ok (.invokevirtual 146, 3) := by decide +kernel
theorem d_Rd_takeTerm_59 : decode c_Rd_takeTerm 59 = .ok (.ifCond .eq 7, 3) := by decide +kernel
theorem d_Rd_takeTerm_62 : decode c_Rd_takeTerm 62 = .ok (.iconst 1, 1) := by decide +kernel
theorem d_Rd_takeTerm_63 : decode c_Rd_takeTerm 63 = .ok (.goto 4, 3) := by decide +kernel
theorem d_Rd_takeTerm_66 : decode c_Rd_takeTerm 66 = .ok (.iconst 0, 1) := by decide +kernel
theorem d_Rd_takeTerm_67 : decode c_Rd_takeTerm 67 = .ok (.ireturn, 1) := by decide +kernel
abbrev c_Rd_takeNumber : ByteArray := prog_7_method_13_code
abbrev r_Rd_takeNumber : Option FieldType := (some FieldType.boolean)
def y_Rd_takeNumber : MethodName := ⟨"PinKindChecks$RuleReader", "takeNumber", "()Z"⟩
theorem d_Rd_takeNumber_0 : decode c_Rd_takeNumber 0 = .ok (.aload_n 0, 1) := by decide +kernel
theorem d_Rd_takeNumber_1 : decode c_Rd_takeNumber 1 = .ok (.getfield 47, 3) := by decide +kernel
theorem d_Rd_takeNumber_4 : decode c_Rd_takeNumber 4 = .ok (.invokevirtual 150, 3) := by decide +kernel
theorem d_Rd_takeNumber_7 : decode c_Rd_takeNumber 7 = .ok (.istore_n 1, 1) := by decide +kernel
theorem d_Rd_takeNumber_8 : decode c_Rd_takeNumber 8 = .ok (.iload_n 1, 1) := by decide +kernel
theorem d_Rd_takeNumber_9 : decode c_Rd_takeNumber 9 = .ok (.bipush 9, 2) := by decide +kernel
theorem d_Rd_takeNumber_11 : decode c_Rd_takeNumber 11 = .ok (.if_icmp .le 5, 3) := by decide +kernel
theorem d_Rd_takeNumber_14 : decode c_Rd_takeNumber 14 = .ok (.iconst 0, 1) := by decide +kernel
theorem d_Rd_takeNumber_15 : decode c_Rd_takeNumber 15 = .ok (.ireturn, 1) := by decide +kernel
theorem d_Rd_takeNumber_16 : decode c_Rd_takeNumber 16 = .ok (.iconst 0, 1) := by decide +kernel
theorem d_Rd_takeNumber_17 : decode c_Rd_takeNumber 17 = .ok (.istore_n 2, 1) := by decide +kernel
theorem d_Rd_takeNumber_18 : decode c_Rd_takeNumber 18 = .ok (.iconst 0, 1) := by decide +kernel
theorem d_Rd_takeNumber_19 : decode c_Rd_takeNumber 19 = .ok (.istore_n 3, 1) := by decide +kernel
theorem d_Rd_takeNumber_20 : decode c_Rd_takeNumber 20 = .ok (.iload_n 3, 1) := by decide +kernel
theorem d_Rd_takeNumber_21 : decode c_Rd_takeNumber 21 = .ok (.iload_n 1, 1) := by decide +kernel
theorem d_Rd_takeNumber_22 : decode c_Rd_takeNumber 22 = .ok (.if_icmp .ge 35, 3) := by decide +kernel
theorem d_Rd_takeNumber_25 : decode c_Rd_takeNumber 25 = .ok (.aload_n 0, 1) := by decide +kernel
theorem d_Rd_takeNumber_26 : decode c_Rd_takeNumber 26 = .ok (.getfield 47, 3) := by decide +kernel
theorem d_Rd_takeNumber_29 : decode c_Rd_takeNumber 29 = .ok (.iload_n 3, 1) := by decide +kernel
theorem d_Rd_takeNumber_30 : decode c_Rd_takeNumber 30 = .ok (.invokevirtual 153, 3) := by decide +kernel
theorem d_Rd_takeNumber_33 : decode c_Rd_takeNumber 33 = .ok (.istore 4, 2) := by decide +kernel
theorem d_Rd_takeNumber_35 : decode c_Rd_takeNumber 35 = .ok (.iload 4, 2) := by decide +kernel
theorem d_Rd_takeNumber_37 : decode c_Rd_takeNumber 37 = .ok (.iconst (-1), 1) := by decide +kernel
theorem d_Rd_takeNumber_38 : decode c_Rd_takeNumber 38 = .ok (.if_icmp .ne 5, 3) := by decide +kernel
theorem d_Rd_takeNumber_41 : decode c_Rd_takeNumber 41 = .ok (.iconst 0, 1) := by decide +kernel
theorem d_Rd_takeNumber_42 : decode c_Rd_takeNumber 42 = .ok (.ireturn, 1) := by decide +kernel
theorem d_Rd_takeNumber_43 : decode c_Rd_takeNumber 43 = .ok (.iload_n 2, 1) := by decide +kernel
theorem d_Rd_takeNumber_44 : decode c_Rd_takeNumber 44 = .ok (.bipush 10, 2) := by decide +kernel
theorem d_Rd_takeNumber_46 : decode c_Rd_takeNumber 46 = .ok (.imul, 1) := by decide +kernel
theorem d_Rd_takeNumber_47 : decode c_Rd_takeNumber 47 = .ok (.iload 4, 2) := by decide +kernel
theorem d_Rd_takeNumber_49 : decode c_Rd_takeNumber 49 = .ok (.iadd, 1) := by decide +kernel
theorem d_Rd_takeNumber_50 : decode c_Rd_takeNumber 50 = .ok (.istore_n 2, 1) := by decide +kernel
theorem d_Rd_takeNumber_51 : decode c_Rd_takeNumber 51 = .ok (.iinc 3 1, 3) := by decide +kernel
theorem d_Rd_takeNumber_54 : decode c_Rd_takeNumber 54 = .ok (.goto (-34), 3) := by decide +kernel
theorem d_Rd_takeNumber_57 : decode c_Rd_takeNumber 57 = .ok (.aload_n 0, 1) := by decide +kernel
theorem d_Rd_takeNumber_58 : decode c_Rd_takeNumber 58 = .ok (.bipush 13, 2) := by decide +kernel
theorem d_Rd_takeNumber_60 : decode c_Rd_takeNumber 60 = .ok (.iload_n 2, 1) := by decide +kernel
theorem d_Rd_takeNumber_61 : decode c_Rd_takeNumber 61 = .ok (.invokevirtual 146, 3) := by decide +kernel
theorem d_Rd_takeNumber_64 : decode c_Rd_takeNumber 64 = .ok (.ireturn, 1) := by decide +kernel
abbrev c_Rd_putTerm : ByteArray := prog_7_method_17_code
abbrev r_Rd_putTerm : Option FieldType := (some FieldType.boolean)
def y_Rd_putTerm : MethodName := ⟨"PinKindChecks$RuleReader", "putTerm", "(II)Z"⟩
theorem d_Rd_putTerm_0 : decode c_Rd_putTerm 0 = .ok (.aload_n 0, 1) := by decide +kernel
theorem d_Rd_putTerm_1 : decode c_Rd_putTerm 1 = .ok (.iload_n 1, 1) := by decide +kernel
theorem d_Rd_putTerm_2 : decode c_Rd_putTerm 2 = .ok (.iload_n 2, 1) := by decide +kernel
theorem d_Rd_putTerm_3 : decode c_Rd_putTerm 3 = .ok (.invokevirtual 172, 3) := by decide +kernel
theorem d_Rd_putTerm_6 : decode c_Rd_putTerm 6 = .ok (.aload_n 0, 1) := by decide +kernel
theorem d_Rd_putTerm_7 : decode c_Rd_putTerm 7 = .ok (.iconst 5, 1) := by decide +kernel
theorem d_Rd_putTerm_8 : decode c_Rd_putTerm 8 = .ok (.putfield 31, 3) := by decide +kernel
theorem d_Rd_putTerm_11 : decode c_Rd_putTerm 11 = .ok (.iconst 1, 1) := by decide +kernel
theorem d_Rd_putTerm_12 : decode c_Rd_putTerm 12 = .ok (.ireturn, 1) := by decide +kernel
abbrev c_Rd_putOut : ByteArray := prog_7_method_22_code
abbrev r_Rd_putOut : Option FieldType := none
def y_Rd_putOut : MethodName := ⟨"PinKindChecks$RuleReader", "putOut", "(II)V"⟩
theorem d_Rd_putOut_0 : decode c_Rd_putOut 0 = .ok (.aload_n 0, 1) := by decide +kernel
theorem d_Rd_putOut_1 : decode c_Rd_putOut 1 = .ok (.getfield 21, 3) := by decide +kernel
theorem d_Rd_putOut_4 : decode c_Rd_putOut 4 = .ok (.aload_n 0, 1) := by decide +kernel
theorem d_Rd_putOut_5 : decode c_Rd_putOut 5 = .ok (.getfield 9, 3) := by decide +kernel
theorem d_Rd_putOut_8 : decode c_Rd_putOut 8 = .ok (.arraylength, 1) := by decide +kernel
theorem d_Rd_putOut_9 : decode c_Rd_putOut 9 = .ok (.if_icmp .ge 45, 3) := by decide +kernel
theorem d_Rd_putOut_12 : decode c_Rd_putOut 12 = .ok (.aload_n 0, 1) := by decide +kernel
theorem d_Rd_putOut_13 : decode c_Rd_putOut 13 = .ok (.getfield 21, 3) := by decide +kernel
theorem d_Rd_putOut_16 : decode c_Rd_putOut 16 = .ok (.aload_n 0, 1) := by decide +kernel
theorem d_Rd_putOut_17 : decode c_Rd_putOut 17 = .ok (.getfield 15, 3) := by decide +kernel
theorem d_Rd_putOut_20 : decode c_Rd_putOut 20 = .ok (.arraylength, 1) := by decide +kernel
theorem d_Rd_putOut_21 : decode c_Rd_putOut 21 = .ok (.if_icmp .ge 33, 3) := by decide +kernel
theorem d_Rd_putOut_24 : decode c_Rd_putOut 24 = .ok (.aload_n 0, 1) := by decide +kernel
theorem d_Rd_putOut_25 : decode c_Rd_putOut 25 = .ok (.getfield 9, 3) := by decide +kernel
theorem d_Rd_putOut_28 : decode c_Rd_putOut 28 = .ok (.aload_n 0, 1) := by decide +kernel
theorem d_Rd_putOut_29 : decode c_Rd_putOut 29 = .ok (.getfield 21, 3) := by decide +kernel
theorem d_Rd_putOut_32 : decode c_Rd_putOut 32 = .ok (.iload_n 1, 1) := by decide +kernel
theorem d_Rd_putOut_33 : decode c_Rd_putOut 33 = .ok (.iastore, 1) := by decide +kernel
theorem d_Rd_putOut_34 : decode c_Rd_putOut 34 = .ok (.aload_n 0, 1) := by decide +kernel
theorem d_Rd_putOut_35 : decode c_Rd_putOut 35 = .ok (.getfield 15, 3) := by decide +kernel
theorem d_Rd_putOut_38 : decode c_Rd_putOut 38 = .ok (.aload_n 0, 1) := by decide +kernel
theorem d_Rd_putOut_39 : decode c_Rd_putOut 39 = .ok (.getfield 21, 3) := by decide +kernel
theorem d_Rd_putOut_42 : decode c_Rd_putOut 42 = .ok (.iload_n 2, 1) := by decide +kernel
theorem d_Rd_putOut_43 : decode c_Rd_putOut 43 = .ok (.iastore, 1) := by decide +kernel
theorem d_Rd_putOut_44 : decode c_Rd_putOut 44 = .ok (.aload_n 0, 1) := by decide +kernel
theorem d_Rd_putOut_45 : decode c_Rd_putOut 45 = .ok (.dup, 1) := by decide +kernel
theorem d_Rd_putOut_46 : decode c_Rd_putOut 46 = .ok (.getfield 21, 3) := by decide +kernel
theorem d_Rd_putOut_49 : decode c_Rd_putOut 49 = .ok (.iconst 1, 1) := by decide +kernel
theorem d_Rd_putOut_50 : decode c_Rd_putOut 50 = .ok (.iadd, 1) := by decide +kernel
theorem d_Rd_putOut_51 : decode c_Rd_putOut 51 = .ok (.putfield 21, 3) := by decide +kernel
theorem d_Rd_putOut_54 : decode c_Rd_putOut 54 = .ok (.return_, 1) := by decide +kernel
abbrev c_Rd_takeField : ByteArray := prog_7_method_14_code
abbrev r_Rd_takeField : Option FieldType := (some FieldType.boolean)
def y_Rd_takeField : MethodName := ⟨"PinKindChecks$RuleReader", "takeField", "()Z"⟩
theorem d_Rd_takeField_0 : decode c_Rd_takeField 0 = .ok (.aload_n 0, 1) := by decide +kernel
theorem d_Rd_takeField_1 : decode c_Rd_takeField 1 = .ok (.getfield 41, 3) := by decide +kernel
theorem d_Rd_takeField_4 : decode c_Rd_takeField 4 = .ok (.iconst 1, 1) := by decide +kernel
theorem d_Rd_takeField_5 : decode c_Rd_takeField 5 = .ok (.if_icmp .eq 27, 3) := by decide +kernel
theorem d_Rd_takeField_8 : decode c_Rd_takeField 8 = .ok (.aload_n 0, 1) := by decide +kernel
theorem d_Rd_takeField_9 : decode c_Rd_takeField 9 = .ok (.getfield 47, 3) := by decide +kernel
theorem d_Rd_takeField_12 : decode c_Rd_takeField 12 = .ok (.invokevirtual 150, 3) := by decide +kernel
theorem d_Rd_takeField_15 : decode c_Rd_takeField 15 = .ok (.iconst 2, 1) := by decide +kernel
theorem d_Rd_takeField_16 : decode c_Rd_takeField 16 = .ok (.if_icmp .ne 16, 3) := by decide +kernel
theorem d_Rd_takeField_19 : decode c_Rd_takeField 19 = .ok (.aload_n 0, 1) := by decide +kernel
theorem d_Rd_takeField_20 : decode c_Rd_takeField 20 = .ok (.getfield 47, 3) := by decide +kernel
theorem d_Rd_takeField_23 : decode c_Rd_takeField 23 = .ok (.iconst 0, 1) := by decide +kernel
theorem d_Rd_takeField_24 : decode c_Rd_takeField 24 = .ok (.invokevirtual 157, 3) := by decide +kernel
theorem d_Rd_takeField_27 : decode c_Rd_takeField 27 = .ok (.bipush 102, 2) := by decide +kernel
theorem d_Rd_takeField_29 : decode c_Rd_takeField 29 = .ok (.if_icmp .eq 5, 3) := by decide +kernel
theorem d_Rd_takeField_32 : decode c_Rd_takeField 32 = .ok (.iconst 0, 1) := by decide +kernel
theorem d_Rd_takeField_33 : decode c_Rd_takeField 33 = .ok (.ireturn, 1) := by decide +kernel
theorem d_Rd_takeField_34 : decode c_Rd_takeField 34 = .ok (.aload_n 0, 1) := by decide +kernel
theorem d_Rd_takeField_35 : decode c_Rd_takeField 35 = .ok (.getfield 47, 3) := by decide +kernel
theorem d_Rd_takeField_38 : decode c_Rd_takeField 38 = .ok (.iconst 1, 1) := by decide +kernel
theorem d_Rd_takeField_39 : decode c_Rd_takeField 39 = .ok (.invokevirtual 153, 3) := by decide +kernel
theorem d_Rd_takeField_42 : decode c_Rd_takeField 42 = .ok (.istore_n 1, 1) := by decide +kernel
theorem d_Rd_takeField_43 : decode c_Rd_takeField 43 = .ok (.iload_n 1, 1) := by decide +kernel
theorem d_Rd_takeField_44 : decode c_Rd_takeField 44 = .ok (.bipush 8, 2) := by decide +kernel
theorem d_Rd_takeField_46 : decode c_Rd_takeField 46 = .ok (.invokestatic 161, 3) := by decide +kernel
theorem d_Rd_takeField_49 : decode c_Rd_takeField 49 = .ok (.ifCond .eq 17, 3) := by decide +kernel
theorem d_Rd_takeField_52 : decode c_Rd_takeField 52 = .ok (.aload_n 0, 1) := by decide +kernel
theorem d_Rd_takeField_53 : decode c_Rd_takeField 53 = .ok (.bipush 14, 2) := by decide +kernel
theorem d_Rd_takeField_55 : decode c_Rd_takeField 55 = .ok (.iload_n 1, 1) := by decide +kernel
theorem d_Rd_takeField_56 : decode c_Rd_takeField 56 = .ok (.invokevirtual 146, 3) := by decide +kernel
theorem d_Rd_takeField_59 : decode c_Rd_takeField 59 = .ok (.ifCond .eq 7, 3) := by decide +kernel
theorem d_Rd_takeField_62 : decode c_Rd_takeField 62 = .ok (.iconst 1, 1) := by decide +kernel
theorem d_Rd_takeField_63 : decode c_Rd_takeField 63 = .ok (.goto 4, 3) := by decide +kernel
theorem d_Rd_takeField_66 : decode c_Rd_takeField 66 = .ok (.iconst 0, 1) := by decide +kernel
theorem d_Rd_takeField_67 : decode c_Rd_takeField 67 = .ok (.ireturn, 1) := by decide +kernel
abbrev c_Rd_plainTerm : ByteArray := prog_7_method_16_code
abbrev r_Rd_plainTerm : Option FieldType := (some FieldType.int)
def y_Rd_plainTerm : MethodName := ⟨"PinKindChecks$RuleReader", "plainTerm", "()I"⟩
theorem d_Rd_plainTerm_0 : decode c_Rd_plainTerm 0 = .ok (.aload_n 0, 1) := by decide +kernel
theorem d_Rd_plainTerm_1 : decode c_Rd_plainTerm 1 = .ok (.getfield 47, 3) := by decide +kernel
theorem d_Rd_plainTerm_4 : decode c_Rd_plainTerm 4 = .ok (.ldc 164, 2) := by decide +kernel
theorem d_Rd_plainTerm_6 : decode c_Rd_plainTerm 6 = .ok (.invokevirtual 110, 3) := by decide +kernel
theorem d_Rd_plainTerm_9 : decode c_Rd_plainTerm 9 = .ok (.ifCond .eq 6, 3) := by decide +kernel
theorem d_Rd_plainTerm_12 : decode c_Rd_plainTerm 12 = .ok (.bipush 18, 2) := by decide +kernel
theorem d_Rd_plainTerm_14 : decode c_Rd_plainTerm 14 = .ok (.ireturn, 1) := by decide +kernel
theorem d_Rd_plainTerm_15 : decode c_Rd_plainTerm 15 = .ok (.aload_n 0, 1) := by decide +kernel
theorem d_Rd_plainTerm_16 : decode c_Rd_plainTerm 16 = .ok (.getfield 41, 3) := by decide +kernel
theorem d_Rd_plainTerm_19 : decode c_Rd_plainTerm 19 = .ok (.iconst 2, 1) := by decide +kernel
theorem d_Rd_plainTerm_20 : decode c_Rd_plainTerm 20 = .ok (.if_icmp .eq 18, 3) := by decide +kernel
theorem d_Rd_plainTerm_23 : decode c_Rd_plainTerm 23 = .ok (.aload_n 0, 1) := by decide +kernel
theorem d_Rd_plainTerm_24 : decode c_Rd_plainTerm 24 = .ok (.getfield 47, 3) := by decide +kernel
theorem d_Rd_plainTerm_27 : decode c_Rd_plainTerm 27 = .ok (.ldc 166, 2) := by decide +kernel
theorem d_Rd_plainTerm_29 : decode c_Rd_plainTerm 29 = .ok (.invokevirtual 110, 3) := by decide +kernel
theorem d_Rd_plainTerm_32 : decode c_Rd_plainTerm 32 = .ok (.ifCond .eq 6, 3) := by decide +kernel
theorem d_Rd_plainTerm_35 : decode c_Rd_plainTerm 35 = .ok (.bipush 15, 2) := by decide +kernel
theorem d_Rd_plainTerm_37 : decode c_Rd_plainTerm 37 = .ok (.ireturn, 1) := by decide +kernel
theorem d_Rd_plainTerm_38 : decode c_Rd_plainTerm 38 = .ok (.aload_n 0, 1) := by decide +kernel
theorem d_Rd_plainTerm_39 : decode c_Rd_plainTerm 39 = .ok (.getfield 41, 3) := by decide +kernel
theorem d_Rd_plainTerm_42 : decode c_Rd_plainTerm 42 = .ok (.iconst 2, 1) := by decide +kernel
theorem d_Rd_plainTerm_43 : decode c_Rd_plainTerm 43 = .ok (.if_icmp .ne 18, 3) := by decide +kernel
theorem d_Rd_plainTerm_46 : decode c_Rd_plainTerm 46 = .ok (.aload_n 0, 1) := by decide +kernel
theorem d_Rd_plainTerm_47 : decode c_Rd_plainTerm 47 = .ok (.getfield 47, 3) := by decide +kernel
theorem d_Rd_plainTerm_50 : decode c_Rd_plainTerm 50 = .ok (.ldc 168, 2) := by decide +kernel
theorem d_Rd_plainTerm_52 : decode c_Rd_plainTerm 52 = .ok (.invokevirtual 110, 3) := by decide +kernel
theorem d_Rd_plainTerm_55 : decode c_Rd_plainTerm 55 = .ok (.ifCond .eq 6, 3) := by decide +kernel
theorem d_Rd_plainTerm_58 : decode c_Rd_plainTerm 58 = .ok (.bipush 16, 2) := by decide +kernel
theorem d_Rd_plainTerm_60 : decode c_Rd_plainTerm 60 = .ok (.ireturn, 1) := by decide +kernel
theorem d_Rd_plainTerm_61 : decode c_Rd_plainTerm 61 = .ok (.aload_n 0, 1) := by decide +kernel
theorem d_Rd_plainTerm_62 : decode c_Rd_plainTerm 62 = .ok (.getfield 41, 3) := by decide +kernel
theorem d_Rd_plainTerm_65 : decode c_Rd_plainTerm 65 = .ok (.ifCond .eq 20, 3) := by decide +kernel
theorem d_Rd_plainTerm_68 : decode c_Rd_plainTerm 68 = .ok (.aload_n 0, 1) := by decide +kernel
theorem d_Rd_plainTerm_69 : decode c_Rd_plainTerm 69 = .ok (.getfield 47, 3) := by decide +kernel
theorem d_Rd_plainTerm_72 : decode c_Rd_plainTerm 72 = .ok (.ldc 170, 2) := by decide +kernel
theorem d_Rd_plainTerm_74 : decode c_Rd_plainTerm 74 = .ok (.invokevirtual 110, 3) := by decide +kernel
theorem d_Rd_plainTerm_77 : decode c_Rd_plainTerm 77 = .ok (.ifCond .eq 8, 3) := by decide +kernel
theorem d_Rd_plainTerm_80 : decode c_Rd_plainTerm 80 = .ok (.bipush 17, 2) := by decide +kernel
theorem d_Rd_plainTerm_82 : decode c_Rd_plainTerm 82 = .ok (.goto 4, 3) := by decide +kernel
theorem d_Rd_plainTerm_85 : decode c_Rd_plainTerm 85 = .ok (.iconst (-1), 1) := by decide +kernel
theorem d_Rd_plainTerm_86 : decode c_Rd_plainTerm 86 = .ok (.ireturn, 1) := by decide +kernel
abbrev c_Rd_takeKind : ByteArray := prog_7_method_15_code
abbrev r_Rd_takeKind : Option FieldType := (some FieldType.boolean)
def y_Rd_takeKind : MethodName := ⟨"PinKindChecks$RuleReader", "takeKind", "()Z"⟩
theorem d_Rd_takeKind_0 : decode c_Rd_takeKind 0 = .ok (.aload_n 0, 1) := by decide +kernel
theorem d_Rd_takeKind_1 : decode c_Rd_takeKind 1 = .ok (.getfield 47, 3) := by decide +kernel
theorem d_Rd_takeKind_4 : decode c_Rd_takeKind 4 = .ok (.iconst 0, 1) := by decide +kernel
theorem d_Rd_takeKind_5 : decode c_Rd_takeKind 5 = .ok (.invokevirtual 153, 3) := by decide +kernel
theorem d_Rd_takeKind_8 : decode c_Rd_takeKind 8 = .ok (.istore_n 1, 1) := by decide +kernel
theorem d_Rd_takeKind_9 : decode c_Rd_takeKind 9 = .ok (.aload_n 0, 1) := by decide +kernel
theorem d_Rd_takeKind_10 : decode c_Rd_takeKind 10 = .ok (.getfield 47, 3) := by decide +kernel
theorem d_Rd_takeKind_13 : decode c_Rd_takeKind 13 = .ok (.invokevirtual 150, 3) := by decide +kernel
theorem d_Rd_takeKind_16 : decode c_Rd_takeKind 16 = .ok (.iconst 1, 1) := by decide +kernel
theorem d_Rd_takeKind_17 : decode c_Rd_takeKind 17 = .ok (.if_icmp .ne 22, 3) := by decide +kernel
theorem d_Rd_takeKind_20 : decode c_Rd_takeKind 20 = .ok (.iload_n 1, 1) := by decide +kernel
theorem d_Rd_takeKind_21 : decode c_Rd_takeKind 21 = .ok (.iconst (-1), 1) := by decide +kernel
theorem d_Rd_takeKind_22 : decode c_Rd_takeKind 22 = .ok (.if_icmp .eq 17, 3) := by decide +kernel
theorem d_Rd_takeKind_25 : decode c_Rd_takeKind 25 = .ok (.aload_n 0, 1) := by decide +kernel
theorem d_Rd_takeKind_26 : decode c_Rd_takeKind 26 = .ok (.bipush 19, 2) := by decide +kernel
theorem d_Rd_takeKind_28 : decode c_Rd_takeKind 28 = .ok (.iload_n 1, 1) := by decide +kernel
theorem d_Rd_takeKind_29 : decode c_Rd_takeKind 29 = .ok (.invokevirtual 146, 3) := by decide +kernel
theorem d_Rd_takeKind_32 : decode c_Rd_takeKind 32 = .ok (.ifCond .eq 7, 3) := by decide +kernel
theorem d_Rd_takeKind_35 : decode c_Rd_takeKind 35 = .ok (.iconst 1, 1) := by decide +kernel
theorem d_Rd_takeKind_36 : decode c_Rd_takeKind 36 = .ok (.goto 4, 3) := by decide +kernel
theorem d_Rd_takeKind_39 : decode c_Rd_takeKind 39 = .ok (.iconst 0, 1) := by decide +kernel
theorem d_Rd_takeKind_40 : decode c_Rd_takeKind 40 = .ok (.ireturn, 1) := by decide +kernel
abbrev c_Rd_takeOperator : ByteArray := prog_7_method_18_code
abbrev r_Rd_takeOperator : Option FieldType := (some FieldType.boolean)
def y_Rd_takeOperator : MethodName := ⟨"PinKindChecks$RuleReader", "takeOperator", "()Z"⟩
theorem d_Rd_takeOperator_0 : decode c_Rd_takeOperator 0 = .ok (.aload_n 0, 1) := by decide +kernel
theorem d_Rd_takeOperator_1 : decode c_Rd_takeOperator 1 = .ok (.invokevirtual 176, 3) := by decide +kernel
theorem d_Rd_takeOperator_4 : decode c_Rd_takeOperator 4 = .ok (.istore_n 1, 1) := by decide +kernel
theorem d_Rd_takeOperator_5 : decode c_Rd_takeOperator 5 = .ok (.iload_n 1, 1) := by decide +kernel
theorem d_Rd_takeOperator_6 : decode c_Rd_takeOperator 6 = .ok (.invokestatic 179, 3) := by decide +kernel
theorem d_Rd_takeOperator_9 : decode c_Rd_takeOperator 9 = .ok (.ifCond .eq 23, 3) := by decide +kernel
theorem d_Rd_takeOperator_12 : decode c_Rd_takeOperator 12 = .ok (.aload_n 0, 1) := by decide +kernel
theorem d_Rd_takeOperator_13 : decode c_Rd_takeOperator 13 = .ok (.invokevirtual 63, 3) := by decide +kernel
theorem d_Rd_takeOperator_16 : decode c_Rd_takeOperator 16 = .ok (.ifCond .eq 16, 3) := by decide +kernel
theorem d_Rd_takeOperator_19 : decode c_Rd_takeOperator 19 = .ok (.aload_n 0, 1) := by decide +kernel
theorem d_Rd_takeOperator_20 : decode c_Rd_takeOperator 20 = .ok (.iconst 0, 1) := by decide +kernel
theorem d_Rd_takeOperator_21 : decode c_Rd_takeOperator 21 = .ok (.putfield 37, 3) := by decide +kernel
theorem d_Rd_takeOperator_24 : decode c_Rd_takeOperator 24 = .ok (.aload_n 0, 1) := by decide +kernel
theorem d_Rd_takeOperator_25 : decode c_Rd_takeOperator 25 = .ok (.iconst 2, 1) := by decide +kernel
theorem d_Rd_takeOperator_26 : decode c_Rd_takeOperator 26 = .ok (.putfield 31, 3) := by decide +kernel
theorem d_Rd_takeOperator_29 : decode c_Rd_takeOperator 29 = .ok (.goto 63, 3) := by decide +kernel
theorem d_Rd_takeOperator_32 : decode c_Rd_takeOperator 32 = .ok (.iload_n 1, 1) := by decide +kernel
theorem d_Rd_takeOperator_33 : decode c_Rd_takeOperator 33 = .ok (.invokestatic 183, 3) := by decide +kernel
theorem d_Rd_takeOperator_36 : decode c_Rd_takeOperator 36 = .ok (.ifCond .eq 31, 3) := by decide +kernel
theorem d_Rd_takeOperator_39 : decode c_Rd_takeOperator 39 = .ok (.aload_n 0, 1) := by decide +kernel
theorem d_Rd_takeOperator_40 : decode c_Rd_takeOperator 40 = .ok (.getfield 31, 3) := by decide +kernel
theorem d_Rd_takeOperator_43 : decode c_Rd_takeOperator 43 = .ok (.iconst 5, 1) := by decide +kernel
theorem d_Rd_takeOperator_44 : decode c_Rd_takeOperator 44 = .ok (.if_icmp .ne 23, 3) := by decide +kernel
theorem d_Rd_takeOperator_47 : decode c_Rd_takeOperator 47 = .ok (.aload_n 0, 1) := by decide +kernel
theorem d_Rd_takeOperator_48 : decode c_Rd_takeOperator 48 = .ok (.getfield 37, 3) := by decide +kernel
theorem d_Rd_takeOperator_51 : decode c_Rd_takeOperator 51 = .ok (.ifCond .ne 16, 3) := by decide +kernel
theorem d_Rd_takeOperator_54 : decode c_Rd_takeOperator 54 = .ok (.aload_n 0, 1) := by decide +kernel
theorem d_Rd_takeOperator_55 : decode c_Rd_takeOperator 55 = .ok (.iconst 1, 1) := by decide +kernel
theorem d_Rd_takeOperator_56 : decode c_Rd_takeOperator 56 = .ok (.putfield 37, 3) := by decide +kernel
theorem d_Rd_takeOperator_59 : decode c_Rd_takeOperator 59 = .ok (.aload_n 0, 1) := by decide +kernel
theorem d_Rd_takeOperator_60 : decode c_Rd_takeOperator 60 = .ok (.iconst 3, 1) := by decide +kernel
theorem d_Rd_takeOperator_61 : decode c_Rd_takeOperator 61 = .ok (.putfield 31, 3) := by decide +kernel
theorem d_Rd_takeOperator_64 : decode c_Rd_takeOperator 64 = .ok (.goto 28, 3) := by decide +kernel
theorem d_Rd_takeOperator_67 : decode c_Rd_takeOperator 67 = .ok (.iload_n 1, 1) := by decide +kernel
theorem d_Rd_takeOperator_68 : decode c_Rd_takeOperator 68 = .ok (.invokestatic 186, 3) := by decide +kernel
theorem d_Rd_takeOperator_71 : decode c_Rd_takeOperator 71 = .ok (.ifCond .eq 19, 3) := by decide +kernel
theorem d_Rd_takeOperator_74 : decode c_Rd_takeOperator 74 = .ok (.aload_n 0, 1) := by decide +kernel
theorem d_Rd_takeOperator_75 : decode c_Rd_takeOperator 75 = .ok (.getfield 31, 3) := by decide +kernel
theorem d_Rd_takeOperator_78 : decode c_Rd_takeOperator 78 = .ok (.iconst 5, 1) := by decide +kernel
theorem d_Rd_takeOperator_79 : decode c_Rd_takeOperator 79 = .ok (.if_icmp .ne 11, 3) := by decide +kernel
theorem d_Rd_takeOperator_82 : decode c_Rd_takeOperator 82 = .ok (.aload_n 0, 1) := by decide +kernel
theorem d_Rd_takeOperator_83 : decode c_Rd_takeOperator 83 = .ok (.iconst 3, 1) := by decide +kernel
theorem d_Rd_takeOperator_84 : decode c_Rd_takeOperator 84 = .ok (.putfield 31, 3) := by decide +kernel
theorem d_Rd_takeOperator_87 : decode c_Rd_takeOperator 87 = .ok (.goto 5, 3) := by decide +kernel
theorem d_Rd_takeOperator_90 : decode c_Rd_takeOperator 90 = .ok (.iconst 0, 1) := by decide +kernel
theorem d_Rd_takeOperator_91 : decode c_Rd_takeOperator 91 = .ok (.ireturn, 1) := by decide +kernel
theorem d_Rd_takeOperator_92 : decode c_Rd_takeOperator 92 = .ok (.aload_n 0, 1) := by decide +kernel
theorem d_Rd_takeOperator_93 : decode c_Rd_takeOperator 93 = .ok (.iload_n 1, 1) := by decide +kernel
theorem d_Rd_takeOperator_94 : decode c_Rd_takeOperator 94 = .ok (.invokevirtual 68, 3) := by decide +kernel
theorem d_Rd_takeOperator_97 : decode c_Rd_takeOperator 97 = .ok (.aload_n 0, 1) := by decide +kernel
theorem d_Rd_takeOperator_98 : decode c_Rd_takeOperator 98 = .ok (.iload_n 1, 1) := by decide +kernel
theorem d_Rd_takeOperator_99 : decode c_Rd_takeOperator 99 = .ok (.invokevirtual 124, 3) := by decide +kernel
theorem d_Rd_takeOperator_102 : decode c_Rd_takeOperator 102 = .ok (.iconst 1, 1) := by decide +kernel
theorem d_Rd_takeOperator_103 : decode c_Rd_takeOperator 103 = .ok (.ireturn, 1) := by decide +kernel
abbrev c_Rd_operatorOfWord : ByteArray := prog_7_method_19_code
abbrev r_Rd_operatorOfWord : Option FieldType := (some FieldType.int)
def y_Rd_operatorOfWord : MethodName := ⟨"PinKindChecks$RuleReader", "operatorOfWord", "()I"⟩
theorem d_Rd_operatorOfWord_0 : decode c_Rd_operatorOfWord 0 = .ok (.aload_n 0, 1) := by decide +kernel
theorem d_Rd_operatorOfWord_1 : decode c_Rd_operatorOfWord 1 = .ok (.getfield 47, 3) := by decide +kernel
theorem d_Rd_operatorOfWord_4 : decode c_Rd_operatorOfWord 4 = .ok (.invokevirtual 150, 3) := by decide +kernel
theorem d_Rd_operatorOfWord_7 : decode c_Rd_operatorOfWord 7 = .ok (.iconst 1, 1) := by decide +kernel
theorem d_Rd_operatorOfWord_8 : decode c_Rd_operatorOfWord 8 = .ok (.if_icmp .ne 15, 3) := by decide +kernel
theorem d_Rd_operatorOfWord_11 : decode c_Rd_operatorOfWord 11 = .ok (.aload_n 0, 1) := by decide +kernel
theorem d_Rd_operatorOfWord_12 : decode c_Rd_operatorOfWord 12 = .ok (.getfield 47, 3) := by decide +kernel
theorem d_Rd_operatorOfWord_15 : decode c_Rd_operatorOfWord 15 = .ok (.iconst 0, 1) := by decide +kernel
theorem d_Rd_operatorOfWord_16 : decode c_Rd_operatorOfWord 16 = .ok (.invokevirtual 157, 3) := by decide +kernel
theorem d_Rd_operatorOfWord_19 : decode c_Rd_operatorOfWord 19 = .ok (.invokestatic 189, 3) := by decide +kernel
theorem d_Rd_operatorOfWord_22 : decode c_Rd_operatorOfWord 22 = .ok (.ireturn, 1) := by decide +kernel
theorem d_Rd_operatorOfWord_23 : decode c_Rd_operatorOfWord 23 = .ok (.aload_n 0, 1) := by decide +kernel
theorem d_Rd_operatorOfWord_24 : decode c_Rd_operatorOfWord 24 = .ok (.getfield 47, 3) := by decide +kernel
theorem d_Rd_operatorOfWord_27 : decode c_Rd_operatorOfWord 27 = .ok (.ldc 193, 2) := by decide +kernel
theorem d_Rd_operatorOfWord_29 : decode c_Rd_operatorOfWord 29 = .ok (.invokevirtual 110, 3) := by decide +kernel
theorem d_Rd_operatorOfWord_32 : decode c_Rd_operatorOfWord 32 = .ok (.ifCond .eq 5, 3) := by decide +kernel
theorem d_Rd_operatorOfWord_35 : decode c_Rd_operatorOfWord 35 = .ok (.iconst 1, 1) := by decide +kernel
theorem d_Rd_operatorOfWord_36 : decode c_Rd_operatorOfWord 36 = .ok (.ireturn, 1) := by decide +kernel
theorem d_Rd_operatorOfWord_37 : decode c_Rd_operatorOfWord 37 = .ok (.aload_n 0, 1) := by decide +kernel
theorem d_Rd_operatorOfWord_38 : decode c_Rd_operatorOfWord 38 = .ok (.getfield 47, 3) := by decide +kernel
theorem d_Rd_operatorOfWord_41 : decode c_Rd_operatorOfWord 41 = .ok (.ldc 195, 2) := by decide +kernel
theorem d_Rd_operatorOfWord_43 : decode c_Rd_operatorOfWord 43 = .ok (.invokevirtual 110, 3) := by decide +kernel
theorem d_Rd_operatorOfWord_46 : decode c_Rd_operatorOfWord 46 = .ok (.ifCond .eq 5, 3) := by decide +kernel
theorem d_Rd_operatorOfWord_49 : decode c_Rd_operatorOfWord 49 = .ok (.iconst 2, 1) := by decide +kernel
theorem d_Rd_operatorOfWord_50 : decode c_Rd_operatorOfWord 50 = .ok (.ireturn, 1) := by decide +kernel
theorem d_Rd_operatorOfWord_51 : decode c_Rd_operatorOfWord 51 = .ok (.aload_n 0, 1) := by decide +kernel
theorem d_Rd_operatorOfWord_52 : decode c_Rd_operatorOfWord 52 = .ok (.getfield 47, 3) := by decide +kernel
theorem d_Rd_operatorOfWord_55 : decode c_Rd_operatorOfWord 55 = .ok (.ldc 197, 2) := by decide +kernel
theorem d_Rd_operatorOfWord_57 : decode c_Rd_operatorOfWord 57 = .ok (.invokevirtual 110, 3) := by decide +kernel
theorem d_Rd_operatorOfWord_60 : decode c_Rd_operatorOfWord 60 = .ok (.ifCond .eq 6, 3) := by decide +kernel
theorem d_Rd_operatorOfWord_63 : decode c_Rd_operatorOfWord 63 = .ok (.bipush 8, 2) := by decide +kernel
theorem d_Rd_operatorOfWord_65 : decode c_Rd_operatorOfWord 65 = .ok (.ireturn, 1) := by decide +kernel
theorem d_Rd_operatorOfWord_66 : decode c_Rd_operatorOfWord 66 = .ok (.aload_n 0, 1) := by decide +kernel
theorem d_Rd_operatorOfWord_67 : decode c_Rd_operatorOfWord 67 = .ok (.getfield 47, 3) := by decide +kernel
theorem d_Rd_operatorOfWord_70 : decode c_Rd_operatorOfWord 70 = .ok (.ldc 199, 2) := by decide +kernel
theorem d_Rd_operatorOfWord_72 : decode c_Rd_operatorOfWord 72 = .ok (.invokevirtual 110, 3) := by decide +kernel
theorem d_Rd_operatorOfWord_75 : decode c_Rd_operatorOfWord 75 = .ok (.ifCond .eq 8, 3) := by decide +kernel
theorem d_Rd_operatorOfWord_78 : decode c_Rd_operatorOfWord 78 = .ok (.bipush 9, 2) := by decide +kernel
theorem d_Rd_operatorOfWord_80 : decode c_Rd_operatorOfWord 80 = .ok (.goto 4, 3) := by decide +kernel
theorem d_Rd_operatorOfWord_83 : decode c_Rd_operatorOfWord 83 = .ok (.iconst (-1), 1) := by decide +kernel
theorem d_Rd_operatorOfWord_84 : decode c_Rd_operatorOfWord 84 = .ok (.ireturn, 1) := by decide +kernel
abbrev c_Rd_operatorOfLetter : ByteArray := prog_7_method_20_code
abbrev r_Rd_operatorOfLetter : Option FieldType := (some FieldType.int)
def y_Rd_operatorOfLetter : MethodName := ⟨"PinKindChecks$RuleReader", "operatorOfLetter", "(C)I"⟩
theorem d_Rd_operatorOfLetter_0 : decode c_Rd_operatorOfLetter 0 = .ok (.iload_n 0, 1) := by decide +kernel
theorem d_Rd_operatorOfLetter_1 : decode c_Rd_operatorOfLetter 1 = .ok (.lookupswitch 86 #[(35, 69), (42, 83), (43, 77), (45, 80), (60, 71), (61, 67), (62, 74)], 67) := by decide +kernel
theorem d_Rd_operatorOfLetter_68 : decode c_Rd_operatorOfLetter 68 = .ok (.iconst 4, 1) := by decide +kernel
theorem d_Rd_operatorOfLetter_69 : decode c_Rd_operatorOfLetter 69 = .ok (.ireturn, 1) := by decide +kernel
theorem d_Rd_operatorOfLetter_70 : decode c_Rd_operatorOfLetter 70 = .ok (.iconst 5, 1) := by decide +kernel
theorem d_Rd_operatorOfLetter_71 : decode c_Rd_operatorOfLetter 71 = .ok (.ireturn, 1) := by decide +kernel
theorem d_Rd_operatorOfLetter_72 : decode c_Rd_operatorOfLetter 72 = .ok (.bipush 6, 2) := by decide +kernel
theorem d_Rd_operatorOfLetter_74 : decode c_Rd_operatorOfLetter 74 = .ok (.ireturn, 1) := by decide +kernel
theorem d_Rd_operatorOfLetter_75 : decode c_Rd_operatorOfLetter 75 = .ok (.bipush 7, 2) := by decide +kernel
theorem d_Rd_operatorOfLetter_77 : decode c_Rd_operatorOfLetter 77 = .ok (.ireturn, 1) := by decide +kernel
theorem d_Rd_operatorOfLetter_78 : decode c_Rd_operatorOfLetter 78 = .ok (.bipush 10, 2) := by decide +kernel
theorem d_Rd_operatorOfLetter_80 : decode c_Rd_operatorOfLetter 80 = .ok (.ireturn, 1) := by decide +kernel
theorem d_Rd_operatorOfLetter_81 : decode c_Rd_operatorOfLetter 81 = .ok (.bipush 11, 2) := by decide +kernel
theorem d_Rd_operatorOfLetter_83 : decode c_Rd_operatorOfLetter 83 = .ok (.ireturn, 1) := by decide +kernel
theorem d_Rd_operatorOfLetter_84 : decode c_Rd_operatorOfLetter 84 = .ok (.bipush 12, 2) := by decide +kernel
theorem d_Rd_operatorOfLetter_86 : decode c_Rd_operatorOfLetter 86 = .ok (.ireturn, 1) := by decide +kernel
theorem d_Rd_operatorOfLetter_87 : decode c_Rd_operatorOfLetter 87 = .ok (.iconst (-1), 1) := by decide +kernel
theorem d_Rd_operatorOfLetter_88 : decode c_Rd_operatorOfLetter 88 = .ok (.ireturn, 1) := by decide +kernel
abbrev c_Rd_isBehindCondition : ByteArray := prog_7_method_5_code
abbrev r_Rd_isBehindCondition : Option FieldType := (some FieldType.boolean)
def y_Rd_isBehindCondition : MethodName := ⟨"PinKindChecks$RuleReader", "isBehindCondition", "()Z"⟩
theorem d_Rd_isBehindCondition_0 : decode c_Rd_isBehindCondition 0 = .ok (.aload_n 0, 1) := by decide +kernel
theorem d_Rd_isBehindCondition_1 : decode c_Rd_isBehindCondition 1 = .ok (.getfield 31, 3) := by decide +kernel
theorem d_Rd_isBehindCondition_4 : decode c_Rd_isBehindCondition 4 = .ok (.bipush 6, 2) := by decide +kernel
theorem d_Rd_isBehindCondition_6 : decode c_Rd_isBehindCondition 6 = .ok (.if_icmp .eq 18, 3) := by decide +kernel
theorem d_Rd_isBehindCondition_9 : decode c_Rd_isBehindCondition 9 = .ok (.aload_n 0, 1) := by decide +kernel
theorem d_Rd_isBehindCondition_10 : decode c_Rd_isBehindCondition 10 = .ok (.getfield 31, 3) := by decide +kernel
theorem d_Rd_isBehindCondition_13 : decode c_Rd_isBehindCondition 13 = .ok (.iconst 5, 1) := by decide +kernel
theorem d_Rd_isBehindCondition_14 : decode c_Rd_isBehindCondition 14 = .ok (.if_icmp .ne 14, 3) := by decide +kernel
theorem d_Rd_isBehindCondition_17 : decode c_Rd_isBehindCondition 17 = .ok (.aload_n 0, 1) := by decide +kernel
theorem d_Rd_isBehindCondition_18 : decode c_Rd_isBehindCondition 18 = .ok (.getfield 37, 3) := by decide +kernel
theorem d_Rd_isBehindCondition_21 : decode c_Rd_isBehindCondition 21 = .ok (.ifCond .eq 7, 3) := by decide +kernel
theorem d_Rd_isBehindCondition_24 : decode c_Rd_isBehindCondition 24 = .ok (.iconst 1, 1) := by decide +kernel
theorem d_Rd_isBehindCondition_25 : decode c_Rd_isBehindCondition 25 = .ok (.goto 4, 3) := by decide +kernel
theorem d_Rd_isBehindCondition_28 : decode c_Rd_isBehindCondition 28 = .ok (.iconst 0, 1) := by decide +kernel
theorem d_Rd_isBehindCondition_29 : decode c_Rd_isBehindCondition 29 = .ok (.ireturn, 1) := by decide +kernel
abbrev c_Rd_putOutDownTo : ByteArray := prog_7_method_24_code
abbrev r_Rd_putOutDownTo : Option FieldType := none
def y_Rd_putOutDownTo : MethodName := ⟨"PinKindChecks$RuleReader", "putOutDownTo", "(I)V"⟩
theorem d_Rd_putOutDownTo_0 : decode c_Rd_putOutDownTo 0 = .ok (.aload_n 0, 1) := by decide +kernel
theorem d_Rd_putOutDownTo_1 : decode c_Rd_putOutDownTo 1 = .ok (.getfield 25, 3) := by decide +kernel
theorem d_Rd_putOutDownTo_4 : decode c_Rd_putOutDownTo 4 = .ok (.ifCond .le 51, 3) := by decide +kernel
theorem d_Rd_putOutDownTo_7 : decode c_Rd_putOutDownTo 7 = .ok (.aload_n 0, 1) := by decide +kernel
theorem d_Rd_putOutDownTo_8 : decode c_Rd_putOutDownTo 8 = .ok (.getfield 18, 3) := by decide +kernel
theorem d_Rd_putOutDownTo_11 : decode c_Rd_putOutDownTo 11 = .ok (.aload_n 0, 1) := by decide +kernel
theorem d_Rd_putOutDownTo_12 : decode c_Rd_putOutDownTo 12 = .ok (.getfield 25, 3) := by decide +kernel
theorem d_Rd_putOutDownTo_15 : decode c_Rd_putOutDownTo 15 = .ok (.iconst 1, 1) := by decide +kernel
theorem d_Rd_putOutDownTo_16 : decode c_Rd_putOutDownTo 16 = .ok (.isub, 1) := by decide +kernel
theorem d_Rd_putOutDownTo_17 : decode c_Rd_putOutDownTo 17 = .ok (.iaload, 1) := by decide +kernel
theorem d_Rd_putOutDownTo_18 : decode c_Rd_putOutDownTo 18 = .ok (.invokestatic 201, 3) := by decide +kernel
theorem d_Rd_putOutDownTo_21 : decode c_Rd_putOutDownTo 21 = .ok (.iload_n 1, 1) := by decide +kernel
theorem d_Rd_putOutDownTo_22 : decode c_Rd_putOutDownTo 22 = .ok (.invokestatic 201, 3) := by decide +kernel
theorem d_Rd_putOutDownTo_25 : decode c_Rd_putOutDownTo 25 = .ok (.if_icmp .lt 30, 3) := by decide +kernel
theorem d_Rd_putOutDownTo_28 : decode c_Rd_putOutDownTo 28 = .ok (.aload_n 0, 1) := by decide +kernel
theorem d_Rd_putOutDownTo_29 : decode c_Rd_putOutDownTo 29 = .ok (.dup, 1) := by decide +kernel
theorem d_Rd_putOutDownTo_30 : decode c_Rd_putOutDownTo 30 = .ok (.getfield 25, 3) := by decide +kernel
theorem d_Rd_putOutDownTo_33 : decode c_Rd_putOutDownTo 33 = .ok (.iconst 1, 1) := by decide +kernel
theorem d_Rd_putOutDownTo_34 : decode c_Rd_putOutDownTo 34 = .ok (.isub, 1) := by decide +kernel
theorem d_Rd_putOutDownTo_35 : decode c_Rd_putOutDownTo 35 = .ok (.putfield 25, 3) := by decide +kernel
theorem d_Rd_putOutDownTo_38 : decode c_Rd_putOutDownTo 38 = .ok (.aload_n 0, 1) := by decide +kernel
theorem d_Rd_putOutDownTo_39 : decode c_Rd_putOutDownTo 39 = .ok (.aload_n 0, 1) := by decide +kernel
theorem d_Rd_putOutDownTo_40 : decode c_Rd_putOutDownTo 40 = .ok (.getfield 18, 3) := by decide +kernel
theorem d_Rd_putOutDownTo_43 : decode c_Rd_putOutDownTo 43 = .ok (.aload_n 0, 1) := by decide +kernel
end
section
theorem d_Rd_putOutDownTo_44 : decode c_Rd_putOutDownTo 44 = .ok (.getfield 25, 3) := by decide +kernel
theorem d_Rd_putOutDownTo_47 : decode c_Rd_putOutDownTo 47 = .ok (.iaload, 1) := by decide +kernel
theorem d_Rd_putOutDownTo_48 : decode c_Rd_putOutDownTo 48 = .ok (.iconst 0, 1) := by decide +kernel
theorem d_Rd_putOutDownTo_49 : decode c_Rd_putOutDownTo 49 = .ok (.invokevirtual 172, 3) := by decide +kernel
theorem d_Rd_putOutDownTo_52 : decode c_Rd_putOutDownTo 52 = .ok (.goto (-52), 3) := by decide +kernel
theorem d_Rd_putOutDownTo_55 : decode c_Rd_putOutDownTo 55 = .ok (.return_, 1) := by decide +kernel
abbrev c_Rd_takeClosing : ByteArray := prog_7_method_11_code
abbrev r_Rd_takeClosing : Option FieldType := (some FieldType.boolean)
def y_Rd_takeClosing : MethodName := ⟨"PinKindChecks$RuleReader", "takeClosing", "()Z"⟩
theorem d_Rd_takeClosing_0 : decode c_Rd_takeClosing 0 = .ok (.aload_n 0, 1) := by decide +kernel
theorem d_Rd_takeClosing_1 : decode c_Rd_takeClosing 1 = .ok (.getfield 47, 3) := by decide +kernel
theorem d_Rd_takeClosing_4 : decode c_Rd_takeClosing 4 = .ok (.ldc 129, 2) := by decide +kernel
theorem d_Rd_takeClosing_6 : decode c_Rd_takeClosing 6 = .ok (.invokevirtual 110, 3) := by decide +kernel
theorem d_Rd_takeClosing_9 : decode c_Rd_takeClosing 9 = .ok (.ifCond .eq 17, 3) := by decide +kernel
theorem d_Rd_takeClosing_12 : decode c_Rd_takeClosing 12 = .ok (.aload_n 0, 1) := by decide +kernel
theorem d_Rd_takeClosing_13 : decode c_Rd_takeClosing 13 = .ok (.getfield 34, 3) := by decide +kernel
theorem d_Rd_takeClosing_16 : decode c_Rd_takeClosing 16 = .ok (.ifCond .le 10, 3) := by decide +kernel
theorem d_Rd_takeClosing_19 : decode c_Rd_takeClosing 19 = .ok (.aload_n 0, 1) := by decide +kernel
theorem d_Rd_takeClosing_20 : decode c_Rd_takeClosing 20 = .ok (.invokevirtual 63, 3) := by decide +kernel
theorem d_Rd_takeClosing_23 : decode c_Rd_takeClosing 23 = .ok (.ifCond .ne 5, 3) := by decide +kernel
theorem d_Rd_takeClosing_26 : decode c_Rd_takeClosing 26 = .ok (.iconst 0, 1) := by decide +kernel
theorem d_Rd_takeClosing_27 : decode c_Rd_takeClosing 27 = .ok (.ireturn, 1) := by decide +kernel
theorem d_Rd_takeClosing_28 : decode c_Rd_takeClosing 28 = .ok (.aload_n 0, 1) := by decide +kernel
theorem d_Rd_takeClosing_29 : decode c_Rd_takeClosing 29 = .ok (.dup, 1) := by decide +kernel
theorem d_Rd_takeClosing_30 : decode c_Rd_takeClosing 30 = .ok (.getfield 34, 3) := by decide +kernel
theorem d_Rd_takeClosing_33 : decode c_Rd_takeClosing 33 = .ok (.iconst 1, 1) := by decide +kernel
theorem d_Rd_takeClosing_34 : decode c_Rd_takeClosing 34 = .ok (.isub, 1) := by decide +kernel
theorem d_Rd_takeClosing_35 : decode c_Rd_takeClosing 35 = .ok (.putfield 34, 3) := by decide +kernel
theorem d_Rd_takeClosing_38 : decode c_Rd_takeClosing 38 = .ok (.aload_n 0, 1) := by decide +kernel
theorem d_Rd_takeClosing_39 : decode c_Rd_takeClosing 39 = .ok (.iconst 1, 1) := by decide +kernel
theorem d_Rd_takeClosing_40 : decode c_Rd_takeClosing 40 = .ok (.invokevirtual 68, 3) := by decide +kernel
theorem d_Rd_takeClosing_43 : decode c_Rd_takeClosing 43 = .ok (.aload_n 0, 1) := by decide +kernel
theorem d_Rd_takeClosing_44 : decode c_Rd_takeClosing 44 = .ok (.invokevirtual 131, 3) := by decide +kernel
theorem d_Rd_takeClosing_47 : decode c_Rd_takeClosing 47 = .ok (.aload_n 0, 1) := by decide +kernel
theorem d_Rd_takeClosing_48 : decode c_Rd_takeClosing 48 = .ok (.bipush 6, 2) := by decide +kernel
theorem d_Rd_takeClosing_50 : decode c_Rd_takeClosing 50 = .ok (.putfield 31, 3) := by decide +kernel
theorem d_Rd_takeClosing_53 : decode c_Rd_takeClosing 53 = .ok (.iconst 1, 1) := by decide +kernel
theorem d_Rd_takeClosing_54 : decode c_Rd_takeClosing 54 = .ok (.ireturn, 1) := by decide +kernel
abbrev c_Rd_dropOpening : ByteArray := prog_7_method_23_code
abbrev r_Rd_dropOpening : Option FieldType := none
def y_Rd_dropOpening : MethodName := ⟨"PinKindChecks$RuleReader", "dropOpening", "()V"⟩
theorem d_Rd_dropOpening_0 : decode c_Rd_dropOpening 0 = .ok (.aload_n 0, 1) := by decide +kernel
theorem d_Rd_dropOpening_1 : decode c_Rd_dropOpening 1 = .ok (.getfield 25, 3) := by decide +kernel
theorem d_Rd_dropOpening_4 : decode c_Rd_dropOpening 4 = .ok (.ifCond .le 13, 3) := by decide +kernel
theorem d_Rd_dropOpening_7 : decode c_Rd_dropOpening 7 = .ok (.aload_n 0, 1) := by decide +kernel
theorem d_Rd_dropOpening_8 : decode c_Rd_dropOpening 8 = .ok (.dup, 1) := by decide +kernel
theorem d_Rd_dropOpening_9 : decode c_Rd_dropOpening 9 = .ok (.getfield 25, 3) := by decide +kernel
theorem d_Rd_dropOpening_12 : decode c_Rd_dropOpening 12 = .ok (.iconst 1, 1) := by decide +kernel
theorem d_Rd_dropOpening_13 : decode c_Rd_dropOpening 13 = .ok (.isub, 1) := by decide +kernel
theorem d_Rd_dropOpening_14 : decode c_Rd_dropOpening 14 = .ok (.putfield 25, 3) := by decide +kernel
theorem d_Rd_dropOpening_17 : decode c_Rd_dropOpening 17 = .ok (.return_, 1) := by decide +kernel
abbrev c_Rd_wrongWord : ByteArray := prog_7_method_3_code
abbrev r_Rd_wrongWord : Option FieldType := (some FieldType.int)
def y_Rd_wrongWord : MethodName := ⟨"PinKindChecks$RuleReader", "wrongWord", "()I"⟩
theorem d_Rd_wrongWord_0 : decode c_Rd_wrongWord 0 = .ok (.aload_n 0, 1) := by decide +kernel
theorem d_Rd_wrongWord_1 : decode c_Rd_wrongWord 1 = .ok (.getfield 28, 3) := by decide +kernel
theorem d_Rd_wrongWord_4 : decode c_Rd_wrongWord 4 = .ok (.ireturn, 1) := by decide +kernel
end
section
abbrev c_Rm_init : ByteArray := prog_6_method_1_code
abbrev r_Rm_init : Option FieldType := none
def y_Rm_init : MethodName := ⟨"PinKindChecks$Remarks", "<init>", "()V"⟩
theorem d_Rm_init_0 : decode c_Rm_init 0 = .ok (.aload_n 0, 1) := by decide +kernel
theorem d_Rm_init_1 : decode c_Rm_init 1 = .ok (.invokespecial 3, 3) := by decide +kernel
theorem d_Rm_init_4 : decode c_Rm_init 4 = .ok (.aload_n 0, 1) := by decide +kernel
theorem d_Rm_init_5 : decode c_Rm_init 5 = .ok (.bipush 32, 2) := by decide +kernel
theorem d_Rm_init_7 : decode c_Rm_init 7 = .ok (.newarray .int, 2) := by decide +kernel
theorem d_Rm_init_9 : decode c_Rm_init 9 = .ok (.putfield 11, 3) := by decide +kernel
theorem d_Rm_init_12 : decode c_Rm_init 12 = .ok (.aload_n 0, 1) := by decide +kernel
theorem d_Rm_init_13 : decode c_Rm_init 13 = .ok (.bipush 32, 2) := by decide +kernel
theorem d_Rm_init_15 : decode c_Rm_init 15 = .ok (.newarray .int, 2) := by decide +kernel
theorem d_Rm_init_17 : decode c_Rm_init 17 = .ok (.putfield 15, 3) := by decide +kernel
theorem d_Rm_init_20 : decode c_Rm_init 20 = .ok (.aload_n 0, 1) := by decide +kernel
theorem d_Rm_init_21 : decode c_Rm_init 21 = .ok (.bipush 32, 2) := by decide +kernel
theorem d_Rm_init_23 : decode c_Rm_init 23 = .ok (.newarray .int, 2) := by decide +kernel
theorem d_Rm_init_25 : decode c_Rm_init 25 = .ok (.putfield 18, 3) := by decide +kernel
theorem d_Rm_init_28 : decode c_Rm_init 28 = .ok (.aload_n 0, 1) := by decide +kernel
theorem d_Rm_init_29 : decode c_Rm_init 29 = .ok (.iconst 0, 1) := by decide +kernel
theorem d_Rm_init_30 : decode c_Rm_init 30 = .ok (.putfield 21, 3) := by decide +kernel
theorem d_Rm_init_33 : decode c_Rm_init 33 = .ok (.return_, 1) := by decide +kernel
abbrev c_Rm_wipe : ByteArray := prog_6_method_2_code
abbrev r_Rm_wipe : Option FieldType := none
def y_Rm_wipe : MethodName := ⟨"PinKindChecks$Remarks", "wipe", "()V"⟩
theorem d_Rm_wipe_0 : decode c_Rm_wipe 0 = .ok (.aload_n 0, 1) := by decide +kernel
theorem d_Rm_wipe_1 : decode c_Rm_wipe 1 = .ok (.iconst 0, 1) := by decide +kernel
theorem d_Rm_wipe_2 : decode c_Rm_wipe 2 = .ok (.putfield 21, 3) := by decide +kernel
theorem d_Rm_wipe_5 : decode c_Rm_wipe 5 = .ok (.return_, 1) := by decide +kernel
abbrev c_Rm_add : ByteArray := prog_6_method_4_code
abbrev r_Rm_add : Option FieldType := none
def y_Rm_add : MethodName := ⟨"PinKindChecks$Remarks", "add", "(III)V"⟩
theorem d_Rm_add_0 : decode c_Rm_add 0 = .ok (.aload_n 0, 1) := by decide +kernel
theorem d_Rm_add_1 : decode c_Rm_add 1 = .ok (.getfield 21, 3) := by decide +kernel
theorem d_Rm_add_4 : decode c_Rm_add 4 = .ok (.aload_n 0, 1) := by decide +kernel
theorem d_Rm_add_5 : decode c_Rm_add 5 = .ok (.getfield 11, 3) := by decide +kernel
theorem d_Rm_add_8 : decode c_Rm_add 8 = .ok (.arraylength, 1) := by decide +kernel
theorem d_Rm_add_9 : decode c_Rm_add 9 = .ok (.if_icmp .lt 7, 3) := by decide +kernel
theorem d_Rm_add_12 : decode c_Rm_add 12 = .ok (.aload_n 0, 1) := by decide +kernel
theorem d_Rm_add_13 : decode c_Rm_add 13 = .ok (.invokevirtual 25, 3) := by decide +kernel
theorem d_Rm_add_16 : decode c_Rm_add 16 = .ok (.aload_n 0, 1) := by decide +kernel
theorem d_Rm_add_17 : decode c_Rm_add 17 = .ok (.getfield 21, 3) := by decide +kernel
theorem d_Rm_add_20 : decode c_Rm_add 20 = .ok (.aload_n 0, 1) := by decide +kernel
theorem d_Rm_add_21 : decode c_Rm_add 21 = .ok (.getfield 11, 3) := by decide +kernel
theorem d_Rm_add_24 : decode c_Rm_add 24 = .ok (.arraylength, 1) := by decide +kernel
theorem d_Rm_add_25 : decode c_Rm_add 25 = .ok (.if_icmp .ge 67, 3) := by decide +kernel
theorem d_Rm_add_28 : decode c_Rm_add 28 = .ok (.aload_n 0, 1) := by decide +kernel
theorem d_Rm_add_29 : decode c_Rm_add 29 = .ok (.getfield 21, 3) := by decide +kernel
theorem d_Rm_add_32 : decode c_Rm_add 32 = .ok (.aload_n 0, 1) := by decide +kernel
theorem d_Rm_add_33 : decode c_Rm_add 33 = .ok (.getfield 15, 3) := by decide +kernel
theorem d_Rm_add_36 : decode c_Rm_add 36 = .ok (.arraylength, 1) := by decide +kernel
theorem d_Rm_add_37 : decode c_Rm_add 37 = .ok (.if_icmp .ge 55, 3) := by decide +kernel
theorem d_Rm_add_40 : decode c_Rm_add 40 = .ok (.aload_n 0, 1) := by decide +kernel
theorem d_Rm_add_41 : decode c_Rm_add 41 = .ok (.getfield 21, 3) := by decide +kernel
theorem d_Rm_add_44 : decode c_Rm_add 44 = .ok (.aload_n 0, 1) := by decide +kernel
theorem d_Rm_add_45 : decode c_Rm_add 45 = .ok (.getfield 18, 3) := by decide +kernel
theorem d_Rm_add_48 : decode c_Rm_add 48 = .ok (.arraylength, 1) := by decide +kernel
theorem d_Rm_add_49 : decode c_Rm_add 49 = .ok (.if_icmp .ge 43, 3) := by decide +kernel
theorem d_Rm_add_52 : decode c_Rm_add 52 = .ok (.aload_n 0, 1) := by decide +kernel
theorem d_Rm_add_53 : decode c_Rm_add 53 = .ok (.getfield 11, 3) := by decide +kernel
theorem d_Rm_add_56 : decode c_Rm_add 56 = .ok (.aload_n 0, 1) := by decide +kernel
theorem d_Rm_add_57 : decode c_Rm_add 57 = .ok (.getfield 21, 3) := by decide +kernel
theorem d_Rm_add_60 : decode c_Rm_add 60 = .ok (.iload_n 1, 1) := by decide +kernel
theorem d_Rm_add_61 : decode c_Rm_add 61 = .ok (.iastore, 1) := by decide +kernel
theorem d_Rm_add_62 : decode c_Rm_add 62 = .ok (.aload_n 0, 1) := by decide +kernel
theorem d_Rm_add_63 : decode c_Rm_add 63 = .ok (.getfield 15, 3) := by decide +kernel
theorem d_Rm_add_66 : decode c_Rm_add 66 = .ok (.aload_n 0, 1) := by decide +kernel
theorem d_Rm_add_67 : decode c_Rm_add 67 = .ok (.getfield 21, 3) := by decide +kernel
theorem d_Rm_add_70 : decode c_Rm_add 70 = .ok (.iload_n 2, 1) := by decide +kernel
theorem d_Rm_add_71 : decode c_Rm_add 71 = .ok (.iastore, 1) := by decide +kernel
theorem d_Rm_add_72 : decode c_Rm_add 72 = .ok (.aload_n 0, 1) := by decide +kernel
theorem d_Rm_add_73 : decode c_Rm_add 73 = .ok (.getfield 18, 3) := by decide +kernel
theorem d_Rm_add_76 : decode c_Rm_add 76 = .ok (.aload_n 0, 1) := by decide +kernel
theorem d_Rm_add_77 : decode c_Rm_add 77 = .ok (.getfield 21, 3) := by decide +kernel
theorem d_Rm_add_80 : decode c_Rm_add 80 = .ok (.iload_n 3, 1) := by decide +kernel
theorem d_Rm_add_81 : decode c_Rm_add 81 = .ok (.iastore, 1) := by decide +kernel
theorem d_Rm_add_82 : decode c_Rm_add 82 = .ok (.aload_n 0, 1) := by decide +kernel
theorem d_Rm_add_83 : decode c_Rm_add 83 = .ok (.dup, 1) := by decide +kernel
theorem d_Rm_add_84 : decode c_Rm_add 84 = .ok (.getfield 21, 3) := by decide +kernel
theorem d_Rm_add_87 : decode c_Rm_add 87 = .ok (.iconst 1, 1) := by decide +kernel
theorem d_Rm_add_88 : decode c_Rm_add 88 = .ok (.iadd, 1) := by decide +kernel
theorem d_Rm_add_89 : decode c_Rm_add 89 = .ok (.putfield 21, 3) := by decide +kernel
theorem d_Rm_add_92 : decode c_Rm_add 92 = .ok (.return_, 1) := by decide +kernel
abbrev c_Rm_grow : ByteArray := prog_6_method_5_code
abbrev r_Rm_grow : Option FieldType := none
def y_Rm_grow : MethodName := ⟨"PinKindChecks$Remarks", "grow", "()V"⟩
theorem d_Rm_grow_0 : decode c_Rm_grow 0 = .ok (.iconst 2, 1) := by decide +kernel
theorem d_Rm_grow_1 : decode c_Rm_grow 1 = .ok (.aload_n 0, 1) := by decide +kernel
theorem d_Rm_grow_2 : decode c_Rm_grow 2 = .ok (.getfield 11, 3) := by decide +kernel
theorem d_Rm_grow_5 : decode c_Rm_grow 5 = .ok (.arraylength, 1) := by decide +kernel
theorem d_Rm_grow_6 : decode c_Rm_grow 6 = .ok (.imul, 1) := by decide +kernel
theorem d_Rm_grow_7 : decode c_Rm_grow 7 = .ok (.sipush 3720, 3) := by decide +kernel
theorem d_Rm_grow_10 : decode c_Rm_grow 10 = .ok (.invokestatic 28, 3) := by decide +kernel
theorem d_Rm_grow_13 : decode c_Rm_grow 13 = .ok (.istore_n 1, 1) := by decide +kernel
theorem d_Rm_grow_14 : decode c_Rm_grow 14 = .ok (.iload_n 1, 1) := by decide +kernel
theorem d_Rm_grow_15 : decode c_Rm_grow 15 = .ok (.aload_n 0, 1) := by decide +kernel
theorem d_Rm_grow_16 : decode c_Rm_grow 16 = .ok (.getfield 11, 3) := by decide +kernel
theorem d_Rm_grow_19 : decode c_Rm_grow 19 = .ok (.arraylength, 1) := by decide +kernel
theorem d_Rm_grow_20 : decode c_Rm_grow 20 = .ok (.if_icmp .le 39, 3) := by decide +kernel
theorem d_Rm_grow_23 : decode c_Rm_grow 23 = .ok (.aload_n 0, 1) := by decide +kernel
theorem d_Rm_grow_24 : decode c_Rm_grow 24 = .ok (.aload_n 0, 1) := by decide +kernel
theorem d_Rm_grow_25 : decode c_Rm_grow 25 = .ok (.getfield 11, 3) := by decide +kernel
theorem d_Rm_grow_28 : decode c_Rm_grow 28 = .ok (.iload_n 1, 1) := by decide +kernel
theorem d_Rm_grow_29 : decode c_Rm_grow 29 = .ok (.invokestatic 34, 3) := by decide +kernel
theorem d_Rm_grow_32 : decode c_Rm_grow 32 = .ok (.putfield 11, 3) := by decide +kernel
theorem d_Rm_grow_35 : decode c_Rm_grow 35 = .ok (.aload_n 0, 1) := by decide +kernel
theorem d_Rm_grow_36 : decode c_Rm_grow 36 = .ok (.aload_n 0, 1) := by decide +kernel
theorem d_Rm_grow_37 : decode c_Rm_grow 37 = .ok (.getfield 15, 3) := by decide +kernel
theorem d_Rm_grow_40 : decode c_Rm_grow 40 = .ok (.iload_n 1, 1) := by decide +kernel
theorem d_Rm_grow_41 : decode c_Rm_grow 41 = .ok (.invokestatic 34, 3) := by decide +kernel
theorem d_Rm_grow_44 : decode c_Rm_grow 44 = .ok (.putfield 15, 3) := by decide +kernel
theorem d_Rm_grow_47 : decode c_Rm_grow 47 = .ok (.aload_n 0, 1) := by decide +kernel
theorem d_Rm_grow_48 : decode c_Rm_grow 48 = .ok (.aload_n 0, 1) := by decide +kernel
theorem d_Rm_grow_49 : decode c_Rm_grow 49 = .ok (.getfield 18, 3) := by decide +kernel
theorem d_Rm_grow_52 : decode c_Rm_grow 52 = .ok (.iload_n 1, 1) := by decide +kernel
theorem d_Rm_grow_53 : decode c_Rm_grow 53 = .ok (.invokestatic 34, 3) := by decide +kernel
theorem d_Rm_grow_56 : decode c_Rm_grow 56 = .ok (.putfield 18, 3) := by decide +kernel
theorem d_Rm_grow_59 : decode c_Rm_grow 59 = .ok (.return_, 1) := by decide +kernel
abbrev c_Rm_count : ByteArray := prog_6_method_3_code
abbrev r_Rm_count : Option FieldType := (some FieldType.int)
def y_Rm_count : MethodName := ⟨"PinKindChecks$Remarks", "count", "()I"⟩
theorem d_Rm_count_0 : decode c_Rm_count 0 = .ok (.aload_n 0, 1) := by decide +kernel
theorem d_Rm_count_1 : decode c_Rm_count 1 = .ok (.getfield 21, 3) := by decide +kernel
theorem d_Rm_count_4 : decode c_Rm_count 4 = .ok (.ireturn, 1) := by decide +kernel
abbrev c_Rm_keyOf : ByteArray := prog_6_method_6_code
abbrev r_Rm_keyOf : Option FieldType := (some FieldType.int)
def y_Rm_keyOf : MethodName := ⟨"PinKindChecks$Remarks", "keyOf", "(I)I"⟩
theorem d_Rm_keyOf_0 : decode c_Rm_keyOf 0 = .ok (.iload_n 1, 1) := by decide +kernel
theorem d_Rm_keyOf_1 : decode c_Rm_keyOf 1 = .ok (.aload_n 0, 1) := by decide +kernel
theorem d_Rm_keyOf_2 : decode c_Rm_keyOf 2 = .ok (.getfield 21, 3) := by decide +kernel
theorem d_Rm_keyOf_5 : decode c_Rm_keyOf 5 = .ok (.invokestatic 40, 3) := by decide +kernel
theorem d_Rm_keyOf_8 : decode c_Rm_keyOf 8 = .ok (.ifCond .eq 21, 3) := by decide +kernel
theorem d_Rm_keyOf_11 : decode c_Rm_keyOf 11 = .ok (.iload_n 1, 1) := by decide +kernel
theorem d_Rm_keyOf_12 : decode c_Rm_keyOf 12 = .ok (.aload_n 0, 1) := by decide +kernel
theorem d_Rm_keyOf_13 : decode c_Rm_keyOf 13 = .ok (.getfield 11, 3) := by decide +kernel
theorem d_Rm_keyOf_16 : decode c_Rm_keyOf 16 = .ok (.arraylength, 1) := by decide +kernel
theorem d_Rm_keyOf_17 : decode c_Rm_keyOf 17 = .ok (.if_icmp .ge 12, 3) := by decide +kernel
theorem d_Rm_keyOf_20 : decode c_Rm_keyOf 20 = .ok (.aload_n 0, 1) := by decide +kernel
theorem d_Rm_keyOf_21 : decode c_Rm_keyOf 21 = .ok (.getfield 11, 3) := by decide +kernel
theorem d_Rm_keyOf_24 : decode c_Rm_keyOf 24 = .ok (.iload_n 1, 1) := by decide +kernel
theorem d_Rm_keyOf_25 : decode c_Rm_keyOf 25 = .ok (.iaload, 1) := by decide +kernel
theorem d_Rm_keyOf_26 : decode c_Rm_keyOf 26 = .ok (.goto 4, 3) := by decide +kernel
theorem d_Rm_keyOf_29 : decode c_Rm_keyOf 29 = .ok (.iconst (-1), 1) := by decide +kernel
theorem d_Rm_keyOf_30 : decode c_Rm_keyOf 30 = .ok (.ireturn, 1) := by decide +kernel
abbrev c_Rm_firstOf : ByteArray := prog_6_method_8_code
abbrev r_Rm_firstOf : Option FieldType := (some FieldType.int)
def y_Rm_firstOf : MethodName := ⟨"PinKindChecks$Remarks", "firstOf", "(I)I"⟩
theorem d_Rm_firstOf_0 : decode c_Rm_firstOf 0 = .ok (.iload_n 1, 1) := by decide +kernel
theorem d_Rm_firstOf_1 : decode c_Rm_firstOf 1 = .ok (.aload_n 0, 1) := by decide +kernel
theorem d_Rm_firstOf_2 : decode c_Rm_firstOf 2 = .ok (.getfield 21, 3) := by decide +kernel
theorem d_Rm_firstOf_5 : decode c_Rm_firstOf 5 = .ok (.invokestatic 40, 3) := by decide +kernel
theorem d_Rm_firstOf_8 : decode c_Rm_firstOf 8 = .ok (.ifCond .eq 21, 3) := by decide +kernel
theorem d_Rm_firstOf_11 : decode c_Rm_firstOf 11 = .ok (.iload_n 1, 1) := by decide +kernel
theorem d_Rm_firstOf_12 : decode c_Rm_firstOf 12 = .ok (.aload_n 0, 1) := by decide +kernel
theorem d_Rm_firstOf_13 : decode c_Rm_firstOf 13 = .ok (.getfield 18, 3) := by decide +kernel
theorem d_Rm_firstOf_16 : decode c_Rm_firstOf 16 = .ok (.arraylength, 1) := by decide +kernel
theorem d_Rm_firstOf_17 : decode c_Rm_firstOf 17 = .ok (.if_icmp .ge 12, 3) := by decide +kernel
theorem d_Rm_firstOf_20 : decode c_Rm_firstOf 20 = .ok (.aload_n 0, 1) := by decide +kernel
theorem d_Rm_firstOf_21 : decode c_Rm_firstOf 21 = .ok (.getfield 18, 3) := by decide +kernel
theorem d_Rm_firstOf_24 : decode c_Rm_firstOf 24 = .ok (.iload_n 1, 1) := by decide +kernel
theorem d_Rm_firstOf_25 : decode c_Rm_firstOf 25 = .ok (.iaload, 1) := by decide +kernel
theorem d_Rm_firstOf_26 : decode c_Rm_firstOf 26 = .ok (.goto 4, 3) := by decide +kernel
theorem d_Rm_firstOf_29 : decode c_Rm_firstOf 29 = .ok (.iconst (-1), 1) := by decide +kernel
theorem d_Rm_firstOf_30 : decode c_Rm_firstOf 30 = .ok (.ireturn, 1) := by decide +kernel
abbrev c_Rm_setFirst : ByteArray := prog_6_method_9_code
abbrev r_Rm_setFirst : Option FieldType := none
def y_Rm_setFirst : MethodName := ⟨"PinKindChecks$Remarks", "setFirst", "(II)V"⟩
theorem d_Rm_setFirst_0 : decode c_Rm_setFirst 0 = .ok (.iload_n 1, 1) := by decide +kernel
theorem d_Rm_setFirst_1 : decode c_Rm_setFirst 1 = .ok (.aload_n 0, 1) := by decide +kernel
theorem d_Rm_setFirst_2 : decode c_Rm_setFirst 2 = .ok (.getfield 21, 3) := by decide +kernel
theorem d_Rm_setFirst_5 : decode c_Rm_setFirst 5 = .ok (.invokestatic 40, 3) := by decide +kernel
theorem d_Rm_setFirst_8 : decode c_Rm_setFirst 8 = .ok (.ifCond .eq 19, 3) := by decide +kernel
theorem d_Rm_setFirst_11 : decode c_Rm_setFirst 11 = .ok (.iload_n 1, 1) := by decide +kernel
theorem d_Rm_setFirst_12 : decode c_Rm_setFirst 12 = .ok (.aload_n 0, 1) := by decide +kernel
theorem d_Rm_setFirst_13 : decode c_Rm_setFirst 13 = .ok (.getfield 18, 3) := by decide +kernel
theorem d_Rm_setFirst_16 : decode c_Rm_setFirst 16 = .ok (.arraylength, 1) := by decide +kernel
theorem d_Rm_setFirst_17 : decode c_Rm_setFirst 17 = .ok (.if_icmp .ge 10, 3) := by decide +kernel
theorem d_Rm_setFirst_20 : decode c_Rm_setFirst 20 = .ok (.aload_n 0, 1) := by decide +kernel
theorem d_Rm_setFirst_21 : decode c_Rm_setFirst 21 = .ok (.getfield 18, 3) := by decide +kernel
theorem d_Rm_setFirst_24 : decode c_Rm_setFirst 24 = .ok (.iload_n 1, 1) := by decide +kernel
theorem d_Rm_setFirst_25 : decode c_Rm_setFirst 25 = .ok (.iload_n 2, 1) := by decide +kernel
theorem d_Rm_setFirst_26 : decode c_Rm_setFirst 26 = .ok (.iastore, 1) := by decide +kernel
theorem d_Rm_setFirst_27 : decode c_Rm_setFirst 27 = .ok (.return_, 1) := by decide +kernel
abbrev c_Rm_weightOf : ByteArray := prog_6_method_7_code
abbrev r_Rm_weightOf : Option FieldType := (some FieldType.int)
def y_Rm_weightOf : MethodName := ⟨"PinKindChecks$Remarks", "weightOf", "(I)I"⟩
theorem d_Rm_weightOf_0 : decode c_Rm_weightOf 0 = .ok (.iload_n 1, 1) := by decide +kernel
theorem d_Rm_weightOf_1 : decode c_Rm_weightOf 1 = .ok (.aload_n 0, 1) := by decide +kernel
theorem d_Rm_weightOf_2 : decode c_Rm_weightOf 2 = .ok (.getfield 21, 3) := by decide +kernel
theorem d_Rm_weightOf_5 : decode c_Rm_weightOf 5 = .ok (.invokestatic 40, 3) := by decide +kernel
theorem d_Rm_weightOf_8 : decode c_Rm_weightOf 8 = .ok (.ifCond .eq 21, 3) := by decide +kernel
theorem d_Rm_weightOf_11 : decode c_Rm_weightOf 11 = .ok (.iload_n 1, 1) := by decide +kernel
theorem d_Rm_weightOf_12 : decode c_Rm_weightOf 12 = .ok (.aload_n 0, 1) := by decide +kernel
theorem d_Rm_weightOf_13 : decode c_Rm_weightOf 13 = .ok (.getfield 15, 3) := by decide +kernel
theorem d_Rm_weightOf_16 : decode c_Rm_weightOf 16 = .ok (.arraylength, 1) := by decide +kernel
theorem d_Rm_weightOf_17 : decode c_Rm_weightOf 17 = .ok (.if_icmp .ge 12, 3) := by decide +kernel
theorem d_Rm_weightOf_20 : decode c_Rm_weightOf 20 = .ok (.aload_n 0, 1) := by decide +kernel
theorem d_Rm_weightOf_21 : decode c_Rm_weightOf 21 = .ok (.getfield 15, 3) := by decide +kernel
theorem d_Rm_weightOf_24 : decode c_Rm_weightOf 24 = .ok (.iload_n 1, 1) := by decide +kernel
theorem d_Rm_weightOf_25 : decode c_Rm_weightOf 25 = .ok (.iaload, 1) := by decide +kernel
theorem d_Rm_weightOf_26 : decode c_Rm_weightOf 26 = .ok (.goto 4, 3) := by decide +kernel
theorem d_Rm_weightOf_29 : decode c_Rm_weightOf 29 = .ok (.iconst (-1), 1) := by decide +kernel
theorem d_Rm_weightOf_30 : decode c_Rm_weightOf 30 = .ok (.ireturn, 1) := by decide +kernel
end
section
abbrev c_Sc_init : ByteArray := prog_9_method_1_code
abbrev r_Sc_init : Option FieldType := none
def y_Sc_init : MethodName := ⟨"PinKindChecks$Schematic", "<init>", "()V"⟩
theorem d_Sc_init_0 : decode c_Sc_init 0 = .ok (.aload_n 0, 1) := by decide +kernel
theorem d_Sc_init_1 : decode c_Sc_init 1 = .ok (.invokespecial 3, 3) := by decide +kernel
theorem d_Sc_init_4 : decode c_Sc_init 4 = .ok (.aload_n 0, 1) := by decide +kernel
theorem d_Sc_init_5 : decode c_Sc_init 5 = .ok (.bipush 100, 2) := by decide +kernel
theorem d_Sc_init_7 : decode c_Sc_init 7 = .ok (.newarray .int, 2) := by decide +kernel
theorem d_Sc_init_9 : decode c_Sc_init 9 = .ok (.putfield 9, 3) := by decide +kernel
theorem d_Sc_init_12 : decode c_Sc_init 12 = .ok (.aload_n 0, 1) := by decide +kernel
theorem d_Sc_init_13 : decode c_Sc_init 13 = .ok (.bipush 40, 2) := by decide +kernel
theorem d_Sc_init_15 : decode c_Sc_init 15 = .ok (.anewarray 15, 3) := by decide +kernel
theorem d_Sc_init_18 : decode c_Sc_init 18 = .ok (.putfield 17, 3) := by decide +kernel
theorem d_Sc_init_21 : decode c_Sc_init 21 = .ok (.aload_n 0, 1) := by decide +kernel
theorem d_Sc_init_22 : decode c_Sc_init 22 = .ok (.bipush 40, 2) := by decide +kernel
theorem d_Sc_init_24 : decode c_Sc_init 24 = .ok (.anewarray 21, 3) := by decide +kernel
theorem d_Sc_init_27 : decode c_Sc_init 27 = .ok (.putfield 23, 3) := by decide +kernel
theorem d_Sc_init_30 : decode c_Sc_init 30 = .ok (.aload_n 0, 1) := by decide +kernel
theorem d_Sc_init_31 : decode c_Sc_init 31 = .ok (.sipush 160, 3) := by decide +kernel
theorem d_Sc_init_34 : decode c_Sc_init 34 = .ok (.anewarray 27, 3) := by decide +kernel
theorem d_Sc_init_37 : decode c_Sc_init 37 = .ok (.putfield 29, 3) := by decide +kernel
theorem d_Sc_init_40 : decode c_Sc_init 40 = .ok (.aload_n 0, 1) := by decide +kernel
theorem d_Sc_init_41 : decode c_Sc_init 41 = .ok (.sipush 240, 3) := by decide +kernel
theorem d_Sc_init_44 : decode c_Sc_init 44 = .ok (.anewarray 33, 3) := by decide +kernel
theorem d_Sc_init_47 : decode c_Sc_init 47 = .ok (.putfield 35, 3) := by decide +kernel
theorem d_Sc_init_50 : decode c_Sc_init 50 = .ok (.aload_n 0, 1) := by decide +kernel
theorem d_Sc_init_51 : decode c_Sc_init 51 = .ok (.iconst 0, 1) := by decide +kernel
theorem d_Sc_init_52 : decode c_Sc_init 52 = .ok (.putfield 39, 3) := by decide +kernel
theorem d_Sc_init_55 : decode c_Sc_init 55 = .ok (.aload_n 0, 1) := by decide +kernel
theorem d_Sc_init_56 : decode c_Sc_init 56 = .ok (.iconst 0, 1) := by decide +kernel
theorem d_Sc_init_57 : decode c_Sc_init 57 = .ok (.putfield 43, 3) := by decide +kernel
theorem d_Sc_init_60 : decode c_Sc_init 60 = .ok (.aload_n 0, 1) := by decide +kernel
theorem d_Sc_init_61 : decode c_Sc_init 61 = .ok (.iconst 0, 1) := by decide +kernel
theorem d_Sc_init_62 : decode c_Sc_init 62 = .ok (.putfield 46, 3) := by decide +kernel
theorem d_Sc_init_65 : decode c_Sc_init 65 = .ok (.aload_n 0, 1) := by decide +kernel
theorem d_Sc_init_66 : decode c_Sc_init 66 = .ok (.iconst 0, 1) := by decide +kernel
theorem d_Sc_init_67 : decode c_Sc_init 67 = .ok (.putfield 49, 3) := by decide +kernel
theorem d_Sc_init_70 : decode c_Sc_init 70 = .ok (.return_, 1) := by decide +kernel
abbrev c_Sc_thingCount : ByteArray := prog_9_method_13_code
abbrev r_Sc_thingCount : Option FieldType := (some FieldType.int)
def y_Sc_thingCount : MethodName := ⟨"PinKindChecks$Schematic", "thingCount", "()I"⟩
theorem d_Sc_thingCount_0 : decode c_Sc_thingCount 0 = .ok (.aload_n 0, 1) := by decide +kernel
theorem d_Sc_thingCount_1 : decode c_Sc_thingCount 1 = .ok (.getfield 39, 3) := by decide +kernel
theorem d_Sc_thingCount_4 : decode c_Sc_thingCount 4 = .ok (.aload_n 0, 1) := by decide +kernel
theorem d_Sc_thingCount_5 : decode c_Sc_thingCount 5 = .ok (.getfield 43, 3) := by decide +kernel
theorem d_Sc_thingCount_8 : decode c_Sc_thingCount 8 = .ok (.iadd, 1) := by decide +kernel
theorem d_Sc_thingCount_9 : decode c_Sc_thingCount 9 = .ok (.aload_n 0, 1) := by decide +kernel
theorem d_Sc_thingCount_10 : decode c_Sc_thingCount 10 = .ok (.getfield 46, 3) := by decide +kernel
theorem d_Sc_thingCount_13 : decode c_Sc_thingCount 13 = .ok (.iadd, 1) := by decide +kernel
theorem d_Sc_thingCount_14 : decode c_Sc_thingCount 14 = .ok (.ireturn, 1) := by decide +kernel
abbrev c_Sc_thingInOrder : ByteArray := prog_9_method_14_code
abbrev r_Sc_thingInOrder : Option FieldType := (some (FieldType.object "PinKindChecks$Thing"))
def y_Sc_thingInOrder : MethodName := ⟨"PinKindChecks$Schematic", "thingInOrder", "(I)LPinKindChecks$Thing;"⟩
theorem d_Sc_thingInOrder_0 : decode c_Sc_thingInOrder 0 = .ok (.iload_n 1, 1) := by decide +kernel
theorem d_Sc_thingInOrder_1 : decode c_Sc_thingInOrder 1 = .ok (.aload_n 0, 1) := by decide +kernel
theorem d_Sc_thingInOrder_2 : decode c_Sc_thingInOrder 2 = .ok (.invokevirtual 108, 3) := by decide +kernel
theorem d_Sc_thingInOrder_5 : decode c_Sc_thingInOrder 5 = .ok (.invokestatic 58, 3) := by decide +kernel
theorem d_Sc_thingInOrder_8 : decode c_Sc_thingInOrder 8 = .ok (.ifCond .eq 21, 3) := by decide +kernel
theorem d_Sc_thingInOrder_11 : decode c_Sc_thingInOrder 11 = .ok (.iload_n 1, 1) := by decide +kernel
theorem d_Sc_thingInOrder_12 : decode c_Sc_thingInOrder 12 = .ok (.aload_n 0, 1) := by decide +kernel
theorem d_Sc_thingInOrder_13 : decode c_Sc_thingInOrder 13 = .ok (.getfield 35, 3) := by decide +kernel
theorem d_Sc_thingInOrder_16 : decode c_Sc_thingInOrder 16 = .ok (.arraylength, 1) := by decide +kernel
theorem d_Sc_thingInOrder_17 : decode c_Sc_thingInOrder 17 = .ok (.if_icmp .ge 12, 3) := by decide +kernel
theorem d_Sc_thingInOrder_20 : decode c_Sc_thingInOrder 20 = .ok (.aload_n 0, 1) := by decide +kernel
theorem d_Sc_thingInOrder_21 : decode c_Sc_thingInOrder 21 = .ok (.getfield 35, 3) := by decide +kernel
theorem d_Sc_thingInOrder_24 : decode c_Sc_thingInOrder 24 = .ok (.iload_n 1, 1) := by decide +kernel
theorem d_Sc_thingInOrder_25 : decode c_Sc_thingInOrder 25 = .ok (.aaload, 1) := by decide +kernel
theorem d_Sc_thingInOrder_26 : decode c_Sc_thingInOrder 26 = .ok (.goto 4, 3) := by decide +kernel
theorem d_Sc_thingInOrder_29 : decode c_Sc_thingInOrder 29 = .ok (.aconst_null, 1) := by decide +kernel
theorem d_Sc_thingInOrder_30 : decode c_Sc_thingInOrder 30 = .ok (.areturn, 1) := by decide +kernel
abbrev c_Sc_hasLowerNamesake : ByteArray := prog_9_method_16_code
abbrev r_Sc_hasLowerNamesake : Option FieldType := (some FieldType.boolean)
def y_Sc_hasLowerNamesake : MethodName := ⟨"PinKindChecks$Schematic", "hasLowerNamesake", "(LPinKindChecks$Net;)Z"⟩
theorem d_Sc_hasLowerNamesake_0 : decode c_Sc_hasLowerNamesake 0 = .ok (.iconst 0, 1) := by decide +kernel
theorem d_Sc_hasLowerNamesake_1 : decode c_Sc_hasLowerNamesake 1 = .ok (.istore_n 2, 1) := by decide +kernel
theorem d_Sc_hasLowerNamesake_2 : decode c_Sc_hasLowerNamesake 2 = .ok (.iload_n 2, 1) := by decide +kernel
theorem d_Sc_hasLowerNamesake_3 : decode c_Sc_hasLowerNamesake 3 = .ok (.aload_n 1, 1) := by decide +kernel
theorem d_Sc_hasLowerNamesake_4 : decode c_Sc_hasLowerNamesake 4 = .ok (.invokevirtual 80, 3) := by decide +kernel
theorem d_Sc_hasLowerNamesake_7 : decode c_Sc_hasLowerNamesake 7 = .ok (.if_icmp .ge 32, 3) := by decide +kernel
theorem d_Sc_hasLowerNamesake_10 : decode c_Sc_hasLowerNamesake 10 = .ok (.aload_n 0, 1) := by decide +kernel
theorem d_Sc_hasLowerNamesake_11 : decode c_Sc_hasLowerNamesake 11 = .ok (.iload_n 2, 1) := by decide +kernel
theorem d_Sc_hasLowerNamesake_12 : decode c_Sc_hasLowerNamesake 12 = .ok (.invokevirtual 100, 3) := by decide +kernel
theorem d_Sc_hasLowerNamesake_15 : decode c_Sc_hasLowerNamesake 15 = .ok (.astore_n 3, 1) := by decide +kernel
theorem d_Sc_hasLowerNamesake_16 : decode c_Sc_hasLowerNamesake 16 = .ok (.aload_n 3, 1) := by decide +kernel
theorem d_Sc_hasLowerNamesake_17 : decode c_Sc_hasLowerNamesake 17 = .ok (.ifnull 16, 3) := by decide +kernel
theorem d_Sc_hasLowerNamesake_20 : decode c_Sc_hasLowerNamesake 20 = .ok (.aload_n 3, 1) := by decide +kernel
theorem d_Sc_hasLowerNamesake_21 : decode c_Sc_hasLowerNamesake 21 = .ok (.invokevirtual 115, 3) := by decide +kernel
theorem d_Sc_hasLowerNamesake_24 : decode c_Sc_hasLowerNamesake 24 = .ok (.aload_n 1, 1) := by decide +kernel
theorem d_Sc_hasLowerNamesake_25 : decode c_Sc_hasLowerNamesake 25 = .ok (.invokevirtual 115, 3) := by decide +kernel
theorem d_Sc_hasLowerNamesake_28 : decode c_Sc_hasLowerNamesake 28 = .ok (.if_icmp .ne 5, 3) := by decide +kernel
theorem d_Sc_hasLowerNamesake_31 : decode c_Sc_hasLowerNamesake 31 = .ok (.iconst 1, 1) := by decide +kernel
theorem d_Sc_hasLowerNamesake_32 : decode c_Sc_hasLowerNamesake 32 = .ok (.ireturn, 1) := by decide +kernel
theorem d_Sc_hasLowerNamesake_33 : decode c_Sc_hasLowerNamesake 33 = .ok (.iinc 2 1, 3) := by decide +kernel
theorem d_Sc_hasLowerNamesake_36 : decode c_Sc_hasLowerNamesake 36 = .ok (.goto (-34), 3) := by decide +kernel
theorem d_Sc_hasLowerNamesake_39 : decode c_Sc_hasLowerNamesake 39 = .ok (.iconst 0, 1) := by decide +kernel
theorem d_Sc_hasLowerNamesake_40 : decode c_Sc_hasLowerNamesake 40 = .ok (.ireturn, 1) := by decide +kernel
abbrev c_Sc_netAt : ByteArray := prog_9_method_10_code
abbrev r_Sc_netAt : Option FieldType := (some (FieldType.object "PinKindChecks$Net"))
def y_Sc_netAt : MethodName := ⟨"PinKindChecks$Schematic", "netAt", "(I)LPinKindChecks$Net;"⟩
theorem d_Sc_netAt_0 : decode c_Sc_netAt 0 = .ok (.iload_n 1, 1) := by decide +kernel
theorem d_Sc_netAt_1 : decode c_Sc_netAt 1 = .ok (.aload_n 0, 1) := by decide +kernel
theorem d_Sc_netAt_2 : decode c_Sc_netAt 2 = .ok (.getfield 43, 3) := by decide +kernel
theorem d_Sc_netAt_5 : decode c_Sc_netAt 5 = .ok (.invokestatic 58, 3) := by decide +kernel
theorem d_Sc_netAt_8 : decode c_Sc_netAt 8 = .ok (.ifCond .eq 21, 3) := by decide +kernel
theorem d_Sc_netAt_11 : decode c_Sc_netAt 11 = .ok (.iload_n 1, 1) := by decide +kernel
theorem d_Sc_netAt_12 : decode c_Sc_netAt 12 = .ok (.aload_n 0, 1) := by decide +kernel
theorem d_Sc_netAt_13 : decode c_Sc_netAt 13 = .ok (.getfield 23, 3) := by decide +kernel
theorem d_Sc_netAt_16 : decode c_Sc_netAt 16 = .ok (.arraylength, 1) := by decide +kernel
theorem d_Sc_netAt_17 : decode c_Sc_netAt 17 = .ok (.if_icmp .ge 12, 3) := by decide +kernel
theorem d_Sc_netAt_20 : decode c_Sc_netAt 20 = .ok (.aload_n 0, 1) := by decide +kernel
theorem d_Sc_netAt_21 : decode c_Sc_netAt 21 = .ok (.getfield 23, 3) := by decide +kernel
theorem d_Sc_netAt_24 : decode c_Sc_netAt 24 = .ok (.iload_n 1, 1) := by decide +kernel
theorem d_Sc_netAt_25 : decode c_Sc_netAt 25 = .ok (.aaload, 1) := by decide +kernel
theorem d_Sc_netAt_26 : decode c_Sc_netAt 26 = .ok (.goto 4, 3) := by decide +kernel
theorem d_Sc_netAt_29 : decode c_Sc_netAt 29 = .ok (.aconst_null, 1) := by decide +kernel
theorem d_Sc_netAt_30 : decode c_Sc_netAt 30 = .ok (.areturn, 1) := by decide +kernel
abbrev c_Sc_worstVerdictBelow : ByteArray := prog_9_method_17_code
abbrev r_Sc_worstVerdictBelow : Option FieldType := (some FieldType.int)
def y_Sc_worstVerdictBelow : MethodName := ⟨"PinKindChecks$Schematic", "worstVerdictBelow", "(LPinKindChecks$Pin;)I"⟩
theorem d_Sc_worstVerdictBelow_0 : decode c_Sc_worstVerdictBelow 0 = .ok (.aload_n 1, 1) := by decide +kernel
theorem d_Sc_worstVerdictBelow_1 : decode c_Sc_worstVerdictBelow 1 = .ok (.invokevirtual 118, 3) := by decide +kernel
theorem d_Sc_worstVerdictBelow_4 : decode c_Sc_worstVerdictBelow 4 = .ok (.astore_n 2, 1) := by decide +kernel
theorem d_Sc_worstVerdictBelow_5 : decode c_Sc_worstVerdictBelow 5 = .ok (.aload_n 2, 1) := by decide +kernel
theorem d_Sc_worstVerdictBelow_6 : decode c_Sc_worstVerdictBelow 6 = .ok (.ifnonnull 5, 3) := by decide +kernel
theorem d_Sc_worstVerdictBelow_9 : decode c_Sc_worstVerdictBelow 9 = .ok (.iconst 0, 1) := by decide +kernel
theorem d_Sc_worstVerdictBelow_10 : decode c_Sc_worstVerdictBelow 10 = .ok (.ireturn, 1) := by decide +kernel
theorem d_Sc_worstVerdictBelow_11 : decode c_Sc_worstVerdictBelow 11 = .ok (.iconst 0, 1) := by decide +kernel
theorem d_Sc_worstVerdictBelow_12 : decode c_Sc_worstVerdictBelow 12 = .ok (.istore_n 3, 1) := by decide +kernel
theorem d_Sc_worstVerdictBelow_13 : decode c_Sc_worstVerdictBelow 13 = .ok (.iconst 0, 1) := by decide +kernel
theorem d_Sc_worstVerdictBelow_14 : decode c_Sc_worstVerdictBelow 14 = .ok (.istore 4, 2) := by decide +kernel
theorem d_Sc_worstVerdictBelow_16 : decode c_Sc_worstVerdictBelow 16 = .ok (.iload 4, 2) := by decide +kernel
theorem d_Sc_worstVerdictBelow_18 : decode c_Sc_worstVerdictBelow 18 = .ok (.aload_n 1, 1) := by decide +kernel
theorem d_Sc_worstVerdictBelow_19 : decode c_Sc_worstVerdictBelow 19 = .ok (.invokevirtual 91, 3) := by decide +kernel
theorem d_Sc_worstVerdictBelow_22 : decode c_Sc_worstVerdictBelow 22 = .ok (.if_icmp .ge 49, 3) := by decide +kernel
theorem d_Sc_worstVerdictBelow_25 : decode c_Sc_worstVerdictBelow 25 = .ok (.aload_n 0, 1) := by decide +kernel
theorem d_Sc_worstVerdictBelow_26 : decode c_Sc_worstVerdictBelow 26 = .ok (.iload 4, 2) := by decide +kernel
theorem d_Sc_worstVerdictBelow_28 : decode c_Sc_worstVerdictBelow 28 = .ok (.invokevirtual 104, 3) := by decide +kernel
theorem d_Sc_worstVerdictBelow_31 : decode c_Sc_worstVerdictBelow 31 = .ok (.astore 5, 2) := by decide +kernel
theorem d_Sc_worstVerdictBelow_33 : decode c_Sc_worstVerdictBelow 33 = .ok (.aload 5, 2) := by decide +kernel
theorem d_Sc_worstVerdictBelow_35 : decode c_Sc_worstVerdictBelow 35 = .ok (.ifnull 30, 3) := by decide +kernel
theorem d_Sc_worstVerdictBelow_38 : decode c_Sc_worstVerdictBelow 38 = .ok (.aload 5, 2) := by decide +kernel
theorem d_Sc_worstVerdictBelow_40 : decode c_Sc_worstVerdictBelow 40 = .ok (.invokevirtual 118, 3) := by decide +kernel
theorem d_Sc_worstVerdictBelow_43 : decode c_Sc_worstVerdictBelow 43 = .ok (.aload_n 2, 1) := by decide +kernel
theorem d_Sc_worstVerdictBelow_44 : decode c_Sc_worstVerdictBelow 44 = .ok (.if_acmp .ne 21, 3) := by decide +kernel
theorem d_Sc_worstVerdictBelow_47 : decode c_Sc_worstVerdictBelow 47 = .ok (.iload_n 3, 1) := by decide +kernel
theorem d_Sc_worstVerdictBelow_48 : decode c_Sc_worstVerdictBelow 48 = .ok (.aload_n 0, 1) := by decide +kernel
theorem d_Sc_worstVerdictBelow_49 : decode c_Sc_worstVerdictBelow 49 = .ok (.aload_n 1, 1) := by decide +kernel
theorem d_Sc_worstVerdictBelow_50 : decode c_Sc_worstVerdictBelow 50 = .ok (.invokevirtual 122, 3) := by decide +kernel
theorem d_Sc_worstVerdictBelow_53 : decode c_Sc_worstVerdictBelow 53 = .ok (.aload 5, 2) := by decide +kernel
theorem d_Sc_worstVerdictBelow_55 : decode c_Sc_worstVerdictBelow 55 = .ok (.invokevirtual 122, 3) := by decide +kernel
theorem d_Sc_worstVerdictBelow_58 : decode c_Sc_worstVerdictBelow 58 = .ok (.invokevirtual 62, 3) := by decide +kernel
theorem d_Sc_worstVerdictBelow_61 : decode c_Sc_worstVerdictBelow 61 = .ok (.invokestatic 125, 3) := by decide +kernel
theorem d_Sc_worstVerdictBelow_64 : decode c_Sc_worstVerdictBelow 64 = .ok (.istore_n 3, 1) := by decide +kernel
theorem d_Sc_worstVerdictBelow_65 : decode c_Sc_worstVerdictBelow 65 = .ok (.iinc 4 1, 3) := by decide +kernel
theorem d_Sc_worstVerdictBelow_68 : decode c_Sc_worstVerdictBelow 68 = .ok (.goto (-52), 3) := by decide +kernel
theorem d_Sc_worstVerdictBelow_71 : decode c_Sc_worstVerdictBelow 71 = .ok (.iload_n 3, 1) := by decide +kernel
theorem d_Sc_worstVerdictBelow_72 : decode c_Sc_worstVerdictBelow 72 = .ok (.ireturn, 1) := by decide +kernel
abbrev c_Sc_pinAt : ByteArray := prog_9_method_11_code
abbrev r_Sc_pinAt : Option FieldType := (some (FieldType.object "PinKindChecks$Pin"))
def y_Sc_pinAt : MethodName := ⟨"PinKindChecks$Schematic", "pinAt", "(I)LPinKindChecks$Pin;"⟩
theorem d_Sc_pinAt_0 : decode c_Sc_pinAt 0 = .ok (.iload_n 1, 1) := by decide +kernel
theorem d_Sc_pinAt_1 : decode c_Sc_pinAt 1 = .ok (.aload_n 0, 1) := by decide +kernel
theorem d_Sc_pinAt_2 : decode c_Sc_pinAt 2 = .ok (.getfield 46, 3) := by decide +kernel
theorem d_Sc_pinAt_5 : decode c_Sc_pinAt 5 = .ok (.invokestatic 58, 3) := by decide +kernel
theorem d_Sc_pinAt_8 : decode c_Sc_pinAt 8 = .ok (.ifCond .eq 21, 3) := by decide +kernel
theorem d_Sc_pinAt_11 : decode c_Sc_pinAt 11 = .ok (.iload_n 1, 1) := by decide +kernel
theorem d_Sc_pinAt_12 : decode c_Sc_pinAt 12 = .ok (.aload_n 0, 1) := by decide +kernel
theorem d_Sc_pinAt_13 : decode c_Sc_pinAt 13 = .ok (.getfield 29, 3) := by decide +kernel
theorem d_Sc_pinAt_16 : decode c_Sc_pinAt 16 = .ok (.arraylength, 1) := by decide +kernel
theorem d_Sc_pinAt_17 : decode c_Sc_pinAt 17 = .ok (.if_icmp .ge 12, 3) := by decide +kernel
theorem d_Sc_pinAt_20 : decode c_Sc_pinAt 20 = .ok (.aload_n 0, 1) := by decide +kernel
theorem d_Sc_pinAt_21 : decode c_Sc_pinAt 21 = .ok (.getfield 29, 3) := by decide +kernel
theorem d_Sc_pinAt_24 : decode c_Sc_pinAt 24 = .ok (.iload_n 1, 1) := by decide +kernel
theorem d_Sc_pinAt_25 : decode c_Sc_pinAt 25 = .ok (.aaload, 1) := by decide +kernel
theorem d_Sc_pinAt_26 : decode c_Sc_pinAt 26 = .ok (.goto 4, 3) := by decide +kernel
theorem d_Sc_pinAt_29 : decode c_Sc_pinAt 29 = .ok (.aconst_null, 1) := by decide +kernel
theorem d_Sc_pinAt_30 : decode c_Sc_pinAt 30 = .ok (.areturn, 1) := by decide +kernel
abbrev c_Sc_verdictOf : ByteArray := prog_9_method_4_code
abbrev r_Sc_verdictOf : Option FieldType := (some FieldType.int)
def y_Sc_verdictOf : MethodName := ⟨"PinKindChecks$Schematic", "verdictOf", "(II)I"⟩
theorem d_Sc_verdictOf_0 : decode c_Sc_verdictOf 0 = .ok (.iload_n 1, 1) := by decide +kernel
theorem d_Sc_verdictOf_1 : decode c_Sc_verdictOf 1 = .ok (.bipush 10, 2) := by decide +kernel
theorem d_Sc_verdictOf_3 : decode c_Sc_verdictOf 3 = .ok (.imul, 1) := by decide +kernel
theorem d_Sc_verdictOf_4 : decode c_Sc_verdictOf 4 = .ok (.iload_n 2, 1) := by decide +kernel
theorem d_Sc_verdictOf_5 : decode c_Sc_verdictOf 5 = .ok (.iadd, 1) := by decide +kernel
theorem d_Sc_verdictOf_6 : decode c_Sc_verdictOf 6 = .ok (.istore_n 3, 1) := by decide +kernel
theorem d_Sc_verdictOf_7 : decode c_Sc_verdictOf 7 = .ok (.iload_n 3, 1) := by decide +kernel
theorem d_Sc_verdictOf_8 : decode c_Sc_verdictOf 8 = .ok (.aload_n 0, 1) := by decide +kernel
theorem d_Sc_verdictOf_9 : decode c_Sc_verdictOf 9 = .ok (.getfield 9, 3) := by decide +kernel
theorem d_Sc_verdictOf_12 : decode c_Sc_verdictOf 12 = .ok (.arraylength, 1) := by decide +kernel
theorem d_Sc_verdictOf_13 : decode c_Sc_verdictOf 13 = .ok (.invokestatic 58, 3) := by decide +kernel
theorem d_Sc_verdictOf_16 : decode c_Sc_verdictOf 16 = .ok (.ifCond .eq 12, 3) := by decide +kernel
theorem d_Sc_verdictOf_19 : decode c_Sc_verdictOf 19 = .ok (.aload_n 0, 1) := by decide +kernel
theorem d_Sc_verdictOf_20 : decode c_Sc_verdictOf 20 = .ok (.getfield 9, 3) := by decide +kernel
theorem d_Sc_verdictOf_23 : decode c_Sc_verdictOf 23 = .ok (.iload_n 3, 1) := by decide +kernel
theorem d_Sc_verdictOf_24 : decode c_Sc_verdictOf 24 = .ok (.iaload, 1) := by decide +kernel
theorem d_Sc_verdictOf_25 : decode c_Sc_verdictOf 25 = .ok (.goto 4, 3) := by decide +kernel
theorem d_Sc_verdictOf_28 : decode c_Sc_verdictOf 28 = .ok (.iconst 0, 1) := by decide +kernel
theorem d_Sc_verdictOf_29 : decode c_Sc_verdictOf 29 = .ok (.ireturn, 1) := by decide +kernel
abbrev c_Sc_wipe : ByteArray := prog_9_method_2_code
abbrev r_Sc_wipe : Option FieldType := none
def y_Sc_wipe : MethodName := ⟨"PinKindChecks$Schematic", "wipe", "()V"⟩
theorem d_Sc_wipe_0 : decode c_Sc_wipe 0 = .ok (.aload_n 0, 1) := by decide +kernel
theorem d_Sc_wipe_1 : decode c_Sc_wipe 1 = .ok (.getfield 9, 3) := by decide +kernel
theorem d_Sc_wipe_4 : decode c_Sc_wipe 4 = .ok (.iconst 0, 1) := by decide +kernel
theorem d_Sc_wipe_5 : decode c_Sc_wipe 5 = .ok (.invokestatic 52, 3) := by decide +kernel
theorem d_Sc_wipe_8 : decode c_Sc_wipe 8 = .ok (.aload_n 0, 1) := by decide +kernel
theorem d_Sc_wipe_9 : decode c_Sc_wipe 9 = .ok (.iconst 0, 1) := by decide +kernel
theorem d_Sc_wipe_10 : decode c_Sc_wipe 10 = .ok (.putfield 39, 3) := by decide +kernel
theorem d_Sc_wipe_13 : decode c_Sc_wipe 13 = .ok (.aload_n 0, 1) := by decide +kernel
theorem d_Sc_wipe_14 : decode c_Sc_wipe 14 = .ok (.iconst 0, 1) := by decide +kernel
theorem d_Sc_wipe_15 : decode c_Sc_wipe 15 = .ok (.putfield 43, 3) := by decide +kernel
theorem d_Sc_wipe_18 : decode c_Sc_wipe 18 = .ok (.aload_n 0, 1) := by decide +kernel
theorem d_Sc_wipe_19 : decode c_Sc_wipe 19 = .ok (.iconst 0, 1) := by decide +kernel
theorem d_Sc_wipe_20 : decode c_Sc_wipe 20 = .ok (.putfield 46, 3) := by decide +kernel
theorem d_Sc_wipe_23 : decode c_Sc_wipe 23 = .ok (.aload_n 0, 1) := by decide +kernel
theorem d_Sc_wipe_24 : decode c_Sc_wipe 24 = .ok (.iconst 0, 1) := by decide +kernel
theorem d_Sc_wipe_25 : decode c_Sc_wipe 25 = .ok (.putfield 49, 3) := by decide +kernel
theorem d_Sc_wipe_28 : decode c_Sc_wipe 28 = .ok (.return_, 1) := by decide +kernel
abbrev c_Sc_setVerdict : ByteArray := prog_9_method_3_code
abbrev r_Sc_setVerdict : Option FieldType := (some FieldType.boolean)
def y_Sc_setVerdict : MethodName := ⟨"PinKindChecks$Schematic", "setVerdict", "(III)Z"⟩
theorem d_Sc_setVerdict_0 : decode c_Sc_setVerdict 0 = .ok (.iload_n 1, 1) := by decide +kernel
theorem d_Sc_setVerdict_1 : decode c_Sc_setVerdict 1 = .ok (.bipush 10, 2) := by decide +kernel
theorem d_Sc_setVerdict_3 : decode c_Sc_setVerdict 3 = .ok (.invokestatic 58, 3) := by decide +kernel
theorem d_Sc_setVerdict_6 : decode c_Sc_setVerdict 6 = .ok (.ifCond .eq 12, 3) := by decide +kernel
theorem d_Sc_setVerdict_9 : decode c_Sc_setVerdict 9 = .ok (.iload_n 2, 1) := by decide +kernel
theorem d_Sc_setVerdict_10 : decode c_Sc_setVerdict 10 = .ok (.bipush 10, 2) := by decide +kernel
theorem d_Sc_setVerdict_12 : decode c_Sc_setVerdict 12 = .ok (.invokestatic 58, 3) := by decide +kernel
theorem d_Sc_setVerdict_15 : decode c_Sc_setVerdict 15 = .ok (.ifCond .ne 5, 3) := by decide +kernel
theorem d_Sc_setVerdict_18 : decode c_Sc_setVerdict 18 = .ok (.iconst 0, 1) := by decide +kernel
theorem d_Sc_setVerdict_19 : decode c_Sc_setVerdict 19 = .ok (.ireturn, 1) := by decide +kernel
theorem d_Sc_setVerdict_20 : decode c_Sc_setVerdict 20 = .ok (.aload_n 0, 1) := by decide +kernel
theorem d_Sc_setVerdict_21 : decode c_Sc_setVerdict 21 = .ok (.iload_n 1, 1) := by decide +kernel
theorem d_Sc_setVerdict_22 : decode c_Sc_setVerdict 22 = .ok (.iload_n 2, 1) := by decide +kernel
theorem d_Sc_setVerdict_23 : decode c_Sc_setVerdict 23 = .ok (.invokevirtual 62, 3) := by decide +kernel
theorem d_Sc_setVerdict_26 : decode c_Sc_setVerdict 26 = .ok (.iload_n 3, 1) := by decide +kernel
theorem d_Sc_setVerdict_27 : decode c_Sc_setVerdict 27 = .ok (.if_icmp .eq 7, 3) := by decide +kernel
theorem d_Sc_setVerdict_30 : decode c_Sc_setVerdict 30 = .ok (.iconst 1, 1) := by decide +kernel
theorem d_Sc_setVerdict_31 : decode c_Sc_setVerdict 31 = .ok (.goto 4, 3) := by decide +kernel
theorem d_Sc_setVerdict_34 : decode c_Sc_setVerdict 34 = .ok (.iconst 0, 1) := by decide +kernel
theorem d_Sc_setVerdict_35 : decode c_Sc_setVerdict 35 = .ok (.istore 4, 2) := by decide +kernel
theorem d_Sc_setVerdict_37 : decode c_Sc_setVerdict 37 = .ok (.aload_n 0, 1) := by decide +kernel
theorem d_Sc_setVerdict_38 : decode c_Sc_setVerdict 38 = .ok (.getfield 9, 3) := by decide +kernel
theorem d_Sc_setVerdict_41 : decode c_Sc_setVerdict 41 = .ok (.iload_n 1, 1) := by decide +kernel
theorem d_Sc_setVerdict_42 : decode c_Sc_setVerdict 42 = .ok (.bipush 10, 2) := by decide +kernel
theorem d_Sc_setVerdict_44 : decode c_Sc_setVerdict 44 = .ok (.imul, 1) := by decide +kernel
theorem d_Sc_setVerdict_45 : decode c_Sc_setVerdict 45 = .ok (.iload_n 2, 1) := by decide +kernel
theorem d_Sc_setVerdict_46 : decode c_Sc_setVerdict 46 = .ok (.iadd, 1) := by decide +kernel
theorem d_Sc_setVerdict_47 : decode c_Sc_setVerdict 47 = .ok (.iload_n 3, 1) := by decide +kernel
theorem d_Sc_setVerdict_48 : decode c_Sc_setVerdict 48 = .ok (.iastore, 1) := by decide +kernel
theorem d_Sc_setVerdict_49 : decode c_Sc_setVerdict 49 = .ok (.aload_n 0, 1) := by decide +kernel
theorem d_Sc_setVerdict_50 : decode c_Sc_setVerdict 50 = .ok (.getfield 9, 3) := by decide +kernel
theorem d_Sc_setVerdict_53 : decode c_Sc_setVerdict 53 = .ok (.iload_n 2, 1) := by decide +kernel
theorem d_Sc_setVerdict_54 : decode c_Sc_setVerdict 54 = .ok (.bipush 10, 2) := by decide +kernel
theorem d_Sc_setVerdict_56 : decode c_Sc_setVerdict 56 = .ok (.imul, 1) := by decide +kernel
theorem d_Sc_setVerdict_57 : decode c_Sc_setVerdict 57 = .ok (.iload_n 1, 1) := by decide +kernel
theorem d_Sc_setVerdict_58 : decode c_Sc_setVerdict 58 = .ok (.iadd, 1) := by decide +kernel
theorem d_Sc_setVerdict_59 : decode c_Sc_setVerdict 59 = .ok (.iload_n 3, 1) := by decide +kernel
theorem d_Sc_setVerdict_60 : decode c_Sc_setVerdict 60 = .ok (.iastore, 1) := by decide +kernel
theorem d_Sc_setVerdict_61 : decode c_Sc_setVerdict 61 = .ok (.iload 4, 2) := by decide +kernel
theorem d_Sc_setVerdict_63 : decode c_Sc_setVerdict 63 = .ok (.ireturn, 1) := by decide +kernel
abbrev c_Sc_addPart : ByteArray := prog_9_method_5_code
abbrev r_Sc_addPart : Option FieldType := (some FieldType.int)
def y_Sc_addPart : MethodName := ⟨"PinKindChecks$Schematic", "addPart", "(I)I"⟩
theorem d_Sc_addPart_0 : decode c_Sc_addPart 0 = .ok (.aload_n 0, 1) := by decide +kernel
theorem d_Sc_addPart_1 : decode c_Sc_addPart 1 = .ok (.getfield 39, 3) := by decide +kernel
theorem d_Sc_addPart_4 : decode c_Sc_addPart 4 = .ok (.aload_n 0, 1) := by decide +kernel
theorem d_Sc_addPart_5 : decode c_Sc_addPart 5 = .ok (.getfield 17, 3) := by decide +kernel
theorem d_Sc_addPart_8 : decode c_Sc_addPart 8 = .ok (.arraylength, 1) := by decide +kernel
theorem d_Sc_addPart_9 : decode c_Sc_addPart 9 = .ok (.if_icmp .lt 5, 3) := by decide +kernel
theorem d_Sc_addPart_12 : decode c_Sc_addPart 12 = .ok (.iconst (-1), 1) := by decide +kernel
theorem d_Sc_addPart_13 : decode c_Sc_addPart 13 = .ok (.ireturn, 1) := by decide +kernel
theorem d_Sc_addPart_14 : decode c_Sc_addPart 14 = .ok (.new 15, 3) := by decide +kernel
theorem d_Sc_addPart_17 : decode c_Sc_addPart 17 = .ok (.dup, 1) := by decide +kernel
theorem d_Sc_addPart_18 : decode c_Sc_addPart 18 = .ok (.iload_n 1, 1) := by decide +kernel
theorem d_Sc_addPart_19 : decode c_Sc_addPart 19 = .ok (.aload_n 0, 1) := by decide +kernel
theorem d_Sc_addPart_20 : decode c_Sc_addPart 20 = .ok (.getfield 39, 3) := by decide +kernel
theorem d_Sc_addPart_23 : decode c_Sc_addPart 23 = .ok (.invokespecial 66, 3) := by decide +kernel
theorem d_Sc_addPart_26 : decode c_Sc_addPart 26 = .ok (.astore_n 2, 1) := by decide +kernel
theorem d_Sc_addPart_27 : decode c_Sc_addPart 27 = .ok (.aload_n 0, 1) := by decide +kernel
theorem d_Sc_addPart_28 : decode c_Sc_addPart 28 = .ok (.aload_n 2, 1) := by decide +kernel
theorem d_Sc_addPart_29 : decode c_Sc_addPart 29 = .ok (.invokevirtual 69, 3) := by decide +kernel
theorem d_Sc_addPart_32 : decode c_Sc_addPart 32 = .ok (.aload_n 0, 1) := by decide +kernel
theorem d_Sc_addPart_33 : decode c_Sc_addPart 33 = .ok (.getfield 17, 3) := by decide +kernel
theorem d_Sc_addPart_36 : decode c_Sc_addPart 36 = .ok (.aload_n 0, 1) := by decide +kernel
theorem d_Sc_addPart_37 : decode c_Sc_addPart 37 = .ok (.getfield 39, 3) := by decide +kernel
theorem d_Sc_addPart_40 : decode c_Sc_addPart 40 = .ok (.aload_n 2, 1) := by decide +kernel
theorem d_Sc_addPart_41 : decode c_Sc_addPart 41 = .ok (.aastore, 1) := by decide +kernel
theorem d_Sc_addPart_42 : decode c_Sc_addPart 42 = .ok (.aload_n 0, 1) := by decide +kernel
theorem d_Sc_addPart_43 : decode c_Sc_addPart 43 = .ok (.dup, 1) := by decide +kernel
theorem d_Sc_addPart_44 : decode c_Sc_addPart 44 = .ok (.getfield 39, 3) := by decide +kernel
theorem d_Sc_addPart_47 : decode c_Sc_addPart 47 = .ok (.iconst 1, 1) := by decide +kernel
theorem d_Sc_addPart_48 : decode c_Sc_addPart 48 = .ok (.iadd, 1) := by decide +kernel
theorem d_Sc_addPart_49 : decode c_Sc_addPart 49 = .ok (.putfield 39, 3) := by decide +kernel
theorem d_Sc_addPart_52 : decode c_Sc_addPart 52 = .ok (.aload_n 2, 1) := by decide +kernel
theorem d_Sc_addPart_53 : decode c_Sc_addPart 53 = .ok (.invokevirtual 73, 3) := by decide +kernel
theorem d_Sc_addPart_56 : decode c_Sc_addPart 56 = .ok (.ireturn, 1) := by decide +kernel
abbrev c_Sc_putInOrder : ByteArray := prog_9_method_15_code
abbrev r_Sc_putInOrder : Option FieldType := none
def y_Sc_putInOrder : MethodName := ⟨"PinKindChecks$Schematic", "putInOrder", "(LPinKindChecks$Thing;)V"⟩
theorem d_Sc_putInOrder_0 : decode c_Sc_putInOrder 0 = .ok (.aload_n 0, 1) := by decide +kernel
theorem d_Sc_putInOrder_1 : decode c_Sc_putInOrder 1 = .ok (.invokevirtual 108, 3) := by decide +kernel
theorem d_Sc_putInOrder_4 : decode c_Sc_putInOrder 4 = .ok (.istore_n 2, 1) := by decide +kernel
theorem d_Sc_putInOrder_5 : decode c_Sc_putInOrder 5 = .ok (.iload_n 2, 1) := by decide +kernel
theorem d_Sc_putInOrder_6 : decode c_Sc_putInOrder 6 = .ok (.aload_n 0, 1) := by decide +kernel
theorem d_Sc_putInOrder_7 : decode c_Sc_putInOrder 7 = .ok (.getfield 35, 3) := by decide +kernel
theorem d_Sc_putInOrder_10 : decode c_Sc_putInOrder 10 = .ok (.arraylength, 1) := by decide +kernel
theorem d_Sc_putInOrder_11 : decode c_Sc_putInOrder 11 = .ok (.if_icmp .lt 4, 3) := by decide +kernel
theorem d_Sc_putInOrder_14 : decode c_Sc_putInOrder 14 = .ok (.return_, 1) := by decide +kernel
theorem d_Sc_putInOrder_15 : decode c_Sc_putInOrder 15 = .ok (.iload_n 2, 1) := by decide +kernel
theorem d_Sc_putInOrder_16 : decode c_Sc_putInOrder 16 = .ok (.ifCond .le 38, 3) := by decide +kernel
theorem d_Sc_putInOrder_19 : decode c_Sc_putInOrder 19 = .ok (.aload_n 1, 1) := by decide +kernel
theorem d_Sc_putInOrder_20 : decode c_Sc_putInOrder 20 = .ok (.aload_n 0, 1) := by decide +kernel
theorem d_Sc_putInOrder_21 : decode c_Sc_putInOrder 21 = .ok (.getfield 35, 3) := by decide +kernel
theorem d_Sc_putInOrder_24 : decode c_Sc_putInOrder 24 = .ok (.iload_n 2, 1) := by decide +kernel
theorem d_Sc_putInOrder_25 : decode c_Sc_putInOrder 25 = .ok (.iconst 1, 1) := by decide +kernel
theorem d_Sc_putInOrder_26 : decode c_Sc_putInOrder 26 = .ok (.isub, 1) := by decide +kernel
theorem d_Sc_putInOrder_27 : decode c_Sc_putInOrder 27 = .ok (.aaload, 1) := by decide +kernel
theorem d_Sc_putInOrder_28 : decode c_Sc_putInOrder 28 = .ok (.invokevirtual 111, 3) := by decide +kernel
theorem d_Sc_putInOrder_31 : decode c_Sc_putInOrder 31 = .ok (.ifCond .eq 23, 3) := by decide +kernel
theorem d_Sc_putInOrder_34 : decode c_Sc_putInOrder 34 = .ok (.aload_n 0, 1) := by decide +kernel
theorem d_Sc_putInOrder_35 : decode c_Sc_putInOrder 35 = .ok (.getfield 35, 3) := by decide +kernel
theorem d_Sc_putInOrder_38 : decode c_Sc_putInOrder 38 = .ok (.iload_n 2, 1) := by decide +kernel
theorem d_Sc_putInOrder_39 : decode c_Sc_putInOrder 39 = .ok (.aload_n 0, 1) := by decide +kernel
theorem d_Sc_putInOrder_40 : decode c_Sc_putInOrder 40 = .ok (.getfield 35, 3) := by decide +kernel
theorem d_Sc_putInOrder_43 : decode c_Sc_putInOrder 43 = .ok (.iload_n 2, 1) := by decide +kernel
theorem d_Sc_putInOrder_44 : decode c_Sc_putInOrder 44 = .ok (.iconst 1, 1) := by decide +kernel
theorem d_Sc_putInOrder_45 : decode c_Sc_putInOrder 45 = .ok (.isub, 1) := by decide +kernel
theorem d_Sc_putInOrder_46 : decode c_Sc_putInOrder 46 = .ok (.aaload, 1) := by decide +kernel
theorem d_Sc_putInOrder_47 : decode c_Sc_putInOrder 47 = .ok (.aastore, 1) := by decide +kernel
theorem d_Sc_putInOrder_48 : decode c_Sc_putInOrder 48 = .ok (.iinc 2 (-1), 3) := by decide +kernel
theorem d_Sc_putInOrder_51 : decode c_Sc_putInOrder 51 = .ok (.goto (-36), 3) := by decide +kernel
theorem d_Sc_putInOrder_54 : decode c_Sc_putInOrder 54 = .ok (.aload_n 0, 1) := by decide +kernel
theorem d_Sc_putInOrder_55 : decode c_Sc_putInOrder 55 = .ok (.getfield 35, 3) := by decide +kernel
theorem d_Sc_putInOrder_58 : decode c_Sc_putInOrder 58 = .ok (.iload_n 2, 1) := by decide +kernel
theorem d_Sc_putInOrder_59 : decode c_Sc_putInOrder 59 = .ok (.aload_n 1, 1) := by decide +kernel
theorem d_Sc_putInOrder_60 : decode c_Sc_putInOrder 60 = .ok (.aastore, 1) := by decide +kernel
theorem d_Sc_putInOrder_61 : decode c_Sc_putInOrder 61 = .ok (.return_, 1) := by decide +kernel
abbrev c_Sc_addNet : ByteArray := prog_9_method_6_code
abbrev r_Sc_addNet : Option FieldType := (some FieldType.int)
def y_Sc_addNet : MethodName := ⟨"PinKindChecks$Schematic", "addNet", "(II)I"⟩
theorem d_Sc_addNet_0 : decode c_Sc_addNet 0 = .ok (.aload_n 0, 1) := by decide +kernel
theorem d_Sc_addNet_1 : decode c_Sc_addNet 1 = .ok (.getfield 43, 3) := by decide +kernel
theorem d_Sc_addNet_4 : decode c_Sc_addNet 4 = .ok (.aload_n 0, 1) := by decide +kernel
theorem d_Sc_addNet_5 : decode c_Sc_addNet 5 = .ok (.getfield 23, 3) := by decide +kernel
theorem d_Sc_addNet_8 : decode c_Sc_addNet 8 = .ok (.arraylength, 1) := by decide +kernel
theorem d_Sc_addNet_9 : decode c_Sc_addNet 9 = .ok (.if_icmp .lt 5, 3) := by decide +kernel
theorem d_Sc_addNet_12 : decode c_Sc_addNet 12 = .ok (.iconst (-1), 1) := by decide +kernel
theorem d_Sc_addNet_13 : decode c_Sc_addNet 13 = .ok (.ireturn, 1) := by decide +kernel
theorem d_Sc_addNet_14 : decode c_Sc_addNet 14 = .ok (.new 21, 3) := by decide +kernel
theorem d_Sc_addNet_17 : decode c_Sc_addNet 17 = .ok (.dup, 1) := by decide +kernel
theorem d_Sc_addNet_18 : decode c_Sc_addNet 18 = .ok (.iload_n 1, 1) := by decide +kernel
theorem d_Sc_addNet_19 : decode c_Sc_addNet 19 = .ok (.aload_n 0, 1) := by decide +kernel
theorem d_Sc_addNet_20 : decode c_Sc_addNet 20 = .ok (.getfield 43, 3) := by decide +kernel
theorem d_Sc_addNet_23 : decode c_Sc_addNet 23 = .ok (.iload_n 2, 1) := by decide +kernel
theorem d_Sc_addNet_24 : decode c_Sc_addNet 24 = .ok (.invokespecial 77, 3) := by decide +kernel
theorem d_Sc_addNet_27 : decode c_Sc_addNet 27 = .ok (.astore_n 3, 1) := by decide +kernel
theorem d_Sc_addNet_28 : decode c_Sc_addNet 28 = .ok (.aload_n 0, 1) := by decide +kernel
theorem d_Sc_addNet_29 : decode c_Sc_addNet 29 = .ok (.aload_n 3, 1) := by decide +kernel
theorem d_Sc_addNet_30 : decode c_Sc_addNet 30 = .ok (.invokevirtual 69, 3) := by decide +kernel
theorem d_Sc_addNet_33 : decode c_Sc_addNet 33 = .ok (.aload_n 0, 1) := by decide +kernel
theorem d_Sc_addNet_34 : decode c_Sc_addNet 34 = .ok (.getfield 23, 3) := by decide +kernel
theorem d_Sc_addNet_37 : decode c_Sc_addNet 37 = .ok (.aload_n 0, 1) := by decide +kernel
theorem d_Sc_addNet_38 : decode c_Sc_addNet 38 = .ok (.getfield 43, 3) := by decide +kernel
theorem d_Sc_addNet_41 : decode c_Sc_addNet 41 = .ok (.aload_n 3, 1) := by decide +kernel
theorem d_Sc_addNet_42 : decode c_Sc_addNet 42 = .ok (.aastore, 1) := by decide +kernel
theorem d_Sc_addNet_43 : decode c_Sc_addNet 43 = .ok (.aload_n 0, 1) := by decide +kernel
theorem d_Sc_addNet_44 : decode c_Sc_addNet 44 = .ok (.dup, 1) := by decide +kernel
theorem d_Sc_addNet_45 : decode c_Sc_addNet 45 = .ok (.getfield 43, 3) := by decide +kernel
theorem d_Sc_addNet_48 : decode c_Sc_addNet 48 = .ok (.iconst 1, 1) := by decide +kernel
theorem d_Sc_addNet_49 : decode c_Sc_addNet 49 = .ok (.iadd, 1) := by decide +kernel
theorem d_Sc_addNet_50 : decode c_Sc_addNet 50 = .ok (.putfield 43, 3) := by decide +kernel
theorem d_Sc_addNet_53 : decode c_Sc_addNet 53 = .ok (.aload_n 3, 1) := by decide +kernel
theorem d_Sc_addNet_54 : decode c_Sc_addNet 54 = .ok (.invokevirtual 80, 3) := by decide +kernel
theorem d_Sc_addNet_57 : decode c_Sc_addNet 57 = .ok (.ireturn, 1) := by decide +kernel
abbrev c_Sc_partAt : ByteArray := prog_9_method_9_code
abbrev r_Sc_partAt : Option FieldType := (some (FieldType.object "PinKindChecks$Part"))
def y_Sc_partAt : MethodName := ⟨"PinKindChecks$Schematic", "partAt", "(I)LPinKindChecks$Part;"⟩
theorem d_Sc_partAt_0 : decode c_Sc_partAt 0 = .ok (.iload_n 1, 1) := by decide +kernel
theorem d_Sc_partAt_1 : decode c_Sc_partAt 1 = .ok (.aload_n 0, 1) := by decide +kernel
theorem d_Sc_partAt_2 : decode c_Sc_partAt 2 = .ok (.getfield 39, 3) := by decide +kernel
theorem d_Sc_partAt_5 : decode c_Sc_partAt 5 = .ok (.invokestatic 58, 3) := by decide +kernel
theorem d_Sc_partAt_8 : decode c_Sc_partAt 8 = .ok (.ifCond .eq 21, 3) := by decide +kernel
theorem d_Sc_partAt_11 : decode c_Sc_partAt 11 = .ok (.iload_n 1, 1) := by decide +kernel
theorem d_Sc_partAt_12 : decode c_Sc_partAt 12 = .ok (.aload_n 0, 1) := by decide +kernel
theorem d_Sc_partAt_13 : decode c_Sc_partAt 13 = .ok (.getfield 17, 3) := by decide +kernel
theorem d_Sc_partAt_16 : decode c_Sc_partAt 16 = .ok (.arraylength, 1) := by decide +kernel
theorem d_Sc_partAt_17 : decode c_Sc_partAt 17 = .ok (.if_icmp .ge 12, 3) := by decide +kernel
theorem d_Sc_partAt_20 : decode c_Sc_partAt 20 = .ok (.aload_n 0, 1) := by decide +kernel
theorem d_Sc_partAt_21 : decode c_Sc_partAt 21 = .ok (.getfield 17, 3) := by decide +kernel
theorem d_Sc_partAt_24 : decode c_Sc_partAt 24 = .ok (.iload_n 1, 1) := by decide +kernel
theorem d_Sc_partAt_25 : decode c_Sc_partAt 25 = .ok (.aaload, 1) := by decide +kernel
theorem d_Sc_partAt_26 : decode c_Sc_partAt 26 = .ok (.goto 4, 3) := by decide +kernel
theorem d_Sc_partAt_29 : decode c_Sc_partAt 29 = .ok (.aconst_null, 1) := by decide +kernel
theorem d_Sc_partAt_30 : decode c_Sc_partAt 30 = .ok (.areturn, 1) := by decide +kernel
abbrev c_Sc_addPin : ByteArray := prog_9_method_7_code
abbrev r_Sc_addPin : Option FieldType := (some FieldType.int)
def y_Sc_addPin : MethodName := ⟨"PinKindChecks$Schematic", "addPin", "(LPinKindChecks$Part;LPinKindChecks$Net;I)I"⟩
theorem d_Sc_addPin_0 : decode c_Sc_addPin 0 = .ok (.aload_n 1, 1) := by decide +kernel
theorem d_Sc_addPin_1 : decode c_Sc_addPin 1 = .ok (.ifnull 15, 3) := by decide +kernel
theorem d_Sc_addPin_4 : decode c_Sc_addPin 4 = .ok (.aload_n 0, 1) := by decide +kernel
theorem d_Sc_addPin_5 : decode c_Sc_addPin 5 = .ok (.getfield 46, 3) := by decide +kernel
theorem d_Sc_addPin_8 : decode c_Sc_addPin 8 = .ok (.aload_n 0, 1) := by decide +kernel
theorem d_Sc_addPin_9 : decode c_Sc_addPin 9 = .ok (.getfield 29, 3) := by decide +kernel
theorem d_Sc_addPin_12 : decode c_Sc_addPin 12 = .ok (.arraylength, 1) := by decide +kernel
theorem d_Sc_addPin_13 : decode c_Sc_addPin 13 = .ok (.if_icmp .lt 5, 3) := by decide +kernel
theorem d_Sc_addPin_16 : decode c_Sc_addPin 16 = .ok (.iconst (-1), 1) := by decide +kernel
theorem d_Sc_addPin_17 : decode c_Sc_addPin 17 = .ok (.ireturn, 1) := by decide +kernel
theorem d_Sc_addPin_18 : decode c_Sc_addPin 18 = .ok (.new 27, 3) := by decide +kernel
theorem d_Sc_addPin_21 : decode c_Sc_addPin 21 = .ok (.dup, 1) := by decide +kernel
theorem d_Sc_addPin_22 : decode c_Sc_addPin 22 = .ok (.aload_n 1, 1) := by decide +kernel
theorem d_Sc_addPin_23 : decode c_Sc_addPin 23 = .ok (.aload_n 0, 1) := by decide +kernel
theorem d_Sc_addPin_24 : decode c_Sc_addPin 24 = .ok (.getfield 46, 3) := by decide +kernel
theorem d_Sc_addPin_27 : decode c_Sc_addPin 27 = .ok (.iload_n 3, 1) := by decide +kernel
theorem d_Sc_addPin_28 : decode c_Sc_addPin 28 = .ok (.invokespecial 81, 3) := by decide +kernel
theorem d_Sc_addPin_31 : decode c_Sc_addPin 31 = .ok (.astore 4, 2) := by decide +kernel
theorem d_Sc_addPin_33 : decode c_Sc_addPin 33 = .ok (.aload_n 1, 1) := by decide +kernel
theorem d_Sc_addPin_34 : decode c_Sc_addPin 34 = .ok (.iload_n 3, 1) := by decide +kernel
theorem d_Sc_addPin_35 : decode c_Sc_addPin 35 = .ok (.iconst 1, 1) := by decide +kernel
theorem d_Sc_addPin_36 : decode c_Sc_addPin 36 = .ok (.invokevirtual 84, 3) := by decide +kernel
theorem d_Sc_addPin_39 : decode c_Sc_addPin 39 = .ok (.aload 4, 2) := by decide +kernel
theorem d_Sc_addPin_41 : decode c_Sc_addPin 41 = .ok (.aload_n 2, 1) := by decide +kernel
theorem d_Sc_addPin_42 : decode c_Sc_addPin 42 = .ok (.invokevirtual 87, 3) := by decide +kernel
theorem d_Sc_addPin_45 : decode c_Sc_addPin 45 = .ok (.pop, 1) := by decide +kernel
theorem d_Sc_addPin_46 : decode c_Sc_addPin 46 = .ok (.aload_n 0, 1) := by decide +kernel
theorem d_Sc_addPin_47 : decode c_Sc_addPin 47 = .ok (.aload 4, 2) := by decide +kernel
theorem d_Sc_addPin_49 : decode c_Sc_addPin 49 = .ok (.invokevirtual 69, 3) := by decide +kernel
theorem d_Sc_addPin_52 : decode c_Sc_addPin 52 = .ok (.aload_n 0, 1) := by decide +kernel
theorem d_Sc_addPin_53 : decode c_Sc_addPin 53 = .ok (.getfield 29, 3) := by decide +kernel
theorem d_Sc_addPin_56 : decode c_Sc_addPin 56 = .ok (.aload_n 0, 1) := by decide +kernel
theorem d_Sc_addPin_57 : decode c_Sc_addPin 57 = .ok (.getfield 46, 3) := by decide +kernel
theorem d_Sc_addPin_60 : decode c_Sc_addPin 60 = .ok (.aload 4, 2) := by decide +kernel
theorem d_Sc_addPin_62 : decode c_Sc_addPin 62 = .ok (.aastore, 1) := by decide +kernel
theorem d_Sc_addPin_63 : decode c_Sc_addPin 63 = .ok (.aload_n 0, 1) := by decide +kernel
theorem d_Sc_addPin_64 : decode c_Sc_addPin 64 = .ok (.dup, 1) := by decide +kernel
theorem d_Sc_addPin_65 : decode c_Sc_addPin 65 = .ok (.getfield 46, 3) := by decide +kernel
theorem d_Sc_addPin_68 : decode c_Sc_addPin 68 = .ok (.iconst 1, 1) := by decide +kernel
theorem d_Sc_addPin_69 : decode c_Sc_addPin 69 = .ok (.iadd, 1) := by decide +kernel
theorem d_Sc_addPin_70 : decode c_Sc_addPin 70 = .ok (.putfield 46, 3) := by decide +kernel
theorem d_Sc_addPin_73 : decode c_Sc_addPin 73 = .ok (.aload 4, 2) := by decide +kernel
theorem d_Sc_addPin_75 : decode c_Sc_addPin 75 = .ok (.invokevirtual 91, 3) := by decide +kernel
theorem d_Sc_addPin_78 : decode c_Sc_addPin 78 = .ok (.ireturn, 1) := by decide +kernel
abbrev c_Sc_addEnd : ByteArray := prog_9_method_8_code
abbrev r_Sc_addEnd : Option FieldType := (some FieldType.boolean)
def y_Sc_addEnd : MethodName := ⟨"PinKindChecks$Schematic", "addEnd", "(LPinKindChecks$Net;JJ)Z"⟩
theorem d_Sc_addEnd_0 : decode c_Sc_addEnd 0 = .ok (.aload_n 1, 1) := by decide +kernel
theorem d_Sc_addEnd_1 : decode c_Sc_addEnd 1 = .ok (.ifnull 12, 3) := by decide +kernel
theorem d_Sc_addEnd_4 : decode c_Sc_addEnd 4 = .ok (.aload_n 0, 1) := by decide +kernel
theorem d_Sc_addEnd_5 : decode c_Sc_addEnd 5 = .ok (.getfield 49, 3) := by decide +kernel
theorem d_Sc_addEnd_8 : decode c_Sc_addEnd 8 = .ok (.bipush 100, 2) := by decide +kernel
theorem d_Sc_addEnd_10 : decode c_Sc_addEnd 10 = .ok (.if_icmp .lt 5, 3) := by decide +kernel
theorem d_Sc_addEnd_13 : decode c_Sc_addEnd 13 = .ok (.iconst 0, 1) := by decide +kernel
theorem d_Sc_addEnd_14 : decode c_Sc_addEnd 14 = .ok (.ireturn, 1) := by decide +kernel
theorem d_Sc_addEnd_15 : decode c_Sc_addEnd 15 = .ok (.aload_n 1, 1) := by decide +kernel
theorem d_Sc_addEnd_16 : decode c_Sc_addEnd 16 = .ok (.lload_n 2, 1) := by decide +kernel
theorem d_Sc_addEnd_17 : decode c_Sc_addEnd 17 = .ok (.lload 4, 2) := by decide +kernel
theorem d_Sc_addEnd_19 : decode c_Sc_addEnd 19 = .ok (.invokevirtual 92, 3) := by decide +kernel
theorem d_Sc_addEnd_22 : decode c_Sc_addEnd 22 = .ok (.aload_n 0, 1) := by decide +kernel
theorem d_Sc_addEnd_23 : decode c_Sc_addEnd 23 = .ok (.dup, 1) := by decide +kernel
theorem d_Sc_addEnd_24 : decode c_Sc_addEnd 24 = .ok (.getfield 49, 3) := by decide +kernel
theorem d_Sc_addEnd_27 : decode c_Sc_addEnd 27 = .ok (.iconst 1, 1) := by decide +kernel
theorem d_Sc_addEnd_28 : decode c_Sc_addEnd 28 = .ok (.iadd, 1) := by decide +kernel
theorem d_Sc_addEnd_29 : decode c_Sc_addEnd 29 = .ok (.putfield 49, 3) := by decide +kernel
theorem d_Sc_addEnd_32 : decode c_Sc_addEnd 32 = .ok (.iconst 1, 1) := by decide +kernel
theorem d_Sc_addEnd_33 : decode c_Sc_addEnd 33 = .ok (.ireturn, 1) := by decide +kernel
abbrev c_Sc_thingOf : ByteArray := prog_9_method_12_code
abbrev r_Sc_thingOf : Option FieldType := (some (FieldType.object "PinKindChecks$Thing"))
def y_Sc_thingOf : MethodName := ⟨"PinKindChecks$Schematic", "thingOf", "(II)LPinKindChecks$Thing;"⟩
theorem d_Sc_thingOf_0 : decode c_Sc_thingOf 0 = .ok (.iload_n 1, 1) := by decide +kernel
theorem d_Sc_thingOf_1 : decode c_Sc_thingOf 1 = .ok (.tableswitch 45 0 2 #[27, 33, 39], 27) := by decide +kernel
theorem d_Sc_thingOf_28 : decode c_Sc_thingOf 28 = .ok (.aload_n 0, 1) := by decide +kernel
theorem d_Sc_thingOf_29 : decode c_Sc_thingOf 29 = .ok (.iload_n 2, 1) := by decide +kernel
theorem d_Sc_thingOf_30 : decode c_Sc_thingOf 30 = .ok (.invokevirtual 96, 3) := by decide +kernel
theorem d_Sc_thingOf_33 : decode c_Sc_thingOf 33 = .ok (.areturn, 1) := by decide +kernel
theorem d_Sc_thingOf_34 : decode c_Sc_thingOf 34 = .ok (.aload_n 0, 1) := by decide +kernel
theorem d_Sc_thingOf_35 : decode c_Sc_thingOf 35 = .ok (.iload_n 2, 1) := by decide +kernel
theorem d_Sc_thingOf_36 : decode c_Sc_thingOf 36 = .ok (.invokevirtual 100, 3) := by decide +kernel
theorem d_Sc_thingOf_39 : decode c_Sc_thingOf 39 = .ok (.areturn, 1) := by decide +kernel
theorem d_Sc_thingOf_40 : decode c_Sc_thingOf 40 = .ok (.aload_n 0, 1) := by decide +kernel
theorem d_Sc_thingOf_41 : decode c_Sc_thingOf 41 = .ok (.iload_n 2, 1) := by decide +kernel
theorem d_Sc_thingOf_42 : decode c_Sc_thingOf 42 = .ok (.invokevirtual 104, 3) := by decide +kernel
theorem d_Sc_thingOf_45 : decode c_Sc_thingOf 45 = .ok (.areturn, 1) := by decide +kernel
theorem d_Sc_thingOf_46 : decode c_Sc_thingOf 46 = .ok (.aconst_null, 1) := by decide +kernel
theorem d_Sc_thingOf_47 : decode c_Sc_thingOf 47 = .ok (.areturn, 1) := by decide +kernel
end
section
abbrev c_Th_number : ByteArray := prog_10_method_3_code
abbrev r_Th_number : Option FieldType := (some FieldType.int)
def y_Th_number : MethodName := ⟨"PinKindChecks$Thing", "number", "()I"⟩
theorem d_Th_number_0 : decode c_Th_number 0 = .ok (.aload_n 0, 1) := by decide +kernel
theorem d_Th_number_1 : decode c_Th_number 1 = .ok (.getfield 15, 3) := by decide +kernel
theorem d_Th_number_4 : decode c_Th_number 4 = .ok (.sipush 160, 3) := by decide +kernel
theorem d_Th_number_7 : decode c_Th_number 7 = .ok (.irem, 1) := by decide +kernel
theorem d_Th_number_8 : decode c_Th_number 8 = .ok (.ireturn, 1) := by decide +kernel
abbrev c_Th_sheet : ByteArray := prog_10_method_2_code
abbrev r_Th_sheet : Option FieldType := (some FieldType.int)
def y_Th_sheet : MethodName := ⟨"PinKindChecks$Thing", "sheet", "()I"⟩
theorem d_Th_sheet_0 : decode c_Th_sheet 0 = .ok (.aload_n 0, 1) := by decide +kernel
theorem d_Th_sheet_1 : decode c_Th_sheet 1 = .ok (.getfield 9, 3) := by decide +kernel
theorem d_Th_sheet_4 : decode c_Th_sheet 4 = .ok (.ireturn, 1) := by decide +kernel
abbrev c_Th_keyWith : ByteArray := prog_10_method_5_code
abbrev r_Th_keyWith : Option FieldType := (some FieldType.int)
def y_Th_keyWith : MethodName := ⟨"PinKindChecks$Thing", "keyWith", "(I)I"⟩
theorem d_Th_keyWith_0 : decode c_Th_keyWith 0 = .ok (.aload_n 0, 1) := by decide +kernel
theorem d_Th_keyWith_1 : decode c_Th_keyWith 1 = .ok (.getfield 15, 3) := by decide +kernel
theorem d_Th_keyWith_4 : decode c_Th_keyWith 4 = .ok (.bipush 27, 2) := by decide +kernel
theorem d_Th_keyWith_6 : decode c_Th_keyWith 6 = .ok (.imul, 1) := by decide +kernel
theorem d_Th_keyWith_7 : decode c_Th_keyWith 7 = .ok (.iload_n 1, 1) := by decide +kernel
theorem d_Th_keyWith_8 : decode c_Th_keyWith 8 = .ok (.iadd, 1) := by decide +kernel
theorem d_Th_keyWith_9 : decode c_Th_keyWith 9 = .ok (.ireturn, 1) := by decide +kernel
abbrev c_Th_init : ByteArray := prog_10_method_1_code
abbrev r_Th_init : Option FieldType := none
def y_Th_init : MethodName := ⟨"PinKindChecks$Thing", "<init>", "(III)V"⟩
theorem d_Th_init_0 : decode c_Th_init 0 = .ok (.aload_n 0, 1) := by decide +kernel
theorem d_Th_init_1 : decode c_Th_init 1 = .ok (.invokespecial 3, 3) := by decide +kernel
theorem d_Th_init_4 : decode c_Th_init 4 = .ok (.aload_n 0, 1) := by decide +kernel
theorem d_Th_init_5 : decode c_Th_init 5 = .ok (.iload_n 1, 1) := by decide +kernel
theorem d_Th_init_6 : decode c_Th_init 6 = .ok (.putfield 9, 3) := by decide +kernel
theorem d_Th_init_9 : decode c_Th_init 9 = .ok (.aload_n 0, 1) := by decide +kernel
theorem d_Th_init_10 : decode c_Th_init 10 = .ok (.iload_n 1, 1) := by decide +kernel
theorem d_Th_init_11 : decode c_Th_init 11 = .ok (.iconst 3, 1) := by decide +kernel
theorem d_Th_init_12 : decode c_Th_init 12 = .ok (.imul, 1) := by decide +kernel
theorem d_Th_init_13 : decode c_Th_init 13 = .ok (.iload_n 2, 1) := by decide +kernel
theorem d_Th_init_14 : decode c_Th_init 14 = .ok (.iadd, 1) := by decide +kernel
theorem d_Th_init_15 : decode c_Th_init 15 = .ok (.sipush 160, 3) := by decide +kernel
theorem d_Th_init_18 : decode c_Th_init 18 = .ok (.imul, 1) := by decide +kernel
theorem d_Th_init_19 : decode c_Th_init 19 = .ok (.iload_n 3, 1) := by decide +kernel
theorem d_Th_init_20 : decode c_Th_init 20 = .ok (.iadd, 1) := by decide +kernel
theorem d_Th_init_21 : decode c_Th_init 21 = .ok (.putfield 15, 3) := by decide +kernel
theorem d_Th_init_24 : decode c_Th_init 24 = .ok (.return_, 1) := by decide +kernel
abbrev c_Th_isBefore : ByteArray := prog_10_method_4_code
abbrev r_Th_isBefore : Option FieldType := (some FieldType.boolean)
def y_Th_isBefore : MethodName := ⟨"PinKindChecks$Thing", "isBefore", "(LPinKindChecks$Thing;)Z"⟩
theorem d_Th_isBefore_0 : decode c_Th_isBefore 0 = .ok (.aload_n 1, 1) := by decide +kernel
theorem d_Th_isBefore_1 : decode c_Th_isBefore 1 = .ok (.ifnull 18, 3) := by decide +kernel
theorem d_Th_isBefore_4 : decode c_Th_isBefore 4 = .ok (.aload_n 0, 1) := by decide +kernel
theorem d_Th_isBefore_5 : decode c_Th_isBefore 5 = .ok (.getfield 15, 3) := by decide +kernel
theorem d_Th_isBefore_8 : decode c_Th_isBefore 8 = .ok (.aload_n 1, 1) := by decide +kernel
theorem d_Th_isBefore_9 : decode c_Th_isBefore 9 = .ok (.getfield 15, 3) := by decide +kernel
theorem d_Th_isBefore_12 : decode c_Th_isBefore 12 = .ok (.if_icmp .ge 7, 3) := by decide +kernel
theorem d_Th_isBefore_15 : decode c_Th_isBefore 15 = .ok (.iconst 1, 1) := by decide +kernel
theorem d_Th_isBefore_16 : decode c_Th_isBefore 16 = .ok (.goto 4, 3) := by decide +kernel
theorem d_Th_isBefore_19 : decode c_Th_isBefore 19 = .ok (.iconst 0, 1) := by decide +kernel
theorem d_Th_isBefore_20 : decode c_Th_isBefore 20 = .ok (.ireturn, 1) := by decide +kernel
end
section
abbrev c_Tr_weightFor : ByteArray := prog_11_method_6_code
abbrev r_Tr_weightFor : Option FieldType := (some FieldType.int)
def y_Tr_weightFor : MethodName := ⟨"PinKindChecks$ToldRule", "weightFor", "(LPinKindChecks$Thing;[J)I"⟩
theorem d_Tr_weightFor_0 : decode c_Tr_weightFor 0 = .ok (.aload_n 0, 1) := by decide +kernel
theorem d_Tr_weightFor_1 : decode c_Tr_weightFor 1 = .ok (.getfield 9, 3) := by decide +kernel
theorem d_Tr_weightFor_4 : decode c_Tr_weightFor 4 = .ok (.ifCond .ne 10, 3) := by decide +kernel
theorem d_Tr_weightFor_7 : decode c_Tr_weightFor 7 = .ok (.aload_n 1, 1) := by decide +kernel
theorem d_Tr_weightFor_8 : decode c_Tr_weightFor 8 = .ok (.instanceof 29, 3) := by decide +kernel
theorem d_Tr_weightFor_11 : decode c_Tr_weightFor 11 = .ok (.ifCond .ne 33, 3) := by decide +kernel
theorem d_Tr_weightFor_14 : decode c_Tr_weightFor 14 = .ok (.aload_n 0, 1) := by decide +kernel
theorem d_Tr_weightFor_15 : decode c_Tr_weightFor 15 = .ok (.getfield 9, 3) := by decide +kernel
theorem d_Tr_weightFor_18 : decode c_Tr_weightFor 18 = .ok (.iconst 1, 1) := by decide +kernel
theorem d_Tr_weightFor_19 : decode c_Tr_weightFor 19 = .ok (.if_icmp .ne 10, 3) := by decide +kernel
theorem d_Tr_weightFor_22 : decode c_Tr_weightFor 22 = .ok (.aload_n 1, 1) := by decide +kernel
theorem d_Tr_weightFor_23 : decode c_Tr_weightFor 23 = .ok (.instanceof 31, 3) := by decide +kernel
theorem d_Tr_weightFor_26 : decode c_Tr_weightFor 26 = .ok (.ifCond .ne 18, 3) := by decide +kernel
theorem d_Tr_weightFor_29 : decode c_Tr_weightFor 29 = .ok (.aload_n 0, 1) := by decide +kernel
theorem d_Tr_weightFor_30 : decode c_Tr_weightFor 30 = .ok (.getfield 9, 3) := by decide +kernel
theorem d_Tr_weightFor_33 : decode c_Tr_weightFor 33 = .ok (.iconst 2, 1) := by decide +kernel
theorem d_Tr_weightFor_34 : decode c_Tr_weightFor 34 = .ok (.if_icmp .ne 14, 3) := by decide +kernel
theorem d_Tr_weightFor_37 : decode c_Tr_weightFor 37 = .ok (.aload_n 1, 1) := by decide +kernel
theorem d_Tr_weightFor_38 : decode c_Tr_weightFor 38 = .ok (.instanceof 33, 3) := by decide +kernel
theorem d_Tr_weightFor_41 : decode c_Tr_weightFor 41 = .ok (.ifCond .eq 7, 3) := by decide +kernel
theorem d_Tr_weightFor_44 : decode c_Tr_weightFor 44 = .ok (.iconst 1, 1) := by decide +kernel
theorem d_Tr_weightFor_45 : decode c_Tr_weightFor 45 = .ok (.goto 4, 3) := by decide +kernel
theorem d_Tr_weightFor_48 : decode c_Tr_weightFor 48 = .ok (.iconst 0, 1) := by decide +kernel
theorem d_Tr_weightFor_49 : decode c_Tr_weightFor 49 = .ok (.istore_n 3, 1) := by decide +kernel
theorem d_Tr_weightFor_50 : decode c_Tr_weightFor 50 = .ok (.iload_n 3, 1) := by decide +kernel
theorem d_Tr_weightFor_51 : decode c_Tr_weightFor 51 = .ok (.ifCond .eq 19, 3) := by decide +kernel
theorem d_Tr_weightFor_54 : decode c_Tr_weightFor 54 = .ok (.aload_n 0, 1) := by decide +kernel
theorem d_Tr_weightFor_55 : decode c_Tr_weightFor 55 = .ok (.aload_n 1, 1) := by decide +kernel
theorem d_Tr_weightFor_56 : decode c_Tr_weightFor 56 = .ok (.aload_n 2, 1) := by decide +kernel
theorem d_Tr_weightFor_57 : decode c_Tr_weightFor 57 = .ok (.invokevirtual 35, 3) := by decide +kernel
theorem d_Tr_weightFor_60 : decode c_Tr_weightFor 60 = .ok (.ifCond .eq 10, 3) := by decide +kernel
theorem d_Tr_weightFor_63 : decode c_Tr_weightFor 63 = .ok (.aload_n 0, 1) := by decide +kernel
theorem d_Tr_weightFor_64 : decode c_Tr_weightFor 64 = .ok (.getfield 15, 3) := by decide +kernel
theorem d_Tr_weightFor_67 : decode c_Tr_weightFor 67 = .ok (.goto 4, 3) := by decide +kernel
theorem d_Tr_weightFor_70 : decode c_Tr_weightFor 70 = .ok (.iconst 0, 1) := by decide +kernel
theorem d_Tr_weightFor_71 : decode c_Tr_weightFor 71 = .ok (.ireturn, 1) := by decide +kernel
abbrev c_Tr_holdsFor : ByteArray := prog_11_method_7_code
abbrev r_Tr_holdsFor : Option FieldType := (some FieldType.boolean)
def y_Tr_holdsFor : MethodName := ⟨"PinKindChecks$ToldRule", "holdsFor", "(LPinKindChecks$Thing;[J)Z"⟩
theorem d_Tr_holdsFor_0 : decode c_Tr_holdsFor 0 = .ok (.iconst 0, 1) := by decide +kernel
theorem d_Tr_holdsFor_1 : decode c_Tr_holdsFor 1 = .ok (.istore_n 3, 1) := by decide +kernel
theorem d_Tr_holdsFor_2 : decode c_Tr_holdsFor 2 = .ok (.iconst 0, 1) := by decide +kernel
theorem d_Tr_holdsFor_3 : decode c_Tr_holdsFor 3 = .ok (.istore 4, 2) := by decide +kernel
theorem d_Tr_holdsFor_5 : decode c_Tr_holdsFor 5 = .ok (.iload 4, 2) := by decide +kernel
theorem d_Tr_holdsFor_7 : decode c_Tr_holdsFor 7 = .ok (.aload_n 0, 1) := by decide +kernel
theorem d_Tr_holdsFor_8 : decode c_Tr_holdsFor 8 = .ok (.getfield 18, 3) := by decide +kernel
theorem d_Tr_holdsFor_11 : decode c_Tr_holdsFor 11 = .ok (.arraylength, 1) := by decide +kernel
theorem d_Tr_holdsFor_12 : decode c_Tr_holdsFor 12 = .ok (.if_icmp .ge 144, 3) := by decide +kernel
theorem d_Tr_holdsFor_15 : decode c_Tr_holdsFor 15 = .ok (.iload 4, 2) := by decide +kernel
theorem d_Tr_holdsFor_17 : decode c_Tr_holdsFor 17 = .ok (.aload_n 0, 1) := by decide +kernel
theorem d_Tr_holdsFor_18 : decode c_Tr_holdsFor 18 = .ok (.getfield 22, 3) := by decide +kernel
theorem d_Tr_holdsFor_21 : decode c_Tr_holdsFor 21 = .ok (.arraylength, 1) := by decide +kernel
theorem d_Tr_holdsFor_22 : decode c_Tr_holdsFor 22 = .ok (.if_icmp .ge 134, 3) := by decide +kernel
theorem d_Tr_holdsFor_25 : decode c_Tr_holdsFor 25 = .ok (.aload_n 0, 1) := by decide +kernel
theorem d_Tr_holdsFor_26 : decode c_Tr_holdsFor 26 = .ok (.getfield 18, 3) := by decide +kernel
theorem d_Tr_holdsFor_29 : decode c_Tr_holdsFor 29 = .ok (.iload 4, 2) := by decide +kernel
theorem d_Tr_holdsFor_31 : decode c_Tr_holdsFor 31 = .ok (.iaload, 1) := by decide +kernel
theorem d_Tr_holdsFor_32 : decode c_Tr_holdsFor 32 = .ok (.istore 5, 2) := by decide +kernel
theorem d_Tr_holdsFor_34 : decode c_Tr_holdsFor 34 = .ok (.iload 5, 2) := by decide +kernel
theorem d_Tr_holdsFor_36 : decode c_Tr_holdsFor 36 = .ok (.bipush 13, 2) := by decide +kernel
theorem d_Tr_holdsFor_38 : decode c_Tr_holdsFor 38 = .ok (.if_icmp .lt 49, 3) := by decide +kernel
theorem d_Tr_holdsFor_41 : decode c_Tr_holdsFor 41 = .ok (.iload_n 3, 1) := by decide +kernel
theorem d_Tr_holdsFor_42 : decode c_Tr_holdsFor 42 = .ok (.aload_n 2, 1) := by decide +kernel
theorem d_Tr_holdsFor_43 : decode c_Tr_holdsFor 43 = .ok (.arraylength, 1) := by decide +kernel
theorem d_Tr_holdsFor_44 : decode c_Tr_holdsFor 44 = .ok (.if_icmp .ge 106, 3) := by decide +kernel
theorem d_Tr_holdsFor_47 : decode c_Tr_holdsFor 47 = .ok (.aload_n 2, 1) := by decide +kernel
theorem d_Tr_holdsFor_48 : decode c_Tr_holdsFor 48 = .ok (.iload_n 3, 1) := by decide +kernel
theorem d_Tr_holdsFor_49 : decode c_Tr_holdsFor 49 = .ok (.iload 5, 2) := by decide +kernel
theorem d_Tr_holdsFor_51 : decode c_Tr_holdsFor 51 = .ok (.bipush 13, 2) := by decide +kernel
theorem d_Tr_holdsFor_53 : decode c_Tr_holdsFor 53 = .ok (.if_icmp .ne 14, 3) := by decide +kernel
theorem d_Tr_holdsFor_56 : decode c_Tr_holdsFor 56 = .ok (.aload_n 0, 1) := by decide +kernel
theorem d_Tr_holdsFor_57 : decode c_Tr_holdsFor 57 = .ok (.getfield 22, 3) := by decide +kernel
theorem d_Tr_holdsFor_60 : decode c_Tr_holdsFor 60 = .ok (.iload 4, 2) := by decide +kernel
theorem d_Tr_holdsFor_62 : decode c_Tr_holdsFor 62 = .ok (.iaload, 1) := by decide +kernel
theorem d_Tr_holdsFor_63 : decode c_Tr_holdsFor 63 = .ok (.i2l, 1) := by decide +kernel
theorem d_Tr_holdsFor_64 : decode c_Tr_holdsFor 64 = .ok (.goto 16, 3) := by decide +kernel
theorem d_Tr_holdsFor_67 : decode c_Tr_holdsFor 67 = .ok (.aload_n 1, 1) := by decide +kernel
theorem d_Tr_holdsFor_68 : decode c_Tr_holdsFor 68 = .ok (.iload 5, 2) := by decide +kernel
theorem d_Tr_holdsFor_70 : decode c_Tr_holdsFor 70 = .ok (.aload_n 0, 1) := by decide +kernel
theorem d_Tr_holdsFor_71 : decode c_Tr_holdsFor 71 = .ok (.getfield 22, 3) := by decide +kernel
theorem d_Tr_holdsFor_74 : decode c_Tr_holdsFor 74 = .ok (.iload 4, 2) := by decide +kernel
theorem d_Tr_holdsFor_76 : decode c_Tr_holdsFor 76 = .ok (.iaload, 1) := by decide +kernel
theorem d_Tr_holdsFor_77 : decode c_Tr_holdsFor 77 = .ok (.invokevirtual 39, 3) := by decide +kernel
theorem d_Tr_holdsFor_80 : decode c_Tr_holdsFor 80 = .ok (.lastore, 1) := by decide +kernel
theorem d_Tr_holdsFor_81 : decode c_Tr_holdsFor 81 = .ok (.iinc 3 1, 3) := by decide +kernel
theorem d_Tr_holdsFor_84 : decode c_Tr_holdsFor 84 = .ok (.goto 66, 3) := by decide +kernel
theorem d_Tr_holdsFor_87 : decode c_Tr_holdsFor 87 = .ok (.iload 5, 2) := by decide +kernel
theorem d_Tr_holdsFor_89 : decode c_Tr_holdsFor 89 = .ok (.iconst 3, 1) := by decide +kernel
theorem d_Tr_holdsFor_90 : decode c_Tr_holdsFor 90 = .ok (.if_icmp .ne 34, 3) := by decide +kernel
theorem d_Tr_holdsFor_93 : decode c_Tr_holdsFor 93 = .ok (.iload_n 3, 1) := by decide +kernel
theorem d_Tr_holdsFor_94 : decode c_Tr_holdsFor 94 = .ok (.iconst 1, 1) := by decide +kernel
theorem d_Tr_holdsFor_95 : decode c_Tr_holdsFor 95 = .ok (.if_icmp .lt 55, 3) := by decide +kernel
theorem d_Tr_holdsFor_98 : decode c_Tr_holdsFor 98 = .ok (.aload_n 2, 1) := by decide +kernel
theorem d_Tr_holdsFor_99 : decode c_Tr_holdsFor 99 = .ok (.iload_n 3, 1) := by decide +kernel
theorem d_Tr_holdsFor_100 : decode c_Tr_holdsFor 100 = .ok (.iconst 1, 1) := by decide +kernel
theorem d_Tr_holdsFor_101 : decode c_Tr_holdsFor 101 = .ok (.isub, 1) := by decide +kernel
theorem d_Tr_holdsFor_102 : decode c_Tr_holdsFor 102 = .ok (.aload_n 2, 1) := by decide +kernel
theorem d_Tr_holdsFor_103 : decode c_Tr_holdsFor 103 = .ok (.iload_n 3, 1) := by decide +kernel
theorem d_Tr_holdsFor_104 : decode c_Tr_holdsFor 104 = .ok (.iconst 1, 1) := by decide +kernel
theorem d_Tr_holdsFor_105 : decode c_Tr_holdsFor 105 = .ok (.isub, 1) := by decide +kernel
theorem d_Tr_holdsFor_106 : decode c_Tr_holdsFor 106 = .ok (.laload, 1) := by decide +kernel
theorem d_Tr_holdsFor_107 : decode c_Tr_holdsFor 107 = .ok (.lconst 0, 1) := by decide +kernel
theorem d_Tr_holdsFor_108 : decode c_Tr_holdsFor 108 = .ok (.lcmp, 1) := by decide +kernel
theorem d_Tr_holdsFor_109 : decode c_Tr_holdsFor 109 = .ok (.ifCond .ne 7, 3) := by decide +kernel
theorem d_Tr_holdsFor_112 : decode c_Tr_holdsFor 112 = .ok (.iconst 1, 1) := by decide +kernel
theorem d_Tr_holdsFor_113 : decode c_Tr_holdsFor 113 = .ok (.goto 4, 3) := by decide +kernel
theorem d_Tr_holdsFor_116 : decode c_Tr_holdsFor 116 = .ok (.iconst 0, 1) := by decide +kernel
theorem d_Tr_holdsFor_117 : decode c_Tr_holdsFor 117 = .ok (.invokestatic 45, 3) := by decide +kernel
theorem d_Tr_holdsFor_120 : decode c_Tr_holdsFor 120 = .ok (.lastore, 1) := by decide +kernel
theorem d_Tr_holdsFor_121 : decode c_Tr_holdsFor 121 = .ok (.goto 29, 3) := by decide +kernel
theorem d_Tr_holdsFor_124 : decode c_Tr_holdsFor 124 = .ok (.iload_n 3, 1) := by decide +kernel
theorem d_Tr_holdsFor_125 : decode c_Tr_holdsFor 125 = .ok (.iconst 2, 1) := by decide +kernel
theorem d_Tr_holdsFor_126 : decode c_Tr_holdsFor 126 = .ok (.if_icmp .lt 24, 3) := by decide +kernel
theorem d_Tr_holdsFor_129 : decode c_Tr_holdsFor 129 = .ok (.iinc 3 (-1), 3) := by decide +kernel
theorem d_Tr_holdsFor_132 : decode c_Tr_holdsFor 132 = .ok (.aload_n 2, 1) := by decide +kernel
theorem d_Tr_holdsFor_133 : decode c_Tr_holdsFor 133 = .ok (.iload_n 3, 1) := by decide +kernel
theorem d_Tr_holdsFor_134 : decode c_Tr_holdsFor 134 = .ok (.iconst 1, 1) := by decide +kernel
theorem d_Tr_holdsFor_135 : decode c_Tr_holdsFor 135 = .ok (.isub, 1) := by decide +kernel
theorem d_Tr_holdsFor_136 : decode c_Tr_holdsFor 136 = .ok (.iload 5, 2) := by decide +kernel
theorem d_Tr_holdsFor_138 : decode c_Tr_holdsFor 138 = .ok (.aload_n 2, 1) := by decide +kernel
theorem d_Tr_holdsFor_139 : decode c_Tr_holdsFor 139 = .ok (.iload_n 3, 1) := by decide +kernel
theorem d_Tr_holdsFor_140 : decode c_Tr_holdsFor 140 = .ok (.iconst 1, 1) := by decide +kernel
theorem d_Tr_holdsFor_141 : decode c_Tr_holdsFor 141 = .ok (.isub, 1) := by decide +kernel
theorem d_Tr_holdsFor_142 : decode c_Tr_holdsFor 142 = .ok (.laload, 1) := by decide +kernel
theorem d_Tr_holdsFor_143 : decode c_Tr_holdsFor 143 = .ok (.aload_n 2, 1) := by decide +kernel
theorem d_Tr_holdsFor_144 : decode c_Tr_holdsFor 144 = .ok (.iload_n 3, 1) := by decide +kernel
theorem d_Tr_holdsFor_145 : decode c_Tr_holdsFor 145 = .ok (.laload, 1) := by decide +kernel
theorem d_Tr_holdsFor_146 : decode c_Tr_holdsFor 146 = .ok (.invokestatic 49, 3) := by decide +kernel
theorem d_Tr_holdsFor_149 : decode c_Tr_holdsFor 149 = .ok (.lastore, 1) := by decide +kernel
theorem d_Tr_holdsFor_150 : decode c_Tr_holdsFor 150 = .ok (.iinc 4 1, 3) := by decide +kernel
theorem d_Tr_holdsFor_153 : decode c_Tr_holdsFor 153 = .ok (.goto (-148), 3) := by decide +kernel
theorem d_Tr_holdsFor_156 : decode c_Tr_holdsFor 156 = .ok (.iload_n 3, 1) := by decide +kernel
theorem d_Tr_holdsFor_157 : decode c_Tr_holdsFor 157 = .ok (.iconst 1, 1) := by decide +kernel
theorem d_Tr_holdsFor_158 : decode c_Tr_holdsFor 158 = .ok (.if_icmp .ne 15, 3) := by decide +kernel
theorem d_Tr_holdsFor_161 : decode c_Tr_holdsFor 161 = .ok (.aload_n 2, 1) := by decide +kernel
theorem d_Tr_holdsFor_162 : decode c_Tr_holdsFor 162 = .ok (.iconst 0, 1) := by decide +kernel
theorem d_Tr_holdsFor_163 : decode c_Tr_holdsFor 163 = .ok (.laload, 1) := by decide +kernel
theorem d_Tr_holdsFor_164 : decode c_Tr_holdsFor 164 = .ok (.lconst 0, 1) := by decide +kernel
theorem d_Tr_holdsFor_165 : decode c_Tr_holdsFor 165 = .ok (.lcmp, 1) := by decide +kernel
theorem d_Tr_holdsFor_166 : decode c_Tr_holdsFor 166 = .ok (.ifCond .eq 7, 3) := by decide +kernel
theorem d_Tr_holdsFor_169 : decode c_Tr_holdsFor 169 = .ok (.iconst 1, 1) := by decide +kernel
theorem d_Tr_holdsFor_170 : decode c_Tr_holdsFor 170 = .ok (.goto 4, 3) := by decide +kernel
theorem d_Tr_holdsFor_173 : decode c_Tr_holdsFor 173 = .ok (.iconst 0, 1) := by decide +kernel
theorem d_Tr_holdsFor_174 : decode c_Tr_holdsFor 174 = .ok (.ireturn, 1) := by decide +kernel
abbrev c_Tr_truth : ByteArray := prog_11_method_9_code
abbrev r_Tr_truth : Option FieldType := (some FieldType.long)
def y_Tr_truth : MethodName := ⟨"PinKindChecks$ToldRule", "truth", "(Z)J"⟩
theorem d_Tr_truth_0 : decode c_Tr_truth 0 = .ok (.iload_n 0, 1) := by decide +kernel
theorem d_Tr_truth_1 : decode c_Tr_truth 1 = .ok (.ifCond .eq 7, 3) := by decide +kernel
theorem d_Tr_truth_4 : decode c_Tr_truth 4 = .ok (.lconst 1, 1) := by decide +kernel
theorem d_Tr_truth_5 : decode c_Tr_truth 5 = .ok (.goto 4, 3) := by decide +kernel
theorem d_Tr_truth_8 : decode c_Tr_truth 8 = .ok (.lconst 0, 1) := by decide +kernel
theorem d_Tr_truth_9 : decode c_Tr_truth 9 = .ok (.lreturn, 1) := by decide +kernel
abbrev c_Tr_workOut : ByteArray := prog_11_method_8_code
abbrev r_Tr_workOut : Option FieldType := (some FieldType.long)
def y_Tr_workOut : MethodName := ⟨"PinKindChecks$ToldRule", "workOut", "(IJJ)J"⟩
theorem d_Tr_workOut_0 : decode c_Tr_workOut 0 = .ok (.iload_n 0, 1) := by decide +kernel
theorem d_Tr_workOut_1 : decode c_Tr_workOut 1 = .ok (.tableswitch 165 1 11 #[59, 63, 165, 67, 82, 97, 112, 127, 142, 157, 161], 59) := by decide +kernel
theorem d_Tr_workOut_60 : decode c_Tr_workOut 60 = .ok (.lload_n 1, 1) := by decide +kernel
theorem d_Tr_workOut_61 : decode c_Tr_workOut 61 = .ok (.lload_n 3, 1) := by decide +kernel
theorem d_Tr_workOut_62 : decode c_Tr_workOut 62 = .ok (.lor, 1) := by decide +kernel
theorem d_Tr_workOut_63 : decode c_Tr_workOut 63 = .ok (.lreturn, 1) := by decide +kernel
theorem d_Tr_workOut_64 : decode c_Tr_workOut 64 = .ok (.lload_n 1, 1) := by decide +kernel
theorem d_Tr_workOut_65 : decode c_Tr_workOut 65 = .ok (.lload_n 3, 1) := by decide +kernel
theorem d_Tr_workOut_66 : decode c_Tr_workOut 66 = .ok (.land, 1) := by decide +kernel
theorem d_Tr_workOut_67 : decode c_Tr_workOut 67 = .ok (.lreturn, 1) := by decide +kernel
theorem d_Tr_workOut_68 : decode c_Tr_workOut 68 = .ok (.lload_n 1, 1) := by decide +kernel
theorem d_Tr_workOut_69 : decode c_Tr_workOut 69 = .ok (.lload_n 3, 1) := by decide +kernel
theorem d_Tr_workOut_70 : decode c_Tr_workOut 70 = .ok (.lcmp, 1) := by decide +kernel
theorem d_Tr_workOut_71 : decode c_Tr_workOut 71 = .ok (.ifCond .ne 7, 3) := by decide +kernel
theorem d_Tr_workOut_74 : decode c_Tr_workOut 74 = .ok (.iconst 1, 1) := by decide +kernel
theorem d_Tr_workOut_75 : decode c_Tr_workOut 75 = .ok (.goto 4, 3) := by decide +kernel
theorem d_Tr_workOut_78 : decode c_Tr_workOut 78 = .ok (.iconst 0, 1) := by decide +kernel
theorem d_Tr_workOut_79 : decode c_Tr_workOut 79 = .ok (.invokestatic 45, 3) := by decide +kernel
theorem d_Tr_workOut_82 : decode c_Tr_workOut 82 = .ok (.lreturn, 1) := by decide +kernel
theorem d_Tr_workOut_83 : decode c_Tr_workOut 83 = .ok (.lload_n 1, 1) := by decide +kernel
theorem d_Tr_workOut_84 : decode c_Tr_workOut 84 = .ok (.lload_n 3, 1) := by decide +kernel
theorem d_Tr_workOut_85 : decode c_Tr_workOut 85 = .ok (.lcmp, 1) := by decide +kernel
theorem d_Tr_workOut_86 : decode c_Tr_workOut 86 = .ok (.ifCond .eq 7, 3) := by decide +kernel
theorem d_Tr_workOut_89 : decode c_Tr_workOut 89 = .ok (.iconst 1, 1) := by decide +kernel
theorem d_Tr_workOut_90 : decode c_Tr_workOut 90 = .ok (.goto 4, 3) := by decide +kernel
theorem d_Tr_workOut_93 : decode c_Tr_workOut 93 = .ok (.iconst 0, 1) := by decide +kernel
theorem d_Tr_workOut_94 : decode c_Tr_workOut 94 = .ok (.invokestatic 45, 3) := by decide +kernel
theorem d_Tr_workOut_97 : decode c_Tr_workOut 97 = .ok (.lreturn, 1) := by decide +kernel
theorem d_Tr_workOut_98 : decode c_Tr_workOut 98 = .ok (.lload_n 1, 1) := by decide +kernel
theorem d_Tr_workOut_99 : decode c_Tr_workOut 99 = .ok (.lload_n 3, 1) := by decide +kernel
theorem d_Tr_workOut_100 : decode c_Tr_workOut 100 = .ok (.lcmp, 1) := by decide +kernel
theorem d_Tr_workOut_101 : decode c_Tr_workOut 101 = .ok (.ifCond .ge 7, 3) := by decide +kernel
theorem d_Tr_workOut_104 : decode c_Tr_workOut 104 = .ok (.iconst 1, 1) := by decide +kernel
theorem d_Tr_workOut_105 : decode c_Tr_workOut 105 = .ok (.goto 4, 3) := by decide +kernel
theorem d_Tr_workOut_108 : decode c_Tr_workOut 108 = .ok (.iconst 0, 1) := by decide +kernel
theorem d_Tr_workOut_109 : decode c_Tr_workOut 109 = .ok (.invokestatic 45, 3) := by decide +kernel
theorem d_Tr_workOut_112 : decode c_Tr_workOut 112 = .ok (.lreturn, 1) := by decide +kernel
theorem d_Tr_workOut_113 : decode c_Tr_workOut 113 = .ok (.lload_n 1, 1) := by decide +kernel
theorem d_Tr_workOut_114 : decode c_Tr_workOut 114 = .ok (.lload_n 3, 1) := by decide +kernel
theorem d_Tr_workOut_115 : decode c_Tr_workOut 115 = .ok (.lcmp, 1) := by decide +kernel
theorem d_Tr_workOut_116 : decode c_Tr_workOut 116 = .ok (.ifCond .le 7, 3) := by decide +kernel
theorem d_Tr_workOut_119 : decode c_Tr_workOut 119 = .ok (.iconst 1, 1) := by decide +kernel
theorem d_Tr_workOut_120 : decode c_Tr_workOut 120 = .ok (.goto 4, 3) := by decide +kernel
theorem d_Tr_workOut_123 : decode c_Tr_workOut 123 = .ok (.iconst 0, 1) := by decide +kernel
theorem d_Tr_workOut_124 : decode c_Tr_workOut 124 = .ok (.invokestatic 45, 3) := by decide +kernel
theorem d_Tr_workOut_127 : decode c_Tr_workOut 127 = .ok (.lreturn, 1) := by decide +kernel
theorem d_Tr_workOut_128 : decode c_Tr_workOut 128 = .ok (.lload_n 1, 1) := by decide +kernel
theorem d_Tr_workOut_129 : decode c_Tr_workOut 129 = .ok (.lload_n 3, 1) := by decide +kernel
theorem d_Tr_workOut_130 : decode c_Tr_workOut 130 = .ok (.lcmp, 1) := by decide +kernel
theorem d_Tr_workOut_131 : decode c_Tr_workOut 131 = .ok (.ifCond .gt 7, 3) := by decide +kernel
theorem d_Tr_workOut_134 : decode c_Tr_workOut 134 = .ok (.iconst 1, 1) := by decide +kernel
theorem d_Tr_workOut_135 : decode c_Tr_workOut 135 = .ok (.goto 4, 3) := by decide +kernel
theorem d_Tr_workOut_138 : decode c_Tr_workOut 138 = .ok (.iconst 0, 1) := by decide +kernel
theorem d_Tr_workOut_139 : decode c_Tr_workOut 139 = .ok (.invokestatic 45, 3) := by decide +kernel
theorem d_Tr_workOut_142 : decode c_Tr_workOut 142 = .ok (.lreturn, 1) := by decide +kernel
theorem d_Tr_workOut_143 : decode c_Tr_workOut 143 = .ok (.lload_n 1, 1) := by decide +kernel
theorem d_Tr_workOut_144 : decode c_Tr_workOut 144 = .ok (.lload_n 3, 1) := by decide +kernel
theorem d_Tr_workOut_145 : decode c_Tr_workOut 145 = .ok (.lcmp, 1) := by decide +kernel
theorem d_Tr_workOut_146 : decode c_Tr_workOut 146 = .ok (.ifCond .lt 7, 3) := by decide +kernel
theorem d_Tr_workOut_149 : decode c_Tr_workOut 149 = .ok (.iconst 1, 1) := by decide +kernel
theorem d_Tr_workOut_150 : decode c_Tr_workOut 150 = .ok (.goto 4, 3) := by decide +kernel
theorem d_Tr_workOut_153 : decode c_Tr_workOut 153 = .ok (.iconst 0, 1) := by decide +kernel
theorem d_Tr_workOut_154 : decode c_Tr_workOut 154 = .ok (.invokestatic 45, 3) := by decide +kernel
theorem d_Tr_workOut_157 : decode c_Tr_workOut 157 = .ok (.lreturn, 1) := by decide +kernel
theorem d_Tr_workOut_158 : decode c_Tr_workOut 158 = .ok (.lload_n 1, 1) := by decide +kernel
theorem d_Tr_workOut_159 : decode c_Tr_workOut 159 = .ok (.lload_n 3, 1) := by decide +kernel
theorem d_Tr_workOut_160 : decode c_Tr_workOut 160 = .ok (.ladd, 1) := by decide +kernel
theorem d_Tr_workOut_161 : decode c_Tr_workOut 161 = .ok (.lreturn, 1) := by decide +kernel
theorem d_Tr_workOut_162 : decode c_Tr_workOut 162 = .ok (.lload_n 1, 1) := by decide +kernel
theorem d_Tr_workOut_163 : decode c_Tr_workOut 163 = .ok (.lload_n 3, 1) := by decide +kernel
theorem d_Tr_workOut_164 : decode c_Tr_workOut 164 = .ok (.lsub, 1) := by decide +kernel
theorem d_Tr_workOut_165 : decode c_Tr_workOut 165 = .ok (.lreturn, 1) := by decide +kernel
theorem d_Tr_workOut_166 : decode c_Tr_workOut 166 = .ok (.lload_n 1, 1) := by decide +kernel
theorem d_Tr_workOut_167 : decode c_Tr_workOut 167 = .ok (.lload_n 3, 1) := by decide +kernel
theorem d_Tr_workOut_168 : decode c_Tr_workOut 168 = .ok (.lmul, 1) := by decide +kernel
theorem d_Tr_workOut_169 : decode c_Tr_workOut 169 = .ok (.lreturn, 1) := by decide +kernel
abbrev c_Tr_isJoining : ByteArray := prog_11_method_2_code
abbrev r_Tr_isJoining : Option FieldType := (some FieldType.boolean)
def y_Tr_isJoining : MethodName := ⟨"PinKindChecks$ToldRule", "isJoining", "(I)Z"⟩
theorem d_Tr_isJoining_0 : decode c_Tr_isJoining 0 = .ok (.iload_n 0, 1) := by decide +kernel
theorem d_Tr_isJoining_1 : decode c_Tr_isJoining 1 = .ok (.iconst 1, 1) := by decide +kernel
theorem d_Tr_isJoining_2 : decode c_Tr_isJoining 2 = .ok (.if_icmp .eq 8, 3) := by decide +kernel
theorem d_Tr_isJoining_5 : decode c_Tr_isJoining 5 = .ok (.iload_n 0, 1) := by decide +kernel
theorem d_Tr_isJoining_6 : decode c_Tr_isJoining 6 = .ok (.iconst 2, 1) := by decide +kernel
theorem d_Tr_isJoining_7 : decode c_Tr_isJoining 7 = .ok (.if_icmp .ne 7, 3) := by decide +kernel
theorem d_Tr_isJoining_10 : decode c_Tr_isJoining 10 = .ok (.iconst 1, 1) := by decide +kernel
theorem d_Tr_isJoining_11 : decode c_Tr_isJoining 11 = .ok (.goto 4, 3) := by decide +kernel
theorem d_Tr_isJoining_14 : decode c_Tr_isJoining 14 = .ok (.iconst 0, 1) := by decide +kernel
theorem d_Tr_isJoining_15 : decode c_Tr_isJoining 15 = .ok (.ireturn, 1) := by decide +kernel
abbrev c_Tr_isSign : ByteArray := prog_11_method_3_code
abbrev r_Tr_isSign : Option FieldType := (some FieldType.boolean)
def y_Tr_isSign : MethodName := ⟨"PinKindChecks$ToldRule", "isSign", "(I)Z"⟩
theorem d_Tr_isSign_0 : decode c_Tr_isSign 0 = .ok (.iload_n 0, 1) := by decide +kernel
theorem d_Tr_isSign_1 : decode c_Tr_isSign 1 = .ok (.iconst 4, 1) := by decide +kernel
theorem d_Tr_isSign_2 : decode c_Tr_isSign 2 = .ok (.if_icmp .lt 13, 3) := by decide +kernel
theorem d_Tr_isSign_5 : decode c_Tr_isSign 5 = .ok (.iload_n 0, 1) := by decide +kernel
theorem d_Tr_isSign_6 : decode c_Tr_isSign 6 = .ok (.bipush 9, 2) := by decide +kernel
theorem d_Tr_isSign_8 : decode c_Tr_isSign 8 = .ok (.if_icmp .gt 7, 3) := by decide +kernel
theorem d_Tr_isSign_11 : decode c_Tr_isSign 11 = .ok (.iconst 1, 1) := by decide +kernel
theorem d_Tr_isSign_12 : decode c_Tr_isSign 12 = .ok (.goto 4, 3) := by decide +kernel
theorem d_Tr_isSign_15 : decode c_Tr_isSign 15 = .ok (.iconst 0, 1) := by decide +kernel
theorem d_Tr_isSign_16 : decode c_Tr_isSign 16 = .ok (.ireturn, 1) := by decide +kernel
abbrev c_Tr_isArithmetic : ByteArray := prog_11_method_4_code
abbrev r_Tr_isArithmetic : Option FieldType := (some FieldType.boolean)
def y_Tr_isArithmetic : MethodName := ⟨"PinKindChecks$ToldRule", "isArithmetic", "(I)Z"⟩
theorem d_Tr_isArithmetic_0 : decode c_Tr_isArithmetic 0 = .ok (.iload_n 0, 1) := by decide +kernel
theorem d_Tr_isArithmetic_1 : decode c_Tr_isArithmetic 1 = .ok (.bipush 10, 2) := by decide +kernel
theorem d_Tr_isArithmetic_3 : decode c_Tr_isArithmetic 3 = .ok (.if_icmp .lt 13, 3) := by decide +kernel
theorem d_Tr_isArithmetic_6 : decode c_Tr_isArithmetic 6 = .ok (.iload_n 0, 1) := by decide +kernel
theorem d_Tr_isArithmetic_7 : decode c_Tr_isArithmetic 7 = .ok (.bipush 12, 2) := by decide +kernel
theorem d_Tr_isArithmetic_9 : decode c_Tr_isArithmetic 9 = .ok (.if_icmp .gt 7, 3) := by decide +kernel
theorem d_Tr_isArithmetic_12 : decode c_Tr_isArithmetic 12 = .ok (.iconst 1, 1) := by decide +kernel
theorem d_Tr_isArithmetic_13 : decode c_Tr_isArithmetic 13 = .ok (.goto 4, 3) := by decide +kernel
theorem d_Tr_isArithmetic_16 : decode c_Tr_isArithmetic 16 = .ok (.iconst 0, 1) := by decide +kernel
theorem d_Tr_isArithmetic_17 : decode c_Tr_isArithmetic 17 = .ok (.ireturn, 1) := by decide +kernel
abbrev c_Tr_strength : ByteArray := prog_11_method_5_code
abbrev r_Tr_strength : Option FieldType := (some FieldType.int)
def y_Tr_strength : MethodName := ⟨"PinKindChecks$ToldRule", "strength", "(I)I"⟩
theorem d_Tr_strength_0 : decode c_Tr_strength 0 = .ok (.iload_n 0, 1) := by decide +kernel
theorem d_Tr_strength_1 : decode c_Tr_strength 1 = .ok (.iconst 3, 1) := by decide +kernel
theorem d_Tr_strength_2 : decode c_Tr_strength 2 = .ok (.if_icmp .gt 5, 3) := by decide +kernel
theorem d_Tr_strength_5 : decode c_Tr_strength 5 = .ok (.iload_n 0, 1) := by decide +kernel
theorem d_Tr_strength_6 : decode c_Tr_strength 6 = .ok (.ireturn, 1) := by decide +kernel
theorem d_Tr_strength_7 : decode c_Tr_strength 7 = .ok (.iload_n 0, 1) := by decide +kernel
theorem d_Tr_strength_8 : decode c_Tr_strength 8 = .ok (.invokestatic 25, 3) := by decide +kernel
theorem d_Tr_strength_11 : decode c_Tr_strength 11 = .ok (.ifCond .eq 5, 3) := by decide +kernel
theorem d_Tr_strength_14 : decode c_Tr_strength 14 = .ok (.iconst 4, 1) := by decide +kernel
theorem d_Tr_strength_15 : decode c_Tr_strength 15 = .ok (.ireturn, 1) := by decide +kernel
theorem d_Tr_strength_16 : decode c_Tr_strength 16 = .ok (.iload_n 0, 1) := by decide +kernel
theorem d_Tr_strength_17 : decode c_Tr_strength 17 = .ok (.bipush 12, 2) := by decide +kernel
theorem d_Tr_strength_19 : decode c_Tr_strength 19 = .ok (.if_icmp .ne 8, 3) := by decide +kernel
theorem d_Tr_strength_22 : decode c_Tr_strength 22 = .ok (.bipush 12, 2) := by decide +kernel
theorem d_Tr_strength_24 : decode c_Tr_strength 24 = .ok (.goto 5, 3) := by decide +kernel
theorem d_Tr_strength_27 : decode c_Tr_strength 27 = .ok (.bipush 10, 2) := by decide +kernel
theorem d_Tr_strength_29 : decode c_Tr_strength 29 = .ok (.ireturn, 1) := by decide +kernel
abbrev c_Tr_init : ByteArray := prog_11_method_1_code
abbrev r_Tr_init : Option FieldType := none
def y_Tr_init : MethodName := ⟨"PinKindChecks$ToldRule", "<init>", "(II[I[I)V"⟩
theorem d_Tr_init_0 : decode c_Tr_init 0 = .ok (.aload_n 0, 1) := by decide +kernel
theorem d_Tr_init_1 : decode c_Tr_init 1 = .ok (.invokespecial 3, 3) := by decide +kernel
theorem d_Tr_init_4 : decode c_Tr_init 4 = .ok (.aload_n 0, 1) := by decide +kernel
theorem d_Tr_init_5 : decode c_Tr_init 5 = .ok (.iload_n 1, 1) := by decide +kernel
theorem d_Tr_init_6 : decode c_Tr_init 6 = .ok (.putfield 9, 3) := by decide +kernel
theorem d_Tr_init_9 : decode c_Tr_init 9 = .ok (.aload_n 0, 1) := by decide +kernel
theorem d_Tr_init_10 : decode c_Tr_init 10 = .ok (.iload_n 2, 1) := by decide +kernel
theorem d_Tr_init_11 : decode c_Tr_init 11 = .ok (.putfield 15, 3) := by decide +kernel
theorem d_Tr_init_14 : decode c_Tr_init 14 = .ok (.aload_n 0, 1) := by decide +kernel
theorem d_Tr_init_15 : decode c_Tr_init 15 = .ok (.aload_n 3, 1) := by decide +kernel
theorem d_Tr_init_16 : decode c_Tr_init 16 = .ok (.putfield 18, 3) := by decide +kernel
theorem d_Tr_init_19 : decode c_Tr_init 19 = .ok (.aload_n 0, 1) := by decide +kernel
theorem d_Tr_init_20 : decode c_Tr_init 20 = .ok (.aload 4, 2) := by decide +kernel
theorem d_Tr_init_22 : decode c_Tr_init 22 = .ok (.putfield 22, 3) := by decide +kernel
theorem d_Tr_init_25 : decode c_Tr_init 25 = .ok (.return_, 1) := by decide +kernel
end
section
abbrev c_Tx_init : ByteArray := prog_8_method_1_code
abbrev r_Tx_init : Option FieldType := none
def y_Tx_init : MethodName := ⟨"PinKindChecks$RuleText", "<init>", "()V"⟩
theorem d_Tx_init_0 : decode c_Tx_init 0 = .ok (.aload_n 0, 1) := by decide +kernel
theorem d_Tx_init_1 : decode c_Tx_init 1 = .ok (.invokespecial 3, 3) := by decide +kernel
theorem d_Tx_init_4 : decode c_Tx_init 4 = .ok (.aload_n 0, 1) := by decide +kernel
theorem d_Tx_init_5 : decode c_Tx_init 5 = .ok (.sipush 160, 3) := by decide +kernel
theorem d_Tx_init_8 : decode c_Tx_init 8 = .ok (.newarray .char, 2) := by decide +kernel
theorem d_Tx_init_10 : decode c_Tx_init 10 = .ok (.putfield 9, 3) := by decide +kernel
theorem d_Tx_init_13 : decode c_Tx_init 13 = .ok (.aload_n 0, 1) := by decide +kernel
theorem d_Tx_init_14 : decode c_Tx_init 14 = .ok (.iconst 0, 1) := by decide +kernel
theorem d_Tx_init_15 : decode c_Tx_init 15 = .ok (.putfield 15, 3) := by decide +kernel
theorem d_Tx_init_18 : decode c_Tx_init 18 = .ok (.aload_n 0, 1) := by decide +kernel
theorem d_Tx_init_19 : decode c_Tx_init 19 = .ok (.iconst 0, 1) := by decide +kernel
theorem d_Tx_init_20 : decode c_Tx_init 20 = .ok (.putfield 19, 3) := by decide +kernel
theorem d_Tx_init_23 : decode c_Tx_init 23 = .ok (.aload_n 0, 1) := by decide +kernel
theorem d_Tx_init_24 : decode c_Tx_init 24 = .ok (.iconst 0, 1) := by decide +kernel
theorem d_Tx_init_25 : decode c_Tx_init 25 = .ok (.putfield 22, 3) := by decide +kernel
theorem d_Tx_init_28 : decode c_Tx_init 28 = .ok (.return_, 1) := by decide +kernel
abbrev c_Tx_addLetter : ByteArray := prog_8_method_2_code
abbrev r_Tx_addLetter : Option FieldType := (some FieldType.boolean)
def y_Tx_addLetter : MethodName := ⟨"PinKindChecks$RuleText", "addLetter", "(I)Z"⟩
theorem d_Tx_addLetter_0 : decode c_Tx_addLetter 0 = .ok (.iload_n 1, 1) := by decide +kernel
theorem d_Tx_addLetter_1 : decode c_Tx_addLetter 1 = .ok (.bipush 32, 2) := by decide +kernel
theorem d_Tx_addLetter_3 : decode c_Tx_addLetter 3 = .ok (.if_icmp .lt 21, 3) := by decide +kernel
theorem d_Tx_addLetter_6 : decode c_Tx_addLetter 6 = .ok (.iload_n 1, 1) := by decide +kernel
theorem d_Tx_addLetter_7 : decode c_Tx_addLetter 7 = .ok (.bipush 126, 2) := by decide +kernel
theorem d_Tx_addLetter_9 : decode c_Tx_addLetter 9 = .ok (.if_icmp .gt 15, 3) := by decide +kernel
theorem d_Tx_addLetter_12 : decode c_Tx_addLetter 12 = .ok (.aload_n 0, 1) := by decide +kernel
theorem d_Tx_addLetter_13 : decode c_Tx_addLetter 13 = .ok (.getfield 15, 3) := by decide +kernel
theorem d_Tx_addLetter_16 : decode c_Tx_addLetter 16 = .ok (.aload_n 0, 1) := by decide +kernel
theorem d_Tx_addLetter_17 : decode c_Tx_addLetter 17 = .ok (.getfield 9, 3) := by decide +kernel
theorem d_Tx_addLetter_20 : decode c_Tx_addLetter 20 = .ok (.arraylength, 1) := by decide +kernel
theorem d_Tx_addLetter_21 : decode c_Tx_addLetter 21 = .ok (.if_icmp .lt 5, 3) := by decide +kernel
theorem d_Tx_addLetter_24 : decode c_Tx_addLetter 24 = .ok (.iconst 0, 1) := by decide +kernel
theorem d_Tx_addLetter_25 : decode c_Tx_addLetter 25 = .ok (.ireturn, 1) := by decide +kernel
theorem d_Tx_addLetter_26 : decode c_Tx_addLetter 26 = .ok (.aload_n 0, 1) := by decide +kernel
theorem d_Tx_addLetter_27 : decode c_Tx_addLetter 27 = .ok (.getfield 9, 3) := by decide +kernel
theorem d_Tx_addLetter_30 : decode c_Tx_addLetter 30 = .ok (.aload_n 0, 1) := by decide +kernel
theorem d_Tx_addLetter_31 : decode c_Tx_addLetter 31 = .ok (.getfield 15, 3) := by decide +kernel
theorem d_Tx_addLetter_34 : decode c_Tx_addLetter 34 = .ok (.iload_n 1, 1) := by decide +kernel
theorem d_Tx_addLetter_35 : decode c_Tx_addLetter 35 = .ok (.i2c, 1) := by decide +kernel
theorem d_Tx_addLetter_36 : decode c_Tx_addLetter 36 = .ok (.castore, 1) := by decide +kernel
theorem d_Tx_addLetter_37 : decode c_Tx_addLetter 37 = .ok (.aload_n 0, 1) := by decide +kernel
theorem d_Tx_addLetter_38 : decode c_Tx_addLetter 38 = .ok (.dup, 1) := by decide +kernel
theorem d_Tx_addLetter_39 : decode c_Tx_addLetter 39 = .ok (.getfield 15, 3) := by decide +kernel
theorem d_Tx_addLetter_42 : decode c_Tx_addLetter 42 = .ok (.iconst 1, 1) := by decide +kernel
theorem d_Tx_addLetter_43 : decode c_Tx_addLetter 43 = .ok (.iadd, 1) := by decide +kernel
theorem d_Tx_addLetter_44 : decode c_Tx_addLetter 44 = .ok (.putfield 15, 3) := by decide +kernel
theorem d_Tx_addLetter_47 : decode c_Tx_addLetter 47 = .ok (.iconst 1, 1) := by decide +kernel
theorem d_Tx_addLetter_48 : decode c_Tx_addLetter 48 = .ok (.ireturn, 1) := by decide +kernel
abbrev c_Tx_wipe : ByteArray := prog_8_method_3_code
abbrev r_Tx_wipe : Option FieldType := none
def y_Tx_wipe : MethodName := ⟨"PinKindChecks$RuleText", "wipe", "()V"⟩
theorem d_Tx_wipe_0 : decode c_Tx_wipe 0 = .ok (.aload_n 0, 1) := by decide +kernel
theorem d_Tx_wipe_1 : decode c_Tx_wipe 1 = .ok (.iconst 0, 1) := by decide +kernel
theorem d_Tx_wipe_2 : decode c_Tx_wipe 2 = .ok (.putfield 15, 3) := by decide +kernel
theorem d_Tx_wipe_5 : decode c_Tx_wipe 5 = .ok (.return_, 1) := by decide +kernel
abbrev c_Tx_toStart : ByteArray := prog_8_method_4_code
abbrev r_Tx_toStart : Option FieldType := none
def y_Tx_toStart : MethodName := ⟨"PinKindChecks$RuleText", "toStart", "()V"⟩
theorem d_Tx_toStart_0 : decode c_Tx_toStart 0 = .ok (.aload_n 0, 1) := by decide +kernel
theorem d_Tx_toStart_1 : decode c_Tx_toStart 1 = .ok (.iconst 0, 1) := by decide +kernel
theorem d_Tx_toStart_2 : decode c_Tx_toStart 2 = .ok (.putfield 22, 3) := by decide +kernel
theorem d_Tx_toStart_5 : decode c_Tx_toStart 5 = .ok (.return_, 1) := by decide +kernel
abbrev c_Tx_toNextWord : ByteArray := prog_8_method_5_code
abbrev r_Tx_toNextWord : Option FieldType := (some FieldType.boolean)
def y_Tx_toNextWord : MethodName := ⟨"PinKindChecks$RuleText", "toNextWord", "()Z"⟩
theorem d_Tx_toNextWord_0 : decode c_Tx_toNextWord 0 = .ok (.aload_n 0, 1) := by decide +kernel
theorem d_Tx_toNextWord_1 : decode c_Tx_toNextWord 1 = .ok (.aload_n 0, 1) := by decide +kernel
theorem d_Tx_toNextWord_2 : decode c_Tx_toNextWord 2 = .ok (.getfield 22, 3) := by decide +kernel
theorem d_Tx_toNextWord_5 : decode c_Tx_toNextWord 5 = .ok (.putfield 19, 3) := by decide +kernel
theorem d_Tx_toNextWord_8 : decode c_Tx_toNextWord 8 = .ok (.aload_n 0, 1) := by decide +kernel
theorem d_Tx_toNextWord_9 : decode c_Tx_toNextWord 9 = .ok (.aload_n 0, 1) := by decide +kernel
theorem d_Tx_toNextWord_10 : decode c_Tx_toNextWord 10 = .ok (.getfield 19, 3) := by decide +kernel
theorem d_Tx_toNextWord_13 : decode c_Tx_toNextWord 13 = .ok (.invokevirtual 25, 3) := by decide +kernel
theorem d_Tx_toNextWord_16 : decode c_Tx_toNextWord 16 = .ok (.ifCond .eq 30, 3) := by decide +kernel
theorem d_Tx_toNextWord_19 : decode c_Tx_toNextWord 19 = .ok (.aload_n 0, 1) := by decide +kernel
theorem d_Tx_toNextWord_20 : decode c_Tx_toNextWord 20 = .ok (.getfield 9, 3) := by decide +kernel
theorem d_Tx_toNextWord_23 : decode c_Tx_toNextWord 23 = .ok (.aload_n 0, 1) := by decide +kernel
theorem d_Tx_toNextWord_24 : decode c_Tx_toNextWord 24 = .ok (.getfield 19, 3) := by decide +kernel
theorem d_Tx_toNextWord_27 : decode c_Tx_toNextWord 27 = .ok (.caload, 1) := by decide +kernel
theorem d_Tx_toNextWord_28 : decode c_Tx_toNextWord 28 = .ok (.bipush 32, 2) := by decide +kernel
theorem d_Tx_toNextWord_30 : decode c_Tx_toNextWord 30 = .ok (.if_icmp .ne 16, 3) := by decide +kernel
theorem d_Tx_toNextWord_33 : decode c_Tx_toNextWord 33 = .ok (.aload_n 0, 1) := by decide +kernel
theorem d_Tx_toNextWord_34 : decode c_Tx_toNextWord 34 = .ok (.dup, 1) := by decide +kernel
theorem d_Tx_toNextWord_35 : decode c_Tx_toNextWord 35 = .ok (.getfield 19, 3) := by decide +kernel
theorem d_Tx_toNextWord_38 : decode c_Tx_toNextWord 38 = .ok (.iconst 1, 1) := by decide +kernel
theorem d_Tx_toNextWord_39 : decode c_Tx_toNextWord 39 = .ok (.iadd, 1) := by decide +kernel
theorem d_Tx_toNextWord_40 : decode c_Tx_toNextWord 40 = .ok (.putfield 19, 3) := by decide +kernel
theorem d_Tx_toNextWord_43 : decode c_Tx_toNextWord 43 = .ok (.goto (-35), 3) := by decide +kernel
theorem d_Tx_toNextWord_46 : decode c_Tx_toNextWord 46 = .ok (.aload_n 0, 1) := by decide +kernel
theorem d_Tx_toNextWord_47 : decode c_Tx_toNextWord 47 = .ok (.aload_n 0, 1) := by decide +kernel
theorem d_Tx_toNextWord_48 : decode c_Tx_toNextWord 48 = .ok (.getfield 19, 3) := by decide +kernel
theorem d_Tx_toNextWord_51 : decode c_Tx_toNextWord 51 = .ok (.putfield 22, 3) := by decide +kernel
theorem d_Tx_toNextWord_54 : decode c_Tx_toNextWord 54 = .ok (.aload_n 0, 1) := by decide +kernel
theorem d_Tx_toNextWord_55 : decode c_Tx_toNextWord 55 = .ok (.aload_n 0, 1) := by decide +kernel
theorem d_Tx_toNextWord_56 : decode c_Tx_toNextWord 56 = .ok (.getfield 22, 3) := by decide +kernel
theorem d_Tx_toNextWord_59 : decode c_Tx_toNextWord 59 = .ok (.invokevirtual 25, 3) := by decide +kernel
theorem d_Tx_toNextWord_62 : decode c_Tx_toNextWord 62 = .ok (.ifCond .eq 30, 3) := by decide +kernel
theorem d_Tx_toNextWord_65 : decode c_Tx_toNextWord 65 = .ok (.aload_n 0, 1) := by decide +kernel
theorem d_Tx_toNextWord_66 : decode c_Tx_toNextWord 66 = .ok (.getfield 9, 3) := by decide +kernel
theorem d_Tx_toNextWord_69 : decode c_Tx_toNextWord 69 = .ok (.aload_n 0, 1) := by decide +kernel
theorem d_Tx_toNextWord_70 : decode c_Tx_toNextWord 70 = .ok (.getfield 22, 3) := by decide +kernel
theorem d_Tx_toNextWord_73 : decode c_Tx_toNextWord 73 = .ok (.caload, 1) := by decide +kernel
theorem d_Tx_toNextWord_74 : decode c_Tx_toNextWord 74 = .ok (.bipush 32, 2) := by decide +kernel
theorem d_Tx_toNextWord_76 : decode c_Tx_toNextWord 76 = .ok (.if_icmp .eq 16, 3) := by decide +kernel
theorem d_Tx_toNextWord_79 : decode c_Tx_toNextWord 79 = .ok (.aload_n 0, 1) := by decide +kernel
theorem d_Tx_toNextWord_80 : decode c_Tx_toNextWord 80 = .ok (.dup, 1) := by decide +kernel
theorem d_Tx_toNextWord_81 : decode c_Tx_toNextWord 81 = .ok (.getfield 22, 3) := by decide +kernel
theorem d_Tx_toNextWord_84 : decode c_Tx_toNextWord 84 = .ok (.iconst 1, 1) := by decide +kernel
theorem d_Tx_toNextWord_85 : decode c_Tx_toNextWord 85 = .ok (.iadd, 1) := by decide +kernel
theorem d_Tx_toNextWord_86 : decode c_Tx_toNextWord 86 = .ok (.putfield 22, 3) := by decide +kernel
theorem d_Tx_toNextWord_89 : decode c_Tx_toNextWord 89 = .ok (.goto (-35), 3) := by decide +kernel
theorem d_Tx_toNextWord_92 : decode c_Tx_toNextWord 92 = .ok (.aload_n 0, 1) := by decide +kernel
theorem d_Tx_toNextWord_93 : decode c_Tx_toNextWord 93 = .ok (.getfield 22, 3) := by decide +kernel
theorem d_Tx_toNextWord_96 : decode c_Tx_toNextWord 96 = .ok (.aload_n 0, 1) := by decide +kernel
theorem d_Tx_toNextWord_97 : decode c_Tx_toNextWord 97 = .ok (.getfield 19, 3) := by decide +kernel
theorem d_Tx_toNextWord_100 : decode c_Tx_toNextWord 100 = .ok (.if_icmp .le 7, 3) := by decide +kernel
theorem d_Tx_toNextWord_103 : decode c_Tx_toNextWord 103 = .ok (.iconst 1, 1) := by decide +kernel
theorem d_Tx_toNextWord_104 : decode c_Tx_toNextWord 104 = .ok (.goto 4, 3) := by decide +kernel
theorem d_Tx_toNextWord_107 : decode c_Tx_toNextWord 107 = .ok (.iconst 0, 1) := by decide +kernel
theorem d_Tx_toNextWord_108 : decode c_Tx_toNextWord 108 = .ok (.ireturn, 1) := by decide +kernel
abbrev c_Tx_isInside : ByteArray := prog_8_method_6_code
abbrev r_Tx_isInside : Option FieldType := (some FieldType.boolean)
def y_Tx_isInside : MethodName := ⟨"PinKindChecks$RuleText", "isInside", "(I)Z"⟩
theorem d_Tx_isInside_0 : decode c_Tx_isInside 0 = .ok (.iload_n 1, 1) := by decide +kernel
theorem d_Tx_isInside_1 : decode c_Tx_isInside 1 = .ok (.ifCond .lt 24, 3) := by decide +kernel
theorem d_Tx_isInside_4 : decode c_Tx_isInside 4 = .ok (.iload_n 1, 1) := by decide +kernel
theorem d_Tx_isInside_5 : decode c_Tx_isInside 5 = .ok (.aload_n 0, 1) := by decide +kernel
theorem d_Tx_isInside_6 : decode c_Tx_isInside 6 = .ok (.getfield 15, 3) := by decide +kernel
theorem d_Tx_isInside_9 : decode c_Tx_isInside 9 = .ok (.if_icmp .ge 16, 3) := by decide +kernel
theorem d_Tx_isInside_12 : decode c_Tx_isInside 12 = .ok (.iload_n 1, 1) := by decide +kernel
theorem d_Tx_isInside_13 : decode c_Tx_isInside 13 = .ok (.aload_n 0, 1) := by decide +kernel
theorem d_Tx_isInside_14 : decode c_Tx_isInside 14 = .ok (.getfield 9, 3) := by decide +kernel
theorem d_Tx_isInside_17 : decode c_Tx_isInside 17 = .ok (.arraylength, 1) := by decide +kernel
theorem d_Tx_isInside_18 : decode c_Tx_isInside 18 = .ok (.if_icmp .ge 7, 3) := by decide +kernel
theorem d_Tx_isInside_21 : decode c_Tx_isInside 21 = .ok (.iconst 1, 1) := by decide +kernel
theorem d_Tx_isInside_22 : decode c_Tx_isInside 22 = .ok (.goto 4, 3) := by decide +kernel
theorem d_Tx_isInside_25 : decode c_Tx_isInside 25 = .ok (.iconst 0, 1) := by decide +kernel
theorem d_Tx_isInside_26 : decode c_Tx_isInside 26 = .ok (.ireturn, 1) := by decide +kernel
abbrev c_Tx_wordIs : ByteArray := prog_8_method_7_code
abbrev r_Tx_wordIs : Option FieldType := (some FieldType.boolean)
def y_Tx_wordIs : MethodName := ⟨"PinKindChecks$RuleText", "wordIs", "(Ljava/lang/String;)Z"⟩
theorem d_Tx_wordIs_0 : decode c_Tx_wordIs 0 = .ok (.aload_n 1, 1) := by decide +kernel
theorem d_Tx_wordIs_1 : decode c_Tx_wordIs 1 = .ok (.invokevirtual 29, 3) := by decide +kernel
theorem d_Tx_wordIs_4 : decode c_Tx_wordIs 4 = .ok (.aload_n 0, 1) := by decide +kernel
theorem d_Tx_wordIs_5 : decode c_Tx_wordIs 5 = .ok (.invokevirtual 34, 3) := by decide +kernel
theorem d_Tx_wordIs_8 : decode c_Tx_wordIs 8 = .ok (.if_icmp .eq 5, 3) := by decide +kernel
theorem d_Tx_wordIs_11 : decode c_Tx_wordIs 11 = .ok (.iconst 0, 1) := by decide +kernel
theorem d_Tx_wordIs_12 : decode c_Tx_wordIs 12 = .ok (.ireturn, 1) := by decide +kernel
theorem d_Tx_wordIs_13 : decode c_Tx_wordIs 13 = .ok (.iconst 0, 1) := by decide +kernel
theorem d_Tx_wordIs_14 : decode c_Tx_wordIs 14 = .ok (.istore_n 2, 1) := by decide +kernel
theorem d_Tx_wordIs_15 : decode c_Tx_wordIs 15 = .ok (.iload_n 2, 1) := by decide +kernel
theorem d_Tx_wordIs_16 : decode c_Tx_wordIs 16 = .ok (.aload_n 1, 1) := by decide +kernel
theorem d_Tx_wordIs_17 : decode c_Tx_wordIs 17 = .ok (.invokevirtual 29, 3) := by decide +kernel
theorem d_Tx_wordIs_20 : decode c_Tx_wordIs 20 = .ok (.if_icmp .ge 24, 3) := by decide +kernel
theorem d_Tx_wordIs_23 : decode c_Tx_wordIs 23 = .ok (.aload_n 1, 1) := by decide +kernel
theorem d_Tx_wordIs_24 : decode c_Tx_wordIs 24 = .ok (.iload_n 2, 1) := by decide +kernel
theorem d_Tx_wordIs_25 : decode c_Tx_wordIs 25 = .ok (.invokevirtual 37, 3) := by decide +kernel
theorem d_Tx_wordIs_28 : decode c_Tx_wordIs 28 = .ok (.aload_n 0, 1) := by decide +kernel
theorem d_Tx_wordIs_29 : decode c_Tx_wordIs 29 = .ok (.iload_n 2, 1) := by decide +kernel
theorem d_Tx_wordIs_30 : decode c_Tx_wordIs 30 = .ok (.invokevirtual 41, 3) := by decide +kernel
theorem d_Tx_wordIs_33 : decode c_Tx_wordIs 33 = .ok (.if_icmp .eq 5, 3) := by decide +kernel
theorem d_Tx_wordIs_36 : decode c_Tx_wordIs 36 = .ok (.iconst 0, 1) := by decide +kernel
theorem d_Tx_wordIs_37 : decode c_Tx_wordIs 37 = .ok (.ireturn, 1) := by decide +kernel
theorem d_Tx_wordIs_38 : decode c_Tx_wordIs 38 = .ok (.iinc 2 1, 3) := by decide +kernel
theorem d_Tx_wordIs_41 : decode c_Tx_wordIs 41 = .ok (.goto (-26), 3) := by decide +kernel
theorem d_Tx_wordIs_44 : decode c_Tx_wordIs 44 = .ok (.iconst 1, 1) := by decide +kernel
theorem d_Tx_wordIs_45 : decode c_Tx_wordIs 45 = .ok (.ireturn, 1) := by decide +kernel
abbrev c_Tx_wordLength : ByteArray := prog_8_method_8_code
abbrev r_Tx_wordLength : Option FieldType := (some FieldType.int)
def y_Tx_wordLength : MethodName := ⟨"PinKindChecks$RuleText", "wordLength", "()I"⟩
theorem d_Tx_wordLength_0 : decode c_Tx_wordLength 0 = .ok (.aload_n 0, 1) := by decide +kernel
theorem d_Tx_wordLength_1 : decode c_Tx_wordLength 1 = .ok (.getfield 22, 3) := by decide +kernel
theorem d_Tx_wordLength_4 : decode c_Tx_wordLength 4 = .ok (.aload_n 0, 1) := by decide +kernel
theorem d_Tx_wordLength_5 : decode c_Tx_wordLength 5 = .ok (.getfield 19, 3) := by decide +kernel
theorem d_Tx_wordLength_8 : decode c_Tx_wordLength 8 = .ok (.isub, 1) := by decide +kernel
theorem d_Tx_wordLength_9 : decode c_Tx_wordLength 9 = .ok (.ireturn, 1) := by decide +kernel
abbrev c_Tx_letterOfWord : ByteArray := prog_8_method_9_code
abbrev r_Tx_letterOfWord : Option FieldType := (some FieldType.char)
def y_Tx_letterOfWord : MethodName := ⟨"PinKindChecks$RuleText", "letterOfWord", "(I)C"⟩
theorem d_Tx_letterOfWord_0 : decode c_Tx_letterOfWord 0 = .ok (.aload_n 0, 1) := by decide +kernel
theorem d_Tx_letterOfWord_1 : decode c_Tx_letterOfWord 1 = .ok (.getfield 19, 3) := by decide +kernel
theorem d_Tx_letterOfWord_4 : decode c_Tx_letterOfWord 4 = .ok (.iload_n 1, 1) := by decide +kernel
theorem d_Tx_letterOfWord_5 : decode c_Tx_letterOfWord 5 = .ok (.iadd, 1) := by decide +kernel
theorem d_Tx_letterOfWord_6 : decode c_Tx_letterOfWord 6 = .ok (.istore_n 2, 1) := by decide +kernel
theorem d_Tx_letterOfWord_7 : decode c_Tx_letterOfWord 7 = .ok (.iload_n 2, 1) := by decide +kernel
theorem d_Tx_letterOfWord_8 : decode c_Tx_letterOfWord 8 = .ok (.aload_n 0, 1) := by decide +kernel
theorem d_Tx_letterOfWord_9 : decode c_Tx_letterOfWord 9 = .ok (.getfield 19, 3) := by decide +kernel
theorem d_Tx_letterOfWord_12 : decode c_Tx_letterOfWord 12 = .ok (.if_icmp .lt 29, 3) := by decide +kernel
theorem d_Tx_letterOfWord_15 : decode c_Tx_letterOfWord 15 = .ok (.iload_n 2, 1) := by decide +kernel
theorem d_Tx_letterOfWord_16 : decode c_Tx_letterOfWord 16 = .ok (.aload_n 0, 1) := by decide +kernel
theorem d_Tx_letterOfWord_17 : decode c_Tx_letterOfWord 17 = .ok (.getfield 22, 3) := by decide +kernel
theorem d_Tx_letterOfWord_20 : decode c_Tx_letterOfWord 20 = .ok (.if_icmp .ge 21, 3) := by decide +kernel
theorem d_Tx_letterOfWord_23 : decode c_Tx_letterOfWord 23 = .ok (.iload_n 2, 1) := by decide +kernel
theorem d_Tx_letterOfWord_24 : decode c_Tx_letterOfWord 24 = .ok (.aload_n 0, 1) := by decide +kernel
theorem d_Tx_letterOfWord_25 : decode c_Tx_letterOfWord 25 = .ok (.getfield 9, 3) := by decide +kernel
theorem d_Tx_letterOfWord_28 : decode c_Tx_letterOfWord 28 = .ok (.arraylength, 1) := by decide +kernel
theorem d_Tx_letterOfWord_29 : decode c_Tx_letterOfWord 29 = .ok (.if_icmp .ge 12, 3) := by decide +kernel
theorem d_Tx_letterOfWord_32 : decode c_Tx_letterOfWord 32 = .ok (.aload_n 0, 1) := by decide +kernel
theorem d_Tx_letterOfWord_33 : decode c_Tx_letterOfWord 33 = .ok (.getfield 9, 3) := by decide +kernel
theorem d_Tx_letterOfWord_36 : decode c_Tx_letterOfWord 36 = .ok (.iload_n 2, 1) := by decide +kernel
theorem d_Tx_letterOfWord_37 : decode c_Tx_letterOfWord 37 = .ok (.caload, 1) := by decide +kernel
theorem d_Tx_letterOfWord_38 : decode c_Tx_letterOfWord 38 = .ok (.goto 5, 3) := by decide +kernel
theorem d_Tx_letterOfWord_41 : decode c_Tx_letterOfWord 41 = .ok (.bipush 32, 2) := by decide +kernel
theorem d_Tx_letterOfWord_43 : decode c_Tx_letterOfWord 43 = .ok (.ireturn, 1) := by decide +kernel
abbrev c_Tx_digitOfWord : ByteArray := prog_8_method_10_code
abbrev r_Tx_digitOfWord : Option FieldType := (some FieldType.int)
def y_Tx_digitOfWord : MethodName := ⟨"PinKindChecks$RuleText", "digitOfWord", "(I)I"⟩
theorem d_Tx_digitOfWord_0 : decode c_Tx_digitOfWord 0 = .ok (.aload_n 0, 1) := by decide +kernel
theorem d_Tx_digitOfWord_1 : decode c_Tx_digitOfWord 1 = .ok (.iload_n 1, 1) := by decide +kernel
theorem d_Tx_digitOfWord_2 : decode c_Tx_digitOfWord 2 = .ok (.invokevirtual 41, 3) := by decide +kernel
theorem d_Tx_digitOfWord_5 : decode c_Tx_digitOfWord 5 = .ok (.istore_n 2, 1) := by decide +kernel
theorem d_Tx_digitOfWord_6 : decode c_Tx_digitOfWord 6 = .ok (.iload_n 2, 1) := by decide +kernel
theorem d_Tx_digitOfWord_7 : decode c_Tx_digitOfWord 7 = .ok (.bipush 48, 2) := by decide +kernel
theorem d_Tx_digitOfWord_9 : decode c_Tx_digitOfWord 9 = .ok (.if_icmp .lt 16, 3) := by decide +kernel
theorem d_Tx_digitOfWord_12 : decode c_Tx_digitOfWord 12 = .ok (.iload_n 2, 1) := by decide +kernel
theorem d_Tx_digitOfWord_13 : decode c_Tx_digitOfWord 13 = .ok (.bipush 57, 2) := by decide +kernel
theorem d_Tx_digitOfWord_15 : decode c_Tx_digitOfWord 15 = .ok (.if_icmp .gt 10, 3) := by decide +kernel
theorem d_Tx_digitOfWord_18 : decode c_Tx_digitOfWord 18 = .ok (.iload_n 2, 1) := by decide +kernel
theorem d_Tx_digitOfWord_19 : decode c_Tx_digitOfWord 19 = .ok (.bipush 48, 2) := by decide +kernel
theorem d_Tx_digitOfWord_21 : decode c_Tx_digitOfWord 21 = .ok (.isub, 1) := by decide +kernel
theorem d_Tx_digitOfWord_22 : decode c_Tx_digitOfWord 22 = .ok (.goto 4, 3) := by decide +kernel
theorem d_Tx_digitOfWord_25 : decode c_Tx_digitOfWord 25 = .ok (.iconst (-1), 1) := by decide +kernel
theorem d_Tx_digitOfWord_26 : decode c_Tx_digitOfWord 26 = .ok (.ireturn, 1) := by decide +kernel
end
section
abbrev c_Wv_init : ByteArray := prog_12_method_1_code
abbrev r_Wv_init : Option FieldType := none
def y_Wv_init : MethodName := ⟨"PinKindChecks$Waivers", "<init>", "()V"⟩
theorem d_Wv_init_0 : decode c_Wv_init 0 = .ok (.aload_n 0, 1) := by decide +kernel
theorem d_Wv_init_1 : decode c_Wv_init 1 = .ok (.invokespecial 3, 3) := by decide +kernel
theorem d_Wv_init_4 : decode c_Wv_init 4 = .ok (.aload_n 0, 1) := by decide +kernel
theorem d_Wv_init_5 : decode c_Wv_init 5 = .ok (.bipush 50, 2) := by decide +kernel
theorem d_Wv_init_7 : decode c_Wv_init 7 = .ok (.newarray .int, 2) := by decide +kernel
theorem d_Wv_init_9 : decode c_Wv_init 9 = .ok (.putfield 9, 3) := by decide +kernel
theorem d_Wv_init_12 : decode c_Wv_init 12 = .ok (.aload_n 0, 1) := by decide +kernel
theorem d_Wv_init_13 : decode c_Wv_init 13 = .ok (.bipush 50, 2) := by decide +kernel
theorem d_Wv_init_15 : decode c_Wv_init 15 = .ok (.newarray .int, 2) := by decide +kernel
theorem d_Wv_init_17 : decode c_Wv_init 17 = .ok (.putfield 15, 3) := by decide +kernel
theorem d_Wv_init_20 : decode c_Wv_init 20 = .ok (.aload_n 0, 1) := by decide +kernel
theorem d_Wv_init_21 : decode c_Wv_init 21 = .ok (.iconst 0, 1) := by decide +kernel
theorem d_Wv_init_22 : decode c_Wv_init 22 = .ok (.putfield 18, 3) := by decide +kernel
theorem d_Wv_init_25 : decode c_Wv_init 25 = .ok (.return_, 1) := by decide +kernel
abbrev c_Wv_reasonFor : ByteArray := prog_12_method_3_code
abbrev r_Wv_reasonFor : Option FieldType := (some FieldType.int)
def y_Wv_reasonFor : MethodName := ⟨"PinKindChecks$Waivers", "reasonFor", "(I)I"⟩
theorem d_Wv_reasonFor_0 : decode c_Wv_reasonFor 0 = .ok (.aload_n 0, 1) := by decide +kernel
theorem d_Wv_reasonFor_1 : decode c_Wv_reasonFor 1 = .ok (.iload_n 1, 1) := by decide +kernel
theorem d_Wv_reasonFor_2 : decode c_Wv_reasonFor 2 = .ok (.invokevirtual 22, 3) := by decide +kernel
theorem d_Wv_reasonFor_5 : decode c_Wv_reasonFor 5 = .ok (.istore_n 2, 1) := by decide +kernel
theorem d_Wv_reasonFor_6 : decode c_Wv_reasonFor 6 = .ok (.iload_n 2, 1) := by decide +kernel
theorem d_Wv_reasonFor_7 : decode c_Wv_reasonFor 7 = .ok (.aload_n 0, 1) := by decide +kernel
theorem d_Wv_reasonFor_8 : decode c_Wv_reasonFor 8 = .ok (.getfield 15, 3) := by decide +kernel
theorem d_Wv_reasonFor_11 : decode c_Wv_reasonFor 11 = .ok (.arraylength, 1) := by decide +kernel
theorem d_Wv_reasonFor_12 : decode c_Wv_reasonFor 12 = .ok (.invokestatic 26, 3) := by decide +kernel
theorem d_Wv_reasonFor_15 : decode c_Wv_reasonFor 15 = .ok (.ifCond .eq 12, 3) := by decide +kernel
theorem d_Wv_reasonFor_18 : decode c_Wv_reasonFor 18 = .ok (.aload_n 0, 1) := by decide +kernel
theorem d_Wv_reasonFor_19 : decode c_Wv_reasonFor 19 = .ok (.getfield 15, 3) := by decide +kernel
theorem d_Wv_reasonFor_22 : decode c_Wv_reasonFor 22 = .ok (.iload_n 2, 1) := by decide +kernel
theorem d_Wv_reasonFor_23 : decode c_Wv_reasonFor 23 = .ok (.iaload, 1) := by decide +kernel
theorem d_Wv_reasonFor_24 : decode c_Wv_reasonFor 24 = .ok (.goto 4, 3) := by decide +kernel
theorem d_Wv_reasonFor_27 : decode c_Wv_reasonFor 27 = .ok (.iconst (-1), 1) := by decide +kernel
theorem d_Wv_reasonFor_28 : decode c_Wv_reasonFor 28 = .ok (.ireturn, 1) := by decide +kernel
abbrev c_Wv_indexOf : ByteArray := prog_12_method_5_code
abbrev r_Wv_indexOf : Option FieldType := (some FieldType.int)
def y_Wv_indexOf : MethodName := ⟨"PinKindChecks$Waivers", "indexOf", "(I)I"⟩
theorem d_Wv_indexOf_0 : decode c_Wv_indexOf 0 = .ok (.iconst 0, 1) := by decide +kernel
theorem d_Wv_indexOf_1 : decode c_Wv_indexOf 1 = .ok (.istore_n 2, 1) := by decide +kernel
theorem d_Wv_indexOf_2 : decode c_Wv_indexOf 2 = .ok (.iload_n 2, 1) := by decide +kernel
theorem d_Wv_indexOf_3 : decode c_Wv_indexOf 3 = .ok (.aload_n 0, 1) := by decide +kernel
theorem d_Wv_indexOf_4 : decode c_Wv_indexOf 4 = .ok (.getfield 18, 3) := by decide +kernel
theorem d_Wv_indexOf_7 : decode c_Wv_indexOf 7 = .ok (.if_icmp .ge 30, 3) := by decide +kernel
theorem d_Wv_indexOf_10 : decode c_Wv_indexOf 10 = .ok (.iload_n 2, 1) := by decide +kernel
theorem d_Wv_indexOf_11 : decode c_Wv_indexOf 11 = .ok (.aload_n 0, 1) := by decide +kernel
theorem d_Wv_indexOf_12 : decode c_Wv_indexOf 12 = .ok (.getfield 9, 3) := by decide +kernel
theorem d_Wv_indexOf_15 : decode c_Wv_indexOf 15 = .ok (.arraylength, 1) := by decide +kernel
theorem d_Wv_indexOf_16 : decode c_Wv_indexOf 16 = .ok (.if_icmp .ge 21, 3) := by decide +kernel
theorem d_Wv_indexOf_19 : decode c_Wv_indexOf 19 = .ok (.aload_n 0, 1) := by decide +kernel
theorem d_Wv_indexOf_20 : decode c_Wv_indexOf 20 = .ok (.getfield 9, 3) := by decide +kernel
theorem d_Wv_indexOf_23 : decode c_Wv_indexOf 23 = .ok (.iload_n 2, 1) := by decide +kernel
theorem d_Wv_indexOf_24 : decode c_Wv_indexOf 24 = .ok (.iaload, 1) := by decide +kernel
theorem d_Wv_indexOf_25 : decode c_Wv_indexOf 25 = .ok (.iload_n 1, 1) := by decide +kernel
theorem d_Wv_indexOf_26 : decode c_Wv_indexOf 26 = .ok (.if_icmp .ne 5, 3) := by decide +kernel
theorem d_Wv_indexOf_29 : decode c_Wv_indexOf 29 = .ok (.iload_n 2, 1) := by decide +kernel
theorem d_Wv_indexOf_30 : decode c_Wv_indexOf 30 = .ok (.ireturn, 1) := by decide +kernel
theorem d_Wv_indexOf_31 : decode c_Wv_indexOf 31 = .ok (.iinc 2 1, 3) := by decide +kernel
theorem d_Wv_indexOf_34 : decode c_Wv_indexOf 34 = .ok (.goto (-32), 3) := by decide +kernel
theorem d_Wv_indexOf_37 : decode c_Wv_indexOf 37 = .ok (.iconst (-1), 1) := by decide +kernel
theorem d_Wv_indexOf_38 : decode c_Wv_indexOf 38 = .ok (.ireturn, 1) := by decide +kernel
abbrev c_Wv_wipe : ByteArray := prog_12_method_2_code
abbrev r_Wv_wipe : Option FieldType := none
def y_Wv_wipe : MethodName := ⟨"PinKindChecks$Waivers", "wipe", "()V"⟩
theorem d_Wv_wipe_0 : decode c_Wv_wipe 0 = .ok (.aload_n 0, 1) := by decide +kernel
theorem d_Wv_wipe_1 : decode c_Wv_wipe 1 = .ok (.iconst 0, 1) := by decide +kernel
theorem d_Wv_wipe_2 : decode c_Wv_wipe 2 = .ok (.putfield 18, 3) := by decide +kernel
theorem d_Wv_wipe_5 : decode c_Wv_wipe 5 = .ok (.return_, 1) := by decide +kernel
abbrev c_Wv_setReason : ByteArray := prog_12_method_4_code
abbrev r_Wv_setReason : Option FieldType := (some FieldType.boolean)
def y_Wv_setReason : MethodName := ⟨"PinKindChecks$Waivers", "setReason", "(II)Z"⟩
theorem d_Wv_setReason_0 : decode c_Wv_setReason 0 = .ok (.aload_n 0, 1) := by decide +kernel
theorem d_Wv_setReason_1 : decode c_Wv_setReason 1 = .ok (.iload_n 1, 1) := by decide +kernel
theorem d_Wv_setReason_2 : decode c_Wv_setReason 2 = .ok (.invokevirtual 30, 3) := by decide +kernel
theorem d_Wv_setReason_5 : decode c_Wv_setReason 5 = .ok (.iload_n 2, 1) := by decide +kernel
theorem d_Wv_setReason_6 : decode c_Wv_setReason 6 = .ok (.if_icmp .ne 5, 3) := by decide +kernel
theorem d_Wv_setReason_9 : decode c_Wv_setReason 9 = .ok (.iconst 0, 1) := by decide +kernel
theorem d_Wv_setReason_10 : decode c_Wv_setReason 10 = .ok (.ireturn, 1) := by decide +kernel
theorem d_Wv_setReason_11 : decode c_Wv_setReason 11 = .ok (.aload_n 0, 1) := by decide +kernel
theorem d_Wv_setReason_12 : decode c_Wv_setReason 12 = .ok (.iload_n 1, 1) := by decide +kernel
theorem d_Wv_setReason_13 : decode c_Wv_setReason 13 = .ok (.invokevirtual 22, 3) := by decide +kernel
theorem d_Wv_setReason_16 : decode c_Wv_setReason 16 = .ok (.istore_n 3, 1) := by decide +kernel
theorem d_Wv_setReason_17 : decode c_Wv_setReason 17 = .ok (.iload_n 3, 1) := by decide +kernel
theorem d_Wv_setReason_18 : decode c_Wv_setReason 18 = .ok (.iconst (-1), 1) := by decide +kernel
theorem d_Wv_setReason_19 : decode c_Wv_setReason 19 = .ok (.if_icmp .ne 10, 3) := by decide +kernel
theorem d_Wv_setReason_22 : decode c_Wv_setReason 22 = .ok (.aload_n 0, 1) := by decide +kernel
theorem d_Wv_setReason_23 : decode c_Wv_setReason 23 = .ok (.iload_n 1, 1) := by decide +kernel
theorem d_Wv_setReason_24 : decode c_Wv_setReason 24 = .ok (.iload_n 2, 1) := by decide +kernel
theorem d_Wv_setReason_25 : decode c_Wv_setReason 25 = .ok (.invokevirtual 33, 3) := by decide +kernel
theorem d_Wv_setReason_28 : decode c_Wv_setReason 28 = .ok (.ireturn, 1) := by decide +kernel
theorem d_Wv_setReason_29 : decode c_Wv_setReason 29 = .ok (.iload_n 2, 1) := by decide +kernel
theorem d_Wv_setReason_30 : decode c_Wv_setReason 30 = .ok (.iconst (-1), 1) := by decide +kernel
theorem d_Wv_setReason_31 : decode c_Wv_setReason 31 = .ok (.if_icmp .ne 11, 3) := by decide +kernel
theorem d_Wv_setReason_34 : decode c_Wv_setReason 34 = .ok (.aload_n 0, 1) := by decide +kernel
theorem d_Wv_setReason_35 : decode c_Wv_setReason 35 = .ok (.iload_n 3, 1) := by decide +kernel
theorem d_Wv_setReason_36 : decode c_Wv_setReason 36 = .ok (.invokevirtual 36, 3) := by decide +kernel
theorem d_Wv_setReason_39 : decode c_Wv_setReason 39 = .ok (.goto 22, 3) := by decide +kernel
theorem d_Wv_setReason_42 : decode c_Wv_setReason 42 = .ok (.iload_n 3, 1) := by decide +kernel
theorem d_Wv_setReason_43 : decode c_Wv_setReason 43 = .ok (.aload_n 0, 1) := by decide +kernel
theorem d_Wv_setReason_44 : decode c_Wv_setReason 44 = .ok (.getfield 15, 3) := by decide +kernel
theorem d_Wv_setReason_47 : decode c_Wv_setReason 47 = .ok (.arraylength, 1) := by decide +kernel
theorem d_Wv_setReason_48 : decode c_Wv_setReason 48 = .ok (.invokestatic 26, 3) := by decide +kernel
theorem d_Wv_setReason_51 : decode c_Wv_setReason 51 = .ok (.ifCond .eq 10, 3) := by decide +kernel
theorem d_Wv_setReason_54 : decode c_Wv_setReason 54 = .ok (.aload_n 0, 1) := by decide +kernel
theorem d_Wv_setReason_55 : decode c_Wv_setReason 55 = .ok (.getfield 15, 3) := by decide +kernel
theorem d_Wv_setReason_58 : decode c_Wv_setReason 58 = .ok (.iload_n 3, 1) := by decide +kernel
theorem d_Wv_setReason_59 : decode c_Wv_setReason 59 = .ok (.iload_n 2, 1) := by decide +kernel
theorem d_Wv_setReason_60 : decode c_Wv_setReason 60 = .ok (.iastore, 1) := by decide +kernel
theorem d_Wv_setReason_61 : decode c_Wv_setReason 61 = .ok (.iconst 1, 1) := by decide +kernel
theorem d_Wv_setReason_62 : decode c_Wv_setReason 62 = .ok (.ireturn, 1) := by decide +kernel
abbrev c_Wv_append : ByteArray := prog_12_method_6_code
abbrev r_Wv_append : Option FieldType := (some FieldType.boolean)
def y_Wv_append : MethodName := ⟨"PinKindChecks$Waivers", "append", "(II)Z"⟩
theorem d_Wv_append_0 : decode c_Wv_append 0 = .ok (.aload_n 0, 1) := by decide +kernel
theorem d_Wv_append_1 : decode c_Wv_append 1 = .ok (.getfield 18, 3) := by decide +kernel
theorem d_Wv_append_4 : decode c_Wv_append 4 = .ok (.aload_n 0, 1) := by decide +kernel
theorem d_Wv_append_5 : decode c_Wv_append 5 = .ok (.getfield 9, 3) := by decide +kernel
theorem d_Wv_append_8 : decode c_Wv_append 8 = .ok (.arraylength, 1) := by decide +kernel
theorem d_Wv_append_9 : decode c_Wv_append 9 = .ok (.if_icmp .ge 15, 3) := by decide +kernel
theorem d_Wv_append_12 : decode c_Wv_append 12 = .ok (.aload_n 0, 1) := by decide +kernel
theorem d_Wv_append_13 : decode c_Wv_append 13 = .ok (.getfield 18, 3) := by decide +kernel
theorem d_Wv_append_16 : decode c_Wv_append 16 = .ok (.aload_n 0, 1) := by decide +kernel
theorem d_Wv_append_17 : decode c_Wv_append 17 = .ok (.getfield 15, 3) := by decide +kernel
theorem d_Wv_append_20 : decode c_Wv_append 20 = .ok (.arraylength, 1) := by decide +kernel
theorem d_Wv_append_21 : decode c_Wv_append 21 = .ok (.if_icmp .lt 5, 3) := by decide +kernel
theorem d_Wv_append_24 : decode c_Wv_append 24 = .ok (.iconst 0, 1) := by decide +kernel
theorem d_Wv_append_25 : decode c_Wv_append 25 = .ok (.ireturn, 1) := by decide +kernel
theorem d_Wv_append_26 : decode c_Wv_append 26 = .ok (.aload_n 0, 1) := by decide +kernel
theorem d_Wv_append_27 : decode c_Wv_append 27 = .ok (.getfield 9, 3) := by decide +kernel
theorem d_Wv_append_30 : decode c_Wv_append 30 = .ok (.aload_n 0, 1) := by decide +kernel
theorem d_Wv_append_31 : decode c_Wv_append 31 = .ok (.getfield 18, 3) := by decide +kernel
theorem d_Wv_append_34 : decode c_Wv_append 34 = .ok (.iload_n 1, 1) := by decide +kernel
theorem d_Wv_append_35 : decode c_Wv_append 35 = .ok (.iastore, 1) := by decide +kernel
theorem d_Wv_append_36 : decode c_Wv_append 36 = .ok (.aload_n 0, 1) := by decide +kernel
theorem d_Wv_append_37 : decode c_Wv_append 37 = .ok (.getfield 15, 3) := by decide +kernel
theorem d_Wv_append_40 : decode c_Wv_append 40 = .ok (.aload_n 0, 1) := by decide +kernel
theorem d_Wv_append_41 : decode c_Wv_append 41 = .ok (.getfield 18, 3) := by decide +kernel
theorem d_Wv_append_44 : decode c_Wv_append 44 = .ok (.iload_n 2, 1) := by decide +kernel
theorem d_Wv_append_45 : decode c_Wv_append 45 = .ok (.iastore, 1) := by decide +kernel
theorem d_Wv_append_46 : decode c_Wv_append 46 = .ok (.aload_n 0, 1) := by decide +kernel
theorem d_Wv_append_47 : decode c_Wv_append 47 = .ok (.dup, 1) := by decide +kernel
theorem d_Wv_append_48 : decode c_Wv_append 48 = .ok (.getfield 18, 3) := by decide +kernel
theorem d_Wv_append_51 : decode c_Wv_append 51 = .ok (.iconst 1, 1) := by decide +kernel
theorem d_Wv_append_52 : decode c_Wv_append 52 = .ok (.iadd, 1) := by decide +kernel
theorem d_Wv_append_53 : decode c_Wv_append 53 = .ok (.putfield 18, 3) := by decide +kernel
theorem d_Wv_append_56 : decode c_Wv_append 56 = .ok (.iconst 1, 1) := by decide +kernel
theorem d_Wv_append_57 : decode c_Wv_append 57 = .ok (.ireturn, 1) := by decide +kernel
abbrev c_Wv_remove : ByteArray := prog_12_method_7_code
abbrev r_Wv_remove : Option FieldType := none
def y_Wv_remove : MethodName := ⟨"PinKindChecks$Waivers", "remove", "(I)V"⟩
theorem d_Wv_remove_0 : decode c_Wv_remove 0 = .ok (.aload_n 0, 1) := by decide +kernel
theorem d_Wv_remove_1 : decode c_Wv_remove 1 = .ok (.getfield 18, 3) := by decide +kernel
theorem d_Wv_remove_4 : decode c_Wv_remove 4 = .ok (.iconst 1, 1) := by decide +kernel
theorem d_Wv_remove_5 : decode c_Wv_remove 5 = .ok (.isub, 1) := by decide +kernel
theorem d_Wv_remove_6 : decode c_Wv_remove 6 = .ok (.istore_n 2, 1) := by decide +kernel
theorem d_Wv_remove_7 : decode c_Wv_remove 7 = .ok (.iload_n 1, 1) := by decide +kernel
theorem d_Wv_remove_8 : decode c_Wv_remove 8 = .ok (.aload_n 0, 1) := by decide +kernel
theorem d_Wv_remove_9 : decode c_Wv_remove 9 = .ok (.getfield 18, 3) := by decide +kernel
theorem d_Wv_remove_12 : decode c_Wv_remove 12 = .ok (.invokestatic 26, 3) := by decide +kernel
theorem d_Wv_remove_15 : decode c_Wv_remove 15 = .ok (.ifCond .eq 50, 3) := by decide +kernel
theorem d_Wv_remove_18 : decode c_Wv_remove 18 = .ok (.iload_n 2, 1) := by decide +kernel
theorem d_Wv_remove_19 : decode c_Wv_remove 19 = .ok (.aload_n 0, 1) := by decide +kernel
theorem d_Wv_remove_20 : decode c_Wv_remove 20 = .ok (.getfield 9, 3) := by decide +kernel
theorem d_Wv_remove_23 : decode c_Wv_remove 23 = .ok (.arraylength, 1) := by decide +kernel
theorem d_Wv_remove_24 : decode c_Wv_remove 24 = .ok (.if_icmp .ge 41, 3) := by decide +kernel
theorem d_Wv_remove_27 : decode c_Wv_remove 27 = .ok (.iload_n 2, 1) := by decide +kernel
theorem d_Wv_remove_28 : decode c_Wv_remove 28 = .ok (.aload_n 0, 1) := by decide +kernel
theorem d_Wv_remove_29 : decode c_Wv_remove 29 = .ok (.getfield 15, 3) := by decide +kernel
theorem d_Wv_remove_32 : decode c_Wv_remove 32 = .ok (.arraylength, 1) := by decide +kernel
theorem d_Wv_remove_33 : decode c_Wv_remove 33 = .ok (.if_icmp .ge 32, 3) := by decide +kernel
theorem d_Wv_remove_36 : decode c_Wv_remove 36 = .ok (.aload_n 0, 1) := by decide +kernel
theorem d_Wv_remove_37 : decode c_Wv_remove 37 = .ok (.getfield 9, 3) := by decide +kernel
theorem d_Wv_remove_40 : decode c_Wv_remove 40 = .ok (.iload_n 1, 1) := by decide +kernel
theorem d_Wv_remove_41 : decode c_Wv_remove 41 = .ok (.aload_n 0, 1) := by decide +kernel
theorem d_Wv_remove_42 : decode c_Wv_remove 42 = .ok (.getfield 9, 3) := by decide +kernel
theorem d_Wv_remove_45 : decode c_Wv_remove 45 = .ok (.iload_n 2, 1) := by decide +kernel
theorem d_Wv_remove_46 : decode c_Wv_remove 46 = .ok (.iaload, 1) := by decide +kernel
theorem d_Wv_remove_47 : decode c_Wv_remove 47 = .ok (.iastore, 1) := by decide +kernel
theorem d_Wv_remove_48 : decode c_Wv_remove 48 = .ok (.aload_n 0, 1) := by decide +kernel
theorem d_Wv_remove_49 : decode c_Wv_remove 49 = .ok (.getfield 15, 3) := by decide +kernel
theorem d_Wv_remove_52 : decode c_Wv_remove 52 = .ok (.iload_n 1, 1) := by decide +kernel
theorem d_Wv_remove_53 : decode c_Wv_remove 53 = .ok (.aload_n 0, 1) := by decide +kernel
theorem d_Wv_remove_54 : decode c_Wv_remove 54 = .ok (.getfield 15, 3) := by decide +kernel
theorem d_Wv_remove_57 : decode c_Wv_remove 57 = .ok (.iload_n 2, 1) := by decide +kernel
theorem d_Wv_remove_58 : decode c_Wv_remove 58 = .ok (.iaload, 1) := by decide +kernel
theorem d_Wv_remove_59 : decode c_Wv_remove 59 = .ok (.iastore, 1) := by decide +kernel
theorem d_Wv_remove_60 : decode c_Wv_remove 60 = .ok (.aload_n 0, 1) := by decide +kernel
theorem d_Wv_remove_61 : decode c_Wv_remove 61 = .ok (.iload_n 2, 1) := by decide +kernel
theorem d_Wv_remove_62 : decode c_Wv_remove 62 = .ok (.putfield 18, 3) := by decide +kernel
theorem d_Wv_remove_65 : decode c_Wv_remove 65 = .ok (.return_, 1) := by decide +kernel
end
section
abbrev c_jA_copyOf : ByteArray := prog_27_method_123_code
abbrev r_jA_copyOf : Option FieldType := (some (FieldType.array FieldType.int))
def y_jA_copyOf : MethodName := ⟨"java/util/Arrays", "copyOf", "([II)[I"⟩
theorem d_jA_copyOf_0 : decode c_jA_copyOf 0 = .ok (.iload_n 1, 1) := by decide +kernel
theorem d_jA_copyOf_1 : decode c_jA_copyOf 1 = .ok (.aload_n 0, 1) := by decide +kernel
theorem d_jA_copyOf_2 : decode c_jA_copyOf 2 = .ok (.arraylength, 1) := by decide +kernel
theorem d_jA_copyOf_3 : decode c_jA_copyOf 3 = .ok (.if_icmp .ne 11, 3) := by decide +kernel
theorem d_jA_copyOf_6 : decode c_jA_copyOf 6 = .ok (.aload_n 0, 1) := by decide +kernel
theorem d_jA_copyOf_7 : decode c_jA_copyOf 7 = .ok (.invokevirtual 316, 3) := by decide +kernel
theorem d_jA_copyOf_10 : decode c_jA_copyOf 10 = .ok (.checkcast 317, 3) := by decide +kernel
theorem d_jA_copyOf_13 : decode c_jA_copyOf 13 = .ok (.areturn, 1) := by decide +kernel
theorem d_jA_copyOf_14 : decode c_jA_copyOf 14 = .ok (.iload_n 1, 1) := by decide +kernel
theorem d_jA_copyOf_15 : decode c_jA_copyOf 15 = .ok (.newarray .int, 2) := by decide +kernel
theorem d_jA_copyOf_17 : decode c_jA_copyOf 17 = .ok (.astore_n 2, 1) := by decide +kernel
theorem d_jA_copyOf_18 : decode c_jA_copyOf 18 = .ok (.aload_n 0, 1) := by decide +kernel
theorem d_jA_copyOf_19 : decode c_jA_copyOf 19 = .ok (.iconst 0, 1) := by decide +kernel
theorem d_jA_copyOf_20 : decode c_jA_copyOf 20 = .ok (.aload_n 2, 1) := by decide +kernel
theorem d_jA_copyOf_21 : decode c_jA_copyOf 21 = .ok (.iconst 0, 1) := by decide +kernel
theorem d_jA_copyOf_22 : decode c_jA_copyOf 22 = .ok (.aload_n 0, 1) := by decide +kernel
theorem d_jA_copyOf_23 : decode c_jA_copyOf 23 = .ok (.arraylength, 1) := by decide +kernel
theorem d_jA_copyOf_24 : decode c_jA_copyOf 24 = .ok (.iload_n 1, 1) := by decide +kernel
theorem d_jA_copyOf_25 : decode c_jA_copyOf 25 = .ok (.invokestatic 304, 3) := by decide +kernel
theorem d_jA_copyOf_28 : decode c_jA_copyOf 28 = .ok (.invokestatic 150, 3) := by decide +kernel
theorem d_jA_copyOf_31 : decode c_jA_copyOf 31 = .ok (.aload_n 2, 1) := by decide +kernel
theorem d_jA_copyOf_32 : decode c_jA_copyOf 32 = .ok (.areturn, 1) := by decide +kernel
abbrev c_jA_fill : ByteArray := prog_27_method_103_code
abbrev r_jA_fill : Option FieldType := none
def y_jA_fill : MethodName := ⟨"java/util/Arrays", "fill", "([II)V"⟩
theorem d_jA_fill_0 : decode c_jA_fill 0 = .ok (.iconst 0, 1) := by decide +kernel
theorem d_jA_fill_1 : decode c_jA_fill 1 = .ok (.istore_n 2, 1) := by decide +kernel
theorem d_jA_fill_2 : decode c_jA_fill 2 = .ok (.aload_n 0, 1) := by decide +kernel
theorem d_jA_fill_3 : decode c_jA_fill 3 = .ok (.arraylength, 1) := by decide +kernel
theorem d_jA_fill_4 : decode c_jA_fill 4 = .ok (.istore_n 3, 1) := by decide +kernel
theorem d_jA_fill_5 : decode c_jA_fill 5 = .ok (.iload_n 2, 1) := by decide +kernel
theorem d_jA_fill_6 : decode c_jA_fill 6 = .ok (.iload_n 3, 1) := by decide +kernel
theorem d_jA_fill_7 : decode c_jA_fill 7 = .ok (.if_icmp .ge 13, 3) := by decide +kernel
theorem d_jA_fill_10 : decode c_jA_fill 10 = .ok (.aload_n 0, 1) := by decide +kernel
theorem d_jA_fill_11 : decode c_jA_fill 11 = .ok (.iload_n 2, 1) := by decide +kernel
theorem d_jA_fill_12 : decode c_jA_fill 12 = .ok (.iload_n 1, 1) := by decide +kernel
theorem d_jA_fill_13 : decode c_jA_fill 13 = .ok (.iastore, 1) := by decide +kernel
theorem d_jA_fill_14 : decode c_jA_fill 14 = .ok (.iinc 2 1, 3) := by decide +kernel
theorem d_jA_fill_17 : decode c_jA_fill 17 = .ok (.goto (-12), 3) := by decide +kernel
theorem d_jA_fill_20 : decode c_jA_fill 20 = .ok (.return_, 1) := by decide +kernel
end
section
abbrev c_jL_charAt : ByteArray := prog_23_method_2_code
abbrev r_jL_charAt : Option FieldType := (some FieldType.char)
def y_jL_charAt : MethodName := ⟨"java/lang/StringLatin1", "charAt", "([BI)C"⟩
theorem d_jL_charAt_0 : decode c_jL_charAt 0 = .ok (.iload_n 1, 1) := by decide +kernel
theorem d_jL_charAt_1 : decode c_jL_charAt 1 = .ok (.aload_n 0, 1) := by decide +kernel
theorem d_jL_charAt_2 : decode c_jL_charAt 2 = .ok (.arraylength, 1) := by decide +kernel
theorem d_jL_charAt_3 : decode c_jL_charAt 3 = .ok (.invokestatic 9, 3) := by decide +kernel
theorem d_jL_charAt_6 : decode c_jL_charAt 6 = .ok (.aload_n 0, 1) := by decide +kernel
theorem d_jL_charAt_7 : decode c_jL_charAt 7 = .ok (.iload_n 1, 1) := by decide +kernel
theorem d_jL_charAt_8 : decode c_jL_charAt 8 = .ok (.baload, 1) := by decide +kernel
theorem d_jL_charAt_9 : decode c_jL_charAt 9 = .ok (.sipush 255, 3) := by decide +kernel
theorem d_jL_charAt_12 : decode c_jL_charAt 12 = .ok (.iand, 1) := by decide +kernel
theorem d_jL_charAt_13 : decode c_jL_charAt 13 = .ok (.i2c, 1) := by decide +kernel
theorem d_jL_charAt_14 : decode c_jL_charAt 14 = .ok (.ireturn, 1) := by decide +kernel
end
section
abbrev c_jM_max : ByteArray := prog_20_method_65_code
abbrev r_jM_max : Option FieldType := (some FieldType.int)
def y_jM_max : MethodName := ⟨"java/lang/Math", "max", "(II)I"⟩
theorem d_jM_max_0 : decode c_jM_max 0 = .ok (.iload_n 0, 1) := by decide +kernel
theorem d_jM_max_1 : decode c_jM_max 1 = .ok (.iload_n 1, 1) := by decide +kernel
theorem d_jM_max_2 : decode c_jM_max 2 = .ok (.if_icmp .lt 7, 3) := by decide +kernel
theorem d_jM_max_5 : decode c_jM_max 5 = .ok (.iload_n 0, 1) := by decide +kernel
theorem d_jM_max_6 : decode c_jM_max 6 = .ok (.goto 4, 3) := by decide +kernel
theorem d_jM_max_9 : decode c_jM_max 9 = .ok (.iload_n 1, 1) := by decide +kernel
theorem d_jM_max_10 : decode c_jM_max 10 = .ok (.ireturn, 1) := by decide +kernel
abbrev c_jM_min : ByteArray := prog_20_method_69_code
abbrev r_jM_min : Option FieldType := (some FieldType.int)
def y_jM_min : MethodName := ⟨"java/lang/Math", "min", "(II)I"⟩
theorem d_jM_min_0 : decode c_jM_min 0 = .ok (.iload_n 0, 1) := by decide +kernel
theorem d_jM_min_1 : decode c_jM_min 1 = .ok (.iload_n 1, 1) := by decide +kernel
theorem d_jM_min_2 : decode c_jM_min 2 = .ok (.if_icmp .gt 7, 3) := by decide +kernel
theorem d_jM_min_5 : decode c_jM_min 5 = .ok (.iload_n 0, 1) := by decide +kernel
theorem d_jM_min_6 : decode c_jM_min 6 = .ok (.goto 4, 3) := by decide +kernel
theorem d_jM_min_9 : decode c_jM_min 9 = .ok (.iload_n 1, 1) := by decide +kernel
theorem d_jM_min_10 : decode c_jM_min 10 = .ok (.ireturn, 1) := by decide +kernel
end
section
abbrev c_jP_checkIndex : ByteArray := prog_28_method_11_code
abbrev r_jP_checkIndex : Option FieldType := (some FieldType.int)
def y_jP_checkIndex : MethodName := ⟨"jdk/internal/util/Preconditions", "checkIndex", "(IILjava/util/function/BiFunction;)I"⟩
theorem d_jP_checkIndex_0 : decode c_jP_checkIndex 0 = .ok (.iload_n 0, 1) := by decide +kernel
theorem d_jP_checkIndex_1 : decode c_jP_checkIndex 1 = .ok (.ifCond .lt 8, 3) := by decide +kernel
theorem d_jP_checkIndex_4 : decode c_jP_checkIndex 4 = .ok (.iload_n 0, 1) := by decide +kernel
theorem d_jP_checkIndex_5 : decode c_jP_checkIndex 5 = .ok (.iload_n 1, 1) := by decide +kernel
theorem d_jP_checkIndex_6 : decode c_jP_checkIndex 6 = .ok (.if_icmp .lt 10, 3) := by decide +kernel
theorem d_jP_checkIndex_9 : decode c_jP_checkIndex 9 = .ok (.aload_n 2, 1) := by decide +kernel
theorem d_jP_checkIndex_10 : decode c_jP_checkIndex 10 = .ok (.iload_n 0, 1) := by decide +kernel
theorem d_jP_checkIndex_11 : decode c_jP_checkIndex 11 = .ok (.iload_n 1, 1) := by decide +kernel
theorem d_jP_checkIndex_12 : decode c_jP_checkIndex 12 = .ok (.invokestatic 95, 3) := by decide +kernel
theorem d_jP_checkIndex_15 : decode c_jP_checkIndex 15 = .ok (.athrow, 1) := by decide +kernel
theorem d_jP_checkIndex_16 : decode c_jP_checkIndex 16 = .ok (.iload_n 0, 1) := by decide +kernel
theorem d_jP_checkIndex_17 : decode c_jP_checkIndex 17 = .ok (.ireturn, 1) := by decide +kernel
end
section
abbrev c_jS_length : ByteArray := prog_22_method_54_code
abbrev r_jS_length : Option FieldType := (some FieldType.int)
def y_jS_length : MethodName := ⟨"java/lang/String", "length", "()I"⟩
theorem d_jS_length_0 : decode c_jS_length 0 = .ok (.aload_n 0, 1) := by decide +kernel
theorem d_jS_length_1 : decode c_jS_length 1 = .ok (.getfield 9, 3) := by decide +kernel
theorem d_jS_length_4 : decode c_jS_length 4 = .ok (.arraylength, 1) := by decide +kernel
theorem d_jS_length_5 : decode c_jS_length 5 = .ok (.aload_n 0, 1) := by decide +kernel
theorem d_jS_length_6 : decode c_jS_length 6 = .ok (.invokevirtual 335, 3) := by decide +kernel
theorem d_jS_length_9 : decode c_jS_length 9 = .ok (.ishr, 1) := by decide +kernel
theorem d_jS_length_10 : decode c_jS_length 10 = .ok (.ireturn, 1) := by decide +kernel
abbrev c_jS_coder : ByteArray := prog_22_method_152_code
abbrev r_jS_coder : Option FieldType := (some FieldType.byte)
def y_jS_coder : MethodName := ⟨"java/lang/String", "coder", "()B"⟩
theorem d_jS_coder_0 : decode c_jS_coder 0 = .ok (.getstatic 38, 3) := by decide +kernel
theorem d_jS_coder_3 : decode c_jS_coder 3 = .ok (.ifCond .eq 10, 3) := by decide +kernel
theorem d_jS_coder_6 : decode c_jS_coder 6 = .ok (.aload_n 0, 1) := by decide +kernel
theorem d_jS_coder_7 : decode c_jS_coder 7 = .ok (.getfield 15, 3) := by decide +kernel
theorem d_jS_coder_10 : decode c_jS_coder 10 = .ok (.goto 4, 3) := by decide +kernel
theorem d_jS_coder_13 : decode c_jS_coder 13 = .ok (.iconst 1, 1) := by decide +kernel
theorem d_jS_coder_14 : decode c_jS_coder 14 = .ok (.ireturn, 1) := by decide +kernel
abbrev c_jS_charAt : ByteArray := prog_22_method_56_code
abbrev r_jS_charAt : Option FieldType := (some FieldType.char)
def y_jS_charAt : MethodName := ⟨"java/lang/String", "charAt", "(I)C"⟩
theorem d_jS_charAt_0 : decode c_jS_charAt 0 = .ok (.aload_n 0, 1) := by decide +kernel
theorem d_jS_charAt_1 : decode c_jS_charAt 1 = .ok (.invokevirtual 492, 3) := by decide +kernel
theorem d_jS_charAt_4 : decode c_jS_charAt 4 = .ok (.ifCond .eq 12, 3) := by decide +kernel
theorem d_jS_charAt_7 : decode c_jS_charAt 7 = .ok (.aload_n 0, 1) := by decide +kernel
theorem d_jS_charAt_8 : decode c_jS_charAt 8 = .ok (.getfield 9, 3) := by decide +kernel
theorem d_jS_charAt_11 : decode c_jS_charAt 11 = .ok (.iload_n 1, 1) := by decide +kernel
theorem d_jS_charAt_12 : decode c_jS_charAt 12 = .ok (.invokestatic 495, 3) := by decide +kernel
theorem d_jS_charAt_15 : decode c_jS_charAt 15 = .ok (.ireturn, 1) := by decide +kernel
theorem d_jS_charAt_16 : decode c_jS_charAt 16 = .ok (.aload_n 0, 1) := by decide +kernel
theorem d_jS_charAt_17 : decode c_jS_charAt 17 = .ok (.getfield 9, 3) := by decide +kernel
theorem d_jS_charAt_20 : decode c_jS_charAt 20 = .ok (.iload_n 1, 1) := by decide +kernel
theorem d_jS_charAt_21 : decode c_jS_charAt 21 = .ok (.invokestatic 498, 3) := by decide +kernel
theorem d_jS_charAt_24 : decode c_jS_charAt 24 = .ok (.ireturn, 1) := by decide +kernel
abbrev c_jS_isLatin1 : ByteArray := prog_22_method_154_code
abbrev r_jS_isLatin1 : Option FieldType := (some FieldType.boolean)
def y_jS_isLatin1 : MethodName := ⟨"java/lang/String", "isLatin1", "()Z"⟩
theorem d_jS_isLatin1_0 : decode c_jS_isLatin1 0 = .ok (.getstatic 38, 3) := by decide +kernel
theorem d_jS_isLatin1_3 : decode c_jS_isLatin1 3 = .ok (.ifCond .eq 14, 3) := by decide +kernel
theorem d_jS_isLatin1_6 : decode c_jS_isLatin1 6 = .ok (.aload_n 0, 1) := by decide +kernel
theorem d_jS_isLatin1_7 : decode c_jS_isLatin1 7 = .ok (.getfield 15, 3) := by decide +kernel
theorem d_jS_isLatin1_10 : decode c_jS_isLatin1 10 = .ok (.ifCond .ne 7, 3) := by decide +kernel
theorem d_jS_isLatin1_13 : decode c_jS_isLatin1 13 = .ok (.iconst 1, 1) := by decide +kernel
theorem d_jS_isLatin1_14 : decode c_jS_isLatin1 14 = .ok (.goto 4, 3) := by decide +kernel
theorem d_jS_isLatin1_17 : decode c_jS_isLatin1 17 = .ok (.iconst 0, 1) := by decide +kernel
theorem d_jS_isLatin1_18 : decode c_jS_isLatin1 18 = .ok (.ireturn, 1) := by decide +kernel
abbrev c_jS_checkIndex : ByteArray := prog_22_method_155_code
abbrev r_jS_checkIndex : Option FieldType := none
def y_jS_checkIndex : MethodName := ⟨"java/lang/String", "checkIndex", "(II)V"⟩
theorem d_jS_checkIndex_0 : decode c_jS_checkIndex 0 = .ok (.iload_n 0, 1) := by decide +kernel
theorem d_jS_checkIndex_1 : decode c_jS_checkIndex 1 = .ok (.iload_n 1, 1) := by decide +kernel
theorem d_jS_checkIndex_2 : decode c_jS_checkIndex 2 = .ok (.getstatic 1053, 3) := by decide +kernel
theorem d_jS_checkIndex_5 : decode c_jS_checkIndex 5 = .ok (.invokestatic 1059, 3) := by decide +kernel
theorem d_jS_checkIndex_8 : decode c_jS_checkIndex 8 = .ok (.pop, 1) := by decide +kernel
theorem d_jS_checkIndex_9 : decode c_jS_checkIndex 9 = .ok (.return_, 1) := by decide +kernel
end
section
/-- the words that every method of this claim gets: those of lw_tbl that a callee may carry on -/
def wz : List Cond := lw_tbl.filter goodWord
theorem wz_tbl : ∀ w ∈ wz, w ∈ lw_tbl := fun _ h => (List.mem_filter.mp h).1
theorem wz_at {c : Cond} (i : Nat) (h : tables_1[i]? = some c) (hg : goodWord c = true) : c ∈ wz := List.mem_filter.mpr ⟨List.mem_append_right _ (List.mem_of_getElem? h), hg⟩
theorem wz_priv {y : MethodName} {n : Nat} (i : Nat) (h : lw_privs[i]? = some (y, n)) : Cond.selects y.cls y y ∈ wz := List.mem_filter.mpr ⟨List.mem_append_left _ (List.mem_map.mpr ⟨(y, n), List.mem_of_getElem? h, rfl⟩), rfl⟩
theorem wz_all (ws : List Cond) (ps : List Nat) (h : ws = ps.filterMap (fun i => tables_1[i]?)) (hg : ws.all goodWord = true) : ∀ v ∈ ws, v ∈ wz := by
  intro v hv
  have h1 := List.all_eq_true.mp hg v hv
  rw [h] at hv
  obtain ⟨i, -, hi⟩ := List.mem_filterMap.mp hv
  exact wz_at i hi h1
theorem z_oi : Cond.instanceMethod Lib.objectInit ∈ wz := wz_at 33 (by decide +kernel) rfl
theorem z_oc : Cond.code Lib.objectInit ⟨#[0xb1]⟩ 1 none ∈ wz := wz_at 34 (by decide +kernel) rfl
/-- words that a callee keeps by rows of their own: private members of nest mates, what is declared, what may be cast -/
def isNw : Cond → Bool
  | .methodLinkNest .. => true
  | .declares .. => true
  | .castable .. => true
  | .arrayOver (.object _) => true
  | _ => false
def wn : List Cond := lw_tbl.filter isNw
theorem wn_at {c : Cond} (i : Nat) (h : tables_1[i]? = some c) (hg : isNw c = true) : c ∈ wn := List.mem_filter.mpr ⟨List.mem_append_right _ (List.mem_of_getElem? h), hg⟩
/-- an instanceof that fails -/
def wnc : List (String × String) := [("PinKindChecks$Part", "PinKindChecks$Net"), ("PinKindChecks$Part", "PinKindChecks$Pin"), ("PinKindChecks$Net", "PinKindChecks$Part"), ("PinKindChecks$Net", "PinKindChecks$Pin"), ("PinKindChecks$Pin", "PinKindChecks$Part"), ("PinKindChecks$Pin", "PinKindChecks$Net")]
/-- a field of a class of the table, and the entry of a pool that names it -/
def zF (own : String) (idx ci k : Nat) : Prop := ∃ (C : String) (T : u_T) (N : Nat), vwCl[ci]? = some (C, T, N) ∧ k < N ∧ (∀ v ∈ u_ws C T N, v ∈ wz) ∧ Cond.fieldLink own idx (T k).1 (T k).2.1 (T k).2.2.1 ∈ wz
def zFp (own : String) (idx ci k : Nat) (ty : FieldType) (fin : Bool) : Prop := ∃ (C : String) (T : u_T) (N : Nat) (ty0 : Nat → FieldType), vwCl[ci]? = some (C, T, N) ∧ k < N ∧ (∀ v ∈ u_ws C T N, v ∈ wz) ∧ Cond.fieldLink own idx (T k).1 (T k).2.1 (T k).2.2.1 ∈ wz ∧
  (∀ k, k < N → parseFieldDescriptor (T k).2.2.1 = some (ty0 k)) ∧ (∀ a, a < N → ∀ b, b < N → a ≠ b → (T a).2.1 ≠ (T b).2.1) ∧ (T k).2.2.2 = fin ∧ parseFieldDescriptor (T k).2.2.1 = some ty ∧ (fin = true → (T k).1 = own)
/-- an object of the class ci may lie in a row of E -/
def zAs (ci : Nat) (E : String) : Prop := ∃ r : vw_C, vwCl[ci]? = some r ∧ (r.1 = E ∨ Cond.castable r.1 E ∈ wn)
/-- a new object -/
def zN (own : String) (idx ci N : Nat) (fs : List Value) : Prop := ∃ (C : String) (T : u_T) (ty : Nat → FieldType), vwCl[ci]? = some (C, T, N) ∧ (∀ v ∈ u_ws C T N, v ∈ wz) ∧ (∀ k, k < N → parseFieldDescriptor (T k).2.2.1 = some (ty k)) ∧ Cond.classLink own idx C ∈ wz ∧ Cond.instantiable C N ∈ wz ∧ Cond.initialized C ∈ wz ∧ (∀ j, j < N → defaultValue (ty j) = vp_V fs j)
/-- what every call asks of the callee's words: its code, its class -/
def zCall (y' : MethodName) (cc' : ByteArray) (nL' : Nat) (rt' : Option FieldType) (n : Nat) : Prop := Cond.code y' cc' nL' rt' ∈ wz ∧ Cond.initialized y'.cls ∈ wz ∧ y'.cls ≠ "java/lang/invoke/MethodHandle" ∧ y'.cls ≠ "java/lang/invoke/VarHandle" ∧ (parseMethodDescriptor y'.desc).map (fun d => d.parameters.length) = some n
def zDecl (x : MethodName) : Prop := Cond.declares x ∈ wn ∨ (Cond.instanceMethod x ∈ wz ∧ ∃ b m r, Cond.code x b m r ∈ wz)
end
section
/-! the pools: what each entry names, as words of wz -/
theorem k_K_init : zCall y_K_init c_K_init 1 r_K_init 0 := ⟨wz_at 31 (by decide +kernel) rfl, wz_at 1 (by decide +kernel) rfl, by decide +kernel, by decide +kernel, by decide +kernel⟩
theorem k_Sc_init : zCall y_Sc_init c_Sc_init 1 r_Sc_init 0 := ⟨wz_at 39 (by decide +kernel) rfl, wz_at 2 (by decide +kernel) rfl, by decide +kernel, by decide +kernel, by decide +kernel⟩
theorem k_Tx_init : zCall y_Tx_init c_Tx_init 1 r_Tx_init 0 := ⟨wz_at 82 (by decide +kernel) rfl, wz_at 3 (by decide +kernel) rfl, by decide +kernel, by decide +kernel, by decide +kernel⟩
theorem k_Rd_init : zCall y_Rd_init c_Rd_init 2 r_Rd_init 1 := ⟨wz_at 102 (by decide +kernel) rfl, wz_at 4 (by decide +kernel) rfl, by decide +kernel, by decide +kernel, by decide +kernel⟩
theorem k_Wv_init : zCall y_Wv_init c_Wv_init 1 r_Wv_init 0 := ⟨wz_at 147 (by decide +kernel) rfl, wz_at 5 (by decide +kernel) rfl, by decide +kernel, by decide +kernel, by decide +kernel⟩
theorem k_Rm_init : zCall y_Rm_init c_Rm_init 1 r_Rm_init 0 := ⟨wz_at 164 (by decide +kernel) rfl, wz_at 6 (by decide +kernel) rfl, by decide +kernel, by decide +kernel, by decide +kernel⟩
theorem k_K_unit : zCall y_K_unit c_K_unit 2 r_K_unit 1 := ⟨wz_at 220 (by decide +kernel) rfl, wz_at 1 (by decide +kernel) rfl, by decide +kernel, by decide +kernel, by decide +kernel⟩
theorem k_Tx_addLetter : zCall y_Tx_addLetter c_Tx_addLetter 2 r_Tx_addLetter 1 := ⟨wz_at 224 (by decide +kernel) rfl, wz_at 3 (by decide +kernel) rfl, by decide +kernel, by decide +kernel, by decide +kernel⟩
theorem k_K_run : zCall y_K_run c_K_run 3 r_K_run 0 := ⟨wz_at 228 (by decide +kernel) rfl, wz_at 1 (by decide +kernel) rfl, by decide +kernel, by decide +kernel, by decide +kernel⟩
theorem k_Rm_wipe : zCall y_Rm_wipe c_Rm_wipe 1 r_Rm_wipe 0 := ⟨wz_at 232 (by decide +kernel) rfl, wz_at 6 (by decide +kernel) rfl, by decide +kernel, by decide +kernel, by decide +kernel⟩
theorem k_Sc_thingCount : zCall y_Sc_thingCount c_Sc_thingCount 1 r_Sc_thingCount 0 := ⟨wz_at 236 (by decide +kernel) rfl, wz_at 2 (by decide +kernel) rfl, by decide +kernel, by decide +kernel, by decide +kernel⟩
theorem k_Sc_thingInOrder : zCall y_Sc_thingInOrder c_Sc_thingInOrder 2 r_Sc_thingInOrder 1 := ⟨wz_at 240 (by decide +kernel) rfl, wz_at 2 (by decide +kernel) rfl, by decide +kernel, by decide +kernel, by decide +kernel⟩
theorem k_K_isBelow : zCall y_K_isBelow c_K_isBelow 2 r_K_isBelow 2 := ⟨wz_at 244 (by decide +kernel) rfl, wz_at 1 (by decide +kernel) rfl, by decide +kernel, by decide +kernel, by decide +kernel⟩
theorem k_K_checkThing : zCall y_K_checkThing c_K_checkThing 4 r_K_checkThing 1 := ⟨wz_at 248 (by decide +kernel) rfl, wz_at 1 (by decide +kernel) rfl, by decide +kernel, by decide +kernel, by decide +kernel⟩
theorem k_K_ruleCount : zCall y_K_ruleCount c_K_ruleCount 1 r_K_ruleCount 0 := ⟨wz_at 252 (by decide +kernel) rfl, wz_at 1 (by decide +kernel) rfl, by decide +kernel, by decide +kernel, by decide +kernel⟩
theorem k_K_weightOf : zCall y_K_weightOf c_K_weightOf 4 r_K_weightOf 2 := ⟨wz_at 256 (by decide +kernel) rfl, wz_at 1 (by decide +kernel) rfl, by decide +kernel, by decide +kernel, by decide +kernel⟩
theorem k_Ne_builtInWeight : zCall y_Ne_builtInWeight c_Ne_builtInWeight 3 r_Ne_builtInWeight 2 := ⟨wz_at 262 (by decide +kernel) rfl, wz_at 16 (by decide +kernel) rfl, by decide +kernel, by decide +kernel, by decide +kernel⟩
theorem k_Ph_pinsOfKind : zCall y_Ph_pinsOfKind c_Ph_pinsOfKind 2 r_Ph_pinsOfKind 1 := ⟨wz_at 268 (by decide +kernel) rfl, wz_at 14 (by decide +kernel) rfl, by decide +kernel, by decide +kernel, by decide +kernel⟩
theorem k_Ph_pinCount : zCall y_Ph_pinCount c_Ph_pinCount 1 r_Ph_pinCount 0 := ⟨wz_at 275 (by decide +kernel) rfl, wz_at 14 (by decide +kernel) rfl, by decide +kernel, by decide +kernel, by decide +kernel⟩
theorem k_Sc_hasLowerNamesake : zCall y_Sc_hasLowerNamesake c_Sc_hasLowerNamesake 4 r_Sc_hasLowerNamesake 1 := ⟨wz_at 279 (by decide +kernel) rfl, wz_at 2 (by decide +kernel) rfl, by decide +kernel, by decide +kernel, by decide +kernel⟩
theorem k_Th_number : zCall y_Th_number c_Th_number 1 r_Th_number 0 := ⟨wz_at 285 (by decide +kernel) rfl, wz_at 13 (by decide +kernel) rfl, by decide +kernel, by decide +kernel, by decide +kernel⟩
theorem k_Sc_netAt : zCall y_Sc_netAt c_Sc_netAt 2 r_Sc_netAt 1 := ⟨wz_at 289 (by decide +kernel) rfl, wz_at 2 (by decide +kernel) rfl, by decide +kernel, by decide +kernel, by decide +kernel⟩
theorem k_Ne_name : zCall y_Ne_name c_Ne_name 1 r_Ne_name 0 := ⟨wz_at 293 (by decide +kernel) rfl, wz_at 16 (by decide +kernel) rfl, by decide +kernel, by decide +kernel, by decide +kernel⟩
theorem k_Pa_builtInWeight : zCall y_Pa_builtInWeight c_Pa_builtInWeight 3 r_Pa_builtInWeight 2 := ⟨wz_at 296 (by decide +kernel) rfl, wz_at 15 (by decide +kernel) rfl, by decide +kernel, by decide +kernel, by decide +kernel⟩
theorem k_Pi_builtInWeight : zCall y_Pi_builtInWeight c_Pi_builtInWeight 3 r_Pi_builtInWeight 2 := ⟨wz_at 299 (by decide +kernel) rfl, wz_at 17 (by decide +kernel) rfl, by decide +kernel, by decide +kernel, by decide +kernel⟩
theorem k_Sc_worstVerdictBelow : zCall y_Sc_worstVerdictBelow c_Sc_worstVerdictBelow 6 r_Sc_worstVerdictBelow 1 := ⟨wz_at 303 (by decide +kernel) rfl, wz_at 2 (by decide +kernel) rfl, by decide +kernel, by decide +kernel, by decide +kernel⟩
theorem k_Pi_netOrNull : zCall y_Pi_netOrNull c_Pi_netOrNull 1 r_Pi_netOrNull 0 := ⟨wz_at 307 (by decide +kernel) rfl, wz_at 17 (by decide +kernel) rfl, by decide +kernel, by decide +kernel, by decide +kernel⟩
theorem k_Sc_pinAt : zCall y_Sc_pinAt c_Sc_pinAt 2 r_Sc_pinAt 1 := ⟨wz_at 314 (by decide +kernel) rfl, wz_at 2 (by decide +kernel) rfl, by decide +kernel, by decide +kernel, by decide +kernel⟩
theorem k_Pi_kind : zCall y_Pi_kind c_Pi_kind 1 r_Pi_kind 0 := ⟨wz_at 318 (by decide +kernel) rfl, wz_at 17 (by decide +kernel) rfl, by decide +kernel, by decide +kernel, by decide +kernel⟩
theorem k_Sc_verdictOf : zCall y_Sc_verdictOf c_Sc_verdictOf 4 r_Sc_verdictOf 2 := ⟨wz_at 322 (by decide +kernel) rfl, wz_at 2 (by decide +kernel) rfl, by decide +kernel, by decide +kernel, by decide +kernel⟩
theorem k_jM_max : zCall y_jM_max c_jM_max 2 r_jM_max 2 := ⟨wz_at 325 (by decide +kernel) rfl, wz_at 25 (by decide +kernel) rfl, by decide +kernel, by decide +kernel, by decide +kernel⟩
theorem k_Tr_weightFor : zCall y_Tr_weightFor c_Tr_weightFor 4 r_Tr_weightFor 2 := ⟨wz_at 330 (by decide +kernel) rfl, wz_at 23 (by decide +kernel) rfl, by decide +kernel, by decide +kernel, by decide +kernel⟩
theorem k_Tr_holdsFor : zCall y_Tr_holdsFor c_Tr_holdsFor 6 r_Tr_holdsFor 2 := ⟨wz_at 338 (by decide +kernel) rfl, wz_at 23 (by decide +kernel) rfl, by decide +kernel, by decide +kernel, by decide +kernel⟩
theorem k_Ph_valueOf : zCall y_Ph_valueOf c_Ph_valueOf 3 r_Ph_valueOf 2 := ⟨wz_at 344 (by decide +kernel) rfl, wz_at 14 (by decide +kernel) rfl, by decide +kernel, by decide +kernel, by decide +kernel⟩
theorem k_Th_sheet : zCall y_Th_sheet c_Th_sheet 1 r_Th_sheet 0 := ⟨wz_at 352 (by decide +kernel) rfl, wz_at 13 (by decide +kernel) rfl, by decide +kernel, by decide +kernel, by decide +kernel⟩
theorem k_Ne_ownValueOf : zCall y_Ne_ownValueOf c_Ne_ownValueOf 3 r_Ne_ownValueOf 2 := ⟨wz_at 358 (by decide +kernel) rfl, wz_at 16 (by decide +kernel) rfl, by decide +kernel, by decide +kernel, by decide +kernel⟩
theorem k_Pa_ownValueOf : zCall y_Pa_ownValueOf c_Pa_ownValueOf 3 r_Pa_ownValueOf 2 := ⟨wz_at 361 (by decide +kernel) rfl, wz_at 15 (by decide +kernel) rfl, by decide +kernel, by decide +kernel, by decide +kernel⟩
theorem k_Pa_fieldAt : zCall y_Pa_fieldAt c_Pa_fieldAt 2 r_Pa_fieldAt 1 := ⟨wz_at 365 (by decide +kernel) rfl, wz_at 15 (by decide +kernel) rfl, by decide +kernel, by decide +kernel, by decide +kernel⟩
theorem k_Pi_valueOf : zCall y_Pi_valueOf c_Pi_valueOf 3 r_Pi_valueOf 2 := ⟨wz_at 370 (by decide +kernel) rfl, wz_at 17 (by decide +kernel) rfl, by decide +kernel, by decide +kernel, by decide +kernel⟩
theorem k_Tr_truth : zCall y_Tr_truth c_Tr_truth 1 r_Tr_truth 1 := ⟨wz_at 379 (by decide +kernel) rfl, wz_at 23 (by decide +kernel) rfl, by decide +kernel, by decide +kernel, by decide +kernel⟩
theorem k_Tr_workOut : zCall y_Tr_workOut c_Tr_workOut 5 r_Tr_workOut 3 := ⟨wz_at 382 (by decide +kernel) rfl, wz_at 23 (by decide +kernel) rfl, by decide +kernel, by decide +kernel, by decide +kernel⟩
theorem k_Th_keyWith : zCall y_Th_keyWith c_Th_keyWith 2 r_Th_keyWith 1 := ⟨wz_at 389 (by decide +kernel) rfl, wz_at 13 (by decide +kernel) rfl, by decide +kernel, by decide +kernel, by decide +kernel⟩
theorem k_Rm_add : zCall y_Rm_add c_Rm_add 4 r_Rm_add 3 := ⟨wz_at 393 (by decide +kernel) rfl, wz_at 6 (by decide +kernel) rfl, by decide +kernel, by decide +kernel, by decide +kernel⟩
theorem k_Rm_grow : zCall y_Rm_grow c_Rm_grow 2 r_Rm_grow 0 := ⟨wz_at 397 (by decide +kernel) rfl, wz_at 6 (by decide +kernel) rfl, by decide +kernel, by decide +kernel, by decide +kernel⟩
theorem k_jM_min : zCall y_jM_min c_jM_min 2 r_jM_min 2 := ⟨wz_at 400 (by decide +kernel) rfl, wz_at 25 (by decide +kernel) rfl, by decide +kernel, by decide +kernel, by decide +kernel⟩
theorem k_jA_copyOf : zCall y_jA_copyOf c_jA_copyOf 3 r_jA_copyOf 2 := ⟨wz_at 403 (by decide +kernel) rfl, wz_at 24 (by decide +kernel) rfl, by decide +kernel, by decide +kernel, by decide +kernel⟩
theorem k_K_compareWithBefore : zCall y_K_compareWithBefore c_K_compareWithBefore 4 r_K_compareWithBefore 0 := ⟨wz_at 418 (by decide +kernel) rfl, wz_at 1 (by decide +kernel) rfl, by decide +kernel, by decide +kernel, by decide +kernel⟩
theorem k_Rm_count : zCall y_Rm_count c_Rm_count 1 r_Rm_count 0 := ⟨wz_at 422 (by decide +kernel) rfl, wz_at 6 (by decide +kernel) rfl, by decide +kernel, by decide +kernel, by decide +kernel⟩
theorem k_Rm_keyOf : zCall y_Rm_keyOf c_Rm_keyOf 2 r_Rm_keyOf 1 := ⟨wz_at 426 (by decide +kernel) rfl, wz_at 6 (by decide +kernel) rfl, by decide +kernel, by decide +kernel, by decide +kernel⟩
theorem k_Rm_firstOf : zCall y_Rm_firstOf c_Rm_firstOf 2 r_Rm_firstOf 1 := ⟨wz_at 431 (by decide +kernel) rfl, wz_at 6 (by decide +kernel) rfl, by decide +kernel, by decide +kernel, by decide +kernel⟩
theorem k_Rm_setFirst : zCall y_Rm_setFirst c_Rm_setFirst 3 r_Rm_setFirst 2 := ⟨wz_at 435 (by decide +kernel) rfl, wz_at 6 (by decide +kernel) rfl, by decide +kernel, by decide +kernel, by decide +kernel⟩
theorem k_Rm_weightOf : zCall y_Rm_weightOf c_Rm_weightOf 2 r_Rm_weightOf 1 := ⟨wz_at 439 (by decide +kernel) rfl, wz_at 6 (by decide +kernel) rfl, by decide +kernel, by decide +kernel, by decide +kernel⟩
theorem k_K_countOpen : zCall y_K_countOpen c_K_countOpen 3 r_K_countOpen 0 := ⟨wz_at 443 (by decide +kernel) rfl, wz_at 1 (by decide +kernel) rfl, by decide +kernel, by decide +kernel, by decide +kernel⟩
theorem k_Wv_reasonFor : zCall y_Wv_reasonFor c_Wv_reasonFor 3 r_Wv_reasonFor 1 := ⟨wz_at 447 (by decide +kernel) rfl, wz_at 5 (by decide +kernel) rfl, by decide +kernel, by decide +kernel, by decide +kernel⟩
theorem k_Wv_indexOf : zCall y_Wv_indexOf c_Wv_indexOf 3 r_Wv_indexOf 1 := ⟨wz_at 451 (by decide +kernel) rfl, wz_at 5 (by decide +kernel) rfl, by decide +kernel, by decide +kernel, by decide +kernel⟩
theorem k_K_next : zCall y_K_next c_K_next 1 r_K_next 0 := ⟨wz_at 456 (by decide +kernel) rfl, wz_at 1 (by decide +kernel) rfl, by decide +kernel, by decide +kernel, by decide +kernel⟩
theorem k_K_offRule : zCall y_K_offRule c_K_offRule 4 r_K_offRule 1 := ⟨wz_at 460 (by decide +kernel) rfl, wz_at 1 (by decide +kernel) rfl, by decide +kernel, by decide +kernel, by decide +kernel⟩
theorem k_K_clear : zCall y_K_clear c_K_clear 2 r_K_clear 0 := ⟨wz_at 464 (by decide +kernel) rfl, wz_at 1 (by decide +kernel) rfl, by decide +kernel, by decide +kernel, by decide +kernel⟩
theorem k_Sc_wipe : zCall y_Sc_wipe c_Sc_wipe 1 r_Sc_wipe 0 := ⟨wz_at 468 (by decide +kernel) rfl, wz_at 2 (by decide +kernel) rfl, by decide +kernel, by decide +kernel, by decide +kernel⟩
theorem k_jA_fill : zCall y_jA_fill c_jA_fill 4 r_jA_fill 2 := ⟨wz_at 471 (by decide +kernel) rfl, wz_at 24 (by decide +kernel) rfl, by decide +kernel, by decide +kernel, by decide +kernel⟩
theorem k_Tx_wipe : zCall y_Tx_wipe c_Tx_wipe 1 r_Tx_wipe 0 := ⟨wz_at 475 (by decide +kernel) rfl, wz_at 3 (by decide +kernel) rfl, by decide +kernel, by decide +kernel, by decide +kernel⟩
theorem k_Wv_wipe : zCall y_Wv_wipe c_Wv_wipe 1 r_Wv_wipe 0 := ⟨wz_at 479 (by decide +kernel) rfl, wz_at 5 (by decide +kernel) rfl, by decide +kernel, by decide +kernel, by decide +kernel⟩
theorem k_K_table : zCall y_K_table c_K_table 4 r_K_table 3 := ⟨wz_at 488 (by decide +kernel) rfl, wz_at 1 (by decide +kernel) rfl, by decide +kernel, by decide +kernel, by decide +kernel⟩
theorem k_Sc_setVerdict : zCall y_Sc_setVerdict c_Sc_setVerdict 5 r_Sc_setVerdict 3 := ⟨wz_at 576 (by decide +kernel) rfl, wz_at 2 (by decide +kernel) rfl, by decide +kernel, by decide +kernel, by decide +kernel⟩
theorem k_K_part : zCall y_K_part c_K_part 2 r_K_part 1 := ⟨wz_at 583 (by decide +kernel) rfl, wz_at 1 (by decide +kernel) rfl, by decide +kernel, by decide +kernel, by decide +kernel⟩
theorem k_Sc_addPart : zCall y_Sc_addPart c_Sc_addPart 3 r_Sc_addPart 1 := ⟨wz_at 588 (by decide +kernel) rfl, wz_at 2 (by decide +kernel) rfl, by decide +kernel, by decide +kernel, by decide +kernel⟩
theorem k_Pa_init : zCall y_Pa_init c_Pa_init 3 r_Pa_init 2 := ⟨wz_at 592 (by decide +kernel) rfl, wz_at 15 (by decide +kernel) rfl, by decide +kernel, by decide +kernel, by decide +kernel⟩
theorem k_Ph_init : zCall y_Ph_init c_Ph_init 4 r_Ph_init 3 := ⟨wz_at 595 (by decide +kernel) rfl, wz_at 14 (by decide +kernel) rfl, by decide +kernel, by decide +kernel, by decide +kernel⟩
theorem k_Th_init : zCall y_Th_init c_Th_init 4 r_Th_init 3 := ⟨wz_at 598 (by decide +kernel) rfl, wz_at 13 (by decide +kernel) rfl, by decide +kernel, by decide +kernel, by decide +kernel⟩
theorem k_Sc_putInOrder : zCall y_Sc_putInOrder c_Sc_putInOrder 3 r_Sc_putInOrder 1 := ⟨wz_at 619 (by decide +kernel) rfl, wz_at 2 (by decide +kernel) rfl, by decide +kernel, by decide +kernel, by decide +kernel⟩
theorem k_Th_isBefore : zCall y_Th_isBefore c_Th_isBefore 2 r_Th_isBefore 1 := ⟨wz_at 626 (by decide +kernel) rfl, wz_at 13 (by decide +kernel) rfl, by decide +kernel, by decide +kernel, by decide +kernel⟩
theorem k_K_net : zCall y_K_net c_K_net 3 r_K_net 2 := ⟨wz_at 636 (by decide +kernel) rfl, wz_at 1 (by decide +kernel) rfl, by decide +kernel, by decide +kernel, by decide +kernel⟩
theorem k_Sc_addNet : zCall y_Sc_addNet c_Sc_addNet 4 r_Sc_addNet 2 := ⟨wz_at 641 (by decide +kernel) rfl, wz_at 2 (by decide +kernel) rfl, by decide +kernel, by decide +kernel, by decide +kernel⟩
theorem k_Ne_init : zCall y_Ne_init c_Ne_init 4 r_Ne_init 3 := ⟨wz_at 645 (by decide +kernel) rfl, wz_at 16 (by decide +kernel) rfl, by decide +kernel, by decide +kernel, by decide +kernel⟩
theorem k_K_pin : zCall y_K_pin c_K_pin 5 r_K_pin 3 := ⟨wz_at 664 (by decide +kernel) rfl, wz_at 1 (by decide +kernel) rfl, by decide +kernel, by decide +kernel, by decide +kernel⟩
theorem k_Sc_partAt : zCall y_Sc_partAt c_Sc_partAt 2 r_Sc_partAt 1 := ⟨wz_at 668 (by decide +kernel) rfl, wz_at 2 (by decide +kernel) rfl, by decide +kernel, by decide +kernel, by decide +kernel⟩
theorem k_K_isNetOrNone : zCall y_K_isNetOrNone c_K_isNetOrNone 2 r_K_isNetOrNone 1 := ⟨wz_at 672 (by decide +kernel) rfl, wz_at 1 (by decide +kernel) rfl, by decide +kernel, by decide +kernel, by decide +kernel⟩
theorem k_Sc_addPin : zCall y_Sc_addPin c_Sc_addPin 5 r_Sc_addPin 3 := ⟨wz_at 679 (by decide +kernel) rfl, wz_at 2 (by decide +kernel) rfl, by decide +kernel, by decide +kernel, by decide +kernel⟩
theorem k_Pi_init : zCall y_Pi_init c_Pi_init 4 r_Pi_init 3 := ⟨wz_at 683 (by decide +kernel) rfl, wz_at 17 (by decide +kernel) rfl, by decide +kernel, by decide +kernel, by decide +kernel⟩
theorem k_Ph_countPins : zCall y_Ph_countPins c_Ph_countPins 3 r_Ph_countPins 2 := ⟨wz_at 705 (by decide +kernel) rfl, wz_at 14 (by decide +kernel) rfl, by decide +kernel, by decide +kernel, by decide +kernel⟩
theorem k_Pi_moveTo : zCall y_Pi_moveTo c_Pi_moveTo 2 r_Pi_moveTo 1 := ⟨wz_at 709 (by decide +kernel) rfl, wz_at 17 (by decide +kernel) rfl, by decide +kernel, by decide +kernel, by decide +kernel⟩
theorem k_K_join : zCall y_K_join c_K_join 4 r_K_join 2 := ⟨wz_at 719 (by decide +kernel) rfl, wz_at 1 (by decide +kernel) rfl, by decide +kernel, by decide +kernel, by decide +kernel⟩
theorem k_K_field : zCall y_K_field c_K_field 6 r_K_field 3 := ⟨wz_at 729 (by decide +kernel) rfl, wz_at 1 (by decide +kernel) rfl, by decide +kernel, by decide +kernel, by decide +kernel⟩
theorem k_Pa_setField : zCall y_Pa_setField c_Pa_setField 5 r_Pa_setField 2 := ⟨wz_at 734 (by decide +kernel) rfl, wz_at 15 (by decide +kernel) rfl, by decide +kernel, by decide +kernel, by decide +kernel⟩
theorem k_K_end : zCall y_K_end c_K_end 7 r_K_end 3 := ⟨wz_at 741 (by decide +kernel) rfl, wz_at 1 (by decide +kernel) rfl, by decide +kernel, by decide +kernel, by decide +kernel⟩
theorem k_Sc_addEnd : zCall y_Sc_addEnd c_Sc_addEnd 6 r_Sc_addEnd 3 := ⟨wz_at 746 (by decide +kernel) rfl, wz_at 2 (by decide +kernel) rfl, by decide +kernel, by decide +kernel, by decide +kernel⟩
theorem k_Ne_noteEnd : zCall y_Ne_noteEnd c_Ne_noteEnd 5 r_Ne_noteEnd 2 := ⟨wz_at 750 (by decide +kernel) rfl, wz_at 16 (by decide +kernel) rfl, by decide +kernel, by decide +kernel, by decide +kernel⟩
theorem k_K_rule : zCall y_K_rule c_K_rule 2 r_K_rule 0 := ⟨wz_at 759 (by decide +kernel) rfl, wz_at 1 (by decide +kernel) rfl, by decide +kernel, by decide +kernel, by decide +kernel⟩
theorem k_Rd_readRule : zCall y_Rd_readRule c_Rd_readRule 2 r_Rd_readRule 0 := ⟨wz_at 779 (by decide +kernel) rfl, wz_at 4 (by decide +kernel) rfl, by decide +kernel, by decide +kernel, by decide +kernel⟩
theorem k_Rd_start : zCall y_Rd_start c_Rd_start 1 r_Rd_start 0 := ⟨wz_at 783 (by decide +kernel) rfl, wz_at 4 (by decide +kernel) rfl, by decide +kernel, by decide +kernel, by decide +kernel⟩
theorem k_Tx_toStart : zCall y_Tx_toStart c_Tx_toStart 1 r_Tx_toStart 0 := ⟨wz_at 787 (by decide +kernel) rfl, wz_at 3 (by decide +kernel) rfl, by decide +kernel, by decide +kernel, by decide +kernel⟩
theorem k_Tx_toNextWord : zCall y_Tx_toNextWord c_Tx_toNextWord 1 r_Tx_toNextWord 0 := ⟨wz_at 791 (by decide +kernel) rfl, wz_at 3 (by decide +kernel) rfl, by decide +kernel, by decide +kernel, by decide +kernel⟩
theorem k_Tx_isInside : zCall y_Tx_isInside c_Tx_isInside 2 r_Tx_isInside 1 := ⟨wz_at 795 (by decide +kernel) rfl, wz_at 3 (by decide +kernel) rfl, by decide +kernel, by decide +kernel, by decide +kernel⟩
theorem k_Rd_takeWord : zCall y_Rd_takeWord c_Rd_takeWord 1 r_Rd_takeWord 0 := ⟨wz_at 799 (by decide +kernel) rfl, wz_at 4 (by decide +kernel) rfl, by decide +kernel, by decide +kernel, by decide +kernel⟩
theorem k_Rd_takeSubject : zCall y_Rd_takeSubject c_Rd_takeSubject 1 r_Rd_takeSubject 0 := ⟨wz_at 803 (by decide +kernel) rfl, wz_at 4 (by decide +kernel) rfl, by decide +kernel, by decide +kernel, by decide +kernel⟩
theorem k_Tx_wordIs : zCall y_Tx_wordIs c_Tx_wordIs 3 r_Tx_wordIs 1 := ⟨wz_at 808 (by decide +kernel) rfl, wz_at 3 (by decide +kernel) rfl, by decide +kernel, by decide +kernel, by decide +kernel⟩
theorem k_jS_length : zCall y_jS_length c_jS_length 1 r_jS_length 0 := ⟨wz_at 812 (by decide +kernel) rfl, wz_at 19 (by decide +kernel) rfl, by decide +kernel, by decide +kernel, by decide +kernel⟩
theorem k_jS_coder : zCall y_jS_coder c_jS_coder 1 r_jS_coder 0 := ⟨wz_at 816 (by decide +kernel) rfl, wz_at 19 (by decide +kernel) rfl, by decide +kernel, by decide +kernel, by decide +kernel⟩
theorem k_Tx_wordLength : zCall y_Tx_wordLength c_Tx_wordLength 1 r_Tx_wordLength 0 := ⟨wz_at 822 (by decide +kernel) rfl, wz_at 3 (by decide +kernel) rfl, by decide +kernel, by decide +kernel, by decide +kernel⟩
theorem k_jS_charAt : zCall y_jS_charAt c_jS_charAt 2 r_jS_charAt 1 := ⟨wz_at 826 (by decide +kernel) rfl, wz_at 19 (by decide +kernel) rfl, by decide +kernel, by decide +kernel, by decide +kernel⟩
theorem k_jS_isLatin1 : zCall y_jS_isLatin1 c_jS_isLatin1 1 r_jS_isLatin1 0 := ⟨wz_at 830 (by decide +kernel) rfl, wz_at 19 (by decide +kernel) rfl, by decide +kernel, by decide +kernel, by decide +kernel⟩
theorem k_jL_charAt : zCall y_jL_charAt c_jL_charAt 2 r_jL_charAt 2 := ⟨wz_at 833 (by decide +kernel) rfl, wz_at 20 (by decide +kernel) rfl, by decide +kernel, by decide +kernel, by decide +kernel⟩
theorem k_jS_checkIndex : zCall y_jS_checkIndex c_jS_checkIndex 2 r_jS_checkIndex 2 := ⟨wz_at 836 (by decide +kernel) rfl, wz_at 19 (by decide +kernel) rfl, by decide +kernel, by decide +kernel, by decide +kernel⟩
theorem k_jP_checkIndex : zCall y_jP_checkIndex c_jP_checkIndex 3 r_jP_checkIndex 3 := ⟨wz_at 841 (by decide +kernel) rfl, wz_at 21 (by decide +kernel) rfl, by decide +kernel, by decide +kernel, by decide +kernel⟩
theorem k_Tx_letterOfWord : zCall y_Tx_letterOfWord c_Tx_letterOfWord 3 r_Tx_letterOfWord 1 := ⟨wz_at 864 (by decide +kernel) rfl, wz_at 3 (by decide +kernel) rfl, by decide +kernel, by decide +kernel, by decide +kernel⟩
theorem k_Rd_takeWeight : zCall y_Rd_takeWeight c_Rd_takeWeight 1 r_Rd_takeWeight 0 := ⟨wz_at 870 (by decide +kernel) rfl, wz_at 4 (by decide +kernel) rfl, by decide +kernel, by decide +kernel, by decide +kernel⟩
theorem k_Rd_takeNot : zCall y_Rd_takeNot c_Rd_takeNot 1 r_Rd_takeNot 0 := ⟨wz_at 876 (by decide +kernel) rfl, wz_at 4 (by decide +kernel) rfl, by decide +kernel, by decide +kernel, by decide +kernel⟩
theorem k_Rd_putOff : zCall y_Rd_putOff c_Rd_putOff 2 r_Rd_putOff 1 := ⟨wz_at 881 (by decide +kernel) rfl, wz_at 4 (by decide +kernel) rfl, by decide +kernel, by decide +kernel, by decide +kernel⟩
theorem k_Rd_takeOpening : zCall y_Rd_takeOpening c_Rd_takeOpening 1 r_Rd_takeOpening 0 := ⟨wz_at 885 (by decide +kernel) rfl, wz_at 4 (by decide +kernel) rfl, by decide +kernel, by decide +kernel, by decide +kernel⟩
theorem k_Rd_takeTerm : zCall y_Rd_takeTerm c_Rd_takeTerm 2 r_Rd_takeTerm 0 := ⟨wz_at 890 (by decide +kernel) rfl, wz_at 4 (by decide +kernel) rfl, by decide +kernel, by decide +kernel, by decide +kernel⟩
theorem k_Rd_takeNumber : zCall y_Rd_takeNumber c_Rd_takeNumber 5 r_Rd_takeNumber 0 := ⟨wz_at 894 (by decide +kernel) rfl, wz_at 4 (by decide +kernel) rfl, by decide +kernel, by decide +kernel, by decide +kernel⟩
theorem k_Tx_digitOfWord : zCall y_Tx_digitOfWord c_Tx_digitOfWord 3 r_Tx_digitOfWord 1 := ⟨wz_at 899 (by decide +kernel) rfl, wz_at 3 (by decide +kernel) rfl, by decide +kernel, by decide +kernel, by decide +kernel⟩
theorem k_Rd_putTerm : zCall y_Rd_putTerm c_Rd_putTerm 3 r_Rd_putTerm 2 := ⟨wz_at 903 (by decide +kernel) rfl, wz_at 4 (by decide +kernel) rfl, by decide +kernel, by decide +kernel, by decide +kernel⟩
theorem k_Rd_putOut : zCall y_Rd_putOut c_Rd_putOut 3 r_Rd_putOut 2 := ⟨wz_at 907 (by decide +kernel) rfl, wz_at 4 (by decide +kernel) rfl, by decide +kernel, by decide +kernel, by decide +kernel⟩
theorem k_Rd_takeField : zCall y_Rd_takeField c_Rd_takeField 2 r_Rd_takeField 0 := ⟨wz_at 911 (by decide +kernel) rfl, wz_at 4 (by decide +kernel) rfl, by decide +kernel, by decide +kernel, by decide +kernel⟩
theorem k_Rd_plainTerm : zCall y_Rd_plainTerm c_Rd_plainTerm 1 r_Rd_plainTerm 0 := ⟨wz_at 918 (by decide +kernel) rfl, wz_at 4 (by decide +kernel) rfl, by decide +kernel, by decide +kernel, by decide +kernel⟩
theorem k_Rd_takeKind : zCall y_Rd_takeKind c_Rd_takeKind 2 r_Rd_takeKind 0 := ⟨wz_at 926 (by decide +kernel) rfl, wz_at 4 (by decide +kernel) rfl, by decide +kernel, by decide +kernel, by decide +kernel⟩
theorem k_Rd_takeOperator : zCall y_Rd_takeOperator c_Rd_takeOperator 2 r_Rd_takeOperator 0 := ⟨wz_at 930 (by decide +kernel) rfl, wz_at 4 (by decide +kernel) rfl, by decide +kernel, by decide +kernel, by decide +kernel⟩
theorem k_Rd_operatorOfWord : zCall y_Rd_operatorOfWord c_Rd_operatorOfWord 1 r_Rd_operatorOfWord 0 := ⟨wz_at 934 (by decide +kernel) rfl, wz_at 4 (by decide +kernel) rfl, by decide +kernel, by decide +kernel, by decide +kernel⟩
theorem k_Rd_operatorOfLetter : zCall y_Rd_operatorOfLetter c_Rd_operatorOfLetter 1 r_Rd_operatorOfLetter 1 := ⟨wz_at 937 (by decide +kernel) rfl, wz_at 4 (by decide +kernel) rfl, by decide +kernel, by decide +kernel, by decide +kernel⟩
theorem k_Tr_isJoining : zCall y_Tr_isJoining c_Tr_isJoining 1 r_Tr_isJoining 1 := ⟨wz_at 944 (by decide +kernel) rfl, wz_at 23 (by decide +kernel) rfl, by decide +kernel, by decide +kernel, by decide +kernel⟩
theorem k_Rd_isBehindCondition : zCall y_Rd_isBehindCondition c_Rd_isBehindCondition 1 r_Rd_isBehindCondition 0 := ⟨wz_at 948 (by decide +kernel) rfl, wz_at 4 (by decide +kernel) rfl, by decide +kernel, by decide +kernel, by decide +kernel⟩
theorem k_Tr_isSign : zCall y_Tr_isSign c_Tr_isSign 1 r_Tr_isSign 1 := ⟨wz_at 951 (by decide +kernel) rfl, wz_at 23 (by decide +kernel) rfl, by decide +kernel, by decide +kernel, by decide +kernel⟩
theorem k_Tr_isArithmetic : zCall y_Tr_isArithmetic c_Tr_isArithmetic 1 r_Tr_isArithmetic 1 := ⟨wz_at 954 (by decide +kernel) rfl, wz_at 23 (by decide +kernel) rfl, by decide +kernel, by decide +kernel, by decide +kernel⟩
theorem k_Rd_putOutDownTo : zCall y_Rd_putOutDownTo c_Rd_putOutDownTo 2 r_Rd_putOutDownTo 1 := ⟨wz_at 958 (by decide +kernel) rfl, wz_at 4 (by decide +kernel) rfl, by decide +kernel, by decide +kernel, by decide +kernel⟩
theorem k_Tr_strength : zCall y_Tr_strength c_Tr_strength 1 r_Tr_strength 1 := ⟨wz_at 961 (by decide +kernel) rfl, wz_at 23 (by decide +kernel) rfl, by decide +kernel, by decide +kernel, by decide +kernel⟩
theorem k_Rd_takeClosing : zCall y_Rd_takeClosing c_Rd_takeClosing 1 r_Rd_takeClosing 0 := ⟨wz_at 966 (by decide +kernel) rfl, wz_at 4 (by decide +kernel) rfl, by decide +kernel, by decide +kernel, by decide +kernel⟩
theorem k_Rd_dropOpening : zCall y_Rd_dropOpening c_Rd_dropOpening 1 r_Rd_dropOpening 0 := ⟨wz_at 971 (by decide +kernel) rfl, wz_at 4 (by decide +kernel) rfl, by decide +kernel, by decide +kernel, by decide +kernel⟩
theorem k_Tr_init : zCall y_Tr_init c_Tr_init 5 r_Tr_init 4 := ⟨wz_at 976 (by decide +kernel) rfl, wz_at 23 (by decide +kernel) rfl, by decide +kernel, by decide +kernel, by decide +kernel⟩
theorem k_Rd_wrongWord : zCall y_Rd_wrongWord c_Rd_wrongWord 1 r_Rd_wrongWord 0 := ⟨wz_at 994 (by decide +kernel) rfl, wz_at 4 (by decide +kernel) rfl, by decide +kernel, by decide +kernel, by decide +kernel⟩
theorem k_K_off : zCall y_K_off c_K_off 4 r_K_off 2 := ⟨wz_at 1001 (by decide +kernel) rfl, wz_at 1 (by decide +kernel) rfl, by decide +kernel, by decide +kernel, by decide +kernel⟩
theorem k_K_isRule : zCall y_K_isRule c_K_isRule 2 r_K_isRule 1 := ⟨wz_at 1005 (by decide +kernel) rfl, wz_at 1 (by decide +kernel) rfl, by decide +kernel, by decide +kernel, by decide +kernel⟩
theorem k_K_remark : zCall y_K_remark c_K_remark 3 r_K_remark 2 := ⟨wz_at 1013 (by decide +kernel) rfl, wz_at 1 (by decide +kernel) rfl, by decide +kernel, by decide +kernel, by decide +kernel⟩
theorem k_K_aboutKey : zCall y_K_aboutKey c_K_aboutKey 3 r_K_aboutKey 2 := ⟨wz_at 1017 (by decide +kernel) rfl, wz_at 1 (by decide +kernel) rfl, by decide +kernel, by decide +kernel, by decide +kernel⟩
theorem k_K_closed : zCall y_K_closed c_K_closed 3 r_K_closed 2 := ⟨wz_at 1024 (by decide +kernel) rfl, wz_at 1 (by decide +kernel) rfl, by decide +kernel, by decide +kernel, by decide +kernel⟩
theorem k_K_waive : zCall y_K_waive c_K_waive 6 r_K_waive 4 := ⟨wz_at 1032 (by decide +kernel) rfl, wz_at 1 (by decide +kernel) rfl, by decide +kernel, by decide +kernel, by decide +kernel⟩
theorem k_Sc_thingOf : zCall y_Sc_thingOf c_Sc_thingOf 3 r_Sc_thingOf 2 := ⟨wz_at 1036 (by decide +kernel) rfl, wz_at 2 (by decide +kernel) rfl, by decide +kernel, by decide +kernel, by decide +kernel⟩
theorem k_Wv_setReason : zCall y_Wv_setReason c_Wv_setReason 4 r_Wv_setReason 2 := ⟨wz_at 1043 (by decide +kernel) rfl, wz_at 5 (by decide +kernel) rfl, by decide +kernel, by decide +kernel, by decide +kernel⟩
theorem k_Wv_append : zCall y_Wv_append c_Wv_append 3 r_Wv_append 2 := ⟨wz_at 1048 (by decide +kernel) rfl, wz_at 5 (by decide +kernel) rfl, by decide +kernel, by decide +kernel, by decide +kernel⟩
theorem k_Wv_remove : zCall y_Wv_remove c_Wv_remove 3 r_Wv_remove 1 := ⟨wz_at 1052 (by decide +kernel) rfl, wz_at 5 (by decide +kernel) rfl, by decide +kernel, by decide +kernel, by decide +kernel⟩
theorem k_Mo_init : zCall y_Mo_init c_Mo_init 1 r_Mo_init 0 := ⟨wz_at 1057 (by decide +kernel) rfl, wz_at 7 (by decide +kernel) rfl, by decide +kernel, by decide +kernel, by decide +kernel⟩
theorem k_Mo_thrown : zCall y_Mo_thrown c_Mo_thrown 1 r_Mo_thrown 0 := ⟨wz_at 1189 (by decide +kernel) rfl, wz_at 7 (by decide +kernel) rfl, by decide +kernel, by decide +kernel, by decide +kernel⟩
theorem k_Mo_table : zCall y_Mo_table c_Mo_table 5 r_Mo_table 3 := ⟨wz_at 1193 (by decide +kernel) rfl, wz_at 7 (by decide +kernel) rfl, by decide +kernel, by decide +kernel, by decide +kernel⟩
theorem k_Mo_isKind : zCall y_Mo_isKind c_Mo_isKind 1 r_Mo_isKind 1 := ⟨wz_at 1196 (by decide +kernel) rfl, wz_at 7 (by decide +kernel) rfl, by decide +kernel, by decide +kernel, by decide +kernel⟩
theorem k_Mo_part : zCall y_Mo_part c_Mo_part 3 r_Mo_part 1 := ⟨wz_at 1200 (by decide +kernel) rfl, wz_at 7 (by decide +kernel) rfl, by decide +kernel, by decide +kernel, by decide +kernel⟩
theorem k_Mo_isSheet : zCall y_Mo_isSheet c_Mo_isSheet 1 r_Mo_isSheet 1 := ⟨wz_at 1203 (by decide +kernel) rfl, wz_at 7 (by decide +kernel) rfl, by decide +kernel, by decide +kernel, by decide +kernel⟩
theorem k_Mo_net : zCall y_Mo_net c_Mo_net 3 r_Mo_net 2 := ⟨wz_at 1207 (by decide +kernel) rfl, wz_at 7 (by decide +kernel) rfl, by decide +kernel, by decide +kernel, by decide +kernel⟩
theorem k_Mo_pin : zCall y_Mo_pin c_Mo_pin 5 r_Mo_pin 3 := ⟨wz_at 1211 (by decide +kernel) rfl, wz_at 7 (by decide +kernel) rfl, by decide +kernel, by decide +kernel, by decide +kernel⟩
theorem k_Mo_isPart : zCall y_Mo_isPart c_Mo_isPart 2 r_Mo_isPart 1 := ⟨wz_at 1215 (by decide +kernel) rfl, wz_at 7 (by decide +kernel) rfl, by decide +kernel, by decide +kernel, by decide +kernel⟩
theorem k_Mo_isNet : zCall y_Mo_isNet c_Mo_isNet 2 r_Mo_isNet 1 := ⟨wz_at 1219 (by decide +kernel) rfl, wz_at 7 (by decide +kernel) rfl, by decide +kernel, by decide +kernel, by decide +kernel⟩
theorem k_Mo_join : zCall y_Mo_join c_Mo_join 3 r_Mo_join 2 := ⟨wz_at 1223 (by decide +kernel) rfl, wz_at 7 (by decide +kernel) rfl, by decide +kernel, by decide +kernel, by decide +kernel⟩
theorem k_Mo_field : zCall y_Mo_field c_Mo_field 5 r_Mo_field 3 := ⟨wz_at 1227 (by decide +kernel) rfl, wz_at 7 (by decide +kernel) rfl, by decide +kernel, by decide +kernel, by decide +kernel⟩
theorem k_Mo_end : zCall y_Mo_end c_Mo_end 6 r_Mo_end 3 := ⟨wz_at 1231 (by decide +kernel) rfl, wz_at 7 (by decide +kernel) rfl, by decide +kernel, by decide +kernel, by decide +kernel⟩
theorem k_Mo_unit : zCall y_Mo_unit c_Mo_unit 2 r_Mo_unit 1 := ⟨wz_at 1235 (by decide +kernel) rfl, wz_at 7 (by decide +kernel) rfl, by decide +kernel, by decide +kernel, by decide +kernel⟩
theorem k_Mo_rule : zCall y_Mo_rule c_Mo_rule 2 r_Mo_rule 0 := ⟨wz_at 1239 (by decide +kernel) rfl, wz_at 7 (by decide +kernel) rfl, by decide +kernel, by decide +kernel, by decide +kernel⟩
theorem k_Mo_reads : zCall y_Mo_reads c_Mo_reads 5 r_Mo_reads 1 := ⟨wz_at 1243 (by decide +kernel) rfl, wz_at 7 (by decide +kernel) rfl, by decide +kernel, by decide +kernel, by decide +kernel⟩
theorem k_Mo_nextWord : zCall y_Mo_nextWord c_Mo_nextWord 1 r_Mo_nextWord 0 := ⟨wz_at 1247 (by decide +kernel) rfl, wz_at 7 (by decide +kernel) rfl, by decide +kernel, by decide +kernel, by decide +kernel⟩
theorem k_Mo_spelt : zCall y_Mo_spelt c_Mo_spelt 4 r_Mo_spelt 0 := ⟨wz_at 1251 (by decide +kernel) rfl, wz_at 7 (by decide +kernel) rfl, by decide +kernel, by decide +kernel, by decide +kernel⟩
theorem k_Mo_word : zCall y_Mo_word c_Mo_word 7 r_Mo_word 5 := ⟨wz_at 1254 (by decide +kernel) rfl, wz_at 7 (by decide +kernel) rfl, by decide +kernel, by decide +kernel, by decide +kernel⟩
theorem k_Mo_takes : zCall y_Mo_takes c_Mo_takes 2 r_Mo_takes 1 := ⟨wz_at 1258 (by decide +kernel) rfl, wz_at 7 (by decide +kernel) rfl, by decide +kernel, by decide +kernel, by decide +kernel⟩
theorem k_Mo_takesSign : zCall y_Mo_takesSign c_Mo_takesSign 3 r_Mo_takesSign 0 := ⟨wz_at 1262 (by decide +kernel) rfl, wz_at 7 (by decide +kernel) rfl, by decide +kernel, by decide +kernel, by decide +kernel⟩
theorem k_Mo_signAt : zCall y_Mo_signAt c_Mo_signAt 3 r_Mo_signAt 0 := ⟨wz_at 1266 (by decide +kernel) rfl, wz_at 7 (by decide +kernel) rfl, by decide +kernel, by decide +kernel, by decide +kernel⟩
theorem k_Mo_rank : zCall y_Mo_rank c_Mo_rank 1 r_Mo_rank 1 := ⟨wz_at 1276 (by decide +kernel) rfl, wz_at 7 (by decide +kernel) rfl, by decide +kernel, by decide +kernel, by decide +kernel⟩
theorem k_Mo_release : zCall y_Mo_release c_Mo_release 2 r_Mo_release 1 := ⟨wz_at 1280 (by decide +kernel) rfl, wz_at 7 (by decide +kernel) rfl, by decide +kernel, by decide +kernel, by decide +kernel⟩
theorem k_Mo_put : zCall y_Mo_put c_Mo_put 4 r_Mo_put 2 := ⟨wz_at 1284 (by decide +kernel) rfl, wz_at 7 (by decide +kernel) rfl, by decide +kernel, by decide +kernel, by decide +kernel⟩
theorem k_Mo_wait : zCall y_Mo_wait c_Mo_wait 2 r_Mo_wait 1 := ⟨wz_at 1288 (by decide +kernel) rfl, wz_at 7 (by decide +kernel) rfl, by decide +kernel, by decide +kernel, by decide +kernel⟩
theorem k_Mo_isTerm : zCall y_Mo_isTerm c_Mo_isTerm 4 r_Mo_isTerm 1 := ⟨wz_at 1294 (by decide +kernel) rfl, wz_at 7 (by decide +kernel) rfl, by decide +kernel, by decide +kernel, by decide +kernel⟩
theorem k_Mo_isNumber : zCall y_Mo_isNumber c_Mo_isNumber 3 r_Mo_isNumber 0 := ⟨wz_at 1298 (by decide +kernel) rfl, wz_at 7 (by decide +kernel) rfl, by decide +kernel, by decide +kernel, by decide +kernel⟩
theorem k_Mo_value : zCall y_Mo_value c_Mo_value 3 r_Mo_value 0 := ⟨wz_at 1302 (by decide +kernel) rfl, wz_at 7 (by decide +kernel) rfl, by decide +kernel, by decide +kernel, by decide +kernel⟩
theorem k_Mo_isDigitNext : zCall y_Mo_isDigitNext c_Mo_isDigitNext 1 r_Mo_isDigitNext 0 := ⟨wz_at 1306 (by decide +kernel) rfl, wz_at 7 (by decide +kernel) rfl, by decide +kernel, by decide +kernel, by decide +kernel⟩
theorem k_Mo_run : zCall y_Mo_run c_Mo_run 7 r_Mo_run 0 := ⟨wz_at 1310 (by decide +kernel) rfl, wz_at 7 (by decide +kernel) rfl, by decide +kernel, by decide +kernel, by decide +kernel⟩
theorem k_Mo_many : zCall y_Mo_many c_Mo_many 2 r_Mo_many 1 := ⟨wz_at 1314 (by decide +kernel) rfl, wz_at 7 (by decide +kernel) rfl, by decide +kernel, by decide +kernel, by decide +kernel⟩
theorem k_Mo_thing : zCall y_Mo_thing c_Mo_thing 2 r_Mo_thing 2 := ⟨wz_at 1317 (by decide +kernel) rfl, wz_at 7 (by decide +kernel) rfl, by decide +kernel, by decide +kernel, by decide +kernel⟩
theorem k_Mo_found : zCall y_Mo_found c_Mo_found 4 r_Mo_found 3 := ⟨wz_at 1321 (by decide +kernel) rfl, wz_at 7 (by decide +kernel) rfl, by decide +kernel, by decide +kernel, by decide +kernel⟩
theorem k_Mo_holds : zCall y_Mo_holds c_Mo_holds 5 r_Mo_holds 2 := ⟨wz_at 1325 (by decide +kernel) rfl, wz_at 7 (by decide +kernel) rfl, by decide +kernel, by decide +kernel, by decide +kernel⟩
theorem k_Mo_term : zCall y_Mo_term c_Mo_term 5 r_Mo_term 4 := ⟨wz_at 1329 (by decide +kernel) rfl, wz_at 7 (by decide +kernel) rfl, by decide +kernel, by decide +kernel, by decide +kernel⟩
theorem k_Mo_partOf : zCall y_Mo_partOf c_Mo_partOf 3 r_Mo_partOf 2 := ⟨wz_at 1333 (by decide +kernel) rfl, wz_at 7 (by decide +kernel) rfl, by decide +kernel, by decide +kernel, by decide +kernel⟩
theorem k_Mo_pinsOf : zCall y_Mo_pinsOf c_Mo_pinsOf 7 r_Mo_pinsOf 3 := ⟨wz_at 1337 (by decide +kernel) rfl, wz_at 7 (by decide +kernel) rfl, by decide +kernel, by decide +kernel, by decide +kernel⟩
theorem k_Mo_sheetOf : zCall y_Mo_sheetOf c_Mo_sheetOf 3 r_Mo_sheetOf 2 := ⟨wz_at 1342 (by decide +kernel) rfl, wz_at 7 (by decide +kernel) rfl, by decide +kernel, by decide +kernel, by decide +kernel⟩
theorem k_Mo_result : zCall y_Mo_result c_Mo_result 6 r_Mo_result 3 := ⟨wz_at 1345 (by decide +kernel) rfl, wz_at 7 (by decide +kernel) rfl, by decide +kernel, by decide +kernel, by decide +kernel⟩
theorem k_Mo_worst : zCall y_Mo_worst c_Mo_worst 5 r_Mo_worst 1 := ⟨wz_at 1349 (by decide +kernel) rfl, wz_at 7 (by decide +kernel) rfl, by decide +kernel, by decide +kernel, by decide +kernel⟩
theorem k_Mo_isNamedBefore : zCall y_Mo_isNamedBefore c_Mo_isNamedBefore 4 r_Mo_isNamedBefore 1 := ⟨wz_at 1353 (by decide +kernel) rfl, wz_at 7 (by decide +kernel) rfl, by decide +kernel, by decide +kernel, by decide +kernel⟩
theorem k_Mo_isOffGrid : zCall y_Mo_isOffGrid c_Mo_isOffGrid 4 r_Mo_isOffGrid 1 := ⟨wz_at 1357 (by decide +kernel) rfl, wz_at 7 (by decide +kernel) rfl, by decide +kernel, by decide +kernel, by decide +kernel⟩
theorem k_Mo_reason : zCall y_Mo_reason c_Mo_reason 4 r_Mo_reason 1 := ⟨wz_at 1362 (by decide +kernel) rfl, wz_at 7 (by decide +kernel) rfl, by decide +kernel, by decide +kernel, by decide +kernel⟩
theorem k_Mo_remark : zCall y_Mo_remark c_Mo_remark 4 r_Mo_remark 2 := ⟨wz_at 1366 (by decide +kernel) rfl, wz_at 7 (by decide +kernel) rfl, by decide +kernel, by decide +kernel, by decide +kernel⟩
theorem k_Mo_remarkAt : zCall y_Mo_remarkAt c_Mo_remarkAt 10 r_Mo_remarkAt 2 := ⟨wz_at 1370 (by decide +kernel) rfl, wz_at 7 (by decide +kernel) rfl, by decide +kernel, by decide +kernel, by decide +kernel⟩
theorem k_Mo_kindOf : zCall y_Mo_kindOf c_Mo_kindOf 2 r_Mo_kindOf 1 := ⟨wz_at 1373 (by decide +kernel) rfl, wz_at 7 (by decide +kernel) rfl, by decide +kernel, by decide +kernel, by decide +kernel⟩
theorem k_Mo_numberOf : zCall y_Mo_numberOf c_Mo_numberOf 2 r_Mo_numberOf 1 := ⟨wz_at 1376 (by decide +kernel) rfl, wz_at 7 (by decide +kernel) rfl, by decide +kernel, by decide +kernel, by decide +kernel⟩
theorem k_Mo_closed : zCall y_Mo_closed c_Mo_closed 4 r_Mo_closed 2 := ⟨wz_at 1380 (by decide +kernel) rfl, wz_at 7 (by decide +kernel) rfl, by decide +kernel, by decide +kernel, by decide +kernel⟩
theorem k_Mo_off : zCall y_Mo_off c_Mo_off 3 r_Mo_off 2 := ⟨wz_at 1384 (by decide +kernel) rfl, wz_at 7 (by decide +kernel) rfl, by decide +kernel, by decide +kernel, by decide +kernel⟩
theorem k_Mo_isRule : zCall y_Mo_isRule c_Mo_isRule 2 r_Mo_isRule 1 := ⟨wz_at 1388 (by decide +kernel) rfl, wz_at 7 (by decide +kernel) rfl, by decide +kernel, by decide +kernel, by decide +kernel⟩
theorem k_Mo_waive : zCall y_Mo_waive c_Mo_waive 8 r_Mo_waive 4 := ⟨wz_at 1392 (by decide +kernel) rfl, wz_at 7 (by decide +kernel) rfl, by decide +kernel, by decide +kernel, by decide +kernel⟩
theorem k_Mo_next : zCall y_Mo_next c_Mo_next 1 r_Mo_next 0 := ⟨wz_at 1396 (by decide +kernel) rfl, wz_at 7 (by decide +kernel) rfl, by decide +kernel, by decide +kernel, by decide +kernel⟩
theorem k_Mo_offRule : zCall y_Mo_offRule c_Mo_offRule 4 r_Mo_offRule 1 := ⟨wz_at 1400 (by decide +kernel) rfl, wz_at 7 (by decide +kernel) rfl, by decide +kernel, by decide +kernel, by decide +kernel⟩
theorem k_Mo_clear : zCall y_Mo_clear c_Mo_clear 2 r_Mo_clear 0 := ⟨wz_at 1404 (by decide +kernel) rfl, wz_at 7 (by decide +kernel) rfl, by decide +kernel, by decide +kernel, by decide +kernel⟩
theorem t_La_8 : Cond.classLink "PinKindChecksLaw" 8 "PinKindChecks" ∈ wz := wz_at 27 (by decide +kernel) rfl
theorem l_La_61 : Cond.methodLink "PinKindChecksLaw" 61 y_K_init ∈ wz := wz_at 29 (by decide +kernel) rfl
theorem i_K_init : Cond.instanceMethod y_K_init ∈ wz := wz_at 30 (by decide +kernel) rfl
theorem l_K_3 : Cond.methodLink "PinKindChecks" 3 ⟨"java/lang/Object", "<init>", "()V"⟩ ∈ wz := wz_at 32 (by decide +kernel) rfl
theorem t_K_9 : Cond.classLink "PinKindChecks" 9 "PinKindChecks$Schematic" ∈ wz := wz_at 35 (by decide +kernel) rfl
theorem l_K_11 : Cond.methodLinkNest "PinKindChecks" 11 y_Sc_init "PinKindChecks" ∈ wn := wn_at 37 (by decide +kernel) rfl
theorem i_Sc_init : Cond.instanceMethod y_Sc_init ∈ wz := wz_at 38 (by decide +kernel) rfl
theorem l_Sc_3 : Cond.methodLink "PinKindChecks$Schematic" 3 ⟨"java/lang/Object", "<init>", "()V"⟩ ∈ wz := wz_at 40 (by decide +kernel) rfl
theorem t_Sc_15 : Cond.classLink "PinKindChecks$Schematic" 15 "PinKindChecks$Part" ∈ wz := wz_at 41 (by decide +kernel) rfl
theorem a_Pa : Cond.arrayOver (.object "PinKindChecks$Part") ∈ wn := wn_at 42 (by decide +kernel) rfl
theorem t_Sc_21 : Cond.classLink "PinKindChecks$Schematic" 21 "PinKindChecks$Net" ∈ wz := wz_at 43 (by decide +kernel) rfl
theorem a_Ne : Cond.arrayOver (.object "PinKindChecks$Net") ∈ wn := wn_at 44 (by decide +kernel) rfl
theorem t_Sc_27 : Cond.classLink "PinKindChecks$Schematic" 27 "PinKindChecks$Pin" ∈ wz := wz_at 45 (by decide +kernel) rfl
theorem a_Pi : Cond.arrayOver (.object "PinKindChecks$Pin") ∈ wn := wn_at 46 (by decide +kernel) rfl
theorem t_Sc_33 : Cond.classLink "PinKindChecks$Schematic" 33 "PinKindChecks$Thing" ∈ wz := wz_at 47 (by decide +kernel) rfl
theorem a_Th : Cond.arrayOver (.object "PinKindChecks$Thing") ∈ wn := wn_at 48 (by decide +kernel) rfl
theorem a_int : Cond.arrayClass .int ∈ wz := wz_at 77 (by decide +kernel) rfl
theorem t_K_16 : Cond.classLink "PinKindChecks" 16 "PinKindChecks$RuleText" ∈ wz := wz_at 78 (by decide +kernel) rfl
theorem l_K_18 : Cond.methodLinkNest "PinKindChecks" 18 y_Tx_init "PinKindChecks" ∈ wn := wn_at 80 (by decide +kernel) rfl
theorem i_Tx_init : Cond.instanceMethod y_Tx_init ∈ wz := wz_at 81 (by decide +kernel) rfl
theorem l_Tx_3 : Cond.methodLink "PinKindChecks$RuleText" 3 ⟨"java/lang/Object", "<init>", "()V"⟩ ∈ wz := wz_at 83 (by decide +kernel) rfl
theorem a_char : Cond.arrayClass .char ∈ wz := wz_at 97 (by decide +kernel) rfl
theorem t_K_23 : Cond.classLink "PinKindChecks" 23 "PinKindChecks$RuleReader" ∈ wz := wz_at 98 (by decide +kernel) rfl
theorem l_K_25 : Cond.methodLink "PinKindChecks" 25 y_Rd_init ∈ wz := wz_at 100 (by decide +kernel) rfl
theorem i_Rd_init : Cond.instanceMethod y_Rd_init ∈ wz := wz_at 101 (by decide +kernel) rfl
theorem l_Rd_3 : Cond.methodLink "PinKindChecks$RuleReader" 3 ⟨"java/lang/Object", "<init>", "()V"⟩ ∈ wz := wz_at 103 (by decide +kernel) rfl
theorem t_K_32 : Cond.classLink "PinKindChecks" 32 "PinKindChecks$ToldRule" ∈ wz := wz_at 141 (by decide +kernel) rfl
theorem a_Tr : Cond.arrayOver (.object "PinKindChecks$ToldRule") ∈ wn := wn_at 142 (by decide +kernel) rfl
theorem t_K_42 : Cond.classLink "PinKindChecks" 42 "PinKindChecks$Waivers" ∈ wz := wz_at 143 (by decide +kernel) rfl
theorem l_K_44 : Cond.methodLinkNest "PinKindChecks" 44 y_Wv_init "PinKindChecks" ∈ wn := wn_at 145 (by decide +kernel) rfl
theorem i_Wv_init : Cond.instanceMethod y_Wv_init ∈ wz := wz_at 146 (by decide +kernel) rfl
theorem l_Wv_3 : Cond.methodLink "PinKindChecks$Waivers" 3 ⟨"java/lang/Object", "<init>", "()V"⟩ ∈ wz := wz_at 148 (by decide +kernel) rfl
theorem a_boolean : Cond.arrayClass .boolean ∈ wz := wz_at 159 (by decide +kernel) rfl
theorem t_K_49 : Cond.classLink "PinKindChecks" 49 "PinKindChecks$Remarks" ∈ wz := wz_at 160 (by decide +kernel) rfl
theorem l_K_51 : Cond.methodLinkNest "PinKindChecks" 51 y_Rm_init "PinKindChecks" ∈ wn := wn_at 162 (by decide +kernel) rfl
theorem i_Rm_init : Cond.instanceMethod y_Rm_init ∈ wz := wz_at 163 (by decide +kernel) rfl
theorem l_Rm_3 : Cond.methodLink "PinKindChecks$Remarks" 3 ⟨"java/lang/Object", "<init>", "()V"⟩ ∈ wz := wz_at 165 (by decide +kernel) rfl
theorem a_long : Cond.arrayClass .long ∈ wz := wz_at 216 (by decide +kernel) rfl
theorem l_La_98 : Cond.methodLink "PinKindChecksLaw" 98 y_K_unit ∈ wz := wz_at 217 (by decide +kernel) rfl
theorem i_K_unit : Cond.instanceMethod y_K_unit ∈ wz := wz_at 218 (by decide +kernel) rfl
theorem q_K_K_unit_K : Cond.selects "PinKindChecks" y_K_unit y_K_unit ∈ wz := wz_at 219 (by decide +kernel) rfl
theorem l_K_151 : Cond.methodLink "PinKindChecks" 151 y_Tx_addLetter ∈ wz := wz_at 221 (by decide +kernel) rfl
theorem i_Tx_addLetter : Cond.instanceMethod y_Tx_addLetter ∈ wz := wz_at 222 (by decide +kernel) rfl
theorem q_Tx_Tx_addLetter_Tx : Cond.selects "PinKindChecks$RuleText" y_Tx_addLetter y_Tx_addLetter ∈ wz := wz_at 223 (by decide +kernel) rfl
theorem l_La_111 : Cond.methodLink "PinKindChecksLaw" 111 y_K_run ∈ wz := wz_at 225 (by decide +kernel) rfl
theorem i_K_run : Cond.instanceMethod y_K_run ∈ wz := wz_at 226 (by decide +kernel) rfl
theorem q_K_K_run_K : Cond.selects "PinKindChecks" y_K_run y_K_run ∈ wz := wz_at 227 (by decide +kernel) rfl
theorem l_K_178 : Cond.methodLink "PinKindChecks" 178 y_Rm_wipe ∈ wz := wz_at 229 (by decide +kernel) rfl
theorem i_Rm_wipe : Cond.instanceMethod y_Rm_wipe ∈ wz := wz_at 230 (by decide +kernel) rfl
theorem q_Rm_Rm_wipe_Rm : Cond.selects "PinKindChecks$Remarks" y_Rm_wipe y_Rm_wipe ∈ wz := wz_at 231 (by decide +kernel) rfl
theorem l_K_179 : Cond.methodLink "PinKindChecks" 179 y_Sc_thingCount ∈ wz := wz_at 233 (by decide +kernel) rfl
theorem i_Sc_thingCount : Cond.instanceMethod y_Sc_thingCount ∈ wz := wz_at 234 (by decide +kernel) rfl
theorem q_Sc_Sc_thingCount_Sc : Cond.selects "PinKindChecks$Schematic" y_Sc_thingCount y_Sc_thingCount ∈ wz := wz_at 235 (by decide +kernel) rfl
theorem l_K_182 : Cond.methodLink "PinKindChecks" 182 y_Sc_thingInOrder ∈ wz := wz_at 237 (by decide +kernel) rfl
theorem i_Sc_thingInOrder : Cond.instanceMethod y_Sc_thingInOrder ∈ wz := wz_at 238 (by decide +kernel) rfl
theorem q_Sc_Sc_thingInOrder_Sc : Cond.selects "PinKindChecks$Schematic" y_Sc_thingInOrder y_Sc_thingInOrder ∈ wz := wz_at 239 (by decide +kernel) rfl
theorem l_Sc_108 : Cond.methodLink "PinKindChecks$Schematic" 108 y_Sc_thingCount ∈ wz := wz_at 241 (by decide +kernel) rfl
theorem l_Sc_58 : Cond.methodLinkNest "PinKindChecks$Schematic" 58 y_K_isBelow "PinKindChecks" ∈ wn := wn_at 242 (by decide +kernel) rfl
theorem s_K_isBelow : Cond.static y_K_isBelow ∈ wz := wz_at 243 (by decide +kernel) rfl
theorem l_K_186 : Cond.methodLink "PinKindChecks" 186 y_K_checkThing ∈ wz := wz_at 245 (by decide +kernel) rfl
theorem i_K_checkThing : Cond.instanceMethod y_K_checkThing ∈ wz := wz_at 247 (by decide +kernel) rfl
theorem l_K_170 : Cond.methodLink "PinKindChecks" 170 y_K_ruleCount ∈ wz := wz_at 249 (by decide +kernel) rfl
theorem i_K_ruleCount : Cond.instanceMethod y_K_ruleCount ∈ wz := wz_at 251 (by decide +kernel) rfl
theorem l_K_236 : Cond.methodLink "PinKindChecks" 236 y_K_weightOf ∈ wz := wz_at 253 (by decide +kernel) rfl
theorem i_K_weightOf : Cond.instanceMethod y_K_weightOf ∈ wz := wz_at 255 (by decide +kernel) rfl
theorem l_K_243 : Cond.methodLink "PinKindChecks" 243 ⟨"PinKindChecks$Thing", "builtInWeight", "(ILPinKindChecks$Schematic;)I"⟩ ∈ wz := wz_at 257 (by decide +kernel) rfl
theorem z_Th_builtInWeight : zDecl ⟨"PinKindChecks$Thing", "builtInWeight", "(ILPinKindChecks$Schematic;)I"⟩ := Or.inl (wn_at 258 (by decide +kernel) rfl)
theorem e_Th_Th_builtInWeight : Cond.sameMethod "PinKindChecks$Thing" "PinKindChecks$Thing" "builtInWeight" "(ILPinKindChecks$Schematic;)I" ∈ wz := wz_at 259 (by decide +kernel) rfl
theorem q_Ne_Th_builtInWeight_Ne : Cond.selects "PinKindChecks$Net" ⟨"PinKindChecks$Thing", "builtInWeight", "(ILPinKindChecks$Schematic;)I"⟩ y_Ne_builtInWeight ∈ wz := wz_at 260 (by decide +kernel) rfl
theorem i_Ne_builtInWeight : Cond.instanceMethod y_Ne_builtInWeight ∈ wz := wz_at 261 (by decide +kernel) rfl
theorem l_Ne_21 : Cond.methodLink "PinKindChecks$Net" 21 ⟨"PinKindChecks$Net", "pinsOfKind", "(I)I"⟩ ∈ wz := wz_at 263 (by decide +kernel) rfl
theorem e_Ne_Ph_pinsOfKind : Cond.sameMethod "PinKindChecks$Net" "PinKindChecks$PinHolder" "pinsOfKind" "(I)I" ∈ wz := wz_at 264 (by decide +kernel) rfl
theorem z_Ph_pinsOfKind : zDecl ⟨"PinKindChecks$PinHolder", "pinsOfKind", "(I)I"⟩ := Or.inl (wn_at 265 (by decide +kernel) rfl)
theorem q_Ne_Ne_pinsOfKind_Ph : Cond.selects "PinKindChecks$Net" ⟨"PinKindChecks$Net", "pinsOfKind", "(I)I"⟩ y_Ph_pinsOfKind ∈ wz := wz_at 266 (by decide +kernel) rfl
theorem i_Ph_pinsOfKind : Cond.instanceMethod y_Ph_pinsOfKind ∈ wz := wz_at 267 (by decide +kernel) rfl
theorem l_Ph_19 : Cond.methodLinkNest "PinKindChecks$PinHolder" 19 y_K_isBelow "PinKindChecks" ∈ wn := wn_at 269 (by decide +kernel) rfl
theorem l_Ne_25 : Cond.methodLink "PinKindChecks$Net" 25 ⟨"PinKindChecks$Net", "pinCount", "()I"⟩ ∈ wz := wz_at 270 (by decide +kernel) rfl
theorem e_Ne_Ph_pinCount : Cond.sameMethod "PinKindChecks$Net" "PinKindChecks$PinHolder" "pinCount" "()I" ∈ wz := wz_at 271 (by decide +kernel) rfl
theorem z_Ph_pinCount : zDecl ⟨"PinKindChecks$PinHolder", "pinCount", "()I"⟩ := Or.inl (wn_at 272 (by decide +kernel) rfl)
theorem q_Ne_Ne_pinCount_Ph : Cond.selects "PinKindChecks$Net" ⟨"PinKindChecks$Net", "pinCount", "()I"⟩ y_Ph_pinCount ∈ wz := wz_at 273 (by decide +kernel) rfl
theorem i_Ph_pinCount : Cond.instanceMethod y_Ph_pinCount ∈ wz := wz_at 274 (by decide +kernel) rfl
theorem l_Ne_29 : Cond.methodLink "PinKindChecks$Net" 29 y_Sc_hasLowerNamesake ∈ wz := wz_at 276 (by decide +kernel) rfl
theorem i_Sc_hasLowerNamesake : Cond.instanceMethod y_Sc_hasLowerNamesake ∈ wz := wz_at 277 (by decide +kernel) rfl
theorem q_Sc_Sc_hasLowerNamesake_Sc : Cond.selects "PinKindChecks$Schematic" y_Sc_hasLowerNamesake y_Sc_hasLowerNamesake ∈ wz := wz_at 278 (by decide +kernel) rfl
theorem l_Sc_80 : Cond.methodLink "PinKindChecks$Schematic" 80 ⟨"PinKindChecks$Net", "number", "()I"⟩ ∈ wz := wz_at 280 (by decide +kernel) rfl
theorem e_Ne_Th_number : Cond.sameMethod "PinKindChecks$Net" "PinKindChecks$Thing" "number" "()I" ∈ wz := wz_at 281 (by decide +kernel) rfl
theorem z_Th_number : zDecl ⟨"PinKindChecks$Thing", "number", "()I"⟩ := Or.inl (wn_at 282 (by decide +kernel) rfl)
theorem q_Ne_Ne_number_Th : Cond.selects "PinKindChecks$Net" ⟨"PinKindChecks$Net", "number", "()I"⟩ y_Th_number ∈ wz := wz_at 283 (by decide +kernel) rfl
theorem i_Th_number : Cond.instanceMethod y_Th_number ∈ wz := wz_at 284 (by decide +kernel) rfl
theorem l_Sc_100 : Cond.methodLink "PinKindChecks$Schematic" 100 y_Sc_netAt ∈ wz := wz_at 286 (by decide +kernel) rfl
theorem i_Sc_netAt : Cond.instanceMethod y_Sc_netAt ∈ wz := wz_at 287 (by decide +kernel) rfl
theorem q_Sc_Sc_netAt_Sc : Cond.selects "PinKindChecks$Schematic" y_Sc_netAt y_Sc_netAt ∈ wz := wz_at 288 (by decide +kernel) rfl
theorem l_Sc_115 : Cond.methodLink "PinKindChecks$Schematic" 115 y_Ne_name ∈ wz := wz_at 290 (by decide +kernel) rfl
theorem i_Ne_name : Cond.instanceMethod y_Ne_name ∈ wz := wz_at 291 (by decide +kernel) rfl
theorem q_Ne_Ne_name_Ne : Cond.selects "PinKindChecks$Net" y_Ne_name y_Ne_name ∈ wz := wz_at 292 (by decide +kernel) rfl
theorem q_Pa_Th_builtInWeight_Pa : Cond.selects "PinKindChecks$Part" ⟨"PinKindChecks$Thing", "builtInWeight", "(ILPinKindChecks$Schematic;)I"⟩ y_Pa_builtInWeight ∈ wz := wz_at 294 (by decide +kernel) rfl
theorem i_Pa_builtInWeight : Cond.instanceMethod y_Pa_builtInWeight ∈ wz := wz_at 295 (by decide +kernel) rfl
theorem q_Pi_Th_builtInWeight_Pi : Cond.selects "PinKindChecks$Pin" ⟨"PinKindChecks$Thing", "builtInWeight", "(ILPinKindChecks$Schematic;)I"⟩ y_Pi_builtInWeight ∈ wz := wz_at 297 (by decide +kernel) rfl
theorem i_Pi_builtInWeight : Cond.instanceMethod y_Pi_builtInWeight ∈ wz := wz_at 298 (by decide +kernel) rfl
theorem l_Pi_35 : Cond.methodLink "PinKindChecks$Pin" 35 y_Sc_worstVerdictBelow ∈ wz := wz_at 300 (by decide +kernel) rfl
theorem i_Sc_worstVerdictBelow : Cond.instanceMethod y_Sc_worstVerdictBelow ∈ wz := wz_at 301 (by decide +kernel) rfl
theorem q_Sc_Sc_worstVerdictBelow_Sc : Cond.selects "PinKindChecks$Schematic" y_Sc_worstVerdictBelow y_Sc_worstVerdictBelow ∈ wz := wz_at 302 (by decide +kernel) rfl
theorem l_Sc_118 : Cond.methodLink "PinKindChecks$Schematic" 118 y_Pi_netOrNull ∈ wz := wz_at 304 (by decide +kernel) rfl
theorem i_Pi_netOrNull : Cond.instanceMethod y_Pi_netOrNull ∈ wz := wz_at 305 (by decide +kernel) rfl
theorem q_Pi_Pi_netOrNull_Pi : Cond.selects "PinKindChecks$Pin" y_Pi_netOrNull y_Pi_netOrNull ∈ wz := wz_at 306 (by decide +kernel) rfl
theorem l_Sc_91 : Cond.methodLink "PinKindChecks$Schematic" 91 ⟨"PinKindChecks$Pin", "number", "()I"⟩ ∈ wz := wz_at 308 (by decide +kernel) rfl
theorem e_Pi_Th_number : Cond.sameMethod "PinKindChecks$Pin" "PinKindChecks$Thing" "number" "()I" ∈ wz := wz_at 309 (by decide +kernel) rfl
theorem q_Pi_Pi_number_Th : Cond.selects "PinKindChecks$Pin" ⟨"PinKindChecks$Pin", "number", "()I"⟩ y_Th_number ∈ wz := wz_at 310 (by decide +kernel) rfl
theorem l_Sc_104 : Cond.methodLink "PinKindChecks$Schematic" 104 y_Sc_pinAt ∈ wz := wz_at 311 (by decide +kernel) rfl
theorem i_Sc_pinAt : Cond.instanceMethod y_Sc_pinAt ∈ wz := wz_at 312 (by decide +kernel) rfl
theorem q_Sc_Sc_pinAt_Sc : Cond.selects "PinKindChecks$Schematic" y_Sc_pinAt y_Sc_pinAt ∈ wz := wz_at 313 (by decide +kernel) rfl
theorem l_Sc_122 : Cond.methodLink "PinKindChecks$Schematic" 122 y_Pi_kind ∈ wz := wz_at 315 (by decide +kernel) rfl
theorem i_Pi_kind : Cond.instanceMethod y_Pi_kind ∈ wz := wz_at 316 (by decide +kernel) rfl
theorem q_Pi_Pi_kind_Pi : Cond.selects "PinKindChecks$Pin" y_Pi_kind y_Pi_kind ∈ wz := wz_at 317 (by decide +kernel) rfl
theorem l_Sc_62 : Cond.methodLink "PinKindChecks$Schematic" 62 y_Sc_verdictOf ∈ wz := wz_at 319 (by decide +kernel) rfl
theorem i_Sc_verdictOf : Cond.instanceMethod y_Sc_verdictOf ∈ wz := wz_at 321 (by decide +kernel) rfl
theorem l_Sc_125 : Cond.methodLink "PinKindChecks$Schematic" 125 y_jM_max ∈ wz := wz_at 323 (by decide +kernel) rfl
theorem s_jM_max : Cond.static y_jM_max ∈ wz := wz_at 324 (by decide +kernel) rfl
theorem l_K_73 : Cond.methodLink "PinKindChecks" 73 y_K_isBelow ∈ wz := wz_at 326 (by decide +kernel) rfl
theorem l_K_247 : Cond.methodLink "PinKindChecks" 247 y_Tr_weightFor ∈ wz := wz_at 327 (by decide +kernel) rfl
theorem i_Tr_weightFor : Cond.instanceMethod y_Tr_weightFor ∈ wz := wz_at 328 (by decide +kernel) rfl
theorem q_Tr_Tr_weightFor_Tr : Cond.selects "PinKindChecks$ToldRule" y_Tr_weightFor y_Tr_weightFor ∈ wz := wz_at 329 (by decide +kernel) rfl
theorem t_Tr_29 : Cond.classLink "PinKindChecks$ToldRule" 29 "PinKindChecks$Part" ∈ wz := wz_at 331 (by decide +kernel) rfl
theorem t_Tr_31 : Cond.classLink "PinKindChecks$ToldRule" 31 "PinKindChecks$Net" ∈ wz := wz_at 332 (by decide +kernel) rfl
theorem t_Tr_33 : Cond.classLink "PinKindChecks$ToldRule" 33 "PinKindChecks$Pin" ∈ wz := wz_at 333 (by decide +kernel) rfl
theorem l_Tr_35 : Cond.methodLink "PinKindChecks$ToldRule" 35 y_Tr_holdsFor ∈ wz := wz_at 334 (by decide +kernel) rfl
theorem i_Tr_holdsFor : Cond.instanceMethod y_Tr_holdsFor ∈ wz := wz_at 336 (by decide +kernel) rfl
theorem l_Tr_39 : Cond.methodLink "PinKindChecks$ToldRule" 39 ⟨"PinKindChecks$Thing", "valueOf", "(II)J"⟩ ∈ wz := wz_at 339 (by decide +kernel) rfl
theorem z_Th_valueOf : zDecl ⟨"PinKindChecks$Thing", "valueOf", "(II)J"⟩ := Or.inl (wn_at 340 (by decide +kernel) rfl)
theorem e_Th_Th_valueOf : Cond.sameMethod "PinKindChecks$Thing" "PinKindChecks$Thing" "valueOf" "(II)J" ∈ wz := wz_at 341 (by decide +kernel) rfl
theorem q_Ne_Th_valueOf_Ph : Cond.selects "PinKindChecks$Net" ⟨"PinKindChecks$Thing", "valueOf", "(II)J"⟩ y_Ph_valueOf ∈ wz := wz_at 342 (by decide +kernel) rfl
theorem i_Ph_valueOf : Cond.instanceMethod y_Ph_valueOf ∈ wz := wz_at 343 (by decide +kernel) rfl
theorem l_Ph_23 : Cond.methodLink "PinKindChecks$PinHolder" 23 y_Ph_pinsOfKind ∈ wz := wz_at 345 (by decide +kernel) rfl
theorem l_Ph_26 : Cond.methodLink "PinKindChecks$PinHolder" 26 ⟨"PinKindChecks$PinHolder", "sheet", "()I"⟩ ∈ wz := wz_at 346 (by decide +kernel) rfl
theorem e_Ph_Th_sheet : Cond.sameMethod "PinKindChecks$PinHolder" "PinKindChecks$Thing" "sheet" "()I" ∈ wz := wz_at 347 (by decide +kernel) rfl
theorem z_Th_sheet : zDecl ⟨"PinKindChecks$Thing", "sheet", "()I"⟩ := Or.inl (wn_at 348 (by decide +kernel) rfl)
theorem q_Ne_Ph_sheet_Th : Cond.selects "PinKindChecks$Net" ⟨"PinKindChecks$PinHolder", "sheet", "()I"⟩ y_Th_sheet ∈ wz := wz_at 349 (by decide +kernel) rfl
theorem q_Pa_Ph_sheet_Th : Cond.selects "PinKindChecks$Part" ⟨"PinKindChecks$PinHolder", "sheet", "()I"⟩ y_Th_sheet ∈ wz := wz_at 350 (by decide +kernel) rfl
theorem i_Th_sheet : Cond.instanceMethod y_Th_sheet ∈ wz := wz_at 351 (by decide +kernel) rfl
theorem l_Ph_30 : Cond.methodLink "PinKindChecks$PinHolder" 30 ⟨"PinKindChecks$PinHolder", "ownValueOf", "(II)J"⟩ ∈ wz := wz_at 353 (by decide +kernel) rfl
theorem z_Ph_ownValueOf : zDecl ⟨"PinKindChecks$PinHolder", "ownValueOf", "(II)J"⟩ := Or.inl (wn_at 354 (by decide +kernel) rfl)
theorem e_Ph_Ph_ownValueOf : Cond.sameMethod "PinKindChecks$PinHolder" "PinKindChecks$PinHolder" "ownValueOf" "(II)J" ∈ wz := wz_at 355 (by decide +kernel) rfl
theorem q_Ne_Ph_ownValueOf_Ne : Cond.selects "PinKindChecks$Net" ⟨"PinKindChecks$PinHolder", "ownValueOf", "(II)J"⟩ y_Ne_ownValueOf ∈ wz := wz_at 356 (by decide +kernel) rfl
theorem i_Ne_ownValueOf : Cond.instanceMethod y_Ne_ownValueOf ∈ wz := wz_at 357 (by decide +kernel) rfl
theorem q_Pa_Ph_ownValueOf_Pa : Cond.selects "PinKindChecks$Part" ⟨"PinKindChecks$PinHolder", "ownValueOf", "(II)J"⟩ y_Pa_ownValueOf ∈ wz := wz_at 359 (by decide +kernel) rfl
theorem i_Pa_ownValueOf : Cond.instanceMethod y_Pa_ownValueOf ∈ wz := wz_at 360 (by decide +kernel) rfl
theorem l_Pa_21 : Cond.methodLink "PinKindChecks$Part" 21 y_Pa_fieldAt ∈ wz := wz_at 362 (by decide +kernel) rfl
theorem i_Pa_fieldAt : Cond.instanceMethod y_Pa_fieldAt ∈ wz := wz_at 363 (by decide +kernel) rfl
theorem q_Pa_Pa_fieldAt_Pa : Cond.selects "PinKindChecks$Part" y_Pa_fieldAt y_Pa_fieldAt ∈ wz := wz_at 364 (by decide +kernel) rfl
theorem l_Pa_15 : Cond.methodLinkNest "PinKindChecks$Part" 15 y_K_isBelow "PinKindChecks" ∈ wn := wn_at 366 (by decide +kernel) rfl
theorem q_Pa_Th_valueOf_Ph : Cond.selects "PinKindChecks$Part" ⟨"PinKindChecks$Thing", "valueOf", "(II)J"⟩ y_Ph_valueOf ∈ wz := wz_at 367 (by decide +kernel) rfl
theorem q_Pi_Th_valueOf_Pi : Cond.selects "PinKindChecks$Pin" ⟨"PinKindChecks$Thing", "valueOf", "(II)J"⟩ y_Pi_valueOf ∈ wz := wz_at 368 (by decide +kernel) rfl
theorem i_Pi_valueOf : Cond.instanceMethod y_Pi_valueOf ∈ wz := wz_at 369 (by decide +kernel) rfl
theorem l_Pi_41 : Cond.methodLink "PinKindChecks$Pin" 41 y_Pa_fieldAt ∈ wz := wz_at 371 (by decide +kernel) rfl
theorem v_Pi_45 : Cond.constantLong "PinKindChecks$Pin" 45 (-1) ∈ wz := wz_at 372 (by decide +kernel) rfl
theorem l_Pi_47 : Cond.methodLink "PinKindChecks$Pin" 47 y_Ne_name ∈ wz := wz_at 373 (by decide +kernel) rfl
theorem l_Pi_50 : Cond.methodLink "PinKindChecks$Pin" 50 ⟨"PinKindChecks$Pin", "sheet", "()I"⟩ ∈ wz := wz_at 374 (by decide +kernel) rfl
theorem e_Pi_Th_sheet : Cond.sameMethod "PinKindChecks$Pin" "PinKindChecks$Thing" "sheet" "()I" ∈ wz := wz_at 375 (by decide +kernel) rfl
theorem q_Pi_Pi_sheet_Th : Cond.selects "PinKindChecks$Pin" ⟨"PinKindChecks$Pin", "sheet", "()I"⟩ y_Th_sheet ∈ wz := wz_at 376 (by decide +kernel) rfl
theorem l_Tr_45 : Cond.methodLink "PinKindChecks$ToldRule" 45 y_Tr_truth ∈ wz := wz_at 377 (by decide +kernel) rfl
theorem s_Tr_truth : Cond.static y_Tr_truth ∈ wz := wz_at 378 (by decide +kernel) rfl
theorem l_Tr_49 : Cond.methodLink "PinKindChecks$ToldRule" 49 y_Tr_workOut ∈ wz := wz_at 380 (by decide +kernel) rfl
theorem s_Tr_workOut : Cond.static y_Tr_workOut ∈ wz := wz_at 381 (by decide +kernel) rfl
theorem l_K_226 : Cond.methodLink "PinKindChecks" 226 y_Th_keyWith ∈ wz := wz_at 383 (by decide +kernel) rfl
theorem i_Th_keyWith : Cond.instanceMethod y_Th_keyWith ∈ wz := wz_at 384 (by decide +kernel) rfl
theorem e_Th_Th_keyWith : Cond.sameMethod "PinKindChecks$Thing" "PinKindChecks$Thing" "keyWith" "(I)I" ∈ wz := wz_at 385 (by decide +kernel) rfl
theorem q_Ne_Th_keyWith_Th : Cond.selects "PinKindChecks$Net" y_Th_keyWith y_Th_keyWith ∈ wz := wz_at 386 (by decide +kernel) rfl
theorem q_Pa_Th_keyWith_Th : Cond.selects "PinKindChecks$Part" y_Th_keyWith y_Th_keyWith ∈ wz := wz_at 387 (by decide +kernel) rfl
theorem q_Pi_Th_keyWith_Th : Cond.selects "PinKindChecks$Pin" y_Th_keyWith y_Th_keyWith ∈ wz := wz_at 388 (by decide +kernel) rfl
theorem l_K_239 : Cond.methodLink "PinKindChecks" 239 y_Rm_add ∈ wz := wz_at 390 (by decide +kernel) rfl
theorem i_Rm_add : Cond.instanceMethod y_Rm_add ∈ wz := wz_at 391 (by decide +kernel) rfl
theorem q_Rm_Rm_add_Rm : Cond.selects "PinKindChecks$Remarks" y_Rm_add y_Rm_add ∈ wz := wz_at 392 (by decide +kernel) rfl
theorem l_Rm_25 : Cond.methodLink "PinKindChecks$Remarks" 25 y_Rm_grow ∈ wz := wz_at 394 (by decide +kernel) rfl
theorem i_Rm_grow : Cond.instanceMethod y_Rm_grow ∈ wz := wz_at 396 (by decide +kernel) rfl
theorem l_Rm_28 : Cond.methodLink "PinKindChecks$Remarks" 28 y_jM_min ∈ wz := wz_at 398 (by decide +kernel) rfl
theorem s_jM_min : Cond.static y_jM_min ∈ wz := wz_at 399 (by decide +kernel) rfl
theorem l_Rm_34 : Cond.methodLink "PinKindChecks$Remarks" 34 y_jA_copyOf ∈ wz := wz_at 401 (by decide +kernel) rfl
theorem s_jA_copyOf : Cond.static y_jA_copyOf ∈ wz := wz_at 402 (by decide +kernel) rfl
theorem l_jA_316 : Cond.methodLink "java/util/Arrays" 316 ⟨"[I", "clone", "()Ljava/lang/Object;"⟩ ∈ wz := wz_at 404 (by decide +kernel) rfl
theorem t_jA_317 : Cond.classLink "java/util/Arrays" 317 "[I" ∈ wz := wz_at 410 (by decide +kernel) rfl
theorem l_jA_304 : Cond.methodLink "java/util/Arrays" 304 y_jM_min ∈ wz := wz_at 411 (by decide +kernel) rfl
theorem l_jA_150 : Cond.methodLink "java/util/Arrays" 150 ⟨"java/lang/System", "arraycopy", "(Ljava/lang/Object;ILjava/lang/Object;II)V"⟩ ∈ wz := wz_at 412 (by decide +kernel) rfl
theorem l_K_190 : Cond.methodLink "PinKindChecks" 190 y_K_compareWithBefore ∈ wz := wz_at 415 (by decide +kernel) rfl
theorem i_K_compareWithBefore : Cond.instanceMethod y_K_compareWithBefore ∈ wz := wz_at 417 (by decide +kernel) rfl
theorem l_K_196 : Cond.methodLink "PinKindChecks" 196 y_Rm_count ∈ wz := wz_at 419 (by decide +kernel) rfl
theorem i_Rm_count : Cond.instanceMethod y_Rm_count ∈ wz := wz_at 420 (by decide +kernel) rfl
theorem q_Rm_Rm_count_Rm : Cond.selects "PinKindChecks$Remarks" y_Rm_count y_Rm_count ∈ wz := wz_at 421 (by decide +kernel) rfl
theorem l_K_207 : Cond.methodLink "PinKindChecks" 207 y_Rm_keyOf ∈ wz := wz_at 423 (by decide +kernel) rfl
theorem i_Rm_keyOf : Cond.instanceMethod y_Rm_keyOf ∈ wz := wz_at 424 (by decide +kernel) rfl
theorem q_Rm_Rm_keyOf_Rm : Cond.selects "PinKindChecks$Remarks" y_Rm_keyOf y_Rm_keyOf ∈ wz := wz_at 425 (by decide +kernel) rfl
theorem l_Rm_40 : Cond.methodLinkNest "PinKindChecks$Remarks" 40 y_K_isBelow "PinKindChecks" ∈ wn := wn_at 427 (by decide +kernel) rfl
theorem l_K_204 : Cond.methodLink "PinKindChecks" 204 y_Rm_firstOf ∈ wz := wz_at 428 (by decide +kernel) rfl
theorem i_Rm_firstOf : Cond.instanceMethod y_Rm_firstOf ∈ wz := wz_at 429 (by decide +kernel) rfl
theorem q_Rm_Rm_firstOf_Rm : Cond.selects "PinKindChecks$Remarks" y_Rm_firstOf y_Rm_firstOf ∈ wz := wz_at 430 (by decide +kernel) rfl
theorem l_K_251 : Cond.methodLink "PinKindChecks" 251 y_Rm_setFirst ∈ wz := wz_at 432 (by decide +kernel) rfl
theorem i_Rm_setFirst : Cond.instanceMethod y_Rm_setFirst ∈ wz := wz_at 433 (by decide +kernel) rfl
theorem q_Rm_Rm_setFirst_Rm : Cond.selects "PinKindChecks$Remarks" y_Rm_setFirst y_Rm_setFirst ∈ wz := wz_at 434 (by decide +kernel) rfl
theorem l_K_201 : Cond.methodLink "PinKindChecks" 201 y_Rm_weightOf ∈ wz := wz_at 436 (by decide +kernel) rfl
theorem i_Rm_weightOf : Cond.instanceMethod y_Rm_weightOf ∈ wz := wz_at 437 (by decide +kernel) rfl
theorem q_Rm_Rm_weightOf_Rm : Cond.selects "PinKindChecks$Remarks" y_Rm_weightOf y_Rm_weightOf ∈ wz := wz_at 438 (by decide +kernel) rfl
theorem l_K_193 : Cond.methodLink "PinKindChecks" 193 y_K_countOpen ∈ wz := wz_at 440 (by decide +kernel) rfl
theorem i_K_countOpen : Cond.instanceMethod y_K_countOpen ∈ wz := wz_at 442 (by decide +kernel) rfl
theorem l_K_210 : Cond.methodLink "PinKindChecks" 210 y_Wv_reasonFor ∈ wz := wz_at 444 (by decide +kernel) rfl
theorem i_Wv_reasonFor : Cond.instanceMethod y_Wv_reasonFor ∈ wz := wz_at 445 (by decide +kernel) rfl
theorem q_Wv_Wv_reasonFor_Wv : Cond.selects "PinKindChecks$Waivers" y_Wv_reasonFor y_Wv_reasonFor ∈ wz := wz_at 446 (by decide +kernel) rfl
theorem l_Wv_22 : Cond.methodLink "PinKindChecks$Waivers" 22 y_Wv_indexOf ∈ wz := wz_at 448 (by decide +kernel) rfl
theorem i_Wv_indexOf : Cond.instanceMethod y_Wv_indexOf ∈ wz := wz_at 450 (by decide +kernel) rfl
theorem l_Wv_26 : Cond.methodLinkNest "PinKindChecks$Waivers" 26 y_K_isBelow "PinKindChecks" ∈ wn := wn_at 452 (by decide +kernel) rfl
theorem l_La_125 : Cond.methodLink "PinKindChecksLaw" 125 y_K_next ∈ wz := wz_at 453 (by decide +kernel) rfl
theorem i_K_next : Cond.instanceMethod y_K_next ∈ wz := wz_at 454 (by decide +kernel) rfl
theorem q_K_K_next_K : Cond.selects "PinKindChecks" y_K_next y_K_next ∈ wz := wz_at 455 (by decide +kernel) rfl
theorem l_La_129 : Cond.methodLink "PinKindChecksLaw" 129 y_K_offRule ∈ wz := wz_at 457 (by decide +kernel) rfl
theorem i_K_offRule : Cond.instanceMethod y_K_offRule ∈ wz := wz_at 458 (by decide +kernel) rfl
theorem q_K_K_offRule_K : Cond.selects "PinKindChecks" y_K_offRule y_K_offRule ∈ wz := wz_at 459 (by decide +kernel) rfl
theorem l_La_133 : Cond.methodLink "PinKindChecksLaw" 133 y_K_clear ∈ wz := wz_at 461 (by decide +kernel) rfl
theorem i_K_clear : Cond.instanceMethod y_K_clear ∈ wz := wz_at 462 (by decide +kernel) rfl
theorem q_K_K_clear_K : Cond.selects "PinKindChecks" y_K_clear y_K_clear ∈ wz := wz_at 463 (by decide +kernel) rfl
theorem l_K_234 : Cond.methodLink "PinKindChecks" 234 y_Sc_wipe ∈ wz := wz_at 465 (by decide +kernel) rfl
theorem i_Sc_wipe : Cond.instanceMethod y_Sc_wipe ∈ wz := wz_at 466 (by decide +kernel) rfl
theorem q_Sc_Sc_wipe_Sc : Cond.selects "PinKindChecks$Schematic" y_Sc_wipe y_Sc_wipe ∈ wz := wz_at 467 (by decide +kernel) rfl
theorem l_Sc_52 : Cond.methodLink "PinKindChecks$Schematic" 52 y_jA_fill ∈ wz := wz_at 469 (by decide +kernel) rfl
theorem s_jA_fill : Cond.static y_jA_fill ∈ wz := wz_at 470 (by decide +kernel) rfl
theorem l_K_163 : Cond.methodLink "PinKindChecks" 163 y_Tx_wipe ∈ wz := wz_at 472 (by decide +kernel) rfl
theorem i_Tx_wipe : Cond.instanceMethod y_Tx_wipe ∈ wz := wz_at 473 (by decide +kernel) rfl
theorem q_Tx_Tx_wipe_Tx : Cond.selects "PinKindChecks$RuleText" y_Tx_wipe y_Tx_wipe ∈ wz := wz_at 474 (by decide +kernel) rfl
theorem l_K_235 : Cond.methodLink "PinKindChecks" 235 y_Wv_wipe ∈ wz := wz_at 476 (by decide +kernel) rfl
theorem i_Wv_wipe : Cond.instanceMethod y_Wv_wipe ∈ wz := wz_at 477 (by decide +kernel) rfl
theorem q_Wv_Wv_wipe_Wv : Cond.selects "PinKindChecks$Waivers" y_Wv_wipe y_Wv_wipe ∈ wz := wz_at 478 (by decide +kernel) rfl
theorem l_La_65 : Cond.methodLink "PinKindChecksLaw" 65 y_La_table ∈ wz := wz_at 480 (by decide +kernel) rfl
theorem s_La_table : Cond.static y_La_table ∈ wz := wz_at 481 (by decide +kernel) rfl
theorem t_La_13 : Cond.classLink "PinKindChecksLaw" 13 "java/lang/IndexOutOfBoundsException" ∈ wz := wz_at 483 (by decide +kernel) rfl
theorem t_La_15 : Cond.classLink "PinKindChecksLaw" 15 "java/lang/IllegalArgumentException" ∈ wz := wz_at 484 (by decide +kernel) rfl
theorem l_La_7 : Cond.methodLink "PinKindChecksLaw" 7 y_K_table ∈ wz := wz_at 485 (by decide +kernel) rfl
theorem i_K_table : Cond.instanceMethod y_K_table ∈ wz := wz_at 486 (by decide +kernel) rfl
theorem q_K_K_table_K : Cond.selects "PinKindChecks" y_K_table y_K_table ∈ wz := wz_at 487 (by decide +kernel) rfl
theorem t_K_77 : Cond.classLink "PinKindChecks" 77 "java/lang/IndexOutOfBoundsException" ∈ wz := wz_at 489 (by decide +kernel) rfl
theorem l_K_81 : Cond.methodLink "PinKindChecks" 81 ⟨"java/lang/IndexOutOfBoundsException", "<init>", "(Ljava/lang/String;)V"⟩ ∈ wz := wz_at 531 (by decide +kernel) rfl
theorem a_byte : Cond.arrayClass .byte ∈ wz := wz_at 556 (by decide +kernel) rfl
theorem t_K_84 : Cond.classLink "PinKindChecks" 84 "java/lang/IllegalArgumentException" ∈ wz := wz_at 557 (by decide +kernel) rfl
theorem l_K_88 : Cond.methodLink "PinKindChecks" 88 ⟨"java/lang/IllegalArgumentException", "<init>", "(Ljava/lang/String;)V"⟩ ∈ wz := wz_at 567 (by decide +kernel) rfl
theorem l_K_89 : Cond.methodLink "PinKindChecks" 89 y_Sc_setVerdict ∈ wz := wz_at 573 (by decide +kernel) rfl
theorem i_Sc_setVerdict : Cond.instanceMethod y_Sc_setVerdict ∈ wz := wz_at 574 (by decide +kernel) rfl
theorem q_Sc_Sc_setVerdict_Sc : Cond.selects "PinKindChecks$Schematic" y_Sc_setVerdict y_Sc_setVerdict ∈ wz := wz_at 575 (by decide +kernel) rfl
theorem l_La_74 : Cond.methodLink "PinKindChecksLaw" 74 y_La_part ∈ wz := wz_at 577 (by decide +kernel) rfl
theorem s_La_part : Cond.static y_La_part ∈ wz := wz_at 578 (by decide +kernel) rfl
theorem l_La_17 : Cond.methodLink "PinKindChecksLaw" 17 y_K_part ∈ wz := wz_at 580 (by decide +kernel) rfl
theorem i_K_part : Cond.instanceMethod y_K_part ∈ wz := wz_at 581 (by decide +kernel) rfl
theorem q_K_K_part_K : Cond.selects "PinKindChecks" y_K_part y_K_part ∈ wz := wz_at 582 (by decide +kernel) rfl
theorem l_K_95 : Cond.methodLink "PinKindChecks" 95 y_Sc_addPart ∈ wz := wz_at 585 (by decide +kernel) rfl
theorem i_Sc_addPart : Cond.instanceMethod y_Sc_addPart ∈ wz := wz_at 586 (by decide +kernel) rfl
theorem q_Sc_Sc_addPart_Sc : Cond.selects "PinKindChecks$Schematic" y_Sc_addPart y_Sc_addPart ∈ wz := wz_at 587 (by decide +kernel) rfl
theorem l_Sc_66 : Cond.methodLink "PinKindChecks$Schematic" 66 y_Pa_init ∈ wz := wz_at 590 (by decide +kernel) rfl
theorem i_Pa_init : Cond.instanceMethod y_Pa_init ∈ wz := wz_at 591 (by decide +kernel) rfl
theorem l_Pa_3 : Cond.methodLink "PinKindChecks$Part" 3 y_Ph_init ∈ wz := wz_at 593 (by decide +kernel) rfl
theorem i_Ph_init : Cond.instanceMethod y_Ph_init ∈ wz := wz_at 594 (by decide +kernel) rfl
theorem l_Ph_3 : Cond.methodLink "PinKindChecks$PinHolder" 3 y_Th_init ∈ wz := wz_at 596 (by decide +kernel) rfl
theorem i_Th_init : Cond.instanceMethod y_Th_init ∈ wz := wz_at 597 (by decide +kernel) rfl
theorem l_Th_3 : Cond.methodLink "PinKindChecks$Thing" 3 ⟨"java/lang/Object", "<init>", "()V"⟩ ∈ wz := wz_at 599 (by decide +kernel) rfl
theorem l_Sc_69 : Cond.methodLink "PinKindChecks$Schematic" 69 y_Sc_putInOrder ∈ wz := wz_at 616 (by decide +kernel) rfl
theorem i_Sc_putInOrder : Cond.instanceMethod y_Sc_putInOrder ∈ wz := wz_at 618 (by decide +kernel) rfl
theorem l_Sc_111 : Cond.methodLink "PinKindChecks$Schematic" 111 y_Th_isBefore ∈ wz := wz_at 620 (by decide +kernel) rfl
theorem i_Th_isBefore : Cond.instanceMethod y_Th_isBefore ∈ wz := wz_at 621 (by decide +kernel) rfl
theorem e_Th_Th_isBefore : Cond.sameMethod "PinKindChecks$Thing" "PinKindChecks$Thing" "isBefore" "(LPinKindChecks$Thing;)Z" ∈ wz := wz_at 622 (by decide +kernel) rfl
theorem q_Ne_Th_isBefore_Th : Cond.selects "PinKindChecks$Net" y_Th_isBefore y_Th_isBefore ∈ wz := wz_at 623 (by decide +kernel) rfl
theorem q_Pa_Th_isBefore_Th : Cond.selects "PinKindChecks$Part" y_Th_isBefore y_Th_isBefore ∈ wz := wz_at 624 (by decide +kernel) rfl
theorem q_Pi_Th_isBefore_Th : Cond.selects "PinKindChecks$Pin" y_Th_isBefore y_Th_isBefore ∈ wz := wz_at 625 (by decide +kernel) rfl
theorem l_Sc_73 : Cond.methodLink "PinKindChecks$Schematic" 73 ⟨"PinKindChecks$Part", "number", "()I"⟩ ∈ wz := wz_at 627 (by decide +kernel) rfl
theorem e_Pa_Th_number : Cond.sameMethod "PinKindChecks$Part" "PinKindChecks$Thing" "number" "()I" ∈ wz := wz_at 628 (by decide +kernel) rfl
theorem q_Pa_Pa_number_Th : Cond.selects "PinKindChecks$Part" ⟨"PinKindChecks$Part", "number", "()I"⟩ y_Th_number ∈ wz := wz_at 629 (by decide +kernel) rfl
theorem l_La_78 : Cond.methodLink "PinKindChecksLaw" 78 y_La_net ∈ wz := wz_at 630 (by decide +kernel) rfl
theorem s_La_net : Cond.static y_La_net ∈ wz := wz_at 631 (by decide +kernel) rfl
theorem l_La_21 : Cond.methodLink "PinKindChecksLaw" 21 y_K_net ∈ wz := wz_at 633 (by decide +kernel) rfl
theorem i_K_net : Cond.instanceMethod y_K_net ∈ wz := wz_at 634 (by decide +kernel) rfl
theorem q_K_K_net_K : Cond.selects "PinKindChecks" y_K_net y_K_net ∈ wz := wz_at 635 (by decide +kernel) rfl
theorem l_K_101 : Cond.methodLink "PinKindChecks" 101 y_Sc_addNet ∈ wz := wz_at 638 (by decide +kernel) rfl
theorem i_Sc_addNet : Cond.instanceMethod y_Sc_addNet ∈ wz := wz_at 639 (by decide +kernel) rfl
theorem q_Sc_Sc_addNet_Sc : Cond.selects "PinKindChecks$Schematic" y_Sc_addNet y_Sc_addNet ∈ wz := wz_at 640 (by decide +kernel) rfl
theorem l_Sc_77 : Cond.methodLink "PinKindChecks$Schematic" 77 y_Ne_init ∈ wz := wz_at 643 (by decide +kernel) rfl
theorem i_Ne_init : Cond.instanceMethod y_Ne_init ∈ wz := wz_at 644 (by decide +kernel) rfl
theorem l_Ne_3 : Cond.methodLink "PinKindChecks$Net" 3 y_Ph_init ∈ wz := wz_at 646 (by decide +kernel) rfl
theorem l_La_82 : Cond.methodLink "PinKindChecksLaw" 82 y_La_pin ∈ wz := wz_at 658 (by decide +kernel) rfl
theorem s_La_pin : Cond.static y_La_pin ∈ wz := wz_at 659 (by decide +kernel) rfl
theorem l_La_25 : Cond.methodLink "PinKindChecksLaw" 25 y_K_pin ∈ wz := wz_at 661 (by decide +kernel) rfl
theorem i_K_pin : Cond.instanceMethod y_K_pin ∈ wz := wz_at 662 (by decide +kernel) rfl
theorem q_K_K_pin_K : Cond.selects "PinKindChecks" y_K_pin y_K_pin ∈ wz := wz_at 663 (by decide +kernel) rfl
theorem l_K_105 : Cond.methodLink "PinKindChecks" 105 y_Sc_partAt ∈ wz := wz_at 665 (by decide +kernel) rfl
theorem i_Sc_partAt : Cond.instanceMethod y_Sc_partAt ∈ wz := wz_at 666 (by decide +kernel) rfl
theorem q_Sc_Sc_partAt_Sc : Cond.selects "PinKindChecks$Schematic" y_Sc_partAt y_Sc_partAt ∈ wz := wz_at 667 (by decide +kernel) rfl
theorem l_K_109 : Cond.methodLink "PinKindChecks" 109 y_K_isNetOrNone ∈ wz := wz_at 669 (by decide +kernel) rfl
theorem i_K_isNetOrNone : Cond.instanceMethod y_K_isNetOrNone ∈ wz := wz_at 671 (by decide +kernel) rfl
theorem l_K_117 : Cond.methodLink "PinKindChecks" 117 y_Sc_netAt ∈ wz := wz_at 673 (by decide +kernel) rfl
theorem l_K_121 : Cond.methodLink "PinKindChecks" 121 y_Sc_addPin ∈ wz := wz_at 676 (by decide +kernel) rfl
theorem i_Sc_addPin : Cond.instanceMethod y_Sc_addPin ∈ wz := wz_at 677 (by decide +kernel) rfl
theorem q_Sc_Sc_addPin_Sc : Cond.selects "PinKindChecks$Schematic" y_Sc_addPin y_Sc_addPin ∈ wz := wz_at 678 (by decide +kernel) rfl
theorem l_Sc_81 : Cond.methodLink "PinKindChecks$Schematic" 81 y_Pi_init ∈ wz := wz_at 681 (by decide +kernel) rfl
theorem i_Pi_init : Cond.instanceMethod y_Pi_init ∈ wz := wz_at 682 (by decide +kernel) rfl
theorem l_Pi_3 : Cond.methodLink "PinKindChecks$Pin" 3 ⟨"PinKindChecks$Part", "sheet", "()I"⟩ ∈ wz := wz_at 684 (by decide +kernel) rfl
theorem e_Pa_Th_sheet : Cond.sameMethod "PinKindChecks$Part" "PinKindChecks$Thing" "sheet" "()I" ∈ wz := wz_at 685 (by decide +kernel) rfl
theorem q_Pa_Pa_sheet_Th : Cond.selects "PinKindChecks$Part" ⟨"PinKindChecks$Part", "sheet", "()I"⟩ y_Th_sheet ∈ wz := wz_at 686 (by decide +kernel) rfl
theorem l_Pi_9 : Cond.methodLink "PinKindChecks$Pin" 9 y_Th_init ∈ wz := wz_at 687 (by decide +kernel) rfl
theorem l_Sc_84 : Cond.methodLink "PinKindChecks$Schematic" 84 ⟨"PinKindChecks$Part", "countPins", "(II)V"⟩ ∈ wz := wz_at 700 (by decide +kernel) rfl
theorem e_Pa_Ph_countPins : Cond.sameMethod "PinKindChecks$Part" "PinKindChecks$PinHolder" "countPins" "(II)V" ∈ wz := wz_at 701 (by decide +kernel) rfl
theorem z_Ph_countPins : zDecl ⟨"PinKindChecks$PinHolder", "countPins", "(II)V"⟩ := Or.inl (wn_at 702 (by decide +kernel) rfl)
theorem q_Pa_Pa_countPins_Ph : Cond.selects "PinKindChecks$Part" ⟨"PinKindChecks$Part", "countPins", "(II)V"⟩ y_Ph_countPins ∈ wz := wz_at 703 (by decide +kernel) rfl
theorem i_Ph_countPins : Cond.instanceMethod y_Ph_countPins ∈ wz := wz_at 704 (by decide +kernel) rfl
theorem l_Sc_87 : Cond.methodLink "PinKindChecks$Schematic" 87 y_Pi_moveTo ∈ wz := wz_at 706 (by decide +kernel) rfl
theorem i_Pi_moveTo : Cond.instanceMethod y_Pi_moveTo ∈ wz := wz_at 707 (by decide +kernel) rfl
theorem q_Pi_Pi_moveTo_Pi : Cond.selects "PinKindChecks$Pin" y_Pi_moveTo y_Pi_moveTo ∈ wz := wz_at 708 (by decide +kernel) rfl
theorem l_Pi_29 : Cond.methodLink "PinKindChecks$Pin" 29 ⟨"PinKindChecks$Net", "countPins", "(II)V"⟩ ∈ wz := wz_at 710 (by decide +kernel) rfl
theorem e_Ne_Ph_countPins : Cond.sameMethod "PinKindChecks$Net" "PinKindChecks$PinHolder" "countPins" "(II)V" ∈ wz := wz_at 711 (by decide +kernel) rfl
theorem q_Ne_Ne_countPins_Ph : Cond.selects "PinKindChecks$Net" ⟨"PinKindChecks$Net", "countPins", "(II)V"⟩ y_Ph_countPins ∈ wz := wz_at 712 (by decide +kernel) rfl
theorem l_La_85 : Cond.methodLink "PinKindChecksLaw" 85 y_La_join ∈ wz := wz_at 713 (by decide +kernel) rfl
theorem s_La_join : Cond.static y_La_join ∈ wz := wz_at 714 (by decide +kernel) rfl
theorem l_La_29 : Cond.methodLink "PinKindChecksLaw" 29 y_K_join ∈ wz := wz_at 716 (by decide +kernel) rfl
theorem i_K_join : Cond.instanceMethod y_K_join ∈ wz := wz_at 717 (by decide +kernel) rfl
theorem q_K_K_join_K : Cond.selects "PinKindChecks" y_K_join y_K_join ∈ wz := wz_at 718 (by decide +kernel) rfl
theorem l_K_125 : Cond.methodLink "PinKindChecks" 125 y_Sc_pinAt ∈ wz := wz_at 720 (by decide +kernel) rfl
theorem l_K_131 : Cond.methodLink "PinKindChecks" 131 y_Pi_moveTo ∈ wz := wz_at 722 (by decide +kernel) rfl
theorem l_La_90 : Cond.methodLink "PinKindChecksLaw" 90 y_La_field ∈ wz := wz_at 723 (by decide +kernel) rfl
theorem s_La_field : Cond.static y_La_field ∈ wz := wz_at 724 (by decide +kernel) rfl
theorem l_La_33 : Cond.methodLink "PinKindChecksLaw" 33 y_K_field ∈ wz := wz_at 726 (by decide +kernel) rfl
theorem i_K_field : Cond.instanceMethod y_K_field ∈ wz := wz_at 727 (by decide +kernel) rfl
theorem q_K_K_field_K : Cond.selects "PinKindChecks" y_K_field y_K_field ∈ wz := wz_at 728 (by decide +kernel) rfl
theorem l_K_139 : Cond.methodLink "PinKindChecks" 139 y_Pa_setField ∈ wz := wz_at 731 (by decide +kernel) rfl
theorem i_Pa_setField : Cond.instanceMethod y_Pa_setField ∈ wz := wz_at 732 (by decide +kernel) rfl
theorem q_Pa_Pa_setField_Pa : Cond.selects "PinKindChecks$Part" y_Pa_setField y_Pa_setField ∈ wz := wz_at 733 (by decide +kernel) rfl
theorem l_La_94 : Cond.methodLink "PinKindChecksLaw" 94 y_La_end ∈ wz := wz_at 735 (by decide +kernel) rfl
theorem s_La_end : Cond.static y_La_end ∈ wz := wz_at 736 (by decide +kernel) rfl
theorem l_La_37 : Cond.methodLink "PinKindChecksLaw" 37 y_K_end ∈ wz := wz_at 738 (by decide +kernel) rfl
theorem i_K_end : Cond.instanceMethod y_K_end ∈ wz := wz_at 739 (by decide +kernel) rfl
theorem q_K_K_end_K : Cond.selects "PinKindChecks" y_K_end y_K_end ∈ wz := wz_at 740 (by decide +kernel) rfl
theorem l_K_147 : Cond.methodLink "PinKindChecks" 147 y_Sc_addEnd ∈ wz := wz_at 743 (by decide +kernel) rfl
theorem i_Sc_addEnd : Cond.instanceMethod y_Sc_addEnd ∈ wz := wz_at 744 (by decide +kernel) rfl
theorem q_Sc_Sc_addEnd_Sc : Cond.selects "PinKindChecks$Schematic" y_Sc_addEnd y_Sc_addEnd ∈ wz := wz_at 745 (by decide +kernel) rfl
theorem l_Sc_92 : Cond.methodLink "PinKindChecks$Schematic" 92 y_Ne_noteEnd ∈ wz := wz_at 747 (by decide +kernel) rfl
theorem i_Ne_noteEnd : Cond.instanceMethod y_Ne_noteEnd ∈ wz := wz_at 748 (by decide +kernel) rfl
theorem q_Ne_Ne_noteEnd_Ne : Cond.selects "PinKindChecks$Net" y_Ne_noteEnd y_Ne_noteEnd ∈ wz := wz_at 749 (by decide +kernel) rfl
theorem v_Ne_19 : Cond.constantLong "PinKindChecks$Net" 19 (100) ∈ wz := wz_at 751 (by decide +kernel) rfl
theorem l_La_103 : Cond.methodLink "PinKindChecksLaw" 103 y_La_rule ∈ wz := wz_at 752 (by decide +kernel) rfl
theorem s_La_rule : Cond.static y_La_rule ∈ wz := wz_at 753 (by decide +kernel) rfl
theorem t_La_45 : Cond.classLink "PinKindChecksLaw" 45 "java/lang/IllegalStateException" ∈ wz := wz_at 755 (by decide +kernel) rfl
theorem l_La_41 : Cond.methodLink "PinKindChecksLaw" 41 y_K_rule ∈ wz := wz_at 756 (by decide +kernel) rfl
theorem i_K_rule : Cond.instanceMethod y_K_rule ∈ wz := wz_at 757 (by decide +kernel) rfl
theorem q_K_K_rule_K : Cond.selects "PinKindChecks" y_K_rule y_K_rule ∈ wz := wz_at 758 (by decide +kernel) rfl
theorem t_K_154 : Cond.classLink "PinKindChecks" 154 "java/lang/IllegalStateException" ∈ wz := wz_at 760 (by decide +kernel) rfl
theorem l_K_158 : Cond.methodLink "PinKindChecks" 158 ⟨"java/lang/IllegalStateException", "<init>", "(Ljava/lang/String;)V"⟩ ∈ wz := wz_at 770 (by decide +kernel) rfl
theorem l_K_159 : Cond.methodLink "PinKindChecks" 159 y_Rd_readRule ∈ wz := wz_at 776 (by decide +kernel) rfl
theorem i_Rd_readRule : Cond.instanceMethod y_Rd_readRule ∈ wz := wz_at 777 (by decide +kernel) rfl
theorem q_Rd_Rd_readRule_Rd : Cond.selects "PinKindChecks$RuleReader" y_Rd_readRule y_Rd_readRule ∈ wz := wz_at 778 (by decide +kernel) rfl
theorem l_Rd_51 : Cond.methodLink "PinKindChecks$RuleReader" 51 y_Rd_start ∈ wz := wz_at 780 (by decide +kernel) rfl
theorem i_Rd_start : Cond.instanceMethod y_Rd_start ∈ wz := wz_at 782 (by decide +kernel) rfl
theorem l_Rd_81 : Cond.methodLink "PinKindChecks$RuleReader" 81 y_Tx_toStart ∈ wz := wz_at 784 (by decide +kernel) rfl
theorem i_Tx_toStart : Cond.instanceMethod y_Tx_toStart ∈ wz := wz_at 785 (by decide +kernel) rfl
theorem q_Tx_Tx_toStart_Tx : Cond.selects "PinKindChecks$RuleText" y_Tx_toStart y_Tx_toStart ∈ wz := wz_at 786 (by decide +kernel) rfl
theorem l_Rd_54 : Cond.methodLink "PinKindChecks$RuleReader" 54 y_Tx_toNextWord ∈ wz := wz_at 788 (by decide +kernel) rfl
theorem i_Tx_toNextWord : Cond.instanceMethod y_Tx_toNextWord ∈ wz := wz_at 789 (by decide +kernel) rfl
theorem q_Tx_Tx_toNextWord_Tx : Cond.selects "PinKindChecks$RuleText" y_Tx_toNextWord y_Tx_toNextWord ∈ wz := wz_at 790 (by decide +kernel) rfl
theorem l_Tx_25 : Cond.methodLink "PinKindChecks$RuleText" 25 y_Tx_isInside ∈ wz := wz_at 792 (by decide +kernel) rfl
theorem i_Tx_isInside : Cond.instanceMethod y_Tx_isInside ∈ wz := wz_at 794 (by decide +kernel) rfl
theorem l_Rd_60 : Cond.methodLink "PinKindChecks$RuleReader" 60 y_Rd_takeWord ∈ wz := wz_at 796 (by decide +kernel) rfl
theorem i_Rd_takeWord : Cond.instanceMethod y_Rd_takeWord ∈ wz := wz_at 798 (by decide +kernel) rfl
theorem l_Rd_84 : Cond.methodLink "PinKindChecks$RuleReader" 84 y_Rd_takeSubject ∈ wz := wz_at 800 (by decide +kernel) rfl
theorem i_Rd_takeSubject : Cond.instanceMethod y_Rd_takeSubject ∈ wz := wz_at 802 (by decide +kernel) rfl
theorem l_Rd_110 : Cond.methodLink "PinKindChecks$RuleReader" 110 y_Tx_wordIs ∈ wz := wz_at 805 (by decide +kernel) rfl
theorem i_Tx_wordIs : Cond.instanceMethod y_Tx_wordIs ∈ wz := wz_at 806 (by decide +kernel) rfl
theorem q_Tx_Tx_wordIs_Tx : Cond.selects "PinKindChecks$RuleText" y_Tx_wordIs y_Tx_wordIs ∈ wz := wz_at 807 (by decide +kernel) rfl
theorem l_Tx_29 : Cond.methodLink "PinKindChecks$RuleText" 29 y_jS_length ∈ wz := wz_at 809 (by decide +kernel) rfl
theorem i_jS_length : Cond.instanceMethod y_jS_length ∈ wz := wz_at 810 (by decide +kernel) rfl
theorem q_jS_jS_length_jS : Cond.selects "java/lang/String" y_jS_length y_jS_length ∈ wz := wz_at 811 (by decide +kernel) rfl
theorem l_jS_335 : Cond.methodLink "java/lang/String" 335 y_jS_coder ∈ wz := wz_at 813 (by decide +kernel) rfl
theorem i_jS_coder : Cond.instanceMethod y_jS_coder ∈ wz := wz_at 814 (by decide +kernel) rfl
theorem q_jS_jS_coder_jS : Cond.selects "java/lang/String" y_jS_coder y_jS_coder ∈ wz := wz_at 815 (by decide +kernel) rfl
theorem l_Tx_34 : Cond.methodLink "PinKindChecks$RuleText" 34 y_Tx_wordLength ∈ wz := wz_at 819 (by decide +kernel) rfl
theorem i_Tx_wordLength : Cond.instanceMethod y_Tx_wordLength ∈ wz := wz_at 820 (by decide +kernel) rfl
theorem q_Tx_Tx_wordLength_Tx : Cond.selects "PinKindChecks$RuleText" y_Tx_wordLength y_Tx_wordLength ∈ wz := wz_at 821 (by decide +kernel) rfl
theorem l_Tx_37 : Cond.methodLink "PinKindChecks$RuleText" 37 y_jS_charAt ∈ wz := wz_at 823 (by decide +kernel) rfl
theorem i_jS_charAt : Cond.instanceMethod y_jS_charAt ∈ wz := wz_at 824 (by decide +kernel) rfl
theorem q_jS_jS_charAt_jS : Cond.selects "java/lang/String" y_jS_charAt y_jS_charAt ∈ wz := wz_at 825 (by decide +kernel) rfl
theorem l_jS_492 : Cond.methodLink "java/lang/String" 492 y_jS_isLatin1 ∈ wz := wz_at 827 (by decide +kernel) rfl
theorem i_jS_isLatin1 : Cond.instanceMethod y_jS_isLatin1 ∈ wz := wz_at 828 (by decide +kernel) rfl
theorem q_jS_jS_isLatin1_jS : Cond.selects "java/lang/String" y_jS_isLatin1 y_jS_isLatin1 ∈ wz := wz_at 829 (by decide +kernel) rfl
theorem l_jS_495 : Cond.methodLink "java/lang/String" 495 y_jL_charAt ∈ wz := wz_at 831 (by decide +kernel) rfl
theorem s_jL_charAt : Cond.static y_jL_charAt ∈ wz := wz_at 832 (by decide +kernel) rfl
theorem l_jL_9 : Cond.methodLink "java/lang/StringLatin1" 9 y_jS_checkIndex ∈ wz := wz_at 834 (by decide +kernel) rfl
theorem s_jS_checkIndex : Cond.static y_jS_checkIndex ∈ wz := wz_at 835 (by decide +kernel) rfl
theorem l_jS_1059 : Cond.methodLink "java/lang/String" 1059 y_jP_checkIndex ∈ wz := wz_at 839 (by decide +kernel) rfl
theorem s_jP_checkIndex : Cond.static y_jP_checkIndex ∈ wz := wz_at 840 (by decide +kernel) rfl
theorem l_jS_498 : Cond.methodLink "java/lang/String" 498 ⟨"java/lang/StringUTF16", "charAt", "([BI)C"⟩ ∈ wz := wz_at 842 (by decide +kernel) rfl
theorem l_Tx_41 : Cond.methodLink "PinKindChecks$RuleText" 41 y_Tx_letterOfWord ∈ wz := wz_at 861 (by decide +kernel) rfl
theorem i_Tx_letterOfWord : Cond.instanceMethod y_Tx_letterOfWord ∈ wz := wz_at 862 (by decide +kernel) rfl
theorem q_Tx_Tx_letterOfWord_Tx : Cond.selects "PinKindChecks$RuleText" y_Tx_letterOfWord y_Tx_letterOfWord ∈ wz := wz_at 863 (by decide +kernel) rfl
theorem l_Rd_87 : Cond.methodLink "PinKindChecks$RuleReader" 87 y_Rd_takeWeight ∈ wz := wz_at 867 (by decide +kernel) rfl
theorem i_Rd_takeWeight : Cond.instanceMethod y_Rd_takeWeight ∈ wz := wz_at 869 (by decide +kernel) rfl
theorem l_Rd_90 : Cond.methodLink "PinKindChecks$RuleReader" 90 y_Rd_takeNot ∈ wz := wz_at 873 (by decide +kernel) rfl
theorem i_Rd_takeNot : Cond.instanceMethod y_Rd_takeNot ∈ wz := wz_at 875 (by decide +kernel) rfl
theorem l_Rd_124 : Cond.methodLink "PinKindChecks$RuleReader" 124 y_Rd_putOff ∈ wz := wz_at 878 (by decide +kernel) rfl
theorem i_Rd_putOff : Cond.instanceMethod y_Rd_putOff ∈ wz := wz_at 880 (by decide +kernel) rfl
theorem l_Rd_93 : Cond.methodLink "PinKindChecks$RuleReader" 93 y_Rd_takeOpening ∈ wz := wz_at 882 (by decide +kernel) rfl
theorem i_Rd_takeOpening : Cond.instanceMethod y_Rd_takeOpening ∈ wz := wz_at 884 (by decide +kernel) rfl
theorem l_Rd_96 : Cond.methodLink "PinKindChecks$RuleReader" 96 y_Rd_takeTerm ∈ wz := wz_at 887 (by decide +kernel) rfl
theorem i_Rd_takeTerm : Cond.instanceMethod y_Rd_takeTerm ∈ wz := wz_at 889 (by decide +kernel) rfl
theorem l_Rd_134 : Cond.methodLink "PinKindChecks$RuleReader" 134 y_Rd_takeNumber ∈ wz := wz_at 891 (by decide +kernel) rfl
theorem i_Rd_takeNumber : Cond.instanceMethod y_Rd_takeNumber ∈ wz := wz_at 893 (by decide +kernel) rfl
theorem l_Rd_150 : Cond.methodLink "PinKindChecks$RuleReader" 150 y_Tx_wordLength ∈ wz := wz_at 895 (by decide +kernel) rfl
theorem l_Rd_153 : Cond.methodLink "PinKindChecks$RuleReader" 153 y_Tx_digitOfWord ∈ wz := wz_at 896 (by decide +kernel) rfl
theorem i_Tx_digitOfWord : Cond.instanceMethod y_Tx_digitOfWord ∈ wz := wz_at 897 (by decide +kernel) rfl
theorem q_Tx_Tx_digitOfWord_Tx : Cond.selects "PinKindChecks$RuleText" y_Tx_digitOfWord y_Tx_digitOfWord ∈ wz := wz_at 898 (by decide +kernel) rfl
theorem l_Rd_146 : Cond.methodLink "PinKindChecks$RuleReader" 146 y_Rd_putTerm ∈ wz := wz_at 900 (by decide +kernel) rfl
theorem i_Rd_putTerm : Cond.instanceMethod y_Rd_putTerm ∈ wz := wz_at 902 (by decide +kernel) rfl
theorem l_Rd_172 : Cond.methodLink "PinKindChecks$RuleReader" 172 y_Rd_putOut ∈ wz := wz_at 904 (by decide +kernel) rfl
theorem i_Rd_putOut : Cond.instanceMethod y_Rd_putOut ∈ wz := wz_at 906 (by decide +kernel) rfl
theorem l_Rd_137 : Cond.methodLink "PinKindChecks$RuleReader" 137 y_Rd_takeField ∈ wz := wz_at 908 (by decide +kernel) rfl
theorem i_Rd_takeField : Cond.instanceMethod y_Rd_takeField ∈ wz := wz_at 910 (by decide +kernel) rfl
theorem l_Rd_157 : Cond.methodLink "PinKindChecks$RuleReader" 157 y_Tx_letterOfWord ∈ wz := wz_at 912 (by decide +kernel) rfl
theorem l_Rd_161 : Cond.methodLinkNest "PinKindChecks$RuleReader" 161 y_K_isBelow "PinKindChecks" ∈ wn := wn_at 913 (by decide +kernel) rfl
theorem l_Rd_142 : Cond.methodLink "PinKindChecks$RuleReader" 142 y_Rd_plainTerm ∈ wz := wz_at 915 (by decide +kernel) rfl
theorem i_Rd_plainTerm : Cond.instanceMethod y_Rd_plainTerm ∈ wz := wz_at 917 (by decide +kernel) rfl
theorem l_Rd_99 : Cond.methodLink "PinKindChecks$RuleReader" 99 y_Rd_takeKind ∈ wz := wz_at 923 (by decide +kernel) rfl
theorem i_Rd_takeKind : Cond.instanceMethod y_Rd_takeKind ∈ wz := wz_at 925 (by decide +kernel) rfl
theorem l_Rd_102 : Cond.methodLink "PinKindChecks$RuleReader" 102 y_Rd_takeOperator ∈ wz := wz_at 927 (by decide +kernel) rfl
theorem i_Rd_takeOperator : Cond.instanceMethod y_Rd_takeOperator ∈ wz := wz_at 929 (by decide +kernel) rfl
theorem l_Rd_176 : Cond.methodLink "PinKindChecks$RuleReader" 176 y_Rd_operatorOfWord ∈ wz := wz_at 931 (by decide +kernel) rfl
theorem i_Rd_operatorOfWord : Cond.instanceMethod y_Rd_operatorOfWord ∈ wz := wz_at 933 (by decide +kernel) rfl
theorem l_Rd_189 : Cond.methodLink "PinKindChecks$RuleReader" 189 y_Rd_operatorOfLetter ∈ wz := wz_at 935 (by decide +kernel) rfl
theorem s_Rd_operatorOfLetter : Cond.static y_Rd_operatorOfLetter ∈ wz := wz_at 936 (by decide +kernel) rfl
theorem l_Rd_179 : Cond.methodLink "PinKindChecks$RuleReader" 179 y_Tr_isJoining ∈ wz := wz_at 942 (by decide +kernel) rfl
theorem s_Tr_isJoining : Cond.static y_Tr_isJoining ∈ wz := wz_at 943 (by decide +kernel) rfl
theorem l_Rd_63 : Cond.methodLink "PinKindChecks$RuleReader" 63 y_Rd_isBehindCondition ∈ wz := wz_at 945 (by decide +kernel) rfl
theorem i_Rd_isBehindCondition : Cond.instanceMethod y_Rd_isBehindCondition ∈ wz := wz_at 947 (by decide +kernel) rfl
theorem l_Rd_183 : Cond.methodLink "PinKindChecks$RuleReader" 183 y_Tr_isSign ∈ wz := wz_at 949 (by decide +kernel) rfl
theorem s_Tr_isSign : Cond.static y_Tr_isSign ∈ wz := wz_at 950 (by decide +kernel) rfl
theorem l_Rd_186 : Cond.methodLink "PinKindChecks$RuleReader" 186 y_Tr_isArithmetic ∈ wz := wz_at 952 (by decide +kernel) rfl
theorem s_Tr_isArithmetic : Cond.static y_Tr_isArithmetic ∈ wz := wz_at 953 (by decide +kernel) rfl
theorem l_Rd_68 : Cond.methodLink "PinKindChecks$RuleReader" 68 y_Rd_putOutDownTo ∈ wz := wz_at 955 (by decide +kernel) rfl
theorem i_Rd_putOutDownTo : Cond.instanceMethod y_Rd_putOutDownTo ∈ wz := wz_at 957 (by decide +kernel) rfl
theorem l_Rd_201 : Cond.methodLink "PinKindChecks$RuleReader" 201 y_Tr_strength ∈ wz := wz_at 959 (by decide +kernel) rfl
theorem s_Tr_strength : Cond.static y_Tr_strength ∈ wz := wz_at 960 (by decide +kernel) rfl
theorem l_Tr_25 : Cond.methodLink "PinKindChecks$ToldRule" 25 y_Tr_isSign ∈ wz := wz_at 962 (by decide +kernel) rfl
theorem l_Rd_105 : Cond.methodLink "PinKindChecks$RuleReader" 105 y_Rd_takeClosing ∈ wz := wz_at 963 (by decide +kernel) rfl
theorem i_Rd_takeClosing : Cond.instanceMethod y_Rd_takeClosing ∈ wz := wz_at 965 (by decide +kernel) rfl
theorem l_Rd_131 : Cond.methodLink "PinKindChecks$RuleReader" 131 y_Rd_dropOpening ∈ wz := wz_at 968 (by decide +kernel) rfl
theorem i_Rd_dropOpening : Cond.instanceMethod y_Rd_dropOpening ∈ wz := wz_at 970 (by decide +kernel) rfl
theorem t_Rd_66 : Cond.classLink "PinKindChecks$RuleReader" 66 "PinKindChecks$ToldRule" ∈ wz := wz_at 972 (by decide +kernel) rfl
theorem l_Rd_72 : Cond.methodLink "PinKindChecks$RuleReader" 72 y_jA_copyOf ∈ wz := wz_at 973 (by decide +kernel) rfl
theorem l_Rd_78 : Cond.methodLink "PinKindChecks$RuleReader" 78 y_Tr_init ∈ wz := wz_at 974 (by decide +kernel) rfl
theorem i_Tr_init : Cond.instanceMethod y_Tr_init ∈ wz := wz_at 975 (by decide +kernel) rfl
theorem l_Tr_3 : Cond.methodLink "PinKindChecks$ToldRule" 3 ⟨"java/lang/Object", "<init>", "()V"⟩ ∈ wz := wz_at 977 (by decide +kernel) rfl
theorem l_K_166 : Cond.methodLink "PinKindChecks" 166 y_Rd_wrongWord ∈ wz := wz_at 991 (by decide +kernel) rfl
theorem i_Rd_wrongWord : Cond.instanceMethod y_Rd_wrongWord ∈ wz := wz_at 992 (by decide +kernel) rfl
theorem q_Rd_Rd_wrongWord_Rd : Cond.selects "PinKindChecks$RuleReader" y_Rd_wrongWord y_Rd_wrongWord ∈ wz := wz_at 993 (by decide +kernel) rfl
theorem l_La_107 : Cond.methodLink "PinKindChecksLaw" 107 y_La_off ∈ wz := wz_at 995 (by decide +kernel) rfl
theorem s_La_off : Cond.static y_La_off ∈ wz := wz_at 996 (by decide +kernel) rfl
theorem l_La_47 : Cond.methodLink "PinKindChecksLaw" 47 y_K_off ∈ wz := wz_at 998 (by decide +kernel) rfl
theorem i_K_off : Cond.instanceMethod y_K_off ∈ wz := wz_at 999 (by decide +kernel) rfl
theorem q_K_K_off_K : Cond.selects "PinKindChecks" y_K_off y_K_off ∈ wz := wz_at 1000 (by decide +kernel) rfl
theorem l_K_173 : Cond.methodLink "PinKindChecks" 173 y_K_isRule ∈ wz := wz_at 1002 (by decide +kernel) rfl
theorem i_K_isRule : Cond.instanceMethod y_K_isRule ∈ wz := wz_at 1004 (by decide +kernel) rfl
theorem l_La_115 : Cond.methodLink "PinKindChecksLaw" 115 y_La_remark ∈ wz := wz_at 1007 (by decide +kernel) rfl
theorem s_La_remark : Cond.static y_La_remark ∈ wz := wz_at 1008 (by decide +kernel) rfl
theorem l_La_51 : Cond.methodLink "PinKindChecksLaw" 51 y_K_remark ∈ wz := wz_at 1010 (by decide +kernel) rfl
theorem i_K_remark : Cond.instanceMethod y_K_remark ∈ wz := wz_at 1011 (by decide +kernel) rfl
theorem q_K_K_remark_K : Cond.selects "PinKindChecks" y_K_remark y_K_remark ∈ wz := wz_at 1012 (by decide +kernel) rfl
theorem l_K_213 : Cond.methodLink "PinKindChecks" 213 y_K_aboutKey ∈ wz := wz_at 1015 (by decide +kernel) rfl
theorem s_K_aboutKey : Cond.static y_K_aboutKey ∈ wz := wz_at 1016 (by decide +kernel) rfl
theorem l_La_118 : Cond.methodLink "PinKindChecksLaw" 118 y_La_closed ∈ wz := wz_at 1018 (by decide +kernel) rfl
theorem s_La_closed : Cond.static y_La_closed ∈ wz := wz_at 1019 (by decide +kernel) rfl
theorem l_La_54 : Cond.methodLink "PinKindChecksLaw" 54 y_K_closed ∈ wz := wz_at 1021 (by decide +kernel) rfl
theorem i_K_closed : Cond.instanceMethod y_K_closed ∈ wz := wz_at 1022 (by decide +kernel) rfl
theorem q_K_K_closed_K : Cond.selects "PinKindChecks" y_K_closed y_K_closed ∈ wz := wz_at 1023 (by decide +kernel) rfl
theorem l_La_121 : Cond.methodLink "PinKindChecksLaw" 121 y_La_waive ∈ wz := wz_at 1026 (by decide +kernel) rfl
theorem s_La_waive : Cond.static y_La_waive ∈ wz := wz_at 1027 (by decide +kernel) rfl
theorem l_La_57 : Cond.methodLink "PinKindChecksLaw" 57 y_K_waive ∈ wz := wz_at 1029 (by decide +kernel) rfl
theorem i_K_waive : Cond.instanceMethod y_K_waive ∈ wz := wz_at 1030 (by decide +kernel) rfl
theorem q_K_K_waive_K : Cond.selects "PinKindChecks" y_K_waive y_K_waive ∈ wz := wz_at 1031 (by decide +kernel) rfl
theorem l_K_218 : Cond.methodLink "PinKindChecks" 218 y_Sc_thingOf ∈ wz := wz_at 1033 (by decide +kernel) rfl
theorem i_Sc_thingOf : Cond.instanceMethod y_Sc_thingOf ∈ wz := wz_at 1034 (by decide +kernel) rfl
theorem q_Sc_Sc_thingOf_Sc : Cond.selects "PinKindChecks$Schematic" y_Sc_thingOf y_Sc_thingOf ∈ wz := wz_at 1035 (by decide +kernel) rfl
theorem l_Sc_96 : Cond.methodLink "PinKindChecks$Schematic" 96 y_Sc_partAt ∈ wz := wz_at 1037 (by decide +kernel) rfl
theorem l_K_231 : Cond.methodLink "PinKindChecks" 231 y_Wv_setReason ∈ wz := wz_at 1040 (by decide +kernel) rfl
theorem i_Wv_setReason : Cond.instanceMethod y_Wv_setReason ∈ wz := wz_at 1041 (by decide +kernel) rfl
theorem q_Wv_Wv_setReason_Wv : Cond.selects "PinKindChecks$Waivers" y_Wv_setReason y_Wv_setReason ∈ wz := wz_at 1042 (by decide +kernel) rfl
theorem l_Wv_30 : Cond.methodLink "PinKindChecks$Waivers" 30 y_Wv_reasonFor ∈ wz := wz_at 1044 (by decide +kernel) rfl
theorem l_Wv_33 : Cond.methodLink "PinKindChecks$Waivers" 33 y_Wv_append ∈ wz := wz_at 1045 (by decide +kernel) rfl
theorem i_Wv_append : Cond.instanceMethod y_Wv_append ∈ wz := wz_at 1047 (by decide +kernel) rfl
theorem l_Wv_36 : Cond.methodLink "PinKindChecks$Waivers" 36 y_Wv_remove ∈ wz := wz_at 1049 (by decide +kernel) rfl
theorem i_Wv_remove : Cond.instanceMethod y_Wv_remove ∈ wz := wz_at 1051 (by decide +kernel) rfl
theorem t_La_62 : Cond.classLink "PinKindChecksLaw" 62 "PinKindChecksModel" ∈ wz := wz_at 1053 (by decide +kernel) rfl
theorem l_La_64 : Cond.methodLink "PinKindChecksLaw" 64 y_Mo_init ∈ wz := wz_at 1055 (by decide +kernel) rfl
theorem i_Mo_init : Cond.instanceMethod y_Mo_init ∈ wz := wz_at 1056 (by decide +kernel) rfl
theorem l_Mo_1 : Cond.methodLink "PinKindChecksModel" 1 ⟨"java/lang/Object", "<init>", "()V"⟩ ∈ wz := wz_at 1058 (by decide +kernel) rfl
theorem l_La_71 : Cond.methodLink "PinKindChecksLaw" 71 y_Mo_thrown ∈ wz := wz_at 1186 (by decide +kernel) rfl
theorem i_Mo_thrown : Cond.instanceMethod y_Mo_thrown ∈ wz := wz_at 1187 (by decide +kernel) rfl
theorem q_Mo_Mo_thrown_Mo : Cond.selects "PinKindChecksModel" y_Mo_thrown y_Mo_thrown ∈ wz := wz_at 1188 (by decide +kernel) rfl
theorem l_La_70 : Cond.methodLink "PinKindChecksLaw" 70 y_Mo_table ∈ wz := wz_at 1190 (by decide +kernel) rfl
theorem i_Mo_table : Cond.instanceMethod y_Mo_table ∈ wz := wz_at 1191 (by decide +kernel) rfl
theorem q_Mo_Mo_table_Mo : Cond.selects "PinKindChecksModel" y_Mo_table y_Mo_table ∈ wz := wz_at 1192 (by decide +kernel) rfl
theorem l_Mo_100 : Cond.methodLink "PinKindChecksModel" 100 y_Mo_isKind ∈ wz := wz_at 1194 (by decide +kernel) rfl
theorem s_Mo_isKind : Cond.static y_Mo_isKind ∈ wz := wz_at 1195 (by decide +kernel) rfl
theorem l_La_77 : Cond.methodLink "PinKindChecksLaw" 77 y_Mo_part ∈ wz := wz_at 1197 (by decide +kernel) rfl
theorem i_Mo_part : Cond.instanceMethod y_Mo_part ∈ wz := wz_at 1198 (by decide +kernel) rfl
theorem q_Mo_Mo_part_Mo : Cond.selects "PinKindChecksModel" y_Mo_part y_Mo_part ∈ wz := wz_at 1199 (by decide +kernel) rfl
theorem l_Mo_104 : Cond.methodLink "PinKindChecksModel" 104 y_Mo_isSheet ∈ wz := wz_at 1201 (by decide +kernel) rfl
theorem s_Mo_isSheet : Cond.static y_Mo_isSheet ∈ wz := wz_at 1202 (by decide +kernel) rfl
theorem l_La_81 : Cond.methodLink "PinKindChecksLaw" 81 y_Mo_net ∈ wz := wz_at 1204 (by decide +kernel) rfl
theorem i_Mo_net : Cond.instanceMethod y_Mo_net ∈ wz := wz_at 1205 (by decide +kernel) rfl
theorem q_Mo_Mo_net_Mo : Cond.selects "PinKindChecksModel" y_Mo_net y_Mo_net ∈ wz := wz_at 1206 (by decide +kernel) rfl
theorem l_La_84 : Cond.methodLink "PinKindChecksLaw" 84 y_Mo_pin ∈ wz := wz_at 1208 (by decide +kernel) rfl
theorem i_Mo_pin : Cond.instanceMethod y_Mo_pin ∈ wz := wz_at 1209 (by decide +kernel) rfl
theorem q_Mo_Mo_pin_Mo : Cond.selects "PinKindChecksModel" y_Mo_pin y_Mo_pin ∈ wz := wz_at 1210 (by decide +kernel) rfl
theorem l_Mo_107 : Cond.methodLink "PinKindChecksModel" 107 y_Mo_isPart ∈ wz := wz_at 1212 (by decide +kernel) rfl
theorem i_Mo_isPart : Cond.instanceMethod y_Mo_isPart ∈ wz := wz_at 1214 (by decide +kernel) rfl
theorem l_Mo_110 : Cond.methodLink "PinKindChecksModel" 110 y_Mo_isNet ∈ wz := wz_at 1216 (by decide +kernel) rfl
theorem i_Mo_isNet : Cond.instanceMethod y_Mo_isNet ∈ wz := wz_at 1218 (by decide +kernel) rfl
theorem l_La_87 : Cond.methodLink "PinKindChecksLaw" 87 y_Mo_join ∈ wz := wz_at 1220 (by decide +kernel) rfl
theorem i_Mo_join : Cond.instanceMethod y_Mo_join ∈ wz := wz_at 1221 (by decide +kernel) rfl
theorem q_Mo_Mo_join_Mo : Cond.selects "PinKindChecksModel" y_Mo_join y_Mo_join ∈ wz := wz_at 1222 (by decide +kernel) rfl
theorem l_La_93 : Cond.methodLink "PinKindChecksLaw" 93 y_Mo_field ∈ wz := wz_at 1224 (by decide +kernel) rfl
theorem i_Mo_field : Cond.instanceMethod y_Mo_field ∈ wz := wz_at 1225 (by decide +kernel) rfl
theorem q_Mo_Mo_field_Mo : Cond.selects "PinKindChecksModel" y_Mo_field y_Mo_field ∈ wz := wz_at 1226 (by decide +kernel) rfl
theorem l_La_97 : Cond.methodLink "PinKindChecksLaw" 97 y_Mo_end ∈ wz := wz_at 1228 (by decide +kernel) rfl
theorem i_Mo_end : Cond.instanceMethod y_Mo_end ∈ wz := wz_at 1229 (by decide +kernel) rfl
theorem q_Mo_Mo_end_Mo : Cond.selects "PinKindChecksModel" y_Mo_end y_Mo_end ∈ wz := wz_at 1230 (by decide +kernel) rfl
theorem l_La_102 : Cond.methodLink "PinKindChecksLaw" 102 y_Mo_unit ∈ wz := wz_at 1232 (by decide +kernel) rfl
theorem i_Mo_unit : Cond.instanceMethod y_Mo_unit ∈ wz := wz_at 1233 (by decide +kernel) rfl
theorem q_Mo_Mo_unit_Mo : Cond.selects "PinKindChecksModel" y_Mo_unit y_Mo_unit ∈ wz := wz_at 1234 (by decide +kernel) rfl
theorem l_La_106 : Cond.methodLink "PinKindChecksLaw" 106 y_Mo_rule ∈ wz := wz_at 1236 (by decide +kernel) rfl
theorem i_Mo_rule : Cond.instanceMethod y_Mo_rule ∈ wz := wz_at 1237 (by decide +kernel) rfl
theorem q_Mo_Mo_rule_Mo : Cond.selects "PinKindChecksModel" y_Mo_rule y_Mo_rule ∈ wz := wz_at 1238 (by decide +kernel) rfl
theorem l_Mo_213 : Cond.methodLink "PinKindChecksModel" 213 y_Mo_reads ∈ wz := wz_at 1240 (by decide +kernel) rfl
theorem i_Mo_reads : Cond.instanceMethod y_Mo_reads ∈ wz := wz_at 1242 (by decide +kernel) rfl
theorem l_Mo_164 : Cond.methodLink "PinKindChecksModel" 164 y_Mo_nextWord ∈ wz := wz_at 1244 (by decide +kernel) rfl
theorem i_Mo_nextWord : Cond.instanceMethod y_Mo_nextWord ∈ wz := wz_at 1246 (by decide +kernel) rfl
theorem l_Mo_145 : Cond.methodLink "PinKindChecksModel" 145 y_Mo_spelt ∈ wz := wz_at 1248 (by decide +kernel) rfl
theorem i_Mo_spelt : Cond.instanceMethod y_Mo_spelt ∈ wz := wz_at 1250 (by decide +kernel) rfl
theorem l_Mo_157 : Cond.methodLink "PinKindChecksModel" 157 y_Mo_word ∈ wz := wz_at 1252 (by decide +kernel) rfl
theorem s_Mo_word : Cond.static y_Mo_word ∈ wz := wz_at 1253 (by decide +kernel) rfl
theorem l_Mo_207 : Cond.methodLink "PinKindChecksModel" 207 y_Mo_takes ∈ wz := wz_at 1255 (by decide +kernel) rfl
theorem i_Mo_takes : Cond.instanceMethod y_Mo_takes ∈ wz := wz_at 1257 (by decide +kernel) rfl
theorem l_Mo_199 : Cond.methodLink "PinKindChecksModel" 199 y_Mo_takesSign ∈ wz := wz_at 1259 (by decide +kernel) rfl
theorem i_Mo_takesSign : Cond.instanceMethod y_Mo_takesSign ∈ wz := wz_at 1261 (by decide +kernel) rfl
theorem l_Mo_181 : Cond.methodLink "PinKindChecksModel" 181 y_Mo_signAt ∈ wz := wz_at 1263 (by decide +kernel) rfl
theorem i_Mo_signAt : Cond.instanceMethod y_Mo_signAt ∈ wz := wz_at 1265 (by decide +kernel) rfl
theorem v_Mo_167 : Cond.constantLong "PinKindChecksModel" 167 (42) ∈ wz := wz_at 1267 (by decide +kernel) rfl
theorem v_Mo_169 : Cond.constantLong "PinKindChecksModel" 169 (43) ∈ wz := wz_at 1268 (by decide +kernel) rfl
theorem v_Mo_171 : Cond.constantLong "PinKindChecksModel" 171 (45) ∈ wz := wz_at 1269 (by decide +kernel) rfl
theorem v_Mo_173 : Cond.constantLong "PinKindChecksModel" 173 (61) ∈ wz := wz_at 1270 (by decide +kernel) rfl
theorem v_Mo_175 : Cond.constantLong "PinKindChecksModel" 175 (35) ∈ wz := wz_at 1271 (by decide +kernel) rfl
theorem v_Mo_177 : Cond.constantLong "PinKindChecksModel" 177 (60) ∈ wz := wz_at 1272 (by decide +kernel) rfl
theorem v_Mo_179 : Cond.constantLong "PinKindChecksModel" 179 (62) ∈ wz := wz_at 1273 (by decide +kernel) rfl
theorem l_Mo_137 : Cond.methodLink "PinKindChecksModel" 137 y_Mo_rank ∈ wz := wz_at 1274 (by decide +kernel) rfl
theorem s_Mo_rank : Cond.static y_Mo_rank ∈ wz := wz_at 1275 (by decide +kernel) rfl
theorem l_Mo_187 : Cond.methodLink "PinKindChecksModel" 187 y_Mo_release ∈ wz := wz_at 1277 (by decide +kernel) rfl
theorem i_Mo_release : Cond.instanceMethod y_Mo_release ∈ wz := wz_at 1279 (by decide +kernel) rfl
theorem l_Mo_141 : Cond.methodLink "PinKindChecksModel" 141 y_Mo_put ∈ wz := wz_at 1281 (by decide +kernel) rfl
theorem i_Mo_put : Cond.instanceMethod y_Mo_put ∈ wz := wz_at 1283 (by decide +kernel) rfl
theorem l_Mo_191 : Cond.methodLink "PinKindChecksModel" 191 y_Mo_wait ∈ wz := wz_at 1285 (by decide +kernel) rfl
theorem i_Mo_wait : Cond.instanceMethod y_Mo_wait ∈ wz := wz_at 1287 (by decide +kernel) rfl
theorem v_Mo_194 : Cond.constantLong "PinKindChecksModel" 194 (41) ∈ wz := wz_at 1289 (by decide +kernel) rfl
theorem v_Mo_202 : Cond.constantLong "PinKindChecksModel" 202 (40) ∈ wz := wz_at 1290 (by decide +kernel) rfl
theorem l_Mo_204 : Cond.methodLink "PinKindChecksModel" 204 y_Mo_isTerm ∈ wz := wz_at 1291 (by decide +kernel) rfl
theorem i_Mo_isTerm : Cond.instanceMethod y_Mo_isTerm ∈ wz := wz_at 1293 (by decide +kernel) rfl
theorem l_Mo_149 : Cond.methodLink "PinKindChecksModel" 149 y_Mo_isNumber ∈ wz := wz_at 1295 (by decide +kernel) rfl
theorem i_Mo_isNumber : Cond.instanceMethod y_Mo_isNumber ∈ wz := wz_at 1297 (by decide +kernel) rfl
theorem l_Mo_153 : Cond.methodLink "PinKindChecksModel" 153 y_Mo_value ∈ wz := wz_at 1299 (by decide +kernel) rfl
theorem i_Mo_value : Cond.instanceMethod y_Mo_value ∈ wz := wz_at 1301 (by decide +kernel) rfl
theorem l_Mo_161 : Cond.methodLink "PinKindChecksModel" 161 y_Mo_isDigitNext ∈ wz := wz_at 1303 (by decide +kernel) rfl
theorem i_Mo_isDigitNext : Cond.instanceMethod y_Mo_isDigitNext ∈ wz := wz_at 1305 (by decide +kernel) rfl
theorem l_La_114 : Cond.methodLink "PinKindChecksLaw" 114 y_Mo_run ∈ wz := wz_at 1307 (by decide +kernel) rfl
theorem i_Mo_run : Cond.instanceMethod y_Mo_run ∈ wz := wz_at 1308 (by decide +kernel) rfl
theorem q_Mo_Mo_run_Mo : Cond.selects "PinKindChecksModel" y_Mo_run y_Mo_run ∈ wz := wz_at 1309 (by decide +kernel) rfl
theorem l_Mo_252 : Cond.methodLink "PinKindChecksModel" 252 y_Mo_many ∈ wz := wz_at 1311 (by decide +kernel) rfl
theorem i_Mo_many : Cond.instanceMethod y_Mo_many ∈ wz := wz_at 1313 (by decide +kernel) rfl
theorem l_Mo_255 : Cond.methodLink "PinKindChecksModel" 255 y_Mo_thing ∈ wz := wz_at 1315 (by decide +kernel) rfl
theorem s_Mo_thing : Cond.static y_Mo_thing ∈ wz := wz_at 1316 (by decide +kernel) rfl
theorem l_Mo_258 : Cond.methodLink "PinKindChecksModel" 258 y_Mo_found ∈ wz := wz_at 1318 (by decide +kernel) rfl
theorem i_Mo_found : Cond.instanceMethod y_Mo_found ∈ wz := wz_at 1320 (by decide +kernel) rfl
theorem l_Mo_239 : Cond.methodLink "PinKindChecksModel" 239 y_Mo_holds ∈ wz := wz_at 1322 (by decide +kernel) rfl
theorem i_Mo_holds : Cond.instanceMethod y_Mo_holds ∈ wz := wz_at 1324 (by decide +kernel) rfl
theorem l_Mo_229 : Cond.methodLink "PinKindChecksModel" 229 y_Mo_term ∈ wz := wz_at 1326 (by decide +kernel) rfl
theorem i_Mo_term : Cond.instanceMethod y_Mo_term ∈ wz := wz_at 1328 (by decide +kernel) rfl
theorem l_Mo_216 : Cond.methodLink "PinKindChecksModel" 216 y_Mo_partOf ∈ wz := wz_at 1330 (by decide +kernel) rfl
theorem i_Mo_partOf : Cond.instanceMethod y_Mo_partOf ∈ wz := wz_at 1332 (by decide +kernel) rfl
theorem l_Mo_220 : Cond.methodLink "PinKindChecksModel" 220 y_Mo_pinsOf ∈ wz := wz_at 1334 (by decide +kernel) rfl
theorem i_Mo_pinsOf : Cond.instanceMethod y_Mo_pinsOf ∈ wz := wz_at 1336 (by decide +kernel) rfl
theorem v_Mo_224 : Cond.constantLong "PinKindChecksModel" 224 (-1) ∈ wz := wz_at 1338 (by decide +kernel) rfl
theorem l_Mo_226 : Cond.methodLink "PinKindChecksModel" 226 y_Mo_sheetOf ∈ wz := wz_at 1339 (by decide +kernel) rfl
theorem i_Mo_sheetOf : Cond.instanceMethod y_Mo_sheetOf ∈ wz := wz_at 1341 (by decide +kernel) rfl
theorem l_Mo_233 : Cond.methodLink "PinKindChecksModel" 233 y_Mo_result ∈ wz := wz_at 1343 (by decide +kernel) rfl
theorem s_Mo_result : Cond.static y_Mo_result ∈ wz := wz_at 1344 (by decide +kernel) rfl
theorem l_Mo_243 : Cond.methodLink "PinKindChecksModel" 243 y_Mo_worst ∈ wz := wz_at 1346 (by decide +kernel) rfl
theorem i_Mo_worst : Cond.instanceMethod y_Mo_worst ∈ wz := wz_at 1348 (by decide +kernel) rfl
theorem l_Mo_246 : Cond.methodLink "PinKindChecksModel" 246 y_Mo_isNamedBefore ∈ wz := wz_at 1350 (by decide +kernel) rfl
theorem i_Mo_isNamedBefore : Cond.instanceMethod y_Mo_isNamedBefore ∈ wz := wz_at 1352 (by decide +kernel) rfl
theorem l_Mo_249 : Cond.methodLink "PinKindChecksModel" 249 y_Mo_isOffGrid ∈ wz := wz_at 1354 (by decide +kernel) rfl
theorem i_Mo_isOffGrid : Cond.instanceMethod y_Mo_isOffGrid ∈ wz := wz_at 1356 (by decide +kernel) rfl
theorem v_Mo_237 : Cond.constantLong "PinKindChecksModel" 237 (100) ∈ wz := wz_at 1358 (by decide +kernel) rfl
theorem l_Mo_261 : Cond.methodLink "PinKindChecksModel" 261 y_Mo_reason ∈ wz := wz_at 1359 (by decide +kernel) rfl
theorem i_Mo_reason : Cond.instanceMethod y_Mo_reason ∈ wz := wz_at 1361 (by decide +kernel) rfl
theorem l_La_117 : Cond.methodLink "PinKindChecksLaw" 117 y_Mo_remark ∈ wz := wz_at 1363 (by decide +kernel) rfl
theorem i_Mo_remark : Cond.instanceMethod y_Mo_remark ∈ wz := wz_at 1364 (by decide +kernel) rfl
theorem q_Mo_Mo_remark_Mo : Cond.selects "PinKindChecksModel" y_Mo_remark y_Mo_remark ∈ wz := wz_at 1365 (by decide +kernel) rfl
theorem l_Mo_271 : Cond.methodLink "PinKindChecksModel" 271 y_Mo_remarkAt ∈ wz := wz_at 1367 (by decide +kernel) rfl
theorem i_Mo_remarkAt : Cond.instanceMethod y_Mo_remarkAt ∈ wz := wz_at 1369 (by decide +kernel) rfl
theorem l_Mo_275 : Cond.methodLink "PinKindChecksModel" 275 y_Mo_kindOf ∈ wz := wz_at 1371 (by decide +kernel) rfl
theorem s_Mo_kindOf : Cond.static y_Mo_kindOf ∈ wz := wz_at 1372 (by decide +kernel) rfl
theorem l_Mo_278 : Cond.methodLink "PinKindChecksModel" 278 y_Mo_numberOf ∈ wz := wz_at 1374 (by decide +kernel) rfl
theorem s_Mo_numberOf : Cond.static y_Mo_numberOf ∈ wz := wz_at 1375 (by decide +kernel) rfl
theorem l_La_120 : Cond.methodLink "PinKindChecksLaw" 120 y_Mo_closed ∈ wz := wz_at 1377 (by decide +kernel) rfl
theorem i_Mo_closed : Cond.instanceMethod y_Mo_closed ∈ wz := wz_at 1378 (by decide +kernel) rfl
theorem q_Mo_Mo_closed_Mo : Cond.selects "PinKindChecksModel" y_Mo_closed y_Mo_closed ∈ wz := wz_at 1379 (by decide +kernel) rfl
theorem l_La_110 : Cond.methodLink "PinKindChecksLaw" 110 y_Mo_off ∈ wz := wz_at 1381 (by decide +kernel) rfl
theorem i_Mo_off : Cond.instanceMethod y_Mo_off ∈ wz := wz_at 1382 (by decide +kernel) rfl
theorem q_Mo_Mo_off_Mo : Cond.selects "PinKindChecksModel" y_Mo_off y_Mo_off ∈ wz := wz_at 1383 (by decide +kernel) rfl
theorem l_Mo_281 : Cond.methodLink "PinKindChecksModel" 281 y_Mo_isRule ∈ wz := wz_at 1385 (by decide +kernel) rfl
theorem i_Mo_isRule : Cond.instanceMethod y_Mo_isRule ∈ wz := wz_at 1387 (by decide +kernel) rfl
theorem l_La_124 : Cond.methodLink "PinKindChecksLaw" 124 y_Mo_waive ∈ wz := wz_at 1389 (by decide +kernel) rfl
theorem i_Mo_waive : Cond.instanceMethod y_Mo_waive ∈ wz := wz_at 1390 (by decide +kernel) rfl
theorem q_Mo_Mo_waive_Mo : Cond.selects "PinKindChecksModel" y_Mo_waive y_Mo_waive ∈ wz := wz_at 1391 (by decide +kernel) rfl
theorem l_La_128 : Cond.methodLink "PinKindChecksLaw" 128 y_Mo_next ∈ wz := wz_at 1393 (by decide +kernel) rfl
theorem i_Mo_next : Cond.instanceMethod y_Mo_next ∈ wz := wz_at 1394 (by decide +kernel) rfl
theorem q_Mo_Mo_next_Mo : Cond.selects "PinKindChecksModel" y_Mo_next y_Mo_next ∈ wz := wz_at 1395 (by decide +kernel) rfl
theorem l_La_132 : Cond.methodLink "PinKindChecksLaw" 132 y_Mo_offRule ∈ wz := wz_at 1397 (by decide +kernel) rfl
theorem i_Mo_offRule : Cond.instanceMethod y_Mo_offRule ∈ wz := wz_at 1398 (by decide +kernel) rfl
theorem q_Mo_Mo_offRule_Mo : Cond.selects "PinKindChecksModel" y_Mo_offRule y_Mo_offRule ∈ wz := wz_at 1399 (by decide +kernel) rfl
theorem l_La_136 : Cond.methodLink "PinKindChecksLaw" 136 y_Mo_clear ∈ wz := wz_at 1401 (by decide +kernel) rfl
theorem i_Mo_clear : Cond.instanceMethod y_Mo_clear ∈ wz := wz_at 1402 (by decide +kernel) rfl
theorem q_Mo_Mo_clear_Mo : Cond.selects "PinKindChecksModel" y_Mo_clear y_Mo_clear ∈ wz := wz_at 1403 (by decide +kernel) rfl
theorem v_La_88 : Cond.constantLong "PinKindChecksLaw" 88 (4294967295) ∈ wz := wz_at 1405 (by decide +kernel) rfl
theorem e_Ph_Ph_pinsOfKind : Cond.sameMethod "PinKindChecks$PinHolder" "PinKindChecks$PinHolder" "pinsOfKind" "(I)I" ∈ wz := wz_at 1406 (by decide +kernel) rfl
theorem q_Ne_Ph_pinsOfKind_Ph : Cond.selects "PinKindChecks$Net" y_Ph_pinsOfKind y_Ph_pinsOfKind ∈ wz := wz_at 1407 (by decide +kernel) rfl
theorem q_Pa_Ph_pinsOfKind_Ph : Cond.selects "PinKindChecks$Part" y_Ph_pinsOfKind y_Ph_pinsOfKind ∈ wz := wz_at 1408 (by decide +kernel) rfl
theorem h_Pa_Pa : Cond.castable "PinKindChecks$Part" "PinKindChecks$Part" ∈ wn := wn_at 1410 (by decide +kernel) rfl
theorem h_Ne_Ne : Cond.castable "PinKindChecks$Net" "PinKindChecks$Net" ∈ wn := wn_at 1411 (by decide +kernel) rfl
theorem h_Pi_Pi : Cond.castable "PinKindChecks$Pin" "PinKindChecks$Pin" ∈ wn := wn_at 1412 (by decide +kernel) rfl
theorem h_Ne_Th : Cond.castable "PinKindChecks$Net" "PinKindChecks$Thing" ∈ wn := wn_at 1413 (by decide +kernel) rfl
theorem h_Pa_Th : Cond.castable "PinKindChecks$Part" "PinKindChecks$Thing" ∈ wn := wn_at 1414 (by decide +kernel) rfl
theorem h_Pi_Th : Cond.castable "PinKindChecks$Pin" "PinKindChecks$Thing" ∈ wn := wn_at 1415 (by decide +kernel) rfl
theorem z_Th_keyWith : zDecl ⟨"PinKindChecks$Thing", "keyWith", "(I)I"⟩ := Or.inr ⟨i_Th_keyWith, _, _, _, k_Th_keyWith.1⟩
theorem z_Th_isBefore : zDecl ⟨"PinKindChecks$Thing", "isBefore", "(LPinKindChecks$Thing;)Z"⟩ := Or.inr ⟨i_Th_isBefore, _, _, _, k_Th_isBefore.1⟩
theorem p_K_checkThing : Cond.selects "PinKindChecks" y_K_checkThing y_K_checkThing ∈ wz := wz_priv (n := 12) (y := y_K_checkThing) 0 (by decide +kernel)
theorem p_K_ruleCount : Cond.selects "PinKindChecks" y_K_ruleCount y_K_ruleCount ∈ wz := wz_priv (n := 12) (y := y_K_ruleCount) 1 (by decide +kernel)
theorem p_K_weightOf : Cond.selects "PinKindChecks" y_K_weightOf y_K_weightOf ∈ wz := wz_priv (n := 12) (y := y_K_weightOf) 2 (by decide +kernel)
theorem p_Sc_verdictOf : Cond.selects "PinKindChecks$Schematic" y_Sc_verdictOf y_Sc_verdictOf ∈ wz := wz_priv (n := 9) (y := y_Sc_verdictOf) 3 (by decide +kernel)
theorem p_Tr_holdsFor : Cond.selects "PinKindChecks$ToldRule" y_Tr_holdsFor y_Tr_holdsFor ∈ wz := wz_priv (n := 4) (y := y_Tr_holdsFor) 4 (by decide +kernel)
theorem p_Rm_grow : Cond.selects "PinKindChecks$Remarks" y_Rm_grow y_Rm_grow ∈ wz := wz_priv (n := 4) (y := y_Rm_grow) 5 (by decide +kernel)
theorem p_K_compareWithBefore : Cond.selects "PinKindChecks" y_K_compareWithBefore y_K_compareWithBefore ∈ wz := wz_priv (n := 12) (y := y_K_compareWithBefore) 6 (by decide +kernel)
theorem p_K_countOpen : Cond.selects "PinKindChecks" y_K_countOpen y_K_countOpen ∈ wz := wz_priv (n := 12) (y := y_K_countOpen) 7 (by decide +kernel)
theorem p_Wv_indexOf : Cond.selects "PinKindChecks$Waivers" y_Wv_indexOf y_Wv_indexOf ∈ wz := wz_priv (n := 3) (y := y_Wv_indexOf) 8 (by decide +kernel)
theorem p_Sc_putInOrder : Cond.selects "PinKindChecks$Schematic" y_Sc_putInOrder y_Sc_putInOrder ∈ wz := wz_priv (n := 9) (y := y_Sc_putInOrder) 10 (by decide +kernel)
theorem p_K_isNetOrNone : Cond.selects "PinKindChecks" y_K_isNetOrNone y_K_isNetOrNone ∈ wz := wz_priv (n := 12) (y := y_K_isNetOrNone) 11 (by decide +kernel)
theorem p_Rd_start : Cond.selects "PinKindChecks$RuleReader" y_Rd_start y_Rd_start ∈ wz := wz_priv (n := 12) (y := y_Rd_start) 12 (by decide +kernel)
theorem p_Tx_isInside : Cond.selects "PinKindChecks$RuleText" y_Tx_isInside y_Tx_isInside ∈ wz := wz_priv (n := 4) (y := y_Tx_isInside) 13 (by decide +kernel)
theorem p_Rd_takeWord : Cond.selects "PinKindChecks$RuleReader" y_Rd_takeWord y_Rd_takeWord ∈ wz := wz_priv (n := 12) (y := y_Rd_takeWord) 14 (by decide +kernel)
theorem p_Rd_takeSubject : Cond.selects "PinKindChecks$RuleReader" y_Rd_takeSubject y_Rd_takeSubject ∈ wz := wz_priv (n := 12) (y := y_Rd_takeSubject) 15 (by decide +kernel)
theorem p_Rd_takeWeight : Cond.selects "PinKindChecks$RuleReader" y_Rd_takeWeight y_Rd_takeWeight ∈ wz := wz_priv (n := 12) (y := y_Rd_takeWeight) 16 (by decide +kernel)
theorem p_Rd_takeNot : Cond.selects "PinKindChecks$RuleReader" y_Rd_takeNot y_Rd_takeNot ∈ wz := wz_priv (n := 12) (y := y_Rd_takeNot) 17 (by decide +kernel)
theorem p_Rd_putOff : Cond.selects "PinKindChecks$RuleReader" y_Rd_putOff y_Rd_putOff ∈ wz := wz_priv (n := 12) (y := y_Rd_putOff) 18 (by decide +kernel)
theorem p_Rd_takeOpening : Cond.selects "PinKindChecks$RuleReader" y_Rd_takeOpening y_Rd_takeOpening ∈ wz := wz_priv (n := 12) (y := y_Rd_takeOpening) 19 (by decide +kernel)
theorem p_Rd_takeTerm : Cond.selects "PinKindChecks$RuleReader" y_Rd_takeTerm y_Rd_takeTerm ∈ wz := wz_priv (n := 12) (y := y_Rd_takeTerm) 20 (by decide +kernel)
theorem p_Rd_takeNumber : Cond.selects "PinKindChecks$RuleReader" y_Rd_takeNumber y_Rd_takeNumber ∈ wz := wz_priv (n := 12) (y := y_Rd_takeNumber) 21 (by decide +kernel)
theorem p_Rd_putTerm : Cond.selects "PinKindChecks$RuleReader" y_Rd_putTerm y_Rd_putTerm ∈ wz := wz_priv (n := 12) (y := y_Rd_putTerm) 22 (by decide +kernel)
theorem p_Rd_putOut : Cond.selects "PinKindChecks$RuleReader" y_Rd_putOut y_Rd_putOut ∈ wz := wz_priv (n := 12) (y := y_Rd_putOut) 23 (by decide +kernel)
theorem p_Rd_takeField : Cond.selects "PinKindChecks$RuleReader" y_Rd_takeField y_Rd_takeField ∈ wz := wz_priv (n := 12) (y := y_Rd_takeField) 24 (by decide +kernel)
theorem p_Rd_plainTerm : Cond.selects "PinKindChecks$RuleReader" y_Rd_plainTerm y_Rd_plainTerm ∈ wz := wz_priv (n := 12) (y := y_Rd_plainTerm) 25 (by decide +kernel)
theorem p_Rd_takeKind : Cond.selects "PinKindChecks$RuleReader" y_Rd_takeKind y_Rd_takeKind ∈ wz := wz_priv (n := 12) (y := y_Rd_takeKind) 26 (by decide +kernel)
theorem p_Rd_takeOperator : Cond.selects "PinKindChecks$RuleReader" y_Rd_takeOperator y_Rd_takeOperator ∈ wz := wz_priv (n := 12) (y := y_Rd_takeOperator) 27 (by decide +kernel)
theorem p_Rd_operatorOfWord : Cond.selects "PinKindChecks$RuleReader" y_Rd_operatorOfWord y_Rd_operatorOfWord ∈ wz := wz_priv (n := 12) (y := y_Rd_operatorOfWord) 28 (by decide +kernel)
theorem p_Rd_isBehindCondition : Cond.selects "PinKindChecks$RuleReader" y_Rd_isBehindCondition y_Rd_isBehindCondition ∈ wz := wz_priv (n := 12) (y := y_Rd_isBehindCondition) 29 (by decide +kernel)
theorem p_Rd_putOutDownTo : Cond.selects "PinKindChecks$RuleReader" y_Rd_putOutDownTo y_Rd_putOutDownTo ∈ wz := wz_priv (n := 12) (y := y_Rd_putOutDownTo) 30 (by decide +kernel)
theorem p_Rd_takeClosing : Cond.selects "PinKindChecks$RuleReader" y_Rd_takeClosing y_Rd_takeClosing ∈ wz := wz_priv (n := 12) (y := y_Rd_takeClosing) 31 (by decide +kernel)
theorem p_Rd_dropOpening : Cond.selects "PinKindChecks$RuleReader" y_Rd_dropOpening y_Rd_dropOpening ∈ wz := wz_priv (n := 12) (y := y_Rd_dropOpening) 32 (by decide +kernel)
theorem p_K_isRule : Cond.selects "PinKindChecks" y_K_isRule y_K_isRule ∈ wz := wz_priv (n := 12) (y := y_K_isRule) 33 (by decide +kernel)
theorem p_Wv_append : Cond.selects "PinKindChecks$Waivers" y_Wv_append y_Wv_append ∈ wz := wz_priv (n := 3) (y := y_Wv_append) 34 (by decide +kernel)
theorem p_Wv_remove : Cond.selects "PinKindChecks$Waivers" y_Wv_remove y_Wv_remove ∈ wz := wz_priv (n := 3) (y := y_Wv_remove) 35 (by decide +kernel)
theorem p_Mo_isPart : Cond.selects "PinKindChecksModel" y_Mo_isPart y_Mo_isPart ∈ wz := wz_priv (n := 42) (y := y_Mo_isPart) 36 (by decide +kernel)
theorem p_Mo_isNet : Cond.selects "PinKindChecksModel" y_Mo_isNet y_Mo_isNet ∈ wz := wz_priv (n := 42) (y := y_Mo_isNet) 37 (by decide +kernel)
theorem p_Mo_reads : Cond.selects "PinKindChecksModel" y_Mo_reads y_Mo_reads ∈ wz := wz_priv (n := 42) (y := y_Mo_reads) 38 (by decide +kernel)
theorem p_Mo_nextWord : Cond.selects "PinKindChecksModel" y_Mo_nextWord y_Mo_nextWord ∈ wz := wz_priv (n := 42) (y := y_Mo_nextWord) 39 (by decide +kernel)
theorem p_Mo_spelt : Cond.selects "PinKindChecksModel" y_Mo_spelt y_Mo_spelt ∈ wz := wz_priv (n := 42) (y := y_Mo_spelt) 40 (by decide +kernel)
theorem p_Mo_takes : Cond.selects "PinKindChecksModel" y_Mo_takes y_Mo_takes ∈ wz := wz_priv (n := 42) (y := y_Mo_takes) 41 (by decide +kernel)
theorem p_Mo_takesSign : Cond.selects "PinKindChecksModel" y_Mo_takesSign y_Mo_takesSign ∈ wz := wz_priv (n := 42) (y := y_Mo_takesSign) 42 (by decide +kernel)
theorem p_Mo_signAt : Cond.selects "PinKindChecksModel" y_Mo_signAt y_Mo_signAt ∈ wz := wz_priv (n := 42) (y := y_Mo_signAt) 43 (by decide +kernel)
theorem p_Mo_release : Cond.selects "PinKindChecksModel" y_Mo_release y_Mo_release ∈ wz := wz_priv (n := 42) (y := y_Mo_release) 44 (by decide +kernel)
theorem p_Mo_put : Cond.selects "PinKindChecksModel" y_Mo_put y_Mo_put ∈ wz := wz_priv (n := 42) (y := y_Mo_put) 45 (by decide +kernel)
theorem p_Mo_wait : Cond.selects "PinKindChecksModel" y_Mo_wait y_Mo_wait ∈ wz := wz_priv (n := 42) (y := y_Mo_wait) 46 (by decide +kernel)
theorem p_Mo_isTerm : Cond.selects "PinKindChecksModel" y_Mo_isTerm y_Mo_isTerm ∈ wz := wz_priv (n := 42) (y := y_Mo_isTerm) 47 (by decide +kernel)
theorem p_Mo_isNumber : Cond.selects "PinKindChecksModel" y_Mo_isNumber y_Mo_isNumber ∈ wz := wz_priv (n := 42) (y := y_Mo_isNumber) 48 (by decide +kernel)
theorem p_Mo_value : Cond.selects "PinKindChecksModel" y_Mo_value y_Mo_value ∈ wz := wz_priv (n := 42) (y := y_Mo_value) 49 (by decide +kernel)
theorem p_Mo_isDigitNext : Cond.selects "PinKindChecksModel" y_Mo_isDigitNext y_Mo_isDigitNext ∈ wz := wz_priv (n := 42) (y := y_Mo_isDigitNext) 50 (by decide +kernel)
theorem p_Mo_many : Cond.selects "PinKindChecksModel" y_Mo_many y_Mo_many ∈ wz := wz_priv (n := 42) (y := y_Mo_many) 51 (by decide +kernel)
theorem p_Mo_found : Cond.selects "PinKindChecksModel" y_Mo_found y_Mo_found ∈ wz := wz_priv (n := 42) (y := y_Mo_found) 52 (by decide +kernel)
theorem p_Mo_holds : Cond.selects "PinKindChecksModel" y_Mo_holds y_Mo_holds ∈ wz := wz_priv (n := 42) (y := y_Mo_holds) 53 (by decide +kernel)
theorem p_Mo_term : Cond.selects "PinKindChecksModel" y_Mo_term y_Mo_term ∈ wz := wz_priv (n := 42) (y := y_Mo_term) 54 (by decide +kernel)
theorem p_Mo_partOf : Cond.selects "PinKindChecksModel" y_Mo_partOf y_Mo_partOf ∈ wz := wz_priv (n := 42) (y := y_Mo_partOf) 55 (by decide +kernel)
theorem p_Mo_pinsOf : Cond.selects "PinKindChecksModel" y_Mo_pinsOf y_Mo_pinsOf ∈ wz := wz_priv (n := 42) (y := y_Mo_pinsOf) 56 (by decide +kernel)
theorem p_Mo_sheetOf : Cond.selects "PinKindChecksModel" y_Mo_sheetOf y_Mo_sheetOf ∈ wz := wz_priv (n := 42) (y := y_Mo_sheetOf) 57 (by decide +kernel)
theorem p_Mo_worst : Cond.selects "PinKindChecksModel" y_Mo_worst y_Mo_worst ∈ wz := wz_priv (n := 42) (y := y_Mo_worst) 58 (by decide +kernel)
theorem p_Mo_isNamedBefore : Cond.selects "PinKindChecksModel" y_Mo_isNamedBefore y_Mo_isNamedBefore ∈ wz := wz_priv (n := 42) (y := y_Mo_isNamedBefore) 59 (by decide +kernel)
theorem p_Mo_isOffGrid : Cond.selects "PinKindChecksModel" y_Mo_isOffGrid y_Mo_isOffGrid ∈ wz := wz_priv (n := 42) (y := y_Mo_isOffGrid) 60 (by decide +kernel)
theorem p_Mo_reason : Cond.selects "PinKindChecksModel" y_Mo_reason y_Mo_reason ∈ wz := wz_priv (n := 42) (y := y_Mo_reason) 61 (by decide +kernel)
theorem p_Mo_remarkAt : Cond.selects "PinKindChecksModel" y_Mo_remarkAt y_Mo_remarkAt ∈ wz := wz_priv (n := 42) (y := y_Mo_remarkAt) 62 (by decide +kernel)
theorem p_Mo_isRule : Cond.selects "PinKindChecksModel" y_Mo_isRule y_Mo_isRule ∈ wz := wz_priv (n := 42) (y := y_Mo_isRule) 63 (by decide +kernel)
theorem u_K : ∀ v ∈ u_ws "PinKindChecks" T_K 12, v ∈ wz := wz_all _ [191, 193, 195, 197, 199, 201, 203, 205, 207, 209, 211, 213] (by decide +kernel) (by decide +kernel)
theorem u_Sc : ∀ v ∈ u_ws "PinKindChecks$Schematic" T_Sc 9, v ∈ wz := wz_all _ [58, 60, 62, 64, 66, 68, 70, 72, 74] (by decide +kernel) (by decide +kernel)
theorem u_Tx : ∀ v ∈ u_ws "PinKindChecks$RuleText" T_Tx 4, v ∈ wz := wz_all _ [88, 90, 92, 94] (by decide +kernel) (by decide +kernel)
theorem u_Rd : ∀ v ∈ u_ws "PinKindChecks$RuleReader" T_Rd 12, v ∈ wz := wz_all _ [116, 118, 120, 122, 124, 126, 128, 130, 132, 134, 136, 138] (by decide +kernel) (by decide +kernel)
theorem u_Wv : ∀ v ∈ u_ws "PinKindChecks$Waivers" T_Wv 3, v ∈ wz := wz_all _ [152, 154, 156] (by decide +kernel) (by decide +kernel)
theorem u_Rm : ∀ v ∈ u_ws "PinKindChecks$Remarks" T_Rm 4, v ∈ wz := wz_all _ [170, 172, 174, 176] (by decide +kernel) (by decide +kernel)
theorem u_Pa : ∀ v ∈ u_ws "PinKindChecks$Part" T_Pa 5, v ∈ wz := wz_all _ [611, 613, 607, 609, 605] (by decide +kernel) (by decide +kernel)
theorem u_Ne : ∀ v ∈ u_ws "PinKindChecks$Net" T_Ne 6, v ∈ wz := wz_all _ [655, 656, 653, 654, 649, 651] (by decide +kernel) (by decide +kernel)
theorem u_Pi : ∀ v ∈ u_ws "PinKindChecks$Pin" T_Pi 5, v ∈ wz := wz_all _ [697, 698, 691, 693, 695] (by decide +kernel) (by decide +kernel)
theorem u_Tr : ∀ v ∈ u_ws "PinKindChecks$ToldRule" T_Tr 4, v ∈ wz := wz_all _ [982, 984, 986, 988] (by decide +kernel) (by decide +kernel)
theorem u_Mo : ∀ v ∈ u_ws "PinKindChecksModel" T_Mo 42, v ∈ wz := wz_all _ [1101, 1103, 1105, 1107, 1109, 1111, 1113, 1115, 1117, 1119, 1121, 1123, 1125, 1127, 1129, 1131, 1133, 1135, 1137, 1139, 1141, 1143, 1145, 1147, 1149, 1151, 1153, 1155, 1157, 1159, 1161, 1163, 1165, 1167, 1169, 1171, 1173, 1175, 1177, 1179, 1181, 1183] (by decide +kernel) (by decide +kernel)
theorem x_Sc_9 : Cond.fieldLink "PinKindChecks$Schematic" 9 "PinKindChecks$Schematic" "verdicts" "[I" ∈ wz := wz_at 49 (by decide +kernel) rfl
theorem f_Sc_9_Sc : zF "PinKindChecks$Schematic" 9 1 0 := ⟨_, T_Sc, 9, rfl, by decide, u_Sc, x_Sc_9⟩
theorem w_Sc_9_Sc : zFp "PinKindChecks$Schematic" 9 1 0 (.array .int) true := ⟨_, T_Sc, 9, t_Sc, rfl, by decide, u_Sc, x_Sc_9, tk_Sc, nm_Sc, rfl, by decide +kernel, fun _ => rfl⟩
theorem x_Sc_17 : Cond.fieldLink "PinKindChecks$Schematic" 17 "PinKindChecks$Schematic" "parts" "[LPinKindChecks$Part;" ∈ wz := wz_at 50 (by decide +kernel) rfl
theorem f_Sc_17_Sc : zF "PinKindChecks$Schematic" 17 1 1 := ⟨_, T_Sc, 9, rfl, by decide, u_Sc, x_Sc_17⟩
theorem w_Sc_17_Sc : zFp "PinKindChecks$Schematic" 17 1 1 (.array (.object "PinKindChecks$Part")) true := ⟨_, T_Sc, 9, t_Sc, rfl, by decide, u_Sc, x_Sc_17, tk_Sc, nm_Sc, rfl, by decide +kernel, fun _ => rfl⟩
theorem x_Sc_23 : Cond.fieldLink "PinKindChecks$Schematic" 23 "PinKindChecks$Schematic" "nets" "[LPinKindChecks$Net;" ∈ wz := wz_at 51 (by decide +kernel) rfl
theorem f_Sc_23_Sc : zF "PinKindChecks$Schematic" 23 1 2 := ⟨_, T_Sc, 9, rfl, by decide, u_Sc, x_Sc_23⟩
theorem w_Sc_23_Sc : zFp "PinKindChecks$Schematic" 23 1 2 (.array (.object "PinKindChecks$Net")) true := ⟨_, T_Sc, 9, t_Sc, rfl, by decide, u_Sc, x_Sc_23, tk_Sc, nm_Sc, rfl, by decide +kernel, fun _ => rfl⟩
theorem x_Sc_29 : Cond.fieldLink "PinKindChecks$Schematic" 29 "PinKindChecks$Schematic" "pins" "[LPinKindChecks$Pin;" ∈ wz := wz_at 52 (by decide +kernel) rfl
theorem f_Sc_29_Sc : zF "PinKindChecks$Schematic" 29 1 3 := ⟨_, T_Sc, 9, rfl, by decide, u_Sc, x_Sc_29⟩
theorem w_Sc_29_Sc : zFp "PinKindChecks$Schematic" 29 1 3 (.array (.object "PinKindChecks$Pin")) true := ⟨_, T_Sc, 9, t_Sc, rfl, by decide, u_Sc, x_Sc_29, tk_Sc, nm_Sc, rfl, by decide +kernel, fun _ => rfl⟩
theorem x_Sc_35 : Cond.fieldLink "PinKindChecks$Schematic" 35 "PinKindChecks$Schematic" "inOrder" "[LPinKindChecks$Thing;" ∈ wz := wz_at 53 (by decide +kernel) rfl
theorem f_Sc_35_Sc : zF "PinKindChecks$Schematic" 35 1 4 := ⟨_, T_Sc, 9, rfl, by decide, u_Sc, x_Sc_35⟩
theorem w_Sc_35_Sc : zFp "PinKindChecks$Schematic" 35 1 4 (.array (.object "PinKindChecks$Thing")) true := ⟨_, T_Sc, 9, t_Sc, rfl, by decide, u_Sc, x_Sc_35, tk_Sc, nm_Sc, rfl, by decide +kernel, fun _ => rfl⟩
theorem x_Sc_39 : Cond.fieldLink "PinKindChecks$Schematic" 39 "PinKindChecks$Schematic" "partCount" "I" ∈ wz := wz_at 54 (by decide +kernel) rfl
theorem f_Sc_39_Sc : zF "PinKindChecks$Schematic" 39 1 5 := ⟨_, T_Sc, 9, rfl, by decide, u_Sc, x_Sc_39⟩
theorem w_Sc_39_Sc : zFp "PinKindChecks$Schematic" 39 1 5 (.int) false := ⟨_, T_Sc, 9, t_Sc, rfl, by decide, u_Sc, x_Sc_39, tk_Sc, nm_Sc, rfl, by decide +kernel, fun h => by cases h⟩
theorem x_Sc_43 : Cond.fieldLink "PinKindChecks$Schematic" 43 "PinKindChecks$Schematic" "netCount" "I" ∈ wz := wz_at 55 (by decide +kernel) rfl
theorem f_Sc_43_Sc : zF "PinKindChecks$Schematic" 43 1 6 := ⟨_, T_Sc, 9, rfl, by decide, u_Sc, x_Sc_43⟩
theorem w_Sc_43_Sc : zFp "PinKindChecks$Schematic" 43 1 6 (.int) false := ⟨_, T_Sc, 9, t_Sc, rfl, by decide, u_Sc, x_Sc_43, tk_Sc, nm_Sc, rfl, by decide +kernel, fun h => by cases h⟩
theorem x_Sc_46 : Cond.fieldLink "PinKindChecks$Schematic" 46 "PinKindChecks$Schematic" "pinCount" "I" ∈ wz := wz_at 56 (by decide +kernel) rfl
theorem f_Sc_46_Sc : zF "PinKindChecks$Schematic" 46 1 7 := ⟨_, T_Sc, 9, rfl, by decide, u_Sc, x_Sc_46⟩
theorem w_Sc_46_Sc : zFp "PinKindChecks$Schematic" 46 1 7 (.int) false := ⟨_, T_Sc, 9, t_Sc, rfl, by decide, u_Sc, x_Sc_46, tk_Sc, nm_Sc, rfl, by decide +kernel, fun h => by cases h⟩
theorem x_Sc_49 : Cond.fieldLink "PinKindChecks$Schematic" 49 "PinKindChecks$Schematic" "endCount" "I" ∈ wz := wz_at 57 (by decide +kernel) rfl
theorem f_Sc_49_Sc : zF "PinKindChecks$Schematic" 49 1 8 := ⟨_, T_Sc, 9, rfl, by decide, u_Sc, x_Sc_49⟩
theorem w_Sc_49_Sc : zFp "PinKindChecks$Schematic" 49 1 8 (.int) false := ⟨_, T_Sc, 9, t_Sc, rfl, by decide, u_Sc, x_Sc_49, tk_Sc, nm_Sc, rfl, by decide +kernel, fun h => by cases h⟩
theorem x_Tx_9 : Cond.fieldLink "PinKindChecks$RuleText" 9 "PinKindChecks$RuleText" "letters" "[C" ∈ wz := wz_at 84 (by decide +kernel) rfl
theorem f_Tx_9_Tx : zF "PinKindChecks$RuleText" 9 2 0 := ⟨_, T_Tx, 4, rfl, by decide, u_Tx, x_Tx_9⟩
theorem w_Tx_9_Tx : zFp "PinKindChecks$RuleText" 9 2 0 (.array .char) true := ⟨_, T_Tx, 4, t_Tx, rfl, by decide, u_Tx, x_Tx_9, tk_Tx, nm_Tx, rfl, by decide +kernel, fun _ => rfl⟩
theorem x_Tx_15 : Cond.fieldLink "PinKindChecks$RuleText" 15 "PinKindChecks$RuleText" "length" "I" ∈ wz := wz_at 85 (by decide +kernel) rfl
theorem f_Tx_15_Tx : zF "PinKindChecks$RuleText" 15 2 1 := ⟨_, T_Tx, 4, rfl, by decide, u_Tx, x_Tx_15⟩
theorem w_Tx_15_Tx : zFp "PinKindChecks$RuleText" 15 2 1 (.int) false := ⟨_, T_Tx, 4, t_Tx, rfl, by decide, u_Tx, x_Tx_15, tk_Tx, nm_Tx, rfl, by decide +kernel, fun h => by cases h⟩
theorem x_Tx_19 : Cond.fieldLink "PinKindChecks$RuleText" 19 "PinKindChecks$RuleText" "wordStart" "I" ∈ wz := wz_at 86 (by decide +kernel) rfl
theorem f_Tx_19_Tx : zF "PinKindChecks$RuleText" 19 2 2 := ⟨_, T_Tx, 4, rfl, by decide, u_Tx, x_Tx_19⟩
theorem w_Tx_19_Tx : zFp "PinKindChecks$RuleText" 19 2 2 (.int) false := ⟨_, T_Tx, 4, t_Tx, rfl, by decide, u_Tx, x_Tx_19, tk_Tx, nm_Tx, rfl, by decide +kernel, fun h => by cases h⟩
theorem x_Tx_22 : Cond.fieldLink "PinKindChecks$RuleText" 22 "PinKindChecks$RuleText" "wordEnd" "I" ∈ wz := wz_at 87 (by decide +kernel) rfl
theorem f_Tx_22_Tx : zF "PinKindChecks$RuleText" 22 2 3 := ⟨_, T_Tx, 4, rfl, by decide, u_Tx, x_Tx_22⟩
theorem w_Tx_22_Tx : zFp "PinKindChecks$RuleText" 22 2 3 (.int) false := ⟨_, T_Tx, 4, t_Tx, rfl, by decide, u_Tx, x_Tx_22, tk_Tx, nm_Tx, rfl, by decide +kernel, fun h => by cases h⟩
theorem x_Rd_9 : Cond.fieldLink "PinKindChecks$RuleReader" 9 "PinKindChecks$RuleReader" "codes" "[I" ∈ wz := wz_at 104 (by decide +kernel) rfl
theorem f_Rd_9_Rd : zF "PinKindChecks$RuleReader" 9 3 0 := ⟨_, T_Rd, 12, rfl, by decide, u_Rd, x_Rd_9⟩
theorem w_Rd_9_Rd : zFp "PinKindChecks$RuleReader" 9 3 0 (.array .int) true := ⟨_, T_Rd, 12, t_Rd, rfl, by decide, u_Rd, x_Rd_9, tk_Rd, nm_Rd, rfl, by decide +kernel, fun _ => rfl⟩
theorem x_Rd_15 : Cond.fieldLink "PinKindChecks$RuleReader" 15 "PinKindChecks$RuleReader" "indexes" "[I" ∈ wz := wz_at 105 (by decide +kernel) rfl
theorem f_Rd_15_Rd : zF "PinKindChecks$RuleReader" 15 3 1 := ⟨_, T_Rd, 12, rfl, by decide, u_Rd, x_Rd_15⟩
theorem w_Rd_15_Rd : zFp "PinKindChecks$RuleReader" 15 3 1 (.array .int) true := ⟨_, T_Rd, 12, t_Rd, rfl, by decide, u_Rd, x_Rd_15, tk_Rd, nm_Rd, rfl, by decide +kernel, fun _ => rfl⟩
theorem x_Rd_18 : Cond.fieldLink "PinKindChecks$RuleReader" 18 "PinKindChecks$RuleReader" "pending" "[I" ∈ wz := wz_at 106 (by decide +kernel) rfl
theorem f_Rd_18_Rd : zF "PinKindChecks$RuleReader" 18 3 2 := ⟨_, T_Rd, 12, rfl, by decide, u_Rd, x_Rd_18⟩
theorem w_Rd_18_Rd : zFp "PinKindChecks$RuleReader" 18 3 2 (.array .int) true := ⟨_, T_Rd, 12, t_Rd, rfl, by decide, u_Rd, x_Rd_18, tk_Rd, nm_Rd, rfl, by decide +kernel, fun _ => rfl⟩
theorem x_Rd_47 : Cond.fieldLink "PinKindChecks$RuleReader" 47 "PinKindChecks$RuleReader" "text" "LPinKindChecks$RuleText;" ∈ wz := wz_at 107 (by decide +kernel) rfl
theorem f_Rd_47_Rd : zF "PinKindChecks$RuleReader" 47 3 3 := ⟨_, T_Rd, 12, rfl, by decide, u_Rd, x_Rd_47⟩
theorem w_Rd_47_Rd : zFp "PinKindChecks$RuleReader" 47 3 3 (.object "PinKindChecks$RuleText") true := ⟨_, T_Rd, 12, t_Rd, rfl, by decide, u_Rd, x_Rd_47, tk_Rd, nm_Rd, rfl, by decide +kernel, fun _ => rfl⟩
theorem x_Rd_21 : Cond.fieldLink "PinKindChecks$RuleReader" 21 "PinKindChecks$RuleReader" "codeCount" "I" ∈ wz := wz_at 108 (by decide +kernel) rfl
theorem f_Rd_21_Rd : zF "PinKindChecks$RuleReader" 21 3 4 := ⟨_, T_Rd, 12, rfl, by decide, u_Rd, x_Rd_21⟩
theorem w_Rd_21_Rd : zFp "PinKindChecks$RuleReader" 21 3 4 (.int) false := ⟨_, T_Rd, 12, t_Rd, rfl, by decide, u_Rd, x_Rd_21, tk_Rd, nm_Rd, rfl, by decide +kernel, fun h => by cases h⟩
theorem x_Rd_25 : Cond.fieldLink "PinKindChecks$RuleReader" 25 "PinKindChecks$RuleReader" "pendingCount" "I" ∈ wz := wz_at 109 (by decide +kernel) rfl
theorem f_Rd_25_Rd : zF "PinKindChecks$RuleReader" 25 3 5 := ⟨_, T_Rd, 12, rfl, by decide, u_Rd, x_Rd_25⟩
theorem w_Rd_25_Rd : zFp "PinKindChecks$RuleReader" 25 3 5 (.int) false := ⟨_, T_Rd, 12, t_Rd, rfl, by decide, u_Rd, x_Rd_25, tk_Rd, nm_Rd, rfl, by decide +kernel, fun h => by cases h⟩
theorem x_Rd_28 : Cond.fieldLink "PinKindChecks$RuleReader" 28 "PinKindChecks$RuleReader" "wordsRead" "I" ∈ wz := wz_at 110 (by decide +kernel) rfl
theorem f_Rd_28_Rd : zF "PinKindChecks$RuleReader" 28 3 6 := ⟨_, T_Rd, 12, rfl, by decide, u_Rd, x_Rd_28⟩
theorem w_Rd_28_Rd : zFp "PinKindChecks$RuleReader" 28 3 6 (.int) false := ⟨_, T_Rd, 12, t_Rd, rfl, by decide, u_Rd, x_Rd_28, tk_Rd, nm_Rd, rfl, by decide +kernel, fun h => by cases h⟩
theorem x_Rd_31 : Cond.fieldLink "PinKindChecks$RuleReader" 31 "PinKindChecks$RuleReader" "state" "I" ∈ wz := wz_at 111 (by decide +kernel) rfl
theorem f_Rd_31_Rd : zF "PinKindChecks$RuleReader" 31 3 7 := ⟨_, T_Rd, 12, rfl, by decide, u_Rd, x_Rd_31⟩
theorem w_Rd_31_Rd : zFp "PinKindChecks$RuleReader" 31 3 7 (.int) false := ⟨_, T_Rd, 12, t_Rd, rfl, by decide, u_Rd, x_Rd_31, tk_Rd, nm_Rd, rfl, by decide +kernel, fun h => by cases h⟩
theorem x_Rd_34 : Cond.fieldLink "PinKindChecks$RuleReader" 34 "PinKindChecks$RuleReader" "open" "I" ∈ wz := wz_at 112 (by decide +kernel) rfl
theorem f_Rd_34_Rd : zF "PinKindChecks$RuleReader" 34 3 8 := ⟨_, T_Rd, 12, rfl, by decide, u_Rd, x_Rd_34⟩
theorem w_Rd_34_Rd : zFp "PinKindChecks$RuleReader" 34 3 8 (.int) false := ⟨_, T_Rd, 12, t_Rd, rfl, by decide, u_Rd, x_Rd_34, tk_Rd, nm_Rd, rfl, by decide +kernel, fun h => by cases h⟩
theorem x_Rd_37 : Cond.fieldLink "PinKindChecks$RuleReader" 37 "PinKindChecks$RuleReader" "isBehindSign" "Z" ∈ wz := wz_at 113 (by decide +kernel) rfl
theorem f_Rd_37_Rd : zF "PinKindChecks$RuleReader" 37 3 9 := ⟨_, T_Rd, 12, rfl, by decide, u_Rd, x_Rd_37⟩
theorem w_Rd_37_Rd : zFp "PinKindChecks$RuleReader" 37 3 9 (.boolean) false := ⟨_, T_Rd, 12, t_Rd, rfl, by decide, u_Rd, x_Rd_37, tk_Rd, nm_Rd, rfl, by decide +kernel, fun h => by cases h⟩
theorem x_Rd_41 : Cond.fieldLink "PinKindChecks$RuleReader" 41 "PinKindChecks$RuleReader" "subject" "I" ∈ wz := wz_at 114 (by decide +kernel) rfl
theorem f_Rd_41_Rd : zF "PinKindChecks$RuleReader" 41 3 10 := ⟨_, T_Rd, 12, rfl, by decide, u_Rd, x_Rd_41⟩
theorem w_Rd_41_Rd : zFp "PinKindChecks$RuleReader" 41 3 10 (.int) false := ⟨_, T_Rd, 12, t_Rd, rfl, by decide, u_Rd, x_Rd_41, tk_Rd, nm_Rd, rfl, by decide +kernel, fun h => by cases h⟩
theorem x_Rd_44 : Cond.fieldLink "PinKindChecks$RuleReader" 44 "PinKindChecks$RuleReader" "weight" "I" ∈ wz := wz_at 115 (by decide +kernel) rfl
theorem f_Rd_44_Rd : zF "PinKindChecks$RuleReader" 44 3 11 := ⟨_, T_Rd, 12, rfl, by decide, u_Rd, x_Rd_44⟩
theorem w_Rd_44_Rd : zFp "PinKindChecks$RuleReader" 44 3 11 (.int) false := ⟨_, T_Rd, 12, t_Rd, rfl, by decide, u_Rd, x_Rd_44, tk_Rd, nm_Rd, rfl, by decide +kernel, fun h => by cases h⟩
theorem x_Wv_9 : Cond.fieldLink "PinKindChecks$Waivers" 9 "PinKindChecks$Waivers" "keys" "[I" ∈ wz := wz_at 149 (by decide +kernel) rfl
theorem f_Wv_9_Wv : zF "PinKindChecks$Waivers" 9 4 0 := ⟨_, T_Wv, 3, rfl, by decide, u_Wv, x_Wv_9⟩
theorem w_Wv_9_Wv : zFp "PinKindChecks$Waivers" 9 4 0 (.array .int) true := ⟨_, T_Wv, 3, t_Wv, rfl, by decide, u_Wv, x_Wv_9, tk_Wv, nm_Wv, rfl, by decide +kernel, fun _ => rfl⟩
theorem x_Wv_15 : Cond.fieldLink "PinKindChecks$Waivers" 15 "PinKindChecks$Waivers" "reasons" "[I" ∈ wz := wz_at 150 (by decide +kernel) rfl
theorem f_Wv_15_Wv : zF "PinKindChecks$Waivers" 15 4 1 := ⟨_, T_Wv, 3, rfl, by decide, u_Wv, x_Wv_15⟩
theorem w_Wv_15_Wv : zFp "PinKindChecks$Waivers" 15 4 1 (.array .int) true := ⟨_, T_Wv, 3, t_Wv, rfl, by decide, u_Wv, x_Wv_15, tk_Wv, nm_Wv, rfl, by decide +kernel, fun _ => rfl⟩
theorem x_Wv_18 : Cond.fieldLink "PinKindChecks$Waivers" 18 "PinKindChecks$Waivers" "count" "I" ∈ wz := wz_at 151 (by decide +kernel) rfl
theorem f_Wv_18_Wv : zF "PinKindChecks$Waivers" 18 4 2 := ⟨_, T_Wv, 3, rfl, by decide, u_Wv, x_Wv_18⟩
theorem w_Wv_18_Wv : zFp "PinKindChecks$Waivers" 18 4 2 (.int) false := ⟨_, T_Wv, 3, t_Wv, rfl, by decide, u_Wv, x_Wv_18, tk_Wv, nm_Wv, rfl, by decide +kernel, fun h => by cases h⟩
theorem x_Rm_11 : Cond.fieldLink "PinKindChecks$Remarks" 11 "PinKindChecks$Remarks" "keys" "[I" ∈ wz := wz_at 166 (by decide +kernel) rfl
theorem f_Rm_11_Rm : zF "PinKindChecks$Remarks" 11 5 0 := ⟨_, T_Rm, 4, rfl, by decide, u_Rm, x_Rm_11⟩
theorem w_Rm_11_Rm : zFp "PinKindChecks$Remarks" 11 5 0 (.array .int) false := ⟨_, T_Rm, 4, t_Rm, rfl, by decide, u_Rm, x_Rm_11, tk_Rm, nm_Rm, rfl, by decide +kernel, fun h => by cases h⟩
theorem x_Rm_15 : Cond.fieldLink "PinKindChecks$Remarks" 15 "PinKindChecks$Remarks" "weights" "[I" ∈ wz := wz_at 167 (by decide +kernel) rfl
theorem f_Rm_15_Rm : zF "PinKindChecks$Remarks" 15 5 1 := ⟨_, T_Rm, 4, rfl, by decide, u_Rm, x_Rm_15⟩
theorem w_Rm_15_Rm : zFp "PinKindChecks$Remarks" 15 5 1 (.array .int) false := ⟨_, T_Rm, 4, t_Rm, rfl, by decide, u_Rm, x_Rm_15, tk_Rm, nm_Rm, rfl, by decide +kernel, fun h => by cases h⟩
theorem x_Rm_18 : Cond.fieldLink "PinKindChecks$Remarks" 18 "PinKindChecks$Remarks" "firsts" "[I" ∈ wz := wz_at 168 (by decide +kernel) rfl
theorem f_Rm_18_Rm : zF "PinKindChecks$Remarks" 18 5 2 := ⟨_, T_Rm, 4, rfl, by decide, u_Rm, x_Rm_18⟩
theorem w_Rm_18_Rm : zFp "PinKindChecks$Remarks" 18 5 2 (.array .int) false := ⟨_, T_Rm, 4, t_Rm, rfl, by decide, u_Rm, x_Rm_18, tk_Rm, nm_Rm, rfl, by decide +kernel, fun h => by cases h⟩
theorem x_Rm_21 : Cond.fieldLink "PinKindChecks$Remarks" 21 "PinKindChecks$Remarks" "count" "I" ∈ wz := wz_at 169 (by decide +kernel) rfl
theorem f_Rm_21_Rm : zF "PinKindChecks$Remarks" 21 5 3 := ⟨_, T_Rm, 4, rfl, by decide, u_Rm, x_Rm_21⟩
theorem w_Rm_21_Rm : zFp "PinKindChecks$Remarks" 21 5 3 (.int) false := ⟨_, T_Rm, 4, t_Rm, rfl, by decide, u_Rm, x_Rm_21, tk_Rm, nm_Rm, rfl, by decide +kernel, fun h => by cases h⟩
theorem x_K_12 : Cond.fieldLink "PinKindChecks" 12 "PinKindChecks" "schematic" "LPinKindChecks$Schematic;" ∈ wz := wz_at 179 (by decide +kernel) rfl
theorem f_K_12_K : zF "PinKindChecks" 12 0 0 := ⟨_, T_K, 12, rfl, by decide, u_K, x_K_12⟩
theorem w_K_12_K : zFp "PinKindChecks" 12 0 0 (.object "PinKindChecks$Schematic") true := ⟨_, T_K, 12, t_K, rfl, by decide, u_K, x_K_12, tk_K, nm_K, rfl, by decide +kernel, fun _ => rfl⟩
theorem x_K_19 : Cond.fieldLink "PinKindChecks" 19 "PinKindChecks" "text" "LPinKindChecks$RuleText;" ∈ wz := wz_at 180 (by decide +kernel) rfl
theorem f_K_19_K : zF "PinKindChecks" 19 0 1 := ⟨_, T_K, 12, rfl, by decide, u_K, x_K_19⟩
theorem w_K_19_K : zFp "PinKindChecks" 19 0 1 (.object "PinKindChecks$RuleText") true := ⟨_, T_K, 12, t_K, rfl, by decide, u_K, x_K_19, tk_K, nm_K, rfl, by decide +kernel, fun _ => rfl⟩
theorem x_K_28 : Cond.fieldLink "PinKindChecks" 28 "PinKindChecks" "reader" "LPinKindChecks$RuleReader;" ∈ wz := wz_at 181 (by decide +kernel) rfl
theorem f_K_28_K : zF "PinKindChecks" 28 0 2 := ⟨_, T_K, 12, rfl, by decide, u_K, x_K_28⟩
theorem w_K_28_K : zFp "PinKindChecks" 28 0 2 (.object "PinKindChecks$RuleReader") true := ⟨_, T_K, 12, t_K, rfl, by decide, u_K, x_K_28, tk_K, nm_K, rfl, by decide +kernel, fun _ => rfl⟩
theorem x_K_34 : Cond.fieldLink "PinKindChecks" 34 "PinKindChecks" "told" "[LPinKindChecks$ToldRule;" ∈ wz := wz_at 182 (by decide +kernel) rfl
theorem f_K_34_K : zF "PinKindChecks" 34 0 3 := ⟨_, T_K, 12, rfl, by decide, u_K, x_K_34⟩
theorem w_K_34_K : zFp "PinKindChecks" 34 0 3 (.array (.object "PinKindChecks$ToldRule")) true := ⟨_, T_K, 12, t_K, rfl, by decide, u_K, x_K_34, tk_K, nm_K, rfl, by decide +kernel, fun _ => rfl⟩
theorem x_K_38 : Cond.fieldLink "PinKindChecks" 38 "PinKindChecks" "isOff" "[Z" ∈ wz := wz_at 183 (by decide +kernel) rfl
theorem f_K_38_K : zF "PinKindChecks" 38 0 4 := ⟨_, T_K, 12, rfl, by decide, u_K, x_K_38⟩
theorem w_K_38_K : zFp "PinKindChecks" 38 0 4 (.array .boolean) true := ⟨_, T_K, 12, t_K, rfl, by decide, u_K, x_K_38, tk_K, nm_K, rfl, by decide +kernel, fun _ => rfl⟩
theorem x_K_45 : Cond.fieldLink "PinKindChecks" 45 "PinKindChecks" "waivers" "LPinKindChecks$Waivers;" ∈ wz := wz_at 184 (by decide +kernel) rfl
theorem f_K_45_K : zF "PinKindChecks" 45 0 5 := ⟨_, T_K, 12, rfl, by decide, u_K, x_K_45⟩
theorem w_K_45_K : zFp "PinKindChecks" 45 0 5 (.object "PinKindChecks$Waivers") true := ⟨_, T_K, 12, t_K, rfl, by decide, u_K, x_K_45, tk_K, nm_K, rfl, by decide +kernel, fun _ => rfl⟩
theorem x_K_52 : Cond.fieldLink "PinKindChecks" 52 "PinKindChecks" "closedRemarks" "LPinKindChecks$Remarks;" ∈ wz := wz_at 185 (by decide +kernel) rfl
theorem f_K_52_K : zF "PinKindChecks" 52 0 6 := ⟨_, T_K, 12, rfl, by decide, u_K, x_K_52⟩
theorem w_K_52_K : zFp "PinKindChecks" 52 0 6 (.object "PinKindChecks$Remarks") true := ⟨_, T_K, 12, t_K, rfl, by decide, u_K, x_K_52, tk_K, nm_K, rfl, by decide +kernel, fun _ => rfl⟩
theorem x_K_56 : Cond.fieldLink "PinKindChecks" 56 "PinKindChecks" "stack" "[J" ∈ wz := wz_at 186 (by decide +kernel) rfl
theorem f_K_56_K : zF "PinKindChecks" 56 0 7 := ⟨_, T_K, 12, rfl, by decide, u_K, x_K_56⟩
theorem w_K_56_K : zFp "PinKindChecks" 56 0 7 (.array .long) true := ⟨_, T_K, 12, t_K, rfl, by decide, u_K, x_K_56, tk_K, nm_K, rfl, by decide +kernel, fun _ => rfl⟩
theorem x_K_60 : Cond.fieldLink "PinKindChecks" 60 "PinKindChecks" "latest" "LPinKindChecks$Remarks;" ∈ wz := wz_at 187 (by decide +kernel) rfl
theorem f_K_60_K : zF "PinKindChecks" 60 0 8 := ⟨_, T_K, 12, rfl, by decide, u_K, x_K_60⟩
theorem w_K_60_K : zFp "PinKindChecks" 60 0 8 (.object "PinKindChecks$Remarks") false := ⟨_, T_K, 12, t_K, rfl, by decide, u_K, x_K_60, tk_K, nm_K, rfl, by decide +kernel, fun h => by cases h⟩
theorem x_K_63 : Cond.fieldLink "PinKindChecks" 63 "PinKindChecks" "before" "LPinKindChecks$Remarks;" ∈ wz := wz_at 188 (by decide +kernel) rfl
theorem f_K_63_K : zF "PinKindChecks" 63 0 9 := ⟨_, T_K, 12, rfl, by decide, u_K, x_K_63⟩
theorem w_K_63_K : zFp "PinKindChecks" 63 0 9 (.object "PinKindChecks$Remarks") false := ⟨_, T_K, 12, t_K, rfl, by decide, u_K, x_K_63, tk_K, nm_K, rfl, by decide +kernel, fun h => by cases h⟩
theorem x_K_66 : Cond.fieldLink "PinKindChecks" 66 "PinKindChecks" "toldCount" "I" ∈ wz := wz_at 189 (by decide +kernel) rfl
theorem f_K_66_K : zF "PinKindChecks" 66 0 10 := ⟨_, T_K, 12, rfl, by decide, u_K, x_K_66⟩
theorem w_K_66_K : zFp "PinKindChecks" 66 0 10 (.int) false := ⟨_, T_K, 12, t_K, rfl, by decide, u_K, x_K_66, tk_K, nm_K, rfl, by decide +kernel, fun h => by cases h⟩
theorem x_K_70 : Cond.fieldLink "PinKindChecks" 70 "PinKindChecks" "version" "I" ∈ wz := wz_at 190 (by decide +kernel) rfl
theorem f_K_70_K : zF "PinKindChecks" 70 0 11 := ⟨_, T_K, 12, rfl, by decide, u_K, x_K_70⟩
theorem w_K_70_K : zFp "PinKindChecks" 70 0 11 (.int) false := ⟨_, T_K, 12, t_K, rfl, by decide, u_K, x_K_70, tk_K, nm_K, rfl, by decide +kernel, fun h => by cases h⟩
theorem x_Pa_9 : Cond.fieldLink "PinKindChecks$Part" 9 "PinKindChecks$Part" "fields" "[J" ∈ wz := wz_at 600 (by decide +kernel) rfl
theorem f_Pa_9_Pa : zF "PinKindChecks$Part" 9 6 4 := ⟨_, T_Pa, 5, rfl, by decide, u_Pa, x_Pa_9⟩
theorem w_Pa_9_Pa : zFp "PinKindChecks$Part" 9 6 4 (.array .long) true := ⟨_, T_Pa, 5, t_Pa, rfl, by decide, u_Pa, x_Pa_9, tk_Pa, nm_Pa, rfl, by decide +kernel, fun _ => rfl⟩
theorem x_Ph_9 : Cond.fieldLink "PinKindChecks$PinHolder" 9 "PinKindChecks$PinHolder" "pinsOfKind" "[I" ∈ wz := wz_at 601 (by decide +kernel) rfl
theorem f_Ph_9_Pa : zF "PinKindChecks$PinHolder" 9 6 2 := ⟨_, T_Pa, 5, rfl, by decide, u_Pa, x_Ph_9⟩
theorem w_Ph_9_Pa : zFp "PinKindChecks$PinHolder" 9 6 2 (.array .int) true := ⟨_, T_Pa, 5, t_Pa, rfl, by decide, u_Pa, x_Ph_9, tk_Pa, nm_Pa, rfl, by decide +kernel, fun _ => rfl⟩
theorem f_Ph_9_Ne : zF "PinKindChecks$PinHolder" 9 7 2 := ⟨_, T_Ne, 6, rfl, by decide, u_Ne, x_Ph_9⟩
theorem w_Ph_9_Ne : zFp "PinKindChecks$PinHolder" 9 7 2 (.array .int) true := ⟨_, T_Ne, 6, t_Ne, rfl, by decide, u_Ne, x_Ph_9, tk_Ne, nm_Ne, rfl, by decide +kernel, fun _ => rfl⟩
theorem x_Ph_15 : Cond.fieldLink "PinKindChecks$PinHolder" 15 "PinKindChecks$PinHolder" "pinCount" "I" ∈ wz := wz_at 602 (by decide +kernel) rfl
theorem f_Ph_15_Pa : zF "PinKindChecks$PinHolder" 15 6 3 := ⟨_, T_Pa, 5, rfl, by decide, u_Pa, x_Ph_15⟩
theorem w_Ph_15_Pa : zFp "PinKindChecks$PinHolder" 15 6 3 (.int) false := ⟨_, T_Pa, 5, t_Pa, rfl, by decide, u_Pa, x_Ph_15, tk_Pa, nm_Pa, rfl, by decide +kernel, fun h => by cases h⟩
theorem f_Ph_15_Ne : zF "PinKindChecks$PinHolder" 15 7 3 := ⟨_, T_Ne, 6, rfl, by decide, u_Ne, x_Ph_15⟩
theorem w_Ph_15_Ne : zFp "PinKindChecks$PinHolder" 15 7 3 (.int) false := ⟨_, T_Ne, 6, t_Ne, rfl, by decide, u_Ne, x_Ph_15, tk_Ne, nm_Ne, rfl, by decide +kernel, fun h => by cases h⟩
theorem x_Th_9 : Cond.fieldLink "PinKindChecks$Thing" 9 "PinKindChecks$Thing" "sheet" "I" ∈ wz := wz_at 603 (by decide +kernel) rfl
theorem f_Th_9_Pa : zF "PinKindChecks$Thing" 9 6 0 := ⟨_, T_Pa, 5, rfl, by decide, u_Pa, x_Th_9⟩
theorem w_Th_9_Pa : zFp "PinKindChecks$Thing" 9 6 0 (.int) true := ⟨_, T_Pa, 5, t_Pa, rfl, by decide, u_Pa, x_Th_9, tk_Pa, nm_Pa, rfl, by decide +kernel, fun _ => rfl⟩
theorem f_Th_9_Ne : zF "PinKindChecks$Thing" 9 7 0 := ⟨_, T_Ne, 6, rfl, by decide, u_Ne, x_Th_9⟩
theorem w_Th_9_Ne : zFp "PinKindChecks$Thing" 9 7 0 (.int) true := ⟨_, T_Ne, 6, t_Ne, rfl, by decide, u_Ne, x_Th_9, tk_Ne, nm_Ne, rfl, by decide +kernel, fun _ => rfl⟩
theorem f_Th_9_Pi : zF "PinKindChecks$Thing" 9 8 0 := ⟨_, T_Pi, 5, rfl, by decide, u_Pi, x_Th_9⟩
theorem w_Th_9_Pi : zFp "PinKindChecks$Thing" 9 8 0 (.int) true := ⟨_, T_Pi, 5, t_Pi, rfl, by decide, u_Pi, x_Th_9, tk_Pi, nm_Pi, rfl, by decide +kernel, fun _ => rfl⟩
theorem x_Th_15 : Cond.fieldLink "PinKindChecks$Thing" 15 "PinKindChecks$Thing" "place" "I" ∈ wz := wz_at 604 (by decide +kernel) rfl
theorem f_Th_15_Pa : zF "PinKindChecks$Thing" 15 6 1 := ⟨_, T_Pa, 5, rfl, by decide, u_Pa, x_Th_15⟩
theorem w_Th_15_Pa : zFp "PinKindChecks$Thing" 15 6 1 (.int) true := ⟨_, T_Pa, 5, t_Pa, rfl, by decide, u_Pa, x_Th_15, tk_Pa, nm_Pa, rfl, by decide +kernel, fun _ => rfl⟩
theorem f_Th_15_Ne : zF "PinKindChecks$Thing" 15 7 1 := ⟨_, T_Ne, 6, rfl, by decide, u_Ne, x_Th_15⟩
theorem w_Th_15_Ne : zFp "PinKindChecks$Thing" 15 7 1 (.int) true := ⟨_, T_Ne, 6, t_Ne, rfl, by decide, u_Ne, x_Th_15, tk_Ne, nm_Ne, rfl, by decide +kernel, fun _ => rfl⟩
theorem f_Th_15_Pi : zF "PinKindChecks$Thing" 15 8 1 := ⟨_, T_Pi, 5, rfl, by decide, u_Pi, x_Th_15⟩
theorem w_Th_15_Pi : zFp "PinKindChecks$Thing" 15 8 1 (.int) true := ⟨_, T_Pi, 5, t_Pi, rfl, by decide, u_Pi, x_Th_15, tk_Pi, nm_Pi, rfl, by decide +kernel, fun _ => rfl⟩
theorem x_Ne_15 : Cond.fieldLink "PinKindChecks$Net" 15 "PinKindChecks$Net" "name" "I" ∈ wz := wz_at 647 (by decide +kernel) rfl
theorem f_Ne_15_Ne : zF "PinKindChecks$Net" 15 7 4 := ⟨_, T_Ne, 6, rfl, by decide, u_Ne, x_Ne_15⟩
theorem w_Ne_15_Ne : zFp "PinKindChecks$Net" 15 7 4 (.int) true := ⟨_, T_Ne, 6, t_Ne, rfl, by decide, u_Ne, x_Ne_15, tk_Ne, nm_Ne, rfl, by decide +kernel, fun _ => rfl⟩
theorem x_Ne_9 : Cond.fieldLink "PinKindChecks$Net" 9 "PinKindChecks$Net" "hasEndOffGrid" "Z" ∈ wz := wz_at 648 (by decide +kernel) rfl
theorem f_Ne_9_Ne : zF "PinKindChecks$Net" 9 7 5 := ⟨_, T_Ne, 6, rfl, by decide, u_Ne, x_Ne_9⟩
theorem w_Ne_9_Ne : zFp "PinKindChecks$Net" 9 7 5 (.boolean) false := ⟨_, T_Ne, 6, t_Ne, rfl, by decide, u_Ne, x_Ne_9, tk_Ne, nm_Ne, rfl, by decide +kernel, fun h => by cases h⟩
theorem x_Pi_21 : Cond.fieldLink "PinKindChecks$Pin" 21 "PinKindChecks$Pin" "part" "LPinKindChecks$Part;" ∈ wz := wz_at 688 (by decide +kernel) rfl
theorem f_Pi_21_Pi : zF "PinKindChecks$Pin" 21 8 2 := ⟨_, T_Pi, 5, rfl, by decide, u_Pi, x_Pi_21⟩
theorem w_Pi_21_Pi : zFp "PinKindChecks$Pin" 21 8 2 (.object "PinKindChecks$Part") true := ⟨_, T_Pi, 5, t_Pi, rfl, by decide, u_Pi, x_Pi_21, tk_Pi, nm_Pi, rfl, by decide +kernel, fun _ => rfl⟩
theorem x_Pi_25 : Cond.fieldLink "PinKindChecks$Pin" 25 "PinKindChecks$Pin" "kind" "I" ∈ wz := wz_at 689 (by decide +kernel) rfl
theorem f_Pi_25_Pi : zF "PinKindChecks$Pin" 25 8 3 := ⟨_, T_Pi, 5, rfl, by decide, u_Pi, x_Pi_25⟩
theorem w_Pi_25_Pi : zFp "PinKindChecks$Pin" 25 8 3 (.int) true := ⟨_, T_Pi, 5, t_Pi, rfl, by decide, u_Pi, x_Pi_25, tk_Pi, nm_Pi, rfl, by decide +kernel, fun _ => rfl⟩
theorem x_Pi_15 : Cond.fieldLink "PinKindChecks$Pin" 15 "PinKindChecks$Pin" "net" "LPinKindChecks$Net;" ∈ wz := wz_at 690 (by decide +kernel) rfl
theorem f_Pi_15_Pi : zF "PinKindChecks$Pin" 15 8 4 := ⟨_, T_Pi, 5, rfl, by decide, u_Pi, x_Pi_15⟩
theorem w_Pi_15_Pi : zFp "PinKindChecks$Pin" 15 8 4 (.object "PinKindChecks$Net") false := ⟨_, T_Pi, 5, t_Pi, rfl, by decide, u_Pi, x_Pi_15, tk_Pi, nm_Pi, rfl, by decide +kernel, fun h => by cases h⟩
theorem x_jS_38 : Cond.fieldLink "java/lang/String" 38 "java/lang/String" "COMPACT_STRINGS" "Z" ∈ wz := wz_at 817 (by decide +kernel) rfl
theorem x_jS_1053 : Cond.fieldLink "java/lang/String" 1053 "jdk/internal/util/Preconditions" "SIOOBE_FORMATTER" "Ljava/util/function/BiFunction;" ∈ wz := wz_at 837 (by decide +kernel) rfl
theorem x_Tr_9 : Cond.fieldLink "PinKindChecks$ToldRule" 9 "PinKindChecks$ToldRule" "subject" "I" ∈ wz := wz_at 978 (by decide +kernel) rfl
theorem f_Tr_9_Tr : zF "PinKindChecks$ToldRule" 9 9 0 := ⟨_, T_Tr, 4, rfl, by decide, u_Tr, x_Tr_9⟩
theorem w_Tr_9_Tr : zFp "PinKindChecks$ToldRule" 9 9 0 (.int) true := ⟨_, T_Tr, 4, t_Tr, rfl, by decide, u_Tr, x_Tr_9, tk_Tr, nm_Tr, rfl, by decide +kernel, fun _ => rfl⟩
theorem x_Tr_15 : Cond.fieldLink "PinKindChecks$ToldRule" 15 "PinKindChecks$ToldRule" "weight" "I" ∈ wz := wz_at 979 (by decide +kernel) rfl
theorem f_Tr_15_Tr : zF "PinKindChecks$ToldRule" 15 9 1 := ⟨_, T_Tr, 4, rfl, by decide, u_Tr, x_Tr_15⟩
theorem w_Tr_15_Tr : zFp "PinKindChecks$ToldRule" 15 9 1 (.int) true := ⟨_, T_Tr, 4, t_Tr, rfl, by decide, u_Tr, x_Tr_15, tk_Tr, nm_Tr, rfl, by decide +kernel, fun _ => rfl⟩
theorem x_Tr_18 : Cond.fieldLink "PinKindChecks$ToldRule" 18 "PinKindChecks$ToldRule" "codes" "[I" ∈ wz := wz_at 980 (by decide +kernel) rfl
theorem f_Tr_18_Tr : zF "PinKindChecks$ToldRule" 18 9 2 := ⟨_, T_Tr, 4, rfl, by decide, u_Tr, x_Tr_18⟩
theorem w_Tr_18_Tr : zFp "PinKindChecks$ToldRule" 18 9 2 (.array .int) true := ⟨_, T_Tr, 4, t_Tr, rfl, by decide, u_Tr, x_Tr_18, tk_Tr, nm_Tr, rfl, by decide +kernel, fun _ => rfl⟩
theorem x_Tr_22 : Cond.fieldLink "PinKindChecks$ToldRule" 22 "PinKindChecks$ToldRule" "indexes" "[I" ∈ wz := wz_at 981 (by decide +kernel) rfl
theorem f_Tr_22_Tr : zF "PinKindChecks$ToldRule" 22 9 3 := ⟨_, T_Tr, 4, rfl, by decide, u_Tr, x_Tr_22⟩
theorem w_Tr_22_Tr : zFp "PinKindChecks$ToldRule" 22 9 3 (.array .int) true := ⟨_, T_Tr, 4, t_Tr, rfl, by decide, u_Tr, x_Tr_22, tk_Tr, nm_Tr, rfl, by decide +kernel, fun _ => rfl⟩
theorem x_Mo_91 : Cond.fieldLink "PinKindChecksModel" 91 "PinKindChecksModel" "thrown" "I" ∈ wz := wz_at 1059 (by decide +kernel) rfl
theorem f_Mo_91_Mo : zF "PinKindChecksModel" 91 10 0 := ⟨_, T_Mo, 42, rfl, by decide, u_Mo, x_Mo_91⟩
theorem w_Mo_91_Mo : zFp "PinKindChecksModel" 91 10 0 (.int) false := ⟨_, T_Mo, 42, t_Mo, rfl, by decide, u_Mo, x_Mo_91, tk_Mo, nm_Mo, rfl, by decide +kernel, fun h => by cases h⟩
theorem x_Mo_7 : Cond.fieldLink "PinKindChecksModel" 7 "PinKindChecksModel" "table" "[I" ∈ wz := wz_at 1060 (by decide +kernel) rfl
theorem f_Mo_7_Mo : zF "PinKindChecksModel" 7 10 1 := ⟨_, T_Mo, 42, rfl, by decide, u_Mo, x_Mo_7⟩
theorem w_Mo_7_Mo : zFp "PinKindChecksModel" 7 10 1 (.array .int) true := ⟨_, T_Mo, 42, t_Mo, rfl, by decide, u_Mo, x_Mo_7, tk_Mo, nm_Mo, rfl, by decide +kernel, fun _ => rfl⟩
theorem x_Mo_97 : Cond.fieldLink "PinKindChecksModel" 97 "PinKindChecksModel" "parts" "I" ∈ wz := wz_at 1061 (by decide +kernel) rfl
theorem f_Mo_97_Mo : zF "PinKindChecksModel" 97 10 2 := ⟨_, T_Mo, 42, rfl, by decide, u_Mo, x_Mo_97⟩
theorem w_Mo_97_Mo : zFp "PinKindChecksModel" 97 10 2 (.int) false := ⟨_, T_Mo, 42, t_Mo, rfl, by decide, u_Mo, x_Mo_97, tk_Mo, nm_Mo, rfl, by decide +kernel, fun h => by cases h⟩
theorem x_Mo_94 : Cond.fieldLink "PinKindChecksModel" 94 "PinKindChecksModel" "nets" "I" ∈ wz := wz_at 1062 (by decide +kernel) rfl
theorem f_Mo_94_Mo : zF "PinKindChecksModel" 94 10 3 := ⟨_, T_Mo, 42, rfl, by decide, u_Mo, x_Mo_94⟩
theorem w_Mo_94_Mo : zFp "PinKindChecksModel" 94 10 3 (.int) false := ⟨_, T_Mo, 42, t_Mo, rfl, by decide, u_Mo, x_Mo_94, tk_Mo, nm_Mo, rfl, by decide +kernel, fun h => by cases h⟩
theorem x_Mo_113 : Cond.fieldLink "PinKindChecksModel" 113 "PinKindChecksModel" "pins" "I" ∈ wz := wz_at 1063 (by decide +kernel) rfl
theorem f_Mo_113_Mo : zF "PinKindChecksModel" 113 10 4 := ⟨_, T_Mo, 42, rfl, by decide, u_Mo, x_Mo_113⟩
theorem w_Mo_113_Mo : zFp "PinKindChecksModel" 113 10 4 (.int) false := ⟨_, T_Mo, 42, t_Mo, rfl, by decide, u_Mo, x_Mo_113, tk_Mo, nm_Mo, rfl, by decide +kernel, fun h => by cases h⟩
theorem x_Mo_13 : Cond.fieldLink "PinKindChecksModel" 13 "PinKindChecksModel" "partSheet" "[I" ∈ wz := wz_at 1064 (by decide +kernel) rfl
theorem f_Mo_13_Mo : zF "PinKindChecksModel" 13 10 5 := ⟨_, T_Mo, 42, rfl, by decide, u_Mo, x_Mo_13⟩
theorem w_Mo_13_Mo : zFp "PinKindChecksModel" 13 10 5 (.array .int) true := ⟨_, T_Mo, 42, t_Mo, rfl, by decide, u_Mo, x_Mo_13, tk_Mo, nm_Mo, rfl, by decide +kernel, fun _ => rfl⟩
theorem x_Mo_16 : Cond.fieldLink "PinKindChecksModel" 16 "PinKindChecksModel" "fields" "[J" ∈ wz := wz_at 1065 (by decide +kernel) rfl
theorem f_Mo_16_Mo : zF "PinKindChecksModel" 16 10 6 := ⟨_, T_Mo, 42, rfl, by decide, u_Mo, x_Mo_16⟩
theorem w_Mo_16_Mo : zFp "PinKindChecksModel" 16 10 6 (.array .long) true := ⟨_, T_Mo, 42, t_Mo, rfl, by decide, u_Mo, x_Mo_16, tk_Mo, nm_Mo, rfl, by decide +kernel, fun _ => rfl⟩
theorem x_Mo_20 : Cond.fieldLink "PinKindChecksModel" 20 "PinKindChecksModel" "netSheet" "[I" ∈ wz := wz_at 1066 (by decide +kernel) rfl
theorem f_Mo_20_Mo : zF "PinKindChecksModel" 20 10 7 := ⟨_, T_Mo, 42, rfl, by decide, u_Mo, x_Mo_20⟩
theorem w_Mo_20_Mo : zFp "PinKindChecksModel" 20 10 7 (.array .int) true := ⟨_, T_Mo, 42, t_Mo, rfl, by decide, u_Mo, x_Mo_20, tk_Mo, nm_Mo, rfl, by decide +kernel, fun _ => rfl⟩
theorem x_Mo_23 : Cond.fieldLink "PinKindChecksModel" 23 "PinKindChecksModel" "netName" "[I" ∈ wz := wz_at 1067 (by decide +kernel) rfl
theorem f_Mo_23_Mo : zF "PinKindChecksModel" 23 10 8 := ⟨_, T_Mo, 42, rfl, by decide, u_Mo, x_Mo_23⟩
theorem w_Mo_23_Mo : zFp "PinKindChecksModel" 23 10 8 (.array .int) true := ⟨_, T_Mo, 42, t_Mo, rfl, by decide, u_Mo, x_Mo_23, tk_Mo, nm_Mo, rfl, by decide +kernel, fun _ => rfl⟩
theorem x_Mo_26 : Cond.fieldLink "PinKindChecksModel" 26 "PinKindChecksModel" "pinPart" "[I" ∈ wz := wz_at 1068 (by decide +kernel) rfl
theorem f_Mo_26_Mo : zF "PinKindChecksModel" 26 10 9 := ⟨_, T_Mo, 42, rfl, by decide, u_Mo, x_Mo_26⟩
theorem w_Mo_26_Mo : zFp "PinKindChecksModel" 26 10 9 (.array .int) true := ⟨_, T_Mo, 42, t_Mo, rfl, by decide, u_Mo, x_Mo_26, tk_Mo, nm_Mo, rfl, by decide +kernel, fun _ => rfl⟩
theorem x_Mo_29 : Cond.fieldLink "PinKindChecksModel" 29 "PinKindChecksModel" "pinNet" "[I" ∈ wz := wz_at 1069 (by decide +kernel) rfl
theorem f_Mo_29_Mo : zF "PinKindChecksModel" 29 10 10 := ⟨_, T_Mo, 42, rfl, by decide, u_Mo, x_Mo_29⟩
theorem w_Mo_29_Mo : zFp "PinKindChecksModel" 29 10 10 (.array .int) true := ⟨_, T_Mo, 42, t_Mo, rfl, by decide, u_Mo, x_Mo_29, tk_Mo, nm_Mo, rfl, by decide +kernel, fun _ => rfl⟩
theorem x_Mo_32 : Cond.fieldLink "PinKindChecksModel" 32 "PinKindChecksModel" "pinKind" "[I" ∈ wz := wz_at 1070 (by decide +kernel) rfl
theorem f_Mo_32_Mo : zF "PinKindChecksModel" 32 10 11 := ⟨_, T_Mo, 42, rfl, by decide, u_Mo, x_Mo_32⟩
theorem w_Mo_32_Mo : zFp "PinKindChecksModel" 32 10 11 (.array .int) true := ⟨_, T_Mo, 42, t_Mo, rfl, by decide, u_Mo, x_Mo_32, tk_Mo, nm_Mo, rfl, by decide +kernel, fun _ => rfl⟩
theorem x_Mo_116 : Cond.fieldLink "PinKindChecksModel" 116 "PinKindChecksModel" "ends" "I" ∈ wz := wz_at 1071 (by decide +kernel) rfl
theorem f_Mo_116_Mo : zF "PinKindChecksModel" 116 10 12 := ⟨_, T_Mo, 42, rfl, by decide, u_Mo, x_Mo_116⟩
theorem w_Mo_116_Mo : zFp "PinKindChecksModel" 116 10 12 (.int) false := ⟨_, T_Mo, 42, t_Mo, rfl, by decide, u_Mo, x_Mo_116, tk_Mo, nm_Mo, rfl, by decide +kernel, fun h => by cases h⟩
theorem x_Mo_35 : Cond.fieldLink "PinKindChecksModel" 35 "PinKindChecksModel" "endNet" "[I" ∈ wz := wz_at 1072 (by decide +kernel) rfl
theorem f_Mo_35_Mo : zF "PinKindChecksModel" 35 10 13 := ⟨_, T_Mo, 42, rfl, by decide, u_Mo, x_Mo_35⟩
theorem w_Mo_35_Mo : zFp "PinKindChecksModel" 35 10 13 (.array .int) true := ⟨_, T_Mo, 42, t_Mo, rfl, by decide, u_Mo, x_Mo_35, tk_Mo, nm_Mo, rfl, by decide +kernel, fun _ => rfl⟩
theorem x_Mo_38 : Cond.fieldLink "PinKindChecksModel" 38 "PinKindChecksModel" "endX" "[J" ∈ wz := wz_at 1073 (by decide +kernel) rfl
theorem f_Mo_38_Mo : zF "PinKindChecksModel" 38 10 14 := ⟨_, T_Mo, 42, rfl, by decide, u_Mo, x_Mo_38⟩
theorem w_Mo_38_Mo : zFp "PinKindChecksModel" 38 10 14 (.array .long) true := ⟨_, T_Mo, 42, t_Mo, rfl, by decide, u_Mo, x_Mo_38, tk_Mo, nm_Mo, rfl, by decide +kernel, fun _ => rfl⟩
theorem x_Mo_41 : Cond.fieldLink "PinKindChecksModel" 41 "PinKindChecksModel" "endY" "[J" ∈ wz := wz_at 1074 (by decide +kernel) rfl
theorem f_Mo_41_Mo : zF "PinKindChecksModel" 41 10 15 := ⟨_, T_Mo, 42, rfl, by decide, u_Mo, x_Mo_41⟩
theorem w_Mo_41_Mo : zFp "PinKindChecksModel" 41 10 15 (.array .long) true := ⟨_, T_Mo, 42, t_Mo, rfl, by decide, u_Mo, x_Mo_41, tk_Mo, nm_Mo, rfl, by decide +kernel, fun _ => rfl⟩
theorem x_Mo_44 : Cond.fieldLink "PinKindChecksModel" 44 "PinKindChecksModel" "text" "[I" ∈ wz := wz_at 1075 (by decide +kernel) rfl
theorem f_Mo_44_Mo : zF "PinKindChecksModel" 44 10 16 := ⟨_, T_Mo, 42, rfl, by decide, u_Mo, x_Mo_44⟩
theorem w_Mo_44_Mo : zFp "PinKindChecksModel" 44 10 16 (.array .int) true := ⟨_, T_Mo, 42, t_Mo, rfl, by decide, u_Mo, x_Mo_44, tk_Mo, nm_Mo, rfl, by decide +kernel, fun _ => rfl⟩
theorem x_Mo_119 : Cond.fieldLink "PinKindChecksModel" 119 "PinKindChecksModel" "size" "I" ∈ wz := wz_at 1076 (by decide +kernel) rfl
theorem f_Mo_119_Mo : zF "PinKindChecksModel" 119 10 17 := ⟨_, T_Mo, 42, rfl, by decide, u_Mo, x_Mo_119⟩
theorem w_Mo_119_Mo : zFp "PinKindChecksModel" 119 10 17 (.int) false := ⟨_, T_Mo, 42, t_Mo, rfl, by decide, u_Mo, x_Mo_119, tk_Mo, nm_Mo, rfl, by decide +kernel, fun h => by cases h⟩
theorem x_Mo_210 : Cond.fieldLink "PinKindChecksModel" 210 "PinKindChecksModel" "told" "I" ∈ wz := wz_at 1077 (by decide +kernel) rfl
theorem f_Mo_210_Mo : zF "PinKindChecksModel" 210 10 18 := ⟨_, T_Mo, 42, rfl, by decide, u_Mo, x_Mo_210⟩
theorem w_Mo_210_Mo : zFp "PinKindChecksModel" 210 10 18 (.int) false := ⟨_, T_Mo, 42, t_Mo, rfl, by decide, u_Mo, x_Mo_210, tk_Mo, nm_Mo, rfl, by decide +kernel, fun h => by cases h⟩
theorem x_Mo_47 : Cond.fieldLink "PinKindChecksModel" 47 "PinKindChecksModel" "subject" "[I" ∈ wz := wz_at 1078 (by decide +kernel) rfl
theorem f_Mo_47_Mo : zF "PinKindChecksModel" 47 10 19 := ⟨_, T_Mo, 42, rfl, by decide, u_Mo, x_Mo_47⟩
theorem w_Mo_47_Mo : zFp "PinKindChecksModel" 47 10 19 (.array .int) true := ⟨_, T_Mo, 42, t_Mo, rfl, by decide, u_Mo, x_Mo_47, tk_Mo, nm_Mo, rfl, by decide +kernel, fun _ => rfl⟩
theorem x_Mo_50 : Cond.fieldLink "PinKindChecksModel" 50 "PinKindChecksModel" "weight" "[I" ∈ wz := wz_at 1079 (by decide +kernel) rfl
theorem f_Mo_50_Mo : zF "PinKindChecksModel" 50 10 20 := ⟨_, T_Mo, 42, rfl, by decide, u_Mo, x_Mo_50⟩
theorem w_Mo_50_Mo : zFp "PinKindChecksModel" 50 10 20 (.array .int) true := ⟨_, T_Mo, 42, t_Mo, rfl, by decide, u_Mo, x_Mo_50, tk_Mo, nm_Mo, rfl, by decide +kernel, fun _ => rfl⟩
theorem x_Mo_53 : Cond.fieldLink "PinKindChecksModel" 53 "PinKindChecksModel" "signCount" "[I" ∈ wz := wz_at 1080 (by decide +kernel) rfl
theorem f_Mo_53_Mo : zF "PinKindChecksModel" 53 10 21 := ⟨_, T_Mo, 42, rfl, by decide, u_Mo, x_Mo_53⟩
theorem w_Mo_53_Mo : zFp "PinKindChecksModel" 53 10 21 (.array .int) true := ⟨_, T_Mo, 42, t_Mo, rfl, by decide, u_Mo, x_Mo_53, tk_Mo, nm_Mo, rfl, by decide +kernel, fun _ => rfl⟩
theorem x_Mo_56 : Cond.fieldLink "PinKindChecksModel" 56 "PinKindChecksModel" "signs" "[I" ∈ wz := wz_at 1081 (by decide +kernel) rfl
theorem f_Mo_56_Mo : zF "PinKindChecksModel" 56 10 22 := ⟨_, T_Mo, 42, rfl, by decide, u_Mo, x_Mo_56⟩
theorem w_Mo_56_Mo : zFp "PinKindChecksModel" 56 10 22 (.array .int) true := ⟨_, T_Mo, 42, t_Mo, rfl, by decide, u_Mo, x_Mo_56, tk_Mo, nm_Mo, rfl, by decide +kernel, fun _ => rfl⟩
theorem x_Mo_59 : Cond.fieldLink "PinKindChecksModel" 59 "PinKindChecksModel" "operands" "[I" ∈ wz := wz_at 1082 (by decide +kernel) rfl
theorem f_Mo_59_Mo : zF "PinKindChecksModel" 59 10 23 := ⟨_, T_Mo, 42, rfl, by decide, u_Mo, x_Mo_59⟩
theorem w_Mo_59_Mo : zFp "PinKindChecksModel" 59 10 23 (.array .int) true := ⟨_, T_Mo, 42, t_Mo, rfl, by decide, u_Mo, x_Mo_59, tk_Mo, nm_Mo, rfl, by decide +kernel, fun _ => rfl⟩
theorem x_Mo_62 : Cond.fieldLink "PinKindChecksModel" 62 "PinKindChecksModel" "off" "[Z" ∈ wz := wz_at 1083 (by decide +kernel) rfl
theorem f_Mo_62_Mo : zF "PinKindChecksModel" 62 10 24 := ⟨_, T_Mo, 42, rfl, by decide, u_Mo, x_Mo_62⟩
theorem w_Mo_62_Mo : zFp "PinKindChecksModel" 62 10 24 (.array .boolean) true := ⟨_, T_Mo, 42, t_Mo, rfl, by decide, u_Mo, x_Mo_62, tk_Mo, nm_Mo, rfl, by decide +kernel, fun _ => rfl⟩
theorem x_Mo_66 : Cond.fieldLink "PinKindChecksModel" 66 "PinKindChecksModel" "version" "I" ∈ wz := wz_at 1084 (by decide +kernel) rfl
theorem f_Mo_66_Mo : zF "PinKindChecksModel" 66 10 25 := ⟨_, T_Mo, 42, rfl, by decide, u_Mo, x_Mo_66⟩
theorem w_Mo_66_Mo : zFp "PinKindChecksModel" 66 10 25 (.int) false := ⟨_, T_Mo, 42, t_Mo, rfl, by decide, u_Mo, x_Mo_66, tk_Mo, nm_Mo, rfl, by decide +kernel, fun h => by cases h⟩
theorem x_Mo_70 : Cond.fieldLink "PinKindChecksModel" 70 "PinKindChecksModel" "now" "[I" ∈ wz := wz_at 1085 (by decide +kernel) rfl
theorem f_Mo_70_Mo : zF "PinKindChecksModel" 70 10 26 := ⟨_, T_Mo, 42, rfl, by decide, u_Mo, x_Mo_70⟩
theorem w_Mo_70_Mo : zFp "PinKindChecksModel" 70 10 26 (.array .int) true := ⟨_, T_Mo, 42, t_Mo, rfl, by decide, u_Mo, x_Mo_70, tk_Mo, nm_Mo, rfl, by decide +kernel, fun _ => rfl⟩
theorem x_Mo_73 : Cond.fieldLink "PinKindChecksModel" 73 "PinKindChecksModel" "weights" "[I" ∈ wz := wz_at 1086 (by decide +kernel) rfl
theorem f_Mo_73_Mo : zF "PinKindChecksModel" 73 10 27 := ⟨_, T_Mo, 42, rfl, by decide, u_Mo, x_Mo_73⟩
theorem w_Mo_73_Mo : zFp "PinKindChecksModel" 73 10 27 (.array .int) true := ⟨_, T_Mo, 42, t_Mo, rfl, by decide, u_Mo, x_Mo_73, tk_Mo, nm_Mo, rfl, by decide +kernel, fun _ => rfl⟩
theorem x_Mo_76 : Cond.fieldLink "PinKindChecksModel" 76 "PinKindChecksModel" "before" "[I" ∈ wz := wz_at 1087 (by decide +kernel) rfl
theorem f_Mo_76_Mo : zF "PinKindChecksModel" 76 10 28 := ⟨_, T_Mo, 42, rfl, by decide, u_Mo, x_Mo_76⟩
theorem w_Mo_76_Mo : zFp "PinKindChecksModel" 76 10 28 (.array .int) true := ⟨_, T_Mo, 42, t_Mo, rfl, by decide, u_Mo, x_Mo_76, tk_Mo, nm_Mo, rfl, by decide +kernel, fun _ => rfl⟩
theorem x_Mo_264 : Cond.fieldLink "PinKindChecksModel" 264 "PinKindChecksModel" "ran" "Z" ∈ wz := wz_at 1088 (by decide +kernel) rfl
theorem f_Mo_264_Mo : zF "PinKindChecksModel" 264 10 29 := ⟨_, T_Mo, 42, rfl, by decide, u_Mo, x_Mo_264⟩
theorem w_Mo_264_Mo : zFp "PinKindChecksModel" 264 10 29 (.boolean) false := ⟨_, T_Mo, 42, t_Mo, rfl, by decide, u_Mo, x_Mo_264, tk_Mo, nm_Mo, rfl, by decide +kernel, fun h => by cases h⟩
theorem x_Mo_268 : Cond.fieldLink "PinKindChecksModel" 268 "PinKindChecksModel" "waived" "I" ∈ wz := wz_at 1089 (by decide +kernel) rfl
theorem f_Mo_268_Mo : zF "PinKindChecksModel" 268 10 30 := ⟨_, T_Mo, 42, rfl, by decide, u_Mo, x_Mo_268⟩
theorem w_Mo_268_Mo : zFp "PinKindChecksModel" 268 10 30 (.int) false := ⟨_, T_Mo, 42, t_Mo, rfl, by decide, u_Mo, x_Mo_268, tk_Mo, nm_Mo, rfl, by decide +kernel, fun h => by cases h⟩
theorem x_Mo_79 : Cond.fieldLink "PinKindChecksModel" 79 "PinKindChecksModel" "waivedAt" "[I" ∈ wz := wz_at 1090 (by decide +kernel) rfl
theorem f_Mo_79_Mo : zF "PinKindChecksModel" 79 10 31 := ⟨_, T_Mo, 42, rfl, by decide, u_Mo, x_Mo_79⟩
theorem w_Mo_79_Mo : zFp "PinKindChecksModel" 79 10 31 (.array .int) true := ⟨_, T_Mo, 42, t_Mo, rfl, by decide, u_Mo, x_Mo_79, tk_Mo, nm_Mo, rfl, by decide +kernel, fun _ => rfl⟩
theorem x_Mo_82 : Cond.fieldLink "PinKindChecksModel" 82 "PinKindChecksModel" "reasons" "[I" ∈ wz := wz_at 1091 (by decide +kernel) rfl
theorem f_Mo_82_Mo : zF "PinKindChecksModel" 82 10 32 := ⟨_, T_Mo, 42, rfl, by decide, u_Mo, x_Mo_82⟩
theorem w_Mo_82_Mo : zFp "PinKindChecksModel" 82 10 32 (.array .int) true := ⟨_, T_Mo, 42, t_Mo, rfl, by decide, u_Mo, x_Mo_82, tk_Mo, nm_Mo, rfl, by decide +kernel, fun _ => rfl⟩
theorem x_Mo_125 : Cond.fieldLink "PinKindChecksModel" 125 "PinKindChecksModel" "begin" "I" ∈ wz := wz_at 1092 (by decide +kernel) rfl
theorem f_Mo_125_Mo : zF "PinKindChecksModel" 125 10 33 := ⟨_, T_Mo, 42, rfl, by decide, u_Mo, x_Mo_125⟩
theorem w_Mo_125_Mo : zFp "PinKindChecksModel" 125 10 33 (.int) false := ⟨_, T_Mo, 42, t_Mo, rfl, by decide, u_Mo, x_Mo_125, tk_Mo, nm_Mo, rfl, by decide +kernel, fun h => by cases h⟩
theorem x_Mo_122 : Cond.fieldLink "PinKindChecksModel" 122 "PinKindChecksModel" "at" "I" ∈ wz := wz_at 1093 (by decide +kernel) rfl
theorem f_Mo_122_Mo : zF "PinKindChecksModel" 122 10 34 := ⟨_, T_Mo, 42, rfl, by decide, u_Mo, x_Mo_122⟩
theorem w_Mo_122_Mo : zFp "PinKindChecksModel" 122 10 34 (.int) false := ⟨_, T_Mo, 42, t_Mo, rfl, by decide, u_Mo, x_Mo_122, tk_Mo, nm_Mo, rfl, by decide +kernel, fun h => by cases h⟩
theorem x_Mo_128 : Cond.fieldLink "PinKindChecksModel" 128 "PinKindChecksModel" "words" "I" ∈ wz := wz_at 1094 (by decide +kernel) rfl
theorem f_Mo_128_Mo : zF "PinKindChecksModel" 128 10 35 := ⟨_, T_Mo, 42, rfl, by decide, u_Mo, x_Mo_128⟩
theorem w_Mo_128_Mo : zFp "PinKindChecksModel" 128 10 35 (.int) false := ⟨_, T_Mo, 42, t_Mo, rfl, by decide, u_Mo, x_Mo_128, tk_Mo, nm_Mo, rfl, by decide +kernel, fun h => by cases h⟩
theorem x_Mo_131 : Cond.fieldLink "PinKindChecksModel" 131 "PinKindChecksModel" "rule" "I" ∈ wz := wz_at 1095 (by decide +kernel) rfl
theorem f_Mo_131_Mo : zF "PinKindChecksModel" 131 10 36 := ⟨_, T_Mo, 42, rfl, by decide, u_Mo, x_Mo_131⟩
theorem w_Mo_131_Mo : zFp "PinKindChecksModel" 131 10 36 (.int) false := ⟨_, T_Mo, 42, t_Mo, rfl, by decide, u_Mo, x_Mo_131, tk_Mo, nm_Mo, rfl, by decide +kernel, fun h => by cases h⟩
theorem x_Mo_85 : Cond.fieldLink "PinKindChecksModel" 85 "PinKindChecksModel" "waiting" "[I" ∈ wz := wz_at 1096 (by decide +kernel) rfl
theorem f_Mo_85_Mo : zF "PinKindChecksModel" 85 10 37 := ⟨_, T_Mo, 42, rfl, by decide, u_Mo, x_Mo_85⟩
theorem w_Mo_85_Mo : zFp "PinKindChecksModel" 85 10 37 (.array .int) true := ⟨_, T_Mo, 42, t_Mo, rfl, by decide, u_Mo, x_Mo_85, tk_Mo, nm_Mo, rfl, by decide +kernel, fun _ => rfl⟩
theorem x_Mo_134 : Cond.fieldLink "PinKindChecksModel" 134 "PinKindChecksModel" "waits" "I" ∈ wz := wz_at 1097 (by decide +kernel) rfl
theorem f_Mo_134_Mo : zF "PinKindChecksModel" 134 10 38 := ⟨_, T_Mo, 42, rfl, by decide, u_Mo, x_Mo_134⟩
theorem w_Mo_134_Mo : zFp "PinKindChecksModel" 134 10 38 (.int) false := ⟨_, T_Mo, 42, t_Mo, rfl, by decide, u_Mo, x_Mo_134, tk_Mo, nm_Mo, rfl, by decide +kernel, fun h => by cases h⟩
theorem x_Mo_196 : Cond.fieldLink "PinKindChecksModel" 196 "PinKindChecksModel" "open" "I" ∈ wz := wz_at 1098 (by decide +kernel) rfl
theorem f_Mo_196_Mo : zF "PinKindChecksModel" 196 10 39 := ⟨_, T_Mo, 42, rfl, by decide, u_Mo, x_Mo_196⟩
theorem w_Mo_196_Mo : zFp "PinKindChecksModel" 196 10 39 (.int) false := ⟨_, T_Mo, 42, t_Mo, rfl, by decide, u_Mo, x_Mo_196, tk_Mo, nm_Mo, rfl, by decide +kernel, fun h => by cases h⟩
theorem x_Mo_184 : Cond.fieldLink "PinKindChecksModel" 184 "PinKindChecksModel" "state" "I" ∈ wz := wz_at 1099 (by decide +kernel) rfl
theorem f_Mo_184_Mo : zF "PinKindChecksModel" 184 10 40 := ⟨_, T_Mo, 42, rfl, by decide, u_Mo, x_Mo_184⟩
theorem w_Mo_184_Mo : zFp "PinKindChecksModel" 184 10 40 (.int) false := ⟨_, T_Mo, 42, t_Mo, rfl, by decide, u_Mo, x_Mo_184, tk_Mo, nm_Mo, rfl, by decide +kernel, fun h => by cases h⟩
theorem x_Mo_88 : Cond.fieldLink "PinKindChecksModel" 88 "PinKindChecksModel" "stack" "[J" ∈ wz := wz_at 1100 (by decide +kernel) rfl
theorem f_Mo_88_Mo : zF "PinKindChecksModel" 88 10 41 := ⟨_, T_Mo, 42, rfl, by decide, u_Mo, x_Mo_88⟩
theorem w_Mo_88_Mo : zFp "PinKindChecksModel" 88 10 41 (.array .long) true := ⟨_, T_Mo, 42, t_Mo, rfl, by decide, u_Mo, x_Mo_88, tk_Mo, nm_Mo, rfl, by decide +kernel, fun _ => rfl⟩
theorem x_jS_9 : Cond.fieldLink "java/lang/String" 9 "java/lang/String" "value" "[B" ∈ wz := wz_at 1416 (by decide +kernel) rfl
theorem x_jS_15 : Cond.fieldLink "java/lang/String" 15 "java/lang/String" "coder" "B" ∈ wz := wz_at 1417 (by decide +kernel) rfl
theorem n_La_8 : zN "PinKindChecksLaw" 8 0 12 [.null, .null, .null, .null, .null, .null, .null, .null, .null, .null, .int 0, .int 0] := ⟨_, T_K, t_K, rfl, u_K, tk_K, t_La_8, wz_at 28 (by decide +kernel) rfl, wz_at 1 (by decide +kernel) rfl, by decide +kernel⟩
theorem n_K_9 : zN "PinKindChecks" 9 1 9 [.null, .null, .null, .null, .null, .int 0, .int 0, .int 0, .int 0] := ⟨_, T_Sc, t_Sc, rfl, u_Sc, tk_Sc, t_K_9, wz_at 36 (by decide +kernel) rfl, wz_at 2 (by decide +kernel) rfl, by decide +kernel⟩
theorem n_Sc_15 : zN "PinKindChecks$Schematic" 15 6 5 [.int 0, .int 0, .null, .int 0, .null] := ⟨_, T_Pa, t_Pa, rfl, u_Pa, tk_Pa, t_Sc_15, wz_at 589 (by decide +kernel) rfl, wz_at 15 (by decide +kernel) rfl, by decide +kernel⟩
theorem n_Sc_21 : zN "PinKindChecks$Schematic" 21 7 6 [.int 0, .int 0, .null, .int 0, .int 0, .int 0] := ⟨_, T_Ne, t_Ne, rfl, u_Ne, tk_Ne, t_Sc_21, wz_at 642 (by decide +kernel) rfl, wz_at 16 (by decide +kernel) rfl, by decide +kernel⟩
theorem n_Sc_27 : zN "PinKindChecks$Schematic" 27 8 5 [.int 0, .int 0, .null, .int 0, .null] := ⟨_, T_Pi, t_Pi, rfl, u_Pi, tk_Pi, t_Sc_27, wz_at 680 (by decide +kernel) rfl, wz_at 17 (by decide +kernel) rfl, by decide +kernel⟩
theorem n_K_16 : zN "PinKindChecks" 16 2 4 [.null, .int 0, .int 0, .int 0] := ⟨_, T_Tx, t_Tx, rfl, u_Tx, tk_Tx, t_K_16, wz_at 79 (by decide +kernel) rfl, wz_at 3 (by decide +kernel) rfl, by decide +kernel⟩
theorem n_K_23 : zN "PinKindChecks" 23 3 12 [.null, .null, .null, .null, .int 0, .int 0, .int 0, .int 0, .int 0, .int 0, .int 0, .int 0] := ⟨_, T_Rd, t_Rd, rfl, u_Rd, tk_Rd, t_K_23, wz_at 99 (by decide +kernel) rfl, wz_at 4 (by decide +kernel) rfl, by decide +kernel⟩
theorem n_K_32 : zN "PinKindChecks" 32 9 4 [.int 0, .int 0, .null, .null] := ⟨_, T_Tr, t_Tr, rfl, u_Tr, tk_Tr, t_K_32, wz_at 337 (by decide +kernel) rfl, wz_at 23 (by decide +kernel) rfl, by decide +kernel⟩
theorem n_K_42 : zN "PinKindChecks" 42 4 3 [.null, .null, .int 0] := ⟨_, T_Wv, t_Wv, rfl, u_Wv, tk_Wv, t_K_42, wz_at 144 (by decide +kernel) rfl, wz_at 5 (by decide +kernel) rfl, by decide +kernel⟩
theorem n_K_49 : zN "PinKindChecks" 49 5 4 [.null, .null, .null, .int 0] := ⟨_, T_Rm, t_Rm, rfl, u_Rm, tk_Rm, t_K_49, wz_at 161 (by decide +kernel) rfl, wz_at 6 (by decide +kernel) rfl, by decide +kernel⟩
theorem n_Tr_29 : zN "PinKindChecks$ToldRule" 29 6 5 [.int 0, .int 0, .null, .int 0, .null] := ⟨_, T_Pa, t_Pa, rfl, u_Pa, tk_Pa, t_Tr_29, wz_at 589 (by decide +kernel) rfl, wz_at 15 (by decide +kernel) rfl, by decide +kernel⟩
theorem n_Tr_31 : zN "PinKindChecks$ToldRule" 31 7 6 [.int 0, .int 0, .null, .int 0, .int 0, .int 0] := ⟨_, T_Ne, t_Ne, rfl, u_Ne, tk_Ne, t_Tr_31, wz_at 642 (by decide +kernel) rfl, wz_at 16 (by decide +kernel) rfl, by decide +kernel⟩
theorem n_Tr_33 : zN "PinKindChecks$ToldRule" 33 8 5 [.int 0, .int 0, .null, .int 0, .null] := ⟨_, T_Pi, t_Pi, rfl, u_Pi, tk_Pi, t_Tr_33, wz_at 680 (by decide +kernel) rfl, wz_at 17 (by decide +kernel) rfl, by decide +kernel⟩
theorem n_Rd_66 : zN "PinKindChecks$RuleReader" 66 9 4 [.int 0, .int 0, .null, .null] := ⟨_, T_Tr, t_Tr, rfl, u_Tr, tk_Tr, t_Rd_66, wz_at 337 (by decide +kernel) rfl, wz_at 23 (by decide +kernel) rfl, by decide +kernel⟩
theorem n_La_62 : zN "PinKindChecksLaw" 62 10 42 [.int 0, .null, .int 0, .int 0, .int 0, .null, .null, .null, .null, .null, .null, .null, .int 0, .null, .null, .null, .null, .int 0, .int 0, .null, .null, .null, .null, .null, .null, .int 0, .null, .null, .null, .int 0, .int 0, .null, .null, .int 0, .int 0, .int 0, .int 0, .null, .int 0, .int 0, .int 0, .null] := ⟨_, T_Mo, t_Mo, rfl, u_Mo, tk_Mo, t_La_62, wz_at 1054 (by decide +kernel) rfl, wz_at 7 (by decide +kernel) rfl, by decide +kernel⟩
end
section
/-! THE LOGIC. A world is a pool of cells (addresses, what each holds, cells left, slots left). G is a judgement at a frame: from here the method ends as Post says. Cz is a method's contract in the same words. A rule an instruction, a rule a call: goal first. -/
abbrev zZ : Type := List Nat × (Nat → va_E) × Nat × Nat
def zhs (Z : zZ) (a : Nat) (e : va_E) : Prop := a ∈ Z.1 ∧ Z.2.1 a = e
def zput (Z : zZ) (a : Nat) (e : va_E) : zZ := (Z.1, va_up Z.2.1 a e, Z.2.2.1, Z.2.2.2)
def znew (Z : zZ) (q : Nat) (e : va_E) (n : Nat) : zZ := (Z.1 ++ [q], va_up Z.2.1 q e, Z.2.2.1 - 1, Z.2.2.2 - n)
def zpay (Z : zZ) (k n : Nat) : zZ := (Z.1, Z.2.1, Z.2.2.1 - k, Z.2.2.2 - n)
abbrev zpl (Z : zZ) : va_W := va_pl Z.1 Z.2.1
/-- what stays the same for the whole run: the launch, the classes' numbers, which cells are new since the law began, the array classes, what is known of the cells that were there before -/
abbrev zC : Type := Launch × va_G × (Nat → Prop) × (Nat → ClassId) × (State → Heap → Prop)
/-- what is known of the old cells stays known when none of them changes -/
def zSt (w : zC) : Prop := ∀ (U U' : State) (H H' : Heap), U.WarmedH U'.vm → (∀ q : Nat, q < H.size → ¬ w.2.2.1 q → H'[q]? = H[q]?) → w.2.2.2.2 U H → w.2.2.2.2 U' H'
def zNw (s : State) : Prop := (∀ v ∈ wn, va_Nw v s) ∧ ∀ q ∈ wnc, va_Nc q.1 q.2 s
theorem zNw.warm {s U : State} (hW : s.WarmedH U.vm) (h : zNw s) : zNw U := by
  refine ⟨fun v hv => ?_, fun q hq => va_Nc.moved hW.alike (h.2 q hq)⟩
  have h1 := h.1 v hv
  have h2 := (List.mem_filter.mp hv).2
  cases v <;> first | (rename_i ty; cases ty <;> first | exact va_AO.moved hW.alike h1 | (simp [isNw] at h2; done)) | exact va_Nw.warmM hW h1 | exact va_Nw.warmD hW h1 | exact va_Nw.warmC hW h1 | (simp [isNw] at h2)
def zKn (w : zC) (s : State) : Prop := va_K w.2.1 vwCl (zTys w.2.2.2.1) s ∧ zNw s
theorem zKn.warm {w : zC} {s U : State} (hW : s.WarmedH U.vm) (h : zKn w s) : zKn w U := ⟨va_K.moved hW.alike h.1, h.2.warm hW⟩
/-- d: the frames and the locals' words that a method and its callees ask for -/
def zrm (d : Nat × Nat) (Z : zZ) : Room := { frames := d.1, cells := Z.2.2.1, slots := Z.2.2.2, locals := d.2 }
def zPre (w : zC) (Z : zZ) (s : State) : Prop :=
  zSt w ∧ zKn w s ∧ w.2.2.2.2 s s.heap ∧ (∀ q : Nat, s.heap.size ≤ q → w.2.2.1 q) ∧ va_P w.2.1 vwCl (zpl Z) s.heap ∧ va_D w.2.2.1 (zpl Z)
abbrev zR : Type := Option Value ⊕ String
def zOut (r : zR) (o : Outcome) (t : State) : Prop := match r with
  | .inl v => o = .returned v
  | .inr E => ∃ (x : Addr) (cell : Cell), o = .threw x ∧ t.heap[x]? = some cell ∧ cell.vm.isStatics = false ∧ t.vm.findClass E = some cell.cls
def zAft (w : zC) (bc bs : Nat) (Z : zZ) (s t : State) : Prop :=
  va_P w.2.1 vwCl (zpl Z) t.heap ∧ va_D w.2.2.1 (zpl Z) ∧ va_F w.2.2.1 s t ∧
  ∃ (L : List Loc) (k n : Nat), (s.WarmedH t.vm ∧ s.sameButNew ({ t with vm := s.vm } : State) L k n) ∧ (∀ q ∈ L, w.2.2.1 q.base) ∧ k + Z.2.2.1 ≤ bc ∧ n + Z.2.2.2 ≤ bs
def zQ (w : zC) (R : Room) (Post : zR → zZ → Prop) (below : List Frame) (s : State) : State → Prop := fun t =>
  ∃ o, t.status = .running ∧ Ended t below o ∧ ∃ (r : zR) (Z : zZ), Post r Z ∧ zOut r o t ∧ zAft w R.cells R.slots Z s t
def Cz (w : zC) (d : Nat × Nat) (y : MethodName) (ws : List Cond) (As : List Value) (Z : zZ) (Post : zR → zZ → Prop) : Prop :=
  MetFree w.1 y (headSpec ws (zrm d Z)) (fun a s => a = As.toArray ∧ zPre w Z s) (fun _ _ _ _ _ => True) (fun _ s o t => ∃ (r : zR) (Z' : zZ), Post r Z' ∧ zOut r o t ∧ zAft w Z.2.2.1 Z.2.2.2 Z' s t)
/-- the method that is walked -/
def zX (y : MethodName) (cc : ByteArray) (nL : Nat) (rt : Option FieldType) (p : Program) (s : State) (m : MethodId) (args : Array Value) (meth : Method) (c : Code) : Prop :=
  p.tables.exec = Jvm.exec ∧ c.code = cc ∧ c.maxLocals = nL ∧ s.vm.findClass y.cls = some m.cls ∧ (∀ v ∈ wz, v.before args s = true) ∧ meth.sig.returnType = rt ∧ meth.locks = false ∧ (y.name = "<init>" → meth.name = y.name)
/-- the world at a point of the walk -/
def zW (w : zC) (d : Nat × Nat) (Z : zZ) (R : Room) (s : State) (H : Heap) (locs : List Loc) (cells slots : Nat) : Prop :=
  zSt w ∧ zKn w s ∧ w.2.2.2.2 s s.heap ∧ (∀ q : Nat, s.heap.size ≤ q → w.2.2.1 q) ∧ va_P w.2.1 vwCl (zpl Z) H ∧ va_D w.2.2.1 (zpl Z) ∧ va_S w.2.2.1 s.heap H locs ∧
  cells + Z.2.2.1 ≤ R.cells ∧ slots + Z.2.2.2 ≤ R.slots ∧ d.1 ≤ R.frames ∧ d.2 ≤ R.locals
def G (w : zC) (y : MethodName) (cc : ByteArray) (nL : Nat) (rt : Option FieldType) (d : Nat × Nat) (Post : zR → zZ → Prop) (pc : Nat) (lv : List (Nat × Value)) (st : List Value) (Z : zZ) : Prop :=
  ∀ (p : Program) (e : Env) (R : Room) (s : State) (m : MethodId) (args : Array Value) (below : List Frame) (meth : Method) (c : Code) (H : Heap) (locs : List Loc) (cells slots : Nat) (ls : Array Slot),
    zX y cc nL rt p s m args meth c → zW w d Z R s H locs cells slots → lv_has ls nL lv →
    W p w.1 e R s m args below meth c H locs cells slots (zQ w R Post below s) (F0 m pc ls st)
theorem W_mono {p : Program} {l : Launch} {e : Env} {R : Room} {s : State} {m : MethodId} {args : Array Value} {below : List Frame} {meth : Method} {c : Code} {H : Heap} {locs : List Loc} {cells slots : Nat} {Q Q' : State → Prop} {g : JFrame}
    (h : ∀ t, Q t → Q' t) (k : W p l e R s m args below meth c H locs cells slots Q g) : W p l e R s m args below meth c H locs cells slots Q' g := fun T hT X => by
  obtain ⟨t, a, b⟩ := k T hT X
  exact ⟨t, a, h t b⟩
theorem zhs_put_same {Z : zZ} {a : Nat} {e e' : va_E} (h : zhs Z a e) : zhs (zput Z a e') a e' := ⟨h.1, va_up_self _ _ _⟩
theorem zhs_put_ne {Z : zZ} {a b : Nat} {e e' : va_E} (h : zhs Z b e) (hne : b ≠ a) : zhs (zput Z a e') b e := ⟨h.1, by show va_up _ _ _ _ = _; rw [va_up_ne _ _ hne]; exact h.2⟩
theorem zhs_new_same {Z : zZ} {q : Nat} {e : va_E} {n : Nat} : zhs (znew Z q e n) q e := ⟨List.mem_append_right _ (List.mem_singleton.mpr rfl), va_up_self _ _ _⟩
theorem zhs_new_old {Z : zZ} {q b : Nat} {e e' : va_E} {n : Nat} (h : zhs Z b e) (hq : q ∉ Z.1) : zhs (znew Z q e' n) b e := ⟨List.mem_append_left _ h.1, by
  show va_up _ _ _ _ = _
  rw [va_up_ne _ _ (fun z => hq (by rw [← z]; exact h.1))]
  exact h.2⟩
theorem zhs_ne {Z : zZ} {a b : Nat} {e e' : va_E} (h : zhs Z a e) (h' : zhs Z b e') (hne : e ≠ e') : a ≠ b := fun z => hne (by rw [← h.2, ← h'.2, z])
theorem zhs_inj {Z : zZ} {a : Nat} {e e' : va_E} (h : zhs Z a e) (h' : zhs Z a e') : e = e' := h.2.symm.trans h'.2
theorem zhs_fresh {Z : zZ} {a q : Nat} {e : va_E} (h : zhs Z a e) (hq : q ∉ Z.1) : a ≠ q := fun z => hq (by rw [← z]; exact h.1)
theorem zput_put {Z : zZ} {a : Nat} {e e' : va_E} : zput (zput Z a e) a e' = zput Z a e' := by
  show (Z.1, va_up (va_up Z.2.1 a e) a e', Z.2.2.1, Z.2.2.2) = (Z.1, va_up Z.2.1 a e', Z.2.2.1, Z.2.2.2)
  have h : va_up (va_up Z.2.1 a e) a e' = va_up Z.2.1 a e' := by
    funext j
    by_cases hj : j = a
    · simp [va_up, hj]
    · simp [va_up, hj]
  rw [h]
theorem zput_self {Z : zZ} {a : Nat} {e : va_E} (h : zhs Z a e) : zput Z a e = Z := by
  have h1 : va_up Z.2.1 a e = Z.2.1 := by
    funext j
    by_cases hj : j = a
    · rw [hj, va_up_self]; exact h.2.symm
    · rw [va_up_ne _ _ hj]
  show (Z.1, va_up Z.2.1 a e, Z.2.2.1, Z.2.2.2) = Z
  rw [h1]
/-- the place of a cell in the pool's list -/
theorem zpos {Z : zZ} {a : Nat} {e : va_E} (h : zhs Z a e) : ∃ k : Nat, (zpl Z)[k]? = some (a, e) := by
  obtain ⟨k, hk⟩ := va_pl_get (X := []) (f := Z.2.1) h.1
  rw [h.2] at hk
  exact ⟨k, hk⟩
theorem zset {A : Nat → Prop} {Z : zZ} {a k : Nat} {e e' : va_E} (hD : va_D A (zpl Z)) (h : zhs Z a e) (hk : (zpl Z)[k]? = some (a, e)) : (zpl Z).set k (a, e') = zpl (zput Z a e') := by
  have := va_pl_set (X := []) (e := e') hD h.1 (by rw [h.2]; exact hk)
  exact this
theorem zfresh {A : Nat → Prop} {Z : zZ} {q : Nat} {e : va_E} (hD : va_D A (zpl Z ++ [(q, e)])) : q ∉ Z.1 := by
  intro h
  obtain ⟨k, hk⟩ := zpos (Z := Z) (a := q) ⟨h, rfl⟩
  have hl : k < (zpl Z).length := (List.getElem?_eq_some_iff.mp hk).1
  have h1 : (zpl Z ++ [(q, e)])[k]? = some (q, Z.2.1 q) := by rw [List.getElem?_append_left hl]; exact hk
  have h2 : (zpl Z ++ [(q, e)])[(zpl Z).length]? = some (q, e) := by simp
  have := hD.1 _ _ _ _ h1 h2 rfl
  omega
theorem zpush {Z : zZ} {q : Nat} {e : va_E} {n : Nat} (h : q ∉ Z.1) : zpl Z ++ [(q, e)] = zpl (znew Z q e n) := va_pl_push h
/-- from a walk of its body to a method's contract -/
theorem Cz.of {w : zC} {d : Nat × Nat} {y : MethodName} {cc : ByteArray} {nL : Nat} {rt : Option FieldType} {As : List Value} {Z : zZ} {Post : zR → zZ → Prop}
    (hy : plainName y.cls = true) (hn : (lg_sl As).length ≤ nL) (h : G w y cc nL rt d Post 0 (lv_args 0 As) [] Z) : Cz w d y (Cond.code y cc nL rt :: wz) As Z Post := by
  refine MetFree.of_bodyS (code := cc) (maxLocals := nL) (ret := rt) hy ?_ ?_
  · intro args s m h hn
    obtain ⟨meth, c, h1, h2, h3, h4, h5, h6, -, -⟩ := Cond.code_spec hn (atoms_spec (ws := Cond.code y cc nL rt :: wz) h _ List.mem_cons_self)
    exact ⟨meth, c, h1, h2, h3, h4, h5, h6⟩
  · intro p e s m args below meth c s₁ B hml hP _
    obtain ⟨rfl, hst, hK, hS, hA, hPl, hD⟩ := hP
    have hh0 : s₁.heap = s.heap := by rw [B.state]; rfl
    have hts := atoms_spec (ws := Cond.code y cc nL rt :: wz) B.pre
    have K := h p e (zrm d Z) s m As.toArray below meth c s.heap [] 0 0 _
      ⟨B.exec, B.bytes, hml, findClass_of_methodNamed B.named, fun v hv => hts v (List.mem_cons_of_mem _ hv), B.returns, B.notSynchronized, fun _ => (name_of_methodNamed B.named B.method).1⟩
      ⟨hst, hK, hS, hA, hPl, hD, va_S.rf, by simp [zrm], by simp [zrm], Nat.le_refl _, Nat.le_refl _⟩ (lv_entry As hn)
    rw [← lg_entry_eq] at K
    obtain ⟨t, a1, o, b1, b2, b3⟩ := K s₁ hh0 (Stand.of_body B)
    exact ⟨t, o, a1, b1, b2, b3⟩
section GR
variable {w : zC} {y : MethodName} {cc : ByteArray} {nL : Nat} {rt : Option FieldType} {d : Nat × Nat} {Post : zR → zZ → Prop} {pc : Nat} {lv : List (Nat × Value)} {rest : List Value} {Z : zZ}
/-- at a return: the end of W, in the words of zQ -/
theorem zEnd {R : Room} {s : State} {args : Array Value} {below : List Frame} {H : Heap} {locs : List Loc} {cells slots : Nat} {ov : Option Value}
    (hw : zW w d Z R s H locs cells slots) (hp : Post (.inl ov) Z) (t : State) (h : MQ below (fun _ _ o u => o = .returned ov ∧ u.heap = H) args s cells slots w.2.2.1 t) : zQ w R Post below s t := by
  obtain ⟨o, h1, h2, ⟨rfl, hh⟩, L, hF, hL⟩ := h
  obtain ⟨-, -, -, -, hP, hD, hS, hc, hs, -, -⟩ := hw
  refine ⟨_, h1, h2, .inl ov, Z, hp, rfl, by rw [hh]; exact hP, hD, hS.F hh, L, cells, slots, hF.2, hL, hc, hs⟩
theorem g_iret {v : Int32} (hdg : decode cc pc = .ok (.ireturn, 1)) (hp : Post (.inl (some (.int v))) Z) (hrt : rt = some .int := by rfl) : G w y cc nL rt d Post pc lv [.int v] Z :=
  fun p e R s m args below meth c H locs cells slots ls hx hw hl => W_mono (zEnd hw hp) (W.iret hx.1 hx.2.1 (hx.2.2.2.2.2.1.trans hrt) (fun t ht _ => ⟨rfl, ht⟩) hw.2.2.2.2.2.2.1.2.2 hdg hx.2.2.2.2.2.2.1)
theorem g_zret {v : Int32} {ty : FieldType} (hdg : decode cc pc = .ok (.ireturn, 1)) (hn : narrow ty (.int v) = .int v) (hp : Post (.inl (some (.int v))) Z) (hrt : rt = some ty := by rfl) : G w y cc nL rt d Post pc lv [.int v] Z :=
  fun p e R s m args below meth c H locs cells slots ls hx hw hl => W_mono (zEnd hw hp) (W.zret hx.1 hx.2.1 (hx.2.2.2.2.2.1.trans hrt) hn (fun t ht _ => ⟨rfl, ht⟩) hw.2.2.2.2.2.2.1.2.2 hdg hx.2.2.2.2.2.2.1)
theorem g_lret {v : Int64} (hdg : decode cc pc = .ok (.lreturn, 1)) (hp : Post (.inl (some (.long v))) Z) (hrt : rt = some .long := by rfl) : G w y cc nL rt d Post pc lv [.long v] Z :=
  fun p e R s m args below meth c H locs cells slots ls hx hw hl => W_mono (zEnd hw hp) (W.lret hx.1 hx.2.1 (hx.2.2.2.2.2.1.trans hrt) (fun t ht _ => ⟨rfl, ht⟩) hw.2.2.2.2.2.2.1.2.2 hdg hx.2.2.2.2.2.2.1)
theorem g_vret (hdg : decode cc pc = .ok (.return_, 1)) (hp : Post (.inl none) Z) (hrt : rt = none := by rfl) : G w y cc nL rt d Post pc lv [] Z :=
  fun p e R s m args below meth c H locs cells slots ls hx hw hl => W_mono (zEnd hw hp) (W.vret hx.1 hx.2.1 (hx.2.2.2.2.2.1.trans hrt) (fun t ht _ => ⟨rfl, ht⟩) hw.2.2.2.2.2.2.1.2.2 hdg hx.2.2.2.2.2.2.1)
theorem g_aret {v : Value} {ty : FieldType} (hdg : decode cc pc = .ok (.areturn, 1)) (hp : Post (.inl (some v)) Z) (hv : v = .null ∨ ∃ a, v = .ref a := by first | exact Or.inr ⟨_, rfl⟩ | exact Or.inl rfl | exact va_rf_or _) (hrt : rt = some ty := by rfl) (hty : (∃ n, ty = .object n) ∨ ∃ t, ty = .array t := by first | exact Or.inl ⟨_, rfl⟩ | exact Or.inr ⟨_, rfl⟩) : G w y cc nL rt d Post pc lv [v] Z :=
  fun p e R s m args below meth c H locs cells slots ls hx hw hl => W_mono (zEnd hw hp) (W.aret hx.1 hx.2.1 (hx.2.2.2.2.2.1.trans hrt) hty hv (fun t ht _ => ⟨rfl, ht⟩) hw.2.2.2.2.2.2.1.2.2 hdg hx.2.2.2.2.2.2.1)
theorem g_iconst {n : Int} {v : Int32} (hdg : decode cc pc = .ok (.iconst n, 1)) (hv : Int32.ofInt n = v) (k1 : G w y cc nL rt d Post (pc + 1) lv (.int v :: rest) Z) : G w y cc nL rt d Post pc lv (rest) Z :=
  fun p e R s m args below meth c H locs cells slots ls hx hw hl => lv_iconst hx.1 hx.2.1 hdg hv (k1 p e R s m args below meth c H locs cells slots ls hx hw hl)
theorem g_bipush {n : Int} {v : Int32} (hdg : decode cc pc = .ok (.bipush n, 2)) (hv : (Int8.ofInt n).toInt32 = v) (k1 : G w y cc nL rt d Post (pc + 2) lv (.int v :: rest) Z) : G w y cc nL rt d Post pc lv (rest) Z :=
  fun p e R s m args below meth c H locs cells slots ls hx hw hl => lv_bipush hx.1 hx.2.1 hdg hv (k1 p e R s m args below meth c H locs cells slots ls hx hw hl)
theorem g_sipush {n : Int} {v : Int32} (hdg : decode cc pc = .ok (.sipush n, 3)) (hv : (Int16.ofInt n).toInt32 = v) (k1 : G w y cc nL rt d Post (pc + 3) lv (.int v :: rest) Z) : G w y cc nL rt d Post pc lv (rest) Z :=
  fun p e R s m args below meth c H locs cells slots ls hx hw hl => lv_sipush hx.1 hx.2.1 hdg hv (k1 p e R s m args below meth c H locs cells slots ls hx hw hl)
theorem g_lconst {n : Fin 2} {v : Int64} (hdg : decode cc pc = .ok (.lconst n, 1)) (hv : Int64.ofNat (n : Nat) = v) (k1 : G w y cc nL rt d Post (pc + 1) lv (.long v :: rest) Z) : G w y cc nL rt d Post pc lv (rest) Z :=
  fun p e R s m args below meth c H locs cells slots ls hx hw hl => lv_lconst hx.1 hx.2.1 hdg hv (k1 p e R s m args below meth c H locs cells slots ls hx hw hl)
theorem g_iadd {x z9 : Int32} (hdg : decode cc pc = .ok (.iadd, 1)) (k1 : G w y cc nL rt d Post (pc + 1) lv (.int (x + z9) :: rest) Z) : G w y cc nL rt d Post pc lv (.int z9 :: .int x :: rest) Z :=
  fun p e R s m args below meth c H locs cells slots ls hx hw hl => lv_iadd hx.1 hx.2.1 hdg (k1 p e R s m args below meth c H locs cells slots ls hx hw hl)
theorem g_isub {x z9 : Int32} (hdg : decode cc pc = .ok (.isub, 1)) (k1 : G w y cc nL rt d Post (pc + 1) lv (.int (x - z9) :: rest) Z) : G w y cc nL rt d Post pc lv (.int z9 :: .int x :: rest) Z :=
  fun p e R s m args below meth c H locs cells slots ls hx hw hl => lv_isub hx.1 hx.2.1 hdg (k1 p e R s m args below meth c H locs cells slots ls hx hw hl)
theorem g_imul {x z9 : Int32} (hdg : decode cc pc = .ok (.imul, 1)) (k1 : G w y cc nL rt d Post (pc + 1) lv (.int (x * z9) :: rest) Z) : G w y cc nL rt d Post pc lv (.int z9 :: .int x :: rest) Z :=
  fun p e R s m args below meth c H locs cells slots ls hx hw hl => lv_imul hx.1 hx.2.1 hdg (k1 p e R s m args below meth c H locs cells slots ls hx hw hl)
theorem g_iand {x z9 : Int32} (hdg : decode cc pc = .ok (.iand, 1)) (k1 : G w y cc nL rt d Post (pc + 1) lv (.int (x &&& z9) :: rest) Z) : G w y cc nL rt d Post pc lv (.int z9 :: .int x :: rest) Z :=
  fun p e R s m args below meth c H locs cells slots ls hx hw hl => lv_iand hx.1 hx.2.1 hdg (k1 p e R s m args below meth c H locs cells slots ls hx hw hl)
theorem g_ior {x z9 : Int32} (hdg : decode cc pc = .ok (.ior, 1)) (k1 : G w y cc nL rt d Post (pc + 1) lv (.int (x ||| z9) :: rest) Z) : G w y cc nL rt d Post pc lv (.int z9 :: .int x :: rest) Z :=
  fun p e R s m args below meth c H locs cells slots ls hx hw hl => lv_ior hx.1 hx.2.1 hdg (k1 p e R s m args below meth c H locs cells slots ls hx hw hl)
theorem g_ixor {x z9 : Int32} (hdg : decode cc pc = .ok (.ixor, 1)) (k1 : G w y cc nL rt d Post (pc + 1) lv (.int (x ^^^ z9) :: rest) Z) : G w y cc nL rt d Post pc lv (.int z9 :: .int x :: rest) Z :=
  fun p e R s m args below meth c H locs cells slots ls hx hw hl => lv_ixor hx.1 hx.2.1 hdg (k1 p e R s m args below meth c H locs cells slots ls hx hw hl)
theorem g_idiv {x z9 : Int32} (hdg : decode cc pc = .ok (.idiv, 1)) (hne : ¬ z9 = 0) (k1 : G w y cc nL rt d Post (pc + 1) lv (.int (x / z9) :: rest) Z) : G w y cc nL rt d Post pc lv (.int z9 :: .int x :: rest) Z :=
  fun p e R s m args below meth c H locs cells slots ls hx hw hl => lv_idiv hx.1 hx.2.1 hdg hne (k1 p e R s m args below meth c H locs cells slots ls hx hw hl)
theorem g_irem {x z9 : Int32} (hdg : decode cc pc = .ok (.irem, 1)) (hne : ¬ z9 = 0) (k1 : G w y cc nL rt d Post (pc + 1) lv (.int (x - x / z9 * z9) :: rest) Z) : G w y cc nL rt d Post pc lv (.int z9 :: .int x :: rest) Z :=
  fun p e R s m args below meth c H locs cells slots ls hx hw hl => lv_irem hx.1 hx.2.1 hdg hne (k1 p e R s m args below meth c H locs cells slots ls hx hw hl)
theorem g_ineg {x : Int32} (hdg : decode cc pc = .ok (.ineg, 1)) (k1 : G w y cc nL rt d Post (pc + 1) lv (.int (-x) :: rest) Z) : G w y cc nL rt d Post pc lv (.int x :: rest) Z :=
  fun p e R s m args below meth c H locs cells slots ls hx hw hl => lv_ineg hx.1 hx.2.1 hdg (k1 p e R s m args below meth c H locs cells slots ls hx hw hl)
theorem g_ladd {x z9 : Int64} (hdg : decode cc pc = .ok (.ladd, 1)) (k1 : G w y cc nL rt d Post (pc + 1) lv (.long (x + z9) :: rest) Z) : G w y cc nL rt d Post pc lv (.long z9 :: .long x :: rest) Z :=
  fun p e R s m args below meth c H locs cells slots ls hx hw hl => lv_ladd hx.1 hx.2.1 hdg (k1 p e R s m args below meth c H locs cells slots ls hx hw hl)
theorem g_lsub {x z9 : Int64} (hdg : decode cc pc = .ok (.lsub, 1)) (k1 : G w y cc nL rt d Post (pc + 1) lv (.long (x - z9) :: rest) Z) : G w y cc nL rt d Post pc lv (.long z9 :: .long x :: rest) Z :=
  fun p e R s m args below meth c H locs cells slots ls hx hw hl => lv_lsub hx.1 hx.2.1 hdg (k1 p e R s m args below meth c H locs cells slots ls hx hw hl)
theorem g_lmul {x z9 : Int64} (hdg : decode cc pc = .ok (.lmul, 1)) (k1 : G w y cc nL rt d Post (pc + 1) lv (.long (x * z9) :: rest) Z) : G w y cc nL rt d Post pc lv (.long z9 :: .long x :: rest) Z :=
  fun p e R s m args below meth c H locs cells slots ls hx hw hl => lv_lmul hx.1 hx.2.1 hdg (k1 p e R s m args below meth c H locs cells slots ls hx hw hl)
theorem g_land {x z9 : Int64} (hdg : decode cc pc = .ok (.land, 1)) (k1 : G w y cc nL rt d Post (pc + 1) lv (.long (x &&& z9) :: rest) Z) : G w y cc nL rt d Post pc lv (.long z9 :: .long x :: rest) Z :=
  fun p e R s m args below meth c H locs cells slots ls hx hw hl => lv_land hx.1 hx.2.1 hdg (k1 p e R s m args below meth c H locs cells slots ls hx hw hl)
theorem g_lor {x z9 : Int64} (hdg : decode cc pc = .ok (.lor, 1)) (k1 : G w y cc nL rt d Post (pc + 1) lv (.long (x ||| z9) :: rest) Z) : G w y cc nL rt d Post pc lv (.long z9 :: .long x :: rest) Z :=
  fun p e R s m args below meth c H locs cells slots ls hx hw hl => lv_lor hx.1 hx.2.1 hdg (k1 p e R s m args below meth c H locs cells slots ls hx hw hl)
theorem g_lxor {x z9 : Int64} (hdg : decode cc pc = .ok (.lxor, 1)) (k1 : G w y cc nL rt d Post (pc + 1) lv (.long (x ^^^ z9) :: rest) Z) : G w y cc nL rt d Post pc lv (.long z9 :: .long x :: rest) Z :=
  fun p e R s m args below meth c H locs cells slots ls hx hw hl => lv_lxor hx.1 hx.2.1 hdg (k1 p e R s m args below meth c H locs cells slots ls hx hw hl)
theorem g_ldiv {x z9 : Int64} (hdg : decode cc pc = .ok (.ldiv, 1)) (hne : ¬ z9 = 0) (k1 : G w y cc nL rt d Post (pc + 1) lv (.long (x / z9) :: rest) Z) : G w y cc nL rt d Post pc lv (.long z9 :: .long x :: rest) Z :=
  fun p e R s m args below meth c H locs cells slots ls hx hw hl => lv_ldiv hx.1 hx.2.1 hdg hne (k1 p e R s m args below meth c H locs cells slots ls hx hw hl)
theorem g_lrem {x z9 : Int64} (hdg : decode cc pc = .ok (.lrem, 1)) (hne : ¬ z9 = 0) (k1 : G w y cc nL rt d Post (pc + 1) lv (.long (x - x / z9 * z9) :: rest) Z) : G w y cc nL rt d Post pc lv (.long z9 :: .long x :: rest) Z :=
  fun p e R s m args below meth c H locs cells slots ls hx hw hl => lv_lrem hx.1 hx.2.1 hdg hne (k1 p e R s m args below meth c H locs cells slots ls hx hw hl)
theorem g_lneg {x : Int64} (hdg : decode cc pc = .ok (.lneg, 1)) (k1 : G w y cc nL rt d Post (pc + 1) lv (.long (-x) :: rest) Z) : G w y cc nL rt d Post pc lv (.long x :: rest) Z :=
  fun p e R s m args below meth c H locs cells slots ls hx hw hl => lv_lneg hx.1 hx.2.1 hdg (k1 p e R s m args below meth c H locs cells slots ls hx hw hl)
theorem g_ishl {x z9 : Int32} (hdg : decode cc pc = .ok (.ishl, 1)) (k1 : G w y cc nL rt d Post (pc + 1) lv (.int (x <<< (z9 &&& 31)) :: rest) Z) : G w y cc nL rt d Post pc lv (.int z9 :: .int x :: rest) Z :=
  fun p e R s m args below meth c H locs cells slots ls hx hw hl => lv_ishl hx.1 hx.2.1 hdg (k1 p e R s m args below meth c H locs cells slots ls hx hw hl)
theorem g_ishr {x z9 : Int32} (hdg : decode cc pc = .ok (.ishr, 1)) (k1 : G w y cc nL rt d Post (pc + 1) lv (.int (x >>> (z9 &&& 31)) :: rest) Z) : G w y cc nL rt d Post pc lv (.int z9 :: .int x :: rest) Z :=
  fun p e R s m args below meth c H locs cells slots ls hx hw hl => lv_ishr hx.1 hx.2.1 hdg (k1 p e R s m args below meth c H locs cells slots ls hx hw hl)
theorem g_i2l {x : Int32} {v : Int64} (hdg : decode cc pc = .ok (.i2l, 1)) (hv : x.toInt64 = v) (k1 : G w y cc nL rt d Post (pc + 1) lv (.long v :: rest) Z) : G w y cc nL rt d Post pc lv (.int x :: rest) Z :=
  fun p e R s m args below meth c H locs cells slots ls hx hw hl => lv_i2l hx.1 hx.2.1 hdg hv (k1 p e R s m args below meth c H locs cells slots ls hx hw hl)
theorem g_l2i {x : Int64} {v : Int32} (hdg : decode cc pc = .ok (.l2i, 1)) (hv : x.toInt32 = v) (k1 : G w y cc nL rt d Post (pc + 1) lv (.int v :: rest) Z) : G w y cc nL rt d Post pc lv (.long x :: rest) Z :=
  fun p e R s m args below meth c H locs cells slots ls hx hw hl => lv_l2i hx.1 hx.2.1 hdg hv (k1 p e R s m args below meth c H locs cells slots ls hx hw hl)
theorem g_i2b {x : Int32} {v : Int32} (hdg : decode cc pc = .ok (.i2b, 1)) (hv : x.toInt8.toInt32 = v) (k1 : G w y cc nL rt d Post (pc + 1) lv (.int v :: rest) Z) : G w y cc nL rt d Post pc lv (.int x :: rest) Z :=
  fun p e R s m args below meth c H locs cells slots ls hx hw hl => lv_i2b hx.1 hx.2.1 hdg hv (k1 p e R s m args below meth c H locs cells slots ls hx hw hl)
theorem g_i2s {x : Int32} {v : Int32} (hdg : decode cc pc = .ok (.i2s, 1)) (hv : x.toInt16.toInt32 = v) (k1 : G w y cc nL rt d Post (pc + 1) lv (.int v :: rest) Z) : G w y cc nL rt d Post pc lv (.int x :: rest) Z :=
  fun p e R s m args below meth c H locs cells slots ls hx hw hl => lv_i2s hx.1 hx.2.1 hdg hv (k1 p e R s m args below meth c H locs cells slots ls hx hw hl)
theorem g_i2c {x : Int32} {v : Int32} (hdg : decode cc pc = .ok (.i2c, 1)) (hv : (x.toUInt32 % 65536).toInt32 = v) (k1 : G w y cc nL rt d Post (pc + 1) lv (.int v :: rest) Z) : G w y cc nL rt d Post pc lv (.int x :: rest) Z :=
  fun p e R s m args below meth c H locs cells slots ls hx hw hl => lv_i2c hx.1 hx.2.1 hdg hv (k1 p e R s m args below meth c H locs cells slots ls hx hw hl)
theorem g_iushr {x z9 v : Int32} (hdg : decode cc pc = .ok (.iushr, 1)) (hv : (x.toUInt32 >>> (z9.toUInt32 &&& Int32.toUInt32 31)).toInt32 = v) (k1 : G w y cc nL rt d Post (pc + 1) lv (.int v :: rest) Z) : G w y cc nL rt d Post pc lv (.int z9 :: .int x :: rest) Z :=
  fun p e R s m args below meth c H locs cells slots ls hx hw hl => lv_iushr hx.1 hx.2.1 hdg hv (k1 p e R s m args below meth c H locs cells slots ls hx hw hl)
theorem g_lushr {x v : Int64} {z9 : Int32} (hdg : decode cc pc = .ok (.lushr, 1)) (hv : (x.toUInt64 >>> (z9.toInt64.toUInt64 &&& Int64.toUInt64 63)).toInt64 = v) (k1 : G w y cc nL rt d Post (pc + 1) lv (.long v :: rest) Z) : G w y cc nL rt d Post pc lv (.int z9 :: .long x :: rest) Z :=
  fun p e R s m args below meth c H locs cells slots ls hx hw hl => lv_lushr hx.1 hx.2.1 hdg hv (k1 p e R s m args below meth c H locs cells slots ls hx hw hl)
theorem g_lshl {x v : Int64} {z9 : Int32} (hdg : decode cc pc = .ok (.lshl, 1)) (hv : x <<< (z9.toInt64 &&& 63) = v) (k1 : G w y cc nL rt d Post (pc + 1) lv (.long v :: rest) Z) : G w y cc nL rt d Post pc lv (.int z9 :: .long x :: rest) Z :=
  fun p e R s m args below meth c H locs cells slots ls hx hw hl => lv_lshl hx.1 hx.2.1 hdg hv (k1 p e R s m args below meth c H locs cells slots ls hx hw hl)
theorem g_lshr {x v : Int64} {z9 : Int32} (hdg : decode cc pc = .ok (.lshr, 1)) (hv : x >>> (z9.toInt64 &&& 63) = v) (k1 : G w y cc nL rt d Post (pc + 1) lv (.long v :: rest) Z) : G w y cc nL rt d Post pc lv (.int z9 :: .long x :: rest) Z :=
  fun p e R s m args below meth c H locs cells slots ls hx hw hl => lv_lshr hx.1 hx.2.1 hdg hv (k1 p e R s m args below meth c H locs cells slots ls hx hw hl)
theorem g_dup {va : Value} (hdg : decode cc pc = .ok (.dup, 1)) (hva : va.category = 1) (k1 : G w y cc nL rt d Post (pc + 1) lv (va :: va :: rest) Z) : G w y cc nL rt d Post pc lv (va :: rest) Z :=
  fun p e R s m args below meth c H locs cells slots ls hx hw hl => lv_dup hx.1 hx.2.1 hdg hva (k1 p e R s m args below meth c H locs cells slots ls hx hw hl)
theorem g_pop {va : Value} (hdg : decode cc pc = .ok (.pop, 1)) (hva : va.category = 1) (k1 : G w y cc nL rt d Post (pc + 1) lv (rest) Z) : G w y cc nL rt d Post pc lv (va :: rest) Z :=
  fun p e R s m args below meth c H locs cells slots ls hx hw hl => lv_pop hx.1 hx.2.1 hdg hva (k1 p e R s m args below meth c H locs cells slots ls hx hw hl)
theorem g_dup_x1 {va vb : Value} (hdg : decode cc pc = .ok (.dup_x1, 1)) (hva : va.category = 1) (hvb : vb.category = 1) (k1 : G w y cc nL rt d Post (pc + 1) lv (va :: vb :: va :: rest) Z) : G w y cc nL rt d Post pc lv (va :: vb :: rest) Z :=
  fun p e R s m args below meth c H locs cells slots ls hx hw hl => lv_dup_x1 hx.1 hx.2.1 hdg hva hvb (k1 p e R s m args below meth c H locs cells slots ls hx hw hl)
theorem g_dup_x2 {va vb vd : Value} (hdg : decode cc pc = .ok (.dup_x2, 1)) (hva : va.category = 1) (hvb : vb.category = 1) (hvd : vd.category = 1) (k1 : G w y cc nL rt d Post (pc + 1) lv (va :: vb :: vd :: va :: rest) Z) : G w y cc nL rt d Post pc lv (va :: vb :: vd :: rest) Z :=
  fun p e R s m args below meth c H locs cells slots ls hx hw hl => lv_dup_x2 hx.1 hx.2.1 hdg hva hvb hvd (k1 p e R s m args below meth c H locs cells slots ls hx hw hl)
theorem g_dup2_11 {va vb : Value} (hdg : decode cc pc = .ok (.dup2, 1)) (hva : va.category = 1) (hvb : vb.category = 1) (k1 : G w y cc nL rt d Post (pc + 1) lv (va :: vb :: va :: vb :: rest) Z) : G w y cc nL rt d Post pc lv (va :: vb :: rest) Z :=
  fun p e R s m args below meth c H locs cells slots ls hx hw hl => lv_dup2_11 hx.1 hx.2.1 hdg hva hvb (k1 p e R s m args below meth c H locs cells slots ls hx hw hl)
theorem g_dup2_2 {va : Value} (hdg : decode cc pc = .ok (.dup2, 1)) (hva : va.category = 2) (k1 : G w y cc nL rt d Post (pc + 1) lv (va :: va :: rest) Z) : G w y cc nL rt d Post pc lv (va :: rest) Z :=
  fun p e R s m args below meth c H locs cells slots ls hx hw hl => lv_dup2_2 hx.1 hx.2.1 hdg hva (k1 p e R s m args below meth c H locs cells slots ls hx hw hl)
theorem g_pop2_2 {va : Value} (hdg : decode cc pc = .ok (.pop2, 1)) (hva : va.category = 2) (k1 : G w y cc nL rt d Post (pc + 1) lv (rest) Z) : G w y cc nL rt d Post pc lv (va :: rest) Z :=
  fun p e R s m args below meth c H locs cells slots ls hx hw hl => lv_pop2_2 hx.1 hx.2.1 hdg hva (k1 p e R s m args below meth c H locs cells slots ls hx hw hl)
theorem g_pop2_11 {va vb : Value} (hdg : decode cc pc = .ok (.pop2, 1)) (hva : va.category = 1) (hvb : vb.category = 1) (k1 : G w y cc nL rt d Post (pc + 1) lv (rest) Z) : G w y cc nL rt d Post pc lv (va :: vb :: rest) Z :=
  fun p e R s m args below meth c H locs cells slots ls hx hw hl => lv_pop2_11 hx.1 hx.2.1 hdg hva hvb (k1 p e R s m args below meth c H locs cells slots ls hx hw hl)
theorem g_if_eq {x : Int32} {off : Int} {tgt : Nat} (hdg : decode cc pc = .ok (.ifCond .eq off, 3)) (ht : (pc : Int) + off = (tgt : Int)) (kt1 : x = 0 → G w y cc nL rt d Post tgt lv rest Z) (kf1 : ¬ x = 0 → G w y cc nL rt d Post (pc + 3) lv rest Z) : G w y cc nL rt d Post pc lv (.int x :: rest) Z :=
  fun p e R s m args below meth c H locs cells slots ls hx hw hl => lv_if_eq hx.1 hx.2.1 hdg ht (fun h9 => kt1 h9 p e R s m args below meth c H locs cells slots ls hx hw hl) (fun h9 => kf1 h9 p e R s m args below meth c H locs cells slots ls hx hw hl)
theorem g_if_ne {x : Int32} {off : Int} {tgt : Nat} (hdg : decode cc pc = .ok (.ifCond .ne off, 3)) (ht : (pc : Int) + off = (tgt : Int)) (kt1 : ¬ x = 0 → G w y cc nL rt d Post tgt lv rest Z) (kf1 : x = 0 → G w y cc nL rt d Post (pc + 3) lv rest Z) : G w y cc nL rt d Post pc lv (.int x :: rest) Z :=
  fun p e R s m args below meth c H locs cells slots ls hx hw hl => lv_if_ne hx.1 hx.2.1 hdg ht (fun h9 => kt1 h9 p e R s m args below meth c H locs cells slots ls hx hw hl) (fun h9 => kf1 h9 p e R s m args below meth c H locs cells slots ls hx hw hl)
theorem g_if_lt {x : Int32} {off : Int} {tgt : Nat} (hdg : decode cc pc = .ok (.ifCond .lt off, 3)) (ht : (pc : Int) + off = (tgt : Int)) (kt1 : x < 0 → G w y cc nL rt d Post tgt lv rest Z) (kf1 : ¬ x < 0 → G w y cc nL rt d Post (pc + 3) lv rest Z) : G w y cc nL rt d Post pc lv (.int x :: rest) Z :=
  fun p e R s m args below meth c H locs cells slots ls hx hw hl => lv_if_lt hx.1 hx.2.1 hdg ht (fun h9 => kt1 h9 p e R s m args below meth c H locs cells slots ls hx hw hl) (fun h9 => kf1 h9 p e R s m args below meth c H locs cells slots ls hx hw hl)
theorem g_if_ge {x : Int32} {off : Int} {tgt : Nat} (hdg : decode cc pc = .ok (.ifCond .ge off, 3)) (ht : (pc : Int) + off = (tgt : Int)) (kt1 : 0 ≤ x → G w y cc nL rt d Post tgt lv rest Z) (kf1 : ¬ 0 ≤ x → G w y cc nL rt d Post (pc + 3) lv rest Z) : G w y cc nL rt d Post pc lv (.int x :: rest) Z :=
  fun p e R s m args below meth c H locs cells slots ls hx hw hl => lv_if_ge hx.1 hx.2.1 hdg ht (fun h9 => kt1 h9 p e R s m args below meth c H locs cells slots ls hx hw hl) (fun h9 => kf1 h9 p e R s m args below meth c H locs cells slots ls hx hw hl)
theorem g_if_gt {x : Int32} {off : Int} {tgt : Nat} (hdg : decode cc pc = .ok (.ifCond .gt off, 3)) (ht : (pc : Int) + off = (tgt : Int)) (kt1 : 0 < x → G w y cc nL rt d Post tgt lv rest Z) (kf1 : ¬ 0 < x → G w y cc nL rt d Post (pc + 3) lv rest Z) : G w y cc nL rt d Post pc lv (.int x :: rest) Z :=
  fun p e R s m args below meth c H locs cells slots ls hx hw hl => lv_if_gt hx.1 hx.2.1 hdg ht (fun h9 => kt1 h9 p e R s m args below meth c H locs cells slots ls hx hw hl) (fun h9 => kf1 h9 p e R s m args below meth c H locs cells slots ls hx hw hl)
theorem g_if_le {x : Int32} {off : Int} {tgt : Nat} (hdg : decode cc pc = .ok (.ifCond .le off, 3)) (ht : (pc : Int) + off = (tgt : Int)) (kt1 : x ≤ 0 → G w y cc nL rt d Post tgt lv rest Z) (kf1 : ¬ x ≤ 0 → G w y cc nL rt d Post (pc + 3) lv rest Z) : G w y cc nL rt d Post pc lv (.int x :: rest) Z :=
  fun p e R s m args below meth c H locs cells slots ls hx hw hl => lv_if_le hx.1 hx.2.1 hdg ht (fun h9 => kt1 h9 p e R s m args below meth c H locs cells slots ls hx hw hl) (fun h9 => kf1 h9 p e R s m args below meth c H locs cells slots ls hx hw hl)
theorem g_icmp_eq {x z9 : Int32} {off : Int} {tgt : Nat} (hdg : decode cc pc = .ok (.if_icmp .eq off, 3)) (ht : (pc : Int) + off = (tgt : Int)) (kt1 : x = z9 → G w y cc nL rt d Post tgt lv rest Z) (kf1 : ¬ x = z9 → G w y cc nL rt d Post (pc + 3) lv rest Z) : G w y cc nL rt d Post pc lv (.int z9 :: .int x :: rest) Z :=
  fun p e R s m args below meth c H locs cells slots ls hx hw hl => lv_icmp_eq hx.1 hx.2.1 hdg ht (fun h9 => kt1 h9 p e R s m args below meth c H locs cells slots ls hx hw hl) (fun h9 => kf1 h9 p e R s m args below meth c H locs cells slots ls hx hw hl)
theorem g_icmp_ne {x z9 : Int32} {off : Int} {tgt : Nat} (hdg : decode cc pc = .ok (.if_icmp .ne off, 3)) (ht : (pc : Int) + off = (tgt : Int)) (kt1 : ¬ x = z9 → G w y cc nL rt d Post tgt lv rest Z) (kf1 : x = z9 → G w y cc nL rt d Post (pc + 3) lv rest Z) : G w y cc nL rt d Post pc lv (.int z9 :: .int x :: rest) Z :=
  fun p e R s m args below meth c H locs cells slots ls hx hw hl => lv_icmp_ne hx.1 hx.2.1 hdg ht (fun h9 => kt1 h9 p e R s m args below meth c H locs cells slots ls hx hw hl) (fun h9 => kf1 h9 p e R s m args below meth c H locs cells slots ls hx hw hl)
theorem g_icmp_lt {x z9 : Int32} {off : Int} {tgt : Nat} (hdg : decode cc pc = .ok (.if_icmp .lt off, 3)) (ht : (pc : Int) + off = (tgt : Int)) (kt1 : x < z9 → G w y cc nL rt d Post tgt lv rest Z) (kf1 : ¬ x < z9 → G w y cc nL rt d Post (pc + 3) lv rest Z) : G w y cc nL rt d Post pc lv (.int z9 :: .int x :: rest) Z :=
  fun p e R s m args below meth c H locs cells slots ls hx hw hl => lv_icmp_lt hx.1 hx.2.1 hdg ht (fun h9 => kt1 h9 p e R s m args below meth c H locs cells slots ls hx hw hl) (fun h9 => kf1 h9 p e R s m args below meth c H locs cells slots ls hx hw hl)
theorem g_icmp_ge {x z9 : Int32} {off : Int} {tgt : Nat} (hdg : decode cc pc = .ok (.if_icmp .ge off, 3)) (ht : (pc : Int) + off = (tgt : Int)) (kt1 : z9 ≤ x → G w y cc nL rt d Post tgt lv rest Z) (kf1 : ¬ z9 ≤ x → G w y cc nL rt d Post (pc + 3) lv rest Z) : G w y cc nL rt d Post pc lv (.int z9 :: .int x :: rest) Z :=
  fun p e R s m args below meth c H locs cells slots ls hx hw hl => lv_icmp_ge hx.1 hx.2.1 hdg ht (fun h9 => kt1 h9 p e R s m args below meth c H locs cells slots ls hx hw hl) (fun h9 => kf1 h9 p e R s m args below meth c H locs cells slots ls hx hw hl)
theorem g_icmp_gt {x z9 : Int32} {off : Int} {tgt : Nat} (hdg : decode cc pc = .ok (.if_icmp .gt off, 3)) (ht : (pc : Int) + off = (tgt : Int)) (kt1 : z9 < x → G w y cc nL rt d Post tgt lv rest Z) (kf1 : ¬ z9 < x → G w y cc nL rt d Post (pc + 3) lv rest Z) : G w y cc nL rt d Post pc lv (.int z9 :: .int x :: rest) Z :=
  fun p e R s m args below meth c H locs cells slots ls hx hw hl => lv_icmp_gt hx.1 hx.2.1 hdg ht (fun h9 => kt1 h9 p e R s m args below meth c H locs cells slots ls hx hw hl) (fun h9 => kf1 h9 p e R s m args below meth c H locs cells slots ls hx hw hl)
theorem g_icmp_le {x z9 : Int32} {off : Int} {tgt : Nat} (hdg : decode cc pc = .ok (.if_icmp .le off, 3)) (ht : (pc : Int) + off = (tgt : Int)) (kt1 : x ≤ z9 → G w y cc nL rt d Post tgt lv rest Z) (kf1 : ¬ x ≤ z9 → G w y cc nL rt d Post (pc + 3) lv rest Z) : G w y cc nL rt d Post pc lv (.int z9 :: .int x :: rest) Z :=
  fun p e R s m args below meth c H locs cells slots ls hx hw hl => lv_icmp_le hx.1 hx.2.1 hdg ht (fun h9 => kt1 h9 p e R s m args below meth c H locs cells slots ls hx hw hl) (fun h9 => kf1 h9 p e R s m args below meth c H locs cells slots ls hx hw hl)
theorem g_goto {off : Int} {tgt : Nat} (hdg : decode cc pc = .ok (.goto off, 3)) (ht : (pc : Int) + off = (tgt : Int)) (k1 : G w y cc nL rt d Post tgt lv rest Z) : G w y cc nL rt d Post pc lv rest Z :=
  fun p e R s m args below meth c H locs cells slots ls hx hw hl => lv_goto hx.1 hx.2.1 hdg ht (k1 p e R s m args below meth c H locs cells slots ls hx hw hl)
theorem g_ifnonnull {x : Nat} {off : Int} {tgt : Nat} (hdg : decode cc pc = .ok (.ifnonnull off, 3)) (ht : (pc : Int) + off = (tgt : Int)) (k1 : G w y cc nL rt d Post tgt lv rest Z) : G w y cc nL rt d Post pc lv (.ref x :: rest) Z :=
  fun p e R s m args below meth c H locs cells slots ls hx hw hl => lv_ifnonnull hx.1 hx.2.1 hdg ht (k1 p e R s m args below meth c H locs cells slots ls hx hw hl)
theorem g_ifnull {x : Nat} {off : Int} (hdg : decode cc pc = .ok (.ifnull off, 3)) (k1 : G w y cc nL rt d Post (pc + 3) lv rest Z) : G w y cc nL rt d Post pc lv (.ref x :: rest) Z :=
  fun p e R s m args below meth c H locs cells slots ls hx hw hl => lv_ifnull hx.1 hx.2.1 hdg (k1 p e R s m args below meth c H locs cells slots ls hx hw hl)
theorem g_null (hdg : decode cc pc = .ok (.aconst_null, 1)) (k1 : G w y cc nL rt d Post (pc + 1) lv (.null :: rest) Z) : G w y cc nL rt d Post pc lv rest Z :=
  fun p e R s m args below meth c H locs cells slots ls hx hw hl => lv_null hx.1 hx.2.1 hdg (k1 p e R s m args below meth c H locs cells slots ls hx hw hl)
theorem g_ifnullN {off : Int} {tgt : Nat} (hdg : decode cc pc = .ok (.ifnull off, 3)) (ht : (pc : Int) + off = (tgt : Int)) (k1 : G w y cc nL rt d Post tgt lv rest Z) : G w y cc nL rt d Post pc lv (.null :: rest) Z :=
  fun p e R s m args below meth c H locs cells slots ls hx hw hl => lv_ifnullN hx.1 hx.2.1 hdg ht (k1 p e R s m args below meth c H locs cells slots ls hx hw hl)
theorem g_ifnonnullN {off : Int} (hdg : decode cc pc = .ok (.ifnonnull off, 3)) (k1 : G w y cc nL rt d Post (pc + 3) lv rest Z) : G w y cc nL rt d Post pc lv (.null :: rest) Z :=
  fun p e R s m args below meth c H locs cells slots ls hx hw hl => lv_ifnonnullN hx.1 hx.2.1 hdg (k1 p e R s m args below meth c H locs cells slots ls hx hw hl)
theorem g_lookup {dflt : Int} {ps : Array (Int × Int)} {len : Nat} {x : Int32} {off : Int} {tgt : Nat} (hdg : decode cc pc = .ok (.lookupswitch dflt ps, len)) (hp : (ps.toList.zip (ps.toList.drop 1)).all (fun (a, next) => a.1 < next.1) = true) (ho : Op.lookupswitch.offset ps.toList dflt x.toInt = off) (ht : (pc : Int) + off = (tgt : Int)) (k1 : G w y cc nL rt d Post tgt lv rest Z) : G w y cc nL rt d Post pc lv (.int x :: rest) Z :=
  fun p e R s m args below meth c H locs cells slots ls hx hw hl => lv_lookup hx.1 hx.2.1 hdg hp ho ht (k1 p e R s m args below meth c H locs cells slots ls hx hw hl)
theorem g_tableOut {dflt lo hi : Int} {offs : Array Int} {len : Nat} {x : Int32} {tgt : Nat} (hdg : decode cc pc = .ok (.tableswitch dflt lo hi offs, len)) (h : x.toInt < lo ∨ hi < x.toInt) (ht : (pc : Int) + dflt = (tgt : Int)) (k1 : G w y cc nL rt d Post tgt lv rest Z) : G w y cc nL rt d Post pc lv (.int x :: rest) Z :=
  fun p e R s m args below meth c H locs cells slots ls hx hw hl => lv_tableOut hx.1 hx.2.1 hdg h ht (k1 p e R s m args below meth c H locs cells slots ls hx hw hl)
theorem g_tableIn {dflt lo hi : Int} {offs : Array Int} {len : Nat} {x : Int32} {off : Int} {tgt : Nat} (hdg : decode cc pc = .ok (.tableswitch dflt lo hi offs, len)) (h1 : ¬ x.toInt < lo) (h2 : ¬ hi < x.toInt) (ho : offs[(x.toInt - lo).toNat]? = some off) (ht : (pc : Int) + off = (tgt : Int)) (k1 : G w y cc nL rt d Post tgt lv rest Z) : G w y cc nL rt d Post pc lv (.int x :: rest) Z :=
  fun p e R s m args below meth c H locs cells slots ls hx hw hl => lv_tableIn hx.1 hx.2.1 hdg h1 h2 ho ht (k1 p e R s m args below meth c H locs cells slots ls hx hw hl)
theorem g_acmp_eq {rx ry : Option Nat} {off : Int} {tgt : Nat} (hdg : decode cc pc = .ok (.if_acmp .eq off, 3)) (ht : (pc : Int) + off = (tgt : Int)) (kt1 : rx = ry → G w y cc nL rt d Post tgt lv rest Z) (kf1 : ¬ rx = ry → G w y cc nL rt d Post (pc + 3) lv rest Z) : G w y cc nL rt d Post pc lv (va_rf ry :: va_rf rx :: rest) Z :=
  fun p e R s m args below meth c H locs cells slots ls hx hw hl => lv_acmp_eq hx.1 hx.2.1 hdg ht (fun h9 => kt1 h9 p e R s m args below meth c H locs cells slots ls hx hw hl) (fun h9 => kf1 h9 p e R s m args below meth c H locs cells slots ls hx hw hl)
theorem g_acmp_ne {rx ry : Option Nat} {off : Int} {tgt : Nat} (hdg : decode cc pc = .ok (.if_acmp .ne off, 3)) (ht : (pc : Int) + off = (tgt : Int)) (kt1 : ¬ rx = ry → G w y cc nL rt d Post tgt lv rest Z) (kf1 : rx = ry → G w y cc nL rt d Post (pc + 3) lv rest Z) : G w y cc nL rt d Post pc lv (va_rf ry :: va_rf rx :: rest) Z :=
  fun p e R s m args below meth c H locs cells slots ls hx hw hl => lv_acmp_ne hx.1 hx.2.1 hdg ht (fun h9 => kt1 h9 p e R s m args below meth c H locs cells slots ls hx hw hl) (fun h9 => kf1 h9 p e R s m args below meth c H locs cells slots ls hx hw hl)
theorem g_iload_n {k : Fin 4} {i : Nat} {x : Int32} (hdg : decode cc pc = .ok (.iload_n k, 1)) (hi : (k : Nat) = i) (n : Nat) (hk : lv[n]? = some (i, .int x)) (k1 : G w y cc nL rt d Post (pc + 1) lv (.int x :: rest) Z) : G w y cc nL rt d Post pc lv (rest) Z :=
  fun p e R s m args below meth c H locs cells slots ls hx hw hl => lv_iload_n hx.1 hx.2.1 hdg hi (lv_at hl n hk) (k1 p e R s m args below meth c H locs cells slots ls hx hw hl)
theorem g_iload {i : Nat} {x : Int32} (hdg : decode cc pc = .ok (.iload i, 2)) (n : Nat) (hk : lv[n]? = some (i, .int x)) (k1 : G w y cc nL rt d Post (pc + 2) lv (.int x :: rest) Z) : G w y cc nL rt d Post pc lv (rest) Z :=
  fun p e R s m args below meth c H locs cells slots ls hx hw hl => lv_iload hx.1 hx.2.1 hdg (lv_at hl n hk) (k1 p e R s m args below meth c H locs cells slots ls hx hw hl)
theorem g_lload_n {k : Fin 4} {i : Nat} {x : Int64} (hdg : decode cc pc = .ok (.lload_n k, 1)) (hi : (k : Nat) = i) (n : Nat) (hk : lv[n]? = some (i, .long x)) (k1 : G w y cc nL rt d Post (pc + 1) lv (.long x :: rest) Z) : G w y cc nL rt d Post pc lv (rest) Z :=
  fun p e R s m args below meth c H locs cells slots ls hx hw hl => lv_lload_n hx.1 hx.2.1 hdg hi (lv_at hl n hk) (k1 p e R s m args below meth c H locs cells slots ls hx hw hl)
theorem g_lload {i : Nat} {x : Int64} (hdg : decode cc pc = .ok (.lload i, 2)) (n : Nat) (hk : lv[n]? = some (i, .long x)) (k1 : G w y cc nL rt d Post (pc + 2) lv (.long x :: rest) Z) : G w y cc nL rt d Post pc lv (rest) Z :=
  fun p e R s m args below meth c H locs cells slots ls hx hw hl => lv_lload hx.1 hx.2.1 hdg (lv_at hl n hk) (k1 p e R s m args below meth c H locs cells slots ls hx hw hl)
theorem g_aload_n {k : Fin 4} {i : Nat} {x : Nat} (hdg : decode cc pc = .ok (.aload_n k, 1)) (hi : (k : Nat) = i) (n : Nat) (hk : lv[n]? = some (i, .ref x)) (k1 : G w y cc nL rt d Post (pc + 1) lv (.ref x :: rest) Z) : G w y cc nL rt d Post pc lv (rest) Z :=
  fun p e R s m args below meth c H locs cells slots ls hx hw hl => lv_aload_n hx.1 hx.2.1 hdg hi (lv_at hl n hk) (k1 p e R s m args below meth c H locs cells slots ls hx hw hl)
theorem g_aload {i : Nat} {x : Nat} (hdg : decode cc pc = .ok (.aload i, 2)) (n : Nat) (hk : lv[n]? = some (i, .ref x)) (k1 : G w y cc nL rt d Post (pc + 2) lv (.ref x :: rest) Z) : G w y cc nL rt d Post pc lv (rest) Z :=
  fun p e R s m args below meth c H locs cells slots ls hx hw hl => lv_aload hx.1 hx.2.1 hdg (lv_at hl n hk) (k1 p e R s m args below meth c H locs cells slots ls hx hw hl)
theorem g_aload_nN {k : Fin 4} {i : Nat} (hdg : decode cc pc = .ok (.aload_n k, 1)) (hi : (k : Nat) = i) (n : Nat) (hk : lv[n]? = some (i, .null)) (k1 : G w y cc nL rt d Post (pc + 1) lv (.null :: rest) Z) : G w y cc nL rt d Post pc lv (rest) Z :=
  fun p e R s m args below meth c H locs cells slots ls hx hw hl => lv_aload_nN hx.1 hx.2.1 hdg hi (lv_at hl n hk) (k1 p e R s m args below meth c H locs cells slots ls hx hw hl)
theorem g_aloadN {i : Nat} (hdg : decode cc pc = .ok (.aload i, 2)) (n : Nat) (hk : lv[n]? = some (i, .null)) (k1 : G w y cc nL rt d Post (pc + 2) lv (.null :: rest) Z) : G w y cc nL rt d Post pc lv (rest) Z :=
  fun p e R s m args below meth c H locs cells slots ls hx hw hl => lv_aloadN hx.1 hx.2.1 hdg (lv_at hl n hk) (k1 p e R s m args below meth c H locs cells slots ls hx hw hl)
theorem g_istore_n {k : Fin 4} {i : Nat} {x : Int32} {lv' : List (Nat × Value)} (hdg : decode cc pc = .ok (.istore_n k, 1)) (hi : (k : Nat) = i) (hn : i < nL) (hlv : (i, Value.int x) :: lv.filter (fun q => !(q.1 == i) && !(q.1 + 1 == i && q.2.category == 2)) = lv') (kk : G w y cc nL rt d Post (pc + 1) lv' rest Z) : G w y cc nL rt d Post pc lv (.int x :: rest) Z :=
  fun p e R s m args below meth c H locs cells slots ls hx hw hl => lv_istore_n hx.1 hx.2.1 hdg hi hl hn hlv (fun ls' hl' => kk p e R s m args below meth c H locs cells slots ls' hx hw hl')
theorem g_istore {i : Nat} {x : Int32} {lv' : List (Nat × Value)} (hdg : decode cc pc = .ok (.istore i, 2)) (hn : i < nL) (hlv : (i, Value.int x) :: lv.filter (fun q => !(q.1 == i) && !(q.1 + 1 == i && q.2.category == 2)) = lv') (kk : G w y cc nL rt d Post (pc + 2) lv' rest Z) : G w y cc nL rt d Post pc lv (.int x :: rest) Z :=
  fun p e R s m args below meth c H locs cells slots ls hx hw hl => lv_istore hx.1 hx.2.1 hdg hl hn hlv (fun ls' hl' => kk p e R s m args below meth c H locs cells slots ls' hx hw hl')
theorem g_lstore_n {k : Fin 4} {i : Nat} {x : Int64} {lv' : List (Nat × Value)} (hdg : decode cc pc = .ok (.lstore_n k, 1)) (hi : (k : Nat) = i) (hn : i + 1 < nL) (hlv : (i, Value.long x) :: lv.filter (fun q => !(q.1 == i) && (!(q.1 == i + 1) && !(q.1 + 1 == i && q.2.category == 2))) = lv') (kk : G w y cc nL rt d Post (pc + 1) lv' rest Z) : G w y cc nL rt d Post pc lv (.long x :: rest) Z :=
  fun p e R s m args below meth c H locs cells slots ls hx hw hl => lv_lstore_n hx.1 hx.2.1 hdg hi hl hn hlv (fun ls' hl' => kk p e R s m args below meth c H locs cells slots ls' hx hw hl')
theorem g_lstore {i : Nat} {x : Int64} {lv' : List (Nat × Value)} (hdg : decode cc pc = .ok (.lstore i, 2)) (hn : i + 1 < nL) (hlv : (i, Value.long x) :: lv.filter (fun q => !(q.1 == i) && (!(q.1 == i + 1) && !(q.1 + 1 == i && q.2.category == 2))) = lv') (kk : G w y cc nL rt d Post (pc + 2) lv' rest Z) : G w y cc nL rt d Post pc lv (.long x :: rest) Z :=
  fun p e R s m args below meth c H locs cells slots ls hx hw hl => lv_lstore hx.1 hx.2.1 hdg hl hn hlv (fun ls' hl' => kk p e R s m args below meth c H locs cells slots ls' hx hw hl')
theorem g_astore_n {k : Fin 4} {i : Nat} {x : Nat} {lv' : List (Nat × Value)} (hdg : decode cc pc = .ok (.astore_n k, 1)) (hi : (k : Nat) = i) (hn : i < nL) (hlv : (i, Value.ref x) :: lv.filter (fun q => !(q.1 == i) && !(q.1 + 1 == i && q.2.category == 2)) = lv') (kk : G w y cc nL rt d Post (pc + 1) lv' rest Z) : G w y cc nL rt d Post pc lv (.ref x :: rest) Z :=
  fun p e R s m args below meth c H locs cells slots ls hx hw hl => lv_astore_n hx.1 hx.2.1 hdg hi hl hn hlv (fun ls' hl' => kk p e R s m args below meth c H locs cells slots ls' hx hw hl')
theorem g_astore {i : Nat} {x : Nat} {lv' : List (Nat × Value)} (hdg : decode cc pc = .ok (.astore i, 2)) (hn : i < nL) (hlv : (i, Value.ref x) :: lv.filter (fun q => !(q.1 == i) && !(q.1 + 1 == i && q.2.category == 2)) = lv') (kk : G w y cc nL rt d Post (pc + 2) lv' rest Z) : G w y cc nL rt d Post pc lv (.ref x :: rest) Z :=
  fun p e R s m args below meth c H locs cells slots ls hx hw hl => lv_astore hx.1 hx.2.1 hdg hl hn hlv (fun ls' hl' => kk p e R s m args below meth c H locs cells slots ls' hx hw hl')
theorem g_astore_nN {k : Fin 4} {i : Nat} {lv' : List (Nat × Value)} (hdg : decode cc pc = .ok (.astore_n k, 1)) (hi : (k : Nat) = i) (hn : i < nL) (hlv : (i, Value.null) :: lv.filter (fun q => !(q.1 == i) && !(q.1 + 1 == i && q.2.category == 2)) = lv') (kk : G w y cc nL rt d Post (pc + 1) lv' rest Z) : G w y cc nL rt d Post pc lv (.null :: rest) Z :=
  fun p e R s m args below meth c H locs cells slots ls hx hw hl => lv_astore_nN hx.1 hx.2.1 hdg hi hl hn hlv (fun ls' hl' => kk p e R s m args below meth c H locs cells slots ls' hx hw hl')
theorem g_astoreN {i : Nat} {lv' : List (Nat × Value)} (hdg : decode cc pc = .ok (.astore i, 2)) (hn : i < nL) (hlv : (i, Value.null) :: lv.filter (fun q => !(q.1 == i) && !(q.1 + 1 == i && q.2.category == 2)) = lv') (kk : G w y cc nL rt d Post (pc + 2) lv' rest Z) : G w y cc nL rt d Post pc lv (.null :: rest) Z :=
  fun p e R s m args below meth c H locs cells slots ls hx hw hl => lv_astoreN hx.1 hx.2.1 hdg hl hn hlv (fun ls' hl' => kk p e R s m args below meth c H locs cells slots ls' hx hw hl')
theorem g_iinc {i k : Nat} {n : Int} {x v : Int32} {lv' : List (Nat × Value)} (hdg : decode cc pc = .ok (.iinc i n, 3)) (hk : lv[k]? = some (i, .int x)) (hv : x + Int32.ofInt n = v) (hn : i < nL) (hlv : (i, Value.int v) :: lv.filter (fun q => !(q.1 == i) && !(q.1 + 1 == i && q.2.category == 2)) = lv') (kk : G w y cc nL rt d Post (pc + 3) lv' rest Z) : G w y cc nL rt d Post pc lv rest Z :=
  fun p e R s m args below meth c H locs cells slots ls hx hw hl => lv_iinc hx.1 hx.2.1 hdg hl hk hv hn hlv (fun ls' hl' => kk p e R s m args below meth c H locs cells slots ls' hx hw hl')
theorem g_castN {index : Nat} (hdg : decode cc pc = .ok (.checkcast index, 3)) (k1 : G w y cc nL rt d Post (pc + 3) lv (.null :: rest) Z) : G w y cc nL rt d Post pc lv (.null :: rest) Z :=
  fun p e R s m args below meth c H locs cells slots ls hx hw hl => lv_castN hx.1 hx.2.1 hdg (k1 p e R s m args below meth c H locs cells slots ls hx hw hl)
theorem g_instN {index : Nat} (hdg : decode cc pc = .ok (.instanceof index, 3)) (k1 : G w y cc nL rt d Post (pc + 3) lv (.int 0 :: rest) Z) : G w y cc nL rt d Post pc lv (.null :: rest) Z :=
  fun p e R s m args below meth c H locs cells slots ls hx hw hl => lv_instN hx.1 hx.2.1 hdg (k1 p e R s m args below meth c H locs cells slots ls hx hw hl)
theorem g_ldc {index : Nat} {v : Int32} (hconst : (Jvm.Cond.constant y.cls index v) ∈ wz) (hdg : decode cc pc = .ok (.ldc index, 2)) (k1 : G w y cc nL rt d Post (pc + 2) lv (.int v :: rest) Z) : G w y cc nL rt d Post pc lv rest Z :=
  fun p e R s m args below meth c H locs cells slots ls hx hw hl => lv_ldc hx.1 hx.2.1 hx.2.2.2.1 (hx.2.2.2.2.1 _ hconst) hdg (k1 p e R s m args below meth c H locs cells slots ls hx hw hl)
theorem g_ldc2 {index : Nat} {v : Int64} (hconst : (Jvm.Cond.constantLong y.cls index v) ∈ wz) (hdg : decode cc pc = .ok (.ldc2_w index, 3)) (k1 : G w y cc nL rt d Post (pc + 3) lv (.long v :: rest) Z) : G w y cc nL rt d Post pc lv rest Z :=
  fun p e R s m args below meth c H locs cells slots ls hx hw hl => lv_ldc2 hx.1 hx.2.1 hx.2.2.2.1 (hx.2.2.2.2.1 _ hconst) hdg (k1 p e R s m args below meth c H locs cells slots ls hx hw hl)
theorem g_lcmp {x z9 : Int64} (hdg : decode cc pc = .ok (.lcmp, 1)) (k1 : G w y cc nL rt d Post (pc + 1) lv (.int (lg_cmp x z9) :: rest) Z) : G w y cc nL rt d Post pc lv (.long z9 :: .long x :: rest) Z :=
  fun p e R s m args below meth c H locs cells slots ls hx hw hl => W.lcmp hx.1 hx.2.1 hdg (k1 p e R s m args below meth c H locs cells slots ls hx hw hl)
/-- a reference, null or not, from and to a local -/
theorem g_aload_nq {k : Fin 4} {i : Nat} {v : Value} (hdg : decode cc pc = .ok (.aload_n k, 1)) (hi : (k : Nat) = i) (n : Nat) (hk : lv[n]? = some (i, v)) (k1 : G w y cc nL rt d Post (pc + 1) lv (v :: rest) Z) (hv : v = .null ∨ ∃ a, v = .ref a := by first | exact Or.inr ⟨_, rfl⟩ | exact Or.inl rfl | exact va_rf_or _) : G w y cc nL rt d Post pc lv rest Z := by
  rcases hv with rfl | ⟨a, rfl⟩
  · exact g_aload_nN hdg hi n hk k1
  · exact g_aload_n hdg hi n hk k1
theorem g_aloadq {i : Nat} {v : Value} (hdg : decode cc pc = .ok (.aload i, 2)) (n : Nat) (hk : lv[n]? = some (i, v)) (k1 : G w y cc nL rt d Post (pc + 2) lv (v :: rest) Z) (hv : v = .null ∨ ∃ a, v = .ref a := by first | exact Or.inr ⟨_, rfl⟩ | exact Or.inl rfl | exact va_rf_or _) : G w y cc nL rt d Post pc lv rest Z := by
  rcases hv with rfl | ⟨a, rfl⟩
  · exact g_aloadN hdg n hk k1
  · exact g_aload hdg n hk k1
theorem g_astore_nq {k : Fin 4} {i : Nat} {v : Value} {lv' : List (Nat × Value)} (hdg : decode cc pc = .ok (.astore_n k, 1)) (hi : (k : Nat) = i) (hn : i < nL) (hlv : (i, v) :: lv.filter (fun q => !(q.1 == i) && !(q.1 + 1 == i && q.2.category == 2)) = lv') (kk : G w y cc nL rt d Post (pc + 1) lv' rest Z) (hv : v = .null ∨ ∃ a, v = .ref a := by first | exact Or.inr ⟨_, rfl⟩ | exact Or.inl rfl | exact va_rf_or _) : G w y cc nL rt d Post pc lv (v :: rest) Z := by
  rcases hv with rfl | ⟨a, rfl⟩
  · exact g_astore_nN hdg hi hn hlv kk
  · exact g_astore_n hdg hi hn hlv kk
theorem g_astoreq {i : Nat} {v : Value} {lv' : List (Nat × Value)} (hdg : decode cc pc = .ok (.astore i, 2)) (hn : i < nL) (hlv : (i, v) :: lv.filter (fun q => !(q.1 == i) && !(q.1 + 1 == i && q.2.category == 2)) = lv') (kk : G w y cc nL rt d Post (pc + 2) lv' rest Z) (hv : v = .null ∨ ∃ a, v = .ref a := by first | exact Or.inr ⟨_, rfl⟩ | exact Or.inl rfl | exact va_rf_or _) : G w y cc nL rt d Post pc lv (v :: rest) Z := by
  rcases hv with rfl | ⟨a, rfl⟩
  · exact g_astoreN hdg hn hlv kk
  · exact g_astore hdg hn hlv kk
theorem g_ifnullq {r : Option Nat} {off : Int} {tgt : Nat} (hdg : decode cc pc = .ok (.ifnull off, 3)) (ht : (pc : Int) + off = (tgt : Int)) (kt1 : r = none → G w y cc nL rt d Post tgt lv rest Z) (kf1 : ∀ a, r = some a → G w y cc nL rt d Post (pc + 3) lv rest Z) : G w y cc nL rt d Post pc lv (va_rf r :: rest) Z := by
  cases r with
  | none => exact g_ifnullN hdg ht (kt1 rfl)
  | some a => exact g_ifnull hdg (kf1 a rfl)
theorem g_ifnonnullq {r : Option Nat} {off : Int} {tgt : Nat} (hdg : decode cc pc = .ok (.ifnonnull off, 3)) (ht : (pc : Int) + off = (tgt : Int)) (kt1 : ∀ a, r = some a → G w y cc nL rt d Post tgt lv rest Z) (kf1 : r = none → G w y cc nL rt d Post (pc + 3) lv rest Z) : G w y cc nL rt d Post pc lv (va_rf r :: rest) Z := by
  cases r with
  | none => exact g_ifnonnullN hdg (kf1 rfl)
  | some a => exact g_ifnonnull hdg ht (kt1 a rfl)
theorem g_get {idx ci k a : Nat} {fs : List Value} {v : Value} (hdg : decode cc pc = .ok (.getfield idx, 3)) (F : zF y.cls idx ci k) (h : zhs Z a (.inr (ci, fs))) (hv : fs[k]? = some v) (k1 : G w y cc nL rt d Post (pc + 3) lv (v :: rest) Z) : G w y cc nL rt d Post pc lv (.ref a :: rest) Z :=
  fun p e R s m args below meth c H locs cells slots ls hx hw hl => by
    obtain ⟨C, T, N, hc, hk, hin, hlink⟩ := F
    obtain ⟨q0, hq⟩ := zpos h
    exact va_get (D := w.2.1) hx.1 hx.2.1 hx.2.2.2.2.1 hin hx.2.2.2.1 hw.2.1.1 hw.2.2.2.2.1 q0 hq hc k hk (hx.2.2.2.2.1 _ hlink) (fun _ h9 => h9) hv hdg (k1 p e R s m args below meth c H locs cells slots ls hx hw hl)
theorem zW.put {Z' : zZ} {R : Room} {s : State} {H H1 : Heap} {locs locs1 : List Loc} {cells slots : Nat} (hw : zW w d Z R s H locs cells slots) (hP : va_P w.2.1 vwCl (zpl Z') H1) (hD : va_D w.2.2.1 (zpl Z')) (hS : va_S w.2.2.1 s.heap H1 locs1) (h1 : Z'.2.2.1 = Z.2.2.1) (h2 : Z'.2.2.2 = Z.2.2.2) : zW w d Z' R s H1 locs1 cells slots := by
  obtain ⟨a1, a2, a3, a4, -, -, -, b1, b2, b3, b4⟩ := hw
  exact ⟨a1, a2, a3, a4, hP, hD, hS, by rw [h1]; exact b1, by rw [h2]; exact b2, b3, b4⟩
theorem g_put {idx ci k a : Nat} {fs : List Value} {v : Value} {ty : FieldType} (hdg : decode cc pc = .ok (.putfield idx, 3)) (F : zFp y.cls idx ci k ty false) (h : zhs Z a (.inr (ci, fs))) (hn : narrow ty v = v) (hfit : fits ty v = true) (hl9 : k < fs.length) (k1 : G w y cc nL rt d Post (pc + 3) lv rest (zput Z a (.inr (ci, fs.set k v)))) : G w y cc nL rt d Post pc lv (v :: .ref a :: rest) Z :=
  fun p e R s m args below meth c H locs cells slots ls hx hw hl => by
    obtain ⟨C, T, N, ty0, hc, hk, hin, hlink, hty, hnm, hfin, hd, -⟩ := F
    obtain ⟨q0, hq⟩ := zpos h
    refine va_put (D := w.2.1) hx.1 hx.2.1 hx.2.2.2.2.1 hin ty0 hty hnm hx.2.2.2.1 hw.2.1.1 hw.2.2.2.2.1 hw.2.2.2.2.2.1 hw.2.2.2.2.2.2.1 q0 hq hc k hk (hx.2.2.2.2.1 _ hlink) (fun _ h9 => h9) hfin hd hn hfit hl9 hdg (fun H1 locs1 hP hD hS => ?_)
    rw [zset hw.2.2.2.2.2.1 h hq] at hP hD
    exact k1 p e R s m args below meth c H1 locs1 cells slots ls hx (hw.put hP hD hS rfl rfl) hl
theorem g_putF {idx ci k a : Nat} {fs : List Value} {v : Value} {ty : FieldType} (hdg : decode cc pc = .ok (.putfield idx, 3)) (F : zFp y.cls idx ci k ty true) (hy : y.name = "<init>") (h : zhs Z a (.inr (ci, fs))) (hn : narrow ty v = v) (hfit : fits ty v = true) (hl9 : k < fs.length) (k1 : G w y cc nL rt d Post (pc + 3) lv rest (zput Z a (.inr (ci, fs.set k v)))) : G w y cc nL rt d Post pc lv (v :: .ref a :: rest) Z :=
  fun p e R s m args below meth c H locs cells slots ls hx hw hl => by
    obtain ⟨C, T, N, ty0, hc, hk, hin, hlink, hty, hnm, hfin, hd, hdecl⟩ := F
    obtain ⟨q0, hq⟩ := zpos h
    refine va_putF (D := w.2.1) hx.1 hx.2.1 hx.2.2.2.2.1 hin ty0 hty hnm hx.2.2.2.1 hw.2.1.1 hw.2.2.2.2.1 hw.2.2.2.2.2.1 hw.2.2.2.2.2.2.1 q0 hq hc k hk (hx.2.2.2.2.1 _ hlink) (fun _ h9 => h9) hfin ((hx.2.2.2.2.2.2.2 hy).trans hy) (hdecl rfl) hd hn hfit hl9 hdg (fun H1 locs1 hP hD hS => ?_)
    rw [zset hw.2.2.2.2.2.1 h hq] at hP hD
    exact k1 p e R s m args below meth c H1 locs1 cells slots ls hx (hw.put hP hD hS rfl rfl) hl
theorem g_iald {a n : Nat} {f : Nat → Int32} {i : Int32} (hdg : decode cc pc = .ok (.iaload, 1)) (h : zhs Z a (.inl (w.2.2.2.1 0, n, .inl f))) (hin : vp_in i n) (k1 : G w y cc nL rt d Post (pc + 1) lv (.int (f i.toNatClampNeg) :: rest) Z) : G w y cc nL rt d Post pc lv (.int i :: .ref a :: rest) Z :=
  fun p e R s m args below meth c H locs cells slots ls hx hw hl => by
    obtain ⟨q0, hq⟩ := zpos h
    exact va_iald (D := w.2.1) hx.1 hx.2.1 hw.2.1.1 hw.2.2.2.2.1 q0 0 hq rfl hin hdg (k1 p e R s m args below meth c H locs cells slots ls hx hw hl)
theorem g_lald {a n : Nat} {f : Nat → Int64} {i : Int32} (hdg : decode cc pc = .ok (.laload, 1)) (h : zhs Z a (.inl (w.2.2.2.1 1, n, .inr (.inl f)))) (hin : vp_in i n) (k1 : G w y cc nL rt d Post (pc + 1) lv (.long (f i.toNatClampNeg) :: rest) Z) : G w y cc nL rt d Post pc lv (.int i :: .ref a :: rest) Z :=
  fun p e R s m args below meth c H locs cells slots ls hx hw hl => by
    obtain ⟨q0, hq⟩ := zpos h
    exact va_lald (D := w.2.1) hx.1 hx.2.1 hw.2.1.1 hw.2.2.2.2.1 q0 1 hq rfl hin hdg (k1 p e R s m args below meth c H locs cells slots ls hx hw hl)
theorem g_zald {a n : Nat} {f : Nat → Int32} {i : Int32} (hdg : decode cc pc = .ok (.baload, 1)) (h : zhs Z a (.inl (w.2.2.2.1 2, n, .inl f))) (hin : vp_in i n) (k1 : G w y cc nL rt d Post (pc + 1) lv (.int (f i.toNatClampNeg) :: rest) Z) : G w y cc nL rt d Post pc lv (.int i :: .ref a :: rest) Z :=
  fun p e R s m args below meth c H locs cells slots ls hx hw hl => by
    obtain ⟨q0, hq⟩ := zpos h
    exact va_zald (D := w.2.1) hx.1 hx.2.1 hw.2.1.1 hw.2.2.2.2.1 q0 2 hq rfl hin hdg (k1 p e R s m args below meth c H locs cells slots ls hx hw hl)
theorem g_cald {a n : Nat} {f : Nat → Int32} {i : Int32} (hdg : decode cc pc = .ok (.caload, 1)) (h : zhs Z a (.inl (w.2.2.2.1 3, n, .inl f))) (hin : vp_in i n) (k1 : G w y cc nL rt d Post (pc + 1) lv (.int (f i.toNatClampNeg) :: rest) Z) : G w y cc nL rt d Post pc lv (.int i :: .ref a :: rest) Z :=
  fun p e R s m args below meth c H locs cells slots ls hx hw hl => by
    obtain ⟨q0, hq⟩ := zpos h
    exact va_cald (D := w.2.1) hx.1 hx.2.1 hw.2.1.1 hw.2.2.2.2.1 q0 3 hq rfl hin hdg (k1 p e R s m args below meth c H locs cells slots ls hx hw hl)
theorem g_iast {a n : Nat} {f : Nat → Int32} {i : Int32} {x : Int32} (hdg : decode cc pc = .ok (.iastore, 1)) (h : zhs Z a (.inl (w.2.2.2.1 0, n, .inl f))) (hin : vp_in i n) (k1 : G w y cc nL rt d Post (pc + 1) lv rest (zput Z a (.inl (w.2.2.2.1 0, n, .inl (upd f i.toNatClampNeg x))))) : G w y cc nL rt d Post pc lv (.int x :: .int i :: .ref a :: rest) Z :=
  fun p e R s m args below meth c H locs cells slots ls hx hw hl => by
    obtain ⟨q0, hq⟩ := zpos h
    refine va_iast (D := w.2.1) hx.1 hx.2.1 hw.2.1.1 hw.2.2.2.2.1 hw.2.2.2.2.2.1 hw.2.2.2.2.2.2.1 q0 0 hq rfl hin hdg (fun H1 locs1 hP hD hS => ?_)
    rw [zset hw.2.2.2.2.2.1 h hq] at hP hD
    exact k1 p e R s m args below meth c H1 locs1 cells slots ls hx (hw.put hP hD hS rfl rfl) hl
theorem g_last {a n : Nat} {f : Nat → Int64} {i : Int32} {x : Int64} (hdg : decode cc pc = .ok (.lastore, 1)) (h : zhs Z a (.inl (w.2.2.2.1 1, n, .inr (.inl f)))) (hin : vp_in i n) (k1 : G w y cc nL rt d Post (pc + 1) lv rest (zput Z a (.inl (w.2.2.2.1 1, n, .inr (.inl (vp_updL f i.toNatClampNeg x)))))) : G w y cc nL rt d Post pc lv (.long x :: .int i :: .ref a :: rest) Z :=
  fun p e R s m args below meth c H locs cells slots ls hx hw hl => by
    obtain ⟨q0, hq⟩ := zpos h
    refine va_last (D := w.2.1) hx.1 hx.2.1 hw.2.1.1 hw.2.2.2.2.1 hw.2.2.2.2.2.1 hw.2.2.2.2.2.2.1 q0 1 hq rfl hin hdg (fun H1 locs1 hP hD hS => ?_)
    rw [zset hw.2.2.2.2.2.1 h hq] at hP hD
    exact k1 p e R s m args below meth c H1 locs1 cells slots ls hx (hw.put hP hD hS rfl rfl) hl
theorem g_zast {a n : Nat} {f : Nat → Int32} {i : Int32} {x : Int32} (hdg : decode cc pc = .ok (.bastore, 1)) (h : zhs Z a (.inl (w.2.2.2.1 2, n, .inl f))) (hin : vp_in i n) (k1 : G w y cc nL rt d Post (pc + 1) lv rest (zput Z a (.inl (w.2.2.2.1 2, n, .inl (upd f i.toNatClampNeg (vp_nar .boolean x)))))) : G w y cc nL rt d Post pc lv (.int x :: .int i :: .ref a :: rest) Z :=
  fun p e R s m args below meth c H locs cells slots ls hx hw hl => by
    obtain ⟨q0, hq⟩ := zpos h
    refine va_zast (D := w.2.1) hx.1 hx.2.1 hw.2.1.1 hw.2.2.2.2.1 hw.2.2.2.2.2.1 hw.2.2.2.2.2.2.1 q0 2 hq rfl hin hdg (fun H1 locs1 hP hD hS => ?_)
    rw [zset hw.2.2.2.2.2.1 h hq] at hP hD
    exact k1 p e R s m args below meth c H1 locs1 cells slots ls hx (hw.put hP hD hS rfl rfl) hl
theorem g_cast {a n : Nat} {f : Nat → Int32} {i : Int32} {x : Int32} (hdg : decode cc pc = .ok (.castore, 1)) (h : zhs Z a (.inl (w.2.2.2.1 3, n, .inl f))) (hin : vp_in i n) (k1 : G w y cc nL rt d Post (pc + 1) lv rest (zput Z a (.inl (w.2.2.2.1 3, n, .inl (upd f i.toNatClampNeg (vp_nar .char x)))))) : G w y cc nL rt d Post pc lv (.int x :: .int i :: .ref a :: rest) Z :=
  fun p e R s m args below meth c H locs cells slots ls hx hw hl => by
    obtain ⟨q0, hq⟩ := zpos h
    refine va_cast (D := w.2.1) hx.1 hx.2.1 hw.2.1.1 hw.2.2.2.2.1 hw.2.2.2.2.2.1 hw.2.2.2.2.2.2.1 q0 3 hq rfl hin hdg (fun H1 locs1 hP hD hS => ?_)
    rw [zset hw.2.2.2.2.2.1 h hq] at hP hD
    exact k1 p e R s m args below meth c H1 locs1 cells slots ls hx (hw.put hP hD hS rfl rfl) hl
theorem g_alen {a : Nat} {cA : ClassId} {x : vp_A} {ty : FieldType} (hdg : decode cc pc = .ok (.arraylength, 1)) (t : Nat) (h : zhs Z a (.inl (cA, x))) (ht : (zTys w.2.2.2.1)[t]? = some (cA, ty)) (k1 : G w y cc nL rt d Post (pc + 1) lv (.int (nI x.1) :: rest) Z) : G w y cc nL rt d Post pc lv (.ref a :: rest) Z :=
  fun p e R s m args below meth c H locs cells slots ls hx hw hl => by
    obtain ⟨q0, hq⟩ := zpos h
    exact va_alen (D := w.2.1) hx.1 hx.2.1 hw.2.1.1 hw.2.2.2.2.1 q0 t hq ht rfl hdg (k1 p e R s m args below meth c H locs cells slots ls hx hw hl)
/-- rows of references: those of the class E (place t of zTys) -/
theorem g_aald {a n : Nat} {cA : ClassId} {E : String} {f : Nat → Option Nat} {i : Int32} (hdg : decode cc pc = .ok (.aaload, 1)) (t : Nat) (h : zhs Z a (.inl (cA, n, .inr (.inr (.inr (.inr f)))))) (ht : (zTys w.2.2.2.1)[t]? = some (cA, .object E)) (hin : vp_in i n) (k1 : G w y cc nL rt d Post (pc + 1) lv (va_rf (f i.toNatClampNeg) :: rest) Z) : G w y cc nL rt d Post pc lv (.int i :: .ref a :: rest) Z :=
  fun p e R s m args below meth c H locs cells slots ls hx hw hl => by
    obtain ⟨q0, hq⟩ := zpos h
    exact va_aldq (D := w.2.1) hx.1 hx.2.1 hw.2.1.1 hw.2.2.2.2.1 q0 t hq ht hin hdg (k1 p e R s m args below meth c H locs cells slots ls hx hw hl)
theorem zAny {R : Room} {s : State} {args : Array Value} {H : Heap} {locs : List Loc} {cells slots v ci : Nat} {vs : List Value} {E : String} (hts : ∀ v ∈ wz, v.before args s = true) (hw : zW w d Z R s H locs cells slots) (hv : zhs Z v (.inr (ci, vs))) (hE : zAs ci E) : va_Any E s H v := by
  obtain ⟨r, hr, hE⟩ := hE
  obtain ⟨q0, hq⟩ := zpos hv
  refine va_rAny hw.2.1.1 hw.2.2.2.2.1 hq hr (fun comp c0 h1 h2 => ?_)
  rcases hE with rfl | hE
  · cases h1.symm.trans h2
    exact va_asg _ _
  · obtain ⟨c1, t1, f1, f2, f3⟩ := Cond.castable_spec (va_Nw.use (A := args) rfl (hw.2.1.2.1 _ hE))
    cases h1.symm.trans f2
    cases h2.symm.trans f1
    exact f3
theorem g_aast {a n v ci : Nat} {cA : ClassId} {E : String} {vs : List Value} {f : Nat → Option Nat} {i : Int32} (hdg : decode cc pc = .ok (.aastore, 1)) (t : Nat) (h : zhs Z a (.inl (cA, n, .inr (.inr (.inr (.inr f)))))) (ht : (zTys w.2.2.2.1)[t]? = some (cA, .object E)) (hv : zhs Z v (.inr (ci, vs))) (hE : zAs ci E) (hin : vp_in i n) (k1 : G w y cc nL rt d Post (pc + 1) lv rest (zput Z a (.inl (cA, n, .inr (.inr (.inr (.inr (va_up f i.toNatClampNeg (some v))))))))) : G w y cc nL rt d Post pc lv (.ref v :: .int i :: .ref a :: rest) Z :=
  fun p e R s m args below meth c H locs cells slots ls hx hw hl => by
    obtain ⟨q0, hq⟩ := zpos h
    refine va_astqM (D := w.2.1) hx.1 hx.2.1 hw.2.1.1 hw.2.2.2.2.1 hw.2.2.2.2.2.1 hw.2.2.2.2.2.2.1 q0 t hq ht (zAny hx.2.2.2.2.1 hw hv hE) hin hdg (fun H1 locs1 hP hD hS => ?_)
    rw [zset hw.2.2.2.2.2.1 h hq] at hP hD
    exact k1 p e R s m args below meth c H1 locs1 cells slots ls hx (hw.put hP hD hS rfl rfl) hl
theorem g_aastN {a n : Nat} {cA : ClassId} {E : String} {f : Nat → Option Nat} {i : Int32} (hdg : decode cc pc = .ok (.aastore, 1)) (t : Nat) (h : zhs Z a (.inl (cA, n, .inr (.inr (.inr (.inr f)))))) (ht : (zTys w.2.2.2.1)[t]? = some (cA, .object E)) (hin : vp_in i n) (k1 : G w y cc nL rt d Post (pc + 1) lv rest (zput Z a (.inl (cA, n, .inr (.inr (.inr (.inr (va_up f i.toNatClampNeg none)))))))) : G w y cc nL rt d Post pc lv (.null :: .int i :: .ref a :: rest) Z :=
  fun p e R s m args below meth c H locs cells slots ls hx hw hl => by
    obtain ⟨q0, hq⟩ := zpos h
    refine va_astqN (D := w.2.1) hx.1 hx.2.1 hw.2.1.1 hw.2.2.2.2.1 hw.2.2.2.2.2.1 hw.2.2.2.2.2.2.1 q0 t hq ht hin hdg (fun H1 locs1 hP hD hS => ?_)
    rw [zset hw.2.2.2.2.2.1 h hq] at hP hD
    exact k1 p e R s m args below meth c H1 locs1 cells slots ls hx (hw.put hP hD hS rfl rfl) hl
theorem zW.new {q n : Nat} {e : va_E} {R : Room} {s : State} {H H1 : Heap} {locs : List Loc} {cells slots : Nat} (hw : zW w d Z R s H locs cells slots) (h1 : 1 ≤ Z.2.2.1) (h2 : n ≤ Z.2.2.2) (hP : va_P w.2.1 vwCl (zpl Z ++ [(q, e)]) H1) (hD : va_D w.2.2.1 (zpl Z ++ [(q, e)])) (hS : va_S w.2.2.1 s.heap H1 locs) : q ∉ Z.1 ∧ zW w d (znew Z q e n) R s H1 locs (cells + 1) (slots + n) := by
  have hq := zfresh hD
  obtain ⟨a1, a2, a3, a4, -, -, -, b1, b2, b3, b4⟩ := hw
  rw [zpush (n := n) hq] at hP hD
  exact ⟨hq, a1, a2, a3, a4, hP, hD, hS, by show cells + 1 + (Z.2.2.1 - 1) ≤ _; omega, by show slots + n + (Z.2.2.2 - n) ≤ _; omega, b3, b4⟩
theorem g_new {idx ci N : Nat} {fs : List Value} (hdg : decode cc pc = .ok (.new idx, 3)) (Nw : zN y.cls idx ci N fs) (h1 : 1 ≤ Z.2.2.1) (h2 : N ≤ Z.2.2.2) (k1 : ∀ q, q ∉ Z.1 → G w y cc nL rt d Post (pc + 3) lv (.ref q :: rest) (znew Z q (.inr (ci, fs)) N)) : G w y cc nL rt d Post pc lv rest Z :=
  fun p e R s m args below meth c H locs cells slots ls hx hw hl => by
    obtain ⟨C, T, ty, hc, hin, hty, hcl, hinst, hini, hfs⟩ := Nw
    have b1 := hw.2.2.2.2.2.2.2.1
    have b2 := hw.2.2.2.2.2.2.2.2.1
    refine va_new (D := w.2.1) hx.1 hx.2.1 hx.2.2.2.2.1 hin ty hty hx.2.2.2.1 (hx.2.2.2.2.1 _ hcl) (hx.2.2.2.2.1 _ hinst) (hx.2.2.2.2.1 _ hini) hw.2.1.1 hw.2.2.2.2.1 hw.2.2.2.2.2.1 hw.2.2.2.2.2.2.1 hw.2.2.2.1 hc hfs (by omega) (by omega) hdg (fun q H1 hP hD hS => ?_)
    obtain ⟨hq, hw'⟩ := hw.new h1 h2 hP hD hS
    exact k1 q hq p e R s m args below meth c H1 locs (cells + 1) (slots + N) ls hx hw' hl
theorem g_newi {n : Int32} {N : Nat} {at9 : ArrayType} (hdg : decode cc pc = .ok (.newarray at9, 2)) (hat : newarray.typeOf at9 = .int) (hcl : Cond.arrayClass .int ∈ wz) (hn : n = nI N) (hN : N ≤ 60000) (h1 : 1 ≤ Z.2.2.1) (h2 : N ≤ Z.2.2.2) (k1 : ∀ q, q ∉ Z.1 → G w y cc nL rt d Post (pc + 2) lv (.ref q :: rest) (znew Z q (.inl (w.2.2.2.1 0, N, .inl (fun _ => 0))) N)) : G w y cc nL rt d Post pc lv (.int n :: rest) Z :=
  fun p e R s m args below meth c H locs cells slots ls hx hw hl => by
    have b1 := hw.2.2.2.2.2.2.2.1
    have b2 := hw.2.2.2.2.2.2.2.2.1
    subst hn
    refine va_newa (D := w.2.1) (a0 := (N, .inl (fun _ => 0))) hx.1 hx.2.1 (by rw [hat]; exact hx.2.2.2.2.1 _ hcl) hat hw.2.1.1 hw.2.2.2.2.1 hw.2.2.2.2.2.1 hw.2.2.2.2.2.2.1 hw.2.2.2.1 (fun cA => rfl) (nI_pos (by omega)) (nI_clamp (by omega)) (by show N * 4 ≤ _; omega) (by omega) (by omega) hdg (fun q cA H1 hK hP hD hS => ?_)
    have e1 : s.vm.findClass ("[" ++ (FieldType.int).toString) = some cA := (hK.2 (zTys w.2.2.2.1).length (cA, .int) (by simp)).2
    have e2 : s.vm.findClass ("[" ++ (FieldType.int).toString) = some (w.2.2.2.1 0) := (hw.2.1.1.2 0 (w.2.2.2.1 0, .int) rfl).2
    cases e1.symm.trans e2
    obtain ⟨hq, hw'⟩ := hw.new h1 h2 hP hD hS
    exact k1 q hq p e R s m args below meth c H1 locs (cells + 1) (slots + N) ls hx hw' hl
theorem g_newl {n : Int32} {N : Nat} {at9 : ArrayType} (hdg : decode cc pc = .ok (.newarray at9, 2)) (hat : newarray.typeOf at9 = .long) (hcl : Cond.arrayClass .long ∈ wz) (hn : n = nI N) (hN : N ≤ 60000) (h1 : 1 ≤ Z.2.2.1) (h2 : N ≤ Z.2.2.2) (k1 : ∀ q, q ∉ Z.1 → G w y cc nL rt d Post (pc + 2) lv (.ref q :: rest) (znew Z q (.inl (w.2.2.2.1 1, N, .inr <| .inl (fun _ => 0))) N)) : G w y cc nL rt d Post pc lv (.int n :: rest) Z :=
  fun p e R s m args below meth c H locs cells slots ls hx hw hl => by
    have b1 := hw.2.2.2.2.2.2.2.1
    have b2 := hw.2.2.2.2.2.2.2.2.1
    subst hn
    refine va_newa (D := w.2.1) (a0 := (N, .inr <| .inl (fun _ => 0))) hx.1 hx.2.1 (by rw [hat]; exact hx.2.2.2.2.1 _ hcl) hat hw.2.1.1 hw.2.2.2.2.1 hw.2.2.2.2.2.1 hw.2.2.2.2.2.2.1 hw.2.2.2.1 (fun cA => rfl) (nI_pos (by omega)) (nI_clamp (by omega)) (by show N * 8 ≤ _; omega) (by omega) (by omega) hdg (fun q cA H1 hK hP hD hS => ?_)
    have e1 : s.vm.findClass ("[" ++ (FieldType.long).toString) = some cA := (hK.2 (zTys w.2.2.2.1).length (cA, .long) (by simp)).2
    have e2 : s.vm.findClass ("[" ++ (FieldType.long).toString) = some (w.2.2.2.1 1) := (hw.2.1.1.2 1 (w.2.2.2.1 1, .long) rfl).2
    cases e1.symm.trans e2
    obtain ⟨hq, hw'⟩ := hw.new h1 h2 hP hD hS
    exact k1 q hq p e R s m args below meth c H1 locs (cells + 1) (slots + N) ls hx hw' hl
theorem g_newz {n : Int32} {N : Nat} {at9 : ArrayType} (hdg : decode cc pc = .ok (.newarray at9, 2)) (hat : newarray.typeOf at9 = .boolean) (hcl : Cond.arrayClass .boolean ∈ wz) (hn : n = nI N) (hN : N ≤ 60000) (h1 : 1 ≤ Z.2.2.1) (h2 : N ≤ Z.2.2.2) (k1 : ∀ q, q ∉ Z.1 → G w y cc nL rt d Post (pc + 2) lv (.ref q :: rest) (znew Z q (.inl (w.2.2.2.1 2, N, .inl (fun _ => 0))) N)) : G w y cc nL rt d Post pc lv (.int n :: rest) Z :=
  fun p e R s m args below meth c H locs cells slots ls hx hw hl => by
    have b1 := hw.2.2.2.2.2.2.2.1
    have b2 := hw.2.2.2.2.2.2.2.2.1
    subst hn
    refine va_newa (D := w.2.1) (a0 := (N, .inl (fun _ => 0))) hx.1 hx.2.1 (by rw [hat]; exact hx.2.2.2.2.1 _ hcl) hat hw.2.1.1 hw.2.2.2.2.1 hw.2.2.2.2.2.1 hw.2.2.2.2.2.2.1 hw.2.2.2.1 (fun cA => rfl) (nI_pos (by omega)) (nI_clamp (by omega)) (by show N * 1 ≤ _; omega) (by omega) (by omega) hdg (fun q cA H1 hK hP hD hS => ?_)
    have e1 : s.vm.findClass ("[" ++ (FieldType.boolean).toString) = some cA := (hK.2 (zTys w.2.2.2.1).length (cA, .boolean) (by simp)).2
    have e2 : s.vm.findClass ("[" ++ (FieldType.boolean).toString) = some (w.2.2.2.1 2) := (hw.2.1.1.2 2 (w.2.2.2.1 2, .boolean) rfl).2
    cases e1.symm.trans e2
    obtain ⟨hq, hw'⟩ := hw.new h1 h2 hP hD hS
    exact k1 q hq p e R s m args below meth c H1 locs (cells + 1) (slots + N) ls hx hw' hl
theorem g_newc {n : Int32} {N : Nat} {at9 : ArrayType} (hdg : decode cc pc = .ok (.newarray at9, 2)) (hat : newarray.typeOf at9 = .char) (hcl : Cond.arrayClass .char ∈ wz) (hn : n = nI N) (hN : N ≤ 60000) (h1 : 1 ≤ Z.2.2.1) (h2 : N ≤ Z.2.2.2) (k1 : ∀ q, q ∉ Z.1 → G w y cc nL rt d Post (pc + 2) lv (.ref q :: rest) (znew Z q (.inl (w.2.2.2.1 3, N, .inl (fun _ => 0))) N)) : G w y cc nL rt d Post pc lv (.int n :: rest) Z :=
  fun p e R s m args below meth c H locs cells slots ls hx hw hl => by
    have b1 := hw.2.2.2.2.2.2.2.1
    have b2 := hw.2.2.2.2.2.2.2.2.1
    subst hn
    refine va_newa (D := w.2.1) (a0 := (N, .inl (fun _ => 0))) hx.1 hx.2.1 (by rw [hat]; exact hx.2.2.2.2.1 _ hcl) hat hw.2.1.1 hw.2.2.2.2.1 hw.2.2.2.2.2.1 hw.2.2.2.2.2.2.1 hw.2.2.2.1 (fun cA => rfl) (nI_pos (by omega)) (nI_clamp (by omega)) (by show N * 2 ≤ _; omega) (by omega) (by omega) hdg (fun q cA H1 hK hP hD hS => ?_)
    have e1 : s.vm.findClass ("[" ++ (FieldType.char).toString) = some cA := (hK.2 (zTys w.2.2.2.1).length (cA, .char) (by simp)).2
    have e2 : s.vm.findClass ("[" ++ (FieldType.char).toString) = some (w.2.2.2.1 3) := (hw.2.1.1.2 3 (w.2.2.2.1 3, .char) rfl).2
    cases e1.symm.trans e2
    obtain ⟨hq, hw'⟩ := hw.new h1 h2 hP hD hS
    exact k1 q hq p e R s m args below meth c H1 locs (cells + 1) (slots + N) ls hx hw' hl
theorem g_anew {n : Int32} {N idx : Nat} {E : String} (hdg : decode cc pc = .ok (.anewarray idx, 3)) (t : Nat) (ht : (zTys w.2.2.2.1)[t]? = some (w.2.2.2.1 t, .object E)) (hcl : Cond.classLink y.cls idx E ∈ wz) (hov : Cond.arrayOver (.object E) ∈ wn) (hn : n = nI N) (hN : N ≤ 60000) (h1 : 1 ≤ Z.2.2.1) (h2 : N ≤ Z.2.2.2) (k1 : ∀ q, q ∉ Z.1 → G w y cc nL rt d Post (pc + 3) lv (.ref q :: rest) (znew Z q (.inl (w.2.2.2.1 t, N, .inr (.inr (.inr (.inr (fun _ => none)))))) N)) : G w y cc nL rt d Post pc lv (.int n :: rest) Z :=
  fun p e R s m args below meth c H locs cells slots ls hx hw hl => by
    have b1 := hw.2.2.2.2.2.2.2.1
    have b2 := hw.2.2.2.2.2.2.2.2.1
    subst hn
    refine va_newq (D := w.2.1) hx.1 hx.2.1 hx.2.2.2.1 (hx.2.2.2.2.1 _ hcl) (va_AO.of (hw.2.1.2.1 _ hov)) hw.2.1.1 hw.2.2.2.2.1 hw.2.2.2.2.2.1 hw.2.2.2.2.2.2.1 hw.2.2.2.1 (nI_pos (by omega)) (nI_clamp (by omega)) (by omega) (by omega) (by omega) hdg (fun q cA H1 hK hP hD hS => ?_)
    obtain ⟨kA, comp, -, -, -, e1⟩ := (hK.2 (zTys w.2.2.2.1).length (cA, .object E) (by simp)).2
    obtain ⟨kA2, comp2, -, -, -, e2⟩ := (hw.2.1.1.2 t (w.2.2.2.1 t, .object E) ht).2
    cases e1.symm.trans e2
    obtain ⟨hq, hw'⟩ := hw.new h1 h2 hP hD hS
    exact k1 q hq p e R s m args below meth c H1 locs (cells + 1) (slots + N) ls hx hw' hl
/-- the world at a callee's entry -/
theorem zPre_at {R : Room} {s T : State} {H : Heap} {locs : List Loc} {cells slots : Nat} {vm₁ : Vm} (hw : zW w d Z R s H locs cells slots) (hT : T.heap = H) (hW : s.WarmedH vm₁) : zPre w Z (T.setVm vm₁) := by
  obtain ⟨a1, a2, a3, a4, a5, a6, a7, -, -, -, -⟩ := hw
  refine ⟨a1, zKn.warm (U := T.setVm vm₁) hW a2, a1 s (T.setVm vm₁) s.heap T.heap hW ?_ a3, ?_, ?_, a6⟩
  · intro q h1 h2
    rw [hT]
    exact a7.2.1 q h1 h2
  · intro q h
    have h1 : T.heap.size ≤ q := h
    rw [hT] at h1
    exact a4 q (Nat.le_trans a7.1 h1)
  · show va_P w.2.1 vwCl (zpl Z) T.heap
    rw [hT]
    exact a5
def zPreP (w : zC) (R : Room) (As : List Value) (Z : zZ) : Pt → Array Value → Prop := fun A a => a = As.toArray ∧ A.cells + Z.2.2.1 ≤ R.cells ∧ A.slots + Z.2.2.2 ≤ R.slots ∧ zPre w Z A.U
def zPostP (w : zC) (Z : zZ) (Post : zR → zZ → Prop) : Pt → Array Value → Option Value → Pt → Prop := fun A _ v B =>
  ∃ (Z' : zZ) (L : List Loc), Post (.inl v) Z' ∧ va_P w.2.1 vwCl (zpl Z') B.U.heap ∧ va_D w.2.2.1 (zpl Z') ∧ (A.U.heap.size ≤ B.U.heap.size ∧ ∀ q : Nat, q < A.U.heap.size → ¬ w.2.2.1 q → B.U.heap[q]? = A.U.heap[q]?) ∧
    B.locs = A.locs ++ L ∧ (∀ q ∈ L, w.2.2.1 q.base) ∧ B.cells + Z'.2.2.1 ≤ A.cells + Z.2.2.1 ∧ B.slots + Z'.2.2.2 ≤ A.slots + Z.2.2.2
theorem cz_back {d' : Nat × Nat} {y' : MethodName} {ws : List Cond} {As : List Value} {Post' : zR → zZ → Prop} {R : Room} {p : Program} {e : Env} {below : List Frame} {s : State} {sargs : Array Value} {bytes : ByteArray} {maxL : Nat} {ret : Option FieldType}
    (hC : Cz w d' y' ws As Z Post') (hnt : ∀ r Z', Post' r Z' → ∃ v, r = .inl v) (hws : ∀ v ∈ ws, ∀ (a' : Array Value) (U : State), s.WarmedH U.vm → v.before a' U = true) (hcode : Cond.code y' bytes maxL ret ∈ ws)
    (hini : ∀ (a' : Array Value) (U : State), s.WarmedH U.vm → (Cond.initialized y'.cls).before a' U = true) (hfr : d'.1 + 1 ≤ R.frames) (hlo : 8 + (maxL + 11) + d'.2 ≤ R.locals) :
    Back w.1 R p e below s sargs y' 3 8 (zPreP w R As Z) (zPostP w Z Post') := by
  refine Back.of_free (S := headSpec ws (zrm d' Z)) (bytes := bytes) (maxL := maxL) (ret := ret)
    (E := fun _ st o t L k n => ∃ (r : zR) (Z' : zZ), Post' r Z' ∧ zOut r o t ∧ va_P w.2.1 vwCl (zpl Z') t.heap ∧ va_D w.2.2.1 (zpl Z') ∧ va_F w.2.2.1 st t ∧ (∀ q ∈ L, w.2.2.1 q.base) ∧ k + Z'.2.2.1 ≤ Z.2.2.1 ∧ n + Z'.2.2.2 ≤ Z.2.2.2) hC hfr hlo ?_ ?_ (fun _ _ _ _ _ _ _ _ _ => trivial) ?_ ?_
  · intro m meth c A a X hp
    exact ⟨atoms_intro fun v hv => hws v hv _ _ X.warmed, hws _ hcode _ _ X.warmed, hini _ _ X.warmed, hp.2.1, hp.2.2.1⟩
  · intro m meth c A a g mk X hp
    obtain ⟨rfl, -, -, a1, a2, a3, a4, a5, a6⟩ := hp
    exact ⟨rfl, a1, zKn.warm (U := A.U.calling g mk As.toArray) (State.WarmedH.refl A.U) a2, a1 A.U (A.U.calling g mk As.toArray) A.U.heap A.U.heap (State.WarmedH.refl A.U) (fun _ _ _ => rfl) a3, a4, a5, a6⟩
  · intro a st o t ⟨r, Z', hp, ho, h1, h2, h3, L, k, n, hS, hL, hk, hn⟩
    obtain ⟨v, rfl⟩ := hnt _ _ hp
    exact ⟨L, k, n, ⟨⟨v, ho⟩, hS.1, hS.2⟩, .inl v, Z', hp, ho, h1, h2, h3, hL, hk, hn⟩
  · intro m meth c A a g mk v t L k n X hp hq hF ⟨r, Z', hp', ho, h1, h2, h3, hL, hk, hn⟩
    obtain ⟨v', rfl⟩ := hnt _ _ hp'
    cases ho
    exact ⟨Z', L, hp', h1, h2, h3, rfl, hL, by show A.cells + k + _ ≤ _; omega, by show A.slots + n + _ ≤ _; omega⟩
/-- behind a call -/
theorem zW.back {Z' : zZ} {R : Room} {s T : State} {H : Heap} {locs L : List Loc} {cells slots : Nat} {vm₁ : Vm} {B : Pt} (hw : zW w d Z R s H locs cells slots) (hT : T.heap = H)
    (h1 : va_P w.2.1 vwCl (zpl Z') B.U.heap) (h2 : va_D w.2.2.1 (zpl Z')) (h3 : (T.setVm vm₁).heap.size ≤ B.U.heap.size ∧ ∀ q : Nat, q < (T.setVm vm₁).heap.size → ¬ w.2.2.1 q → B.U.heap[q]? = (T.setVm vm₁).heap[q]?) (h4 : B.locs = locs ++ L) (hL : ∀ q ∈ L, w.2.2.1 q.base) (hk : B.cells + Z'.2.2.1 ≤ cells + Z.2.2.1) (hn : B.slots + Z'.2.2.2 ≤ slots + Z.2.2.2) : zW w d Z' R s B.U.heap B.locs B.cells B.slots := by
  obtain ⟨a1, a2, a3, a4, -, -, a7, b1, b2, b3, b4⟩ := hw
  have hT' : (T.setVm vm₁).heap = H := hT
  rw [hT'] at h3
  refine ⟨a1, a2, a3, a4, h1, h2, ⟨Nat.le_trans a7.1 h3.1, fun q g1 g2 => ?_, fun q hq => ?_⟩, by omega, by omega, b3, b4⟩
  · rw [h3.2 q (Nat.lt_of_lt_of_le g1 a7.1) g2]
    exact a7.2.1 q g1 g2
  · rw [h4] at hq
    rcases List.mem_append.mp hq with h | h
    · exact a7.2.2 q h
    · exact hL q h
theorem wz_good {s : State} {args : Array Value} (hts : ∀ v ∈ wz, v.before args s = true) : ∀ v ∈ wz, ∀ (a' : Array Value) (U : State), s.WarmedH U.vm → v.before a' U = true :=
  fun v hv a' U hW => word_at hW (good_of_word (List.mem_filter.mp hv).2) (hts v hv)
theorem wz_goodc {s : State} {args : Array Value} {c0 : Cond} (hts : ∀ v ∈ wz, v.before args s = true) (h0 : c0 ∈ wz) : ∀ v ∈ c0 :: wz, ∀ (a' : Array Value) (U : State), s.WarmedH U.vm → v.before a' U = true := by
  intro v hv
  rcases List.mem_cons.mp hv with rfl | hv
  · exact wz_good hts _ h0
  · exact wz_good hts _ hv
/-- the continuation behind a call -/
abbrev zK (w : zC) (y : MethodName) (cc : ByteArray) (nL : Nat) (rt : Option FieldType) (d : Nat × Nat) (Post : zR → zZ → Prop) (pc : Nat) (lv : List (Nat × Value)) (rest : List Value) : zR → zZ → Prop := fun r Z' => ∃ v, r = .inl v ∧ G w y cc nL rt d Post pc lv (v.toList ++ rest) Z'
theorem zBack {y' : MethodName} {cc' : ByteArray} {nL' n : Nat} {rt' : Option FieldType} {As : List Value} {R : Room} {p : Program} {e : Env} {below : List Frame} {s : State} {args : Array Value} {H : Heap} {locs : List Loc} {cells slots : Nat} {pc' : Nat}
    {d' : Nat × Nat} (hd : d'.1 + 1 ≤ d.1 ∧ 19 + nL' + d'.2 ≤ d.2) (hts : ∀ v ∈ wz, v.before args s = true) (hw : zW w d Z R s H locs cells slots) (hy : zCall y' cc' nL' rt' n) (hC : Cz w d' y' (Cond.code y' cc' nL' rt' :: wz) As Z (zK w y cc nL rt d Post pc' lv rest)) :
    Back w.1 R p e below s args y' 3 8 (zPreP w R As Z) (zPostP w Z (zK w y cc nL rt d Post pc' lv rest)) := by
  obtain ⟨-, -, -, -, -, -, -, -, -, b3, b4⟩ := hw
  exact cz_back (bytes := cc') (maxL := nL') (ret := rt') hC (fun r Z' h => ⟨h.choose, h.choose_spec.1⟩) (wz_goodc hts hy.1) List.mem_cons_self (fun a' U hW => wz_good hts _ hy.2.1 a' U hW) (by omega) (by omega)
theorem g_callS {d' : Nat × Nat} {y' : MethodName} {cc' : ByteArray} {nL' n idx : Nat} {rt' : Option FieldType} {As st : List Value} (hdg : decode cc pc = .ok (.invokestatic idx, 3)) (hy : zCall y' cc' nL' rt' n) (hlink : Cond.methodLink y.cls idx y' ∈ wz) (hstat : Cond.static y' ∈ wz) (hst : st = As.reverse ++ rest) (hn : As.length = n) (hsum : (rest.map fun v => v.category).sum ≤ 8) (hd : d'.1 + 1 ≤ d.1 ∧ 19 + nL' + d'.2 ≤ d.2)
    (hC : Cz w d' y' (Cond.code y' cc' nL' rt' :: wz) As Z (zK w y cc nL rt d Post (pc + 3) lv rest)) : G w y cc nL rt d Post pc lv st Z :=
  fun p e R s m args below meth c H locs cells slots ls hx hw hl => by
    intro T hT X
    have hts := hx.2.2.2.2.1
    obtain ⟨v, vm₁, B, hW₁, X', ⟨Z', L, ⟨v', hv', hk⟩, h1, h2, h3, h4, hL, hc9, hn9⟩, st9⟩ := callS X hx.1 (bytes := cc') (maxL := nL') (ret := rt') hx.2.2.2.1 (hts _ hlink) (hts _ hstat) (hts _ hy.2.1) (hts _ hy.1) ⟨hy.2.2.1, hy.2.2.2.1⟩ (zBack hd hts hw hy hC) (g := F0 m pc ls st) rfl (hl.1.trans hx.2.2.1.symm) (argsL := As) (rest := rest)
      (fun sig h => by have h5 := hy.2.2.2.2; rw [h] at h5; exact hn.trans (Option.some.inj h5).symm) hst (lv_room hsum) (by rw [hx.2.1]; exact hdg) (fun vm₁ hW₁ => ⟨rfl, hw.2.2.2.2.2.2.2.1, hw.2.2.2.2.2.2.2.2.1, zPre_at hw hT hW₁⟩)
    cases hv'
    obtain ⟨t, a1, b1⟩ := hk p e R s m args below meth c B.U.heap B.locs B.cells B.slots ls hx (hw.back hT h1 h2 h3 h4 hL hc9 hn9) hl B.U rfl X'
    exact ⟨t, st9 t a1, b1⟩
theorem g_callI {d' : Nat × Nat} {y' : MethodName} {cc' : ByteArray} {nL' n idx a : Nat} {As st : List Value} (hdg : decode cc pc = .ok (.invokespecial idx, 3)) (hy : zCall y' cc' nL' none n) (hy1 : y'.name = "<init>") (hlink : Cond.methodLink y.cls idx y' ∈ wz) (hinst : Cond.instanceMethod y' ∈ wz) (hst : st = As.reverse ++ .ref a :: rest) (hn : As.length = n) (hsum : (rest.map fun v => v.category).sum ≤ 8) (hd : d'.1 + 1 ≤ d.1 ∧ 19 + nL' + d'.2 ≤ d.2)
    (hC : Cz w d' y' (Cond.code y' cc' nL' none :: wz) (.ref a :: As) Z (zK w y cc nL rt d Post (pc + 3) lv rest)) : G w y cc nL rt d Post pc lv st Z :=
  fun p e R s m args below meth c H locs cells slots ls hx hw hl => by
    intro T hT X
    have hts := hx.2.2.2.2.1
    obtain ⟨v, vm₁, B, hW₁, X', ⟨Z', L, ⟨v', hv', hk⟩, h1, h2, h3, h4, hL, hc9, hn9⟩, st9⟩ := callI X hx.1 (bytes := cc') (maxL := nL') hx.2.2.2.1 hy1 (hts _ hlink) (hts _ hinst) (hts _ hy.1) ⟨hy.2.2.1, hy.2.2.2.1⟩ (zBack hd hts hw hy hC) (g := F0 m pc ls st) rfl (hl.1.trans hx.2.2.1.symm) (a := a) (argsL := As) (rest := rest)
      (fun sig h => by have h5 := hy.2.2.2.2; rw [h] at h5; exact hn.trans (Option.some.inj h5).symm) hst (lv_room hsum) (by rw [hx.2.1]; exact hdg) (fun vm₁ hW₁ => ⟨rfl, hw.2.2.2.2.2.2.2.1, hw.2.2.2.2.2.2.2.2.1, zPre_at hw hT hW₁⟩)
    cases hv'
    obtain ⟨t, a1, b1⟩ := hk p e R s m args below meth c B.U.heap B.locs B.cells B.slots ls hx (hw.back hT h1 h2 h3 h4 hL hc9 hn9) hl B.U rfl X'
    exact ⟨t, st9 t a1, b1⟩
theorem g_callV {d' : Nat × Nat} {y' : MethodName} {cc' : ByteArray} {nL' n idx a ci : Nat} {rt' : Option FieldType} {r : vw_C} {fs As st : List Value} (hdg : decode cc pc = .ok (.invokevirtual idx, 3)) (hy : zCall y' cc' nL' rt' n) (hlink : Cond.methodLink y.cls idx y' ∈ wz) (hinst : Cond.instanceMethod y' ∈ wz) (hci : vwCl[ci]? = some r) (hsel : Cond.selects r.1 y' y' ∈ wz) (h : zhs Z a (.inr (ci, fs))) (hst : st = As.reverse ++ .ref a :: rest) (hn : As.length = n) (hsum : (rest.map fun v => v.category).sum ≤ 8) (hd : d'.1 + 1 ≤ d.1 ∧ 19 + nL' + d'.2 ≤ d.2)
    (hC : Cz w d' y' (Cond.code y' cc' nL' rt' :: wz) (.ref a :: As) Z (zK w y cc nL rt d Post (pc + 3) lv rest)) : G w y cc nL rt d Post pc lv st Z :=
  fun p e R s m args below meth c H locs cells slots ls hx hw hl => by
    intro T hT X
    have hts := hx.2.2.2.2.1
    obtain ⟨q0, hq⟩ := zpos h
    obtain ⟨cell, g1, g2, g3⟩ := va_recv hw.2.1.1 hw.2.2.2.2.1 hci hq
    obtain ⟨v, vm₁, B, hW₁, X', ⟨Z', L, ⟨v', hv', hk⟩, h1, h2, h3, h4, hL, hc9, hn9⟩, st9⟩ := callV X hx.1 (C := r.1) (bytes := cc') (maxL := nL') (ret := rt') hx.2.2.2.1 (hts _ hlink) (hts _ hinst) (hts _ hsel) (hts _ hy.1) ⟨hy.2.2.1, hy.2.2.2.1⟩ (zBack hd hts hw hy hC) (b := a) (by rw [hT]; exact g1) g2 g3 (g := F0 m pc ls st) rfl (hl.1.trans hx.2.2.1.symm) (argsL := As) (rest := rest)
      (fun sig h => by have h5 := hy.2.2.2.2; rw [h] at h5; exact hn.trans (Option.some.inj h5).symm) hst (lv_room hsum) (by rw [hx.2.1]; exact hdg) (fun vm₁ hW₁ => ⟨rfl, hw.2.2.2.2.2.2.2.1, hw.2.2.2.2.2.2.2.2.1, zPre_at hw hT hW₁⟩)
    cases hv'
    obtain ⟨t, a1, b1⟩ := hk p e R s m args below meth c B.U.heap B.locs B.cells B.slots ls hx (hw.back hT h1 h2 h3 h4 hL hc9 hn9) hl B.U rfl X'
    exact ⟨t, st9 t a1, b1⟩
theorem g_callSN {host : String} {d' : Nat × Nat} {y' : MethodName} {cc' : ByteArray} {nL' n idx : Nat} {rt' : Option FieldType} {As st : List Value} (hdg : decode cc pc = .ok (.invokestatic idx, 3)) (hy : zCall y' cc' nL' rt' n) (hlink : Cond.methodLinkNest y.cls idx y' host ∈ wn) (hstat : Cond.static y' ∈ wz) (hst : st = As.reverse ++ rest) (hn : As.length = n) (hsum : (rest.map fun v => v.category).sum ≤ 8) (hd : d'.1 + 1 ≤ d.1 ∧ 19 + nL' + d'.2 ≤ d.2)
    (hC : Cz w d' y' (Cond.code y' cc' nL' rt' :: wz) As Z (zK w y cc nL rt d Post (pc + 3) lv rest)) : G w y cc nL rt d Post pc lv st Z :=
  fun p e R s m args below meth c H locs cells slots ls hx hw hl => by
    intro T hT X
    have hts := hx.2.2.2.2.1
    obtain ⟨v, vm₁, B, hW₁, X', ⟨Z', L, ⟨v', hv', hk⟩, h1, h2, h3, h4, hL, hc9, hn9⟩, st9⟩ := va_callSN X hx.1 (bytes := cc') (maxL := nL') (ret := rt') hx.2.2.2.1 (va_Nw.use rfl (hw.2.1.2.1 _ hlink)) (hts _ hstat) (hts _ hy.2.1) (hts _ hy.1) ⟨hy.2.2.1, hy.2.2.2.1⟩ (zBack hd hts hw hy hC) (g := F0 m pc ls st) rfl (hl.1.trans hx.2.2.1.symm) (argsL := As) (rest := rest)
      (fun sig h => by have h5 := hy.2.2.2.2; rw [h] at h5; exact hn.trans (Option.some.inj h5).symm) hst (lv_room hsum) (by rw [hx.2.1]; exact hdg) (fun vm₁ hW₁ => ⟨rfl, hw.2.2.2.2.2.2.2.1, hw.2.2.2.2.2.2.2.2.1, zPre_at hw hT hW₁⟩)
    cases hv'
    obtain ⟨t, a1, b1⟩ := hk p e R s m args below meth c B.U.heap B.locs B.cells B.slots ls hx (hw.back hT h1 h2 h3 h4 hL hc9 hn9) hl B.U rfl X'
    exact ⟨t, st9 t a1, b1⟩
theorem g_callIN {host : String} {d' : Nat × Nat} {y' : MethodName} {cc' : ByteArray} {nL' n idx a : Nat} {As st : List Value} (hdg : decode cc pc = .ok (.invokespecial idx, 3)) (hy : zCall y' cc' nL' none n) (hy1 : y'.name = "<init>") (hlink : Cond.methodLinkNest y.cls idx y' host ∈ wn) (hinst : Cond.instanceMethod y' ∈ wz) (hst : st = As.reverse ++ .ref a :: rest) (hn : As.length = n) (hsum : (rest.map fun v => v.category).sum ≤ 8) (hd : d'.1 + 1 ≤ d.1 ∧ 19 + nL' + d'.2 ≤ d.2)
    (hC : Cz w d' y' (Cond.code y' cc' nL' none :: wz) (.ref a :: As) Z (zK w y cc nL rt d Post (pc + 3) lv rest)) : G w y cc nL rt d Post pc lv st Z :=
  fun p e R s m args below meth c H locs cells slots ls hx hw hl => by
    intro T hT X
    have hts := hx.2.2.2.2.1
    obtain ⟨v, vm₁, B, hW₁, X', ⟨Z', L, ⟨v', hv', hk⟩, h1, h2, h3, h4, hL, hc9, hn9⟩, st9⟩ := va_callIN X hx.1 (bytes := cc') (maxL := nL') hx.2.2.2.1 hy1 (va_Nw.use rfl (hw.2.1.2.1 _ hlink)) (hts _ hinst) (hts _ hy.1) ⟨hy.2.2.1, hy.2.2.2.1⟩ (zBack hd hts hw hy hC) (g := F0 m pc ls st) rfl (hl.1.trans hx.2.2.1.symm) (a := a) (argsL := As) (rest := rest)
      (fun sig h => by have h5 := hy.2.2.2.2; rw [h] at h5; exact hn.trans (Option.some.inj h5).symm) hst (lv_room hsum) (by rw [hx.2.1]; exact hdg) (fun vm₁ hW₁ => ⟨rfl, hw.2.2.2.2.2.2.2.1, hw.2.2.2.2.2.2.2.2.1, zPre_at hw hT hW₁⟩)
    cases hv'
    obtain ⟨t, a1, b1⟩ := hk p e R s m args below meth c B.U.heap B.locs B.cells B.slots ls hx (hw.back hT h1 h2 h3 h4 hL hc9 hn9) hl B.U rfl X'
    exact ⟨t, st9 t a1, b1⟩
theorem zDecl.at {x : MethodName} {s : State} {args : Array Value} (hts : ∀ v ∈ wz, v.before args s = true) (hn : zNw s) (h : zDecl x) : va_Decl s x := by
  rcases h with h | ⟨h1, b, m, r, h2⟩
  · exact va_Decl.abs (hn.1 _ h)
  · exact va_Decl.of (hts _ h1) (hts _ h2)
/-- the method is named by the class x.cls, declared in owner, and what the receiver's class has is y' -/
theorem g_callU {owner : String} {x : MethodName} {d' : Nat × Nat} {y' : MethodName} {cc' : ByteArray} {nL' n idx a ci : Nat} {rt' : Option FieldType} {r : vw_C} {fs As st : List Value} (hdg : decode cc pc = .ok (.invokevirtual idx, 3)) (hy : zCall y' cc' nL' rt' n) (hlink : Cond.methodLink y.cls idx x ∈ wz) (hsame : Cond.sameMethod x.cls owner x.name x.desc ∈ wz) (hdecl : zDecl ⟨owner, x.name, x.desc⟩) (howner : owner ≠ "java/lang/invoke/MethodHandle" ∧ owner ≠ "java/lang/invoke/VarHandle") (hxy : x.desc = y'.desc) (hinst : Cond.instanceMethod y' ∈ wz) (hci : vwCl[ci]? = some r) (hsel : Cond.selects r.1 x y' ∈ wz) (h : zhs Z a (.inr (ci, fs))) (hst : st = As.reverse ++ .ref a :: rest) (hn : As.length = n) (hsum : (rest.map fun v => v.category).sum ≤ 8) (hd : d'.1 + 1 ≤ d.1 ∧ 19 + nL' + d'.2 ≤ d.2)
    (hC : Cz w d' y' (Cond.code y' cc' nL' rt' :: wz) (.ref a :: As) Z (zK w y cc nL rt d Post (pc + 3) lv rest)) : G w y cc nL rt d Post pc lv st Z :=
  fun p e R s m args below meth c H locs cells slots ls hx hw hl => by
    intro T hT X
    have hts := hx.2.2.2.2.1
    obtain ⟨q0, hq⟩ := zpos h
    obtain ⟨cell, g1, g2, g3⟩ := va_recv hw.2.1.1 hw.2.2.2.2.1 hci hq
    obtain ⟨v, vm₁, B, hW₁, X', ⟨Z', L, ⟨v', hv', hk⟩, h1, h2, h3, h4, hL, hc9, hn9⟩, st9⟩ := va_callVU X hx.1 (C := r.1) (owner := owner) (x := x) (bytes := cc') (maxL := nL') (ret := rt') hx.2.2.2.1 (hts _ hlink) (hts _ hsame) (zDecl.at hts hw.2.1.2 hdecl) howner (hts _ hsel) (hts _ hinst) (hts _ hy.1) (zBack hd hts hw hy hC) (b := a) (by rw [hT]; exact g1) g2 g3 (g := F0 m pc ls st) rfl (hl.1.trans hx.2.2.1.symm) (argsL := As) (rest := rest)
      (fun sig h => by have h5 := hy.2.2.2.2; rw [← hxy, h] at h5; exact hn.trans (Option.some.inj h5).symm) hst (lv_room hsum) (by rw [hx.2.1]; exact hdg) (fun vm₁ hW₁ => ⟨rfl, hw.2.2.2.2.2.2.2.1, hw.2.2.2.2.2.2.2.2.1, zPre_at hw hT hW₁⟩)
    cases hv'
    obtain ⟨t, a1, b1⟩ := hk p e R s m args below meth c B.U.heap B.locs B.cells B.slots ls hx (hw.back hT h1 h2 h3 h4 hL hc9 hn9) hl B.U rfl X'
    exact ⟨t, st9 t a1, b1⟩
/-- a truth value as the machine has it -/
def zb (c : Prop) [Decidable c] : Int32 := if c then 1 else 0
theorem zb_t {c : Prop} [Decidable c] (h : c) : zb c = 1 := if_pos h
theorem zb_f {c : Prop} [Decidable c] (h : ¬ c) : zb c = 0 := if_neg h
theorem zb_0 {c : Prop} [Decidable c] : zb c = 0 ↔ ¬ c := by
  by_cases h : c
  · simp [zb, h]
  · simp [zb, h]
theorem zb_1 {c : Prop} [Decidable c] : zb c = 1 ↔ c := by
  by_cases h : c
  · simp [zb, h]
  · simp [zb, h]
theorem zb_congr {c e : Prop} [Decidable c] [Decidable e] (h : c ↔ e) : zb c = zb e := by
  by_cases hc : c
  · rw [zb_t hc, zb_t (h.mp hc)]
  · rw [zb_f hc, zb_f (fun z => hc (h.mpr z))]
theorem zb_nar (c : Prop) [Decidable c] : narrow .boolean (.int (zb c)) = .int (zb c) := by
  by_cases h : c
  · rw [zb_t h]; rfl
  · rw [zb_f h]; rfl
theorem zb_fit (c : Prop) [Decidable c] : fits .boolean (.int (zb c)) = true := by
  by_cases h : c
  · rw [zb_t h]; rfl
  · rw [zb_f h]; rfl
theorem zb_vnar (c : Prop) [Decidable c] : vp_nar .boolean (zb c) = zb c := by
  by_cases h : c
  · rw [zb_t h]; rfl
  · rw [zb_f h]; rfl
theorem g_if_eqB {c : Prop} [Decidable c] {off : Int} {tgt : Nat} (hdg : decode cc pc = .ok (.ifCond .eq off, 3)) (ht : (pc : Int) + off = (tgt : Int)) (kt1 : ¬ c → G w y cc nL rt d Post tgt lv rest Z) (kf1 : c → G w y cc nL rt d Post (pc + 3) lv rest Z) : G w y cc nL rt d Post pc lv (.int (zb c) :: rest) Z :=
  g_if_eq hdg ht (fun h => kt1 (zb_0.mp h)) (fun h => kf1 (by by_cases hc : c; exact hc; exact absurd (zb_f hc) h))
theorem g_if_neB {c : Prop} [Decidable c] {off : Int} {tgt : Nat} (hdg : decode cc pc = .ok (.ifCond .ne off, 3)) (ht : (pc : Int) + off = (tgt : Int)) (kt1 : c → G w y cc nL rt d Post tgt lv rest Z) (kf1 : ¬ c → G w y cc nL rt d Post (pc + 3) lv rest Z) : G w y cc nL rt d Post pc lv (.int (zb c) :: rest) Z :=
  g_if_ne hdg ht (fun h => kt1 (by by_cases hc : c; exact hc; exact absurd (zb_f hc) h)) (fun h => kf1 (zb_0.mp h))
/-- Object's constructor -/
theorem g_objI {idx a : Nat} (hdg : decode cc pc = .ok (.invokespecial idx, 3)) (hlink : Cond.methodLink y.cls idx Lib.objectInit ∈ wz) (hd : 1 ≤ d.1 ∧ 20 ≤ d.2) (hsum : (rest.map fun v => v.category).sum ≤ 8) (k1 : G w y cc nL rt d Post (pc + 3) lv rest Z) : G w y cc nL rt d Post pc lv (.ref a :: rest) Z :=
  fun p e R s m args below meth c H locs cells slots ls hx hw hl => by
    obtain ⟨-, -, -, -, -, -, -, -, -, b3, b4⟩ := id hw
    refine W.objInit hx.1 hx.2.1 hx.2.2.2.1 (hx.2.2.2.2.1 _ hlink) (hx.2.2.2.2.1 _ z_oi) (hx.2.2.2.2.1 _ z_oc) (g := F0 m pc ls (.ref a :: rest)) rfl (hl.1.trans hx.2.2.1.symm) rfl hdg (by omega) (by show 2 * 0 + _ + 12 ≤ _; omega) ?_
    exact k1 p e R s m args below meth c H locs cells slots ls hx hw hl
theorem g_instY {idx a ci : Nat} {nm : String} {r : vw_C} {fs : List Value} (hdg : decode cc pc = .ok (.instanceof idx, 3)) (hlink : Cond.classLink y.cls idx nm ∈ wz) (h : zhs Z a (.inr (ci, fs))) (hci : vwCl[ci]? = some r) (hc : Cond.castable r.1 nm ∈ wn) (k1 : G w y cc nL rt d Post (pc + 3) lv (.int 1 :: rest) Z) : G w y cc nL rt d Post pc lv (.ref a :: rest) Z :=
  fun p e R s m args below meth c H locs cells slots ls hx hw hl => by
    obtain ⟨q0, hq⟩ := zpos h
    exact va_instY hx.1 hx.2.1 hx.2.2.2.1 (hx.2.2.2.2.1 _ hlink) (hw.2.1.2.1 _ hc) (va_recv hw.2.1.1 hw.2.2.2.2.1 hci hq) hdg (k1 p e R s m args below meth c H locs cells slots ls hx hw hl)
theorem g_instNo {idx a ci : Nat} {nm : String} {r : vw_C} {fs : List Value} (hdg : decode cc pc = .ok (.instanceof idx, 3)) (hlink : Cond.classLink y.cls idx nm ∈ wz) (h : zhs Z a (.inr (ci, fs))) (hci : vwCl[ci]? = some r) (hc : (r.1, nm) ∈ wnc) (k1 : G w y cc nL rt d Post (pc + 3) lv (.int 0 :: rest) Z) : G w y cc nL rt d Post pc lv (.ref a :: rest) Z :=
  fun p e R s m args below meth c H locs cells slots ls hx hw hl => by
    obtain ⟨q0, hq⟩ := zpos h
    exact va_instNo hx.1 hx.2.1 hx.2.2.2.1 (hx.2.2.2.2.1 _ hlink) (hw.2.1.2.2 _ hc) (va_recv hw.2.1.1 hw.2.2.2.2.1 hci hq) hdg (k1 p e R s m args below meth c H locs cells slots ls hx hw hl)
/-- a contract that promises more -/
theorem Cz.mono {d : Nat × Nat} {y : MethodName} {ws : List Cond} {As : List Value} {Z : zZ} {P P' : zR → zZ → Prop} (h : Cz w d y ws As Z P) (hp : ∀ r Z', P r Z' → P' r Z') : Cz w d y ws As Z P' := by
  intro p e ha hc hk s m args below hf happ hpre hK
  obtain ⟨n, o, h1, h2, h3, r, Z', hq, h4, h5⟩ := h p e ha hc hk s m args below hf happ hpre hK
  exact ⟨n, o, h1, h2, h3, r, Z', hp r Z' hq, h4, h5⟩
end GR
end
section
/-! more rules: System.arraycopy over int arrays; new cells written at once -/
theorem z_acs : Cond.static arraycopyName ∈ wz := wz_at 413 (by decide +kernel) rfl
theorem z_acn : Cond.native arraycopyName ∈ wz := wz_at 414 (by decide +kernel) rfl
theorem z_aci : Cond.initialized "java/lang/System" ∈ wz := wz_at 26 (by decide +kernel) rfl
section GM
variable {w : zC} {y : MethodName} {cc : ByteArray} {nL : Nat} {rt : Option FieldType} {d : Nat × Nat} {Post : zR → zZ → Prop} {pc : Nat} {lv : List (Nat × Value)} {rest : List Value} {Z : zZ}
theorem g_acopy {idx a0 a n0 n1 : Nat} {f g : Nat → Int32} {sp dp n : Int32} (hdg : decode cc pc = .ok (.invokestatic idx, 3)) (hlink : Cond.methodLink y.cls idx arraycopyName ∈ wz) (h0 : zhs Z a0 (.inl (w.2.2.2.1 0, n0, .inl f))) (h1 : zhs Z a (.inl (w.2.2.2.1 0, n1, .inl g))) (p1 : ¬ sp < 0) (p2 : ¬ dp < 0) (p3 : ¬ n < 0) (p4 : sp.toNatClampNeg + n.toNatClampNeg ≤ n0) (p5 : dp.toNatClampNeg + n.toNatClampNeg ≤ n1) (hd : 1 ≤ d.1 ∧ 26 ≤ d.2) (hsum : (rest.map fun v => v.category).sum ≤ 8)
    (k1 : G w y cc nL rt d Post (pc + 3) lv rest (zput Z a (.inl (w.2.2.2.1 0, n1, .inl (va_cpy f g sp.toNatClampNeg dp.toNatClampNeg n.toNatClampNeg))))) : G w y cc nL rt d Post pc lv (.int n :: .int dp :: .ref a :: .int sp :: .ref a0 :: rest) Z :=
  fun p e R s m args below meth c H locs cells slots ls hx hw hl => by
    obtain ⟨-, -, -, -, -, -, -, -, -, b3, b4⟩ := id hw
    obtain ⟨q0, hq0⟩ := zpos h0
    obtain ⟨q1, hq1⟩ := zpos h1
    have e1 : nativeFrameWords "java/lang/System" "arraycopy" 5 = 7 := by decide +kernel
    refine va_copyi (D := w.2.1) hx.1 hx.2.1 (hx.2.2.1.trans hl.1.symm) hx.2.2.2.1 (hx.2.2.2.2.1 _ hlink) (hx.2.2.2.2.1 _ z_acn) (hx.2.2.2.2.1 _ z_acs) (hx.2.2.2.2.1 _ z_aci) hw.2.1.1 hw.2.2.2.2.1 hw.2.2.2.2.2.1 hw.2.2.2.2.2.2.1 q0 q1 0 0 hq0 hq1 rfl rfl rfl p1 p2 p3 p4 p5 (fun _ _ => rfl) (by omega) (by rw [e1]; omega) hdg (fun H1 locs1 hP hD hS => ?_)
    rw [zset hw.2.2.2.2.2.1 h1 hq1] at hP hD
    exact k1 p e R s m args below meth c H1 locs1 cells slots ls hx (hw.put hP hD hS rfl rfl) hl
end GM
theorem znew_put {Z : zZ} {q n : Nat} {e e' : va_E} : zput (znew Z q e n) q e' = znew Z q e' n := by
  have h : va_up (va_up Z.2.1 q e) q e' = va_up Z.2.1 q e' := by
    funext j
    by_cases hj : j = q
    · simp [va_up, hj]
    · simp [va_up, hj]
  show (Z.1 ++ [q], va_up (va_up Z.2.1 q e) q e', Z.2.2.1 - 1, Z.2.2.2 - n) = (Z.1 ++ [q], va_up Z.2.1 q e', Z.2.2.1 - 1, Z.2.2.2 - n)
  rw [h]
theorem zput_comm {Z : zZ} {a b : Nat} {e e' : va_E} (h : a ≠ b) : zput (zput Z a e) b e' = zput (zput Z b e') a e := by
  have h1 : va_up (va_up Z.2.1 a e) b e' = va_up (va_up Z.2.1 b e') a e := by
    funext j
    by_cases hj : j = a
    · subst hj; simp [va_up, h]
    · by_cases hk : j = b
      · subst hk; simp [va_up, hj]
      · simp [va_up, hj, hk]
  show (Z.1, va_up (va_up Z.2.1 a e) b e', Z.2.2.1, Z.2.2.2) = (Z.1, va_up (va_up Z.2.1 b e') a e, Z.2.2.1, Z.2.2.2)
  rw [h1]
theorem zhs_new_same' {Z Z' : zZ} {q n : Nat} {e : va_E} (h : znew Z q e n = Z') : zhs Z' q e := by rw [← h]; exact zhs_new_same
theorem zhs_new_old' {Z Z' : zZ} {q n b : Nat} {e e' : va_E} (h : znew Z q e n = Z') (h0 : zhs Z b e') (hq : q ∉ Z.1) : zhs Z' b e' := by rw [← h]; exact zhs_new_old h0 hq
theorem zhs_put_same' {Z Z' : zZ} {a : Nat} {e e' : va_E} (h : zput Z a e' = Z') (h0 : zhs Z a e) : zhs Z' a e' := by rw [← h]; exact zhs_put_same h0
theorem zhs_put_ne' {Z Z' : zZ} {a b : Nat} {e e' : va_E} (h : zput Z a e' = Z') (h0 : zhs Z b e) (hne : b ≠ a) : zhs Z' b e := by rw [← h]; exact zhs_put_ne h0 hne
theorem Cz.ofF {w : zC} {d : Nat × Nat} {y : MethodName} {cc : ByteArray} {nL : Nat} {rt : Option FieldType} {As : List Value} {Z : zZ} {Post : zR → zZ → Prop}
    (hy : plainFor y = true) (hn : (lg_sl As).length ≤ nL) (h : G w y cc nL rt d Post 0 (lv_args 0 As) [] Z) : Cz w d y (Cond.code y cc nL rt :: wz) As Z Post := by
  refine MetFree.of_bodySF (code := cc) (maxLocals := nL) (ret := rt) hy ?_ ?_
  · intro args s m h hn
    obtain ⟨meth, c, h1, h2, h3, h4, h5, h6, -, -⟩ := Cond.code_spec hn (atoms_spec (ws := Cond.code y cc nL rt :: wz) h _ List.mem_cons_self)
    exact ⟨meth, c, h1, h2, h3, h4, h5, h6⟩
  · intro p e s m args below meth c s₁ B hml hP _
    obtain ⟨rfl, hst, hK, hS, hA, hPl, hD⟩ := hP
    have hh0 : s₁.heap = s.heap := by rw [B.state]; rfl
    have hts := atoms_spec (ws := Cond.code y cc nL rt :: wz) B.pre
    have K := h p e (zrm d Z) s m As.toArray below meth c s.heap [] 0 0 _
      ⟨B.exec, B.bytes, hml, findClass_of_methodNamed B.named, fun v hv => hts v (List.mem_cons_of_mem _ hv), B.returns, B.notSynchronized, fun _ => (name_of_methodNamed B.named B.method).1⟩
      ⟨hst, hK, hS, hA, hPl, hD, va_S.rf, by simp [zrm], by simp [zrm], Nat.le_refl _, Nat.le_refl _⟩ (lv_entry As hn)
    rw [← lg_entry_eq] at K
    obtain ⟨t, a1, o, b1, b2, b3⟩ := K s₁ hh0 (Stand.of_body B)
    exact ⟨t, o, a1, b1, b2, b3⟩
/-! numbers as the machine has them -/
theorem vin_of {k : Int32} {N : Nat} (h0 : ¬ k < 0) (h : ¬ nI N ≤ k) (hN : N < 2 ^ 31) : vp_in k N := by
  rw [vp_in_iff]
  rw [Int32.lt_iff_toInt_lt, Int32.toInt_zero] at h0
  rw [Int32.le_iff_toInt_le, nI_toInt hN] at h
  omega
theorem vin_le {k : Int32} {c N : Nat} (h : ¬ nI c ≤ k) (hc : c ≤ N) (hN : N < 2 ^ 31) : ¬ nI N ≤ k := by
  rw [Int32.le_iff_toInt_le, nI_toInt (by omega)] at h
  rw [Int32.le_iff_toInt_le, nI_toInt hN]
  omega
/-- the place of the first of n entries from i on that is x, or -1 -/
def fndF (f : Nat → Int32) (x : Int32) : Nat → Nat → Int32
  | 0, _ => -1
  | n + 1, i => if f i = x then nI i else fndF f x n (i + 1)
end
section
set_option maxHeartbeats 4000000 in
set_option maxRecDepth 100000 in
theorem C_K_isBelow {w : zC} {Z : zZ} {Q : zR → zZ → Prop} {a b : Int32} (hQ : Q (.inl (some (.int (zb (¬ a < 0 ∧ ¬ b ≤ a))))) Z) : Cz w (0, 0) y_K_isBelow (Cond.code y_K_isBelow c_K_isBelow 2 r_K_isBelow :: wz) [.int a, .int b] Z Q := by
  refine Cz.of (by decide +kernel) (by simp [lg_sl, Value.category]) ?_
  show G _ _ _ _ _ _ _ _ [(0, _), (1, _)] _ _
  refine g_iload_n d_K_isBelow_0 rfl 0 rfl ?_
  refine g_if_lt (tgt := 13) d_K_isBelow_1 (by decide) (fun h1 => ?_) (fun h1 => ?_)
  · refine g_iconst (v := 0) d_K_isBelow_13 rfl ?_
    refine g_zret d_K_isBelow_14 ?_ ?_
    · first | rfl | exact zb_nar _ | exact zb_narc (by assumption)
    · simpa [zb, *] using hQ
  · refine g_iload_n d_K_isBelow_4 rfl 0 rfl ?_
    refine g_iload_n d_K_isBelow_5 rfl 1 rfl ?_
    refine g_icmp_ge (tgt := 13) d_K_isBelow_6 (by decide) (fun h6 => ?_) (fun h6 => ?_)
    · refine g_iconst (v := 0) d_K_isBelow_13 rfl ?_
      refine g_zret d_K_isBelow_14 ?_ ?_
      · first | rfl | exact zb_nar _ | exact zb_narc (by assumption)
      · simpa [zb, *] using hQ
    · refine g_iconst (v := 1) d_K_isBelow_9 rfl ?_
      refine g_goto (tgt := 14) d_K_isBelow_10 (by decide) ?_
      refine g_zret d_K_isBelow_14 ?_ ?_
      · first | rfl | exact zb_nar _ | exact zb_narc (by assumption)
      · simpa [zb, *] using hQ

set_option maxHeartbeats 4000000 in
set_option maxRecDepth 100000 in
theorem C_Rm_keyOf {w : zC} {Z : zZ} {Q : zR → zZ → Prop} {a k v f c N : Nat} {kf : Nat → Int32} (h0 : zhs Z a (.inr (5, [.ref k, .ref v, .ref f, .int (nI c)]))) (h1 : zhs Z k (.inl (w.2.2.2.1 0, N, .inl kf))) (hc : c ≤ N) (hN : N < 2 ^ 31) {i : Int32} (hQ : Q (.inl (some (.int (if ¬ i < 0 ∧ ¬ nI c ≤ i then kf i.toNatClampNeg else -1)))) Z) : Cz w (1, 21) y_Rm_keyOf (Cond.code y_Rm_keyOf c_Rm_keyOf 2 r_Rm_keyOf :: wz) [.ref a, .int i] Z Q := by
  refine Cz.of (by decide +kernel) (by simp [lg_sl, Value.category]) ?_
  show G _ _ _ _ _ _ _ _ [(0, _), (1, _)] _ _
  refine g_iload_n d_Rm_keyOf_0 rfl 1 rfl ?_
  refine g_aload_nq d_Rm_keyOf_1 rfl 0 rfl ?_
  refine g_get d_Rm_keyOf_2 f_Rm_21_Rm (by assumption) (by rfl) ?_
  refine g_callSN d_Rm_keyOf_5 k_K_isBelow l_Rm_40 s_K_isBelow (by rfl) (by rfl) (Nat.le_of_ble_eq_true rfl) (by decide) (C_K_isBelow ⟨_, rfl, ?_⟩)
  first | refine g_if_eqB (tgt := 29) d_Rm_keyOf_8 (by decide) (fun h8 => ?_) (fun h8 => ?_) | refine g_if_eq (tgt := 29) d_Rm_keyOf_8 (by decide) (fun h8 => ?_) (fun h8 => ?_)
  · refine g_iconst (v := (-1)) d_Rm_keyOf_29 rfl ?_
    refine g_iret d_Rm_keyOf_30 ?_
    first | (rw [if_pos h8] at hQ; exact hQ) | (rw [if_neg h8] at hQ; exact hQ) | exact absurd h17 (vin_le h8.2 hc hN)
  · refine g_iload_n d_Rm_keyOf_11 rfl 1 rfl ?_
    refine g_aload_nq d_Rm_keyOf_12 rfl 0 rfl ?_
    refine g_get d_Rm_keyOf_13 f_Rm_11_Rm (by assumption) (by rfl) ?_
    refine g_alen d_Rm_keyOf_16 0 (by assumption) rfl ?_
    refine g_icmp_ge (tgt := 29) d_Rm_keyOf_17 (by decide) (fun h17 => ?_) (fun h17 => ?_)
    · refine g_iconst (v := (-1)) d_Rm_keyOf_29 rfl ?_
      refine g_iret d_Rm_keyOf_30 ?_
      first | (rw [if_pos h8] at hQ; exact hQ) | (rw [if_neg h8] at hQ; exact hQ) | exact absurd h17 (vin_le h8.2 hc hN)
    · refine g_aload_nq d_Rm_keyOf_20 rfl 0 rfl ?_
      refine g_get d_Rm_keyOf_21 f_Rm_11_Rm (by assumption) (by rfl) ?_
      refine g_iload_n d_Rm_keyOf_24 rfl 1 rfl ?_
      refine g_iald d_Rm_keyOf_25 (by assumption) (vin_of h8.1 h17 hN) ?_
      refine g_goto (tgt := 30) d_Rm_keyOf_26 (by decide) ?_
      refine g_iret d_Rm_keyOf_30 ?_
      first | (rw [if_pos h8] at hQ; exact hQ) | (rw [if_neg h8] at hQ; exact hQ) | exact absurd h17 (vin_le h8.2 hc hN)

set_option maxHeartbeats 4000000 in
set_option maxRecDepth 100000 in
theorem C_Rm_weightOf {w : zC} {Z : zZ} {Q : zR → zZ → Prop} {a k v f c N : Nat} {kf : Nat → Int32} (h0 : zhs Z a (.inr (5, [.ref k, .ref v, .ref f, .int (nI c)]))) (h1 : zhs Z v (.inl (w.2.2.2.1 0, N, .inl kf))) (hc : c ≤ N) (hN : N < 2 ^ 31) {i : Int32} (hQ : Q (.inl (some (.int (if ¬ i < 0 ∧ ¬ nI c ≤ i then kf i.toNatClampNeg else -1)))) Z) : Cz w (1, 21) y_Rm_weightOf (Cond.code y_Rm_weightOf c_Rm_weightOf 2 r_Rm_weightOf :: wz) [.ref a, .int i] Z Q := by
  refine Cz.of (by decide +kernel) (by simp [lg_sl, Value.category]) ?_
  show G _ _ _ _ _ _ _ _ [(0, _), (1, _)] _ _
  refine g_iload_n d_Rm_weightOf_0 rfl 1 rfl ?_
  refine g_aload_nq d_Rm_weightOf_1 rfl 0 rfl ?_
  refine g_get d_Rm_weightOf_2 f_Rm_21_Rm (by assumption) (by rfl) ?_
  refine g_callSN d_Rm_weightOf_5 k_K_isBelow l_Rm_40 s_K_isBelow (by rfl) (by rfl) (Nat.le_of_ble_eq_true rfl) (by decide) (C_K_isBelow ⟨_, rfl, ?_⟩)
  first | refine g_if_eqB (tgt := 29) d_Rm_weightOf_8 (by decide) (fun h8 => ?_) (fun h8 => ?_) | refine g_if_eq (tgt := 29) d_Rm_weightOf_8 (by decide) (fun h8 => ?_) (fun h8 => ?_)
  · refine g_iconst (v := (-1)) d_Rm_weightOf_29 rfl ?_
    refine g_iret d_Rm_weightOf_30 ?_
    first | (rw [if_pos h8] at hQ; exact hQ) | (rw [if_neg h8] at hQ; exact hQ) | exact absurd h17 (vin_le h8.2 hc hN)
  · refine g_iload_n d_Rm_weightOf_11 rfl 1 rfl ?_
    refine g_aload_nq d_Rm_weightOf_12 rfl 0 rfl ?_
    refine g_get d_Rm_weightOf_13 f_Rm_15_Rm (by assumption) (by rfl) ?_
    refine g_alen d_Rm_weightOf_16 0 (by assumption) rfl ?_
    refine g_icmp_ge (tgt := 29) d_Rm_weightOf_17 (by decide) (fun h17 => ?_) (fun h17 => ?_)
    · refine g_iconst (v := (-1)) d_Rm_weightOf_29 rfl ?_
      refine g_iret d_Rm_weightOf_30 ?_
      first | (rw [if_pos h8] at hQ; exact hQ) | (rw [if_neg h8] at hQ; exact hQ) | exact absurd h17 (vin_le h8.2 hc hN)
    · refine g_aload_nq d_Rm_weightOf_20 rfl 0 rfl ?_
      refine g_get d_Rm_weightOf_21 f_Rm_15_Rm (by assumption) (by rfl) ?_
      refine g_iload_n d_Rm_weightOf_24 rfl 1 rfl ?_
      refine g_iald d_Rm_weightOf_25 (by assumption) (vin_of h8.1 h17 hN) ?_
      refine g_goto (tgt := 30) d_Rm_weightOf_26 (by decide) ?_
      refine g_iret d_Rm_weightOf_30 ?_
      first | (rw [if_pos h8] at hQ; exact hQ) | (rw [if_neg h8] at hQ; exact hQ) | exact absurd h17 (vin_le h8.2 hc hN)

set_option maxHeartbeats 4000000 in
set_option maxRecDepth 100000 in
theorem C_Rm_firstOf {w : zC} {Z : zZ} {Q : zR → zZ → Prop} {a k v f c N : Nat} {kf : Nat → Int32} (h0 : zhs Z a (.inr (5, [.ref k, .ref v, .ref f, .int (nI c)]))) (h1 : zhs Z f (.inl (w.2.2.2.1 0, N, .inl kf))) (hc : c ≤ N) (hN : N < 2 ^ 31) {i : Int32} (hQ : Q (.inl (some (.int (if ¬ i < 0 ∧ ¬ nI c ≤ i then kf i.toNatClampNeg else -1)))) Z) : Cz w (1, 21) y_Rm_firstOf (Cond.code y_Rm_firstOf c_Rm_firstOf 2 r_Rm_firstOf :: wz) [.ref a, .int i] Z Q := by
  refine Cz.of (by decide +kernel) (by simp [lg_sl, Value.category]) ?_
  show G _ _ _ _ _ _ _ _ [(0, _), (1, _)] _ _
  refine g_iload_n d_Rm_firstOf_0 rfl 1 rfl ?_
  refine g_aload_nq d_Rm_firstOf_1 rfl 0 rfl ?_
  refine g_get d_Rm_firstOf_2 f_Rm_21_Rm (by assumption) (by rfl) ?_
  refine g_callSN d_Rm_firstOf_5 k_K_isBelow l_Rm_40 s_K_isBelow (by rfl) (by rfl) (Nat.le_of_ble_eq_true rfl) (by decide) (C_K_isBelow ⟨_, rfl, ?_⟩)
  first | refine g_if_eqB (tgt := 29) d_Rm_firstOf_8 (by decide) (fun h8 => ?_) (fun h8 => ?_) | refine g_if_eq (tgt := 29) d_Rm_firstOf_8 (by decide) (fun h8 => ?_) (fun h8 => ?_)
  · refine g_iconst (v := (-1)) d_Rm_firstOf_29 rfl ?_
    refine g_iret d_Rm_firstOf_30 ?_
    first | (rw [if_pos h8] at hQ; exact hQ) | (rw [if_neg h8] at hQ; exact hQ) | exact absurd h17 (vin_le h8.2 hc hN)
  · refine g_iload_n d_Rm_firstOf_11 rfl 1 rfl ?_
    refine g_aload_nq d_Rm_firstOf_12 rfl 0 rfl ?_
    refine g_get d_Rm_firstOf_13 f_Rm_18_Rm (by assumption) (by rfl) ?_
    refine g_alen d_Rm_firstOf_16 0 (by assumption) rfl ?_
    refine g_icmp_ge (tgt := 29) d_Rm_firstOf_17 (by decide) (fun h17 => ?_) (fun h17 => ?_)
    · refine g_iconst (v := (-1)) d_Rm_firstOf_29 rfl ?_
      refine g_iret d_Rm_firstOf_30 ?_
      first | (rw [if_pos h8] at hQ; exact hQ) | (rw [if_neg h8] at hQ; exact hQ) | exact absurd h17 (vin_le h8.2 hc hN)
    · refine g_aload_nq d_Rm_firstOf_20 rfl 0 rfl ?_
      refine g_get d_Rm_firstOf_21 f_Rm_18_Rm (by assumption) (by rfl) ?_
      refine g_iload_n d_Rm_firstOf_24 rfl 1 rfl ?_
      refine g_iald d_Rm_firstOf_25 (by assumption) (vin_of h8.1 h17 hN) ?_
      refine g_goto (tgt := 30) d_Rm_firstOf_26 (by decide) ?_
      refine g_iret d_Rm_firstOf_30 ?_
      first | (rw [if_pos h8] at hQ; exact hQ) | (rw [if_neg h8] at hQ; exact hQ) | exact absurd h17 (vin_le h8.2 hc hN)
end
section
/-! Remarks: rows of remarks that grow; Arrays.copyOf, Math.min, Math.max -/
/-- what was there and isn't in X is still there -/
def zfr (Z Z' : zZ) (X : List Nat) : Prop := ∀ b e, b ∉ X → zhs Z b e → zhs Z' b e
theorem zfr_rf {Z : zZ} {X : List Nat} : zfr Z Z X := fun _ _ _ h => h
theorem zfr_put {Z Z' : zZ} {a : Nat} {e : va_E} {X : List Nat} (h : zput Z a e = Z') (ha : a ∈ X) : zfr Z Z' X := fun b e' hb hz => by
  rw [← h]
  exact zhs_put_ne hz (fun q => hb (q ▸ ha))
theorem zfr_new {Z Z' : zZ} {q n : Nat} {e : va_E} {X : List Nat} (h : znew Z q e n = Z') (hq : q ∉ Z.1) : zfr Z Z' X := fun b e' _ hz => by
  rw [← h]
  exact zhs_new_old hz hq
theorem zfr_tr {Z Z1 Z2 : zZ} {X : List Nat} (h1 : zfr Z Z1 X) (h2 : zfr Z1 Z2 X) : zfr Z Z2 X := fun b e hb hz => h2 b e hb (h1 b e hb hz)
theorem zfr_mono {Z Z' : zZ} {X Y : List Nat} (h : zfr Z Z' X) (hs : ∀ a ∈ X, a ∈ Y) : zfr Z Z' Y := fun b e hb hz => h b e (fun q => hb (hs b q)) hz
/-- the addresses that were there are still there -/
theorem zmem_put {Z Z' : zZ} {a b : Nat} {e : va_E} (h : zput Z a e = Z') : b ∈ Z'.1 ↔ b ∈ Z.1 := by rw [← h]; exact Iff.rfl
theorem zmem_new {Z Z' : zZ} {q b n : Nat} {e : va_E} (h : znew Z q e n = Z') : b ∈ Z'.1 ↔ b ∈ Z.1 ∨ b = q := by
  rw [← h]
  show b ∈ Z.1 ++ [q] ↔ _
  rw [List.mem_append, List.mem_singleton]
theorem zbud_put {Z Z' : zZ} {a : Nat} {e : va_E} (h : zput Z a e = Z') : Z'.2.2.1 = Z.2.2.1 ∧ Z'.2.2.2 = Z.2.2.2 := by rw [← h]; exact ⟨rfl, rfl⟩
theorem zbud_new {Z Z' : zZ} {q n : Nat} {e : va_E} (h : znew Z q e n = Z') : Z'.2.2.1 = Z.2.2.1 - 1 ∧ Z'.2.2.2 = Z.2.2.2 - n := by rw [← h]; exact ⟨rfl, rfl⟩

set_option maxHeartbeats 4000000 in
set_option maxRecDepth 100000 in
theorem C_jM_min {w : zC} {Z : zZ} {Q : zR → zZ → Prop} {a b : Nat} (ha : a < 2 ^ 31) (hb : b < 2 ^ 31) (hQ : Q (.inl (some (.int (nI (min a b))))) Z) : Cz w (0, 0) y_jM_min (Cond.code y_jM_min c_jM_min 2 r_jM_min :: wz) [.int (nI a), .int (nI b)] Z Q := by
  refine Cz.ofF (by decide +kernel) (by simp [lg_sl, Value.category]) ?_
  show G _ _ _ _ _ _ _ _ [(0, _), (1, _)] _ _
  refine g_iload_n d_jM_min_0 rfl 0 rfl ?_
  refine g_iload_n d_jM_min_1 rfl 1 rfl ?_
  refine g_icmp_gt (tgt := 9) d_jM_min_2 (by decide) (fun h2 => ?_) (fun h2 => ?_)
  · refine g_iload_n d_jM_min_9 rfl 1 rfl ?_
    refine g_iret d_jM_min_10 ?_
    rw [nI_ltI hb ha] at h2
    first | (rw [Nat.min_eq_left (by omega)] at hQ; exact hQ) | (rw [Nat.min_eq_right (by omega)] at hQ; exact hQ)
  · refine g_iload_n d_jM_min_5 rfl 0 rfl ?_
    refine g_goto (tgt := 10) d_jM_min_6 (by decide) ?_
    refine g_iret d_jM_min_10 ?_
    rw [nI_ltI hb ha] at h2
    first | (rw [Nat.min_eq_left (by omega)] at hQ; exact hQ) | (rw [Nat.min_eq_right (by omega)] at hQ; exact hQ)

set_option maxHeartbeats 4000000 in
set_option maxRecDepth 100000 in
theorem C_jM_max {w : zC} {Z : zZ} {Q : zR → zZ → Prop} {a b : Int32} (hQ : Q (.inl (some (.int (if a < b then b else a)))) Z) : Cz w (0, 0) y_jM_max (Cond.code y_jM_max c_jM_max 2 r_jM_max :: wz) [.int a, .int b] Z Q := by
  refine Cz.ofF (by decide +kernel) (by simp [lg_sl, Value.category]) ?_
  show G _ _ _ _ _ _ _ _ [(0, _), (1, _)] _ _
  refine g_iload_n d_jM_max_0 rfl 0 rfl ?_
  refine g_iload_n d_jM_max_1 rfl 1 rfl ?_
  refine g_icmp_lt (tgt := 9) d_jM_max_2 (by decide) (fun h2 => ?_) (fun h2 => ?_)
  · refine g_iload_n d_jM_max_9 rfl 1 rfl ?_
    refine g_iret d_jM_max_10 ?_
    first | (rw [if_pos h2] at hQ; exact hQ) | (rw [if_neg h2] at hQ; exact hQ)
  · refine g_iload_n d_jM_max_5 rfl 0 rfl ?_
    refine g_goto (tgt := 10) d_jM_max_6 (by decide) ?_
    refine g_iret d_jM_max_10 ?_
    first | (rw [if_pos h2] at hQ; exact hQ) | (rw [if_neg h2] at hQ; exact hQ)

set_option maxHeartbeats 4000000 in
set_option maxRecDepth 100000 in
theorem C_jA_copyOf {w : zC} {Z : zZ} {Q : zR → zZ → Prop} {a n0 N : Nat} {f : Nat → Int32} (h0 : zhs Z a (.inl (w.2.2.2.1 0, n0, .inl f))) (hne : ¬ N = n0) (hN : N ≤ 60000) (hn0 : n0 ≤ 60000) (h1 : 1 ≤ Z.2.2.1) (h2 : N ≤ Z.2.2.2) (hQ : ∀ q, q ∉ Z.1 → Q (.inl (some (.ref q))) (znew Z q (.inl (w.2.2.2.1 0, N, .inl (va_cpy f (fun _ => 0) 0 0 (min n0 N)))) N)) : Cz w (1, 26) y_jA_copyOf (Cond.code y_jA_copyOf c_jA_copyOf 3 r_jA_copyOf :: wz) [.ref a, .int (nI N)] Z Q := by
  refine Cz.ofF (by decide +kernel) (by simp [lg_sl, Value.category]) ?_
  show G _ _ _ _ _ _ _ _ [(0, _), (1, _)] _ _
  refine g_iload_n d_jA_copyOf_0 rfl 1 rfl ?_
  refine g_aload_nq d_jA_copyOf_1 rfl 0 rfl ?_
  refine g_alen d_jA_copyOf_2 0 (by assumption) rfl ?_
  refine g_icmp_ne (tgt := 14) d_jA_copyOf_3 (by decide) (fun h3 => ?_) (fun h3 => ?_)
  · refine g_iload_n d_jA_copyOf_14 rfl 1 rfl ?_
    refine g_newi d_jA_copyOf_15 rfl a_int (by rfl) hN h1 h2 (fun q hq => ?_)
    generalize e1 : znew _ _ _ _ = Z1
    have hn := zhs_new_same' e1
    have h0 := zhs_new_old' e1 h0 hq
    refine g_astore_nq d_jA_copyOf_17 rfl (by decide) rfl ?_
    show G _ _ _ _ _ _ _ _ [(2, _), (0, _), (1, _)] _ _
    refine g_aload_nq d_jA_copyOf_18 rfl 1 rfl ?_
    refine g_iconst (v := 0) d_jA_copyOf_19 rfl ?_
    refine g_aload_nq d_jA_copyOf_20 rfl 0 rfl ?_
    refine g_iconst (v := 0) d_jA_copyOf_21 rfl ?_
    refine g_aload_nq d_jA_copyOf_22 rfl 1 rfl ?_
    refine g_alen d_jA_copyOf_23 0 (by assumption) rfl ?_
    refine g_iload_n d_jA_copyOf_24 rfl 2 rfl ?_
    refine g_callS d_jA_copyOf_25 k_jM_min l_jA_304 s_jM_min (by rfl) (by rfl) (Nat.le_of_ble_eq_true rfl) (by decide) (C_jM_min (by omega) (by omega) ⟨_, rfl, ?_⟩)
    have c1 := @nI_clamp (min n0 N) (by omega)
    have c0 : (0 : Int32).toNatClampNeg = 0 := sb_cl0
    refine g_acopy d_jA_copyOf_28 l_jA_150 (by assumption) (by assumption) (by decide) (by decide) (nI_pos (by omega)) (by rw [c0, c1]; omega) (by rw [c0, c1]; omega) (by decide) (Nat.le_of_ble_eq_true rfl) ?_
    rw [c0, c1]
    refine g_aload_nq d_jA_copyOf_31 rfl 0 rfl ?_
    refine g_aret d_jA_copyOf_32 ?_
    rw [← e1, znew_put]
    exact hQ q hq
  · exact absurd ((nI_eq (by omega) (by omega)).mp h3) hne

set_option maxHeartbeats 4000000 in
set_option maxRecDepth 100000 in
theorem C_Rm_count {w : zC} {Z : zZ} {Q : zR → zZ → Prop} {a k v f : Nat} {x : Int32} (h0 : zhs Z a (.inr (5, [.ref k, .ref v, .ref f, .int x]))) (hQ : Q (.inl (some (.int x))) Z) : Cz w (0, 0) y_Rm_count (Cond.code y_Rm_count c_Rm_count 1 r_Rm_count :: wz) [.ref a] Z Q := by
  refine Cz.of (by decide +kernel) (by simp [lg_sl, Value.category]) ?_
  show G _ _ _ _ _ _ _ _ [(0, _)] _ _
  refine g_aload_nq d_Rm_count_0 rfl 0 rfl ?_
  refine g_get d_Rm_count_1 f_Rm_21_Rm (by assumption) (by rfl) ?_
  refine g_iret d_Rm_count_4 ?_
  exact hQ

set_option maxHeartbeats 4000000 in
set_option maxRecDepth 100000 in
theorem C_Rm_wipe {w : zC} {Z : zZ} {Q : zR → zZ → Prop} {a k v f : Nat} {x : Int32} (h0 : zhs Z a (.inr (5, [.ref k, .ref v, .ref f, .int x]))) (hQ : Q (.inl none) (zput Z a (.inr (5, [.ref k, .ref v, .ref f, .int 0])))) : Cz w (0, 0) y_Rm_wipe (Cond.code y_Rm_wipe c_Rm_wipe 1 r_Rm_wipe :: wz) [.ref a] Z Q := by
  refine Cz.of (by decide +kernel) (by simp [lg_sl, Value.category]) ?_
  show G _ _ _ _ _ _ _ _ [(0, _)] _ _
  refine g_aload_nq d_Rm_wipe_0 rfl 0 rfl ?_
  refine g_iconst (v := 0) d_Rm_wipe_1 rfl ?_
  refine g_put d_Rm_wipe_2 w_Rm_21_Rm (by assumption) (by rfl) (by rfl) (Nat.le_of_ble_eq_true rfl) ?_
  refine g_vret d_Rm_wipe_5 ?_
  exact hQ

set_option maxHeartbeats 4000000 in
set_option maxRecDepth 100000 in
theorem C_Rm_setFirst {w : zC} {Z : zZ} {Q : zR → zZ → Prop} {a k v f c N : Nat} {ff : Nat → Int32} {i x : Int32} (h0 : zhs Z a (.inr (5, [.ref k, .ref v, .ref f, .int (nI c)]))) (h1 : zhs Z f (.inl (w.2.2.2.1 0, N, .inl ff))) (hc : c ≤ N) (hN : N < 2 ^ 31) (hi : ¬ i < 0 ∧ ¬ nI c ≤ i) (hQ : Q (.inl none) (zput Z f (.inl (w.2.2.2.1 0, N, .inl (upd ff i.toNatClampNeg x))))) : Cz w (1, 21) y_Rm_setFirst (Cond.code y_Rm_setFirst c_Rm_setFirst 3 r_Rm_setFirst :: wz) [.ref a, .int i, .int x] Z Q := by
  refine Cz.of (by decide +kernel) (by simp [lg_sl, Value.category]) ?_
  show G _ _ _ _ _ _ _ _ [(0, _), (1, _), (2, _)] _ _
  refine g_iload_n d_Rm_setFirst_0 rfl 1 rfl ?_
  refine g_aload_nq d_Rm_setFirst_1 rfl 0 rfl ?_
  refine g_get d_Rm_setFirst_2 f_Rm_21_Rm (by assumption) (by rfl) ?_
  refine g_callSN d_Rm_setFirst_5 k_K_isBelow l_Rm_40 s_K_isBelow (by rfl) (by rfl) (Nat.le_of_ble_eq_true rfl) (by decide) (C_K_isBelow ⟨_, rfl, ?_⟩)
  first | refine g_if_eqB (tgt := 27) d_Rm_setFirst_8 (by decide) (fun h8 => ?_) (fun h8 => ?_) | refine g_if_eq (tgt := 27) d_Rm_setFirst_8 (by decide) (fun h8 => ?_) (fun h8 => ?_)
  · exact absurd hi h8
  · refine g_iload_n d_Rm_setFirst_11 rfl 1 rfl ?_
    refine g_aload_nq d_Rm_setFirst_12 rfl 0 rfl ?_
    refine g_get d_Rm_setFirst_13 f_Rm_18_Rm (by assumption) (by rfl) ?_
    refine g_alen d_Rm_setFirst_16 0 (by assumption) rfl ?_
    refine g_icmp_ge (tgt := 27) d_Rm_setFirst_17 (by decide) (fun h17 => ?_) (fun h17 => ?_)
    · exact absurd h17 (vin_le hi.2 hc hN)
    · refine g_aload_nq d_Rm_setFirst_20 rfl 0 rfl ?_
      refine g_get d_Rm_setFirst_21 f_Rm_18_Rm (by assumption) (by rfl) ?_
      refine g_iload_n d_Rm_setFirst_24 rfl 1 rfl ?_
      refine g_iload_n d_Rm_setFirst_25 rfl 2 rfl ?_
      refine g_iast d_Rm_setFirst_26 (by assumption) (vin_of hi.1 h17 hN) ?_
      refine g_vret d_Rm_setFirst_27 ?_
      exact hQ
end
