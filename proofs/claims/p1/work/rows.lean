section
-- ===== PART A: goes FIRST, ahead of the names: the tables' words, and 'selects' of the private methods out of them =====
/-- a private method of a class that the tables say can be made, by its rows of tables_1 -/
def lw_okq (q : MethodName × Nat) : Prop := (q.1.cls ≠ "java/lang/invoke/MethodHandle" ∧ q.1.cls ≠ "java/lang/invoke/VarHandle") ∧ Cond.instantiable q.1.cls q.2 ∈ tables_1 ∧ Cond.privateMethod q.1 ∈ tables_1 ∧ Cond.instanceMethod q.1 ∈ tables_1
theorem lw_p0 : lw_okq (⟨"JobText$Reader", "isData", "()Z"⟩, 9) := ⟨⟨by decide +kernel, by decide +kernel⟩, List.mem_of_getElem? (i := 305) (by decide +kernel), List.mem_of_getElem? (i := 351) (by decide +kernel), List.mem_of_getElem? (i := 352) (by decide +kernel)⟩
theorem lw_p1 : lw_okq (⟨"JobText$Reader", "readStatement", "()V"⟩, 9) := ⟨⟨by decide +kernel, by decide +kernel⟩, List.mem_of_getElem? (i := 305) (by decide +kernel), List.mem_of_getElem? (i := 376) (by decide +kernel), List.mem_of_getElem? (i := 377) (by decide +kernel)⟩
theorem lw_p2 : lw_okq (⟨"JobText$Reader", "readNames", "(LJobText$Statement;I)Z"⟩, 9) := ⟨⟨by decide +kernel, by decide +kernel⟩, List.mem_of_getElem? (i := 305) (by decide +kernel), List.mem_of_getElem? (i := 465) (by decide +kernel), List.mem_of_getElem? (i := 466) (by decide +kernel)⟩
theorem lw_p3 : lw_okq (⟨"JobText$Reader", "operationBetween", "(II)I"⟩, 9) := ⟨⟨by decide +kernel, by decide +kernel⟩, List.mem_of_getElem? (i := 305) (by decide +kernel), List.mem_of_getElem? (i := 480) (by decide +kernel), List.mem_of_getElem? (i := 481) (by decide +kernel)⟩
theorem lw_p4 : lw_okq (⟨"JobText$Reader", "nearest", "(I)I"⟩, 9) := ⟨⟨by decide +kernel, by decide +kernel⟩, List.mem_of_getElem? (i := 305) (by decide +kernel), List.mem_of_getElem? (i := 549) (by decide +kernel), List.mem_of_getElem? (i := 550) (by decide +kernel)⟩
theorem lw_p5 : lw_okq (⟨"JobText$Reader", "readParameters", "(LJobText$Statement;)Z"⟩, 9) := ⟨⟨by decide +kernel, by decide +kernel⟩, List.mem_of_getElem? (i := 305) (by decide +kernel), List.mem_of_getElem? (i := 553) (by decide +kernel), List.mem_of_getElem? (i := 554) (by decide +kernel)⟩
theorem lw_p6 : lw_okq (⟨"JobText$Reader", "atEnd", "()Z"⟩, 9) := ⟨⟨by decide +kernel, by decide +kernel⟩, List.mem_of_getElem? (i := 305) (by decide +kernel), List.mem_of_getElem? (i := 557) (by decide +kernel), List.mem_of_getElem? (i := 558) (by decide +kernel)⟩
theorem lw_p7 : lw_okq (⟨"JobText$Reader", "takeKey", "()J"⟩, 9) := ⟨⟨by decide +kernel, by decide +kernel⟩, List.mem_of_getElem? (i := 305) (by decide +kernel), List.mem_of_getElem? (i := 561) (by decide +kernel), List.mem_of_getElem? (i := 562) (by decide +kernel)⟩
theorem lw_p8 : lw_okq (⟨"JobText$Rows", "grow", "()V"⟩, 4) := ⟨⟨by decide +kernel, by decide +kernel⟩, List.mem_of_getElem? (i := 155) (by decide +kernel), List.mem_of_getElem? (i := 570) (by decide +kernel), List.mem_of_getElem? (i := 571) (by decide +kernel)⟩
theorem lw_p9 : lw_okq (⟨"JobText$Reader", "readValue", "()Z"⟩, 9) := ⟨⟨by decide +kernel, by decide +kernel⟩, List.mem_of_getElem? (i := 305) (by decide +kernel), List.mem_of_getElem? (i := 577) (by decide +kernel), List.mem_of_getElem? (i := 578) (by decide +kernel)⟩
theorem lw_p10 : lw_okq (⟨"JobText$Reader", "goOn", "()Z"⟩, 9) := ⟨⟨by decide +kernel, by decide +kernel⟩, List.mem_of_getElem? (i := 305) (by decide +kernel), List.mem_of_getElem? (i := 581) (by decide +kernel), List.mem_of_getElem? (i := 582) (by decide +kernel)⟩
theorem lw_p11 : lw_okq (⟨"JobText$Text", "fits", "(LJobText$Statement;LJobText$Body;)Z"⟩, 7) := ⟨⟨by decide +kernel, by decide +kernel⟩, List.mem_of_getElem? (i := 248) (by decide +kernel), List.mem_of_getElem? (i := 608) (by decide +kernel), List.mem_of_getElem? (i := 609) (by decide +kernel)⟩
theorem lw_p12 : lw_okq (⟨"JobText$Text", "elseOfLatestIf", "()I"⟩, 7) := ⟨⟨by decide +kernel, by decide +kernel⟩, List.mem_of_getElem? (i := 248) (by decide +kernel), List.mem_of_getElem? (i := 632) (by decide +kernel), List.mem_of_getElem? (i := 633) (by decide +kernel)⟩
theorem lw_p13 : lw_okq (⟨"JobText$Text", "isNamedWell", "(LJobText$Statement;LJobText$Body;)Z"⟩, 7) := ⟨⟨by decide +kernel, by decide +kernel⟩, List.mem_of_getElem? (i := 248) (by decide +kernel), List.mem_of_getElem? (i := 636) (by decide +kernel), List.mem_of_getElem? (i := 637) (by decide +kernel)⟩
theorem lw_p14 : lw_okq (⟨"JobText$Text", "isBehindPlainDd", "()Z"⟩, 7) := ⟨⟨by decide +kernel, by decide +kernel⟩, List.mem_of_getElem? (i := 248) (by decide +kernel), List.mem_of_getElem? (i := 671) (by decide +kernel), List.mem_of_getElem? (i := 672) (by decide +kernel)⟩
theorem lw_p15 : lw_okq (⟨"java/util/ArrayList", "add", "(Ljava/lang/Object;[Ljava/lang/Object;I)V"⟩, 3) := ⟨⟨by decide +kernel, by decide +kernel⟩, List.mem_of_getElem? (i := 61) (by decide +kernel), List.mem_of_getElem? (i := 713) (by decide +kernel), List.mem_of_getElem? (i := 714) (by decide +kernel)⟩
def lw_privs_1 : List (MethodName × Nat) := [(⟨"JobText$Reader", "isData", "()Z"⟩, 9), (⟨"JobText$Reader", "readStatement", "()V"⟩, 9), (⟨"JobText$Reader", "readNames", "(LJobText$Statement;I)Z"⟩, 9), (⟨"JobText$Reader", "operationBetween", "(II)I"⟩, 9), (⟨"JobText$Reader", "nearest", "(I)I"⟩, 9), (⟨"JobText$Reader", "readParameters", "(LJobText$Statement;)Z"⟩, 9), (⟨"JobText$Reader", "atEnd", "()Z"⟩, 9), (⟨"JobText$Reader", "takeKey", "()J"⟩, 9), (⟨"JobText$Rows", "grow", "()V"⟩, 4), (⟨"JobText$Reader", "readValue", "()Z"⟩, 9), (⟨"JobText$Reader", "goOn", "()Z"⟩, 9), (⟨"JobText$Text", "fits", "(LJobText$Statement;LJobText$Body;)Z"⟩, 7), (⟨"JobText$Text", "elseOfLatestIf", "()I"⟩, 7), (⟨"JobText$Text", "isNamedWell", "(LJobText$Statement;LJobText$Body;)Z"⟩, 7), (⟨"JobText$Text", "isBehindPlainDd", "()Z"⟩, 7), (⟨"java/util/ArrayList", "add", "(Ljava/lang/Object;[Ljava/lang/Object;I)V"⟩, 3)]
theorem lw_r1 : ∀ q ∈ lw_privs_1, lw_okq q := List.forall_mem_cons.mpr ⟨lw_p0, List.forall_mem_cons.mpr ⟨lw_p1, List.forall_mem_cons.mpr ⟨lw_p2, List.forall_mem_cons.mpr ⟨lw_p3, List.forall_mem_cons.mpr ⟨lw_p4, List.forall_mem_cons.mpr ⟨lw_p5, List.forall_mem_cons.mpr ⟨lw_p6, List.forall_mem_cons.mpr ⟨lw_p7, List.forall_mem_cons.mpr ⟨lw_p8, List.forall_mem_cons.mpr ⟨lw_p9, List.forall_mem_cons.mpr ⟨lw_p10, List.forall_mem_cons.mpr ⟨lw_p11, List.forall_mem_cons.mpr ⟨lw_p12, List.forall_mem_cons.mpr ⟨lw_p13, List.forall_mem_cons.mpr ⟨lw_p14, List.forall_mem_cons.mpr ⟨lw_p15, fun _ h => absurd h List.not_mem_nil⟩⟩⟩⟩⟩⟩⟩⟩⟩⟩⟩⟩⟩⟩⟩⟩
theorem lw_p16 : lw_okq (⟨"java/util/ArrayList", "grow", "()[Ljava/lang/Object;"⟩, 3) := ⟨⟨by decide +kernel, by decide +kernel⟩, List.mem_of_getElem? (i := 61) (by decide +kernel), List.mem_of_getElem? (i := 717) (by decide +kernel), List.mem_of_getElem? (i := 718) (by decide +kernel)⟩
theorem lw_p17 : lw_okq (⟨"java/util/ArrayList", "grow", "(I)[Ljava/lang/Object;"⟩, 3) := ⟨⟨by decide +kernel, by decide +kernel⟩, List.mem_of_getElem? (i := 61) (by decide +kernel), List.mem_of_getElem? (i := 721) (by decide +kernel), List.mem_of_getElem? (i := 722) (by decide +kernel)⟩
theorem lw_p18 : lw_okq (⟨"JobText$Text", "enter", "(LJobText$Statement;LJobText$Body;)V"⟩, 7) := ⟨⟨by decide +kernel, by decide +kernel⟩, List.mem_of_getElem? (i := 248) (by decide +kernel), List.mem_of_getElem? (i := 767) (by decide +kernel), List.mem_of_getElem? (i := 768) (by decide +kernel)⟩
theorem lw_p19 : lw_okq (⟨"JobText", "shelve", "(LJobText$Text;)Z"⟩, 6) := ⟨⟨by decide +kernel, by decide +kernel⟩, List.mem_of_getElem? (i := 29) (by decide +kernel), List.mem_of_getElem? (i := 819) (by decide +kernel), List.mem_of_getElem? (i := 820) (by decide +kernel)⟩
theorem lw_p20 : lw_okq (⟨"JobText", "statementOf", "(I)LJobText$Statement;"⟩, 6) := ⟨⟨by decide +kernel, by decide +kernel⟩, List.mem_of_getElem? (i := 29) (by decide +kernel), List.mem_of_getElem? (i := 841) (by decide +kernel), List.mem_of_getElem? (i := 842) (by decide +kernel)⟩
theorem lw_p21 : lw_okq (⟨"JobText", "hasJob", "()Z"⟩, 6) := ⟨⟨by decide +kernel, by decide +kernel⟩, List.mem_of_getElem? (i := 29) (by decide +kernel), List.mem_of_getElem? (i := 883) (by decide +kernel), List.mem_of_getElem? (i := 884) (by decide +kernel)⟩
theorem lw_p22 : lw_okq (⟨"JobText$Expander", "push", "(LJobText$Body;)LJobText$Frame;"⟩, 12) := ⟨⟨by decide +kernel, by decide +kernel⟩, List.mem_of_getElem? (i := 87) (by decide +kernel), List.mem_of_getElem? (i := 943) (by decide +kernel), List.mem_of_getElem? (i := 944) (by decide +kernel)⟩
theorem lw_p23 : lw_okq (⟨"JobText$Expander", "passSet", "(LJobText$Statement;LJobText$Frame;)V"⟩, 12) := ⟨⟨by decide +kernel, by decide +kernel⟩, List.mem_of_getElem? (i := 87) (by decide +kernel), List.mem_of_getElem? (i := 1003) (by decide +kernel), List.mem_of_getElem? (i := 1004) (by decide +kernel)⟩
theorem lw_p24 : lw_okq (⟨"JobText$Expander", "fill", "(LJobText$Statement;LJobText$Frame;)Z"⟩, 12) := ⟨⟨by decide +kernel, by decide +kernel⟩, List.mem_of_getElem? (i := 87) (by decide +kernel), List.mem_of_getElem? (i := 1007) (by decide +kernel), List.mem_of_getElem? (i := 1008) (by decide +kernel)⟩
theorem lw_p25 : lw_okq (⟨"JobText$Expander", "fillValue", "(LJobText$Rows;ILJobText$Frame;)V"⟩, 12) := ⟨⟨by decide +kernel, by decide +kernel⟩, List.mem_of_getElem? (i := 87) (by decide +kernel), List.mem_of_getElem? (i := 1013) (by decide +kernel), List.mem_of_getElem? (i := 1014) (by decide +kernel)⟩
theorem lw_p26 : lw_okq (⟨"JobText$Expander", "putSymbol", "(JLJobText$Frame;)V"⟩, 12) := ⟨⟨by decide +kernel, by decide +kernel⟩, List.mem_of_getElem? (i := 87) (by decide +kernel), List.mem_of_getElem? (i := 1022) (by decide +kernel), List.mem_of_getElem? (i := 1023) (by decide +kernel)⟩
theorem lw_p27 : lw_okq (⟨"JobText$Expander", "write", "(LJobText$Statement;LJobText$Frame;)V"⟩, 12) := ⟨⟨by decide +kernel, by decide +kernel⟩, List.mem_of_getElem? (i := 87) (by decide +kernel), List.mem_of_getElem? (i := 1052) (by decide +kernel), List.mem_of_getElem? (i := 1053) (by decide +kernel)⟩
theorem lw_p28 : lw_okq (⟨"JobText$Expander", "merge", "(ILJobText$Change;)I"⟩, 12) := ⟨⟨by decide +kernel, by decide +kernel⟩, List.mem_of_getElem? (i := 87) (by decide +kernel), List.mem_of_getElem? (i := 1065) (by decide +kernel), List.mem_of_getElem? (i := 1066) (by decide +kernel)⟩
theorem lw_p29 : lw_okq (⟨"JobText$Expander", "gather", "(LJobText$Frame;)V"⟩, 12) := ⟨⟨by decide +kernel, by decide +kernel⟩, List.mem_of_getElem? (i := 87) (by decide +kernel), List.mem_of_getElem? (i := 1123) (by decide +kernel), List.mem_of_getElem? (i := 1124) (by decide +kernel)⟩
theorem lw_p30 : lw_okq (⟨"JobText$Expander", "fillOverrides", "(ILJobText$Frame;)V"⟩, 12) := ⟨⟨by decide +kernel, by decide +kernel⟩, List.mem_of_getElem? (i := 87) (by decide +kernel), List.mem_of_getElem? (i := 1155) (by decide +kernel), List.mem_of_getElem? (i := 1156) (by decide +kernel)⟩
theorem lw_p31 : lw_okq (⟨"JobText$Expander", "call", "(LJobText$Statement;II)V"⟩, 12) := ⟨⟨by decide +kernel, by decide +kernel⟩, List.mem_of_getElem? (i := 87) (by decide +kernel), List.mem_of_getElem? (i := 1159) (by decide +kernel), List.mem_of_getElem? (i := 1160) (by decide +kernel)⟩
def lw_privs_2 : List (MethodName × Nat) := [(⟨"java/util/ArrayList", "grow", "()[Ljava/lang/Object;"⟩, 3), (⟨"java/util/ArrayList", "grow", "(I)[Ljava/lang/Object;"⟩, 3), (⟨"JobText$Text", "enter", "(LJobText$Statement;LJobText$Body;)V"⟩, 7), (⟨"JobText", "shelve", "(LJobText$Text;)Z"⟩, 6), (⟨"JobText", "statementOf", "(I)LJobText$Statement;"⟩, 6), (⟨"JobText", "hasJob", "()Z"⟩, 6), (⟨"JobText$Expander", "push", "(LJobText$Body;)LJobText$Frame;"⟩, 12), (⟨"JobText$Expander", "passSet", "(LJobText$Statement;LJobText$Frame;)V"⟩, 12), (⟨"JobText$Expander", "fill", "(LJobText$Statement;LJobText$Frame;)Z"⟩, 12), (⟨"JobText$Expander", "fillValue", "(LJobText$Rows;ILJobText$Frame;)V"⟩, 12), (⟨"JobText$Expander", "putSymbol", "(JLJobText$Frame;)V"⟩, 12), (⟨"JobText$Expander", "write", "(LJobText$Statement;LJobText$Frame;)V"⟩, 12), (⟨"JobText$Expander", "merge", "(ILJobText$Change;)I"⟩, 12), (⟨"JobText$Expander", "gather", "(LJobText$Frame;)V"⟩, 12), (⟨"JobText$Expander", "fillOverrides", "(ILJobText$Frame;)V"⟩, 12), (⟨"JobText$Expander", "call", "(LJobText$Statement;II)V"⟩, 12)]
theorem lw_r2 : ∀ q ∈ lw_privs_2, lw_okq q := List.forall_mem_cons.mpr ⟨lw_p16, List.forall_mem_cons.mpr ⟨lw_p17, List.forall_mem_cons.mpr ⟨lw_p18, List.forall_mem_cons.mpr ⟨lw_p19, List.forall_mem_cons.mpr ⟨lw_p20, List.forall_mem_cons.mpr ⟨lw_p21, List.forall_mem_cons.mpr ⟨lw_p22, List.forall_mem_cons.mpr ⟨lw_p23, List.forall_mem_cons.mpr ⟨lw_p24, List.forall_mem_cons.mpr ⟨lw_p25, List.forall_mem_cons.mpr ⟨lw_p26, List.forall_mem_cons.mpr ⟨lw_p27, List.forall_mem_cons.mpr ⟨lw_p28, List.forall_mem_cons.mpr ⟨lw_p29, List.forall_mem_cons.mpr ⟨lw_p30, List.forall_mem_cons.mpr ⟨lw_p31, fun _ h => absurd h List.not_mem_nil⟩⟩⟩⟩⟩⟩⟩⟩⟩⟩⟩⟩⟩⟩⟩⟩
theorem lw_p32 : lw_okq (⟨"JobText$Expander", "findProcedure", "(J)LJobText$Body;"⟩, 12) := ⟨⟨by decide +kernel, by decide +kernel⟩, List.mem_of_getElem? (i := 87) (by decide +kernel), List.mem_of_getElem? (i := 1164) (by decide +kernel), List.mem_of_getElem? (i := 1165) (by decide +kernel)⟩
theorem lw_p33 : lw_okq (⟨"JobText$Expander", "isBeingExpanded", "(LJobText$Body;)Z"⟩, 12) := ⟨⟨by decide +kernel, by decide +kernel⟩, List.mem_of_getElem? (i := 87) (by decide +kernel), List.mem_of_getElem? (i := 1170) (by decide +kernel), List.mem_of_getElem? (i := 1171) (by decide +kernel)⟩
theorem lw_p34 : lw_okq (⟨"JobText$Expander", "aimAll", "(ILJobText$Body;)Z"⟩, 12) := ⟨⟨by decide +kernel, by decide +kernel⟩, List.mem_of_getElem? (i := 87) (by decide +kernel), List.mem_of_getElem? (i := 1174) (by decide +kernel), List.mem_of_getElem? (i := 1175) (by decide +kernel)⟩
theorem lw_p35 : lw_okq (⟨"JobText$Expander", "addBehind", "(LJobText$Statement;LJobText$Frame;)V"⟩, 12) := ⟨⟨by decide +kernel, by decide +kernel⟩, List.mem_of_getElem? (i := 87) (by decide +kernel), List.mem_of_getElem? (i := 1190) (by decide +kernel), List.mem_of_getElem? (i := 1191) (by decide +kernel)⟩
theorem lw_p36 : lw_okq (⟨"JobText$Expander", "addLine", "(LJobText$Change;)V"⟩, 12) := ⟨⟨by decide +kernel, by decide +kernel⟩, List.mem_of_getElem? (i := 87) (by decide +kernel), List.mem_of_getElem? (i := 1198) (by decide +kernel), List.mem_of_getElem? (i := 1199) (by decide +kernel)⟩
theorem lw_p37 : lw_okq (⟨"JobTextModel", "split", "(I)V"⟩, 81) := ⟨⟨by decide +kernel, by decide +kernel⟩, List.mem_of_getElem? (i := 1258) (by decide +kernel), List.mem_of_getElem? (i := 1521) (by decide +kernel), List.mem_of_getElem? (i := 1522) (by decide +kernel)⟩
theorem lw_p38 : lw_okq (⟨"JobTextModel", "oneLine", "()V"⟩, 81) := ⟨⟨by decide +kernel, by decide +kernel⟩, List.mem_of_getElem? (i := 1258) (by decide +kernel), List.mem_of_getElem? (i := 1525) (by decide +kernel), List.mem_of_getElem? (i := 1526) (by decide +kernel)⟩
theorem lw_p39 : lw_okq (⟨"JobTextModel", "begins", "(III)Z"⟩, 81) := ⟨⟨by decide +kernel, by decide +kernel⟩, List.mem_of_getElem? (i := 1258) (by decide +kernel), List.mem_of_getElem? (i := 1529) (by decide +kernel), List.mem_of_getElem? (i := 1530) (by decide +kernel)⟩
theorem lw_p40 : lw_okq (⟨"JobTextModel", "fault", "(IIII)V"⟩, 81) := ⟨⟨by decide +kernel, by decide +kernel⟩, List.mem_of_getElem? (i := 1258) (by decide +kernel), List.mem_of_getElem? (i := 1533) (by decide +kernel), List.mem_of_getElem? (i := 1534) (by decide +kernel)⟩
theorem lw_p41 : lw_okq (⟨"JobTextModel", "isComment", "(I)Z"⟩, 81) := ⟨⟨by decide +kernel, by decide +kernel⟩, List.mem_of_getElem? (i := 1258) (by decide +kernel), List.mem_of_getElem? (i := 1537) (by decide +kernel), List.mem_of_getElem? (i := 1538) (by decide +kernel)⟩
theorem lw_p42 : lw_okq (⟨"JobTextModel", "blanks", "(III)I"⟩, 81) := ⟨⟨by decide +kernel, by decide +kernel⟩, List.mem_of_getElem? (i := 1258) (by decide +kernel), List.mem_of_getElem? (i := 1541) (by decide +kernel), List.mem_of_getElem? (i := 1542) (by decide +kernel)⟩
theorem lw_p43 : lw_okq (⟨"JobTextModel", "solid", "(III)I"⟩, 81) := ⟨⟨by decide +kernel, by decide +kernel⟩, List.mem_of_getElem? (i := 1258) (by decide +kernel), List.mem_of_getElem? (i := 1545) (by decide +kernel), List.mem_of_getElem? (i := 1546) (by decide +kernel)⟩
theorem lw_p44 : lw_okq (⟨"JobTextModel", "pointOf", "(II)I"⟩, 81) := ⟨⟨by decide +kernel, by decide +kernel⟩, List.mem_of_getElem? (i := 1258) (by decide +kernel), List.mem_of_getElem? (i := 1549) (by decide +kernel), List.mem_of_getElem? (i := 1550) (by decide +kernel)⟩
theorem lw_p45 : lw_okq (⟨"JobTextModel", "isName", "(II)Z"⟩, 81) := ⟨⟨by decide +kernel, by decide +kernel⟩, List.mem_of_getElem? (i := 1258) (by decide +kernel), List.mem_of_getElem? (i := 1553) (by decide +kernel), List.mem_of_getElem? (i := 1554) (by decide +kernel)⟩
theorem lw_p46 : lw_okq (⟨"JobTextModel", "known", "(II)I"⟩, 81) := ⟨⟨by decide +kernel, by decide +kernel⟩, List.mem_of_getElem? (i := 1258) (by decide +kernel), List.mem_of_getElem? (i := 1563) (by decide +kernel), List.mem_of_getElem? (i := 1564) (by decide +kernel)⟩
theorem lw_p47 : lw_okq (⟨"JobTextModel", "alike", "(III)I"⟩, 81) := ⟨⟨by decide +kernel, by decide +kernel⟩, List.mem_of_getElem? (i := 1258) (by decide +kernel), List.mem_of_getElem? (i := 1567) (by decide +kernel), List.mem_of_getElem? (i := 1568) (by decide +kernel)⟩
def lw_privs_3 : List (MethodName × Nat) := [(⟨"JobText$Expander", "findProcedure", "(J)LJobText$Body;"⟩, 12), (⟨"JobText$Expander", "isBeingExpanded", "(LJobText$Body;)Z"⟩, 12), (⟨"JobText$Expander", "aimAll", "(ILJobText$Body;)Z"⟩, 12), (⟨"JobText$Expander", "addBehind", "(LJobText$Statement;LJobText$Frame;)V"⟩, 12), (⟨"JobText$Expander", "addLine", "(LJobText$Change;)V"⟩, 12), (⟨"JobTextModel", "split", "(I)V"⟩, 81), (⟨"JobTextModel", "oneLine", "()V"⟩, 81), (⟨"JobTextModel", "begins", "(III)Z"⟩, 81), (⟨"JobTextModel", "fault", "(IIII)V"⟩, 81), (⟨"JobTextModel", "isComment", "(I)Z"⟩, 81), (⟨"JobTextModel", "blanks", "(III)I"⟩, 81), (⟨"JobTextModel", "solid", "(III)I"⟩, 81), (⟨"JobTextModel", "pointOf", "(II)I"⟩, 81), (⟨"JobTextModel", "isName", "(II)Z"⟩, 81), (⟨"JobTextModel", "known", "(II)I"⟩, 81), (⟨"JobTextModel", "alike", "(III)I"⟩, 81)]
theorem lw_r3 : ∀ q ∈ lw_privs_3, lw_okq q := List.forall_mem_cons.mpr ⟨lw_p32, List.forall_mem_cons.mpr ⟨lw_p33, List.forall_mem_cons.mpr ⟨lw_p34, List.forall_mem_cons.mpr ⟨lw_p35, List.forall_mem_cons.mpr ⟨lw_p36, List.forall_mem_cons.mpr ⟨lw_p37, List.forall_mem_cons.mpr ⟨lw_p38, List.forall_mem_cons.mpr ⟨lw_p39, List.forall_mem_cons.mpr ⟨lw_p40, List.forall_mem_cons.mpr ⟨lw_p41, List.forall_mem_cons.mpr ⟨lw_p42, List.forall_mem_cons.mpr ⟨lw_p43, List.forall_mem_cons.mpr ⟨lw_p44, List.forall_mem_cons.mpr ⟨lw_p45, List.forall_mem_cons.mpr ⟨lw_p46, List.forall_mem_cons.mpr ⟨lw_p47, fun _ h => absurd h List.not_mem_nil⟩⟩⟩⟩⟩⟩⟩⟩⟩⟩⟩⟩⟩⟩⟩⟩
theorem lw_p48 : lw_okq (⟨"JobTextModel", "nearest", "(II)I"⟩, 81) := ⟨⟨by decide +kernel, by decide +kernel⟩, List.mem_of_getElem? (i := 1258) (by decide +kernel), List.mem_of_getElem? (i := 1586) (by decide +kernel), List.mem_of_getElem? (i := 1587) (by decide +kernel)⟩
theorem lw_p49 : lw_okq (⟨"JobTextModel", "statement", "(IIIIIII)V"⟩, 81) := ⟨⟨by decide +kernel, by decide +kernel⟩, List.mem_of_getElem? (i := 1258) (by decide +kernel), List.mem_of_getElem? (i := 1590) (by decide +kernel), List.mem_of_getElem? (i := 1591) (by decide +kernel)⟩
theorem lw_p50 : lw_okq (⟨"JobTextModel", "row", "(II)Z"⟩, 81) := ⟨⟨by decide +kernel, by decide +kernel⟩, List.mem_of_getElem? (i := 1258) (by decide +kernel), List.mem_of_getElem? (i := 1594) (by decide +kernel), List.mem_of_getElem? (i := 1595) (by decide +kernel)⟩
theorem lw_p51 : lw_okq (⟨"JobTextModel", "parameter", "(I)Z"⟩, 81) := ⟨⟨by decide +kernel, by decide +kernel⟩, List.mem_of_getElem? (i := 1258) (by decide +kernel), List.mem_of_getElem? (i := 1598) (by decide +kernel), List.mem_of_getElem? (i := 1599) (by decide +kernel)⟩
theorem lw_p52 : lw_okq (⟨"JobTextModel", "wrong", "(II)Z"⟩, 81) := ⟨⟨by decide +kernel, by decide +kernel⟩, List.mem_of_getElem? (i := 1258) (by decide +kernel), List.mem_of_getElem? (i := 1602) (by decide +kernel), List.mem_of_getElem? (i := 1603) (by decide +kernel)⟩
theorem lw_p53 : lw_okq (⟨"JobTextModel", "check", "(IIII)I"⟩, 81) := ⟨⟨by decide +kernel, by decide +kernel⟩, List.mem_of_getElem? (i := 1258) (by decide +kernel), List.mem_of_getElem? (i := 1606) (by decide +kernel), List.mem_of_getElem? (i := 1607) (by decide +kernel)⟩
theorem lw_p54 : lw_okq (⟨"JobTextModel", "isTwice", "(IIII)Z"⟩, 81) := ⟨⟨by decide +kernel, by decide +kernel⟩, List.mem_of_getElem? (i := 1258) (by decide +kernel), List.mem_of_getElem? (i := 1610) (by decide +kernel), List.mem_of_getElem? (i := 1611) (by decide +kernel)⟩
theorem lw_p55 : lw_okq (⟨"JobTextModel", "same", "(IIII)Z"⟩, 81) := ⟨⟨by decide +kernel, by decide +kernel⟩, List.mem_of_getElem? (i := 1258) (by decide +kernel), List.mem_of_getElem? (i := 1614) (by decide +kernel), List.mem_of_getElem? (i := 1615) (by decide +kernel)⟩
theorem lw_p56 : lw_okq (⟨"JobTextModel", "runs", "(II)Z"⟩, 81) := ⟨⟨by decide +kernel, by decide +kernel⟩, List.mem_of_getElem? (i := 1258) (by decide +kernel), List.mem_of_getElem? (i := 1618) (by decide +kernel), List.mem_of_getElem? (i := 1619) (by decide +kernel)⟩
theorem lw_p57 : lw_okq (⟨"JobTextModel", "reserved", "(I)I"⟩, 81) := ⟨⟨by decide +kernel, by decide +kernel⟩, List.mem_of_getElem? (i := 1258) (by decide +kernel), List.mem_of_getElem? (i := 1622) (by decide +kernel), List.mem_of_getElem? (i := 1623) (by decide +kernel)⟩
theorem lw_p58 : lw_okq (⟨"JobTextModel", "callee", "(II)I"⟩, 81) := ⟨⟨by decide +kernel, by decide +kernel⟩, List.mem_of_getElem? (i := 1258) (by decide +kernel), List.mem_of_getElem? (i := 1626) (by decide +kernel), List.mem_of_getElem? (i := 1627) (by decide +kernel)⟩
theorem lw_p59 : lw_okq (⟨"JobTextModel", "valueFrom", "(I)I"⟩, 81) := ⟨⟨by decide +kernel, by decide +kernel⟩, List.mem_of_getElem? (i := 1258) (by decide +kernel), List.mem_of_getElem? (i := 1630) (by decide +kernel), List.mem_of_getElem? (i := 1631) (by decide +kernel)⟩
theorem lw_p60 : lw_okq (⟨"JobTextModel", "valueLong", "(I)I"⟩, 81) := ⟨⟨by decide +kernel, by decide +kernel⟩, List.mem_of_getElem? (i := 1258) (by decide +kernel), List.mem_of_getElem? (i := 1634) (by decide +kernel), List.mem_of_getElem? (i := 1635) (by decide +kernel)⟩
theorem lw_p61 : lw_okq (⟨"JobTextModel", "placed", "()I"⟩, 81) := ⟨⟨by decide +kernel, by decide +kernel⟩, List.mem_of_getElem? (i := 1258) (by decide +kernel), List.mem_of_getElem? (i := 1638) (by decide +kernel), List.mem_of_getElem? (i := 1639) (by decide +kernel)⟩
theorem lw_p62 : lw_okq (⟨"JobTextModel", "add", "(IIIII)V"⟩, 81) := ⟨⟨by decide +kernel, by decide +kernel⟩, List.mem_of_getElem? (i := 1258) (by decide +kernel), List.mem_of_getElem? (i := 1642) (by decide +kernel), List.mem_of_getElem? (i := 1643) (by decide +kernel)⟩
theorem lw_p63 : lw_okq (⟨"JobTextModel", "data", "(I)V"⟩, 81) := ⟨⟨by decide +kernel, by decide +kernel⟩, List.mem_of_getElem? (i := 1258) (by decide +kernel), List.mem_of_getElem? (i := 1646) (by decide +kernel), List.mem_of_getElem? (i := 1647) (by decide +kernel)⟩
def lw_privs_4 : List (MethodName × Nat) := [(⟨"JobTextModel", "nearest", "(II)I"⟩, 81), (⟨"JobTextModel", "statement", "(IIIIIII)V"⟩, 81), (⟨"JobTextModel", "row", "(II)Z"⟩, 81), (⟨"JobTextModel", "parameter", "(I)Z"⟩, 81), (⟨"JobTextModel", "wrong", "(II)Z"⟩, 81), (⟨"JobTextModel", "check", "(IIII)I"⟩, 81), (⟨"JobTextModel", "isTwice", "(IIII)Z"⟩, 81), (⟨"JobTextModel", "same", "(IIII)Z"⟩, 81), (⟨"JobTextModel", "runs", "(II)Z"⟩, 81), (⟨"JobTextModel", "reserved", "(I)I"⟩, 81), (⟨"JobTextModel", "callee", "(II)I"⟩, 81), (⟨"JobTextModel", "valueFrom", "(I)I"⟩, 81), (⟨"JobTextModel", "valueLong", "(I)I"⟩, 81), (⟨"JobTextModel", "placed", "()I"⟩, 81), (⟨"JobTextModel", "add", "(IIIII)V"⟩, 81), (⟨"JobTextModel", "data", "(I)V"⟩, 81)]
theorem lw_r4 : ∀ q ∈ lw_privs_4, lw_okq q := List.forall_mem_cons.mpr ⟨lw_p48, List.forall_mem_cons.mpr ⟨lw_p49, List.forall_mem_cons.mpr ⟨lw_p50, List.forall_mem_cons.mpr ⟨lw_p51, List.forall_mem_cons.mpr ⟨lw_p52, List.forall_mem_cons.mpr ⟨lw_p53, List.forall_mem_cons.mpr ⟨lw_p54, List.forall_mem_cons.mpr ⟨lw_p55, List.forall_mem_cons.mpr ⟨lw_p56, List.forall_mem_cons.mpr ⟨lw_p57, List.forall_mem_cons.mpr ⟨lw_p58, List.forall_mem_cons.mpr ⟨lw_p59, List.forall_mem_cons.mpr ⟨lw_p60, List.forall_mem_cons.mpr ⟨lw_p61, List.forall_mem_cons.mpr ⟨lw_p62, List.forall_mem_cons.mpr ⟨lw_p63, fun _ h => absurd h List.not_mem_nil⟩⟩⟩⟩⟩⟩⟩⟩⟩⟩⟩⟩⟩⟩⟩⟩
theorem lw_p64 : lw_okq (⟨"JobTextModel", "keep", "()Z"⟩, 81) := ⟨⟨by decide +kernel, by decide +kernel⟩, List.mem_of_getElem? (i := 1258) (by decide +kernel), List.mem_of_getElem? (i := 1650) (by decide +kernel), List.mem_of_getElem? (i := 1651) (by decide +kernel)⟩
theorem lw_p65 : lw_okq (⟨"JobTextModel", "kept", "(I)I"⟩, 81) := ⟨⟨by decide +kernel, by decide +kernel⟩, List.mem_of_getElem? (i := 1258) (by decide +kernel), List.mem_of_getElem? (i := 1654) (by decide +kernel), List.mem_of_getElem? (i := 1655) (by decide +kernel)⟩
theorem lw_p66 : lw_okq (⟨"JobTextModel", "copy", "(II)V"⟩, 81) := ⟨⟨by decide +kernel, by decide +kernel⟩, List.mem_of_getElem? (i := 1258) (by decide +kernel), List.mem_of_getElem? (i := 1658) (by decide +kernel), List.mem_of_getElem? (i := 1659) (by decide +kernel)⟩
theorem lw_p67 : lw_okq (⟨"JobTextModel", "setAll", "(I)Z"⟩, 81) := ⟨⟨by decide +kernel, by decide +kernel⟩, List.mem_of_getElem? (i := 1258) (by decide +kernel), List.mem_of_getElem? (i := 1666) (by decide +kernel), List.mem_of_getElem? (i := 1667) (by decide +kernel)⟩
theorem lw_p68 : lw_okq (⟨"JobTextModel", "allReplaced", "(I)Z"⟩, 81) := ⟨⟨by decide +kernel, by decide +kernel⟩, List.mem_of_getElem? (i := 1258) (by decide +kernel), List.mem_of_getElem? (i := 1670) (by decide +kernel), List.mem_of_getElem? (i := 1671) (by decide +kernel)⟩
theorem lw_p69 : lw_okq (⟨"JobTextModel", "replaced", "(I)Z"⟩, 81) := ⟨⟨by decide +kernel, by decide +kernel⟩, List.mem_of_getElem? (i := 1258) (by decide +kernel), List.mem_of_getElem? (i := 1674) (by decide +kernel), List.mem_of_getElem? (i := 1675) (by decide +kernel)⟩
theorem lw_p70 : lw_okq (⟨"JobTextModel", "symbol", "(II)Z"⟩, 81) := ⟨⟨by decide +kernel, by decide +kernel⟩, List.mem_of_getElem? (i := 1258) (by decide +kernel), List.mem_of_getElem? (i := 1678) (by decide +kernel), List.mem_of_getElem? (i := 1679) (by decide +kernel)⟩
theorem lw_p71 : lw_okq (⟨"JobTextModel", "appendAll", "(II)Z"⟩, 81) := ⟨⟨by decide +kernel, by decide +kernel⟩, List.mem_of_getElem? (i := 1258) (by decide +kernel), List.mem_of_getElem? (i := 1682) (by decide +kernel), List.mem_of_getElem? (i := 1683) (by decide +kernel)⟩
theorem lw_p72 : lw_okq (⟨"JobTextModel", "append", "(I)Z"⟩, 81) := ⟨⟨by decide +kernel, by decide +kernel⟩, List.mem_of_getElem? (i := 1258) (by decide +kernel), List.mem_of_getElem? (i := 1686) (by decide +kernel), List.mem_of_getElem? (i := 1687) (by decide +kernel)⟩
theorem lw_p73 : lw_okq (⟨"JobTextModel", "refuse", "(I)Z"⟩, 81) := ⟨⟨by decide +kernel, by decide +kernel⟩, List.mem_of_getElem? (i := 1258) (by decide +kernel), List.mem_of_getElem? (i := 1690) (by decide +kernel), List.mem_of_getElem? (i := 1691) (by decide +kernel)⟩
theorem lw_p74 : lw_okq (⟨"JobTextModel", "set", "(II)I"⟩, 81) := ⟨⟨by decide +kernel, by decide +kernel⟩, List.mem_of_getElem? (i := 1258) (by decide +kernel), List.mem_of_getElem? (i := 1694) (by decide +kernel), List.mem_of_getElem? (i := 1695) (by decide +kernel)⟩
theorem lw_p75 : lw_okq (⟨"JobTextModel", "exec", "(I)Z"⟩, 81) := ⟨⟨by decide +kernel, by decide +kernel⟩, List.mem_of_getElem? (i := 1258) (by decide +kernel), List.mem_of_getElem? (i := 1699) (by decide +kernel), List.mem_of_getElem? (i := 1700) (by decide +kernel)⟩
theorem lw_p76 : lw_okq (⟨"JobTextModel", "take", "(II)V"⟩, 81) := ⟨⟨by decide +kernel, by decide +kernel⟩, List.mem_of_getElem? (i := 1258) (by decide +kernel), List.mem_of_getElem? (i := 1703) (by decide +kernel), List.mem_of_getElem? (i := 1704) (by decide +kernel)⟩
theorem lw_p77 : lw_okq (⟨"JobTextModel", "put", "(II)Z"⟩, 81) := ⟨⟨by decide +kernel, by decide +kernel⟩, List.mem_of_getElem? (i := 1258) (by decide +kernel), List.mem_of_getElem? (i := 1707) (by decide +kernel), List.mem_of_getElem? (i := 1708) (by decide +kernel)⟩
theorem lw_p78 : lw_okq (⟨"JobTextModel", "call", "(III)Z"⟩, 81) := ⟨⟨by decide +kernel, by decide +kernel⟩, List.mem_of_getElem? (i := 1258) (by decide +kernel), List.mem_of_getElem? (i := 1711) (by decide +kernel), List.mem_of_getElem? (i := 1712) (by decide +kernel)⟩
theorem lw_p79 : lw_okq (⟨"JobTextModel", "found", "(II)I"⟩, 81) := ⟨⟨by decide +kernel, by decide +kernel⟩, List.mem_of_getElem? (i := 1258) (by decide +kernel), List.mem_of_getElem? (i := 1715) (by decide +kernel), List.mem_of_getElem? (i := 1716) (by decide +kernel)⟩
def lw_privs_5 : List (MethodName × Nat) := [(⟨"JobTextModel", "keep", "()Z"⟩, 81), (⟨"JobTextModel", "kept", "(I)I"⟩, 81), (⟨"JobTextModel", "copy", "(II)V"⟩, 81), (⟨"JobTextModel", "setAll", "(I)Z"⟩, 81), (⟨"JobTextModel", "allReplaced", "(I)Z"⟩, 81), (⟨"JobTextModel", "replaced", "(I)Z"⟩, 81), (⟨"JobTextModel", "symbol", "(II)Z"⟩, 81), (⟨"JobTextModel", "appendAll", "(II)Z"⟩, 81), (⟨"JobTextModel", "append", "(I)Z"⟩, 81), (⟨"JobTextModel", "refuse", "(I)Z"⟩, 81), (⟨"JobTextModel", "set", "(II)I"⟩, 81), (⟨"JobTextModel", "exec", "(I)Z"⟩, 81), (⟨"JobTextModel", "take", "(II)V"⟩, 81), (⟨"JobTextModel", "put", "(II)Z"⟩, 81), (⟨"JobTextModel", "call", "(III)Z"⟩, 81), (⟨"JobTextModel", "found", "(II)I"⟩, 81)]
theorem lw_r5 : ∀ q ∈ lw_privs_5, lw_okq q := List.forall_mem_cons.mpr ⟨lw_p64, List.forall_mem_cons.mpr ⟨lw_p65, List.forall_mem_cons.mpr ⟨lw_p66, List.forall_mem_cons.mpr ⟨lw_p67, List.forall_mem_cons.mpr ⟨lw_p68, List.forall_mem_cons.mpr ⟨lw_p69, List.forall_mem_cons.mpr ⟨lw_p70, List.forall_mem_cons.mpr ⟨lw_p71, List.forall_mem_cons.mpr ⟨lw_p72, List.forall_mem_cons.mpr ⟨lw_p73, List.forall_mem_cons.mpr ⟨lw_p74, List.forall_mem_cons.mpr ⟨lw_p75, List.forall_mem_cons.mpr ⟨lw_p76, List.forall_mem_cons.mpr ⟨lw_p77, List.forall_mem_cons.mpr ⟨lw_p78, List.forall_mem_cons.mpr ⟨lw_p79, fun _ h => absurd h List.not_mem_nil⟩⟩⟩⟩⟩⟩⟩⟩⟩⟩⟩⟩⟩⟩⟩⟩
theorem lw_p80 : lw_okq (⟨"JobTextModel", "closes", "(III)Z"⟩, 81) := ⟨⟨by decide +kernel, by decide +kernel⟩, List.mem_of_getElem? (i := 1258) (by decide +kernel), List.mem_of_getElem? (i := 1719) (by decide +kernel), List.mem_of_getElem? (i := 1720) (by decide +kernel)⟩
theorem lw_p81 : lw_okq (⟨"JobTextModel", "meant", "(II)I"⟩, 81) := ⟨⟨by decide +kernel, by decide +kernel⟩, List.mem_of_getElem? (i := 1258) (by decide +kernel), List.mem_of_getElem? (i := 1723) (by decide +kernel), List.mem_of_getElem? (i := 1724) (by decide +kernel)⟩
theorem lw_p82 : lw_okq (⟨"JobTextModel", "hasName", "(II)Z"⟩, 81) := ⟨⟨by decide +kernel, by decide +kernel⟩, List.mem_of_getElem? (i := 1258) (by decide +kernel), List.mem_of_getElem? (i := 1727) (by decide +kernel), List.mem_of_getElem? (i := 1728) (by decide +kernel)⟩
theorem lw_p83 : lw_okq (⟨"JobTextModel", "names", "(II)Z"⟩, 81) := ⟨⟨by decide +kernel, by decide +kernel⟩, List.mem_of_getElem? (i := 1258) (by decide +kernel), List.mem_of_getElem? (i := 1731) (by decide +kernel), List.mem_of_getElem? (i := 1732) (by decide +kernel)⟩
theorem lw_p84 : lw_okq (⟨"JobTextModel", "added", "(I)Z"⟩, 81) := ⟨⟨by decide +kernel, by decide +kernel⟩, List.mem_of_getElem? (i := 1258) (by decide +kernel), List.mem_of_getElem? (i := 1735) (by decide +kernel), List.mem_of_getElem? (i := 1736) (by decide +kernel)⟩
theorem lw_p85 : lw_okq (⟨"JobTextModel", "lastOf", "(I)I"⟩, 81) := ⟨⟨by decide +kernel, by decide +kernel⟩, List.mem_of_getElem? (i := 1258) (by decide +kernel), List.mem_of_getElem? (i := 1739) (by decide +kernel), List.mem_of_getElem? (i := 1740) (by decide +kernel)⟩
theorem lw_p86 : lw_okq (⟨"JobTextModel", "plain", "(I)Z"⟩, 81) := ⟨⟨by decide +kernel, by decide +kernel⟩, List.mem_of_getElem? (i := 1258) (by decide +kernel), List.mem_of_getElem? (i := 1743) (by decide +kernel), List.mem_of_getElem? (i := 1744) (by decide +kernel)⟩
theorem lw_p87 : lw_okq (⟨"JobTextModel", "merge", "(II)V"⟩, 81) := ⟨⟨by decide +kernel, by decide +kernel⟩, List.mem_of_getElem? (i := 1258) (by decide +kernel), List.mem_of_getElem? (i := 1747) (by decide +kernel), List.mem_of_getElem? (i := 1748) (by decide +kernel)⟩
theorem lw_p88 : lw_okq (⟨"JobTextModel", "isKeyOf", "(II)Z"⟩, 81) := ⟨⟨by decide +kernel, by decide +kernel⟩, List.mem_of_getElem? (i := 1258) (by decide +kernel), List.mem_of_getElem? (i := 1751) (by decide +kernel), List.mem_of_getElem? (i := 1752) (by decide +kernel)⟩
def lw_privs_6 : List (MethodName × Nat) := [(⟨"JobTextModel", "closes", "(III)Z"⟩, 81), (⟨"JobTextModel", "meant", "(II)I"⟩, 81), (⟨"JobTextModel", "hasName", "(II)Z"⟩, 81), (⟨"JobTextModel", "names", "(II)Z"⟩, 81), (⟨"JobTextModel", "added", "(I)Z"⟩, 81), (⟨"JobTextModel", "lastOf", "(I)I"⟩, 81), (⟨"JobTextModel", "plain", "(I)Z"⟩, 81), (⟨"JobTextModel", "merge", "(II)V"⟩, 81), (⟨"JobTextModel", "isKeyOf", "(II)Z"⟩, 81)]
theorem lw_r6 : ∀ q ∈ lw_privs_6, lw_okq q := List.forall_mem_cons.mpr ⟨lw_p80, List.forall_mem_cons.mpr ⟨lw_p81, List.forall_mem_cons.mpr ⟨lw_p82, List.forall_mem_cons.mpr ⟨lw_p83, List.forall_mem_cons.mpr ⟨lw_p84, List.forall_mem_cons.mpr ⟨lw_p85, List.forall_mem_cons.mpr ⟨lw_p86, List.forall_mem_cons.mpr ⟨lw_p87, List.forall_mem_cons.mpr ⟨lw_p88, fun _ h => absurd h List.not_mem_nil⟩⟩⟩⟩⟩⟩⟩⟩⟩
def lw_privs : List (MethodName × Nat) := lw_privs_1 ++ (lw_privs_2 ++ (lw_privs_3 ++ (lw_privs_4 ++ (lw_privs_5 ++ (lw_privs_6)))))
def lw_tbl : List Cond := k2_sels lw_privs ++ tables_1
theorem lw_privs_ok : ∀ q ∈ lw_privs, lw_okq q := by
  show ∀ q ∈ lw_privs_1 ++ (lw_privs_2 ++ (lw_privs_3 ++ (lw_privs_4 ++ (lw_privs_5 ++ (lw_privs_6))))), lw_okq q
  exact List.forall_mem_append.mpr ⟨lw_r1, List.forall_mem_append.mpr ⟨lw_r2, List.forall_mem_append.mpr ⟨lw_r3, List.forall_mem_append.mpr ⟨lw_r4, List.forall_mem_append.mpr ⟨lw_r5, lw_r6⟩⟩⟩⟩⟩
-- ===== end of PART A; then your names; then what follows =====
end
section
/-! NAMES: the classes whose objects the worlds hold, their fields (printed by wip/p1/names.py) -/
def R_Jt : String := "JobText"
def F_Jt : u_T := fun k => match k with
  | 0 => ("JobText", "signs", "[B", true)
  | 1 => ("JobText", "faults", "LJobText$Faults;", true)
  | 2 => ("JobText", "library", "Ljava/util/ArrayList;", true)
  | 3 => ("JobText", "expander", "LJobText$Expander;", true)
  | 4 => ("JobText", "signCount", "I", false)
  | _ => ("JobText", "text", "LJobText$Text;", false)
def t_Jt : Nat → FieldType := fun k => match k with
  | 0 => .array .byte
  | 1 => .object "JobText$Faults"
  | 2 => .object "java/util/ArrayList"
  | 3 => .object "JobText$Expander"
  | 4 => .int
  | _ => .object "JobText$Text"
abbrev df_Jt : List Value := [.null, .null, .null, .null, .int 0, .null]
theorem n_Jt : ∀ a, a < 6 → ∀ b, b < 6 → a ≠ b → (F_Jt a).2.1 ≠ (F_Jt b).2.1 := by decide +kernel
theorem t_Jt_ok : ∀ k, k < 6 → parseFieldDescriptor (F_Jt k).2.2.1 = some (t_Jt k) := by decide +kernel
theorem df_Jt_ok : ∀ k, k < 6 → defaultValue (t_Jt k) = vp_V df_Jt k := by decide +kernel
theorem in0_Jt : ∀ w ∈ u_ws R_Jt F_Jt 6, w ∈ lw_tbl := by decide +kernel
theorem ing_Jt : ∀ w ∈ u_ws R_Jt F_Jt 6, goodWord w = true := by decide +kernel
def R_Fa : String := "JobText$Faults"
def F_Fa : u_T := fun k => match k with
  | 0 => ("JobText$Faults", "lines", "[I", true)
  | 1 => ("JobText$Faults", "columns", "[I", true)
  | 2 => ("JobText$Faults", "kinds", "[I", true)
  | 3 => ("JobText$Faults", "nearest", "[I", true)
  | _ => ("JobText$Faults", "total", "I", false)
def t_Fa : Nat → FieldType := fun k => match k with
  | 0 => .array .int
  | 1 => .array .int
  | 2 => .array .int
  | 3 => .array .int
  | _ => .int
abbrev df_Fa : List Value := [.null, .null, .null, .null, .int 0]
theorem n_Fa : ∀ a, a < 5 → ∀ b, b < 5 → a ≠ b → (F_Fa a).2.1 ≠ (F_Fa b).2.1 := by decide +kernel
theorem t_Fa_ok : ∀ k, k < 5 → parseFieldDescriptor (F_Fa k).2.2.1 = some (t_Fa k) := by decide +kernel
theorem df_Fa_ok : ∀ k, k < 5 → defaultValue (t_Fa k) = vp_V df_Fa k := by decide +kernel
theorem in0_Fa : ∀ w ∈ u_ws R_Fa F_Fa 5, w ∈ lw_tbl := by decide +kernel
theorem ing_Fa : ∀ w ∈ u_ws R_Fa F_Fa 5, goodWord w = true := by decide +kernel
def R_Ex : String := "JobText$Expander"
def F_Ex : u_T := fun k => match k with
  | 0 => ("JobText$Expander", "listing", "LJobText$Listing;", true)
  | 1 => ("JobText$Expander", "rows", "LJobText$Rows;", true)
  | 2 => ("JobText$Expander", "sets", "LJobText$Rows;", true)
  | 3 => ("JobText$Expander", "frames", "Ljava/util/ArrayList;", true)
  | 4 => ("JobText$Expander", "overrides", "Ljava/util/ArrayList;", true)
  | 5 => ("JobText$Expander", "procedures", "Ljava/util/ArrayList;", false)
  | 6 => ("JobText$Expander", "library", "Ljava/util/ArrayList;", false)
  | 7 => ("JobText$Expander", "frameCount", "I", false)
  | 8 => ("JobText$Expander", "overrideCount", "I", false)
  | 9 => ("JobText$Expander", "called", "J", false)
  | 10 => ("JobText$Expander", "missing", "I", false)
  | _ => ("JobText$Expander", "outcome", "I", false)
def t_Ex : Nat → FieldType := fun k => match k with
  | 0 => .object "JobText$Listing"
  | 1 => .object "JobText$Rows"
  | 2 => .object "JobText$Rows"
  | 3 => .object "java/util/ArrayList"
  | 4 => .object "java/util/ArrayList"
  | 5 => .object "java/util/ArrayList"
  | 6 => .object "java/util/ArrayList"
  | 7 => .int
  | 8 => .int
  | 9 => .long
  | 10 => .int
  | _ => .int
abbrev df_Ex : List Value := [.null, .null, .null, .null, .null, .null, .null, .int 0, .int 0, .long 0, .int 0, .int 0]
theorem n_Ex : ∀ a, a < 12 → ∀ b, b < 12 → a ≠ b → (F_Ex a).2.1 ≠ (F_Ex b).2.1 := by decide +kernel
theorem t_Ex_ok : ∀ k, k < 12 → parseFieldDescriptor (F_Ex k).2.2.1 = some (t_Ex k) := by decide +kernel
theorem df_Ex_ok : ∀ k, k < 12 → defaultValue (t_Ex k) = vp_V df_Ex k := by decide +kernel
theorem in0_Ex : ∀ w ∈ u_ws R_Ex F_Ex 12, w ∈ lw_tbl := by decide +kernel
theorem ing_Ex : ∀ w ∈ u_ws R_Ex F_Ex 12, goodWord w = true := by decide +kernel
def R_Li : String := "JobText$Listing"
def F_Li : u_T := fun k => match k with
  | 0 => ("JobText$Listing", "lines", "[I", true)
  | 1 => ("JobText$Listing", "operations", "[I", true)
  | 2 => ("JobText$Listing", "depths", "[I", true)
  | 3 => ("JobText$Listing", "counts", "[I", true)
  | 4 => ("JobText$Listing", "changes", "[I", true)
  | 5 => ("JobText$Listing", "ends", "[I", true)
  | 6 => ("JobText$Listing", "letters", "Ljava/lang/StringBuilder;", true)
  | _ => ("JobText$Listing", "size", "I", false)
def t_Li : Nat → FieldType := fun k => match k with
  | 0 => .array .int
  | 1 => .array .int
  | 2 => .array .int
  | 3 => .array .int
  | 4 => .array .int
  | 5 => .array .int
  | 6 => .object "java/lang/StringBuilder"
  | _ => .int
abbrev df_Li : List Value := [.null, .null, .null, .null, .null, .null, .null, .int 0]
theorem n_Li : ∀ a, a < 8 → ∀ b, b < 8 → a ≠ b → (F_Li a).2.1 ≠ (F_Li b).2.1 := by decide +kernel
theorem t_Li_ok : ∀ k, k < 8 → parseFieldDescriptor (F_Li k).2.2.1 = some (t_Li k) := by decide +kernel
theorem df_Li_ok : ∀ k, k < 8 → defaultValue (t_Li k) = vp_V df_Li k := by decide +kernel
theorem in0_Li : ∀ w ∈ u_ws R_Li F_Li 8, w ∈ lw_tbl := by decide +kernel
theorem ing_Li : ∀ w ∈ u_ws R_Li F_Li 8, goodWord w = true := by decide +kernel
def R_Ro : String := "JobText$Rows"
def F_Ro : u_T := fun k => match k with
  | 0 => ("JobText$Rows", "keys", "[J", false)
  | 1 => ("JobText$Rows", "lengths", "[I", false)
  | 2 => ("JobText$Rows", "values", "[B", false)
  | _ => ("JobText$Rows", "size", "I", false)
def t_Ro : Nat → FieldType := fun k => match k with
  | 0 => .array .long
  | 1 => .array .int
  | 2 => .array .byte
  | _ => .int
abbrev df_Ro : List Value := [.null, .null, .null, .int 0]
theorem n_Ro : ∀ a, a < 4 → ∀ b, b < 4 → a ≠ b → (F_Ro a).2.1 ≠ (F_Ro b).2.1 := by decide +kernel
theorem t_Ro_ok : ∀ k, k < 4 → parseFieldDescriptor (F_Ro k).2.2.1 = some (t_Ro k) := by decide +kernel
theorem df_Ro_ok : ∀ k, k < 4 → defaultValue (t_Ro k) = vp_V df_Ro k := by decide +kernel
theorem in0_Ro : ∀ w ∈ u_ws R_Ro F_Ro 4, w ∈ lw_tbl := by decide +kernel
theorem ing_Ro : ∀ w ∈ u_ws R_Ro F_Ro 4, goodWord w = true := by decide +kernel
def R_Al : String := "java/util/ArrayList"
def F_Al : u_T := fun k => match k with
  | 0 => ("java/util/AbstractList", "modCount", "I", false)
  | 1 => ("java/util/ArrayList", "elementData", "[Ljava/lang/Object;", false)
  | _ => ("java/util/ArrayList", "size", "I", false)
def t_Al : Nat → FieldType := fun k => match k with
  | 0 => .int
  | 1 => .array (.object "java/lang/Object")
  | _ => .int
abbrev df_Al : List Value := [.int 0, .null, .int 0]
theorem n_Al : ∀ a, a < 3 → ∀ b, b < 3 → a ≠ b → (F_Al a).2.1 ≠ (F_Al b).2.1 := by decide +kernel
theorem t_Al_ok : ∀ k, k < 3 → parseFieldDescriptor (F_Al k).2.2.1 = some (t_Al k) := by decide +kernel
theorem df_Al_ok : ∀ k, k < 3 → defaultValue (t_Al k) = vp_V df_Al k := by decide +kernel
theorem in0_Al : ∀ w ∈ u_ws R_Al F_Al 3, w ∈ lw_tbl := by decide +kernel
theorem ing_Al : ∀ w ∈ u_ws R_Al F_Al 3, goodWord w = true := by decide +kernel
def R_Sb : String := "java/lang/StringBuilder"
def F_Sb : u_T := fun k => match k with
  | 0 => ("java/lang/AbstractStringBuilder", "value", "[B", false)
  | 1 => ("java/lang/AbstractStringBuilder", "coder", "B", false)
  | 2 => ("java/lang/AbstractStringBuilder", "maybeLatin1", "Z", false)
  | _ => ("java/lang/AbstractStringBuilder", "count", "I", false)
def t_Sb : Nat → FieldType := fun k => match k with
  | 0 => .array .byte
  | 1 => .byte
  | 2 => .boolean
  | _ => .int
abbrev df_Sb : List Value := [.null, .int 0, .int 0, .int 0]
theorem n_Sb : ∀ a, a < 4 → ∀ b, b < 4 → a ≠ b → (F_Sb a).2.1 ≠ (F_Sb b).2.1 := by decide +kernel
theorem t_Sb_ok : ∀ k, k < 4 → parseFieldDescriptor (F_Sb k).2.2.1 = some (t_Sb k) := by decide +kernel
theorem df_Sb_ok : ∀ k, k < 4 → defaultValue (t_Sb k) = vp_V df_Sb k := by decide +kernel
theorem in0_Sb : ∀ w ∈ u_ws R_Sb F_Sb 4, w ∈ lw_tbl := by decide +kernel
theorem ing_Sb : ∀ w ∈ u_ws R_Sb F_Sb 4, goodWord w = true := by decide +kernel
def R_Te : String := "JobText$Text"
def F_Te : u_T := fun k => match k with
  | 0 => ("JobText$Text", "rows", "LJobText$Rows;", true)
  | 1 => ("JobText$Text", "statements", "Ljava/util/ArrayList;", true)
  | 2 => ("JobText$Text", "procedures", "Ljava/util/ArrayList;", true)
  | 3 => ("JobText$Text", "job", "LJobText$Body;", false)
  | 4 => ("JobText$Text", "openProcedure", "LJobText$Body;", false)
  | 5 => ("JobText$Text", "openIfs", "I", false)
  | _ => ("JobText$Text", "elses", "I", false)
def t_Te : Nat → FieldType := fun k => match k with
  | 0 => .object "JobText$Rows"
  | 1 => .object "java/util/ArrayList"
  | 2 => .object "java/util/ArrayList"
  | 3 => .object "JobText$Body"
  | 4 => .object "JobText$Body"
  | 5 => .int
  | _ => .int
abbrev df_Te : List Value := [.null, .null, .null, .null, .null, .int 0, .int 0]
theorem n_Te : ∀ a, a < 7 → ∀ b, b < 7 → a ≠ b → (F_Te a).2.1 ≠ (F_Te b).2.1 := by decide +kernel
theorem t_Te_ok : ∀ k, k < 7 → parseFieldDescriptor (F_Te k).2.2.1 = some (t_Te k) := by decide +kernel
theorem df_Te_ok : ∀ k, k < 7 → defaultValue (t_Te k) = vp_V df_Te k := by decide +kernel
theorem in0_Te : ∀ w ∈ u_ws R_Te F_Te 7, w ∈ lw_tbl := by decide +kernel
theorem ing_Te : ∀ w ∈ u_ws R_Te F_Te 7, goodWord w = true := by decide +kernel
def R_Ln : String := "JobText$Lines"
def F_Ln : u_T := fun k => match k with
  | 0 => ("JobText$Lines", "signs", "[B", true)
  | 1 => ("JobText$Lines", "starts", "[I", true)
  | 2 => ("JobText$Lines", "lengths", "[I", true)
  | _ => ("JobText$Lines", "total", "I", true)
def t_Ln : Nat → FieldType := fun k => match k with
  | 0 => .array .byte
  | 1 => .array .int
  | 2 => .array .int
  | _ => .int
abbrev df_Ln : List Value := [.null, .null, .null, .int 0]
theorem n_Ln : ∀ a, a < 4 → ∀ b, b < 4 → a ≠ b → (F_Ln a).2.1 ≠ (F_Ln b).2.1 := by decide +kernel
theorem t_Ln_ok : ∀ k, k < 4 → parseFieldDescriptor (F_Ln k).2.2.1 = some (t_Ln k) := by decide +kernel
theorem df_Ln_ok : ∀ k, k < 4 → defaultValue (t_Ln k) = vp_V df_Ln k := by decide +kernel
theorem in0_Ln : ∀ w ∈ u_ws R_Ln F_Ln 4, w ∈ lw_tbl := by decide +kernel
theorem ing_Ln : ∀ w ∈ u_ws R_Ln F_Ln 4, goodWord w = true := by decide +kernel
def R_Re : String := "JobText$Reader"
def F_Re : u_T := fun k => match k with
  | 0 => ("JobText$Reader", "lines", "LJobText$Lines;", true)
  | 1 => ("JobText$Reader", "text", "LJobText$Text;", true)
  | 2 => ("JobText$Reader", "rows", "LJobText$Rows;", true)
  | 3 => ("JobText$Reader", "faults", "LJobText$Faults;", true)
  | 4 => ("JobText$Reader", "line", "I", false)
  | 5 => ("JobText$Reader", "column", "I", false)
  | 6 => ("JobText$Reader", "parsed", "LJobText$Statement;", false)
  | 7 => ("JobText$Reader", "dataOwner", "LJobText$Statement;", false)
  | _ => ("JobText$Reader", "slashesEndData", "Z", false)
def t_Re : Nat → FieldType := fun k => match k with
  | 0 => .object "JobText$Lines"
  | 1 => .object "JobText$Text"
  | 2 => .object "JobText$Rows"
  | 3 => .object "JobText$Faults"
  | 4 => .int
  | 5 => .int
  | 6 => .object "JobText$Statement"
  | 7 => .object "JobText$Statement"
  | _ => .boolean
abbrev df_Re : List Value := [.null, .null, .null, .null, .int 0, .int 0, .null, .null, .int 0]
theorem n_Re : ∀ a, a < 9 → ∀ b, b < 9 → a ≠ b → (F_Re a).2.1 ≠ (F_Re b).2.1 := by decide +kernel
theorem t_Re_ok : ∀ k, k < 9 → parseFieldDescriptor (F_Re k).2.2.1 = some (t_Re k) := by decide +kernel
theorem df_Re_ok : ∀ k, k < 9 → defaultValue (t_Re k) = vp_V df_Re k := by decide +kernel
theorem in0_Re : ∀ w ∈ u_ws R_Re F_Re 9, w ∈ lw_tbl := by decide +kernel
theorem ing_Re : ∀ w ∈ u_ws R_Re F_Re 9, goodWord w = true := by decide +kernel
def R_Mo : String := "JobTextModel"
def F_Mo : u_T := fun k => match k with
  | 0 => ("JobTextModel", "thrown", "I", false)
  | 1 => ("JobTextModel", "mem", "[I", true)
  | 2 => ("JobTextModel", "buffer", "[I", true)
  | 3 => ("JobTextModel", "size", "I", false)
  | 4 => ("JobTextModel", "many", "[I", true)
  | 5 => ("JobTextModel", "line", "[I", true)
  | 6 => ("JobTextModel", "op", "[I", true)
  | 7 => ("JobTextModel", "nameFrom", "[I", true)
  | 8 => ("JobTextModel", "nameLong", "[I", true)
  | 9 => ("JobTextModel", "point", "[I", true)
  | 10 => ("JobTextModel", "parFirst", "[I", true)
  | 11 => ("JobTextModel", "parMany", "[I", true)
  | 12 => ("JobTextModel", "dataFrom", "[I", true)
  | 13 => ("JobTextModel", "dataMany", "[I", true)
  | 14 => ("JobTextModel", "step", "[I", true)
  | 15 => ("JobTextModel", "body", "[I", true)
  | 16 => ("JobTextModel", "parFrom", "[I", true)
  | 17 => ("JobTextModel", "parKey", "[I", true)
  | 18 => ("JobTextModel", "parLong", "[I", true)
  | 19 => ("JobTextModel", "parameters", "I", false)
  | 20 => ("JobTextModel", "procedures", "I", false)
  | 21 => ("JobTextModel", "job", "Z", false)
  | 22 => ("JobTextModel", "faults", "I", false)
  | 23 => ("JobTextModel", "faultLine", "[I", true)
  | 24 => ("JobTextModel", "faultColumn", "[I", true)
  | 25 => ("JobTextModel", "faultKind", "[I", true)
  | 26 => ("JobTextModel", "faultNear", "[I", true)
  | 27 => ("JobTextModel", "lines", "I", false)
  | 28 => ("JobTextModel", "at", "I", false)
  | 29 => ("JobTextModel", "lineFrom", "[I", true)
  | 30 => ("JobTextModel", "lineLong", "[I", true)
  | 31 => ("JobTextModel", "drafted", "I", false)
  | 32 => ("JobTextModel", "behind", "I", false)
  | 33 => ("JobTextModel", "cursor", "I", false)
  | 34 => ("JobTextModel", "procedure", "I", false)
  | 35 => ("JobTextModel", "jobStep", "I", false)
  | 36 => ("JobTextModel", "procedureStep", "I", false)
  | 37 => ("JobTextModel", "ifs", "I", false)
  | 38 => ("JobTextModel", "isJob", "Z", false)
  | 39 => ("JobTextModel", "elses", "[Z", true)
  | 40 => ("JobTextModel", "made", "I", false)
  | 41 => ("JobTextModel", "missing", "I", false)
  | 42 => ("JobTextModel", "ringLong", "I", false)
  | 43 => ("JobTextModel", "refused", "I", false)
  | 44 => ("JobTextModel", "ringSigns", "[I", true)
  | 45 => ("JobTextModel", "madeLine", "[I", true)
  | 46 => ("JobTextModel", "madeOp", "[I", true)
  | 47 => ("JobTextModel", "madeCalls", "[I", true)
  | 48 => ("JobTextModel", "madeMany", "[I", true)
  | 49 => ("JobTextModel", "madeBy", "[I", true)
  | 50 => ("JobTextModel", "madeLong", "[I", true)
  | 51 => ("JobTextModel", "letters", "[I", true)
  | 52 => ("JobTextModel", "top", "I", false)
  | 53 => ("JobTextModel", "stored", "I", false)
  | 54 => ("JobTextModel", "heldFrom", "[I", true)
  | 55 => ("JobTextModel", "heldKey", "[I", true)
  | 56 => ("JobTextModel", "heldLong", "[I", true)
  | 57 => ("JobTextModel", "calls", "I", false)
  | 58 => ("JobTextModel", "next", "[I", true)
  | 59 => ("JobTextModel", "end", "[I", true)
  | 60 => ("JobTextModel", "of", "[I", true)
  | 61 => ("JobTextModel", "execFirst", "[I", true)
  | 62 => ("JobTextModel", "execMany", "[I", true)
  | 63 => ("JobTextModel", "overFirst", "[I", true)
  | 64 => ("JobTextModel", "topWas", "[I", true)
  | 65 => ("JobTextModel", "storedWas", "[I", true)
  | 66 => ("JobTextModel", "oversWas", "[I", true)
  | 67 => ("JobTextModel", "overs", "I", false)
  | 68 => ("JobTextModel", "over", "[I", true)
  | 69 => ("JobTextModel", "overPar", "[I", true)
  | 70 => ("JobTextModel", "overMany", "[I", true)
  | 71 => ("JobTextModel", "overStep", "[I", true)
  | 72 => ("JobTextModel", "overAdded", "[Z", true)
  | 73 => ("JobTextModel", "sets", "I", false)
  | 74 => ("JobTextModel", "setFrom", "[I", true)
  | 75 => ("JobTextModel", "setLong", "[I", true)
  | 76 => ("JobTextModel", "setValue", "[I", true)
  | 77 => ("JobTextModel", "begun", "I", false)
  | 78 => ("JobTextModel", "row", "I", false)
  | 79 => ("JobTextModel", "rowed", "[I", true)
  | _ => ("JobTextModel", "rowed2", "[I", true)
def t_Mo : Nat → FieldType := fun k => match k with
  | 0 => .int
  | 1 => .array .int
  | 2 => .array .int
  | 3 => .int
  | 4 => .array .int
  | 5 => .array .int
  | 6 => .array .int
  | 7 => .array .int
  | 8 => .array .int
  | 9 => .array .int
  | 10 => .array .int
  | 11 => .array .int
  | 12 => .array .int
  | 13 => .array .int
  | 14 => .array .int
  | 15 => .array .int
  | 16 => .array .int
  | 17 => .array .int
  | 18 => .array .int
  | 19 => .int
  | 20 => .int
  | 21 => .boolean
  | 22 => .int
  | 23 => .array .int
  | 24 => .array .int
  | 25 => .array .int
  | 26 => .array .int
  | 27 => .int
  | 28 => .int
  | 29 => .array .int
  | 30 => .array .int
  | 31 => .int
  | 32 => .int
  | 33 => .int
  | 34 => .int
  | 35 => .int
  | 36 => .int
  | 37 => .int
  | 38 => .boolean
  | 39 => .array .boolean
  | 40 => .int
  | 41 => .int
  | 42 => .int
  | 43 => .int
  | 44 => .array .int
  | 45 => .array .int
  | 46 => .array .int
  | 47 => .array .int
  | 48 => .array .int
  | 49 => .array .int
  | 50 => .array .int
  | 51 => .array .int
  | 52 => .int
  | 53 => .int
  | 54 => .array .int
  | 55 => .array .int
  | 56 => .array .int
  | 57 => .int
  | 58 => .array .int
  | 59 => .array .int
  | 60 => .array .int
  | 61 => .array .int
  | 62 => .array .int
  | 63 => .array .int
  | 64 => .array .int
  | 65 => .array .int
  | 66 => .array .int
  | 67 => .int
  | 68 => .array .int
  | 69 => .array .int
  | 70 => .array .int
  | 71 => .array .int
  | 72 => .array .boolean
  | 73 => .int
  | 74 => .array .int
  | 75 => .array .int
  | 76 => .array .int
  | 77 => .int
  | 78 => .int
  | 79 => .array .int
  | _ => .array .int
abbrev df_Mo : List Value := [.int 0, .null, .null, .int 0, .null, .null, .null, .null, .null, .null, .null, .null, .null, .null, .null, .null, .null, .null, .null, .int 0, .int 0, .int 0, .int 0, .null, .null, .null, .null, .int 0, .int 0, .null, .null, .int 0, .int 0, .int 0, .int 0, .int 0, .int 0, .int 0, .int 0, .null, .int 0, .int 0, .int 0, .int 0, .null, .null, .null, .null, .null, .null, .null, .null, .int 0, .int 0, .null, .null, .null, .int 0, .null, .null, .null, .null, .null, .null, .null, .null, .null, .int 0, .null, .null, .null, .null, .null, .int 0, .null, .null, .null, .int 0, .int 0, .null, .null]
theorem n_Mo : ∀ a, a < 81 → ∀ b, b < 81 → a ≠ b → (F_Mo a).2.1 ≠ (F_Mo b).2.1 := by decide +kernel
theorem t_Mo_ok : ∀ k, k < 81 → parseFieldDescriptor (F_Mo k).2.2.1 = some (t_Mo k) := by decide +kernel
theorem df_Mo_ok : ∀ k, k < 81 → defaultValue (t_Mo k) = vp_V df_Mo k := by decide +kernel
theorem in0_Mo : ∀ w ∈ u_ws R_Mo F_Mo 81, w ∈ lw_tbl := by decide +kernel
theorem ing_Mo : ∀ w ∈ u_ws R_Mo F_Mo 81, goodWord w = true := by decide +kernel
abbrev gk_cl : List vw_C := [(R_Jt, F_Jt, 6), (R_Fa, F_Fa, 5), (R_Ex, F_Ex, 12), (R_Li, F_Li, 8), (R_Ro, F_Ro, 4), (R_Al, F_Al, 3), (R_Sb, F_Sb, 4), (R_Te, F_Te, 7), (R_Ln, F_Ln, 4), (R_Re, F_Re, 9), (R_Mo, F_Mo, 81)]
def gk_nw : List Cond := [Jvm.Cond.methodLinkNest "JobText" (15 : Nat) ({ cls := "JobText$Faults", name := "<init>", desc := "()V" } : Jvm.MethodName) "JobText", Jvm.Cond.methodLinkNest "JobText" (29 : Nat) ({ cls := "JobText$Expander", name := "<init>", desc := "()V" } : Jvm.MethodName) "JobText", Jvm.Cond.methodLinkNest "JobText$Expander" (11 : Nat) ({ cls := "JobText$Listing", name := "<init>", desc := "()V" } : Jvm.MethodName) "JobText", Jvm.Cond.methodLinkNest "JobText$Expander" (20 : Nat) ({ cls := "JobText$Rows", name := "<init>", desc := "()V" } : Jvm.MethodName) "JobText", Jvm.Cond.methodLinkNest "JobText" (47 : Nat) ({ cls := "JobText$Text", name := "<init>", desc := "()V" } : Jvm.MethodName) "JobText", Jvm.Cond.methodLinkNest "JobText$Text" (11 : Nat) ({ cls := "JobText$Rows", name := "<init>", desc := "()V" } : Jvm.MethodName) "JobText", Jvm.Cond.fieldLinkNest "JobText$Listing" (66 : Nat) "JobText$Statement" "line" "I" "JobText", Jvm.Cond.fieldLinkNest "JobText$Reader" (193 : Nat) "JobText$Statement" "line" "I" "JobText", Jvm.Cond.fieldLinkNest "JobText" (105 : Nat) "JobText$Statement" "rows" "LJobText$Rows;" "JobText", Jvm.Cond.fieldLinkNest "JobText$Expander" (195 : Nat) "JobText$Statement" "rows" "LJobText$Rows;" "JobText", Jvm.Cond.fieldLinkNest "JobText$Reader" (114 : Nat) "JobText$Statement" "first" "I" "JobText", Jvm.Cond.fieldLinkNest "JobText" (109 : Nat) "JobText$Statement" "first" "I" "JobText", Jvm.Cond.fieldLinkNest "JobText$Expander" (189 : Nat) "JobText$Statement" "first" "I" "JobText", Jvm.Cond.fieldLinkNest "JobText$Change" (49 : Nat) "JobText$Statement" "operation" "I" "JobText", Jvm.Cond.fieldLinkNest "JobText$Body" (28 : Nat) "JobText$Statement" "operation" "I" "JobText", Jvm.Cond.fieldLinkNest "JobText$Reader" (95 : Nat) "JobText$Statement" "operation" "I" "JobText", Jvm.Cond.fieldLinkNest "JobText$Listing" (71 : Nat) "JobText$Statement" "operation" "I" "JobText", Jvm.Cond.fieldLinkNest "JobText$Expander" (110 : Nat) "JobText$Statement" "operation" "I" "JobText", Jvm.Cond.fieldLinkNest "JobText$Text" (68 : Nat) "JobText$Statement" "operation" "I" "JobText", Jvm.Cond.fieldLinkNest "JobText$Reader" (98 : Nat) "JobText$Statement" "column" "I" "JobText", Jvm.Cond.fieldLinkNest "JobText$Change" (25 : Nat) "JobText$Statement" "step" "J" "JobText", Jvm.Cond.fieldLinkNest "JobText$Reader" (102 : Nat) "JobText$Statement" "step" "J" "JobText", Jvm.Cond.fieldLinkNest "JobText$Text" (91 : Nat) "JobText$Statement" "step" "J" "JobText", Jvm.Cond.fieldLinkNest "JobText$Body" (50 : Nat) "JobText$Statement" "step" "J" "JobText", Jvm.Cond.fieldLinkNest "JobText$Body" (22 : Nat) "JobText$Statement" "name" "J" "JobText", Jvm.Cond.fieldLinkNest "JobText$Change" (55 : Nat) "JobText$Statement" "name" "J" "JobText", Jvm.Cond.fieldLinkNest "JobText$Reader" (130 : Nat) "JobText$Statement" "name" "J" "JobText", Jvm.Cond.fieldLinkNest "JobText$Text" (98 : Nat) "JobText$Statement" "name" "J" "JobText", Jvm.Cond.fieldLinkNest "JobText$Reader" (123 : Nat) "JobText$Statement" "nameSigns" "I" "JobText", Jvm.Cond.fieldLinkNest "JobText" (102 : Nat) "JobText$Statement" "count" "I" "JobText", Jvm.Cond.fieldLinkNest "JobText$Reader" (158 : Nat) "JobText$Statement" "count" "I" "JobText", Jvm.Cond.fieldLinkNest "JobText$Expander" (192 : Nat) "JobText$Statement" "count" "I" "JobText", Jvm.Cond.fieldLinkNest "JobText$Text" (125 : Nat) "JobText$Statement" "count" "I" "JobText", Jvm.Cond.fieldLinkNest "JobText$Reader" (161 : Nat) "JobText$Statement" "places" "I" "JobText", Jvm.Cond.fieldLinkNest "JobText$Text" (128 : Nat) "JobText$Statement" "places" "I" "JobText", Jvm.Cond.fieldLinkNest "JobText$Expander" (253 : Nat) "JobText$Statement" "places" "I" "JobText", Jvm.Cond.fieldLinkNest "JobText" (121 : Nat) "JobText$Statement" "dataFirst" "I" "JobText", Jvm.Cond.fieldLinkNest "JobText$Reader" (206 : Nat) "JobText$Statement" "dataFirst" "I" "JobText", Jvm.Cond.fieldLinkNest "JobText$Reader" (77 : Nat) "JobText$Statement" "dataLines" "I" "JobText", Jvm.Cond.fieldLinkNest "JobText" (118 : Nat) "JobText$Statement" "dataLines" "I" "JobText", Jvm.Cond.fieldLinkNest "JobText$Change" (52 : Nat) "JobText$Statement" "exec" "LJobText$Statement;" "JobText", Jvm.Cond.fieldLinkNest "JobText$Body" (43 : Nat) "JobText$Statement" "exec" "LJobText$Statement;" "JobText", Jvm.Cond.methodLinkNest "JobText$Lines" (39 : Nat) ({ cls := "JobText", name := "isLetter", desc := "(I)Z" } : Jvm.MethodName) "JobText", Jvm.Cond.methodLinkNest "JobText$Lines" (43 : Nat) ({ cls := "JobText", name := "isNameSign", desc := "(I)Z" } : Jvm.MethodName) "JobText", Jvm.Cond.methodLinkNest "JobText$Reader" (133 : Nat) ({ cls := "JobText", name := "operationName", desc := "(I)Ljava/lang/String;" } : Jvm.MethodName) "JobText", Jvm.Cond.methodLinkNest "JobText$Reader" (170 : Nat) ({ cls := "JobText", name := "isNameSign", desc := "(I)Z" } : Jvm.MethodName) "JobText", Jvm.Cond.methodLinkNest "JobText$Text" (101 : Nat) ({ cls := "JobText", name := "indexOf", desc := "(Ljava/util/ArrayList;J)I" } : Jvm.MethodName) "JobText", Jvm.Cond.methodLinkNest "JobText$Rows" (77 : Nat) ({ cls := "JobText", name := "isLetter", desc := "(I)Z" } : Jvm.MethodName) "JobText", Jvm.Cond.methodLinkNest "JobText$Rows" (81 : Nat) ({ cls := "JobText", name := "isNameSign", desc := "(I)Z" } : Jvm.MethodName) "JobText", Jvm.Cond.methodLinkNest "JobText$Rows" (60 : Nat) ({ cls := "JobText", name := "nameLength", desc := "(J)I" } : Jvm.MethodName) "JobText", Jvm.Cond.methodLinkNest "JobText$Rows" (64 : Nat) ({ cls := "JobText", name := "nameSign", desc := "(JI)I" } : Jvm.MethodName) "JobText", Jvm.Cond.methodLinkNest "JobText$Expander" (141 : Nat) ({ cls := "JobText$Frame", name := "<init>", desc := "()V" } : Jvm.MethodName) "JobText", Jvm.Cond.fieldLinkNest "JobText$Expander" (226 : Nat) "JobText$Frame" "body" "LJobText$Body;" "JobText", Jvm.Cond.fieldLinkNest "JobText$Expander" (106 : Nat) "JobText$Frame" "next" "I" "JobText", Jvm.Cond.fieldLinkNest "JobText$Expander" (100 : Nat) "JobText$Frame" "execFirst" "I" "JobText", Jvm.Cond.fieldLinkNest "JobText$Expander" (239 : Nat) "JobText$Frame" "execCount" "I" "JobText", Jvm.Cond.fieldLinkNest "JobText$Expander" (103 : Nat) "JobText$Frame" "overrideFirst" "I" "JobText", Jvm.Cond.fieldLinkNest "JobText$Expander" (173 : Nat) "JobText$Frame" "overrideEnd" "I" "JobText", Jvm.Cond.methodLinkNest "JobText$Expander" (212 : Nat) ({ cls := "JobText", name := "isLetter", desc := "(I)Z" } : Jvm.MethodName) "JobText", Jvm.Cond.methodLinkNest "JobText$Expander" (219 : Nat) ({ cls := "JobText", name := "isNameSign", desc := "(I)Z" } : Jvm.MethodName) "JobText", Jvm.Cond.methodLinkNest "JobText$Expander" (280 : Nat) ({ cls := "JobText$Change", name := "<init>", desc := "()V" } : Jvm.MethodName) "JobText", Jvm.Cond.fieldLinkNest "JobText$Expander" (249 : Nat) "JobText$Change" "own" "LJobText$Statement;" "JobText", Jvm.Cond.fieldLinkNest "JobText$Expander" (248 : Nat) "JobText$Change" "first" "I" "JobText", Jvm.Cond.methodLinkNest "JobText$Expander" (284 : Nat) ({ cls := "JobText", name := "indexOf", desc := "(Ljava/util/ArrayList;J)I" } : Jvm.MethodName) "JobText", Jvm.Cond.methodLinkNest "JobText$Expander" (52 : Nat) ({ cls := "JobText", name := "nameSign", desc := "(JI)I" } : Jvm.MethodName) "JobText"]
end
section
/-! THE GROUND: contracts over a world, with one set of words, one premise and one end for all methods -/
def gk_tw : List Cond := lw_tbl.filter goodWord
theorem gk_in {w : Cond} (h : w ∈ lw_tbl) (g : goodWord w = true) : w ∈ gk_tw := List.mem_filter.mpr ⟨h, g⟩
theorem gk_goodIn {L : List Cond} (h : ∀ w ∈ L, w ∈ gk_tw) : GoodIn gk_tw L := fun w hw => ⟨h w hw, good_of_word (List.mem_filter.mp (h w hw)).2⟩
/-- the classes' numbers and slots; the array classes (0 int, 1 byte, 2 long, 3 boolean); ArrayList's empty array -/
abbrev gk_E : Type := va_G × (Nat → ClassId) × Nat
abbrev gk_tys (E : gk_E) : List (ClassId × FieldType) := [(E.2.1 0, .int), (E.2.1 1, .byte), (E.2.1 2, .long), (E.2.1 3, .boolean)]
def gk_K (E : gk_E) (s : State) : Prop := va_K E.1 gk_cl (gk_tys E) s ∧ ∀ w ∈ gk_nw, va_Nw w s
def gk_Z (E : gk_E) (A : Nat → Prop) (s : State) : Prop := va_Z "java/util/ArrayList" "DEFAULTCAPACITY_EMPTY_ELEMENTDATA" "[Ljava/lang/Object;" (.ref E.2.2) A s s.heap ∧ va_Z "java/lang/String" "COMPACT_STRINGS" "Z" (.int 1) A s s.heap
def gk_isN : Cond → Bool
  | .fieldLinkNest _ _ _ _ _ _ => true
  | .methodLinkNest _ _ _ _ => true
  | _ => false
theorem gk_nw_nest : ∀ w ∈ gk_nw, gk_isN w = true := by decide +kernel
theorem gk_nw_in : ∀ w ∈ gk_nw, w ∈ lw_tbl := by decide +kernel
theorem gk_K.warm {E : gk_E} {s U : State} (hW : s.WarmedH U.vm) (h : gk_K E s) : gk_K E U := by
  refine ⟨va_K.moved hW.alike h.1, fun w hw => ?_⟩
  have hn := gk_nw_nest w hw
  have h := h.2 w hw
  cases w with
  | fieldLinkNest a i b n d hh => exact va_Nw.warmF hW h
  | methodLinkNest a i y hh => exact va_Nw.warmM hW h
  | _ => exact Bool.noConfusion (show false = true from hn)
theorem gk_z {C n d : String} {v : Value} {A A1 : Nat → Prop} {s U : State} {H : Heap} {locs : List Loc} (h : va_Z C n d v A s s.heap) (hS : va_S A s.heap H locs) (hvm : s.vm.Alike U.vm) (hU : U.heap = H) (hF : ∀ q, A1 q → A q) : va_Z C n d v A1 U U.heap := by
  have h2 := va_Z.kept (va_Z.moved hvm h) (H1 := H) (fun a ha hA => hS.2.1 a ha hA)
  obtain ⟨cf, kf, fi, f, a, cell, g1, g2, g3, g4, g5, g6, g7, g8⟩ := h2
  rw [hU]
  exact ⟨cf, kf, fi, f, a, cell, g1, g2, g3, g4, g5, g6, g7, fun q => g8 (hF a q)⟩
theorem gk_Z.to {E : gk_E} {A A1 : Nat → Prop} {s U : State} {H : Heap} {locs : List Loc} (h : gk_Z E A s) (hS : va_S A s.heap H locs) (hvm : s.vm.Alike U.vm) (hU : U.heap = H) (hF : ∀ q, A1 q → A q) : gk_Z E A1 U := ⟨gk_z h.1 hS hvm hU hF, gk_z h.2 hS hvm hU hF⟩
def gk_Pc (E : gk_E) (av : List Value) (ws : va_W) (sz : Nat) : Array Value → State → Prop := fun v U => v = av.toArray ∧ U.heap.size = sz ∧ va_P E.1 gk_cl ws U.heap ∧ gk_K E U ∧ gk_Z E (va_A ws sz) U ∧ va_D (fun _ => True) ws
def gk_Q (E : gk_E) (A : Nat → Prop) (B : Option Value → va_W → Prop) : Array Value → State → Outcome → State → Prop := fun _ st oc t => (∃ (r : Option Value) (w : va_W), oc = .returned r ∧ B r w ∧ va_P E.1 gk_cl w t.heap ∧ va_D A w) ∧ va_F A st t
def gk_rm (d mc ms : Nat) : Room := { frames := d, cells := mc, slots := ms, locals := 80 * d }
theorem gk_Pc.blind {E : gk_E} {av : List Value} {ws : va_W} {sz : Nat} : FrameBlind (gk_Pc E av ws sz) := by
  intro a U g mk h
  obtain ⟨h1, h2, h3, h4, h5, h6⟩ := h
  exact ⟨h1, h2, h3, gk_K.warm (U := U.calling g mk a) (State.WarmedH.refl U) h4, gk_Z.to (U := U.calling g mk a) h5 va_S.rf (Vm.Alike.refl U.vm) rfl (fun _ q => q), h6⟩
def gk_X (E : gk_E) (p : Program) (s : State) (m : MethodId) (args : Array Value) (meth : Method) (c : Code) (y : MethodName) (cc : ByteArray) (maxL : Nat) (ret : Option FieldType) (A : Nat → Prop) : Prop :=
  p.tables.exec = Jvm.exec ∧ c.code = cc ∧ c.maxLocals = maxL ∧ s.vm.findClass y.cls = some m.cls ∧ (∀ w ∈ gk_tw, w.before args s = true) ∧ gk_K E s ∧ gk_Z E A s ∧ (∀ q, s.heap.size ≤ q → A q) ∧ meth.sig.returnType = ret ∧ meth.locks = false ∧ meth.name = y.name
theorem gk_met {l : Launch} {E : gk_E} {y : MethodName} {cc : ByteArray} {maxL : Nat} {ret : Option FieldType} {d mc ms sz : Nat} {av : List Value} {ws : va_W} {B : Option Value → va_W → Prop} (hy : plainName y.cls = true) (hlen : (lg_sl av).length ≤ maxL)
    (k : ∀ (p : Program) (e : Env) (s : State) (m : MethodId) (below : List Frame) (meth : Method) (c : Code) (A : Nat → Prop) (ls : Array Slot), gk_X E p s m av.toArray meth c y cc maxL ret A → lv_has ls maxL (lv_args 0 av) → va_P E.1 gk_cl ws s.heap → va_D A ws → va_S A s.heap s.heap [] →
      W p l e (gk_rm d mc ms) s m av.toArray below meth c s.heap [] 0 0 (MQ below (gk_Q E A B) av.toArray s mc ms A) (F0 m 0 ls [])) :
    Met l y (Cond.code y cc maxL ret :: gk_tw) (gk_rm d mc ms) (gk_Pc E av ws sz) (gk_Q E (va_A ws sz) B) mc ms (va_A ws sz) := by
  refine Met.ofW (cc := cc) (maxL := maxL) (ret := ret) hy rfl ?_
  intro p e s m args below meth c s₁ X hml hv
  obtain ⟨rfl, hsz, hP, hK, hZ, hD0⟩ := hv
  have hts := atoms_spec (ws := Cond.code y cc maxL ret :: gk_tw) X.pre
  have hown : s.vm.findClass y.cls = some m.cls := findClass_of_methodNamed X.named
  subst hsz
  have hD := hD0.self (sz := s.heap.size)
  rw [lg_entry_eq]
  exact k p e s m below meth c (va_A ws s.heap.size) _ ⟨X.exec, X.bytes, hml, hown, fun w hw => hts w (List.mem_cons_of_mem _ hw), hK, hZ, fun q h => Or.inr h, X.returns, X.notSynchronized, (name_of_methodNamed X.named X.method).1⟩ (lv_entry av hlen) hP hD va_S.rf
section GKC
variable {p : Program} {l : Launch} {e : Env} {R : Room} {s : State} {m : MethodId} {args : Array Value} {below : List Frame} {meth : Method} {c : Code} {H : Heap} {locs : List Loc} {cells slots : Nat} {Q : State → Prop}
variable {E : gk_E} {A : Nat → Prop} {B : Option Value → va_W → Prop} {pc mc ms d2 nL maxL2 idx : Nat} {ls : Array Slot} {st0 rest As : List Value} {a : Array Value} {ws wc wr : va_W} {y y2 : MethodName} {cc cc2 : ByteArray} {ret ret2 : Option FieldType} {b : Nat}
/-- behind any call -/
theorem gk_back (hr : va_Run p l e R s m args below meth c H locs cells slots mc ms (F0 m pc ls st0) rest (gk_Q E (va_A wc H.size) B a) (va_A wc H.size)) (hP : va_P E.1 gk_cl ws H) (hD : va_D A ws) (hS : va_S A s.heap H locs) (hA : ∀ q, s.heap.size ≤ q → A q) (isC isR : List Nat) (hC : isC.map (fun i => ws[i]?) = wc.map some) (hR : isR.map (fun i => ws[i]?) = wr.map some) (hn : va_nd isR = true) (hdis : ∀ i ∈ isR, i ∉ isC)
    (kk : ∀ (r : Option Value) (w : va_W) (H1 : Heap) (locs1 : List Loc), B r w → va_P E.1 gk_cl (wr ++ w) H1 → va_D A (wr ++ w) → va_S A s.heap H1 locs1 → W p l e R s m args below meth c H1 locs1 (cells + mc) (slots + ms) Q (F0 m (pc + 3) ls (r.toList ++ rest))) : W p l e R s m args below meth c H locs cells slots Q (F0 m pc ls st0) := by
  have hF := va_free (wc := wc) hD hS hA isC hC
  intro T hT X
  obtain ⟨v, st₀, t, T', L, h0, X', hL, e1, e2, ⟨⟨r, w, hv, hb, hp1, hd1⟩, hz, hk⟩, st⟩ := hr T hT X
  cases hv
  rw [h0] at hz hk
  rw [← e1] at hp1 hz
  have hk' : ∀ q : Nat, q < H.size → ¬ va_A wc H.size q → T'.heap[q]? = H[q]? := fun q h1 h2 => by rw [e1]; exact hk q h1 h2
  obtain ⟨hP1, hD1⟩ := va_join (wr := wr) (w1 := w) hP hD isC isR hC hR hn hdis hk' hF hp1 hd1
  obtain ⟨t2, a1, b1⟩ := kk v w T'.heap (locs ++ L) hb hP1 hD1
    ⟨Nat.le_trans hS.1 hz, fun q h1 h2 => by rw [hk' q (Nat.lt_of_lt_of_le h1 hS.1) (fun z => h2 (hF q z))]; exact hS.2.1 q h1 h2, fun q hq => by
      rcases List.mem_append.mp hq with h | h
      · exact hS.2.2 q h
      · exact hF _ (hL q h)⟩ T' rfl X'
  exact ⟨t2, st t2 a1, b1⟩
theorem gk_pre {av : List Value} (hK : gk_K E s) (hZ : gk_Z E A s) (hP : va_P E.1 gk_cl ws H) (hD : va_D A ws) (hS : va_S A s.heap H locs) (hA : ∀ q, s.heap.size ≤ q → A q) (isC : List Nat) (hn : va_nd isC = true) (hC : isC.map (fun i => ws[i]?) = wc.map some) : ∀ U : State, U.heap = H → s.WarmedH U.vm → gk_Pc E av wc H.size av.toArray U := by
  intro U hU hW
  have hF := va_free (wc := wc) hD hS hA isC hC
  refine ⟨rfl, by rw [hU], ?_, gk_K.warm hW hK, gk_Z.to hZ hS hW.alike hU hF, (hD.sub isC hn hC).weaken (fun _ _ _ _ => trivial)⟩
  rw [hU]
  intro k q hk
  have h1 : (isC.map (fun i => ws[i]?))[k]? = some (some q) := by rw [hC, List.getElem?_map, hk]; rfl
  rw [List.getElem?_map] at h1
  cases hi : isC[k]? with
  | none => rw [hi] at h1; cases h1
  | some i => rw [hi] at h1; exact hP i q (Option.some.inj h1)
abbrev gk_M (l : Launch) (E : gk_E) (y2 : MethodName) (cc2 : ByteArray) (maxL2 : Nat) (ret2 : Option FieldType) (d2 mc ms : Nat) (av : List Value) (wc : va_W) (sz : Nat) (B : Option Value → va_W → Prop) : Prop := Met l y2 (Cond.code y2 cc2 maxL2 ret2 :: gk_tw) (gk_rm d2 mc ms) (gk_Pc E av wc sz) (gk_Q E (va_A wc sz) B) mc ms (va_A wc sz)
theorem gk_hws (hc : Cond.code y2 cc2 maxL2 ret2 ∈ gk_tw) : ∀ w ∈ (Cond.code y2 cc2 maxL2 ret2 :: gk_tw), w ∈ gk_tw := fun w hw => by
  rcases List.mem_cons.mp hw with h | h
  · rw [h]; exact hc
  · exact h
/-- how a call is linked: through the tables' words, or through those of a nest -/
def gk_lk (own : String) (idx : Nat) (y2 : MethodName) : Prop := Cond.methodLink own idx y2 ∈ gk_tw ∨ Cond.methodLinkNest own idx y2 "JobText" ∈ gk_nw
/-- what a call asks of the method that is called, but for the link -/
def gk_ok (y2 : MethodName) (cc2 : ByteArray) (maxL2 : Nat) (ret2 : Option FieldType) (n : Nat) : Prop := (Cond.code y2 cc2 maxL2 ret2 ∈ gk_tw ∧ Cond.initialized y2.cls ∈ gk_tw) ∧ y2.cls ≠ "java/lang/invoke/MethodHandle" ∧ y2.cls ≠ "java/lang/invoke/VarHandle" ∧ (parseMethodDescriptor y2.desc).map (fun d => d.parameters.length) = some n
theorem gk_runI {n : Nat} (X : gk_X E p s m args meth c y cc nL ret A) (hM : gk_M l E y2 cc2 maxL2 none d2 mc ms (.ref b :: As) wc H.size B) (hok : gk_ok y2 cc2 maxL2 none n) (hl : gk_lk y.cls idx y2) (hin : Cond.instanceMethod y2 ∈ gk_tw) (hnm : y2.name = "<init>") (hn : As.length = n)
    (hP : va_P E.1 gk_cl ws H) (hD : va_D A ws) (hS : va_S A s.heap H locs) (isC : List Nat) (hnd : va_nd isC = true) (hC : isC.map (fun i => ws[i]?) = wc.map some) (hls : ls.size = nL) (hst : st0 = As.reverse ++ .ref b :: rest) (h8 : (rest.map fun v => v.category).sum ≤ 8) (hdg : decode cc pc = .ok (.invokespecial idx, 3)) (hf : cells + mc ≤ R.cells ∧ slots + ms ≤ R.slots) (hrm : d2 + 1 ≤ R.frames ∧ 8 + (maxL2 + 11) + 80 * d2 ≤ R.locals) :
    va_Run p l e R s m args below meth c H locs cells slots mc ms (F0 m pc ls st0) rest (gk_Q E (va_A wc H.size) B (Value.ref b :: As).toArray) (va_A wc H.size) := by
  obtain ⟨hx, hb, hml, hown, hts, hK, hZ, hA, -⟩ := X
  obtain ⟨⟨k1, k2⟩, k3⟩ := hok
  rcases hl with hl | hl
  · exact va_runI (As := As) (rest := rest) ⟨hx, hb, hml, hown, hts⟩ hM ⟨callB_of n hts (gk_goodIn (gk_hws k1)) rfl rfl rfl (hts _ k2) (hts _ hl) k3 hrm, hnm, hts _ hin⟩ ⟨gk_Pc.blind, gk_pre hK hZ hP hD hS hA isC hnd hC⟩ rfl hn hls hst (lv_room h8) hdg hf
  · exact va_runIN (As := As) (rest := rest) ⟨hx, hb, hml, hown, hts⟩ hM ⟨va_cnB n hts (gk_goodIn (gk_hws k1)) rfl rfl rfl (hK.2 _ hl) (hts _ k2) k3 hrm, hnm, hts _ hin⟩ ⟨gk_Pc.blind, gk_pre hK hZ hP hD hS hA isC hnd hC⟩ rfl hn hls hst (lv_room h8) hdg hf
theorem gk_runS {n : Nat} (X : gk_X E p s m args meth c y cc nL ret A) (hM : gk_M l E y2 cc2 maxL2 ret2 d2 mc ms As wc H.size B) (hok : gk_ok y2 cc2 maxL2 ret2 n) (hl : gk_lk y.cls idx y2) (hin : Cond.static y2 ∈ gk_tw) (hn : As.length = n)
    (hP : va_P E.1 gk_cl ws H) (hD : va_D A ws) (hS : va_S A s.heap H locs) (isC : List Nat) (hnd : va_nd isC = true) (hC : isC.map (fun i => ws[i]?) = wc.map some) (hls : ls.size = nL) (hst : st0 = As.reverse ++ rest) (h8 : (rest.map fun v => v.category).sum ≤ 8) (hdg : decode cc pc = .ok (.invokestatic idx, 3)) (hf : cells + mc ≤ R.cells ∧ slots + ms ≤ R.slots) (hrm : d2 + 1 ≤ R.frames ∧ 8 + (maxL2 + 11) + 80 * d2 ≤ R.locals) :
    va_Run p l e R s m args below meth c H locs cells slots mc ms (F0 m pc ls st0) rest (gk_Q E (va_A wc H.size) B As.toArray) (va_A wc H.size) := by
  obtain ⟨hx, hb, hml, hown, hts, hK, hZ, hA, -⟩ := X
  obtain ⟨⟨k1, k2⟩, k3⟩ := hok
  rcases hl with hl | hl
  · exact va_runS (As := As) (rest := rest) ⟨hx, hb, hml, hown, hts⟩ hM ⟨callB_of n hts (gk_goodIn (gk_hws k1)) rfl rfl rfl (hts _ k2) (hts _ hl) k3 hrm, hts _ hin⟩ ⟨gk_Pc.blind, gk_pre hK hZ hP hD hS hA isC hnd hC⟩ rfl hn hls hst (lv_room h8) hdg hf
  · exact va_runSN (As := As) (rest := rest) ⟨hx, hb, hml, hown, hts⟩ hM ⟨va_cnB n hts (gk_goodIn (gk_hws k1)) rfl rfl rfl (hK.2 _ hl) (hts _ k2) k3 hrm, hts _ hin, trivial⟩ ⟨gk_Pc.blind, gk_pre hK hZ hP hD hS hA isC hnd hC⟩ rfl hn hls hst (lv_room h8) hdg hf
theorem gk_runV {n ci q0 : Nat} {fs : List Value} {r : vw_C} (X : gk_X E p s m args meth c y cc nL ret A) (hM : gk_M l E y2 cc2 maxL2 ret2 d2 mc ms (.ref b :: As) wc H.size B) (hok : gk_ok y2 cc2 maxL2 ret2 n) (hl : gk_lk y.cls idx y2) (hin : Cond.instanceMethod y2 ∈ gk_tw) (hse : Cond.selects r.1 y2 y2 ∈ gk_tw) (hrc : gk_cl[ci]? = some r) (he : ws[q0]? = some (b, .inr (ci, fs))) (hn : As.length = n)
    (hP : va_P E.1 gk_cl ws H) (hD : va_D A ws) (hS : va_S A s.heap H locs) (isC : List Nat) (hnd : va_nd isC = true) (hC : isC.map (fun i => ws[i]?) = wc.map some) (hls : ls.size = nL) (hst : st0 = As.reverse ++ .ref b :: rest) (h8 : (rest.map fun v => v.category).sum ≤ 8) (hdg : decode cc pc = .ok (.invokevirtual idx, 3)) (hf : cells + mc ≤ R.cells ∧ slots + ms ≤ R.slots) (hrm : d2 + 1 ≤ R.frames ∧ 8 + (maxL2 + 11) + 80 * d2 ≤ R.locals) :
    va_Run p l e R s m args below meth c H locs cells slots mc ms (F0 m pc ls st0) rest (gk_Q E (va_A wc H.size) B (Value.ref b :: As).toArray) (va_A wc H.size) := by
  obtain ⟨hx, hb, hml, hown, hts, hK, hZ, hA, -⟩ := X
  obtain ⟨⟨k1, k2⟩, k3⟩ := hok
  rcases hl with hl | hl
  · exact va_runV (C := r.1) (As := As) (rest := rest) ⟨hx, hb, hml, hown, hts⟩ hM ⟨callB_of n hts (gk_goodIn (gk_hws k1)) rfl rfl rfl (hts _ k2) (hts _ hl) k3 hrm, hts _ hin, hts _ hse⟩ ⟨gk_Pc.blind, va_recv hK.1 hP hrc he, gk_pre hK hZ hP hD hS hA isC hnd hC⟩ rfl hn hls hst (lv_room h8) hdg hf
  · exact va_runVN (C := r.1) (As := As) (rest := rest) ⟨hx, hb, hml, hown, hts⟩ hM ⟨va_cnB n hts (gk_goodIn (gk_hws k1)) rfl rfl rfl (hK.2 _ hl) (hts _ k2) k3 hrm, hts _ hin, hts _ hse⟩ ⟨gk_Pc.blind, va_recv hK.1 hP hrc he, gk_pre hK hZ hP hD hS hA isC hnd hC⟩ rfl hn hls hst (lv_room h8) hdg hf
/-- a method's end -/
theorem gk_q {w : va_W} {r : Option Value} (hP : va_P E.1 gk_cl w H) (hD : va_D A w) (hS : va_S A s.heap H locs) (hB : B r w) : ∀ t : State, t.heap = H → s.WarmedH t.vm → gk_Q E A B args s (.returned r) t := fun t ht _ => ⟨⟨r, w, rfl, hB, by rw [ht]; exact hP, hD⟩, hS.F ht⟩
/-- an array of a known class -/
theorem gk_newa {atype : ArrayType} (X : gk_X E p s m args meth c y cc nL ret A) (harr : Cond.arrayClass (newarray.typeOf atype) ∈ gk_tw) {ty : FieldType} (hty : newarray.typeOf atype = ty) (t0 : Nat) {cA : ClassId} (ht : (gk_tys E)[t0]? = some (cA, ty)) (hP : va_P E.1 gk_cl ws H) (hD : va_D A ws) (hS : va_S A s.heap H locs)
    {n : Int32} {N' : Nat} {a0 : vp_A} (ha : ∀ cA : ClassId, vp_cell cA a0 = arrV cA N' (fun _ => defaultValue ty)) (hn : ¬ n < 0) (hN : n.toNatClampNeg = N') (hbytes : N' * componentBytes ty ≤ 536870912) (hcells : cells + 1 ≤ R.cells) (hslots : slots + N' ≤ R.slots) (hdg : decode cc pc = .ok (.newarray atype, 2))
    (kk : ∀ (q : Nat) (H1 : Heap), va_P E.1 gk_cl (ws ++ [(q, .inl (cA, a0))]) H1 → va_D A (ws ++ [(q, .inl (cA, a0))]) → va_S A s.heap H1 locs →
      W p l e R s m args below meth c H1 locs (cells + 1) (slots + N') Q (F0 m (pc + 2) ls (.ref q :: rest))) : W p l e R s m args below meth c H locs cells slots Q (F0 m pc ls (.int n :: rest)) := by
  obtain ⟨hx, hb, hml, hown, hts, hK, hZ, hA, -⟩ := X
  refine va_newa hx hb (hts _ harr) hty hK.1 hP hD hS hA ha hn hN hbytes hcells hslots hdg (fun q cA' H1 hK1 hP1 hD1 hS1 => ?_)
  have h1 := (hK.1.2 t0 _ ht).2
  have h2 := (hK1.2 4 (cA', ty) rfl).2
  have hc : cA' = cA := by
    subst hty
    cases atype <;> exact Option.some.inj (h2.symm.trans h1)
  subst hc
  exact kk q H1 hP1 hD1 hS1
theorem gk_new {C : String} {T : u_T} {N ci : Nat} (X : gk_X E p s m args meth c y cc nL ret A) (hin : ∀ w ∈ u_ws C T N, w ∈ gk_tw) (ty : Nat → FieldType) (hty : ∀ k, k < N → parseFieldDescriptor (T k).2.2.1 = some (ty k)) (hcl : Cond.classLink y.cls idx C ∈ gk_tw) (hinst : Cond.instantiable C N ∈ gk_tw) (hini : Cond.initialized C ∈ gk_tw)
    (hP : va_P E.1 gk_cl ws H) (hD : va_D A ws) (hS : va_S A s.heap H locs) (hc : gk_cl[ci]? = some (C, T, N)) {fs : List Value} (hfs : ∀ j, j < N → defaultValue (ty j) = vp_V fs j) (hcells : cells + 1 ≤ R.cells) (hslots : slots + N ≤ R.slots) (hdg : decode cc pc = .ok (.new idx, 3))
    (kk : ∀ (q : Nat) (H1 : Heap), va_P E.1 gk_cl (ws ++ [(q, .inr (ci, fs))]) H1 → va_D A (ws ++ [(q, .inr (ci, fs))]) → va_S A s.heap H1 locs →
      W p l e R s m args below meth c H1 locs (cells + 1) (slots + N) Q (F0 m (pc + 3) ls (.ref q :: rest))) : W p l e R s m args below meth c H locs cells slots Q (F0 m pc ls rest) := by
  obtain ⟨hx, hb, hml, hown, hts, hK, hZ, hA, -⟩ := X
  exact va_new hx hb hts hin ty hty hown (hts _ hcl) (hts _ hinst) (hts _ hini) hK.1 hP hD hS hA hc hfs hcells hslots hdg kk
theorem gk_get {C : String} {T : u_T} {N ci : Nat} (X : gk_X E p s m args meth c y cc nL ret A) (hin : ∀ w ∈ u_ws C T N, w ∈ gk_tw) (hP : va_P E.1 gk_cl ws H) (q0 : Nat) {fs : List Value} (he : ws[q0]? = some (b, .inr (ci, fs))) (hc : gk_cl[ci]? = some (C, T, N)) (k : Nat) (hk : k < N) (hlink : Cond.fieldLink y.cls idx (T k).1 (T k).2.1 (T k).2.2.1 ∈ gk_tw) {v : Value} (hv : fs[k]? = some v) (hdg : decode cc pc = .ok (.getfield idx, 3))
    (kk : W p l e R s m args below meth c H locs cells slots Q (F0 m (pc + 3) ls (v :: rest))) : W p l e R s m args below meth c H locs cells slots Q (F0 m pc ls (.ref b :: rest)) := by
  obtain ⟨hx, hb, hml, hown, hts, hK, hZ, hA, -⟩ := X
  exact va_get hx hb hts hin hown hK.1 hP q0 he hc k hk (hts _ hlink) (fun _ h => h) hv hdg kk
theorem gk_put {C : String} {T : u_T} {N ci : Nat} (X : gk_X E p s m args meth c y cc nL ret A) (hin : ∀ w ∈ u_ws C T N, w ∈ gk_tw) (ty0 : Nat → FieldType) (hty : ∀ k, k < N → parseFieldDescriptor (T k).2.2.1 = some (ty0 k)) (hnm : ∀ a, a < N → ∀ b, b < N → a ≠ b → (T a).2.1 ≠ (T b).2.1) (hP : va_P E.1 gk_cl ws H) (hD : va_D A ws) (hS : va_S A s.heap H locs) (q0 : Nat) {fs : List Value} (he : ws[q0]? = some (b, .inr (ci, fs))) (hc : gk_cl[ci]? = some (C, T, N)) (k : Nat) (hk : k < N) (hlink : Cond.fieldLink y.cls idx (T k).1 (T k).2.1 (T k).2.2.1 ∈ gk_tw) (hfin : (T k).2.2.2 = false ∨ ((T k).2.2.2 = true ∧ y.name = "<init>" ∧ (T k).1 = y.cls)) {ty : FieldType} {v : Value} (hd : parseFieldDescriptor (T k).2.2.1 = some ty) (hn : narrow ty v = v) (hfit : fits ty v = true) (hl : k < fs.length) (hdg : decode cc pc = .ok (.putfield idx, 3)) {ws' : va_W} (hw : ws.set q0 (b, .inr (ci, fs.set k v)) = ws')
    (kk : ∀ (H1 : Heap) (locs1 : List Loc), va_P E.1 gk_cl ws' H1 → va_D A ws' → va_S A s.heap H1 locs1 → W p l e R s m args below meth c H1 locs1 cells slots Q (F0 m (pc + 3) ls rest)) : W p l e R s m args below meth c H locs cells slots Q (F0 m pc ls (v :: .ref b :: rest)) := by
  obtain ⟨hx, hb, hml, hown, hts, hK, hZ, hA, hr, hlk, hnn⟩ := X
  subst hw
  rcases hfin with hf | ⟨hf, h1, h2⟩
  · exact va_put hx hb hts hin ty0 hty hnm hown hK.1 hP hD hS q0 he hc k hk (hts _ hlink) (fun _ h => h) hf hd hn hfit hl hdg kk
  · exact va_putF hx hb hts hin ty0 hty hnm hown hK.1 hP hD hS q0 he hc k hk (hts _ hlink) (fun _ h => h) hf (hnn.trans h1) h2 hd hn hfit hl hdg kk
theorem gk_oi (X : gk_X E p s m args meth c y cc nL ret A) (hlink : Cond.methodLink y.cls idx Lib.objectInit ∈ gk_tw) (hinst : Cond.instanceMethod Lib.objectInit ∈ gk_tw) (hcode : Cond.code Lib.objectInit ⟨#[0xb1]⟩ 1 none ∈ gk_tw) (hls : ls.size = nL) (hd : decode cc pc = .ok (.invokespecial idx, 3)) (hf : 1 ≤ R.frames) (h8 : (rest.map fun v => v.category).sum + 12 ≤ R.locals)
    (kk : W p l e R s m args below meth c H locs cells slots Q (F0 m (pc + 3) ls rest)) : W p l e R s m args below meth c H locs cells slots Q (F0 m pc ls (.ref b :: rest)) := by
  obtain ⟨hx, hb, hml, hown, hts, -⟩ := X
  refine W.objInit hx hb hown (hts _ hlink) (hts _ hinst) (hts _ hcode) rfl (by rw [hml]; exact hls) rfl hd hf ?_ kk
  show 2 * 0 + _ + 12 ≤ _
  omega
end GKC
end
section
/-! WORDS, METHODS, DECODED INSTRUCTIONS (printed by wip/p1) -/
theorem gk_upd0 (k : Nat) : upd (fun _ => (0 : Int32)) k 0 = (fun _ => 0) := by
  funext j
  unfold upd
  split <;> rfl
theorem in_Jt : ∀ w ∈ u_ws R_Jt F_Jt 6, w ∈ gk_tw := fun w h => gk_in (in0_Jt w h) (ing_Jt w h)
theorem in_Fa : ∀ w ∈ u_ws R_Fa F_Fa 5, w ∈ gk_tw := fun w h => gk_in (in0_Fa w h) (ing_Fa w h)
theorem in_Ex : ∀ w ∈ u_ws R_Ex F_Ex 12, w ∈ gk_tw := fun w h => gk_in (in0_Ex w h) (ing_Ex w h)
theorem in_Li : ∀ w ∈ u_ws R_Li F_Li 8, w ∈ gk_tw := fun w h => gk_in (in0_Li w h) (ing_Li w h)
theorem in_Ro : ∀ w ∈ u_ws R_Ro F_Ro 4, w ∈ gk_tw := fun w h => gk_in (in0_Ro w h) (ing_Ro w h)
theorem in_Al : ∀ w ∈ u_ws R_Al F_Al 3, w ∈ gk_tw := fun w h => gk_in (in0_Al w h) (ing_Al w h)
theorem in_Sb : ∀ w ∈ u_ws R_Sb F_Sb 4, w ∈ gk_tw := fun w h => gk_in (in0_Sb w h) (ing_Sb w h)
theorem in_Te : ∀ w ∈ u_ws R_Te F_Te 7, w ∈ gk_tw := fun w h => gk_in (in0_Te w h) (ing_Te w h)
theorem in_Ln : ∀ w ∈ u_ws R_Ln F_Ln 4, w ∈ gk_tw := fun w h => gk_in (in0_Ln w h) (ing_Ln w h)
theorem in_Re : ∀ w ∈ u_ws R_Re F_Re 9, w ∈ gk_tw := fun w h => gk_in (in0_Re w h) (ing_Re w h)
theorem in_Mo : ∀ w ∈ u_ws R_Mo F_Mo 81, w ∈ gk_tw := fun w h => gk_in (in0_Mo w h) (ing_Mo w h)
theorem k_91 : Jvm.Cond.initialized "JobText$Faults" ∈ gk_tw := gk_in (List.mem_of_getElem? (i := 91) (by decide +kernel)) (by decide +kernel)
theorem k_92 : Jvm.Cond.initialized "java/util/AbstractCollection" ∈ gk_tw := gk_in (List.mem_of_getElem? (i := 92) (by decide +kernel)) (by decide +kernel)
theorem k_93 : Jvm.Cond.initialized "java/util/AbstractList" ∈ gk_tw := gk_in (List.mem_of_getElem? (i := 93) (by decide +kernel)) (by decide +kernel)
theorem k_94 : Jvm.Cond.initialized "java/util/ArrayList" ∈ gk_tw := gk_in (List.mem_of_getElem? (i := 94) (by decide +kernel)) (by decide +kernel)
theorem k_95 : Jvm.Cond.initialized "JobText$Expander" ∈ gk_tw := gk_in (List.mem_of_getElem? (i := 95) (by decide +kernel)) (by decide +kernel)
theorem k_96 : Jvm.Cond.initialized "JobText$Listing" ∈ gk_tw := gk_in (List.mem_of_getElem? (i := 96) (by decide +kernel)) (by decide +kernel)
theorem k_97 : Jvm.Cond.initialized "java/lang/AbstractStringBuilder" ∈ gk_tw := gk_in (List.mem_of_getElem? (i := 97) (by decide +kernel)) (by decide +kernel)
theorem k_98 : Jvm.Cond.initialized "java/lang/StringBuilder" ∈ gk_tw := gk_in (List.mem_of_getElem? (i := 98) (by decide +kernel)) (by decide +kernel)
theorem k_101 : Jvm.Cond.initialized "JobText$Rows" ∈ gk_tw := gk_in (List.mem_of_getElem? (i := 101) (by decide +kernel)) (by decide +kernel)
theorem k_122 : Jvm.Cond.methodLink "JobText" (3 : Nat) ({ cls := "java/lang/Object", name := "<init>", desc := "()V" } : Jvm.MethodName) ∈ gk_tw := gk_in (List.mem_of_getElem? (i := 122) (by decide +kernel)) (by decide +kernel)
theorem k_123 : Jvm.Cond.instanceMethod ({ cls := "java/lang/Object", name := "<init>", desc := "()V" } : Jvm.MethodName) ∈ gk_tw := gk_in (List.mem_of_getElem? (i := 123) (by decide +kernel)) (by decide +kernel)
theorem k_124 : Jvm.Cond.code ({ cls := "java/lang/Object", name := "<init>", desc := "()V" } : Jvm.MethodName) object_method_1_code (1 : Nat) (Option.none : Option Jvm.ClassFile.FieldType) ∈ gk_tw := gk_in (List.mem_of_getElem? (i := 124) (by decide +kernel)) (by decide +kernel)
theorem k_125 : Jvm.Cond.classLink "JobText" (13 : Nat) "JobText$Faults" ∈ gk_tw := gk_in (List.mem_of_getElem? (i := 125) (by decide +kernel)) (by decide +kernel)
theorem k_126 : Jvm.Cond.instantiable "JobText$Faults" (5 : Nat) ∈ gk_tw := gk_in (List.mem_of_getElem? (i := 126) (by decide +kernel)) (by decide +kernel)
theorem k_128 : Jvm.Cond.instanceMethod ({ cls := "JobText$Faults", name := "<init>", desc := "()V" } : Jvm.MethodName) ∈ gk_tw := gk_in (List.mem_of_getElem? (i := 128) (by decide +kernel)) (by decide +kernel)
theorem k_129 : Jvm.Cond.code ({ cls := "JobText$Faults", name := "<init>", desc := "()V" } : Jvm.MethodName) prog_5_method_1_code (1 : Nat) (Option.none : Option Jvm.ClassFile.FieldType) ∈ gk_tw := gk_in (List.mem_of_getElem? (i := 129) (by decide +kernel)) (by decide +kernel)
theorem k_130 : Jvm.Cond.methodLink "JobText$Faults" (3 : Nat) ({ cls := "java/lang/Object", name := "<init>", desc := "()V" } : Jvm.MethodName) ∈ gk_tw := gk_in (List.mem_of_getElem? (i := 130) (by decide +kernel)) (by decide +kernel)
theorem k_131 : Jvm.Cond.fieldLink "JobText$Faults" (9 : Nat) "JobText$Faults" "lines" "[I" ∈ gk_tw := gk_in (List.mem_of_getElem? (i := 131) (by decide +kernel)) (by decide +kernel)
theorem k_132 : Jvm.Cond.fieldLink "JobText$Faults" (15 : Nat) "JobText$Faults" "columns" "[I" ∈ gk_tw := gk_in (List.mem_of_getElem? (i := 132) (by decide +kernel)) (by decide +kernel)
theorem k_133 : Jvm.Cond.fieldLink "JobText$Faults" (18 : Nat) "JobText$Faults" "kinds" "[I" ∈ gk_tw := gk_in (List.mem_of_getElem? (i := 133) (by decide +kernel)) (by decide +kernel)
theorem k_134 : Jvm.Cond.fieldLink "JobText$Faults" (21 : Nat) "JobText$Faults" "nearest" "[I" ∈ gk_tw := gk_in (List.mem_of_getElem? (i := 134) (by decide +kernel)) (by decide +kernel)
theorem k_147 : Jvm.Cond.arrayClass Jvm.ClassFile.FieldType.byte ∈ gk_tw := gk_in (List.mem_of_getElem? (i := 147) (by decide +kernel)) (by decide +kernel)
theorem k_148 : Jvm.Cond.arrayClass Jvm.ClassFile.FieldType.int ∈ gk_tw := gk_in (List.mem_of_getElem? (i := 148) (by decide +kernel)) (by decide +kernel)
theorem k_149 : Jvm.Cond.classLink "JobText" (20 : Nat) "java/util/ArrayList" ∈ gk_tw := gk_in (List.mem_of_getElem? (i := 149) (by decide +kernel)) (by decide +kernel)
theorem k_150 : Jvm.Cond.instantiable "java/util/ArrayList" (3 : Nat) ∈ gk_tw := gk_in (List.mem_of_getElem? (i := 150) (by decide +kernel)) (by decide +kernel)
theorem k_151 : Jvm.Cond.methodLink "JobText" (22 : Nat) ({ cls := "java/util/ArrayList", name := "<init>", desc := "()V" } : Jvm.MethodName) ∈ gk_tw := gk_in (List.mem_of_getElem? (i := 151) (by decide +kernel)) (by decide +kernel)
theorem k_152 : Jvm.Cond.instanceMethod ({ cls := "java/util/ArrayList", name := "<init>", desc := "()V" } : Jvm.MethodName) ∈ gk_tw := gk_in (List.mem_of_getElem? (i := 152) (by decide +kernel)) (by decide +kernel)
theorem k_153 : Jvm.Cond.code ({ cls := "java/util/ArrayList", name := "<init>", desc := "()V" } : Jvm.MethodName) prog_27_method_2_code (1 : Nat) (Option.none : Option Jvm.ClassFile.FieldType) ∈ gk_tw := gk_in (List.mem_of_getElem? (i := 153) (by decide +kernel)) (by decide +kernel)
theorem k_154 : Jvm.Cond.methodLink "java/util/ArrayList" (1 : Nat) ({ cls := "java/util/AbstractList", name := "<init>", desc := "()V" } : Jvm.MethodName) ∈ gk_tw := gk_in (List.mem_of_getElem? (i := 154) (by decide +kernel)) (by decide +kernel)
theorem k_155 : Jvm.Cond.instanceMethod ({ cls := "java/util/AbstractList", name := "<init>", desc := "()V" } : Jvm.MethodName) ∈ gk_tw := gk_in (List.mem_of_getElem? (i := 155) (by decide +kernel)) (by decide +kernel)
theorem k_156 : Jvm.Cond.code ({ cls := "java/util/AbstractList", name := "<init>", desc := "()V" } : Jvm.MethodName) prog_26_method_1_code (1 : Nat) (Option.none : Option Jvm.ClassFile.FieldType) ∈ gk_tw := gk_in (List.mem_of_getElem? (i := 156) (by decide +kernel)) (by decide +kernel)
theorem k_157 : Jvm.Cond.methodLink "java/util/AbstractList" (1 : Nat) ({ cls := "java/util/AbstractCollection", name := "<init>", desc := "()V" } : Jvm.MethodName) ∈ gk_tw := gk_in (List.mem_of_getElem? (i := 157) (by decide +kernel)) (by decide +kernel)
theorem k_158 : Jvm.Cond.instanceMethod ({ cls := "java/util/AbstractCollection", name := "<init>", desc := "()V" } : Jvm.MethodName) ∈ gk_tw := gk_in (List.mem_of_getElem? (i := 158) (by decide +kernel)) (by decide +kernel)
theorem k_159 : Jvm.Cond.code ({ cls := "java/util/AbstractCollection", name := "<init>", desc := "()V" } : Jvm.MethodName) prog_25_method_1_code (1 : Nat) (Option.none : Option Jvm.ClassFile.FieldType) ∈ gk_tw := gk_in (List.mem_of_getElem? (i := 159) (by decide +kernel)) (by decide +kernel)
theorem k_160 : Jvm.Cond.methodLink "java/util/AbstractCollection" (1 : Nat) ({ cls := "java/lang/Object", name := "<init>", desc := "()V" } : Jvm.MethodName) ∈ gk_tw := gk_in (List.mem_of_getElem? (i := 160) (by decide +kernel)) (by decide +kernel)
theorem k_161 : Jvm.Cond.fieldLink "java/util/ArrayList" (39 : Nat) "java/util/ArrayList" "DEFAULTCAPACITY_EMPTY_ELEMENTDATA" "[Ljava/lang/Object;" ∈ gk_tw := gk_in (List.mem_of_getElem? (i := 161) (by decide +kernel)) (by decide +kernel)
theorem k_163 : Jvm.Cond.fieldLink "java/util/ArrayList" (9 : Nat) "java/util/ArrayList" "elementData" "[Ljava/lang/Object;" ∈ gk_tw := gk_in (List.mem_of_getElem? (i := 163) (by decide +kernel)) (by decide +kernel)
theorem k_165 : Jvm.Cond.fieldLink "java/util/AbstractList" (7 : Nat) "java/util/AbstractList" "modCount" "I" ∈ gk_tw := gk_in (List.mem_of_getElem? (i := 165) (by decide +kernel)) (by decide +kernel)
theorem k_175 : Jvm.Cond.classLink "JobText" (27 : Nat) "JobText$Expander" ∈ gk_tw := gk_in (List.mem_of_getElem? (i := 175) (by decide +kernel)) (by decide +kernel)
theorem k_176 : Jvm.Cond.instantiable "JobText$Expander" (12 : Nat) ∈ gk_tw := gk_in (List.mem_of_getElem? (i := 176) (by decide +kernel)) (by decide +kernel)
theorem k_178 : Jvm.Cond.instanceMethod ({ cls := "JobText$Expander", name := "<init>", desc := "()V" } : Jvm.MethodName) ∈ gk_tw := gk_in (List.mem_of_getElem? (i := 178) (by decide +kernel)) (by decide +kernel)
theorem k_179 : Jvm.Cond.code ({ cls := "JobText$Expander", name := "<init>", desc := "()V" } : Jvm.MethodName) prog_4_method_1_code (1 : Nat) (Option.none : Option Jvm.ClassFile.FieldType) ∈ gk_tw := gk_in (List.mem_of_getElem? (i := 179) (by decide +kernel)) (by decide +kernel)
theorem k_180 : Jvm.Cond.methodLink "JobText$Expander" (3 : Nat) ({ cls := "java/lang/Object", name := "<init>", desc := "()V" } : Jvm.MethodName) ∈ gk_tw := gk_in (List.mem_of_getElem? (i := 180) (by decide +kernel)) (by decide +kernel)
theorem k_181 : Jvm.Cond.classLink "JobText$Expander" (9 : Nat) "JobText$Listing" ∈ gk_tw := gk_in (List.mem_of_getElem? (i := 181) (by decide +kernel)) (by decide +kernel)
theorem k_182 : Jvm.Cond.instantiable "JobText$Listing" (8 : Nat) ∈ gk_tw := gk_in (List.mem_of_getElem? (i := 182) (by decide +kernel)) (by decide +kernel)
theorem k_184 : Jvm.Cond.instanceMethod ({ cls := "JobText$Listing", name := "<init>", desc := "()V" } : Jvm.MethodName) ∈ gk_tw := gk_in (List.mem_of_getElem? (i := 184) (by decide +kernel)) (by decide +kernel)
theorem k_185 : Jvm.Cond.code ({ cls := "JobText$Listing", name := "<init>", desc := "()V" } : Jvm.MethodName) prog_8_method_1_code (1 : Nat) (Option.none : Option Jvm.ClassFile.FieldType) ∈ gk_tw := gk_in (List.mem_of_getElem? (i := 185) (by decide +kernel)) (by decide +kernel)
theorem k_186 : Jvm.Cond.methodLink "JobText$Listing" (3 : Nat) ({ cls := "java/lang/Object", name := "<init>", desc := "()V" } : Jvm.MethodName) ∈ gk_tw := gk_in (List.mem_of_getElem? (i := 186) (by decide +kernel)) (by decide +kernel)
theorem k_187 : Jvm.Cond.classLink "JobText$Listing" (30 : Nat) "java/lang/StringBuilder" ∈ gk_tw := gk_in (List.mem_of_getElem? (i := 187) (by decide +kernel)) (by decide +kernel)
theorem k_188 : Jvm.Cond.instantiable "java/lang/StringBuilder" (4 : Nat) ∈ gk_tw := gk_in (List.mem_of_getElem? (i := 188) (by decide +kernel)) (by decide +kernel)
theorem k_189 : Jvm.Cond.methodLink "JobText$Listing" (32 : Nat) ({ cls := "java/lang/StringBuilder", name := "<init>", desc := "()V" } : Jvm.MethodName) ∈ gk_tw := gk_in (List.mem_of_getElem? (i := 189) (by decide +kernel)) (by decide +kernel)
theorem k_190 : Jvm.Cond.instanceMethod ({ cls := "java/lang/StringBuilder", name := "<init>", desc := "()V" } : Jvm.MethodName) ∈ gk_tw := gk_in (List.mem_of_getElem? (i := 190) (by decide +kernel)) (by decide +kernel)
theorem k_191 : Jvm.Cond.code ({ cls := "java/lang/StringBuilder", name := "<init>", desc := "()V" } : Jvm.MethodName) prog_21_method_1_code (1 : Nat) (Option.none : Option Jvm.ClassFile.FieldType) ∈ gk_tw := gk_in (List.mem_of_getElem? (i := 191) (by decide +kernel)) (by decide +kernel)
theorem k_192 : Jvm.Cond.methodLink "java/lang/StringBuilder" (1 : Nat) ({ cls := "java/lang/AbstractStringBuilder", name := "<init>", desc := "(I)V" } : Jvm.MethodName) ∈ gk_tw := gk_in (List.mem_of_getElem? (i := 192) (by decide +kernel)) (by decide +kernel)
theorem k_193 : Jvm.Cond.instanceMethod ({ cls := "java/lang/AbstractStringBuilder", name := "<init>", desc := "(I)V" } : Jvm.MethodName) ∈ gk_tw := gk_in (List.mem_of_getElem? (i := 193) (by decide +kernel)) (by decide +kernel)
theorem k_194 : Jvm.Cond.code ({ cls := "java/lang/AbstractStringBuilder", name := "<init>", desc := "(I)V" } : Jvm.MethodName) prog_16_method_2_code (2 : Nat) (Option.none : Option Jvm.ClassFile.FieldType) ∈ gk_tw := gk_in (List.mem_of_getElem? (i := 194) (by decide +kernel)) (by decide +kernel)
theorem k_195 : Jvm.Cond.methodLink "java/lang/AbstractStringBuilder" (3 : Nat) ({ cls := "java/lang/Object", name := "<init>", desc := "()V" } : Jvm.MethodName) ∈ gk_tw := gk_in (List.mem_of_getElem? (i := 195) (by decide +kernel)) (by decide +kernel)
theorem k_196 : Jvm.Cond.fieldLink "java/lang/AbstractStringBuilder" (18 : Nat) "java/lang/String" "COMPACT_STRINGS" "Z" ∈ gk_tw := gk_in (List.mem_of_getElem? (i := 196) (by decide +kernel)) (by decide +kernel)
theorem k_205 : Jvm.Cond.fieldLink "java/lang/AbstractStringBuilder" (15 : Nat) "java/lang/AbstractStringBuilder" "value" "[B" ∈ gk_tw := gk_in (List.mem_of_getElem? (i := 205) (by decide +kernel)) (by decide +kernel)
theorem k_206 : Jvm.Cond.fieldLink "java/lang/AbstractStringBuilder" (22 : Nat) "java/lang/AbstractStringBuilder" "coder" "B" ∈ gk_tw := gk_in (List.mem_of_getElem? (i := 206) (by decide +kernel)) (by decide +kernel)
theorem k_218 : Jvm.Cond.fieldLink "JobText$Listing" (9 : Nat) "JobText$Listing" "lines" "[I" ∈ gk_tw := gk_in (List.mem_of_getElem? (i := 218) (by decide +kernel)) (by decide +kernel)
theorem k_219 : Jvm.Cond.fieldLink "JobText$Listing" (15 : Nat) "JobText$Listing" "operations" "[I" ∈ gk_tw := gk_in (List.mem_of_getElem? (i := 219) (by decide +kernel)) (by decide +kernel)
theorem k_220 : Jvm.Cond.fieldLink "JobText$Listing" (18 : Nat) "JobText$Listing" "depths" "[I" ∈ gk_tw := gk_in (List.mem_of_getElem? (i := 220) (by decide +kernel)) (by decide +kernel)
theorem k_221 : Jvm.Cond.fieldLink "JobText$Listing" (21 : Nat) "JobText$Listing" "counts" "[I" ∈ gk_tw := gk_in (List.mem_of_getElem? (i := 221) (by decide +kernel)) (by decide +kernel)
theorem k_222 : Jvm.Cond.fieldLink "JobText$Listing" (24 : Nat) "JobText$Listing" "changes" "[I" ∈ gk_tw := gk_in (List.mem_of_getElem? (i := 222) (by decide +kernel)) (by decide +kernel)
theorem k_223 : Jvm.Cond.fieldLink "JobText$Listing" (27 : Nat) "JobText$Listing" "ends" "[I" ∈ gk_tw := gk_in (List.mem_of_getElem? (i := 223) (by decide +kernel)) (by decide +kernel)
theorem k_224 : Jvm.Cond.fieldLink "JobText$Listing" (33 : Nat) "JobText$Listing" "letters" "Ljava/lang/StringBuilder;" ∈ gk_tw := gk_in (List.mem_of_getElem? (i := 224) (by decide +kernel)) (by decide +kernel)
theorem k_243 : Jvm.Cond.classLink "JobText$Expander" (18 : Nat) "JobText$Rows" ∈ gk_tw := gk_in (List.mem_of_getElem? (i := 243) (by decide +kernel)) (by decide +kernel)
theorem k_244 : Jvm.Cond.instantiable "JobText$Rows" (4 : Nat) ∈ gk_tw := gk_in (List.mem_of_getElem? (i := 244) (by decide +kernel)) (by decide +kernel)
theorem k_246 : Jvm.Cond.instanceMethod ({ cls := "JobText$Rows", name := "<init>", desc := "()V" } : Jvm.MethodName) ∈ gk_tw := gk_in (List.mem_of_getElem? (i := 246) (by decide +kernel)) (by decide +kernel)
theorem k_247 : Jvm.Cond.code ({ cls := "JobText$Rows", name := "<init>", desc := "()V" } : Jvm.MethodName) prog_10_method_1_code (1 : Nat) (Option.none : Option Jvm.ClassFile.FieldType) ∈ gk_tw := gk_in (List.mem_of_getElem? (i := 247) (by decide +kernel)) (by decide +kernel)
theorem k_248 : Jvm.Cond.methodLink "JobText$Rows" (3 : Nat) ({ cls := "java/lang/Object", name := "<init>", desc := "()V" } : Jvm.MethodName) ∈ gk_tw := gk_in (List.mem_of_getElem? (i := 248) (by decide +kernel)) (by decide +kernel)
theorem k_249 : Jvm.Cond.fieldLink "JobText$Rows" (9 : Nat) "JobText$Rows" "keys" "[J" ∈ gk_tw := gk_in (List.mem_of_getElem? (i := 249) (by decide +kernel)) (by decide +kernel)
theorem k_250 : Jvm.Cond.fieldLink "JobText$Rows" (15 : Nat) "JobText$Rows" "lengths" "[I" ∈ gk_tw := gk_in (List.mem_of_getElem? (i := 250) (by decide +kernel)) (by decide +kernel)
theorem k_251 : Jvm.Cond.fieldLink "JobText$Rows" (19 : Nat) "JobText$Rows" "values" "[B" ∈ gk_tw := gk_in (List.mem_of_getElem? (i := 251) (by decide +kernel)) (by decide +kernel)
theorem k_262 : Jvm.Cond.arrayClass Jvm.ClassFile.FieldType.long ∈ gk_tw := gk_in (List.mem_of_getElem? (i := 262) (by decide +kernel)) (by decide +kernel)
theorem k_263 : Jvm.Cond.classLink "JobText$Expander" (28 : Nat) "java/util/ArrayList" ∈ gk_tw := gk_in (List.mem_of_getElem? (i := 263) (by decide +kernel)) (by decide +kernel)
theorem k_264 : Jvm.Cond.methodLink "JobText$Expander" (30 : Nat) ({ cls := "java/util/ArrayList", name := "<init>", desc := "()V" } : Jvm.MethodName) ∈ gk_tw := gk_in (List.mem_of_getElem? (i := 264) (by decide +kernel)) (by decide +kernel)
theorem k_265 : Jvm.Cond.fieldLink "JobText$Expander" (12 : Nat) "JobText$Expander" "listing" "LJobText$Listing;" ∈ gk_tw := gk_in (List.mem_of_getElem? (i := 265) (by decide +kernel)) (by decide +kernel)
theorem k_266 : Jvm.Cond.fieldLink "JobText$Expander" (21 : Nat) "JobText$Expander" "rows" "LJobText$Rows;" ∈ gk_tw := gk_in (List.mem_of_getElem? (i := 266) (by decide +kernel)) (by decide +kernel)
theorem k_267 : Jvm.Cond.fieldLink "JobText$Expander" (25 : Nat) "JobText$Expander" "sets" "LJobText$Rows;" ∈ gk_tw := gk_in (List.mem_of_getElem? (i := 267) (by decide +kernel)) (by decide +kernel)
theorem k_268 : Jvm.Cond.fieldLink "JobText$Expander" (31 : Nat) "JobText$Expander" "frames" "Ljava/util/ArrayList;" ∈ gk_tw := gk_in (List.mem_of_getElem? (i := 268) (by decide +kernel)) (by decide +kernel)
theorem k_269 : Jvm.Cond.fieldLink "JobText$Expander" (35 : Nat) "JobText$Expander" "overrides" "Ljava/util/ArrayList;" ∈ gk_tw := gk_in (List.mem_of_getElem? (i := 269) (by decide +kernel)) (by decide +kernel)
theorem k_270 : Jvm.Cond.fieldLink "JobText$Expander" (38 : Nat) "JobText$Expander" "procedures" "Ljava/util/ArrayList;" ∈ gk_tw := gk_in (List.mem_of_getElem? (i := 270) (by decide +kernel)) (by decide +kernel)
theorem k_271 : Jvm.Cond.fieldLink "JobText$Expander" (41 : Nat) "JobText$Expander" "library" "Ljava/util/ArrayList;" ∈ gk_tw := gk_in (List.mem_of_getElem? (i := 271) (by decide +kernel)) (by decide +kernel)
theorem k_302 : Jvm.Cond.fieldLink "JobText" (9 : Nat) "JobText" "signs" "[B" ∈ gk_tw := gk_in (List.mem_of_getElem? (i := 302) (by decide +kernel)) (by decide +kernel)
theorem k_303 : Jvm.Cond.fieldLink "JobText" (16 : Nat) "JobText" "faults" "LJobText$Faults;" ∈ gk_tw := gk_in (List.mem_of_getElem? (i := 303) (by decide +kernel)) (by decide +kernel)
theorem k_304 : Jvm.Cond.fieldLink "JobText" (23 : Nat) "JobText" "library" "Ljava/util/ArrayList;" ∈ gk_tw := gk_in (List.mem_of_getElem? (i := 304) (by decide +kernel)) (by decide +kernel)
theorem k_305 : Jvm.Cond.fieldLink "JobText" (30 : Nat) "JobText" "expander" "LJobText$Expander;" ∈ gk_tw := gk_in (List.mem_of_getElem? (i := 305) (by decide +kernel)) (by decide +kernel)
theorem nk_0 : Jvm.Cond.methodLinkNest "JobText" (15 : Nat) ({ cls := "JobText$Faults", name := "<init>", desc := "()V" } : Jvm.MethodName) "JobText" ∈ gk_nw := List.mem_of_getElem? (i := 0) (by decide +kernel)
theorem nk_1 : Jvm.Cond.methodLinkNest "JobText" (29 : Nat) ({ cls := "JobText$Expander", name := "<init>", desc := "()V" } : Jvm.MethodName) "JobText" ∈ gk_nw := List.mem_of_getElem? (i := 1) (by decide +kernel)
theorem nk_2 : Jvm.Cond.methodLinkNest "JobText$Expander" (11 : Nat) ({ cls := "JobText$Listing", name := "<init>", desc := "()V" } : Jvm.MethodName) "JobText" ∈ gk_nw := List.mem_of_getElem? (i := 2) (by decide +kernel)
theorem nk_3 : Jvm.Cond.methodLinkNest "JobText$Expander" (20 : Nat) ({ cls := "JobText$Rows", name := "<init>", desc := "()V" } : Jvm.MethodName) "JobText" ∈ gk_nw := List.mem_of_getElem? (i := 3) (by decide +kernel)
abbrev b_Ac_init : ByteArray := prog_25_method_1_code
def y_Ac_init : MethodName := ⟨"java/util/AbstractCollection", "<init>", "()V"⟩
abbrev b_Ab_init : ByteArray := prog_26_method_1_code
def y_Ab_init : MethodName := ⟨"java/util/AbstractList", "<init>", "()V"⟩
abbrev b_Al_init : ByteArray := prog_27_method_2_code
def y_Al_init : MethodName := ⟨"java/util/ArrayList", "<init>", "()V"⟩
abbrev b_As_init : ByteArray := prog_16_method_2_code
def y_As_init : MethodName := ⟨"java/lang/AbstractStringBuilder", "<init>", "(I)V"⟩
abbrev b_Sb_init : ByteArray := prog_21_method_1_code
def y_Sb_init : MethodName := ⟨"java/lang/StringBuilder", "<init>", "()V"⟩
abbrev b_Fa_init : ByteArray := prog_5_method_1_code
def y_Fa_init : MethodName := ⟨"JobText$Faults", "<init>", "()V"⟩
abbrev b_Ro_init : ByteArray := prog_10_method_1_code
def y_Ro_init : MethodName := ⟨"JobText$Rows", "<init>", "()V"⟩
abbrev b_Li_init : ByteArray := prog_8_method_1_code
def y_Li_init : MethodName := ⟨"JobText$Listing", "<init>", "()V"⟩
abbrev b_Ex_init : ByteArray := prog_4_method_1_code
def y_Ex_init : MethodName := ⟨"JobText$Expander", "<init>", "()V"⟩
abbrev b_Jt_init : ByteArray := prog_1_method_1_code
def y_Jt_init : MethodName := ⟨"JobText", "<init>", "()V"⟩
theorem ok_Ac_init : gk_ok y_Ac_init b_Ac_init 1 (none) 0 := ⟨⟨k_159, k_92⟩, by decide, by decide, by decide +kernel⟩
theorem ok_Ab_init : gk_ok y_Ab_init b_Ab_init 1 (none) 0 := ⟨⟨k_156, k_93⟩, by decide, by decide, by decide +kernel⟩
theorem ok_As_init : gk_ok y_As_init b_As_init 2 (none) 1 := ⟨⟨k_194, k_97⟩, by decide, by decide, by decide +kernel⟩
theorem ok_Sb_init : gk_ok y_Sb_init b_Sb_init 1 (none) 0 := ⟨⟨k_191, k_98⟩, by decide, by decide, by decide +kernel⟩
theorem ok_Li_init : gk_ok y_Li_init b_Li_init 1 (none) 0 := ⟨⟨k_185, k_96⟩, by decide, by decide, by decide +kernel⟩
theorem ok_Ro_init : gk_ok y_Ro_init b_Ro_init 1 (none) 0 := ⟨⟨k_247, k_101⟩, by decide, by decide, by decide +kernel⟩
theorem ok_Al_init : gk_ok y_Al_init b_Al_init 1 (none) 0 := ⟨⟨k_153, k_94⟩, by decide, by decide, by decide +kernel⟩
theorem ok_Fa_init : gk_ok y_Fa_init b_Fa_init 1 (none) 0 := ⟨⟨k_129, k_91⟩, by decide, by decide, by decide +kernel⟩
theorem ok_Ex_init : gk_ok y_Ex_init b_Ex_init 1 (none) 0 := ⟨⟨k_179, k_95⟩, by decide, by decide, by decide +kernel⟩
end
section
theorem d_Ac_init_0 : decode b_Ac_init 0 = .ok (.aload_n 0, 1) := by decide +kernel
theorem d_Ac_init_1 : decode b_Ac_init 1 = .ok (.invokespecial 1, 3) := by decide +kernel
theorem d_Ac_init_4 : decode b_Ac_init 4 = .ok (.return_, 1) := by decide +kernel
theorem d_Ab_init_0 : decode b_Ab_init 0 = .ok (.aload_n 0, 1) := by decide +kernel
theorem d_Ab_init_1 : decode b_Ab_init 1 = .ok (.invokespecial 1, 3) := by decide +kernel
theorem d_Ab_init_4 : decode b_Ab_init 4 = .ok (.aload_n 0, 1) := by decide +kernel
theorem d_Ab_init_5 : decode b_Ab_init 5 = .ok (.iconst 0, 1) := by decide +kernel
theorem d_Ab_init_6 : decode b_Ab_init 6 = .ok (.putfield 7, 3) := by decide +kernel
theorem d_Ab_init_9 : decode b_Ab_init 9 = .ok (.return_, 1) := by decide +kernel
theorem d_Al_init_0 : decode b_Al_init 0 = .ok (.aload_n 0, 1) := by decide +kernel
theorem d_Al_init_1 : decode b_Al_init 1 = .ok (.invokespecial 1, 3) := by decide +kernel
theorem d_Al_init_4 : decode b_Al_init 4 = .ok (.aload_n 0, 1) := by decide +kernel
theorem d_Al_init_5 : decode b_Al_init 5 = .ok (.getstatic 39, 3) := by decide +kernel
theorem d_Al_init_8 : decode b_Al_init 8 = .ok (.putfield 9, 3) := by decide +kernel
theorem d_Al_init_11 : decode b_Al_init 11 = .ok (.return_, 1) := by decide +kernel
theorem d_As_init_0 : decode b_As_init 0 = .ok (.aload_n 0, 1) := by decide +kernel
theorem d_As_init_1 : decode b_As_init 1 = .ok (.invokespecial 3, 3) := by decide +kernel
theorem d_As_init_4 : decode b_As_init 4 = .ok (.getstatic 18, 3) := by decide +kernel
theorem d_As_init_7 : decode b_As_init 7 = .ok (.ifCond .eq 18, 3) := by decide +kernel
theorem d_As_init_10 : decode b_As_init 10 = .ok (.aload_n 0, 1) := by decide +kernel
theorem d_As_init_11 : decode b_As_init 11 = .ok (.iload_n 1, 1) := by decide +kernel
theorem d_As_init_12 : decode b_As_init 12 = .ok (.newarray .byte, 2) := by decide +kernel
theorem d_As_init_14 : decode b_As_init 14 = .ok (.putfield 15, 3) := by decide +kernel
theorem d_As_init_17 : decode b_As_init 17 = .ok (.aload_n 0, 1) := by decide +kernel
theorem d_As_init_18 : decode b_As_init 18 = .ok (.iconst 0, 1) := by decide +kernel
theorem d_As_init_19 : decode b_As_init 19 = .ok (.putfield 22, 3) := by decide +kernel
theorem d_As_init_22 : decode b_As_init 22 = .ok (.goto 16, 3) := by decide +kernel
theorem d_As_init_38 : decode b_As_init 38 = .ok (.return_, 1) := by decide +kernel
theorem d_Sb_init_0 : decode b_Sb_init 0 = .ok (.aload_n 0, 1) := by decide +kernel
theorem d_Sb_init_1 : decode b_Sb_init 1 = .ok (.bipush 16, 2) := by decide +kernel
theorem d_Sb_init_3 : decode b_Sb_init 3 = .ok (.invokespecial 1, 3) := by decide +kernel
theorem d_Sb_init_6 : decode b_Sb_init 6 = .ok (.return_, 1) := by decide +kernel
theorem d_Fa_init_0 : decode b_Fa_init 0 = .ok (.aload_n 0, 1) := by decide +kernel
theorem d_Fa_init_1 : decode b_Fa_init 1 = .ok (.invokespecial 3, 3) := by decide +kernel
theorem d_Fa_init_4 : decode b_Fa_init 4 = .ok (.aload_n 0, 1) := by decide +kernel
theorem d_Fa_init_5 : decode b_Fa_init 5 = .ok (.bipush 30, 2) := by decide +kernel
theorem d_Fa_init_7 : decode b_Fa_init 7 = .ok (.newarray .int, 2) := by decide +kernel
theorem d_Fa_init_9 : decode b_Fa_init 9 = .ok (.putfield 9, 3) := by decide +kernel
theorem d_Fa_init_12 : decode b_Fa_init 12 = .ok (.aload_n 0, 1) := by decide +kernel
theorem d_Fa_init_13 : decode b_Fa_init 13 = .ok (.bipush 30, 2) := by decide +kernel
theorem d_Fa_init_15 : decode b_Fa_init 15 = .ok (.newarray .int, 2) := by decide +kernel
theorem d_Fa_init_17 : decode b_Fa_init 17 = .ok (.putfield 15, 3) := by decide +kernel
theorem d_Fa_init_20 : decode b_Fa_init 20 = .ok (.aload_n 0, 1) := by decide +kernel
theorem d_Fa_init_21 : decode b_Fa_init 21 = .ok (.bipush 30, 2) := by decide +kernel
theorem d_Fa_init_23 : decode b_Fa_init 23 = .ok (.newarray .int, 2) := by decide +kernel
theorem d_Fa_init_25 : decode b_Fa_init 25 = .ok (.putfield 18, 3) := by decide +kernel
theorem d_Fa_init_28 : decode b_Fa_init 28 = .ok (.aload_n 0, 1) := by decide +kernel
theorem d_Fa_init_29 : decode b_Fa_init 29 = .ok (.bipush 30, 2) := by decide +kernel
theorem d_Fa_init_31 : decode b_Fa_init 31 = .ok (.newarray .int, 2) := by decide +kernel
theorem d_Fa_init_33 : decode b_Fa_init 33 = .ok (.putfield 21, 3) := by decide +kernel
theorem d_Fa_init_36 : decode b_Fa_init 36 = .ok (.return_, 1) := by decide +kernel
theorem d_Ro_init_0 : decode b_Ro_init 0 = .ok (.aload_n 0, 1) := by decide +kernel
theorem d_Ro_init_1 : decode b_Ro_init 1 = .ok (.invokespecial 3, 3) := by decide +kernel
theorem d_Ro_init_4 : decode b_Ro_init 4 = .ok (.aload_n 0, 1) := by decide +kernel
theorem d_Ro_init_5 : decode b_Ro_init 5 = .ok (.bipush 8, 2) := by decide +kernel
theorem d_Ro_init_7 : decode b_Ro_init 7 = .ok (.newarray .long, 2) := by decide +kernel
theorem d_Ro_init_9 : decode b_Ro_init 9 = .ok (.putfield 9, 3) := by decide +kernel
theorem d_Ro_init_12 : decode b_Ro_init 12 = .ok (.aload_n 0, 1) := by decide +kernel
theorem d_Ro_init_13 : decode b_Ro_init 13 = .ok (.bipush 8, 2) := by decide +kernel
theorem d_Ro_init_15 : decode b_Ro_init 15 = .ok (.newarray .int, 2) := by decide +kernel
theorem d_Ro_init_17 : decode b_Ro_init 17 = .ok (.putfield 15, 3) := by decide +kernel
theorem d_Ro_init_20 : decode b_Ro_init 20 = .ok (.aload_n 0, 1) := by decide +kernel
theorem d_Ro_init_21 : decode b_Ro_init 21 = .ok (.sipush 240, 3) := by decide +kernel
theorem d_Ro_init_24 : decode b_Ro_init 24 = .ok (.newarray .byte, 2) := by decide +kernel
theorem d_Ro_init_26 : decode b_Ro_init 26 = .ok (.putfield 19, 3) := by decide +kernel
theorem d_Ro_init_29 : decode b_Ro_init 29 = .ok (.return_, 1) := by decide +kernel
theorem d_Li_init_0 : decode b_Li_init 0 = .ok (.aload_n 0, 1) := by decide +kernel
theorem d_Li_init_1 : decode b_Li_init 1 = .ok (.invokespecial 3, 3) := by decide +kernel
theorem d_Li_init_4 : decode b_Li_init 4 = .ok (.aload_n 0, 1) := by decide +kernel
theorem d_Li_init_5 : decode b_Li_init 5 = .ok (.bipush 100, 2) := by decide +kernel
theorem d_Li_init_7 : decode b_Li_init 7 = .ok (.newarray .int, 2) := by decide +kernel
theorem d_Li_init_9 : decode b_Li_init 9 = .ok (.putfield 9, 3) := by decide +kernel
theorem d_Li_init_12 : decode b_Li_init 12 = .ok (.aload_n 0, 1) := by decide +kernel
theorem d_Li_init_13 : decode b_Li_init 13 = .ok (.bipush 100, 2) := by decide +kernel
theorem d_Li_init_15 : decode b_Li_init 15 = .ok (.newarray .int, 2) := by decide +kernel
theorem d_Li_init_17 : decode b_Li_init 17 = .ok (.putfield 15, 3) := by decide +kernel
theorem d_Li_init_20 : decode b_Li_init 20 = .ok (.aload_n 0, 1) := by decide +kernel
theorem d_Li_init_21 : decode b_Li_init 21 = .ok (.bipush 100, 2) := by decide +kernel
theorem d_Li_init_23 : decode b_Li_init 23 = .ok (.newarray .int, 2) := by decide +kernel
theorem d_Li_init_25 : decode b_Li_init 25 = .ok (.putfield 18, 3) := by decide +kernel
theorem d_Li_init_28 : decode b_Li_init 28 = .ok (.aload_n 0, 1) := by decide +kernel
theorem d_Li_init_29 : decode b_Li_init 29 = .ok (.bipush 100, 2) := by decide +kernel
theorem d_Li_init_31 : decode b_Li_init 31 = .ok (.newarray .int, 2) := by decide +kernel
theorem d_Li_init_33 : decode b_Li_init 33 = .ok (.putfield 21, 3) := by decide +kernel
theorem d_Li_init_36 : decode b_Li_init 36 = .ok (.aload_n 0, 1) := by decide +kernel
theorem d_Li_init_37 : decode b_Li_init 37 = .ok (.bipush 100, 2) := by decide +kernel
theorem d_Li_init_39 : decode b_Li_init 39 = .ok (.newarray .int, 2) := by decide +kernel
theorem d_Li_init_41 : decode b_Li_init 41 = .ok (.putfield 24, 3) := by decide +kernel
theorem d_Li_init_44 : decode b_Li_init 44 = .ok (.aload_n 0, 1) := by decide +kernel
theorem d_Li_init_45 : decode b_Li_init 45 = .ok (.bipush 100, 2) := by decide +kernel
theorem d_Li_init_47 : decode b_Li_init 47 = .ok (.newarray .int, 2) := by decide +kernel
theorem d_Li_init_49 : decode b_Li_init 49 = .ok (.putfield 27, 3) := by decide +kernel
theorem d_Li_init_52 : decode b_Li_init 52 = .ok (.aload_n 0, 1) := by decide +kernel
theorem d_Li_init_53 : decode b_Li_init 53 = .ok (.new 30, 3) := by decide +kernel
theorem d_Li_init_56 : decode b_Li_init 56 = .ok (.dup, 1) := by decide +kernel
theorem d_Li_init_57 : decode b_Li_init 57 = .ok (.invokespecial 32, 3) := by decide +kernel
theorem d_Li_init_60 : decode b_Li_init 60 = .ok (.putfield 33, 3) := by decide +kernel
theorem d_Li_init_63 : decode b_Li_init 63 = .ok (.return_, 1) := by decide +kernel
theorem d_Ex_init_0 : decode b_Ex_init 0 = .ok (.aload_n 0, 1) := by decide +kernel
theorem d_Ex_init_1 : decode b_Ex_init 1 = .ok (.invokespecial 3, 3) := by decide +kernel
theorem d_Ex_init_4 : decode b_Ex_init 4 = .ok (.aload_n 0, 1) := by decide +kernel
theorem d_Ex_init_5 : decode b_Ex_init 5 = .ok (.new 9, 3) := by decide +kernel
theorem d_Ex_init_8 : decode b_Ex_init 8 = .ok (.dup, 1) := by decide +kernel
theorem d_Ex_init_9 : decode b_Ex_init 9 = .ok (.invokespecial 11, 3) := by decide +kernel
theorem d_Ex_init_12 : decode b_Ex_init 12 = .ok (.putfield 12, 3) := by decide +kernel
theorem d_Ex_init_15 : decode b_Ex_init 15 = .ok (.aload_n 0, 1) := by decide +kernel
theorem d_Ex_init_16 : decode b_Ex_init 16 = .ok (.new 18, 3) := by decide +kernel
theorem d_Ex_init_19 : decode b_Ex_init 19 = .ok (.dup, 1) := by decide +kernel
theorem d_Ex_init_20 : decode b_Ex_init 20 = .ok (.invokespecial 20, 3) := by decide +kernel
theorem d_Ex_init_23 : decode b_Ex_init 23 = .ok (.putfield 21, 3) := by decide +kernel
theorem d_Ex_init_26 : decode b_Ex_init 26 = .ok (.aload_n 0, 1) := by decide +kernel
theorem d_Ex_init_27 : decode b_Ex_init 27 = .ok (.new 18, 3) := by decide +kernel
theorem d_Ex_init_30 : decode b_Ex_init 30 = .ok (.dup, 1) := by decide +kernel
theorem d_Ex_init_31 : decode b_Ex_init 31 = .ok (.invokespecial 20, 3) := by decide +kernel
theorem d_Ex_init_34 : decode b_Ex_init 34 = .ok (.putfield 25, 3) := by decide +kernel
theorem d_Ex_init_37 : decode b_Ex_init 37 = .ok (.aload_n 0, 1) := by decide +kernel
theorem d_Ex_init_38 : decode b_Ex_init 38 = .ok (.new 28, 3) := by decide +kernel
theorem d_Ex_init_41 : decode b_Ex_init 41 = .ok (.dup, 1) := by decide +kernel
theorem d_Ex_init_42 : decode b_Ex_init 42 = .ok (.invokespecial 30, 3) := by decide +kernel
theorem d_Ex_init_45 : decode b_Ex_init 45 = .ok (.putfield 31, 3) := by decide +kernel
theorem d_Ex_init_48 : decode b_Ex_init 48 = .ok (.aload_n 0, 1) := by decide +kernel
theorem d_Ex_init_49 : decode b_Ex_init 49 = .ok (.new 28, 3) := by decide +kernel
theorem d_Ex_init_52 : decode b_Ex_init 52 = .ok (.dup, 1) := by decide +kernel
theorem d_Ex_init_53 : decode b_Ex_init 53 = .ok (.invokespecial 30, 3) := by decide +kernel
theorem d_Ex_init_56 : decode b_Ex_init 56 = .ok (.putfield 35, 3) := by decide +kernel
theorem d_Ex_init_59 : decode b_Ex_init 59 = .ok (.aload_n 0, 1) := by decide +kernel
theorem d_Ex_init_60 : decode b_Ex_init 60 = .ok (.new 28, 3) := by decide +kernel
theorem d_Ex_init_63 : decode b_Ex_init 63 = .ok (.dup, 1) := by decide +kernel
theorem d_Ex_init_64 : decode b_Ex_init 64 = .ok (.invokespecial 30, 3) := by decide +kernel
theorem d_Ex_init_67 : decode b_Ex_init 67 = .ok (.putfield 38, 3) := by decide +kernel
theorem d_Ex_init_70 : decode b_Ex_init 70 = .ok (.aload_n 0, 1) := by decide +kernel
theorem d_Ex_init_71 : decode b_Ex_init 71 = .ok (.new 28, 3) := by decide +kernel
theorem d_Ex_init_74 : decode b_Ex_init 74 = .ok (.dup, 1) := by decide +kernel
theorem d_Ex_init_75 : decode b_Ex_init 75 = .ok (.invokespecial 30, 3) := by decide +kernel
theorem d_Ex_init_78 : decode b_Ex_init 78 = .ok (.putfield 41, 3) := by decide +kernel
theorem d_Ex_init_81 : decode b_Ex_init 81 = .ok (.return_, 1) := by decide +kernel
theorem d_Jt_init_0 : decode b_Jt_init 0 = .ok (.aload_n 0, 1) := by decide +kernel
theorem d_Jt_init_1 : decode b_Jt_init 1 = .ok (.invokespecial 3, 3) := by decide +kernel
theorem d_Jt_init_4 : decode b_Jt_init 4 = .ok (.aload_n 0, 1) := by decide +kernel
theorem d_Jt_init_5 : decode b_Jt_init 5 = .ok (.sipush 3000, 3) := by decide +kernel
theorem d_Jt_init_8 : decode b_Jt_init 8 = .ok (.newarray .byte, 2) := by decide +kernel
theorem d_Jt_init_10 : decode b_Jt_init 10 = .ok (.putfield 9, 3) := by decide +kernel
theorem d_Jt_init_13 : decode b_Jt_init 13 = .ok (.aload_n 0, 1) := by decide +kernel
theorem d_Jt_init_14 : decode b_Jt_init 14 = .ok (.new 13, 3) := by decide +kernel
theorem d_Jt_init_17 : decode b_Jt_init 17 = .ok (.dup, 1) := by decide +kernel
theorem d_Jt_init_18 : decode b_Jt_init 18 = .ok (.invokespecial 15, 3) := by decide +kernel
theorem d_Jt_init_21 : decode b_Jt_init 21 = .ok (.putfield 16, 3) := by decide +kernel
theorem d_Jt_init_24 : decode b_Jt_init 24 = .ok (.aload_n 0, 1) := by decide +kernel
theorem d_Jt_init_25 : decode b_Jt_init 25 = .ok (.new 20, 3) := by decide +kernel
theorem d_Jt_init_28 : decode b_Jt_init 28 = .ok (.dup, 1) := by decide +kernel
theorem d_Jt_init_29 : decode b_Jt_init 29 = .ok (.invokespecial 22, 3) := by decide +kernel
theorem d_Jt_init_32 : decode b_Jt_init 32 = .ok (.putfield 23, 3) := by decide +kernel
theorem d_Jt_init_35 : decode b_Jt_init 35 = .ok (.aload_n 0, 1) := by decide +kernel
theorem d_Jt_init_36 : decode b_Jt_init 36 = .ok (.new 27, 3) := by decide +kernel
theorem d_Jt_init_39 : decode b_Jt_init 39 = .ok (.dup, 1) := by decide +kernel
theorem d_Jt_init_40 : decode b_Jt_init 40 = .ok (.invokespecial 29, 3) := by decide +kernel
theorem d_Jt_init_43 : decode b_Jt_init 43 = .ok (.putfield 30, 3) := by decide +kernel
theorem d_Jt_init_46 : decode b_Jt_init 46 = .ok (.return_, 1) := by decide +kernel
end
section
set_option maxHeartbeats 4000000 in
set_option maxRecDepth 100000 in
theorem c_Ac_init (l : Launch) (E : gk_E) (h0 : Nat) (sz : Nat) : gk_M l E y_Ac_init b_Ac_init 1 (none) 1 0 0 [.ref h0] [(h0, .inr (5, [.int 0, .null, .int 0]))] sz (fun r w => r = none ∧ w = [(h0, .inr (5, [.int 0, .null, .int 0]))]) := by
  refine gk_met (by decide) (Nat.le_of_ble_eq_true rfl) ?_
  intro p e s m below meth c A ls X hl hP hD hS
  have hx := X.1
  have hb := X.2.1
  have hown := X.2.2.2.1
  have hts := X.2.2.2.2.1
  have hZ := X.2.2.2.2.2.2.1
  have hr := X.2.2.2.2.2.2.2.2.1
  have hlocks : meth.locks = false := X.2.2.2.2.2.2.2.2.2.1
  have hl : lv_has ls 1 [(0, .ref h0)] := hl
  refine lv_aload_n hx hb d_Ac_init_0 rfl (lv_at hl 0 rfl) ?_
  refine gk_oi X k_160 k_123 k_124 hl.1 d_Ac_init_1 (Nat.le_of_ble_eq_true rfl) (Nat.le_of_ble_eq_true rfl) ?_
  have hP9 := hP.sub (ws' := [(h0, .inr (5, [.int 0, .null, .int 0]))]) [0] rfl
  have hD9 := hD.sub (ws' := [(h0, .inr (5, [.int 0, .null, .int 0]))]) [0] (by decide) rfl
  refine W.widen (k := 0) (n := 0) (Nat.le_of_ble_eq_true rfl) (Nat.le_of_ble_eq_true rfl) ?_
  exact W.vret hx hb hr (gk_q hP9 hD9 hS ⟨rfl, rfl⟩) hS.2.2 d_Ac_init_4

set_option maxHeartbeats 4000000 in
set_option maxRecDepth 100000 in
theorem c_Ab_init (l : Launch) (E : gk_E) (h0 : Nat) (sz : Nat) : gk_M l E y_Ab_init b_Ab_init 1 (none) 2 0 0 [.ref h0] [(h0, .inr (5, [.int 0, .null, .int 0]))] sz (fun r w => r = none ∧ w = [(h0, .inr (5, [.int 0, .null, .int 0]))]) := by
  refine gk_met (by decide) (Nat.le_of_ble_eq_true rfl) ?_
  intro p e s m below meth c A ls X hl hP hD hS
  have hx := X.1
  have hb := X.2.1
  have hown := X.2.2.2.1
  have hts := X.2.2.2.2.1
  have hZ := X.2.2.2.2.2.2.1
  have hr := X.2.2.2.2.2.2.2.2.1
  have hlocks : meth.locks = false := X.2.2.2.2.2.2.2.2.2.1
  have hl : lv_has ls 1 [(0, .ref h0)] := hl
  refine lv_aload_n hx hb d_Ab_init_0 rfl (lv_at hl 0 rfl) ?_
  refine gk_back (wr := []) (gk_runI (As := []) (rest := []) X (c_Ac_init l E h0 s.heap.size) ok_Ac_init (Or.inl k_157) k_158 rfl rfl hP hD hS [0] rfl rfl hl.1 rfl (Nat.le_of_ble_eq_true rfl) d_Ab_init_1 ⟨(Nat.le_of_ble_eq_true rfl), (Nat.le_of_ble_eq_true rfl)⟩ ⟨(Nat.le_of_ble_eq_true rfl), (Nat.le_of_ble_eq_true rfl)⟩) hP hD hS X.2.2.2.2.2.2.2.1 [0] [] rfl rfl rfl (by decide) (fun r w H locs hB hP hD hS => ?_)
  obtain ⟨rfl, rfl⟩ := hB
  have hP : va_P E.1 gk_cl [(h0, .inr (5, [.int 0, .null, .int 0]))] H := hP
  have hD : va_D A [(h0, .inr (5, [.int 0, .null, .int 0]))] := hD
  refine W.widen (k := 0) (n := 0) (by omega) (by omega) ?_
  refine lv_aload_n hx hb d_Ab_init_4 rfl (lv_at hl 0 rfl) ?_
  refine lv_iconst (v := 0) hx hb d_Ab_init_5 (by decide) ?_
  refine gk_put (b := h0) (ci := 5) (v := .int 0) (ty := t_Al 0) (ws' := [(h0, .inr (5, [.int 0, .null, .int 0]))]) X in_Al t_Al t_Al_ok n_Al hP hD hS 0 rfl rfl 0 (by decide) k_165 (Or.inl rfl) (t_Al_ok 0 (by decide)) rfl rfl (Nat.le_of_ble_eq_true rfl) d_Ab_init_6 rfl (fun H locs hP hD hS => ?_)
  have hP9 := hP.sub (ws' := [(h0, .inr (5, [.int 0, .null, .int 0]))]) [0] rfl
  have hD9 := hD.sub (ws' := [(h0, .inr (5, [.int 0, .null, .int 0]))]) [0] (by decide) rfl
  refine W.widen (k := 0) (n := 0) (Nat.le_of_ble_eq_true rfl) (Nat.le_of_ble_eq_true rfl) ?_
  exact W.vret hx hb hr (gk_q hP9 hD9 hS ⟨rfl, rfl⟩) hS.2.2 d_Ab_init_9

set_option maxHeartbeats 4000000 in
set_option maxRecDepth 100000 in
theorem c_Al_init (l : Launch) (E : gk_E) (h0 : Nat) (sz : Nat) : gk_M l E y_Al_init b_Al_init 1 (none) 3 0 0 [.ref h0] [(h0, .inr (5, [.int 0, .null, .int 0]))] sz (fun r w => r = none ∧ w = [(h0, .inr (5, [.int 0, .ref E.2.2, .int 0]))]) := by
  refine gk_met (by decide) (Nat.le_of_ble_eq_true rfl) ?_
  intro p e s m below meth c A ls X hl hP hD hS
  have hx := X.1
  have hb := X.2.1
  have hown := X.2.2.2.1
  have hts := X.2.2.2.2.1
  have hZ := X.2.2.2.2.2.2.1
  have hr := X.2.2.2.2.2.2.2.2.1
  have hlocks : meth.locks = false := X.2.2.2.2.2.2.2.2.2.1
  have hl : lv_has ls 1 [(0, .ref h0)] := hl
  refine lv_aload_n hx hb d_Al_init_0 rfl (lv_at hl 0 rfl) ?_
  refine gk_back (wr := []) (gk_runI (As := []) (rest := []) X (c_Ab_init l E h0 s.heap.size) ok_Ab_init (Or.inl k_154) k_155 rfl rfl hP hD hS [0] rfl rfl hl.1 rfl (Nat.le_of_ble_eq_true rfl) d_Al_init_1 ⟨(Nat.le_of_ble_eq_true rfl), (Nat.le_of_ble_eq_true rfl)⟩ ⟨(Nat.le_of_ble_eq_true rfl), (Nat.le_of_ble_eq_true rfl)⟩) hP hD hS X.2.2.2.2.2.2.2.1 [0] [] rfl rfl rfl (by decide) (fun r w H locs hB hP hD hS => ?_)
  obtain ⟨rfl, rfl⟩ := hB
  have hP : va_P E.1 gk_cl [(h0, .inr (5, [.int 0, .null, .int 0]))] H := hP
  have hD : va_D A [(h0, .inr (5, [.int 0, .null, .int 0]))] := hD
  refine W.widen (k := 0) (n := 0) (by omega) (by omega) ?_
  refine lv_aload_n hx hb d_Al_init_4 rfl (lv_at hl 0 rfl) ?_
  refine va_gets hx hb hZ.1 hS hown (hts _ k_161) (fun _ h => h) d_Al_init_5 ?_
  refine gk_put (b := h0) (ci := 5) (v := .ref E.2.2) (ty := t_Al 1) (ws' := [(h0, .inr (5, [.int 0, .ref E.2.2, .int 0]))]) X in_Al t_Al t_Al_ok n_Al hP hD hS 0 rfl rfl 1 (by decide) k_163 (Or.inl rfl) (t_Al_ok 1 (by decide)) rfl rfl (Nat.le_of_ble_eq_true rfl) d_Al_init_8 rfl (fun H locs hP hD hS => ?_)
  have hP9 := hP.sub (ws' := [(h0, .inr (5, [.int 0, .ref E.2.2, .int 0]))]) [0] rfl
  have hD9 := hD.sub (ws' := [(h0, .inr (5, [.int 0, .ref E.2.2, .int 0]))]) [0] (by decide) rfl
  refine W.widen (k := 0) (n := 0) (Nat.le_of_ble_eq_true rfl) (Nat.le_of_ble_eq_true rfl) ?_
  exact W.vret hx hb hr (gk_q hP9 hD9 hS ⟨rfl, rfl⟩) hS.2.2 d_Al_init_11

set_option maxHeartbeats 4000000 in
set_option maxRecDepth 100000 in
theorem c_As_init (l : Launch) (E : gk_E) (h0 : Nat) (sz : Nat) : gk_M l E y_As_init b_As_init 2 (none) 1 1 16 [.ref h0, .int 16] [(h0, .inr (6, [.null, .int 0, .int 0, .int 0]))] sz (fun r w => ∃ q1 : Nat, r = none ∧ w = [(h0, .inr (6, [.ref q1, .int 0, .int 0, .int 0]))]) := by
  refine gk_met (by decide) (Nat.le_of_ble_eq_true rfl) ?_
  intro p e s m below meth c A ls X hl hP hD hS
  have hx := X.1
  have hb := X.2.1
  have hown := X.2.2.2.1
  have hts := X.2.2.2.2.1
  have hZ := X.2.2.2.2.2.2.1
  have hr := X.2.2.2.2.2.2.2.2.1
  have hlocks : meth.locks = false := X.2.2.2.2.2.2.2.2.2.1
  have hl : lv_has ls 2 [(0, .ref h0), (1, .int 16)] := hl
  refine lv_aload_n hx hb d_As_init_0 rfl (lv_at hl 0 rfl) ?_
  refine gk_oi X k_195 k_123 k_124 hl.1 d_As_init_1 (Nat.le_of_ble_eq_true rfl) (Nat.le_of_ble_eq_true rfl) ?_
  refine va_gets hx hb hZ.2 hS hown (hts _ k_196) (fun _ h => h) d_As_init_4 ?_
  refine lv_if_eq (tgt := 25) hx hb d_As_init_7 (by decide) (fun c9 => absurd c9 (by decide)) (fun _ => ?_)
  refine lv_aload_n hx hb d_As_init_10 rfl (lv_at hl 0 rfl) ?_
  refine lv_iload_n hx hb d_As_init_11 rfl (lv_at hl 1 rfl) ?_
  refine gk_newa (atype := .byte) (N' := 16) (a0 := (16, .inl (fun _ => 0))) X k_147 (ty := .byte) rfl 1 rfl hP hD hS (fun _ => rfl) (by decide) (by decide) (by decide) (Nat.le_of_ble_eq_true rfl) (Nat.le_of_ble_eq_true rfl) d_As_init_12 (fun q1 H hP hD hS => ?_)
  have hP := hP.sub (ws' := [(h0, .inr (6, [.null, .int 0, .int 0, .int 0]))]) [0] rfl
  have hD := hD.sub (ws' := [(h0, .inr (6, [.null, .int 0, .int 0, .int 0]))]) [0] (by decide) rfl
  refine W.widen (k := 1) (n := 16) (by omega) (by omega) ?_
  refine gk_put (b := h0) (ci := 6) (v := .ref q1) (ty := t_Sb 0) (ws' := [(h0, .inr (6, [.ref q1, .int 0, .int 0, .int 0]))]) X in_Sb t_Sb t_Sb_ok n_Sb hP hD hS 0 rfl rfl 0 (by decide) k_205 (Or.inl rfl) (t_Sb_ok 0 (by decide)) rfl rfl (Nat.le_of_ble_eq_true rfl) d_As_init_14 rfl (fun H locs hP hD hS => ?_)
  refine lv_aload_n hx hb d_As_init_17 rfl (lv_at hl 0 rfl) ?_
  refine lv_iconst (v := 0) hx hb d_As_init_18 (by decide) ?_
  refine gk_put (b := h0) (ci := 6) (v := .int 0) (ty := t_Sb 1) (ws' := [(h0, .inr (6, [.ref q1, .int 0, .int 0, .int 0]))]) X in_Sb t_Sb t_Sb_ok n_Sb hP hD hS 0 rfl rfl 1 (by decide) k_206 (Or.inl rfl) (t_Sb_ok 1 (by decide)) rfl rfl (Nat.le_of_ble_eq_true rfl) d_As_init_19 rfl (fun H locs hP hD hS => ?_)
  refine lv_goto (tgt := 38) hx hb d_As_init_22 (by decide) ?_
  have hP9 := hP.sub (ws' := [(h0, .inr (6, [.ref q1, .int 0, .int 0, .int 0]))]) [0] rfl
  have hD9 := hD.sub (ws' := [(h0, .inr (6, [.ref q1, .int 0, .int 0, .int 0]))]) [0] (by decide) rfl
  refine W.widen (k := 1) (n := 16) (Nat.le_of_ble_eq_true rfl) (Nat.le_of_ble_eq_true rfl) ?_
  exact W.vret hx hb hr (gk_q hP9 hD9 hS ⟨q1, rfl, rfl⟩) hS.2.2 d_As_init_38

set_option maxHeartbeats 4000000 in
set_option maxRecDepth 100000 in
theorem c_Sb_init (l : Launch) (E : gk_E) (h0 : Nat) (sz : Nat) : gk_M l E y_Sb_init b_Sb_init 1 (none) 2 1 16 [.ref h0] [(h0, .inr (6, [.null, .int 0, .int 0, .int 0]))] sz (fun r w => ∃ q1 : Nat, r = none ∧ w = [(h0, .inr (6, [.ref q1, .int 0, .int 0, .int 0]))]) := by
  refine gk_met (by decide) (Nat.le_of_ble_eq_true rfl) ?_
  intro p e s m below meth c A ls X hl hP hD hS
  have hx := X.1
  have hb := X.2.1
  have hown := X.2.2.2.1
  have hts := X.2.2.2.2.1
  have hZ := X.2.2.2.2.2.2.1
  have hr := X.2.2.2.2.2.2.2.2.1
  have hlocks : meth.locks = false := X.2.2.2.2.2.2.2.2.2.1
  have hl : lv_has ls 1 [(0, .ref h0)] := hl
  refine lv_aload_n hx hb d_Sb_init_0 rfl (lv_at hl 0 rfl) ?_
  refine lv_bipush (v := 16) hx hb d_Sb_init_1 (by decide) ?_
  refine gk_back (wr := []) (gk_runI (As := [.int 16]) (rest := []) X (c_As_init l E h0 s.heap.size) ok_As_init (Or.inl k_192) k_193 rfl rfl hP hD hS [0] rfl rfl hl.1 rfl (Nat.le_of_ble_eq_true rfl) d_Sb_init_3 ⟨(Nat.le_of_ble_eq_true rfl), (Nat.le_of_ble_eq_true rfl)⟩ ⟨(Nat.le_of_ble_eq_true rfl), (Nat.le_of_ble_eq_true rfl)⟩) hP hD hS X.2.2.2.2.2.2.2.1 [0] [] rfl rfl rfl (by decide) (fun r w H locs hB hP hD hS => ?_)
  obtain ⟨q1, rfl, rfl⟩ := hB
  have hP : va_P E.1 gk_cl [(h0, .inr (6, [.ref q1, .int 0, .int 0, .int 0]))] H := hP
  have hD : va_D A [(h0, .inr (6, [.ref q1, .int 0, .int 0, .int 0]))] := hD
  refine W.widen (k := 1) (n := 16) (by omega) (by omega) ?_
  have hP9 := hP.sub (ws' := [(h0, .inr (6, [.ref q1, .int 0, .int 0, .int 0]))]) [0] rfl
  have hD9 := hD.sub (ws' := [(h0, .inr (6, [.ref q1, .int 0, .int 0, .int 0]))]) [0] (by decide) rfl
  refine W.widen (k := 1) (n := 16) (Nat.le_of_ble_eq_true rfl) (Nat.le_of_ble_eq_true rfl) ?_
  exact W.vret hx hb hr (gk_q hP9 hD9 hS ⟨q1, rfl, rfl⟩) hS.2.2 d_Sb_init_6

set_option maxHeartbeats 4000000 in
set_option maxRecDepth 100000 in
theorem c_Fa_init (l : Launch) (E : gk_E) (h0 : Nat) (sz : Nat) : gk_M l E y_Fa_init b_Fa_init 1 (none) 1 4 120 [.ref h0] [(h0, .inr (1, [.null, .null, .null, .null, .int 0]))] sz (fun r w => ∃ q1 : Nat, ∃ q2 : Nat, ∃ q3 : Nat, ∃ q4 : Nat, r = none ∧ w = [(h0, .inr (1, [.ref q1, .ref q2, .ref q3, .ref q4, .int 0]))]) := by
  refine gk_met (by decide) (Nat.le_of_ble_eq_true rfl) ?_
  intro p e s m below meth c A ls X hl hP hD hS
  have hx := X.1
  have hb := X.2.1
  have hown := X.2.2.2.1
  have hts := X.2.2.2.2.1
  have hZ := X.2.2.2.2.2.2.1
  have hr := X.2.2.2.2.2.2.2.2.1
  have hlocks : meth.locks = false := X.2.2.2.2.2.2.2.2.2.1
  have hl : lv_has ls 1 [(0, .ref h0)] := hl
  refine lv_aload_n hx hb d_Fa_init_0 rfl (lv_at hl 0 rfl) ?_
  refine gk_oi X k_130 k_123 k_124 hl.1 d_Fa_init_1 (Nat.le_of_ble_eq_true rfl) (Nat.le_of_ble_eq_true rfl) ?_
  refine lv_aload_n hx hb d_Fa_init_4 rfl (lv_at hl 0 rfl) ?_
  refine lv_bipush (v := 30) hx hb d_Fa_init_5 (by decide) ?_
  refine gk_newa (atype := .int) (N' := 30) (a0 := (30, .inl (fun _ => 0))) X k_148 (ty := .int) rfl 0 rfl hP hD hS (fun _ => rfl) (by decide) (by decide) (by decide) (Nat.le_of_ble_eq_true rfl) (Nat.le_of_ble_eq_true rfl) d_Fa_init_7 (fun q1 H hP hD hS => ?_)
  have hP := hP.sub (ws' := [(h0, .inr (1, [.null, .null, .null, .null, .int 0]))]) [0] rfl
  have hD := hD.sub (ws' := [(h0, .inr (1, [.null, .null, .null, .null, .int 0]))]) [0] (by decide) rfl
  refine W.widen (k := 1) (n := 30) (by omega) (by omega) ?_
  refine gk_put (b := h0) (ci := 1) (v := .ref q1) (ty := t_Fa 0) (ws' := [(h0, .inr (1, [.ref q1, .null, .null, .null, .int 0]))]) X in_Fa t_Fa t_Fa_ok n_Fa hP hD hS 0 rfl rfl 0 (by decide) k_131 (Or.inr ⟨rfl, rfl, rfl⟩) (t_Fa_ok 0 (by decide)) rfl rfl (Nat.le_of_ble_eq_true rfl) d_Fa_init_9 rfl (fun H locs hP hD hS => ?_)
  refine lv_aload_n hx hb d_Fa_init_12 rfl (lv_at hl 0 rfl) ?_
  refine lv_bipush (v := 30) hx hb d_Fa_init_13 (by decide) ?_
  refine gk_newa (atype := .int) (N' := 30) (a0 := (30, .inl (fun _ => 0))) X k_148 (ty := .int) rfl 0 rfl hP hD hS (fun _ => rfl) (by decide) (by decide) (by decide) (Nat.le_of_ble_eq_true rfl) (Nat.le_of_ble_eq_true rfl) d_Fa_init_15 (fun q2 H hP hD hS => ?_)
  have hP := hP.sub (ws' := [(h0, .inr (1, [.ref q1, .null, .null, .null, .int 0]))]) [0] rfl
  have hD := hD.sub (ws' := [(h0, .inr (1, [.ref q1, .null, .null, .null, .int 0]))]) [0] (by decide) rfl
  refine W.widen (k := 2) (n := 60) (by omega) (by omega) ?_
  refine gk_put (b := h0) (ci := 1) (v := .ref q2) (ty := t_Fa 1) (ws' := [(h0, .inr (1, [.ref q1, .ref q2, .null, .null, .int 0]))]) X in_Fa t_Fa t_Fa_ok n_Fa hP hD hS 0 rfl rfl 1 (by decide) k_132 (Or.inr ⟨rfl, rfl, rfl⟩) (t_Fa_ok 1 (by decide)) rfl rfl (Nat.le_of_ble_eq_true rfl) d_Fa_init_17 rfl (fun H locs hP hD hS => ?_)
  refine lv_aload_n hx hb d_Fa_init_20 rfl (lv_at hl 0 rfl) ?_
  refine lv_bipush (v := 30) hx hb d_Fa_init_21 (by decide) ?_
  refine gk_newa (atype := .int) (N' := 30) (a0 := (30, .inl (fun _ => 0))) X k_148 (ty := .int) rfl 0 rfl hP hD hS (fun _ => rfl) (by decide) (by decide) (by decide) (Nat.le_of_ble_eq_true rfl) (Nat.le_of_ble_eq_true rfl) d_Fa_init_23 (fun q3 H hP hD hS => ?_)
  have hP := hP.sub (ws' := [(h0, .inr (1, [.ref q1, .ref q2, .null, .null, .int 0]))]) [0] rfl
  have hD := hD.sub (ws' := [(h0, .inr (1, [.ref q1, .ref q2, .null, .null, .int 0]))]) [0] (by decide) rfl
  refine W.widen (k := 3) (n := 90) (by omega) (by omega) ?_
  refine gk_put (b := h0) (ci := 1) (v := .ref q3) (ty := t_Fa 2) (ws' := [(h0, .inr (1, [.ref q1, .ref q2, .ref q3, .null, .int 0]))]) X in_Fa t_Fa t_Fa_ok n_Fa hP hD hS 0 rfl rfl 2 (by decide) k_133 (Or.inr ⟨rfl, rfl, rfl⟩) (t_Fa_ok 2 (by decide)) rfl rfl (Nat.le_of_ble_eq_true rfl) d_Fa_init_25 rfl (fun H locs hP hD hS => ?_)
  refine lv_aload_n hx hb d_Fa_init_28 rfl (lv_at hl 0 rfl) ?_
  refine lv_bipush (v := 30) hx hb d_Fa_init_29 (by decide) ?_
  refine gk_newa (atype := .int) (N' := 30) (a0 := (30, .inl (fun _ => 0))) X k_148 (ty := .int) rfl 0 rfl hP hD hS (fun _ => rfl) (by decide) (by decide) (by decide) (Nat.le_of_ble_eq_true rfl) (Nat.le_of_ble_eq_true rfl) d_Fa_init_31 (fun q4 H hP hD hS => ?_)
  have hP := hP.sub (ws' := [(h0, .inr (1, [.ref q1, .ref q2, .ref q3, .null, .int 0]))]) [0] rfl
  have hD := hD.sub (ws' := [(h0, .inr (1, [.ref q1, .ref q2, .ref q3, .null, .int 0]))]) [0] (by decide) rfl
  refine W.widen (k := 4) (n := 120) (by omega) (by omega) ?_
  refine gk_put (b := h0) (ci := 1) (v := .ref q4) (ty := t_Fa 3) (ws' := [(h0, .inr (1, [.ref q1, .ref q2, .ref q3, .ref q4, .int 0]))]) X in_Fa t_Fa t_Fa_ok n_Fa hP hD hS 0 rfl rfl 3 (by decide) k_134 (Or.inr ⟨rfl, rfl, rfl⟩) (t_Fa_ok 3 (by decide)) rfl rfl (Nat.le_of_ble_eq_true rfl) d_Fa_init_33 rfl (fun H locs hP hD hS => ?_)
  have hP9 := hP.sub (ws' := [(h0, .inr (1, [.ref q1, .ref q2, .ref q3, .ref q4, .int 0]))]) [0] rfl
  have hD9 := hD.sub (ws' := [(h0, .inr (1, [.ref q1, .ref q2, .ref q3, .ref q4, .int 0]))]) [0] (by decide) rfl
  refine W.widen (k := 4) (n := 120) (Nat.le_of_ble_eq_true rfl) (Nat.le_of_ble_eq_true rfl) ?_
  exact W.vret hx hb hr (gk_q hP9 hD9 hS ⟨q1, q2, q3, q4, rfl, rfl⟩) hS.2.2 d_Fa_init_36

set_option maxHeartbeats 4000000 in
set_option maxRecDepth 100000 in
theorem c_Ro_init (l : Launch) (E : gk_E) (h0 : Nat) (sz : Nat) : gk_M l E y_Ro_init b_Ro_init 1 (none) 1 3 256 [.ref h0] [(h0, .inr (4, [.null, .null, .null, .int 0]))] sz (fun r w => ∃ q1 : Nat, ∃ q2 : Nat, ∃ q3 : Nat, r = none ∧ w = [(h0, .inr (4, [.ref q1, .ref q2, .ref q3, .int 0]))]) := by
  refine gk_met (by decide) (Nat.le_of_ble_eq_true rfl) ?_
  intro p e s m below meth c A ls X hl hP hD hS
  have hx := X.1
  have hb := X.2.1
  have hown := X.2.2.2.1
  have hts := X.2.2.2.2.1
  have hZ := X.2.2.2.2.2.2.1
  have hr := X.2.2.2.2.2.2.2.2.1
  have hlocks : meth.locks = false := X.2.2.2.2.2.2.2.2.2.1
  have hl : lv_has ls 1 [(0, .ref h0)] := hl
  refine lv_aload_n hx hb d_Ro_init_0 rfl (lv_at hl 0 rfl) ?_
  refine gk_oi X k_248 k_123 k_124 hl.1 d_Ro_init_1 (Nat.le_of_ble_eq_true rfl) (Nat.le_of_ble_eq_true rfl) ?_
  refine lv_aload_n hx hb d_Ro_init_4 rfl (lv_at hl 0 rfl) ?_
  refine lv_bipush (v := 8) hx hb d_Ro_init_5 (by decide) ?_
  refine gk_newa (atype := .long) (N' := 8) (a0 := (8, .inr (.inl (fun _ => 0)))) X k_262 (ty := .long) rfl 2 rfl hP hD hS (fun _ => rfl) (by decide) (by decide) (by decide) (Nat.le_of_ble_eq_true rfl) (Nat.le_of_ble_eq_true rfl) d_Ro_init_7 (fun q1 H hP hD hS => ?_)
  have hP := hP.sub (ws' := [(h0, .inr (4, [.null, .null, .null, .int 0]))]) [0] rfl
  have hD := hD.sub (ws' := [(h0, .inr (4, [.null, .null, .null, .int 0]))]) [0] (by decide) rfl
  refine W.widen (k := 1) (n := 8) (by omega) (by omega) ?_
  refine gk_put (b := h0) (ci := 4) (v := .ref q1) (ty := t_Ro 0) (ws' := [(h0, .inr (4, [.ref q1, .null, .null, .int 0]))]) X in_Ro t_Ro t_Ro_ok n_Ro hP hD hS 0 rfl rfl 0 (by decide) k_249 (Or.inl rfl) (t_Ro_ok 0 (by decide)) rfl rfl (Nat.le_of_ble_eq_true rfl) d_Ro_init_9 rfl (fun H locs hP hD hS => ?_)
  refine lv_aload_n hx hb d_Ro_init_12 rfl (lv_at hl 0 rfl) ?_
  refine lv_bipush (v := 8) hx hb d_Ro_init_13 (by decide) ?_
  refine gk_newa (atype := .int) (N' := 8) (a0 := (8, .inl (fun _ => 0))) X k_148 (ty := .int) rfl 0 rfl hP hD hS (fun _ => rfl) (by decide) (by decide) (by decide) (Nat.le_of_ble_eq_true rfl) (Nat.le_of_ble_eq_true rfl) d_Ro_init_15 (fun q2 H hP hD hS => ?_)
  have hP := hP.sub (ws' := [(h0, .inr (4, [.ref q1, .null, .null, .int 0]))]) [0] rfl
  have hD := hD.sub (ws' := [(h0, .inr (4, [.ref q1, .null, .null, .int 0]))]) [0] (by decide) rfl
  refine W.widen (k := 2) (n := 16) (by omega) (by omega) ?_
  refine gk_put (b := h0) (ci := 4) (v := .ref q2) (ty := t_Ro 1) (ws' := [(h0, .inr (4, [.ref q1, .ref q2, .null, .int 0]))]) X in_Ro t_Ro t_Ro_ok n_Ro hP hD hS 0 rfl rfl 1 (by decide) k_250 (Or.inl rfl) (t_Ro_ok 1 (by decide)) rfl rfl (Nat.le_of_ble_eq_true rfl) d_Ro_init_17 rfl (fun H locs hP hD hS => ?_)
  refine lv_aload_n hx hb d_Ro_init_20 rfl (lv_at hl 0 rfl) ?_
  refine lv_sipush (v := 240) hx hb d_Ro_init_21 (by decide) ?_
  refine gk_newa (atype := .byte) (N' := 240) (a0 := (240, .inl (fun _ => 0))) X k_147 (ty := .byte) rfl 1 rfl hP hD hS (fun _ => rfl) (by decide) (by decide) (by decide) (Nat.le_of_ble_eq_true rfl) (Nat.le_of_ble_eq_true rfl) d_Ro_init_24 (fun q3 H hP hD hS => ?_)
  have hP := hP.sub (ws' := [(h0, .inr (4, [.ref q1, .ref q2, .null, .int 0]))]) [0] rfl
  have hD := hD.sub (ws' := [(h0, .inr (4, [.ref q1, .ref q2, .null, .int 0]))]) [0] (by decide) rfl
  refine W.widen (k := 3) (n := 256) (by omega) (by omega) ?_
  refine gk_put (b := h0) (ci := 4) (v := .ref q3) (ty := t_Ro 2) (ws' := [(h0, .inr (4, [.ref q1, .ref q2, .ref q3, .int 0]))]) X in_Ro t_Ro t_Ro_ok n_Ro hP hD hS 0 rfl rfl 2 (by decide) k_251 (Or.inl rfl) (t_Ro_ok 2 (by decide)) rfl rfl (Nat.le_of_ble_eq_true rfl) d_Ro_init_26 rfl (fun H locs hP hD hS => ?_)
  have hP9 := hP.sub (ws' := [(h0, .inr (4, [.ref q1, .ref q2, .ref q3, .int 0]))]) [0] rfl
  have hD9 := hD.sub (ws' := [(h0, .inr (4, [.ref q1, .ref q2, .ref q3, .int 0]))]) [0] (by decide) rfl
  refine W.widen (k := 3) (n := 256) (Nat.le_of_ble_eq_true rfl) (Nat.le_of_ble_eq_true rfl) ?_
  exact W.vret hx hb hr (gk_q hP9 hD9 hS ⟨q1, q2, q3, rfl, rfl⟩) hS.2.2 d_Ro_init_29

set_option maxHeartbeats 4000000 in
set_option maxRecDepth 100000 in
theorem c_Li_init (l : Launch) (E : gk_E) (h0 : Nat) (sz : Nat) : gk_M l E y_Li_init b_Li_init 1 (none) 3 8 620 [.ref h0] [(h0, .inr (3, [.null, .null, .null, .null, .null, .null, .null, .int 0]))] sz (fun r w => ∃ q1 : Nat, ∃ q2 : Nat, ∃ q3 : Nat, ∃ q4 : Nat, ∃ q5 : Nat, ∃ q6 : Nat, ∃ q7 : Nat, r = none ∧ w = [(h0, .inr (3, [.ref q1, .ref q2, .ref q3, .ref q4, .ref q5, .ref q6, .ref q7, .int 0]))]) := by
  refine gk_met (by decide) (Nat.le_of_ble_eq_true rfl) ?_
  intro p e s m below meth c A ls X hl hP hD hS
  have hx := X.1
  have hb := X.2.1
  have hown := X.2.2.2.1
  have hts := X.2.2.2.2.1
  have hZ := X.2.2.2.2.2.2.1
  have hr := X.2.2.2.2.2.2.2.2.1
  have hlocks : meth.locks = false := X.2.2.2.2.2.2.2.2.2.1
  have hl : lv_has ls 1 [(0, .ref h0)] := hl
  refine lv_aload_n hx hb d_Li_init_0 rfl (lv_at hl 0 rfl) ?_
  refine gk_oi X k_186 k_123 k_124 hl.1 d_Li_init_1 (Nat.le_of_ble_eq_true rfl) (Nat.le_of_ble_eq_true rfl) ?_
  refine lv_aload_n hx hb d_Li_init_4 rfl (lv_at hl 0 rfl) ?_
  refine lv_bipush (v := 100) hx hb d_Li_init_5 (by decide) ?_
  refine gk_newa (atype := .int) (N' := 100) (a0 := (100, .inl (fun _ => 0))) X k_148 (ty := .int) rfl 0 rfl hP hD hS (fun _ => rfl) (by decide) (by decide) (by decide) (Nat.le_of_ble_eq_true rfl) (Nat.le_of_ble_eq_true rfl) d_Li_init_7 (fun q1 H hP hD hS => ?_)
  have hP := hP.sub (ws' := [(h0, .inr (3, [.null, .null, .null, .null, .null, .null, .null, .int 0]))]) [0] rfl
  have hD := hD.sub (ws' := [(h0, .inr (3, [.null, .null, .null, .null, .null, .null, .null, .int 0]))]) [0] (by decide) rfl
  refine W.widen (k := 1) (n := 100) (by omega) (by omega) ?_
  refine gk_put (b := h0) (ci := 3) (v := .ref q1) (ty := t_Li 0) (ws' := [(h0, .inr (3, [.ref q1, .null, .null, .null, .null, .null, .null, .int 0]))]) X in_Li t_Li t_Li_ok n_Li hP hD hS 0 rfl rfl 0 (by decide) k_218 (Or.inr ⟨rfl, rfl, rfl⟩) (t_Li_ok 0 (by decide)) rfl rfl (Nat.le_of_ble_eq_true rfl) d_Li_init_9 rfl (fun H locs hP hD hS => ?_)
  refine lv_aload_n hx hb d_Li_init_12 rfl (lv_at hl 0 rfl) ?_
  refine lv_bipush (v := 100) hx hb d_Li_init_13 (by decide) ?_
  refine gk_newa (atype := .int) (N' := 100) (a0 := (100, .inl (fun _ => 0))) X k_148 (ty := .int) rfl 0 rfl hP hD hS (fun _ => rfl) (by decide) (by decide) (by decide) (Nat.le_of_ble_eq_true rfl) (Nat.le_of_ble_eq_true rfl) d_Li_init_15 (fun q2 H hP hD hS => ?_)
  have hP := hP.sub (ws' := [(h0, .inr (3, [.ref q1, .null, .null, .null, .null, .null, .null, .int 0]))]) [0] rfl
  have hD := hD.sub (ws' := [(h0, .inr (3, [.ref q1, .null, .null, .null, .null, .null, .null, .int 0]))]) [0] (by decide) rfl
  refine W.widen (k := 2) (n := 200) (by omega) (by omega) ?_
  refine gk_put (b := h0) (ci := 3) (v := .ref q2) (ty := t_Li 1) (ws' := [(h0, .inr (3, [.ref q1, .ref q2, .null, .null, .null, .null, .null, .int 0]))]) X in_Li t_Li t_Li_ok n_Li hP hD hS 0 rfl rfl 1 (by decide) k_219 (Or.inr ⟨rfl, rfl, rfl⟩) (t_Li_ok 1 (by decide)) rfl rfl (Nat.le_of_ble_eq_true rfl) d_Li_init_17 rfl (fun H locs hP hD hS => ?_)
  refine lv_aload_n hx hb d_Li_init_20 rfl (lv_at hl 0 rfl) ?_
  refine lv_bipush (v := 100) hx hb d_Li_init_21 (by decide) ?_
  refine gk_newa (atype := .int) (N' := 100) (a0 := (100, .inl (fun _ => 0))) X k_148 (ty := .int) rfl 0 rfl hP hD hS (fun _ => rfl) (by decide) (by decide) (by decide) (Nat.le_of_ble_eq_true rfl) (Nat.le_of_ble_eq_true rfl) d_Li_init_23 (fun q3 H hP hD hS => ?_)
  have hP := hP.sub (ws' := [(h0, .inr (3, [.ref q1, .ref q2, .null, .null, .null, .null, .null, .int 0]))]) [0] rfl
  have hD := hD.sub (ws' := [(h0, .inr (3, [.ref q1, .ref q2, .null, .null, .null, .null, .null, .int 0]))]) [0] (by decide) rfl
  refine W.widen (k := 3) (n := 300) (by omega) (by omega) ?_
  refine gk_put (b := h0) (ci := 3) (v := .ref q3) (ty := t_Li 2) (ws' := [(h0, .inr (3, [.ref q1, .ref q2, .ref q3, .null, .null, .null, .null, .int 0]))]) X in_Li t_Li t_Li_ok n_Li hP hD hS 0 rfl rfl 2 (by decide) k_220 (Or.inr ⟨rfl, rfl, rfl⟩) (t_Li_ok 2 (by decide)) rfl rfl (Nat.le_of_ble_eq_true rfl) d_Li_init_25 rfl (fun H locs hP hD hS => ?_)
  refine lv_aload_n hx hb d_Li_init_28 rfl (lv_at hl 0 rfl) ?_
  refine lv_bipush (v := 100) hx hb d_Li_init_29 (by decide) ?_
  refine gk_newa (atype := .int) (N' := 100) (a0 := (100, .inl (fun _ => 0))) X k_148 (ty := .int) rfl 0 rfl hP hD hS (fun _ => rfl) (by decide) (by decide) (by decide) (Nat.le_of_ble_eq_true rfl) (Nat.le_of_ble_eq_true rfl) d_Li_init_31 (fun q4 H hP hD hS => ?_)
  have hP := hP.sub (ws' := [(h0, .inr (3, [.ref q1, .ref q2, .ref q3, .null, .null, .null, .null, .int 0]))]) [0] rfl
  have hD := hD.sub (ws' := [(h0, .inr (3, [.ref q1, .ref q2, .ref q3, .null, .null, .null, .null, .int 0]))]) [0] (by decide) rfl
  refine W.widen (k := 4) (n := 400) (by omega) (by omega) ?_
  refine gk_put (b := h0) (ci := 3) (v := .ref q4) (ty := t_Li 3) (ws' := [(h0, .inr (3, [.ref q1, .ref q2, .ref q3, .ref q4, .null, .null, .null, .int 0]))]) X in_Li t_Li t_Li_ok n_Li hP hD hS 0 rfl rfl 3 (by decide) k_221 (Or.inr ⟨rfl, rfl, rfl⟩) (t_Li_ok 3 (by decide)) rfl rfl (Nat.le_of_ble_eq_true rfl) d_Li_init_33 rfl (fun H locs hP hD hS => ?_)
  refine lv_aload_n hx hb d_Li_init_36 rfl (lv_at hl 0 rfl) ?_
  refine lv_bipush (v := 100) hx hb d_Li_init_37 (by decide) ?_
  refine gk_newa (atype := .int) (N' := 100) (a0 := (100, .inl (fun _ => 0))) X k_148 (ty := .int) rfl 0 rfl hP hD hS (fun _ => rfl) (by decide) (by decide) (by decide) (Nat.le_of_ble_eq_true rfl) (Nat.le_of_ble_eq_true rfl) d_Li_init_39 (fun q5 H hP hD hS => ?_)
  have hP := hP.sub (ws' := [(h0, .inr (3, [.ref q1, .ref q2, .ref q3, .ref q4, .null, .null, .null, .int 0]))]) [0] rfl
  have hD := hD.sub (ws' := [(h0, .inr (3, [.ref q1, .ref q2, .ref q3, .ref q4, .null, .null, .null, .int 0]))]) [0] (by decide) rfl
  refine W.widen (k := 5) (n := 500) (by omega) (by omega) ?_
  refine gk_put (b := h0) (ci := 3) (v := .ref q5) (ty := t_Li 4) (ws' := [(h0, .inr (3, [.ref q1, .ref q2, .ref q3, .ref q4, .ref q5, .null, .null, .int 0]))]) X in_Li t_Li t_Li_ok n_Li hP hD hS 0 rfl rfl 4 (by decide) k_222 (Or.inr ⟨rfl, rfl, rfl⟩) (t_Li_ok 4 (by decide)) rfl rfl (Nat.le_of_ble_eq_true rfl) d_Li_init_41 rfl (fun H locs hP hD hS => ?_)
  refine lv_aload_n hx hb d_Li_init_44 rfl (lv_at hl 0 rfl) ?_
  refine lv_bipush (v := 100) hx hb d_Li_init_45 (by decide) ?_
  refine gk_newa (atype := .int) (N' := 100) (a0 := (100, .inl (fun _ => 0))) X k_148 (ty := .int) rfl 0 rfl hP hD hS (fun _ => rfl) (by decide) (by decide) (by decide) (Nat.le_of_ble_eq_true rfl) (Nat.le_of_ble_eq_true rfl) d_Li_init_47 (fun q6 H hP hD hS => ?_)
  have hP := hP.sub (ws' := [(h0, .inr (3, [.ref q1, .ref q2, .ref q3, .ref q4, .ref q5, .null, .null, .int 0]))]) [0] rfl
  have hD := hD.sub (ws' := [(h0, .inr (3, [.ref q1, .ref q2, .ref q3, .ref q4, .ref q5, .null, .null, .int 0]))]) [0] (by decide) rfl
  refine W.widen (k := 6) (n := 600) (by omega) (by omega) ?_
  refine gk_put (b := h0) (ci := 3) (v := .ref q6) (ty := t_Li 5) (ws' := [(h0, .inr (3, [.ref q1, .ref q2, .ref q3, .ref q4, .ref q5, .ref q6, .null, .int 0]))]) X in_Li t_Li t_Li_ok n_Li hP hD hS 0 rfl rfl 5 (by decide) k_223 (Or.inr ⟨rfl, rfl, rfl⟩) (t_Li_ok 5 (by decide)) rfl rfl (Nat.le_of_ble_eq_true rfl) d_Li_init_49 rfl (fun H locs hP hD hS => ?_)
  refine lv_aload_n hx hb d_Li_init_52 rfl (lv_at hl 0 rfl) ?_
  refine gk_new (ci := 6) (fs := df_Sb) X in_Sb t_Sb t_Sb_ok k_187 k_188 k_98 hP hD hS rfl df_Sb_ok (Nat.le_of_ble_eq_true rfl) (Nat.le_of_ble_eq_true rfl) d_Li_init_53 (fun q7 H hP hD hS => ?_)
  have hP : va_P E.1 gk_cl [(h0, .inr (3, [.ref q1, .ref q2, .ref q3, .ref q4, .ref q5, .ref q6, .null, .int 0])), (q7, .inr (6, [.null, .int 0, .int 0, .int 0]))] H := hP
  have hD : va_D A [(h0, .inr (3, [.ref q1, .ref q2, .ref q3, .ref q4, .ref q5, .ref q6, .null, .int 0])), (q7, .inr (6, [.null, .int 0, .int 0, .int 0]))] := hD
  refine W.widen (k := 7) (n := 604) (by omega) (by omega) ?_
  refine lv_dup hx hb d_Li_init_56 rfl ?_
  refine gk_back (wr := [(h0, .inr (3, [.ref q1, .ref q2, .ref q3, .ref q4, .ref q5, .ref q6, .null, .int 0]))]) (gk_runI (As := []) (rest := [.ref q7, .ref h0]) X (c_Sb_init l E q7 H.size) ok_Sb_init (Or.inl k_189) k_190 rfl rfl hP hD hS [1] rfl rfl hl.1 rfl (Nat.le_of_ble_eq_true rfl) d_Li_init_57 ⟨(Nat.le_of_ble_eq_true rfl), (Nat.le_of_ble_eq_true rfl)⟩ ⟨(Nat.le_of_ble_eq_true rfl), (Nat.le_of_ble_eq_true rfl)⟩) hP hD hS X.2.2.2.2.2.2.2.1 [1] [0] rfl rfl rfl (by decide) (fun r w H locs hB hP hD hS => ?_)
  obtain ⟨q8, rfl, rfl⟩ := hB
  have hP : va_P E.1 gk_cl [(h0, .inr (3, [.ref q1, .ref q2, .ref q3, .ref q4, .ref q5, .ref q6, .null, .int 0])), (q7, .inr (6, [.ref q8, .int 0, .int 0, .int 0]))] H := hP
  have hD : va_D A [(h0, .inr (3, [.ref q1, .ref q2, .ref q3, .ref q4, .ref q5, .ref q6, .null, .int 0])), (q7, .inr (6, [.ref q8, .int 0, .int 0, .int 0]))] := hD
  refine W.widen (k := 8) (n := 620) (by omega) (by omega) ?_
  refine gk_put (b := h0) (ci := 3) (v := .ref q7) (ty := t_Li 6) (ws' := [(h0, .inr (3, [.ref q1, .ref q2, .ref q3, .ref q4, .ref q5, .ref q6, .ref q7, .int 0])), (q7, .inr (6, [.ref q8, .int 0, .int 0, .int 0]))]) X in_Li t_Li t_Li_ok n_Li hP hD hS 0 rfl rfl 6 (by decide) k_224 (Or.inr ⟨rfl, rfl, rfl⟩) (t_Li_ok 6 (by decide)) rfl rfl (Nat.le_of_ble_eq_true rfl) d_Li_init_60 rfl (fun H locs hP hD hS => ?_)
  have hP9 := hP.sub (ws' := [(h0, .inr (3, [.ref q1, .ref q2, .ref q3, .ref q4, .ref q5, .ref q6, .ref q7, .int 0]))]) [0] rfl
  have hD9 := hD.sub (ws' := [(h0, .inr (3, [.ref q1, .ref q2, .ref q3, .ref q4, .ref q5, .ref q6, .ref q7, .int 0]))]) [0] (by decide) rfl
  refine W.widen (k := 8) (n := 620) (Nat.le_of_ble_eq_true rfl) (Nat.le_of_ble_eq_true rfl) ?_
  exact W.vret hx hb hr (gk_q hP9 hD9 hS ⟨q1, q2, q3, q4, q5, q6, q7, rfl, rfl⟩) hS.2.2 d_Li_init_63

set_option maxHeartbeats 4000000 in
set_option maxRecDepth 100000 in
theorem c_Ex_init (l : Launch) (E : gk_E) (h0 : Nat) (sz : Nat) : gk_M l E y_Ex_init b_Ex_init 1 (none) 4 21 1160 [.ref h0] [(h0, .inr (2, [.null, .null, .null, .null, .null, .null, .null, .int 0, .int 0, .long 0, .int 0, .int 0]))] sz (fun r w => ∃ q1 : Nat, ∃ q9 : Nat, ∃ q13 : Nat, ∃ q17 : Nat, ∃ q18 : Nat, ∃ q19 : Nat, ∃ q20 : Nat, ∃ q2 : Nat, ∃ q3 : Nat, ∃ q4 : Nat, ∃ q5 : Nat, ∃ q6 : Nat, ∃ q7 : Nat, ∃ q8 : Nat, r = none ∧ w = [(h0, .inr (2, [.ref q1, .ref q9, .ref q13, .ref q17, .ref q18, .ref q19, .ref q20, .int 0, .int 0, .long 0, .int 0, .int 0])), (q1, .inr (3, [.ref q2, .ref q3, .ref q4, .ref q5, .ref q6, .ref q7, .ref q8, .int 0]))]) := by
  refine gk_met (by decide) (Nat.le_of_ble_eq_true rfl) ?_
  intro p e s m below meth c A ls X hl hP hD hS
  have hx := X.1
  have hb := X.2.1
  have hown := X.2.2.2.1
  have hts := X.2.2.2.2.1
  have hZ := X.2.2.2.2.2.2.1
  have hr := X.2.2.2.2.2.2.2.2.1
  have hlocks : meth.locks = false := X.2.2.2.2.2.2.2.2.2.1
  have hl : lv_has ls 1 [(0, .ref h0)] := hl
  refine lv_aload_n hx hb d_Ex_init_0 rfl (lv_at hl 0 rfl) ?_
  refine gk_oi X k_180 k_123 k_124 hl.1 d_Ex_init_1 (Nat.le_of_ble_eq_true rfl) (Nat.le_of_ble_eq_true rfl) ?_
  refine lv_aload_n hx hb d_Ex_init_4 rfl (lv_at hl 0 rfl) ?_
  refine gk_new (ci := 3) (fs := df_Li) X in_Li t_Li t_Li_ok k_181 k_182 k_96 hP hD hS rfl df_Li_ok (Nat.le_of_ble_eq_true rfl) (Nat.le_of_ble_eq_true rfl) d_Ex_init_5 (fun q1 H hP hD hS => ?_)
  have hP : va_P E.1 gk_cl [(h0, .inr (2, [.null, .null, .null, .null, .null, .null, .null, .int 0, .int 0, .long 0, .int 0, .int 0])), (q1, .inr (3, [.null, .null, .null, .null, .null, .null, .null, .int 0]))] H := hP
  have hD : va_D A [(h0, .inr (2, [.null, .null, .null, .null, .null, .null, .null, .int 0, .int 0, .long 0, .int 0, .int 0])), (q1, .inr (3, [.null, .null, .null, .null, .null, .null, .null, .int 0]))] := hD
  refine W.widen (k := 1) (n := 8) (by omega) (by omega) ?_
  refine lv_dup hx hb d_Ex_init_8 rfl ?_
  refine gk_back (wr := [(h0, .inr (2, [.null, .null, .null, .null, .null, .null, .null, .int 0, .int 0, .long 0, .int 0, .int 0]))]) (gk_runI (As := []) (rest := [.ref q1, .ref h0]) X (c_Li_init l E q1 H.size) ok_Li_init (Or.inr nk_2) k_184 rfl rfl hP hD hS [1] rfl rfl hl.1 rfl (Nat.le_of_ble_eq_true rfl) d_Ex_init_9 ⟨(Nat.le_of_ble_eq_true rfl), (Nat.le_of_ble_eq_true rfl)⟩ ⟨(Nat.le_of_ble_eq_true rfl), (Nat.le_of_ble_eq_true rfl)⟩) hP hD hS X.2.2.2.2.2.2.2.1 [1] [0] rfl rfl rfl (by decide) (fun r w H locs hB hP hD hS => ?_)
  obtain ⟨q2, q3, q4, q5, q6, q7, q8, rfl, rfl⟩ := hB
  have hP : va_P E.1 gk_cl [(h0, .inr (2, [.null, .null, .null, .null, .null, .null, .null, .int 0, .int 0, .long 0, .int 0, .int 0])), (q1, .inr (3, [.ref q2, .ref q3, .ref q4, .ref q5, .ref q6, .ref q7, .ref q8, .int 0]))] H := hP
  have hD : va_D A [(h0, .inr (2, [.null, .null, .null, .null, .null, .null, .null, .int 0, .int 0, .long 0, .int 0, .int 0])), (q1, .inr (3, [.ref q2, .ref q3, .ref q4, .ref q5, .ref q6, .ref q7, .ref q8, .int 0]))] := hD
  refine W.widen (k := 9) (n := 628) (by omega) (by omega) ?_
  refine gk_put (b := h0) (ci := 2) (v := .ref q1) (ty := t_Ex 0) (ws' := [(h0, .inr (2, [.ref q1, .null, .null, .null, .null, .null, .null, .int 0, .int 0, .long 0, .int 0, .int 0])), (q1, .inr (3, [.ref q2, .ref q3, .ref q4, .ref q5, .ref q6, .ref q7, .ref q8, .int 0]))]) X in_Ex t_Ex t_Ex_ok n_Ex hP hD hS 0 rfl rfl 0 (by decide) k_265 (Or.inr ⟨rfl, rfl, rfl⟩) (t_Ex_ok 0 (by decide)) rfl rfl (Nat.le_of_ble_eq_true rfl) d_Ex_init_12 rfl (fun H locs hP hD hS => ?_)
  refine lv_aload_n hx hb d_Ex_init_15 rfl (lv_at hl 0 rfl) ?_
  refine gk_new (ci := 4) (fs := df_Ro) X in_Ro t_Ro t_Ro_ok k_243 k_244 k_101 hP hD hS rfl df_Ro_ok (Nat.le_of_ble_eq_true rfl) (Nat.le_of_ble_eq_true rfl) d_Ex_init_16 (fun q9 H hP hD hS => ?_)
  have hP : va_P E.1 gk_cl [(h0, .inr (2, [.ref q1, .null, .null, .null, .null, .null, .null, .int 0, .int 0, .long 0, .int 0, .int 0])), (q1, .inr (3, [.ref q2, .ref q3, .ref q4, .ref q5, .ref q6, .ref q7, .ref q8, .int 0])), (q9, .inr (4, [.null, .null, .null, .int 0]))] H := hP
  have hD : va_D A [(h0, .inr (2, [.ref q1, .null, .null, .null, .null, .null, .null, .int 0, .int 0, .long 0, .int 0, .int 0])), (q1, .inr (3, [.ref q2, .ref q3, .ref q4, .ref q5, .ref q6, .ref q7, .ref q8, .int 0])), (q9, .inr (4, [.null, .null, .null, .int 0]))] := hD
  refine W.widen (k := 10) (n := 632) (by omega) (by omega) ?_
  refine lv_dup hx hb d_Ex_init_19 rfl ?_
  refine gk_back (wr := [(h0, .inr (2, [.ref q1, .null, .null, .null, .null, .null, .null, .int 0, .int 0, .long 0, .int 0, .int 0])), (q1, .inr (3, [.ref q2, .ref q3, .ref q4, .ref q5, .ref q6, .ref q7, .ref q8, .int 0]))]) (gk_runI (As := []) (rest := [.ref q9, .ref h0]) X (c_Ro_init l E q9 H.size) ok_Ro_init (Or.inr nk_3) k_246 rfl rfl hP hD hS [2] rfl rfl hl.1 rfl (Nat.le_of_ble_eq_true rfl) d_Ex_init_20 ⟨(Nat.le_of_ble_eq_true rfl), (Nat.le_of_ble_eq_true rfl)⟩ ⟨(Nat.le_of_ble_eq_true rfl), (Nat.le_of_ble_eq_true rfl)⟩) hP hD hS X.2.2.2.2.2.2.2.1 [2] [0, 1] rfl rfl rfl (by decide) (fun r w H locs hB hP hD hS => ?_)
  obtain ⟨q10, q11, q12, rfl, rfl⟩ := hB
  have hP : va_P E.1 gk_cl [(h0, .inr (2, [.ref q1, .null, .null, .null, .null, .null, .null, .int 0, .int 0, .long 0, .int 0, .int 0])), (q1, .inr (3, [.ref q2, .ref q3, .ref q4, .ref q5, .ref q6, .ref q7, .ref q8, .int 0])), (q9, .inr (4, [.ref q10, .ref q11, .ref q12, .int 0]))] H := hP
  have hD : va_D A [(h0, .inr (2, [.ref q1, .null, .null, .null, .null, .null, .null, .int 0, .int 0, .long 0, .int 0, .int 0])), (q1, .inr (3, [.ref q2, .ref q3, .ref q4, .ref q5, .ref q6, .ref q7, .ref q8, .int 0])), (q9, .inr (4, [.ref q10, .ref q11, .ref q12, .int 0]))] := hD
  refine W.widen (k := 13) (n := 888) (by omega) (by omega) ?_
  refine gk_put (b := h0) (ci := 2) (v := .ref q9) (ty := t_Ex 1) (ws' := [(h0, .inr (2, [.ref q1, .ref q9, .null, .null, .null, .null, .null, .int 0, .int 0, .long 0, .int 0, .int 0])), (q1, .inr (3, [.ref q2, .ref q3, .ref q4, .ref q5, .ref q6, .ref q7, .ref q8, .int 0])), (q9, .inr (4, [.ref q10, .ref q11, .ref q12, .int 0]))]) X in_Ex t_Ex t_Ex_ok n_Ex hP hD hS 0 rfl rfl 1 (by decide) k_266 (Or.inr ⟨rfl, rfl, rfl⟩) (t_Ex_ok 1 (by decide)) rfl rfl (Nat.le_of_ble_eq_true rfl) d_Ex_init_23 rfl (fun H locs hP hD hS => ?_)
  refine lv_aload_n hx hb d_Ex_init_26 rfl (lv_at hl 0 rfl) ?_
  refine gk_new (ci := 4) (fs := df_Ro) X in_Ro t_Ro t_Ro_ok k_243 k_244 k_101 hP hD hS rfl df_Ro_ok (Nat.le_of_ble_eq_true rfl) (Nat.le_of_ble_eq_true rfl) d_Ex_init_27 (fun q13 H hP hD hS => ?_)
  have hP : va_P E.1 gk_cl [(h0, .inr (2, [.ref q1, .ref q9, .null, .null, .null, .null, .null, .int 0, .int 0, .long 0, .int 0, .int 0])), (q1, .inr (3, [.ref q2, .ref q3, .ref q4, .ref q5, .ref q6, .ref q7, .ref q8, .int 0])), (q9, .inr (4, [.ref q10, .ref q11, .ref q12, .int 0])), (q13, .inr (4, [.null, .null, .null, .int 0]))] H := hP
  have hD : va_D A [(h0, .inr (2, [.ref q1, .ref q9, .null, .null, .null, .null, .null, .int 0, .int 0, .long 0, .int 0, .int 0])), (q1, .inr (3, [.ref q2, .ref q3, .ref q4, .ref q5, .ref q6, .ref q7, .ref q8, .int 0])), (q9, .inr (4, [.ref q10, .ref q11, .ref q12, .int 0])), (q13, .inr (4, [.null, .null, .null, .int 0]))] := hD
  refine W.widen (k := 14) (n := 892) (by omega) (by omega) ?_
  refine lv_dup hx hb d_Ex_init_30 rfl ?_
  refine gk_back (wr := [(h0, .inr (2, [.ref q1, .ref q9, .null, .null, .null, .null, .null, .int 0, .int 0, .long 0, .int 0, .int 0])), (q1, .inr (3, [.ref q2, .ref q3, .ref q4, .ref q5, .ref q6, .ref q7, .ref q8, .int 0])), (q9, .inr (4, [.ref q10, .ref q11, .ref q12, .int 0]))]) (gk_runI (As := []) (rest := [.ref q13, .ref h0]) X (c_Ro_init l E q13 H.size) ok_Ro_init (Or.inr nk_3) k_246 rfl rfl hP hD hS [3] rfl rfl hl.1 rfl (Nat.le_of_ble_eq_true rfl) d_Ex_init_31 ⟨(Nat.le_of_ble_eq_true rfl), (Nat.le_of_ble_eq_true rfl)⟩ ⟨(Nat.le_of_ble_eq_true rfl), (Nat.le_of_ble_eq_true rfl)⟩) hP hD hS X.2.2.2.2.2.2.2.1 [3] [0, 1, 2] rfl rfl rfl (by decide) (fun r w H locs hB hP hD hS => ?_)
  obtain ⟨q14, q15, q16, rfl, rfl⟩ := hB
  have hP : va_P E.1 gk_cl [(h0, .inr (2, [.ref q1, .ref q9, .null, .null, .null, .null, .null, .int 0, .int 0, .long 0, .int 0, .int 0])), (q1, .inr (3, [.ref q2, .ref q3, .ref q4, .ref q5, .ref q6, .ref q7, .ref q8, .int 0])), (q9, .inr (4, [.ref q10, .ref q11, .ref q12, .int 0])), (q13, .inr (4, [.ref q14, .ref q15, .ref q16, .int 0]))] H := hP
  have hD : va_D A [(h0, .inr (2, [.ref q1, .ref q9, .null, .null, .null, .null, .null, .int 0, .int 0, .long 0, .int 0, .int 0])), (q1, .inr (3, [.ref q2, .ref q3, .ref q4, .ref q5, .ref q6, .ref q7, .ref q8, .int 0])), (q9, .inr (4, [.ref q10, .ref q11, .ref q12, .int 0])), (q13, .inr (4, [.ref q14, .ref q15, .ref q16, .int 0]))] := hD
  refine W.widen (k := 17) (n := 1148) (by omega) (by omega) ?_
  refine gk_put (b := h0) (ci := 2) (v := .ref q13) (ty := t_Ex 2) (ws' := [(h0, .inr (2, [.ref q1, .ref q9, .ref q13, .null, .null, .null, .null, .int 0, .int 0, .long 0, .int 0, .int 0])), (q1, .inr (3, [.ref q2, .ref q3, .ref q4, .ref q5, .ref q6, .ref q7, .ref q8, .int 0])), (q9, .inr (4, [.ref q10, .ref q11, .ref q12, .int 0])), (q13, .inr (4, [.ref q14, .ref q15, .ref q16, .int 0]))]) X in_Ex t_Ex t_Ex_ok n_Ex hP hD hS 0 rfl rfl 2 (by decide) k_267 (Or.inr ⟨rfl, rfl, rfl⟩) (t_Ex_ok 2 (by decide)) rfl rfl (Nat.le_of_ble_eq_true rfl) d_Ex_init_34 rfl (fun H locs hP hD hS => ?_)
  refine lv_aload_n hx hb d_Ex_init_37 rfl (lv_at hl 0 rfl) ?_
  refine gk_new (ci := 5) (fs := df_Al) X in_Al t_Al t_Al_ok k_263 k_150 k_94 hP hD hS rfl df_Al_ok (Nat.le_of_ble_eq_true rfl) (Nat.le_of_ble_eq_true rfl) d_Ex_init_38 (fun q17 H hP hD hS => ?_)
  have hP : va_P E.1 gk_cl [(h0, .inr (2, [.ref q1, .ref q9, .ref q13, .null, .null, .null, .null, .int 0, .int 0, .long 0, .int 0, .int 0])), (q1, .inr (3, [.ref q2, .ref q3, .ref q4, .ref q5, .ref q6, .ref q7, .ref q8, .int 0])), (q9, .inr (4, [.ref q10, .ref q11, .ref q12, .int 0])), (q13, .inr (4, [.ref q14, .ref q15, .ref q16, .int 0])), (q17, .inr (5, [.int 0, .null, .int 0]))] H := hP
  have hD : va_D A [(h0, .inr (2, [.ref q1, .ref q9, .ref q13, .null, .null, .null, .null, .int 0, .int 0, .long 0, .int 0, .int 0])), (q1, .inr (3, [.ref q2, .ref q3, .ref q4, .ref q5, .ref q6, .ref q7, .ref q8, .int 0])), (q9, .inr (4, [.ref q10, .ref q11, .ref q12, .int 0])), (q13, .inr (4, [.ref q14, .ref q15, .ref q16, .int 0])), (q17, .inr (5, [.int 0, .null, .int 0]))] := hD
  refine W.widen (k := 18) (n := 1151) (by omega) (by omega) ?_
  refine lv_dup hx hb d_Ex_init_41 rfl ?_
  refine gk_back (wr := [(h0, .inr (2, [.ref q1, .ref q9, .ref q13, .null, .null, .null, .null, .int 0, .int 0, .long 0, .int 0, .int 0])), (q1, .inr (3, [.ref q2, .ref q3, .ref q4, .ref q5, .ref q6, .ref q7, .ref q8, .int 0])), (q9, .inr (4, [.ref q10, .ref q11, .ref q12, .int 0])), (q13, .inr (4, [.ref q14, .ref q15, .ref q16, .int 0]))]) (gk_runI (As := []) (rest := [.ref q17, .ref h0]) X (c_Al_init l E q17 H.size) ok_Al_init (Or.inl k_264) k_152 rfl rfl hP hD hS [4] rfl rfl hl.1 rfl (Nat.le_of_ble_eq_true rfl) d_Ex_init_42 ⟨(Nat.le_of_ble_eq_true rfl), (Nat.le_of_ble_eq_true rfl)⟩ ⟨(Nat.le_of_ble_eq_true rfl), (Nat.le_of_ble_eq_true rfl)⟩) hP hD hS X.2.2.2.2.2.2.2.1 [4] [0, 1, 2, 3] rfl rfl rfl (by decide) (fun r w H locs hB hP hD hS => ?_)
  obtain ⟨rfl, rfl⟩ := hB
  have hP : va_P E.1 gk_cl [(h0, .inr (2, [.ref q1, .ref q9, .ref q13, .null, .null, .null, .null, .int 0, .int 0, .long 0, .int 0, .int 0])), (q1, .inr (3, [.ref q2, .ref q3, .ref q4, .ref q5, .ref q6, .ref q7, .ref q8, .int 0])), (q9, .inr (4, [.ref q10, .ref q11, .ref q12, .int 0])), (q13, .inr (4, [.ref q14, .ref q15, .ref q16, .int 0])), (q17, .inr (5, [.int 0, .ref E.2.2, .int 0]))] H := hP
  have hD : va_D A [(h0, .inr (2, [.ref q1, .ref q9, .ref q13, .null, .null, .null, .null, .int 0, .int 0, .long 0, .int 0, .int 0])), (q1, .inr (3, [.ref q2, .ref q3, .ref q4, .ref q5, .ref q6, .ref q7, .ref q8, .int 0])), (q9, .inr (4, [.ref q10, .ref q11, .ref q12, .int 0])), (q13, .inr (4, [.ref q14, .ref q15, .ref q16, .int 0])), (q17, .inr (5, [.int 0, .ref E.2.2, .int 0]))] := hD
  refine W.widen (k := 18) (n := 1151) (by omega) (by omega) ?_
  refine gk_put (b := h0) (ci := 2) (v := .ref q17) (ty := t_Ex 3) (ws' := [(h0, .inr (2, [.ref q1, .ref q9, .ref q13, .ref q17, .null, .null, .null, .int 0, .int 0, .long 0, .int 0, .int 0])), (q1, .inr (3, [.ref q2, .ref q3, .ref q4, .ref q5, .ref q6, .ref q7, .ref q8, .int 0])), (q9, .inr (4, [.ref q10, .ref q11, .ref q12, .int 0])), (q13, .inr (4, [.ref q14, .ref q15, .ref q16, .int 0])), (q17, .inr (5, [.int 0, .ref E.2.2, .int 0]))]) X in_Ex t_Ex t_Ex_ok n_Ex hP hD hS 0 rfl rfl 3 (by decide) k_268 (Or.inr ⟨rfl, rfl, rfl⟩) (t_Ex_ok 3 (by decide)) rfl rfl (Nat.le_of_ble_eq_true rfl) d_Ex_init_45 rfl (fun H locs hP hD hS => ?_)
  refine lv_aload_n hx hb d_Ex_init_48 rfl (lv_at hl 0 rfl) ?_
  refine gk_new (ci := 5) (fs := df_Al) X in_Al t_Al t_Al_ok k_263 k_150 k_94 hP hD hS rfl df_Al_ok (Nat.le_of_ble_eq_true rfl) (Nat.le_of_ble_eq_true rfl) d_Ex_init_49 (fun q18 H hP hD hS => ?_)
  have hP : va_P E.1 gk_cl [(h0, .inr (2, [.ref q1, .ref q9, .ref q13, .ref q17, .null, .null, .null, .int 0, .int 0, .long 0, .int 0, .int 0])), (q1, .inr (3, [.ref q2, .ref q3, .ref q4, .ref q5, .ref q6, .ref q7, .ref q8, .int 0])), (q9, .inr (4, [.ref q10, .ref q11, .ref q12, .int 0])), (q13, .inr (4, [.ref q14, .ref q15, .ref q16, .int 0])), (q17, .inr (5, [.int 0, .ref E.2.2, .int 0])), (q18, .inr (5, [.int 0, .null, .int 0]))] H := hP
  have hD : va_D A [(h0, .inr (2, [.ref q1, .ref q9, .ref q13, .ref q17, .null, .null, .null, .int 0, .int 0, .long 0, .int 0, .int 0])), (q1, .inr (3, [.ref q2, .ref q3, .ref q4, .ref q5, .ref q6, .ref q7, .ref q8, .int 0])), (q9, .inr (4, [.ref q10, .ref q11, .ref q12, .int 0])), (q13, .inr (4, [.ref q14, .ref q15, .ref q16, .int 0])), (q17, .inr (5, [.int 0, .ref E.2.2, .int 0])), (q18, .inr (5, [.int 0, .null, .int 0]))] := hD
  refine W.widen (k := 19) (n := 1154) (by omega) (by omega) ?_
  refine lv_dup hx hb d_Ex_init_52 rfl ?_
  refine gk_back (wr := [(h0, .inr (2, [.ref q1, .ref q9, .ref q13, .ref q17, .null, .null, .null, .int 0, .int 0, .long 0, .int 0, .int 0])), (q1, .inr (3, [.ref q2, .ref q3, .ref q4, .ref q5, .ref q6, .ref q7, .ref q8, .int 0])), (q9, .inr (4, [.ref q10, .ref q11, .ref q12, .int 0])), (q13, .inr (4, [.ref q14, .ref q15, .ref q16, .int 0])), (q17, .inr (5, [.int 0, .ref E.2.2, .int 0]))]) (gk_runI (As := []) (rest := [.ref q18, .ref h0]) X (c_Al_init l E q18 H.size) ok_Al_init (Or.inl k_264) k_152 rfl rfl hP hD hS [5] rfl rfl hl.1 rfl (Nat.le_of_ble_eq_true rfl) d_Ex_init_53 ⟨(Nat.le_of_ble_eq_true rfl), (Nat.le_of_ble_eq_true rfl)⟩ ⟨(Nat.le_of_ble_eq_true rfl), (Nat.le_of_ble_eq_true rfl)⟩) hP hD hS X.2.2.2.2.2.2.2.1 [5] [0, 1, 2, 3, 4] rfl rfl rfl (by decide) (fun r w H locs hB hP hD hS => ?_)
  obtain ⟨rfl, rfl⟩ := hB
  have hP : va_P E.1 gk_cl [(h0, .inr (2, [.ref q1, .ref q9, .ref q13, .ref q17, .null, .null, .null, .int 0, .int 0, .long 0, .int 0, .int 0])), (q1, .inr (3, [.ref q2, .ref q3, .ref q4, .ref q5, .ref q6, .ref q7, .ref q8, .int 0])), (q9, .inr (4, [.ref q10, .ref q11, .ref q12, .int 0])), (q13, .inr (4, [.ref q14, .ref q15, .ref q16, .int 0])), (q17, .inr (5, [.int 0, .ref E.2.2, .int 0])), (q18, .inr (5, [.int 0, .ref E.2.2, .int 0]))] H := hP
  have hD : va_D A [(h0, .inr (2, [.ref q1, .ref q9, .ref q13, .ref q17, .null, .null, .null, .int 0, .int 0, .long 0, .int 0, .int 0])), (q1, .inr (3, [.ref q2, .ref q3, .ref q4, .ref q5, .ref q6, .ref q7, .ref q8, .int 0])), (q9, .inr (4, [.ref q10, .ref q11, .ref q12, .int 0])), (q13, .inr (4, [.ref q14, .ref q15, .ref q16, .int 0])), (q17, .inr (5, [.int 0, .ref E.2.2, .int 0])), (q18, .inr (5, [.int 0, .ref E.2.2, .int 0]))] := hD
  refine W.widen (k := 19) (n := 1154) (by omega) (by omega) ?_
  refine gk_put (b := h0) (ci := 2) (v := .ref q18) (ty := t_Ex 4) (ws' := [(h0, .inr (2, [.ref q1, .ref q9, .ref q13, .ref q17, .ref q18, .null, .null, .int 0, .int 0, .long 0, .int 0, .int 0])), (q1, .inr (3, [.ref q2, .ref q3, .ref q4, .ref q5, .ref q6, .ref q7, .ref q8, .int 0])), (q9, .inr (4, [.ref q10, .ref q11, .ref q12, .int 0])), (q13, .inr (4, [.ref q14, .ref q15, .ref q16, .int 0])), (q17, .inr (5, [.int 0, .ref E.2.2, .int 0])), (q18, .inr (5, [.int 0, .ref E.2.2, .int 0]))]) X in_Ex t_Ex t_Ex_ok n_Ex hP hD hS 0 rfl rfl 4 (by decide) k_269 (Or.inr ⟨rfl, rfl, rfl⟩) (t_Ex_ok 4 (by decide)) rfl rfl (Nat.le_of_ble_eq_true rfl) d_Ex_init_56 rfl (fun H locs hP hD hS => ?_)
  refine lv_aload_n hx hb d_Ex_init_59 rfl (lv_at hl 0 rfl) ?_
  refine gk_new (ci := 5) (fs := df_Al) X in_Al t_Al t_Al_ok k_263 k_150 k_94 hP hD hS rfl df_Al_ok (Nat.le_of_ble_eq_true rfl) (Nat.le_of_ble_eq_true rfl) d_Ex_init_60 (fun q19 H hP hD hS => ?_)
  have hP : va_P E.1 gk_cl [(h0, .inr (2, [.ref q1, .ref q9, .ref q13, .ref q17, .ref q18, .null, .null, .int 0, .int 0, .long 0, .int 0, .int 0])), (q1, .inr (3, [.ref q2, .ref q3, .ref q4, .ref q5, .ref q6, .ref q7, .ref q8, .int 0])), (q9, .inr (4, [.ref q10, .ref q11, .ref q12, .int 0])), (q13, .inr (4, [.ref q14, .ref q15, .ref q16, .int 0])), (q17, .inr (5, [.int 0, .ref E.2.2, .int 0])), (q18, .inr (5, [.int 0, .ref E.2.2, .int 0])), (q19, .inr (5, [.int 0, .null, .int 0]))] H := hP
  have hD : va_D A [(h0, .inr (2, [.ref q1, .ref q9, .ref q13, .ref q17, .ref q18, .null, .null, .int 0, .int 0, .long 0, .int 0, .int 0])), (q1, .inr (3, [.ref q2, .ref q3, .ref q4, .ref q5, .ref q6, .ref q7, .ref q8, .int 0])), (q9, .inr (4, [.ref q10, .ref q11, .ref q12, .int 0])), (q13, .inr (4, [.ref q14, .ref q15, .ref q16, .int 0])), (q17, .inr (5, [.int 0, .ref E.2.2, .int 0])), (q18, .inr (5, [.int 0, .ref E.2.2, .int 0])), (q19, .inr (5, [.int 0, .null, .int 0]))] := hD
  refine W.widen (k := 20) (n := 1157) (by omega) (by omega) ?_
  refine lv_dup hx hb d_Ex_init_63 rfl ?_
  refine gk_back (wr := [(h0, .inr (2, [.ref q1, .ref q9, .ref q13, .ref q17, .ref q18, .null, .null, .int 0, .int 0, .long 0, .int 0, .int 0])), (q1, .inr (3, [.ref q2, .ref q3, .ref q4, .ref q5, .ref q6, .ref q7, .ref q8, .int 0])), (q9, .inr (4, [.ref q10, .ref q11, .ref q12, .int 0])), (q13, .inr (4, [.ref q14, .ref q15, .ref q16, .int 0])), (q17, .inr (5, [.int 0, .ref E.2.2, .int 0])), (q18, .inr (5, [.int 0, .ref E.2.2, .int 0]))]) (gk_runI (As := []) (rest := [.ref q19, .ref h0]) X (c_Al_init l E q19 H.size) ok_Al_init (Or.inl k_264) k_152 rfl rfl hP hD hS [6] rfl rfl hl.1 rfl (Nat.le_of_ble_eq_true rfl) d_Ex_init_64 ⟨(Nat.le_of_ble_eq_true rfl), (Nat.le_of_ble_eq_true rfl)⟩ ⟨(Nat.le_of_ble_eq_true rfl), (Nat.le_of_ble_eq_true rfl)⟩) hP hD hS X.2.2.2.2.2.2.2.1 [6] [0, 1, 2, 3, 4, 5] rfl rfl rfl (by decide) (fun r w H locs hB hP hD hS => ?_)
  obtain ⟨rfl, rfl⟩ := hB
  have hP : va_P E.1 gk_cl [(h0, .inr (2, [.ref q1, .ref q9, .ref q13, .ref q17, .ref q18, .null, .null, .int 0, .int 0, .long 0, .int 0, .int 0])), (q1, .inr (3, [.ref q2, .ref q3, .ref q4, .ref q5, .ref q6, .ref q7, .ref q8, .int 0])), (q9, .inr (4, [.ref q10, .ref q11, .ref q12, .int 0])), (q13, .inr (4, [.ref q14, .ref q15, .ref q16, .int 0])), (q17, .inr (5, [.int 0, .ref E.2.2, .int 0])), (q18, .inr (5, [.int 0, .ref E.2.2, .int 0])), (q19, .inr (5, [.int 0, .ref E.2.2, .int 0]))] H := hP
  have hD : va_D A [(h0, .inr (2, [.ref q1, .ref q9, .ref q13, .ref q17, .ref q18, .null, .null, .int 0, .int 0, .long 0, .int 0, .int 0])), (q1, .inr (3, [.ref q2, .ref q3, .ref q4, .ref q5, .ref q6, .ref q7, .ref q8, .int 0])), (q9, .inr (4, [.ref q10, .ref q11, .ref q12, .int 0])), (q13, .inr (4, [.ref q14, .ref q15, .ref q16, .int 0])), (q17, .inr (5, [.int 0, .ref E.2.2, .int 0])), (q18, .inr (5, [.int 0, .ref E.2.2, .int 0])), (q19, .inr (5, [.int 0, .ref E.2.2, .int 0]))] := hD
  refine W.widen (k := 20) (n := 1157) (by omega) (by omega) ?_
  refine gk_put (b := h0) (ci := 2) (v := .ref q19) (ty := t_Ex 5) (ws' := [(h0, .inr (2, [.ref q1, .ref q9, .ref q13, .ref q17, .ref q18, .ref q19, .null, .int 0, .int 0, .long 0, .int 0, .int 0])), (q1, .inr (3, [.ref q2, .ref q3, .ref q4, .ref q5, .ref q6, .ref q7, .ref q8, .int 0])), (q9, .inr (4, [.ref q10, .ref q11, .ref q12, .int 0])), (q13, .inr (4, [.ref q14, .ref q15, .ref q16, .int 0])), (q17, .inr (5, [.int 0, .ref E.2.2, .int 0])), (q18, .inr (5, [.int 0, .ref E.2.2, .int 0])), (q19, .inr (5, [.int 0, .ref E.2.2, .int 0]))]) X in_Ex t_Ex t_Ex_ok n_Ex hP hD hS 0 rfl rfl 5 (by decide) k_270 (Or.inl rfl) (t_Ex_ok 5 (by decide)) rfl rfl (Nat.le_of_ble_eq_true rfl) d_Ex_init_67 rfl (fun H locs hP hD hS => ?_)
  refine lv_aload_n hx hb d_Ex_init_70 rfl (lv_at hl 0 rfl) ?_
  refine gk_new (ci := 5) (fs := df_Al) X in_Al t_Al t_Al_ok k_263 k_150 k_94 hP hD hS rfl df_Al_ok (Nat.le_of_ble_eq_true rfl) (Nat.le_of_ble_eq_true rfl) d_Ex_init_71 (fun q20 H hP hD hS => ?_)
  have hP : va_P E.1 gk_cl [(h0, .inr (2, [.ref q1, .ref q9, .ref q13, .ref q17, .ref q18, .ref q19, .null, .int 0, .int 0, .long 0, .int 0, .int 0])), (q1, .inr (3, [.ref q2, .ref q3, .ref q4, .ref q5, .ref q6, .ref q7, .ref q8, .int 0])), (q9, .inr (4, [.ref q10, .ref q11, .ref q12, .int 0])), (q13, .inr (4, [.ref q14, .ref q15, .ref q16, .int 0])), (q17, .inr (5, [.int 0, .ref E.2.2, .int 0])), (q18, .inr (5, [.int 0, .ref E.2.2, .int 0])), (q19, .inr (5, [.int 0, .ref E.2.2, .int 0])), (q20, .inr (5, [.int 0, .null, .int 0]))] H := hP
  have hD : va_D A [(h0, .inr (2, [.ref q1, .ref q9, .ref q13, .ref q17, .ref q18, .ref q19, .null, .int 0, .int 0, .long 0, .int 0, .int 0])), (q1, .inr (3, [.ref q2, .ref q3, .ref q4, .ref q5, .ref q6, .ref q7, .ref q8, .int 0])), (q9, .inr (4, [.ref q10, .ref q11, .ref q12, .int 0])), (q13, .inr (4, [.ref q14, .ref q15, .ref q16, .int 0])), (q17, .inr (5, [.int 0, .ref E.2.2, .int 0])), (q18, .inr (5, [.int 0, .ref E.2.2, .int 0])), (q19, .inr (5, [.int 0, .ref E.2.2, .int 0])), (q20, .inr (5, [.int 0, .null, .int 0]))] := hD
  refine W.widen (k := 21) (n := 1160) (by omega) (by omega) ?_
  refine lv_dup hx hb d_Ex_init_74 rfl ?_
  refine gk_back (wr := [(h0, .inr (2, [.ref q1, .ref q9, .ref q13, .ref q17, .ref q18, .ref q19, .null, .int 0, .int 0, .long 0, .int 0, .int 0])), (q1, .inr (3, [.ref q2, .ref q3, .ref q4, .ref q5, .ref q6, .ref q7, .ref q8, .int 0])), (q9, .inr (4, [.ref q10, .ref q11, .ref q12, .int 0])), (q13, .inr (4, [.ref q14, .ref q15, .ref q16, .int 0])), (q17, .inr (5, [.int 0, .ref E.2.2, .int 0])), (q18, .inr (5, [.int 0, .ref E.2.2, .int 0])), (q19, .inr (5, [.int 0, .ref E.2.2, .int 0]))]) (gk_runI (As := []) (rest := [.ref q20, .ref h0]) X (c_Al_init l E q20 H.size) ok_Al_init (Or.inl k_264) k_152 rfl rfl hP hD hS [7] rfl rfl hl.1 rfl (Nat.le_of_ble_eq_true rfl) d_Ex_init_75 ⟨(Nat.le_of_ble_eq_true rfl), (Nat.le_of_ble_eq_true rfl)⟩ ⟨(Nat.le_of_ble_eq_true rfl), (Nat.le_of_ble_eq_true rfl)⟩) hP hD hS X.2.2.2.2.2.2.2.1 [7] [0, 1, 2, 3, 4, 5, 6] rfl rfl rfl (by decide) (fun r w H locs hB hP hD hS => ?_)
  obtain ⟨rfl, rfl⟩ := hB
  have hP : va_P E.1 gk_cl [(h0, .inr (2, [.ref q1, .ref q9, .ref q13, .ref q17, .ref q18, .ref q19, .null, .int 0, .int 0, .long 0, .int 0, .int 0])), (q1, .inr (3, [.ref q2, .ref q3, .ref q4, .ref q5, .ref q6, .ref q7, .ref q8, .int 0])), (q9, .inr (4, [.ref q10, .ref q11, .ref q12, .int 0])), (q13, .inr (4, [.ref q14, .ref q15, .ref q16, .int 0])), (q17, .inr (5, [.int 0, .ref E.2.2, .int 0])), (q18, .inr (5, [.int 0, .ref E.2.2, .int 0])), (q19, .inr (5, [.int 0, .ref E.2.2, .int 0])), (q20, .inr (5, [.int 0, .ref E.2.2, .int 0]))] H := hP
  have hD : va_D A [(h0, .inr (2, [.ref q1, .ref q9, .ref q13, .ref q17, .ref q18, .ref q19, .null, .int 0, .int 0, .long 0, .int 0, .int 0])), (q1, .inr (3, [.ref q2, .ref q3, .ref q4, .ref q5, .ref q6, .ref q7, .ref q8, .int 0])), (q9, .inr (4, [.ref q10, .ref q11, .ref q12, .int 0])), (q13, .inr (4, [.ref q14, .ref q15, .ref q16, .int 0])), (q17, .inr (5, [.int 0, .ref E.2.2, .int 0])), (q18, .inr (5, [.int 0, .ref E.2.2, .int 0])), (q19, .inr (5, [.int 0, .ref E.2.2, .int 0])), (q20, .inr (5, [.int 0, .ref E.2.2, .int 0]))] := hD
  refine W.widen (k := 21) (n := 1160) (by omega) (by omega) ?_
  refine gk_put (b := h0) (ci := 2) (v := .ref q20) (ty := t_Ex 6) (ws' := [(h0, .inr (2, [.ref q1, .ref q9, .ref q13, .ref q17, .ref q18, .ref q19, .ref q20, .int 0, .int 0, .long 0, .int 0, .int 0])), (q1, .inr (3, [.ref q2, .ref q3, .ref q4, .ref q5, .ref q6, .ref q7, .ref q8, .int 0])), (q9, .inr (4, [.ref q10, .ref q11, .ref q12, .int 0])), (q13, .inr (4, [.ref q14, .ref q15, .ref q16, .int 0])), (q17, .inr (5, [.int 0, .ref E.2.2, .int 0])), (q18, .inr (5, [.int 0, .ref E.2.2, .int 0])), (q19, .inr (5, [.int 0, .ref E.2.2, .int 0])), (q20, .inr (5, [.int 0, .ref E.2.2, .int 0]))]) X in_Ex t_Ex t_Ex_ok n_Ex hP hD hS 0 rfl rfl 6 (by decide) k_271 (Or.inl rfl) (t_Ex_ok 6 (by decide)) rfl rfl (Nat.le_of_ble_eq_true rfl) d_Ex_init_78 rfl (fun H locs hP hD hS => ?_)
  have hP9 := hP.sub (ws' := [(h0, .inr (2, [.ref q1, .ref q9, .ref q13, .ref q17, .ref q18, .ref q19, .ref q20, .int 0, .int 0, .long 0, .int 0, .int 0])), (q1, .inr (3, [.ref q2, .ref q3, .ref q4, .ref q5, .ref q6, .ref q7, .ref q8, .int 0]))]) [0, 1] rfl
  have hD9 := hD.sub (ws' := [(h0, .inr (2, [.ref q1, .ref q9, .ref q13, .ref q17, .ref q18, .ref q19, .ref q20, .int 0, .int 0, .long 0, .int 0, .int 0])), (q1, .inr (3, [.ref q2, .ref q3, .ref q4, .ref q5, .ref q6, .ref q7, .ref q8, .int 0]))]) [0, 1] (by decide) rfl
  refine W.widen (k := 21) (n := 1160) (Nat.le_of_ble_eq_true rfl) (Nat.le_of_ble_eq_true rfl) ?_
  exact W.vret hx hb hr (gk_q hP9 hD9 hS ⟨q1, q9, q13, q17, q18, q19, q20, q2, q3, q4, q5, q6, q7, q8, rfl, rfl⟩) hS.2.2 d_Ex_init_81

set_option maxHeartbeats 4000000 in
set_option maxRecDepth 100000 in
theorem c_Jt_init (l : Launch) (E : gk_E) (h0 : Nat) (sz : Nat) : gk_M l E y_Jt_init b_Jt_init 1 (none) 5 29 4300 [.ref h0] [(h0, .inr (0, [.null, .null, .null, .null, .int 0, .null]))] sz (fun r w => ∃ q1 : Nat, ∃ q2 : Nat, ∃ q7 : Nat, ∃ q8 : Nat, ∃ q3 : Nat, ∃ q4 : Nat, ∃ q5 : Nat, ∃ q6 : Nat, ∃ q9 : Nat, ∃ q10 : Nat, ∃ q11 : Nat, ∃ q12 : Nat, ∃ q13 : Nat, ∃ q14 : Nat, ∃ q15 : Nat, ∃ q16 : Nat, ∃ q17 : Nat, ∃ q18 : Nat, ∃ q19 : Nat, ∃ q20 : Nat, ∃ q21 : Nat, ∃ q22 : Nat, r = none ∧ w = [(h0, .inr (0, [.ref q1, .ref q2, .ref q7, .ref q8, .int 0, .null])), (q1, .inl (E.2.1 1, 3000, .inl (fun _ => 0))), (q2, .inr (1, [.ref q3, .ref q4, .ref q5, .ref q6, .int 0])), (q7, .inr (5, [.int 0, .ref E.2.2, .int 0])), (q8, .inr (2, [.ref q9, .ref q10, .ref q11, .ref q12, .ref q13, .ref q14, .ref q15, .int 0, .int 0, .long 0, .int 0, .int 0])), (q9, .inr (3, [.ref q16, .ref q17, .ref q18, .ref q19, .ref q20, .ref q21, .ref q22, .int 0]))]) := by
  refine gk_met (by decide) (Nat.le_of_ble_eq_true rfl) ?_
  intro p e s m below meth c A ls X hl hP hD hS
  have hx := X.1
  have hb := X.2.1
  have hown := X.2.2.2.1
  have hts := X.2.2.2.2.1
  have hZ := X.2.2.2.2.2.2.1
  have hr := X.2.2.2.2.2.2.2.2.1
  have hlocks : meth.locks = false := X.2.2.2.2.2.2.2.2.2.1
  have hl : lv_has ls 1 [(0, .ref h0)] := hl
  refine lv_aload_n hx hb d_Jt_init_0 rfl (lv_at hl 0 rfl) ?_
  refine gk_oi X k_122 k_123 k_124 hl.1 d_Jt_init_1 (Nat.le_of_ble_eq_true rfl) (Nat.le_of_ble_eq_true rfl) ?_
  refine lv_aload_n hx hb d_Jt_init_4 rfl (lv_at hl 0 rfl) ?_
  refine lv_sipush (v := 3000) hx hb d_Jt_init_5 (by decide) ?_
  refine gk_newa (atype := .byte) (N' := 3000) (a0 := (3000, .inl (fun _ => 0))) X k_147 (ty := .byte) rfl 1 rfl hP hD hS (fun _ => rfl) (by decide) (by decide) (by decide) (Nat.le_of_ble_eq_true rfl) (Nat.le_of_ble_eq_true rfl) d_Jt_init_8 (fun q1 H hP hD hS => ?_)
  have hP : va_P E.1 gk_cl [(h0, .inr (0, [.null, .null, .null, .null, .int 0, .null])), (q1, .inl (E.2.1 1, 3000, .inl (fun _ => 0)))] H := hP
  have hD : va_D A [(h0, .inr (0, [.null, .null, .null, .null, .int 0, .null])), (q1, .inl (E.2.1 1, 3000, .inl (fun _ => 0)))] := hD
  refine W.widen (k := 1) (n := 3000) (by omega) (by omega) ?_
  refine gk_put (b := h0) (ci := 0) (v := .ref q1) (ty := t_Jt 0) (ws' := [(h0, .inr (0, [.ref q1, .null, .null, .null, .int 0, .null])), (q1, .inl (E.2.1 1, 3000, .inl (fun _ => 0)))]) X in_Jt t_Jt t_Jt_ok n_Jt hP hD hS 0 rfl rfl 0 (by decide) k_302 (Or.inr ⟨rfl, rfl, rfl⟩) (t_Jt_ok 0 (by decide)) rfl rfl (Nat.le_of_ble_eq_true rfl) d_Jt_init_10 rfl (fun H locs hP hD hS => ?_)
  refine lv_aload_n hx hb d_Jt_init_13 rfl (lv_at hl 0 rfl) ?_
  refine gk_new (ci := 1) (fs := df_Fa) X in_Fa t_Fa t_Fa_ok k_125 k_126 k_91 hP hD hS rfl df_Fa_ok (Nat.le_of_ble_eq_true rfl) (Nat.le_of_ble_eq_true rfl) d_Jt_init_14 (fun q2 H hP hD hS => ?_)
  have hP : va_P E.1 gk_cl [(h0, .inr (0, [.ref q1, .null, .null, .null, .int 0, .null])), (q1, .inl (E.2.1 1, 3000, .inl (fun _ => 0))), (q2, .inr (1, [.null, .null, .null, .null, .int 0]))] H := hP
  have hD : va_D A [(h0, .inr (0, [.ref q1, .null, .null, .null, .int 0, .null])), (q1, .inl (E.2.1 1, 3000, .inl (fun _ => 0))), (q2, .inr (1, [.null, .null, .null, .null, .int 0]))] := hD
  refine W.widen (k := 2) (n := 3005) (by omega) (by omega) ?_
  refine lv_dup hx hb d_Jt_init_17 rfl ?_
  refine gk_back (wr := [(h0, .inr (0, [.ref q1, .null, .null, .null, .int 0, .null])), (q1, .inl (E.2.1 1, 3000, .inl (fun _ => 0)))]) (gk_runI (As := []) (rest := [.ref q2, .ref h0]) X (c_Fa_init l E q2 H.size) ok_Fa_init (Or.inr nk_0) k_128 rfl rfl hP hD hS [2] rfl rfl hl.1 rfl (Nat.le_of_ble_eq_true rfl) d_Jt_init_18 ⟨(Nat.le_of_ble_eq_true rfl), (Nat.le_of_ble_eq_true rfl)⟩ ⟨(Nat.le_of_ble_eq_true rfl), (Nat.le_of_ble_eq_true rfl)⟩) hP hD hS X.2.2.2.2.2.2.2.1 [2] [0, 1] rfl rfl rfl (by decide) (fun r w H locs hB hP hD hS => ?_)
  obtain ⟨q3, q4, q5, q6, rfl, rfl⟩ := hB
  have hP : va_P E.1 gk_cl [(h0, .inr (0, [.ref q1, .null, .null, .null, .int 0, .null])), (q1, .inl (E.2.1 1, 3000, .inl (fun _ => 0))), (q2, .inr (1, [.ref q3, .ref q4, .ref q5, .ref q6, .int 0]))] H := hP
  have hD : va_D A [(h0, .inr (0, [.ref q1, .null, .null, .null, .int 0, .null])), (q1, .inl (E.2.1 1, 3000, .inl (fun _ => 0))), (q2, .inr (1, [.ref q3, .ref q4, .ref q5, .ref q6, .int 0]))] := hD
  refine W.widen (k := 6) (n := 3125) (by omega) (by omega) ?_
  refine gk_put (b := h0) (ci := 0) (v := .ref q2) (ty := t_Jt 1) (ws' := [(h0, .inr (0, [.ref q1, .ref q2, .null, .null, .int 0, .null])), (q1, .inl (E.2.1 1, 3000, .inl (fun _ => 0))), (q2, .inr (1, [.ref q3, .ref q4, .ref q5, .ref q6, .int 0]))]) X in_Jt t_Jt t_Jt_ok n_Jt hP hD hS 0 rfl rfl 1 (by decide) k_303 (Or.inr ⟨rfl, rfl, rfl⟩) (t_Jt_ok 1 (by decide)) rfl rfl (Nat.le_of_ble_eq_true rfl) d_Jt_init_21 rfl (fun H locs hP hD hS => ?_)
  refine lv_aload_n hx hb d_Jt_init_24 rfl (lv_at hl 0 rfl) ?_
  refine gk_new (ci := 5) (fs := df_Al) X in_Al t_Al t_Al_ok k_149 k_150 k_94 hP hD hS rfl df_Al_ok (Nat.le_of_ble_eq_true rfl) (Nat.le_of_ble_eq_true rfl) d_Jt_init_25 (fun q7 H hP hD hS => ?_)
  have hP : va_P E.1 gk_cl [(h0, .inr (0, [.ref q1, .ref q2, .null, .null, .int 0, .null])), (q1, .inl (E.2.1 1, 3000, .inl (fun _ => 0))), (q2, .inr (1, [.ref q3, .ref q4, .ref q5, .ref q6, .int 0])), (q7, .inr (5, [.int 0, .null, .int 0]))] H := hP
  have hD : va_D A [(h0, .inr (0, [.ref q1, .ref q2, .null, .null, .int 0, .null])), (q1, .inl (E.2.1 1, 3000, .inl (fun _ => 0))), (q2, .inr (1, [.ref q3, .ref q4, .ref q5, .ref q6, .int 0])), (q7, .inr (5, [.int 0, .null, .int 0]))] := hD
  refine W.widen (k := 7) (n := 3128) (by omega) (by omega) ?_
  refine lv_dup hx hb d_Jt_init_28 rfl ?_
  refine gk_back (wr := [(h0, .inr (0, [.ref q1, .ref q2, .null, .null, .int 0, .null])), (q1, .inl (E.2.1 1, 3000, .inl (fun _ => 0))), (q2, .inr (1, [.ref q3, .ref q4, .ref q5, .ref q6, .int 0]))]) (gk_runI (As := []) (rest := [.ref q7, .ref h0]) X (c_Al_init l E q7 H.size) ok_Al_init (Or.inl k_151) k_152 rfl rfl hP hD hS [3] rfl rfl hl.1 rfl (Nat.le_of_ble_eq_true rfl) d_Jt_init_29 ⟨(Nat.le_of_ble_eq_true rfl), (Nat.le_of_ble_eq_true rfl)⟩ ⟨(Nat.le_of_ble_eq_true rfl), (Nat.le_of_ble_eq_true rfl)⟩) hP hD hS X.2.2.2.2.2.2.2.1 [3] [0, 1, 2] rfl rfl rfl (by decide) (fun r w H locs hB hP hD hS => ?_)
  obtain ⟨rfl, rfl⟩ := hB
  have hP : va_P E.1 gk_cl [(h0, .inr (0, [.ref q1, .ref q2, .null, .null, .int 0, .null])), (q1, .inl (E.2.1 1, 3000, .inl (fun _ => 0))), (q2, .inr (1, [.ref q3, .ref q4, .ref q5, .ref q6, .int 0])), (q7, .inr (5, [.int 0, .ref E.2.2, .int 0]))] H := hP
  have hD : va_D A [(h0, .inr (0, [.ref q1, .ref q2, .null, .null, .int 0, .null])), (q1, .inl (E.2.1 1, 3000, .inl (fun _ => 0))), (q2, .inr (1, [.ref q3, .ref q4, .ref q5, .ref q6, .int 0])), (q7, .inr (5, [.int 0, .ref E.2.2, .int 0]))] := hD
  refine W.widen (k := 7) (n := 3128) (by omega) (by omega) ?_
  refine gk_put (b := h0) (ci := 0) (v := .ref q7) (ty := t_Jt 2) (ws' := [(h0, .inr (0, [.ref q1, .ref q2, .ref q7, .null, .int 0, .null])), (q1, .inl (E.2.1 1, 3000, .inl (fun _ => 0))), (q2, .inr (1, [.ref q3, .ref q4, .ref q5, .ref q6, .int 0])), (q7, .inr (5, [.int 0, .ref E.2.2, .int 0]))]) X in_Jt t_Jt t_Jt_ok n_Jt hP hD hS 0 rfl rfl 2 (by decide) k_304 (Or.inr ⟨rfl, rfl, rfl⟩) (t_Jt_ok 2 (by decide)) rfl rfl (Nat.le_of_ble_eq_true rfl) d_Jt_init_32 rfl (fun H locs hP hD hS => ?_)
  refine lv_aload_n hx hb d_Jt_init_35 rfl (lv_at hl 0 rfl) ?_
  refine gk_new (ci := 2) (fs := df_Ex) X in_Ex t_Ex t_Ex_ok k_175 k_176 k_95 hP hD hS rfl df_Ex_ok (Nat.le_of_ble_eq_true rfl) (Nat.le_of_ble_eq_true rfl) d_Jt_init_36 (fun q8 H hP hD hS => ?_)
  have hP : va_P E.1 gk_cl [(h0, .inr (0, [.ref q1, .ref q2, .ref q7, .null, .int 0, .null])), (q1, .inl (E.2.1 1, 3000, .inl (fun _ => 0))), (q2, .inr (1, [.ref q3, .ref q4, .ref q5, .ref q6, .int 0])), (q7, .inr (5, [.int 0, .ref E.2.2, .int 0])), (q8, .inr (2, [.null, .null, .null, .null, .null, .null, .null, .int 0, .int 0, .long 0, .int 0, .int 0]))] H := hP
  have hD : va_D A [(h0, .inr (0, [.ref q1, .ref q2, .ref q7, .null, .int 0, .null])), (q1, .inl (E.2.1 1, 3000, .inl (fun _ => 0))), (q2, .inr (1, [.ref q3, .ref q4, .ref q5, .ref q6, .int 0])), (q7, .inr (5, [.int 0, .ref E.2.2, .int 0])), (q8, .inr (2, [.null, .null, .null, .null, .null, .null, .null, .int 0, .int 0, .long 0, .int 0, .int 0]))] := hD
  refine W.widen (k := 8) (n := 3140) (by omega) (by omega) ?_
  refine lv_dup hx hb d_Jt_init_39 rfl ?_
  refine gk_back (wr := [(h0, .inr (0, [.ref q1, .ref q2, .ref q7, .null, .int 0, .null])), (q1, .inl (E.2.1 1, 3000, .inl (fun _ => 0))), (q2, .inr (1, [.ref q3, .ref q4, .ref q5, .ref q6, .int 0])), (q7, .inr (5, [.int 0, .ref E.2.2, .int 0]))]) (gk_runI (As := []) (rest := [.ref q8, .ref h0]) X (c_Ex_init l E q8 H.size) ok_Ex_init (Or.inr nk_1) k_178 rfl rfl hP hD hS [4] rfl rfl hl.1 rfl (Nat.le_of_ble_eq_true rfl) d_Jt_init_40 ⟨(Nat.le_of_ble_eq_true rfl), (Nat.le_of_ble_eq_true rfl)⟩ ⟨(Nat.le_of_ble_eq_true rfl), (Nat.le_of_ble_eq_true rfl)⟩) hP hD hS X.2.2.2.2.2.2.2.1 [4] [0, 1, 2, 3] rfl rfl rfl (by decide) (fun r w H locs hB hP hD hS => ?_)
  obtain ⟨q9, q10, q11, q12, q13, q14, q15, q16, q17, q18, q19, q20, q21, q22, rfl, rfl⟩ := hB
  have hP : va_P E.1 gk_cl [(h0, .inr (0, [.ref q1, .ref q2, .ref q7, .null, .int 0, .null])), (q1, .inl (E.2.1 1, 3000, .inl (fun _ => 0))), (q2, .inr (1, [.ref q3, .ref q4, .ref q5, .ref q6, .int 0])), (q7, .inr (5, [.int 0, .ref E.2.2, .int 0])), (q8, .inr (2, [.ref q9, .ref q10, .ref q11, .ref q12, .ref q13, .ref q14, .ref q15, .int 0, .int 0, .long 0, .int 0, .int 0])), (q9, .inr (3, [.ref q16, .ref q17, .ref q18, .ref q19, .ref q20, .ref q21, .ref q22, .int 0]))] H := hP
  have hD : va_D A [(h0, .inr (0, [.ref q1, .ref q2, .ref q7, .null, .int 0, .null])), (q1, .inl (E.2.1 1, 3000, .inl (fun _ => 0))), (q2, .inr (1, [.ref q3, .ref q4, .ref q5, .ref q6, .int 0])), (q7, .inr (5, [.int 0, .ref E.2.2, .int 0])), (q8, .inr (2, [.ref q9, .ref q10, .ref q11, .ref q12, .ref q13, .ref q14, .ref q15, .int 0, .int 0, .long 0, .int 0, .int 0])), (q9, .inr (3, [.ref q16, .ref q17, .ref q18, .ref q19, .ref q20, .ref q21, .ref q22, .int 0]))] := hD
  refine W.widen (k := 29) (n := 4300) (by omega) (by omega) ?_
  refine gk_put (b := h0) (ci := 0) (v := .ref q8) (ty := t_Jt 3) (ws' := [(h0, .inr (0, [.ref q1, .ref q2, .ref q7, .ref q8, .int 0, .null])), (q1, .inl (E.2.1 1, 3000, .inl (fun _ => 0))), (q2, .inr (1, [.ref q3, .ref q4, .ref q5, .ref q6, .int 0])), (q7, .inr (5, [.int 0, .ref E.2.2, .int 0])), (q8, .inr (2, [.ref q9, .ref q10, .ref q11, .ref q12, .ref q13, .ref q14, .ref q15, .int 0, .int 0, .long 0, .int 0, .int 0])), (q9, .inr (3, [.ref q16, .ref q17, .ref q18, .ref q19, .ref q20, .ref q21, .ref q22, .int 0]))]) X in_Jt t_Jt t_Jt_ok n_Jt hP hD hS 0 rfl rfl 3 (by decide) k_305 (Or.inr ⟨rfl, rfl, rfl⟩) (t_Jt_ok 3 (by decide)) rfl rfl (Nat.le_of_ble_eq_true rfl) d_Jt_init_43 rfl (fun H locs hP hD hS => ?_)
  have hP9 := hP.sub (ws' := [(h0, .inr (0, [.ref q1, .ref q2, .ref q7, .ref q8, .int 0, .null])), (q1, .inl (E.2.1 1, 3000, .inl (fun _ => 0))), (q2, .inr (1, [.ref q3, .ref q4, .ref q5, .ref q6, .int 0])), (q7, .inr (5, [.int 0, .ref E.2.2, .int 0])), (q8, .inr (2, [.ref q9, .ref q10, .ref q11, .ref q12, .ref q13, .ref q14, .ref q15, .int 0, .int 0, .long 0, .int 0, .int 0])), (q9, .inr (3, [.ref q16, .ref q17, .ref q18, .ref q19, .ref q20, .ref q21, .ref q22, .int 0]))]) [0, 1, 2, 3, 4, 5] rfl
  have hD9 := hD.sub (ws' := [(h0, .inr (0, [.ref q1, .ref q2, .ref q7, .ref q8, .int 0, .null])), (q1, .inl (E.2.1 1, 3000, .inl (fun _ => 0))), (q2, .inr (1, [.ref q3, .ref q4, .ref q5, .ref q6, .int 0])), (q7, .inr (5, [.int 0, .ref E.2.2, .int 0])), (q8, .inr (2, [.ref q9, .ref q10, .ref q11, .ref q12, .ref q13, .ref q14, .ref q15, .int 0, .int 0, .long 0, .int 0, .int 0])), (q9, .inr (3, [.ref q16, .ref q17, .ref q18, .ref q19, .ref q20, .ref q21, .ref q22, .int 0]))]) [0, 1, 2, 3, 4, 5] (by decide) rfl
  refine W.widen (k := 29) (n := 4300) (Nat.le_of_ble_eq_true rfl) (Nat.le_of_ble_eq_true rfl) ?_
  exact W.vret hx hb hr (gk_q hP9 hD9 hS ⟨q1, q2, q7, q8, q3, q4, q5, q6, q9, q10, q11, q12, q13, q14, q15, q16, q17, q18, q19, q20, q21, q22, rfl, rfl⟩) hS.2.2 d_Jt_init_46
end
